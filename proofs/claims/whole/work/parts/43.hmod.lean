abbrev MMk : Type := Fn × Fn × Fn × Fn × Int32 × Fn × Fn × Fn × Int32 × Int32 × Int32 × Int32 × Int32 × Int32
def inMM (G : Gm) (Ω : Om) (y : Nat) (q : MMk) : Prop := inMod G Ω y (q.1) (q.2.1) (q.2.2.1) (q.2.2.2.1) (q.2.2.2.2.1) (q.2.2.2.2.2.1) (q.2.2.2.2.2.2.1) (q.2.2.2.2.2.2.2.1) (q.2.2.2.2.2.2.2.2.1) (q.2.2.2.2.2.2.2.2.2.1) (q.2.2.2.2.2.2.2.2.2.2.1) (q.2.2.2.2.2.2.2.2.2.2.2.1) (q.2.2.2.2.2.2.2.2.2.2.2.2.1) (q.2.2.2.2.2.2.2.2.2.2.2.2.2)
def okMM (q : MMk) : Prop := ToldInv (q.1) ∧ (0 ≤ (q.2.2.2.2.1).toInt ∧ (q.2.2.2.2.1).toInt ≤ 6) ∧ (0 ≤ ((q.2.2.1) (72 : Int32).toNatClampNeg).toInt ∧ ((q.2.2.1) (72 : Int32).toNatClampNeg).toInt ≤ 20) ∧ (0 ≤ (q.2.2.2.2.2.2.2.2.1).toInt ∧ (q.2.2.2.2.2.2.2.2.1).toInt ≤ 160)
def h_type (q : MMk) (x1 : Int32) : Int32 × MMk := ((f_X9_type (q.2.2.2.2.2.2.2.1) (q.2.2.2.2.2.2.2.2.1) x1).1, (q.1, q.2.1, q.2.2.1, q.2.2.2.1, q.2.2.2.2.1, q.2.2.2.2.2.1, q.2.2.2.2.2.2.1, ((f_X9_type (q.2.2.2.2.2.2.2.1) (q.2.2.2.2.2.2.2.2.1) x1).2.1), ((f_X9_type (q.2.2.2.2.2.2.2.1) (q.2.2.2.2.2.2.2.2.1) x1).2.2), q.2.2.2.2.2.2.2.2.2.1, q.2.2.2.2.2.2.2.2.2.2.1, q.2.2.2.2.2.2.2.2.2.2.2.1, q.2.2.2.2.2.2.2.2.2.2.2.2.1, q.2.2.2.2.2.2.2.2.2.2.2.2.2))
set_option maxHeartbeats 2000000 in
theorem n_type (l : Launch) (G : Gm) (A : Nat → Prop) (Ω : Om) (y : Nat) (q : MMk) (x1 : Int32) (h : inMM G Ω y q) (ok : okMM q) : Met l yX9_type (wz yX9_type cX9_type 2 (some .int)) ({ frames := 1, cells := 0, slots := 0, locals := 22 } : Room) (va_Pc [.ref y, .int x1] (oS G A Ω)) (va_Qi (fun (r : Int32) (Ω1 : Om) => r = (h_type q x1).1 ∧ inMM G Ω1 y (h_type q x1).2 ∧ ∀ z : Nat, (z < y ∨ y + 8 ≤ z) → Ω1 z = Ω z) (oB G A) A) 0 0 A := by
  refine Met.post (c_X9_type l G A Ω y (q.1) (q.2.1) (q.2.2.1) (q.2.2.2.1) (q.2.2.2.2.1) (q.2.2.2.2.2.1) (q.2.2.2.2.2.2.1) (q.2.2.2.2.2.2.2.1) (q.2.2.2.2.2.2.2.2.1) (q.2.2.2.2.2.2.2.2.2.1) (q.2.2.2.2.2.2.2.2.2.2.1) (q.2.2.2.2.2.2.2.2.2.2.2.1) (q.2.2.2.2.2.2.2.2.2.2.2.2.1) (q.2.2.2.2.2.2.2.2.2.2.2.2.2) x1 ok.2.2.2 h) (va_Qi.post ?_)
  intro r Ω1 h1
  obtain ⟨hr, w, hF⟩ := h1
  exact ⟨hr, w, hF⟩

def h_clear (q : MMk) : Int32 × MMk := ((f_X9_clear (q.2.2.2.2.2.2.2.2.1)).1, (q.1, q.2.1, q.2.2.1, q.2.2.2.1, q.2.2.2.2.1, q.2.2.2.2.2.1, q.2.2.2.2.2.2.1, q.2.2.2.2.2.2.2.1, ((f_X9_clear (q.2.2.2.2.2.2.2.2.1)).2), q.2.2.2.2.2.2.2.2.2.1, q.2.2.2.2.2.2.2.2.2.2.1, q.2.2.2.2.2.2.2.2.2.2.2.1, q.2.2.2.2.2.2.2.2.2.2.2.2.1, q.2.2.2.2.2.2.2.2.2.2.2.2.2))
set_option maxHeartbeats 2000000 in
theorem n_clear (l : Launch) (G : Gm) (A : Nat → Prop) (Ω : Om) (y : Nat) (q : MMk) (h : inMM G Ω y q) (ok : okMM q) : Met l yX9_clear (wz yX9_clear cX9_clear 2 (some .int)) ({ frames := 0, cells := 0, slots := 0, locals := 0 } : Room) (va_Pc [.ref y] (oS G A Ω)) (va_Qi (fun (r : Int32) (Ω1 : Om) => r = (h_clear q).1 ∧ inMM G Ω1 y (h_clear q).2 ∧ ∀ z : Nat, (z < y ∨ y + 8 ≤ z) → Ω1 z = Ω z) (oB G A) A) 0 0 A := by
  refine Met.post (c_X9_clear l G A Ω y (q.1) (q.2.1) (q.2.2.1) (q.2.2.2.1) (q.2.2.2.2.1) (q.2.2.2.2.2.1) (q.2.2.2.2.2.2.1) (q.2.2.2.2.2.2.2.1) (q.2.2.2.2.2.2.2.2.1) (q.2.2.2.2.2.2.2.2.2.1) (q.2.2.2.2.2.2.2.2.2.2.1) (q.2.2.2.2.2.2.2.2.2.2.2.1) (q.2.2.2.2.2.2.2.2.2.2.2.2.1) (q.2.2.2.2.2.2.2.2.2.2.2.2.2)  h) (va_Qi.post ?_)
  intro r Ω1 h1
  obtain ⟨hr, w, hF⟩ := h1
  exact ⟨hr, w, hF⟩

def h_tells (q : MMk) : Int32 × MMk := ((f_X9_tells (q.1) (q.2.1) (q.2.2.1) (q.2.2.2.2.1) (q.2.2.2.2.2.2.1) (q.2.2.2.2.2.2.2.1) (q.2.2.2.2.2.2.2.2.1)).1, (((f_X9_tells (q.1) (q.2.1) (q.2.2.1) (q.2.2.2.2.1) (q.2.2.2.2.2.2.1) (q.2.2.2.2.2.2.2.1) (q.2.2.2.2.2.2.2.2.1)).2.1), ((f_X9_tells (q.1) (q.2.1) (q.2.2.1) (q.2.2.2.2.1) (q.2.2.2.2.2.2.1) (q.2.2.2.2.2.2.2.1) (q.2.2.2.2.2.2.2.2.1)).2.2.1), ((f_X9_tells (q.1) (q.2.1) (q.2.2.1) (q.2.2.2.2.1) (q.2.2.2.2.2.2.1) (q.2.2.2.2.2.2.2.1) (q.2.2.2.2.2.2.2.2.1)).2.2.2.1), q.2.2.2.1, ((f_X9_tells (q.1) (q.2.1) (q.2.2.1) (q.2.2.2.2.1) (q.2.2.2.2.2.2.1) (q.2.2.2.2.2.2.2.1) (q.2.2.2.2.2.2.2.2.1)).2.2.2.2.1), q.2.2.2.2.2.1, ((f_X9_tells (q.1) (q.2.1) (q.2.2.1) (q.2.2.2.2.1) (q.2.2.2.2.2.2.1) (q.2.2.2.2.2.2.2.1) (q.2.2.2.2.2.2.2.2.1)).2.2.2.2.2.1), q.2.2.2.2.2.2.2.1, ((f_X9_tells (q.1) (q.2.1) (q.2.2.1) (q.2.2.2.2.1) (q.2.2.2.2.2.2.1) (q.2.2.2.2.2.2.2.1) (q.2.2.2.2.2.2.2.2.1)).2.2.2.2.2.2.1), ((f_X9_tells (q.1) (q.2.1) (q.2.2.1) (q.2.2.2.2.1) (q.2.2.2.2.2.2.1) (q.2.2.2.2.2.2.2.1) (q.2.2.2.2.2.2.2.2.1)).2.2.2.2.2.2.2.1), ((f_X9_tells (q.1) (q.2.1) (q.2.2.1) (q.2.2.2.2.1) (q.2.2.2.2.2.2.1) (q.2.2.2.2.2.2.2.1) (q.2.2.2.2.2.2.2.2.1)).2.2.2.2.2.2.2.2.1), ((f_X9_tells (q.1) (q.2.1) (q.2.2.1) (q.2.2.2.2.1) (q.2.2.2.2.2.2.1) (q.2.2.2.2.2.2.2.1) (q.2.2.2.2.2.2.2.2.1)).2.2.2.2.2.2.2.2.2.1), ((f_X9_tells (q.1) (q.2.1) (q.2.2.1) (q.2.2.2.2.1) (q.2.2.2.2.2.2.1) (q.2.2.2.2.2.2.2.1) (q.2.2.2.2.2.2.2.2.1)).2.2.2.2.2.2.2.2.2.2.1), ((f_X9_tells (q.1) (q.2.1) (q.2.2.1) (q.2.2.2.2.1) (q.2.2.2.2.2.2.1) (q.2.2.2.2.2.2.2.1) (q.2.2.2.2.2.2.2.2.1)).2.2.2.2.2.2.2.2.2.2.2)))
set_option maxHeartbeats 2000000 in
theorem n_tells (l : Launch) (G : Gm) (A : Nat → Prop) (Ω : Om) (y : Nat) (q : MMk) (h : inMM G Ω y q) (ok : okMM q) : Met l yX9_tells (wz yX9_tells cX9_tells 3 (some .int)) ({ frames := 7, cells := 0, slots := 0, locals := 158 } : Room) (va_Pc [.ref y] (oS G A Ω)) (va_Qi (fun (r : Int32) (Ω1 : Om) => r = (h_tells q).1 ∧ inMM G Ω1 y (h_tells q).2 ∧ ∀ z : Nat, (z < y ∨ y + 8 ≤ z) → Ω1 z = Ω z) (oB G A) A) 0 0 A := by
  refine Met.post (c_X9_tells l G A Ω y (q.1) (q.2.1) (q.2.2.1) (q.2.2.2.1) (q.2.2.2.2.1) (q.2.2.2.2.2.1) (q.2.2.2.2.2.2.1) (q.2.2.2.2.2.2.2.1) (q.2.2.2.2.2.2.2.2.1) (q.2.2.2.2.2.2.2.2.2.1) (q.2.2.2.2.2.2.2.2.2.2.1) (q.2.2.2.2.2.2.2.2.2.2.2.1) (q.2.2.2.2.2.2.2.2.2.2.2.2.1) (q.2.2.2.2.2.2.2.2.2.2.2.2.2) ok.2.2.2 h) (va_Qi.post ?_)
  intro r Ω1 h1
  obtain ⟨hr, w, hF⟩ := h1
  exact ⟨hr, w, hF⟩

def h_resets (q : MMk) : Int32 × MMk := ((f_X9_resets (q.1) (q.2.2.1) (q.2.2.2.1) (q.2.2.2.2.1)).1, (q.1, q.2.1, ((f_X9_resets (q.1) (q.2.2.1) (q.2.2.2.1) (q.2.2.2.2.1)).2.1), ((f_X9_resets (q.1) (q.2.2.1) (q.2.2.2.1) (q.2.2.2.2.1)).2.2.1), ((f_X9_resets (q.1) (q.2.2.1) (q.2.2.2.1) (q.2.2.2.2.1)).2.2.2), q.2.2.2.2.2.1, q.2.2.2.2.2.2.1, q.2.2.2.2.2.2.2.1, q.2.2.2.2.2.2.2.2.1, q.2.2.2.2.2.2.2.2.2.1, q.2.2.2.2.2.2.2.2.2.2.1, q.2.2.2.2.2.2.2.2.2.2.2.1, q.2.2.2.2.2.2.2.2.2.2.2.2.1, q.2.2.2.2.2.2.2.2.2.2.2.2.2))
set_option maxHeartbeats 2000000 in
theorem n_resets (l : Launch) (G : Gm) (A : Nat → Prop) (Ω : Om) (y : Nat) (q : MMk) (h : inMM G Ω y q) (ok : okMM q) : Met l yX9_resets (wz yX9_resets cX9_resets 2 (some .int)) ({ frames := 2, cells := 0, slots := 0, locals := 42 } : Room) (va_Pc [.ref y] (oS G A Ω)) (va_Qi (fun (r : Int32) (Ω1 : Om) => r = (h_resets q).1 ∧ inMM G Ω1 y (h_resets q).2 ∧ ∀ z : Nat, (z < y ∨ y + 8 ≤ z) → Ω1 z = Ω z) (oB G A) A) 0 0 A := by
  refine Met.post (c_X9_resets l G A Ω y (q.1) (q.2.1) (q.2.2.1) (q.2.2.2.1) (q.2.2.2.2.1) (q.2.2.2.2.2.1) (q.2.2.2.2.2.2.1) (q.2.2.2.2.2.2.2.1) (q.2.2.2.2.2.2.2.2.1) (q.2.2.2.2.2.2.2.2.2.1) (q.2.2.2.2.2.2.2.2.2.2.1) (q.2.2.2.2.2.2.2.2.2.2.2.1) (q.2.2.2.2.2.2.2.2.2.2.2.2.1) (q.2.2.2.2.2.2.2.2.2.2.2.2.2) ok.1 ok.2.1 h) (va_Qi.post ?_)
  intro r Ω1 h1
  obtain ⟨hr, w, hF⟩ := h1
  exact ⟨hr, w, hF⟩

def h_reads (q : MMk) (x1 : Int32) : Int32 × MMk := ((f_X9_reads (q.1) (q.2.2.1) (q.2.2.2.1) (q.2.2.2.2.1) x1).1, (q.1, q.2.1, ((f_X9_reads (q.1) (q.2.2.1) (q.2.2.2.1) (q.2.2.2.2.1) x1).2.1), ((f_X9_reads (q.1) (q.2.2.1) (q.2.2.2.1) (q.2.2.2.2.1) x1).2.2.1), ((f_X9_reads (q.1) (q.2.2.1) (q.2.2.2.1) (q.2.2.2.2.1) x1).2.2.2), q.2.2.2.2.2.1, q.2.2.2.2.2.2.1, q.2.2.2.2.2.2.2.1, q.2.2.2.2.2.2.2.2.1, q.2.2.2.2.2.2.2.2.2.1, q.2.2.2.2.2.2.2.2.2.2.1, q.2.2.2.2.2.2.2.2.2.2.2.1, q.2.2.2.2.2.2.2.2.2.2.2.2.1, q.2.2.2.2.2.2.2.2.2.2.2.2.2))
set_option maxHeartbeats 2000000 in
theorem n_reads (l : Launch) (G : Gm) (A : Nat → Prop) (Ω : Om) (y : Nat) (q : MMk) (x1 : Int32) (h : inMM G Ω y q) (ok : okMM q) : Met l yX9_reads (wz yX9_reads cX9_reads 6 (some .int)) ({ frames := 4, cells := 0, slots := 0, locals := 91 } : Room) (va_Pc [.ref y, .int x1] (oS G A Ω)) (va_Qi (fun (r : Int32) (Ω1 : Om) => r = (h_reads q x1).1 ∧ inMM G Ω1 y (h_reads q x1).2 ∧ ∀ z : Nat, (z < y ∨ y + 8 ≤ z) → Ω1 z = Ω z) (oB G A) A) 0 0 A := by
  refine Met.post (c_X9_reads l G A Ω y (q.1) (q.2.1) (q.2.2.1) (q.2.2.2.1) (q.2.2.2.2.1) (q.2.2.2.2.2.1) (q.2.2.2.2.2.2.1) (q.2.2.2.2.2.2.2.1) (q.2.2.2.2.2.2.2.2.1) (q.2.2.2.2.2.2.2.2.2.1) (q.2.2.2.2.2.2.2.2.2.2.1) (q.2.2.2.2.2.2.2.2.2.2.2.1) (q.2.2.2.2.2.2.2.2.2.2.2.2.1) (q.2.2.2.2.2.2.2.2.2.2.2.2.2) x1 ok.1 ok.2.1 ok.2.2.1 h) (va_Qi.post ?_)
  intro r Ω1 h1
  obtain ⟨hr, w, hF⟩ := h1
  exact ⟨hr, w, hF⟩

def h_writes (q : MMk) (x1 : Int32) (x2 : Int32) : Int32 × MMk := ((f_X9_writes (q.1) (q.2.2.1) (q.2.2.2.1) (q.2.2.2.2.1) x1 x2).1, (q.1, q.2.1, ((f_X9_writes (q.1) (q.2.2.1) (q.2.2.2.1) (q.2.2.2.2.1) x1 x2).2.1), ((f_X9_writes (q.1) (q.2.2.1) (q.2.2.2.1) (q.2.2.2.2.1) x1 x2).2.2.1), ((f_X9_writes (q.1) (q.2.2.1) (q.2.2.2.1) (q.2.2.2.2.1) x1 x2).2.2.2), q.2.2.2.2.2.1, q.2.2.2.2.2.2.1, q.2.2.2.2.2.2.2.1, q.2.2.2.2.2.2.2.2.1, q.2.2.2.2.2.2.2.2.2.1, q.2.2.2.2.2.2.2.2.2.2.1, q.2.2.2.2.2.2.2.2.2.2.2.1, q.2.2.2.2.2.2.2.2.2.2.2.2.1, q.2.2.2.2.2.2.2.2.2.2.2.2.2))
set_option maxHeartbeats 2000000 in
theorem n_writes (l : Launch) (G : Gm) (A : Nat → Prop) (Ω : Om) (y : Nat) (q : MMk) (x1 : Int32) (x2 : Int32) (h : inMM G Ω y q) (ok : okMM q) : Met l yX9_writes (wz yX9_writes cX9_writes 3 (some .int)) ({ frames := 4, cells := 0, slots := 0, locals := 102 } : Room) (va_Pc [.ref y, .int x1, .int x2] (oS G A Ω)) (va_Qi (fun (r : Int32) (Ω1 : Om) => r = (h_writes q x1 x2).1 ∧ inMM G Ω1 y (h_writes q x1 x2).2 ∧ ∀ z : Nat, (z < y ∨ y + 8 ≤ z) → Ω1 z = Ω z) (oB G A) A) 0 0 A := by
  refine Met.post (c_X9_writes l G A Ω y (q.1) (q.2.1) (q.2.2.1) (q.2.2.2.1) (q.2.2.2.2.1) (q.2.2.2.2.2.1) (q.2.2.2.2.2.2.1) (q.2.2.2.2.2.2.2.1) (q.2.2.2.2.2.2.2.2.1) (q.2.2.2.2.2.2.2.2.2.1) (q.2.2.2.2.2.2.2.2.2.2.1) (q.2.2.2.2.2.2.2.2.2.2.2.1) (q.2.2.2.2.2.2.2.2.2.2.2.2.1) (q.2.2.2.2.2.2.2.2.2.2.2.2.2) x1 x2 ok.1 ok.2.1 ok.2.2.1 h) (va_Qi.post ?_)
  intro r Ω1 h1
  obtain ⟨hr, w, hF⟩ := h1
  exact ⟨hr, w, hF⟩

def h_sets (q : MMk) (x1 : Int32) (x2 : Int32) : Int32 × MMk := ((f_X9_sets (q.1) (q.2.2.1) (q.2.2.2.1) (q.2.2.2.2.1) x1 x2).1, (q.1, q.2.1, ((f_X9_sets (q.1) (q.2.2.1) (q.2.2.2.1) (q.2.2.2.2.1) x1 x2).2.1), ((f_X9_sets (q.1) (q.2.2.1) (q.2.2.2.1) (q.2.2.2.2.1) x1 x2).2.2.1), ((f_X9_sets (q.1) (q.2.2.1) (q.2.2.2.1) (q.2.2.2.2.1) x1 x2).2.2.2), q.2.2.2.2.2.1, q.2.2.2.2.2.2.1, q.2.2.2.2.2.2.2.1, q.2.2.2.2.2.2.2.2.1, q.2.2.2.2.2.2.2.2.2.1, q.2.2.2.2.2.2.2.2.2.2.1, q.2.2.2.2.2.2.2.2.2.2.2.1, q.2.2.2.2.2.2.2.2.2.2.2.2.1, q.2.2.2.2.2.2.2.2.2.2.2.2.2))
set_option maxHeartbeats 2000000 in
theorem n_sets (l : Launch) (G : Gm) (A : Nat → Prop) (Ω : Om) (y : Nat) (q : MMk) (x1 : Int32) (x2 : Int32) (h : inMM G Ω y q) (ok : okMM q) : Met l yX9_sets (wz yX9_sets cX9_sets 4 (some .int)) ({ frames := 2, cells := 0, slots := 0, locals := 43 } : Room) (va_Pc [.ref y, .int x1, .int x2] (oS G A Ω)) (va_Qi (fun (r : Int32) (Ω1 : Om) => r = (h_sets q x1 x2).1 ∧ inMM G Ω1 y (h_sets q x1 x2).2 ∧ ∀ z : Nat, (z < y ∨ y + 8 ≤ z) → Ω1 z = Ω z) (oB G A) A) 0 0 A := by
  refine Met.post (c_X9_sets l G A Ω y (q.1) (q.2.1) (q.2.2.1) (q.2.2.2.1) (q.2.2.2.2.1) (q.2.2.2.2.2.1) (q.2.2.2.2.2.2.1) (q.2.2.2.2.2.2.2.1) (q.2.2.2.2.2.2.2.2.1) (q.2.2.2.2.2.2.2.2.2.1) (q.2.2.2.2.2.2.2.2.2.2.1) (q.2.2.2.2.2.2.2.2.2.2.2.1) (q.2.2.2.2.2.2.2.2.2.2.2.2.1) (q.2.2.2.2.2.2.2.2.2.2.2.2.2) x1 x2 ok.1 ok.2.1 h) (va_Qi.post ?_)
  intro r Ω1 h1
  obtain ⟨hr, w, hF⟩ := h1
  exact ⟨hr, w, hF⟩

def h_breaks (q : MMk) (x1 : Int32) (x2 : Int32) : Int32 × MMk := ((f_X9_breaks (q.1) (q.2.2.1) (q.2.2.2.1) (q.2.2.2.2.1) x1 x2).1, (q.1, q.2.1, ((f_X9_breaks (q.1) (q.2.2.1) (q.2.2.2.1) (q.2.2.2.2.1) x1 x2).2.1), ((f_X9_breaks (q.1) (q.2.2.1) (q.2.2.2.1) (q.2.2.2.2.1) x1 x2).2.2.1), ((f_X9_breaks (q.1) (q.2.2.1) (q.2.2.2.1) (q.2.2.2.2.1) x1 x2).2.2.2), q.2.2.2.2.2.1, q.2.2.2.2.2.2.1, q.2.2.2.2.2.2.2.1, q.2.2.2.2.2.2.2.2.1, q.2.2.2.2.2.2.2.2.2.1, q.2.2.2.2.2.2.2.2.2.2.1, q.2.2.2.2.2.2.2.2.2.2.2.1, q.2.2.2.2.2.2.2.2.2.2.2.2.1, q.2.2.2.2.2.2.2.2.2.2.2.2.2))
set_option maxHeartbeats 2000000 in
theorem n_breaks (l : Launch) (G : Gm) (A : Nat → Prop) (Ω : Om) (y : Nat) (q : MMk) (x1 : Int32) (x2 : Int32) (h : inMM G Ω y q) (ok : okMM q) : Met l yX9_breaks (wz yX9_breaks cX9_breaks 4 (some .int)) ({ frames := 2, cells := 0, slots := 0, locals := 43 } : Room) (va_Pc [.ref y, .int x1, .int x2] (oS G A Ω)) (va_Qi (fun (r : Int32) (Ω1 : Om) => r = (h_breaks q x1 x2).1 ∧ inMM G Ω1 y (h_breaks q x1 x2).2 ∧ ∀ z : Nat, (z < y ∨ y + 8 ≤ z) → Ω1 z = Ω z) (oB G A) A) 0 0 A := by
  refine Met.post (c_X9_breaks l G A Ω y (q.1) (q.2.1) (q.2.2.1) (q.2.2.2.1) (q.2.2.2.2.1) (q.2.2.2.2.2.1) (q.2.2.2.2.2.2.1) (q.2.2.2.2.2.2.2.1) (q.2.2.2.2.2.2.2.2.1) (q.2.2.2.2.2.2.2.2.2.1) (q.2.2.2.2.2.2.2.2.2.2.1) (q.2.2.2.2.2.2.2.2.2.2.2.1) (q.2.2.2.2.2.2.2.2.2.2.2.2.1) (q.2.2.2.2.2.2.2.2.2.2.2.2.2) x1 x2 ok.1 ok.2.1 h) (va_Qi.post ?_)
  intro r Ω1 h1
  obtain ⟨hr, w, hF⟩ := h1
  exact ⟨hr, w, hF⟩

def h_undo (q : MMk) : Int32 × MMk := ((f_X9_undo (q.2.2.1) (q.2.2.2.1) (q.2.2.2.2.1)).1, (q.1, q.2.1, ((f_X9_undo (q.2.2.1) (q.2.2.2.1) (q.2.2.2.2.1)).2.1), q.2.2.2.1, ((f_X9_undo (q.2.2.1) (q.2.2.2.1) (q.2.2.2.2.1)).2.2), q.2.2.2.2.2.1, q.2.2.2.2.2.2.1, q.2.2.2.2.2.2.2.1, q.2.2.2.2.2.2.2.2.1, q.2.2.2.2.2.2.2.2.2.1, q.2.2.2.2.2.2.2.2.2.2.1, q.2.2.2.2.2.2.2.2.2.2.2.1, q.2.2.2.2.2.2.2.2.2.2.2.2.1, q.2.2.2.2.2.2.2.2.2.2.2.2.2))
set_option maxHeartbeats 2000000 in
theorem n_undo (l : Launch) (G : Gm) (A : Nat → Prop) (Ω : Om) (y : Nat) (q : MMk) (h : inMM G Ω y q) (ok : okMM q) : Met l yX9_undo (wz yX9_undo cX9_undo 2 (some .int)) ({ frames := 0, cells := 0, slots := 0, locals := 0 } : Room) (va_Pc [.ref y] (oS G A Ω)) (va_Qi (fun (r : Int32) (Ω1 : Om) => r = (h_undo q).1 ∧ inMM G Ω1 y (h_undo q).2 ∧ ∀ z : Nat, (z < y ∨ y + 8 ≤ z) → Ω1 z = Ω z) (oB G A) A) 0 0 A := by
  refine Met.post (c_X9_undo l G A Ω y (q.1) (q.2.1) (q.2.2.1) (q.2.2.2.1) (q.2.2.2.2.1) (q.2.2.2.2.2.1) (q.2.2.2.2.2.2.1) (q.2.2.2.2.2.2.2.1) (q.2.2.2.2.2.2.2.2.1) (q.2.2.2.2.2.2.2.2.2.1) (q.2.2.2.2.2.2.2.2.2.2.1) (q.2.2.2.2.2.2.2.2.2.2.2.1) (q.2.2.2.2.2.2.2.2.2.2.2.2.1) (q.2.2.2.2.2.2.2.2.2.2.2.2.2) ok.2.1 h) (va_Qi.post ?_)
  intro r Ω1 h1
  obtain ⟨hr, w, hF⟩ := h1
  exact ⟨hr, w, hF⟩

def h_field (q : MMk) (x1 : Int32) (x2 : Int32) : Int32 × MMk := ((f_X9_field (q.1) (q.2.2.1) x1 x2), q)
set_option maxHeartbeats 2000000 in
theorem n_field (l : Launch) (G : Gm) (A : Nat → Prop) (Ω : Om) (y : Nat) (q : MMk) (x1 : Int32) (x2 : Int32) (h : inMM G Ω y q) (ok : okMM q) : Met l yX9_field (wz yX9_field cX9_field 3 (some .int)) ({ frames := 2, cells := 0, slots := 0, locals := 43 } : Room) (va_Pc [.ref y, .int x1, .int x2] (oS G A Ω)) (va_Qi (fun (r : Int32) (Ω1 : Om) => r = (h_field q x1 x2).1 ∧ inMM G Ω1 y (h_field q x1 x2).2 ∧ ∀ z : Nat, (z < y ∨ y + 8 ≤ z) → Ω1 z = Ω z) (oB G A) A) 0 0 A := by
  refine Met.post (c_X9_field l G A Ω y (q.1) (q.2.1) (q.2.2.1) (q.2.2.2.1) (q.2.2.2.2.1) (q.2.2.2.2.2.1) (q.2.2.2.2.2.2.1) (q.2.2.2.2.2.2.2.1) (q.2.2.2.2.2.2.2.2.1) (q.2.2.2.2.2.2.2.2.2.1) (q.2.2.2.2.2.2.2.2.2.2.1) (q.2.2.2.2.2.2.2.2.2.2.2.1) (q.2.2.2.2.2.2.2.2.2.2.2.2.1) (q.2.2.2.2.2.2.2.2.2.2.2.2.2) x1 x2 ok.1 h) (va_Qi.post ?_)
  intro r Ω1 h1
  obtain ⟨hr, rfl⟩ := h1
  exact ⟨hr, h, fun _ _ => rfl⟩

def h_register (q : MMk) (x1 : Int32) (x2 : Int32) : Int32 × MMk := ((f_X9_register (q.1) (q.2.2.1) x1 x2), q)
set_option maxHeartbeats 2000000 in
theorem n_register (l : Launch) (G : Gm) (A : Nat → Prop) (Ω : Om) (y : Nat) (q : MMk) (x1 : Int32) (x2 : Int32) (h : inMM G Ω y q) (ok : okMM q) : Met l yX9_register (wz yX9_register cX9_register 3 (some .int)) ({ frames := 2, cells := 0, slots := 0, locals := 43 } : Room) (va_Pc [.ref y, .int x1, .int x2] (oS G A Ω)) (va_Qi (fun (r : Int32) (Ω1 : Om) => r = (h_register q x1 x2).1 ∧ inMM G Ω1 y (h_register q x1 x2).2 ∧ ∀ z : Nat, (z < y ∨ y + 8 ≤ z) → Ω1 z = Ω z) (oB G A) A) 0 0 A := by
  refine Met.post (c_X9_register l G A Ω y (q.1) (q.2.1) (q.2.2.1) (q.2.2.2.1) (q.2.2.2.2.1) (q.2.2.2.2.2.1) (q.2.2.2.2.2.2.1) (q.2.2.2.2.2.2.2.1) (q.2.2.2.2.2.2.2.2.1) (q.2.2.2.2.2.2.2.2.2.1) (q.2.2.2.2.2.2.2.2.2.2.1) (q.2.2.2.2.2.2.2.2.2.2.2.1) (q.2.2.2.2.2.2.2.2.2.2.2.2.1) (q.2.2.2.2.2.2.2.2.2.2.2.2.2) x1 x2 ok.1 h) (va_Qi.post ?_)
  intro r Ω1 h1
  obtain ⟨hr, rfl⟩ := h1
  exact ⟨hr, h, fun _ _ => rfl⟩

def h_alias (q : MMk) (x1 : Int32) (x2 : Int32) : Int32 × MMk := ((f_X9_alias (q.1) x1 x2), q)
set_option maxHeartbeats 2000000 in
theorem n_alias (l : Launch) (G : Gm) (A : Nat → Prop) (Ω : Om) (y : Nat) (q : MMk) (x1 : Int32) (x2 : Int32) (h : inMM G Ω y q) (ok : okMM q) : Met l yX9_alias (wz yX9_alias cX9_alias 3 (some .int)) ({ frames := 1, cells := 0, slots := 0, locals := 22 } : Room) (va_Pc [.ref y, .int x1, .int x2] (oS G A Ω)) (va_Qi (fun (r : Int32) (Ω1 : Om) => r = (h_alias q x1 x2).1 ∧ inMM G Ω1 y (h_alias q x1 x2).2 ∧ ∀ z : Nat, (z < y ∨ y + 8 ≤ z) → Ω1 z = Ω z) (oB G A) A) 0 0 A := by
  refine Met.post (c_X9_alias l G A Ω y (q.1) (q.2.1) (q.2.2.1) (q.2.2.2.1) (q.2.2.2.2.1) (q.2.2.2.2.2.1) (q.2.2.2.2.2.2.1) (q.2.2.2.2.2.2.2.1) (q.2.2.2.2.2.2.2.2.1) (q.2.2.2.2.2.2.2.2.2.1) (q.2.2.2.2.2.2.2.2.2.2.1) (q.2.2.2.2.2.2.2.2.2.2.2.1) (q.2.2.2.2.2.2.2.2.2.2.2.2.1) (q.2.2.2.2.2.2.2.2.2.2.2.2.2) x1 x2 ok.1 h) (va_Qi.post ?_)
  intro r Ω1 h1
  obtain ⟨hr, rfl⟩ := h1
  exact ⟨hr, h, fun _ _ => rfl⟩

def h_at (q : MMk) (x1 : Int32) : Int32 × MMk := ((f_X9_at (q.1) x1), q)
set_option maxHeartbeats 2000000 in
theorem n_at (l : Launch) (G : Gm) (A : Nat → Prop) (Ω : Om) (y : Nat) (q : MMk) (x1 : Int32) (h : inMM G Ω y q) (ok : okMM q) : Met l yX9_at (wz yX9_at cX9_at 2 (some .int)) ({ frames := 2, cells := 0, slots := 0, locals := 42 } : Room) (va_Pc [.ref y, .int x1] (oS G A Ω)) (va_Qi (fun (r : Int32) (Ω1 : Om) => r = (h_at q x1).1 ∧ inMM G Ω1 y (h_at q x1).2 ∧ ∀ z : Nat, (z < y ∨ y + 8 ≤ z) → Ω1 z = Ω z) (oB G A) A) 0 0 A := by
  refine Met.post (c_X9_at l G A Ω y (q.1) (q.2.1) (q.2.2.1) (q.2.2.2.1) (q.2.2.2.2.1) (q.2.2.2.2.2.1) (q.2.2.2.2.2.2.1) (q.2.2.2.2.2.2.2.1) (q.2.2.2.2.2.2.2.2.1) (q.2.2.2.2.2.2.2.2.2.1) (q.2.2.2.2.2.2.2.2.2.2.1) (q.2.2.2.2.2.2.2.2.2.2.2.1) (q.2.2.2.2.2.2.2.2.2.2.2.2.1) (q.2.2.2.2.2.2.2.2.2.2.2.2.2) x1 ok.1 h) (va_Qi.post ?_)
  intro r Ω1 h1
  obtain ⟨hr, rfl⟩ := h1
  exact ⟨hr, h, fun _ _ => rfl⟩

def h_peek (q : MMk) (x1 : Int32) (x2 : Int32) : Int32 × MMk := ((f_X9_peek (q.1) (q.2.2.1) x1 x2), q)
set_option maxHeartbeats 2000000 in
theorem n_peek (l : Launch) (G : Gm) (A : Nat → Prop) (Ω : Om) (y : Nat) (q : MMk) (x1 : Int32) (x2 : Int32) (h : inMM G Ω y q) (ok : okMM q) : Met l yX9_peek (wz yX9_peek cX9_peek 3 (some .int)) ({ frames := 3, cells := 0, slots := 0, locals := 67 } : Room) (va_Pc [.ref y, .int x1, .int x2] (oS G A Ω)) (va_Qi (fun (r : Int32) (Ω1 : Om) => r = (h_peek q x1 x2).1 ∧ inMM G Ω1 y (h_peek q x1 x2).2 ∧ ∀ z : Nat, (z < y ∨ y + 8 ≤ z) → Ω1 z = Ω z) (oB G A) A) 0 0 A := by
  refine Met.post (c_X9_peek l G A Ω y (q.1) (q.2.1) (q.2.2.1) (q.2.2.2.1) (q.2.2.2.2.1) (q.2.2.2.2.2.1) (q.2.2.2.2.2.2.1) (q.2.2.2.2.2.2.2.1) (q.2.2.2.2.2.2.2.2.1) (q.2.2.2.2.2.2.2.2.2.1) (q.2.2.2.2.2.2.2.2.2.2.1) (q.2.2.2.2.2.2.2.2.2.2.2.1) (q.2.2.2.2.2.2.2.2.2.2.2.2.1) (q.2.2.2.2.2.2.2.2.2.2.2.2.2) x1 x2 ok.1 h) (va_Qi.post ?_)
  intro r Ω1 h1
  obtain ⟨hr, rfl⟩ := h1
  exact ⟨hr, h, fun _ _ => rfl⟩

def h_differed (q : MMk) (x1 : Int32) : Int32 × MMk := ((f_X9_differed (q.2.2.1) x1), q)
set_option maxHeartbeats 2000000 in
theorem n_differed (l : Launch) (G : Gm) (A : Nat → Prop) (Ω : Om) (y : Nat) (q : MMk) (x1 : Int32) (h : inMM G Ω y q) (ok : okMM q) : Met l yX9_differed (wz yX9_differed cX9_differed 2 (some .int)) ({ frames := 1, cells := 0, slots := 0, locals := 22 } : Room) (va_Pc [.ref y, .int x1] (oS G A Ω)) (va_Qi (fun (r : Int32) (Ω1 : Om) => r = (h_differed q x1).1 ∧ inMM G Ω1 y (h_differed q x1).2 ∧ ∀ z : Nat, (z < y ∨ y + 8 ≤ z) → Ω1 z = Ω z) (oB G A) A) 0 0 A := by
  refine Met.post (c_X9_differed l G A Ω y (q.1) (q.2.1) (q.2.2.1) (q.2.2.2.1) (q.2.2.2.2.1) (q.2.2.2.2.2.1) (q.2.2.2.2.2.2.1) (q.2.2.2.2.2.2.2.1) (q.2.2.2.2.2.2.2.2.1) (q.2.2.2.2.2.2.2.2.2.1) (q.2.2.2.2.2.2.2.2.2.2.1) (q.2.2.2.2.2.2.2.2.2.2.2.1) (q.2.2.2.2.2.2.2.2.2.2.2.2.1) (q.2.2.2.2.2.2.2.2.2.2.2.2.2) x1  h) (va_Qi.post ?_)
  intro r Ω1 h1
  obtain ⟨hr, rfl⟩ := h1
  exact ⟨hr, h, fun _ _ => rfl⟩

def h_log (q : MMk) (x1 : Int32) (x2 : Int32) : Int32 × MMk := ((f_X9_log (q.2.2.1) x1 x2), q)
set_option maxHeartbeats 2000000 in
theorem n_log (l : Launch) (G : Gm) (A : Nat → Prop) (Ω : Om) (y : Nat) (q : MMk) (x1 : Int32) (x2 : Int32) (h : inMM G Ω y q) (ok : okMM q) : Met l yX9_log (wz yX9_log cX9_log 3 (some .int)) ({ frames := 1, cells := 0, slots := 0, locals := 22 } : Room) (va_Pc [.ref y, .int x1, .int x2] (oS G A Ω)) (va_Qi (fun (r : Int32) (Ω1 : Om) => r = (h_log q x1 x2).1 ∧ inMM G Ω1 y (h_log q x1 x2).2 ∧ ∀ z : Nat, (z < y ∨ y + 8 ≤ z) → Ω1 z = Ω z) (oB G A) A) 0 0 A := by
  refine Met.post (c_X9_log l G A Ω y (q.1) (q.2.1) (q.2.2.1) (q.2.2.2.1) (q.2.2.2.2.1) (q.2.2.2.2.2.1) (q.2.2.2.2.2.2.1) (q.2.2.2.2.2.2.2.1) (q.2.2.2.2.2.2.2.2.1) (q.2.2.2.2.2.2.2.2.2.1) (q.2.2.2.2.2.2.2.2.2.2.1) (q.2.2.2.2.2.2.2.2.2.2.2.1) (q.2.2.2.2.2.2.2.2.2.2.2.2.1) (q.2.2.2.2.2.2.2.2.2.2.2.2.2) x1 x2 ok.2.2.1 h) (va_Qi.post ?_)
  intro r Ω1 h1
  obtain ⟨hr, rfl⟩ := h1
  exact ⟨hr, h, fun _ _ => rfl⟩

def h_suspects (q : MMk) (x1 : Int32) : Int32 × MMk := ((f_X9_suspects (q.1) (q.2.2.1) x1).1, (q.1, q.2.1, ((f_X9_suspects (q.1) (q.2.2.1) x1).2), q.2.2.2.1, q.2.2.2.2.1, q.2.2.2.2.2.1, q.2.2.2.2.2.2.1, q.2.2.2.2.2.2.2.1, q.2.2.2.2.2.2.2.2.1, q.2.2.2.2.2.2.2.2.2.1, q.2.2.2.2.2.2.2.2.2.2.1, q.2.2.2.2.2.2.2.2.2.2.2.1, q.2.2.2.2.2.2.2.2.2.2.2.2.1, q.2.2.2.2.2.2.2.2.2.2.2.2.2))
set_option maxHeartbeats 2000000 in
theorem n_suspects (l : Launch) (G : Gm) (A : Nat → Prop) (Ω : Om) (y : Nat) (q : MMk) (x1 : Int32) (h : inMM G Ω y q) (ok : okMM q) : Met l yX9_suspects (wz yX9_suspects cX9_suspects 5 (some .int)) ({ frames := 5, cells := 0, slots := 0, locals := 127 } : Room) (va_Pc [.ref y, .int x1] (oS G A Ω)) (va_Qi (fun (r : Int32) (Ω1 : Om) => r = (h_suspects q x1).1 ∧ inMM G Ω1 y (h_suspects q x1).2 ∧ ∀ z : Nat, (z < y ∨ y + 8 ≤ z) → Ω1 z = Ω z) (oB G A) A) 0 0 A := by
  refine Met.post (c_X9_suspects l G A Ω y (q.1) (q.2.1) (q.2.2.1) (q.2.2.2.1) (q.2.2.2.2.1) (q.2.2.2.2.2.1) (q.2.2.2.2.2.2.1) (q.2.2.2.2.2.2.2.1) (q.2.2.2.2.2.2.2.2.1) (q.2.2.2.2.2.2.2.2.2.1) (q.2.2.2.2.2.2.2.2.2.2.1) (q.2.2.2.2.2.2.2.2.2.2.2.1) (q.2.2.2.2.2.2.2.2.2.2.2.2.1) (q.2.2.2.2.2.2.2.2.2.2.2.2.2) x1 ok.1 ok.2.2.1 h) (va_Qi.post ?_)
  intro r Ω1 h1
  obtain ⟨hr, w, hF⟩ := h1
  exact ⟨hr, w, hF⟩

def h_clashes (q : MMk) (x1 : Int32) : Int32 × MMk := ((f_X9_clashes (q.1) x1), q)
set_option maxHeartbeats 2000000 in
theorem n_clashes (l : Launch) (G : Gm) (A : Nat → Prop) (Ω : Om) (y : Nat) (q : MMk) (x1 : Int32) (h : inMM G Ω y q) (ok : okMM q) : Met l yX9_clashes (wz yX9_clashes cX9_clashes 7 (some .int)) ({ frames := 1, cells := 0, slots := 0, locals := 22 } : Room) (va_Pc [.ref y, .int x1] (oS G A Ω)) (va_Qi (fun (r : Int32) (Ω1 : Om) => r = (h_clashes q x1).1 ∧ inMM G Ω1 y (h_clashes q x1).2 ∧ ∀ z : Nat, (z < y ∨ y + 8 ≤ z) → Ω1 z = Ω z) (oB G A) A) 0 0 A := by
  refine Met.post (c_X9_clashes l G A Ω y (q.1) (q.2.1) (q.2.2.1) (q.2.2.2.1) (q.2.2.2.2.1) (q.2.2.2.2.2.1) (q.2.2.2.2.2.2.1) (q.2.2.2.2.2.2.2.1) (q.2.2.2.2.2.2.2.2.1) (q.2.2.2.2.2.2.2.2.2.1) (q.2.2.2.2.2.2.2.2.2.2.1) (q.2.2.2.2.2.2.2.2.2.2.2.1) (q.2.2.2.2.2.2.2.2.2.2.2.2.1) (q.2.2.2.2.2.2.2.2.2.2.2.2.2) x1 ok.1 h) (va_Qi.post ?_)
  intro r Ω1 h1
  obtain ⟨hr, rfl⟩ := h1
  exact ⟨hr, h, fun _ _ => rfl⟩

def h_touched (q : MMk) (x1 : Int32) (x2 : Int32) : Int32 × MMk := ((f_X9_touched (q.1) (q.2.2.1) x1 x2).1, (q.1, q.2.1, ((f_X9_touched (q.1) (q.2.2.1) x1 x2).2), q.2.2.2.1, q.2.2.2.2.1, q.2.2.2.2.2.1, q.2.2.2.2.2.2.1, q.2.2.2.2.2.2.2.1, q.2.2.2.2.2.2.2.2.1, q.2.2.2.2.2.2.2.2.2.1, q.2.2.2.2.2.2.2.2.2.2.1, q.2.2.2.2.2.2.2.2.2.2.2.1, q.2.2.2.2.2.2.2.2.2.2.2.2.1, q.2.2.2.2.2.2.2.2.2.2.2.2.2))
set_option maxHeartbeats 2000000 in
theorem n_touched (l : Launch) (G : Gm) (A : Nat → Prop) (Ω : Om) (y : Nat) (q : MMk) (x1 : Int32) (x2 : Int32) (h : inMM G Ω y q) (ok : okMM q) : Met l yX9_touched (wz yX9_touched cX9_touched 3 (some .int)) ({ frames := 5, cells := 0, slots := 0, locals := 124 } : Room) (va_Pc [.ref y, .int x1, .int x2] (oS G A Ω)) (va_Qi (fun (r : Int32) (Ω1 : Om) => r = (h_touched q x1 x2).1 ∧ inMM G Ω1 y (h_touched q x1 x2).2 ∧ ∀ z : Nat, (z < y ∨ y + 8 ≤ z) → Ω1 z = Ω z) (oB G A) A) 0 0 A := by
  refine Met.post (c_X9_touched l G A Ω y (q.1) (q.2.1) (q.2.2.1) (q.2.2.2.1) (q.2.2.2.2.1) (q.2.2.2.2.2.1) (q.2.2.2.2.2.2.1) (q.2.2.2.2.2.2.2.1) (q.2.2.2.2.2.2.2.2.1) (q.2.2.2.2.2.2.2.2.2.1) (q.2.2.2.2.2.2.2.2.2.2.1) (q.2.2.2.2.2.2.2.2.2.2.2.1) (q.2.2.2.2.2.2.2.2.2.2.2.2.1) (q.2.2.2.2.2.2.2.2.2.2.2.2.2) x1 x2 ok.1 h) (va_Qi.post ?_)
  intro r Ω1 h1
  obtain ⟨hr, w, hF⟩ := h1
  exact ⟨hr, w, hF⟩

def h_way (q : MMk) (x1 : Int32) (x2 : Int32) : Int32 × MMk := ((f_X9_way (q.1) (q.2.2.1) x1 x2).1, (q.1, q.2.1, ((f_X9_way (q.1) (q.2.2.1) x1 x2).2), q.2.2.2.1, q.2.2.2.2.1, q.2.2.2.2.2.1, q.2.2.2.2.2.2.1, q.2.2.2.2.2.2.2.1, q.2.2.2.2.2.2.2.2.1, q.2.2.2.2.2.2.2.2.2.1, q.2.2.2.2.2.2.2.2.2.2.1, q.2.2.2.2.2.2.2.2.2.2.2.1, q.2.2.2.2.2.2.2.2.2.2.2.2.1, q.2.2.2.2.2.2.2.2.2.2.2.2.2))
set_option maxHeartbeats 2000000 in
theorem n_way (l : Launch) (G : Gm) (A : Nat → Prop) (Ω : Om) (y : Nat) (q : MMk) (x1 : Int32) (x2 : Int32) (h : inMM G Ω y q) (ok : okMM q) : Met l yX9_way (wz yX9_way cX9_way 4 (some .int)) ({ frames := 5, cells := 0, slots := 0, locals := 124 } : Room) (va_Pc [.ref y, .int x1, .int x2] (oS G A Ω)) (va_Qi (fun (r : Int32) (Ω1 : Om) => r = (h_way q x1 x2).1 ∧ inMM G Ω1 y (h_way q x1 x2).2 ∧ ∀ z : Nat, (z < y ∨ y + 8 ≤ z) → Ω1 z = Ω z) (oB G A) A) 0 0 A := by
  refine Met.post (c_X9_way l G A Ω y (q.1) (q.2.1) (q.2.2.1) (q.2.2.2.1) (q.2.2.2.2.1) (q.2.2.2.2.2.1) (q.2.2.2.2.2.2.1) (q.2.2.2.2.2.2.2.1) (q.2.2.2.2.2.2.2.2.1) (q.2.2.2.2.2.2.2.2.2.1) (q.2.2.2.2.2.2.2.2.2.2.1) (q.2.2.2.2.2.2.2.2.2.2.2.1) (q.2.2.2.2.2.2.2.2.2.2.2.2.1) (q.2.2.2.2.2.2.2.2.2.2.2.2.2) x1 x2 ok.1 h) (va_Qi.post ?_)
  intro r Ω1 h1
  obtain ⟨hr, w, hF⟩ := h1
  exact ⟨hr, w, hF⟩

def h_walk (q : MMk) (x1 : Int32) (x2 : Int32) : Int32 × MMk := ((f_X9_walk (q.1) (q.2.2.1) x1 x2), q)
set_option maxHeartbeats 2000000 in
theorem n_walk (l : Launch) (G : Gm) (A : Nat → Prop) (Ω : Om) (y : Nat) (q : MMk) (x1 : Int32) (x2 : Int32) (h : inMM G Ω y q) (ok : okMM q) : Met l yX9_walk (wz yX9_walk cX9_walk 8 (some .int)) ({ frames := 3, cells := 0, slots := 0, locals := 68 } : Room) (va_Pc [.ref y, .int x1, .int x2] (oS G A Ω)) (va_Qi (fun (r : Int32) (Ω1 : Om) => r = (h_walk q x1 x2).1 ∧ inMM G Ω1 y (h_walk q x1 x2).2 ∧ ∀ z : Nat, (z < y ∨ y + 8 ≤ z) → Ω1 z = Ω z) (oB G A) A) 0 0 A := by
  refine Met.post (c_X9_walk l G A Ω y (q.1) (q.2.1) (q.2.2.1) (q.2.2.2.1) (q.2.2.2.2.1) (q.2.2.2.2.2.1) (q.2.2.2.2.2.2.1) (q.2.2.2.2.2.2.2.1) (q.2.2.2.2.2.2.2.2.1) (q.2.2.2.2.2.2.2.2.2.1) (q.2.2.2.2.2.2.2.2.2.2.1) (q.2.2.2.2.2.2.2.2.2.2.2.1) (q.2.2.2.2.2.2.2.2.2.2.2.2.1) (q.2.2.2.2.2.2.2.2.2.2.2.2.2) x1 x2 ok.1 h) (va_Qi.post ?_)
  intro r Ω1 h1
  obtain ⟨hr, rfl⟩ := h1
  exact ⟨hr, h, fun _ _ => rfl⟩

def h_keep (q : MMk) (x1 : Int32) : Int32 × MMk := ((f_X9_keep (q.2.2.1) (q.2.2.2.2.2.1) (q.2.2.2.2.2.2.1) x1).1, (q.1, q.2.1, q.2.2.1, q.2.2.2.1, q.2.2.2.2.1, ((f_X9_keep (q.2.2.1) (q.2.2.2.2.2.1) (q.2.2.2.2.2.2.1) x1).2.1), ((f_X9_keep (q.2.2.1) (q.2.2.2.2.2.1) (q.2.2.2.2.2.2.1) x1).2.2), q.2.2.2.2.2.2.2.1, q.2.2.2.2.2.2.2.2.1, q.2.2.2.2.2.2.2.2.2.1, q.2.2.2.2.2.2.2.2.2.2.1, q.2.2.2.2.2.2.2.2.2.2.2.1, q.2.2.2.2.2.2.2.2.2.2.2.2.1, q.2.2.2.2.2.2.2.2.2.2.2.2.2))
set_option maxHeartbeats 2000000 in
theorem n_keep (l : Launch) (G : Gm) (A : Nat → Prop) (Ω : Om) (y : Nat) (q : MMk) (x1 : Int32) (h : inMM G Ω y q) (ok : okMM q) : Met l yX9_keep (wz yX9_keep cX9_keep 3 (some .int)) ({ frames := 1, cells := 0, slots := 0, locals := 22 } : Room) (va_Pc [.ref y, .int x1] (oS G A Ω)) (va_Qi (fun (r : Int32) (Ω1 : Om) => r = (h_keep q x1).1 ∧ inMM G Ω1 y (h_keep q x1).2 ∧ ∀ z : Nat, (z < y ∨ y + 8 ≤ z) → Ω1 z = Ω z) (oB G A) A) 0 0 A := by
  refine Met.post (c_X9_keep l G A Ω y (q.1) (q.2.1) (q.2.2.1) (q.2.2.2.1) (q.2.2.2.2.1) (q.2.2.2.2.2.1) (q.2.2.2.2.2.2.1) (q.2.2.2.2.2.2.2.1) (q.2.2.2.2.2.2.2.2.1) (q.2.2.2.2.2.2.2.2.2.1) (q.2.2.2.2.2.2.2.2.2.2.1) (q.2.2.2.2.2.2.2.2.2.2.2.1) (q.2.2.2.2.2.2.2.2.2.2.2.2.1) (q.2.2.2.2.2.2.2.2.2.2.2.2.2) x1  h) (va_Qi.post ?_)
  intro r Ω1 h1
  obtain ⟨hr, w, hF⟩ := h1
  exact ⟨hr, w, hF⟩

def h_back (q : MMk) (x1 : Int32) : Int32 × MMk := ((f_X9_back (q.2.2.1) (q.2.2.2.2.1) (q.2.2.2.2.2.1) (q.2.2.2.2.2.2.1) x1).1, (q.1, q.2.1, ((f_X9_back (q.2.2.1) (q.2.2.2.2.1) (q.2.2.2.2.2.1) (q.2.2.2.2.2.2.1) x1).2.1), q.2.2.2.1, ((f_X9_back (q.2.2.1) (q.2.2.2.2.1) (q.2.2.2.2.2.1) (q.2.2.2.2.2.2.1) x1).2.2), q.2.2.2.2.2.1, q.2.2.2.2.2.2.1, q.2.2.2.2.2.2.2.1, q.2.2.2.2.2.2.2.2.1, q.2.2.2.2.2.2.2.2.2.1, q.2.2.2.2.2.2.2.2.2.2.1, q.2.2.2.2.2.2.2.2.2.2.2.1, q.2.2.2.2.2.2.2.2.2.2.2.2.1, q.2.2.2.2.2.2.2.2.2.2.2.2.2))
set_option maxHeartbeats 2000000 in
theorem n_back (l : Launch) (G : Gm) (A : Nat → Prop) (Ω : Om) (y : Nat) (q : MMk) (x1 : Int32) (h : inMM G Ω y q) (ok : okMM q) : Met l yX9_back (wz yX9_back cX9_back 3 (some .int)) ({ frames := 1, cells := 0, slots := 0, locals := 22 } : Room) (va_Pc [.ref y, .int x1] (oS G A Ω)) (va_Qi (fun (r : Int32) (Ω1 : Om) => r = (h_back q x1).1 ∧ inMM G Ω1 y (h_back q x1).2 ∧ ∀ z : Nat, (z < y ∨ y + 8 ≤ z) → Ω1 z = Ω z) (oB G A) A) 0 0 A := by
  refine Met.post (c_X9_back l G A Ω y (q.1) (q.2.1) (q.2.2.1) (q.2.2.2.1) (q.2.2.2.2.1) (q.2.2.2.2.2.1) (q.2.2.2.2.2.2.1) (q.2.2.2.2.2.2.2.1) (q.2.2.2.2.2.2.2.2.1) (q.2.2.2.2.2.2.2.2.2.1) (q.2.2.2.2.2.2.2.2.2.2.1) (q.2.2.2.2.2.2.2.2.2.2.2.1) (q.2.2.2.2.2.2.2.2.2.2.2.2.1) (q.2.2.2.2.2.2.2.2.2.2.2.2.2) x1  h) (va_Qi.post ?_)
  intro r Ω1 h1
  obtain ⟨hr, w, hF⟩ := h1
  exact ⟨hr, w, hF⟩

def h_count (q : MMk) (x1 : Int32) : Int32 × MMk := ((f_X9_count (q.1) (q.2.2.1) (q.2.2.2.2.1) (q.2.2.2.2.2.2.2.2.1) x1), q)
set_option maxHeartbeats 2000000 in
theorem n_count (l : Launch) (G : Gm) (A : Nat → Prop) (Ω : Om) (y : Nat) (q : MMk) (x1 : Int32) (h : inMM G Ω y q) (ok : okMM q) : Met l yX9_count (wz yX9_count cX9_count 2 (some .int)) ({ frames := 2, cells := 0, slots := 0, locals := 42 } : Room) (va_Pc [.ref y, .int x1] (oS G A Ω)) (va_Qi (fun (r : Int32) (Ω1 : Om) => r = (h_count q x1).1 ∧ inMM G Ω1 y (h_count q x1).2 ∧ ∀ z : Nat, (z < y ∨ y + 8 ≤ z) → Ω1 z = Ω z) (oB G A) A) 0 0 A := by
  refine Met.post (c_X9_count l G A Ω y (q.1) (q.2.1) (q.2.2.1) (q.2.2.2.1) (q.2.2.2.2.1) (q.2.2.2.2.2.1) (q.2.2.2.2.2.2.1) (q.2.2.2.2.2.2.2.1) (q.2.2.2.2.2.2.2.2.1) (q.2.2.2.2.2.2.2.2.2.1) (q.2.2.2.2.2.2.2.2.2.2.1) (q.2.2.2.2.2.2.2.2.2.2.2.1) (q.2.2.2.2.2.2.2.2.2.2.2.2.1) (q.2.2.2.2.2.2.2.2.2.2.2.2.2) x1 ok.1 h) (va_Qi.post ?_)
  intro r Ω1 h1
  obtain ⟨hr, rfl⟩ := h1
  exact ⟨hr, h, fun _ _ => rfl⟩
