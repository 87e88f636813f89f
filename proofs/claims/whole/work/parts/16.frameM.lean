/-! the model's machines lie apart: what a call does to one leaves all else -/
theorem add2 {x y : Int32} (h0 : 0 ≤ x.toInt) (h1 : 0 ≤ y.toInt) (h2 : x.toInt ≤ 100000) (h3 : y.toInt ≤ 100000) : (x + y).toInt = x.toInt + y.toInt := fb_addI (by omega) (by omega)
theorem FR_letIn_L3 {t : Fn} {m r v kd : Int32} (hT : ToldInv t) (hm : 0 ≤ m.toInt ∧ m.toInt ≤ 135) (hr : 0 ≤ r.toInt ∧ r.toInt < 6) {j : Nat} (hj : (j : Int) < m.toInt ∨ m.toInt + 36 ≤ j) : ∀ (n : Nat) (x : Int32) (now : Fn), 0 ≤ x.toInt → f_X9_letIn_L3 t m r v kd n x now j = now j := by
  have k30 : (30 : Int32).toInt = 30 := by decide
  have e1 := add2 (x := m) (y := 30) (by omega) (by omega) (by omega) (by omega)
  have e2 := add2 (x := m + 30) (y := r) (by omega) (by omega) (by omega) (by omega)
  have hT1 := TI_91 hT
  intro n
  induction n with
  | zero => intro x now hx; rw [f_X9_letIn_L3]
  | succ n ih =>
    intro x now hx
    rw [f_X9_letIn_L3]
    split
    · split
      · exact upd_o (ine (by omega) (by omega))
      · rfl
    · rename_i h1
      have i1 : x.toInt < (t (91 : Int32).toNatClampNeg).toInt := rnle h1
      have e3 := rg_inc (x := x) hx (by omega)
      have h2 : 0 ≤ (x + 1).toInt := by omega
      have e4 := add2 (x := m) (y := x) (by omega) (by omega) (by omega) (by omega)
      have hne : j ≠ (m + x).toNatClampNeg := ine (by omega) (by omega)
      simp only [f_X9_letIn_J81, f_X9_letIn_J86, f_X9_letIn_J108, f_X9_letIn_J138]
      repeat' split
      all_goals first | exact ih _ _ h2 | (rw [ih _ _ h2]; exact upd_o hne)
theorem FR_letIn {t : Fn} {m r v kd : Int32} {now : Fn} (hT : ToldInv t) (hm : 0 ≤ m.toInt ∧ m.toInt ≤ 135) (hr : 0 ≤ r.toInt ∧ r.toInt < 6) {j : Nat} (hj : (j : Int) < m.toInt ∨ m.toInt + 36 ≤ j) : f_X9_letIn t now m r v kd j = now j := FR_letIn_L3 hT hm hr hj _ _ _ (by decide)
theorem FR_openGates_L3 {t : Fn} {m r v : Int32} (hT : ToldInv t) (hm : 0 ≤ m.toInt ∧ m.toInt ≤ 135) {j : Nat} (hj : (j : Int) < m.toInt ∨ m.toInt + 36 ≤ j) : ∀ (n : Nat) (x : Int32) (now : Fn), 0 ≤ x.toInt → f_X9_openGates_L3 t m r v n x now j = now j := by
  have k24 : (24 : Int32).toInt = 24 := by decide
  have e1 := add2 (x := m) (y := 24) (by omega) (by omega) (by omega) (by omega)
  have hT1 := TI_90 hT
  intro n
  induction n with
  | zero => intro x now hx; rw [f_X9_openGates_L3]
  | succ n ih =>
    intro x now hx
    rw [f_X9_openGates_L3]
    split
    · rfl
    · rename_i h1
      have i1 : x.toInt < (t (90 : Int32).toNatClampNeg).toInt := rnle h1
      have e3 := rg_inc (x := x) hx (by omega)
      have h2 : 0 ≤ (x + 1).toInt := by omega
      have e4 := add2 (x := m + 24) (y := x) (by omega) (by omega) (by omega) (by omega)
      have hne : j ≠ (m + 24 + x).toNatClampNeg := ine (by omega) (by omega)
      simp only [f_X9_openGates_J105]
      repeat' split
      all_goals first | exact ih _ _ h2 | (rw [ih _ _ h2, upd_o hne] <;> exact FR_letIn hT hm ⟨by omega, by omega⟩ hj)
theorem FR_openGates {t : Fn} {m r v : Int32} {now : Fn} (hT : ToldInv t) (hm : 0 ≤ m.toInt ∧ m.toInt ≤ 135) {j : Nat} (hj : (j : Int) < m.toInt ∨ m.toInt + 36 ≤ j) : f_X9_openGates t now m r v j = now j := FR_openGates_L3 hT hm hj _ _ _ (by decide)
theorem FR_writeTo {t : Fn} {m a v : Int32} {now : Fn} (hT : ToldInv t) (hm : 0 ≤ m.toInt ∧ m.toInt ≤ 135) {j : Nat} (hj : (j : Int) < m.toInt ∨ m.toInt + 36 ≤ j) : f_X9_writeTo t now m a v j = now j := by
  have k24 : (24 : Int32).toInt = 24 := by decide
  have e1 := add2 (x := m) (y := 24) (by omega) (by omega) (by omega) (by omega)
  have g := R_goesTo hT a
  rw [f_X9_writeTo]
  split
  · rfl
  · rename_i h0
    have h0' := rne h0
    rw [show (-9 : Int32).toInt = -9 by decide] at h0'
    have hr := R_registerOf (x := f_X9_goesTo t a) hT (by omega)
    have e2 := add2 (x := m + 24) (y := f_X9_registerOf t (f_X9_goesTo t a)) (by omega) (by omega) (by omega) (by omega)
    simp only [f_X9_writeTo_J73, f_X9_writeTo_J103]
    repeat' split
    all_goals first | rfl | exact upd_o (ine (by omega) (by omega)) | (rw [FR_openGates hT hm hj]; exact FR_letIn hT hm hr hj)
theorem FR_clearRead_L2 {t : Fn} {m r : Int32} (hT : ToldInv t) (hm : 0 ≤ m.toInt ∧ m.toInt ≤ 135) {j : Nat} (hj : (j : Int) < m.toInt ∨ m.toInt + 36 ≤ j) : ∀ (n : Nat) (x : Int32) (now : Fn), 0 ≤ x.toInt → f_X9_clearRead_L2 t m r n x now j = now j := by
  have hT1 := TI_91 hT
  intro n
  induction n with
  | zero => intro x now hx; rw [f_X9_clearRead_L2]
  | succ n ih =>
    intro x now hx
    rw [f_X9_clearRead_L2]
    split
    · rfl
    · rename_i h1
      have i1 : x.toInt < (t (91 : Int32).toNatClampNeg).toInt := rnle h1
      have e3 := rg_inc (x := x) hx (by omega)
      have h2 : 0 ≤ (x + 1).toInt := by omega
      have e4 := add2 (x := m) (y := x) (by omega) (by omega) (by omega) (by omega)
      have hne : j ≠ (m + x).toNatClampNeg := ine (by omega) (by omega)
      repeat' split
      all_goals first | rfl | exact ih _ _ h2 | (rw [ih _ _ h2]; exact upd_o hne)
theorem FR_clearRead {t : Fn} {m r : Int32} {now : Fn} (hT : ToldInv t) (hm : 0 ≤ m.toInt ∧ m.toInt ≤ 135) {j : Nat} (hj : (j : Int) < m.toInt ∨ m.toInt + 36 ≤ j) : f_X9_clearRead t now m r j = now j := FR_clearRead_L2 hT hm hj _ _ _ (by decide)
theorem FR_readOf {t : Fn} {m a : Int32} {now : Fn} (hT : ToldInv t) (hm : 0 ≤ m.toInt ∧ m.toInt ≤ 135) {j : Nat} (hj : (j : Int) < m.toInt ∨ m.toInt + 36 ≤ j) : (f_X9_readOf t now m a).2 j = now j := by
  rw [f_X9_readOf]
  split
  · rfl
  · exact FR_clearRead hT hm hj
theorem FR_copyMachine_L2 {a b : Int32} (ha : 0 ≤ a.toInt ∧ a.toInt ≤ 135) (hb : 0 ≤ b.toInt ∧ b.toInt ≤ 135) {j : Nat} (hj : (j : Int) < b.toInt ∨ b.toInt + 36 ≤ j) : ∀ (n : Nat) (x : Int32) (now : Fn), 0 ≤ x.toInt → f_X9_copyMachine_L2 a b n x now j = now j := by
  intro n
  induction n with
  | zero => intro x now hx; rw [f_X9_copyMachine_L2]
  | succ n ih =>
    intro x now hx
    rw [f_X9_copyMachine_L2]
    split
    · rfl
    · rename_i h1
      have i1 := rnle h1
      rw [show (36 : Int32).toInt = 36 by decide] at i1
      have e3 := rg_inc (x := x) hx (by omega)
      have h2 : 0 ≤ (x + 1).toInt := by omega
      have e4 := add2 (x := b) (y := x) (by omega) (by omega) (by omega) (by omega)
      rw [ih _ _ h2]
      exact upd_o (ine (by omega) (by omega))
theorem FR_copyMachine {a b : Int32} {now : Fn} (ha : 0 ≤ a.toInt ∧ a.toInt ≤ 135) (hb : 0 ≤ b.toInt ∧ b.toInt ≤ 135) {j : Nat} (hj : (j : Int) < b.toInt ∨ b.toInt + 36 ≤ j) : f_X9_copyMachine now a b j = now j := FR_copyMachine_L2 ha hb hj _ _ _ (by decide)
theorem FR_reset_L45 {m : Int32} (hm : 0 ≤ m.toInt ∧ m.toInt ≤ 135) {j : Nat} (hj : (j : Int) < m.toInt ∨ m.toInt + 36 ≤ j) : ∀ (n : Nat) (x : Int32) (now : Fn), 0 ≤ x.toInt → f_X9_reset_L45 m n x now j = now j := by
  have k24 : (24 : Int32).toInt = 24 := by decide
  have k30 : (30 : Int32).toInt = 30 := by decide
  have e1 := add2 (x := m) (y := 24) (by omega) (by omega) (by omega) (by omega)
  have e2 := add2 (x := m) (y := 30) (by omega) (by omega) (by omega) (by omega)
  intro n
  induction n with
  | zero => intro x now hx; rw [f_X9_reset_L45]
  | succ n ih =>
    intro x now hx
    rw [f_X9_reset_L45]
    split
    · rfl
    · rename_i h1
      have i1 := rnle h1
      rw [show (6 : Int32).toInt = 6 by decide] at i1
      have e3 := rg_inc (x := x) hx (by omega)
      have e4 := add2 (x := m + 24) (y := x) (by omega) (by omega) (by omega) (by omega)
      have e5 := add2 (x := m + 30) (y := x) (by omega) (by omega) (by omega) (by omega)
      rw [ih _ _ (by omega), upd_o (ine (by omega) (by omega)), upd_o (ine (by omega) (by omega))]
theorem FR_reset_L2 {t : Fn} {m : Int32} (hm : 0 ≤ m.toInt ∧ m.toInt ≤ 135) {j : Nat} (hj : (j : Int) < m.toInt ∨ m.toInt + 36 ≤ j) : ∀ (n : Nat) (x : Int32) (now : Fn), 0 ≤ x.toInt → f_X9_reset_L2 t m n x now j = now j := by
  intro n
  induction n with
  | zero => intro x now hx; rw [f_X9_reset_L2]
  | succ n ih =>
    intro x now hx
    rw [f_X9_reset_L2]
    split
    · exact FR_reset_L45 hm hj _ _ _ (by decide)
    · rename_i h1
      have i1 := rnle h1
      rw [show (12 : Int32).toInt = 12 by decide] at i1
      have e3 := rg_inc (x := x) hx (by omega)
      have h2 : 0 ≤ (x + 1).toInt := by omega
      have e4 := add2 (x := m) (y := x) (by omega) (by omega) (by omega) (by omega)
      split
      · rw [ih _ _ h2]; exact upd_o (ine (by omega) (by omega))
      · rw [ih _ _ h2]; exact upd_o (ine (by omega) (by omega))
theorem FR_reset {t : Fn} {m : Int32} {now : Fn} (hm : 0 ≤ m.toInt ∧ m.toInt ≤ 135) {j : Nat} (hj : (j : Int) < m.toInt ∨ m.toInt + 36 ≤ j) : f_X9_reset t now m j = now j := FR_reset_L2 hm hj _ _ _ (by decide)
theorem FR_repair_L2 {t : Fn} {m : Int32} (hm : 0 ≤ m.toInt ∧ m.toInt ≤ 135) {j : Nat} (hj : (j : Int) < m.toInt ∨ m.toInt + 36 ≤ j) : ∀ (n : Nat) (x : Int32) (now : Fn), 0 ≤ x.toInt → f_X9_repair_L2 t m n x now j = now j := by
  have k12 : (12 : Int32).toInt = 12 := by decide
  have e1 := add2 (x := m) (y := 12) (by omega) (by omega) (by omega) (by omega)
  intro n
  induction n with
  | zero => intro x now hx; rw [f_X9_repair_L2]
  | succ n ih =>
    intro x now hx
    rw [f_X9_repair_L2]
    split
    · rfl
    · rename_i h1
      have i1 := rnle h1
      have e3 := rg_inc (x := x) hx (by omega)
      have h2 : 0 ≤ (x + 1).toInt := by omega
      have e4 := add2 (x := m + 12) (y := x) (by omega) (by omega) (by omega) (by omega)
      split
      · rw [ih _ _ h2]; exact upd_o (ine (by omega) (by omega))
      · rw [ih _ _ h2]; exact upd_o (ine (by omega) (by omega))
theorem FR_repair {t : Fn} {m : Int32} {now : Fn} (hm : 0 ≤ m.toInt ∧ m.toInt ≤ 135) {j : Nat} (hj : (j : Int) < m.toInt ∨ m.toInt + 36 ≤ j) : f_X9_repair t now m j = now j := FR_repair_L2 hm hj _ _ _ (by decide)
theorem FR_wouldTell_L36 {t : Fn} (hT : ToldInv t) {j : Nat} (hj : j < 135 ∨ 171 ≤ j) : ∀ (n : Nat) (b x : Int32) (now : Fn), (f_X9_wouldTell_L36 t n b x now).2 j = now j := by
  have k : (135 : Int32).toInt = 135 := by decide
  intro n
  induction n with
  | zero => intro b x now; rw [f_X9_wouldTell_L36]
  | succ n ih =>
    intro b x now
    rw [f_X9_wouldTell_L36]
    simp only [f_X9_wouldTell_C114]
    repeat' split
    all_goals first | rfl | (rw [ih]; first | exact FR_writeTo hT (by omega) (by omega) | exact FR_readOf hT (by omega) (by omega))
theorem FR_wouldTell {t now : Fn} {f kd : Int32} (hT : ToldInv t) (hf : f.toInt = -9 ∨ (0 ≤ f.toInt ∧ f.toInt < 12)) {j : Nat} (hj : j < 135 ∨ 171 ≤ j) : (f_X9_wouldTell t now f kd).2 j = now j := by
  have k : (135 : Int32).toInt = 135 := by decide
  have k2 : (147 : Int32).toInt = 147 := by decide
  rw [f_X9_wouldTell]
  split
  · rw [f_X9_wouldTell_J24, FR_wouldTell_L36 hT hj, FR_reset (by omega) (by omega), FR_repair (by omega) (by omega)]
  · rename_i h
    have h' := rne h
    rw [show (-9 : Int32).toInt = -9 by decide] at h'
    have e := add2 (x := 147) (y := f) (by omega) (by omega) (by omega) (by omega)
    rw [f_X9_wouldTell_J24, FR_wouldTell_L36 hT hj, FR_reset (by omega) (by omega), upd_o (ine (by omega) (by omega)), FR_repair (by omega) (by omega)]
