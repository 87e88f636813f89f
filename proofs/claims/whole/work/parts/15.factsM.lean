/-! facts on the model's twin functions that the walks use -/
theorem rIN {v a b : Int32} (h : ¬ f_X9_in v a b = 0) : a.toInt ≤ v.toInt ∧ v.toInt ≤ b.toInt := by
  unfold f_X9_in at h
  split at h
  · exact absurd rfl h
  · rename_i h1
    split at h
    · exact absurd rfl h
    · rename_i h2
      exact ⟨rnlt h1, rnlt h2⟩
theorem rIF {t : Fn} {f : Int32} (hT : ToldInv t) (h : ¬ f_X9_isField t f = 0) : 0 ≤ f.toInt ∧ f.toInt < (f_X9_fields t).toInt ∧ (f_X9_fields t).toInt ≤ 12 := by
  have i := rIN (show ¬ f_X9_in f 0 (f_X9_fields t - 1) = 0 from h)
  have j := TI_91 hT
  have e : (f_X9_fields t - 1).toInt = (f_X9_fields t).toInt - 1 := by
    have := fb_subI (x := f_X9_fields t) (y := 1) (by show _ ≤ (t (91 : Int32).toNatClampNeg).toInt - _; rw [show (1 : Int32).toInt = 1 by decide]; omega) (by show (t (91 : Int32).toNatClampNeg).toInt - _ < _; rw [show (1 : Int32).toInt = 1 by decide]; omega)
    rw [this, show (1 : Int32).toInt = 1 by decide]
  rw [show (0 : Int32).toInt = 0 by decide] at i
  have k : (f_X9_fields t).toInt = (t (91 : Int32).toNatClampNeg).toInt := rfl
  omega
theorem rIRg {t : Fn} {f : Int32} (hT : ToldInv t) (h : ¬ f_X9_isRegister t f = 0) : 0 ≤ f.toInt ∧ f.toInt < (f_X9_registers t).toInt ∧ (f_X9_registers t).toInt ≤ 6 := by
  have i := rIN (show ¬ f_X9_in f 0 (f_X9_registers t - 1) = 0 from h)
  have j := TI_90 hT
  have e : (f_X9_registers t - 1).toInt = (f_X9_registers t).toInt - 1 := by
    have := fb_subI (x := f_X9_registers t) (y := 1) (by show _ ≤ (t (90 : Int32).toNatClampNeg).toInt - _; rw [show (1 : Int32).toInt = 1 by decide]; omega) (by show (t (90 : Int32).toNatClampNeg).toInt - _ < _; rw [show (1 : Int32).toInt = 1 by decide]; omega)
    rw [this, show (1 : Int32).toInt = 1 by decide]
  rw [show (0 : Int32).toInt = 0 by decide] at i
  have k : (f_X9_registers t).toInt = (t (90 : Int32).toNatClampNeg).toInt := rfl
  omega
theorem R_goesTo_L32 {t : Fn} {a : Int32} (h : ToldInv t) : ∀ (n : Nat) (x : Int32), 0 ≤ x.toInt → (f_X9_goesTo_L32 t a n x).toInt = -9 ∨ (0 ≤ (f_X9_goesTo_L32 t a n x).toInt ∧ (f_X9_goesTo_L32 t a n x).toInt < 6) ∨ (100 ≤ (f_X9_goesTo_L32 t a n x).toInt ∧ (f_X9_goesTo_L32 t a n x).toInt < 104) := by
  intro n
  induction n with
  | zero => intro x hx; right; left; rw [f_X9_goesTo_L32]; decide
  | succ n ih =>
    intro x hx
    have hb := TI_92 h
    rw [f_X9_goesTo_L32]
    split
    · left; decide
    · rename_i h1
      have i1 := rnle h1
      split
      · right; right
        have k : (100 : Int32).toInt = 100 := by decide
        have e := fb_addI (x := 100) (y := x) (by omega) (by omega)
        omega
      · exact ih _ (by rw [rg_inc hx (by omega)]; omega)
theorem R_goesTo_L2 {t : Fn} {a : Int32} (h : ToldInv t) : ∀ (n : Nat) (x : Int32), 0 ≤ x.toInt → (f_X9_goesTo_L2 t a n x).toInt = -9 ∨ (0 ≤ (f_X9_goesTo_L2 t a n x).toInt ∧ (f_X9_goesTo_L2 t a n x).toInt < 6) ∨ (100 ≤ (f_X9_goesTo_L2 t a n x).toInt ∧ (f_X9_goesTo_L2 t a n x).toInt < 104) := by
  intro n
  induction n with
  | zero => intro x hx; right; left; rw [f_X9_goesTo_L2]; decide
  | succ n ih =>
    intro x hx
    have hb := TI_90 h
    rw [f_X9_goesTo_L2]
    split
    · exact R_goesTo_L32 h _ _ (by decide)
    · rename_i h1
      have i1 : x.toInt < (t (90 : Int32).toNatClampNeg).toInt := rnle h1
      split
      · right; left; omega
      · exact ih _ (by rw [rg_inc hx (by omega)]; omega)
theorem R_goesTo {t : Fn} (h : ToldInv t) (a : Int32) : (f_X9_goesTo t a).toInt = -9 ∨ (0 ≤ (f_X9_goesTo t a).toInt ∧ (f_X9_goesTo t a).toInt < 6) ∨ (100 ≤ (f_X9_goesTo t a).toInt ∧ (f_X9_goesTo t a).toInt < 104) := R_goesTo_L2 h _ _ (by decide)
theorem R_registerOf {t : Fn} {x : Int32} (h : ToldInv t) (hx : (0 ≤ x.toInt ∧ x.toInt < 6) ∨ (100 ≤ x.toInt ∧ x.toInt < 104)) : 0 ≤ (f_X9_registerOf t x).toInt ∧ (f_X9_registerOf t x).toInt < 6 := by
  have k : (100 : Int32).toInt = 100 := by decide
  rw [f_X9_registerOf]
  split
  · rename_i h1
    have := rle h1
    exact TI_82 h (by omega) (by omega)
  · rename_i h1
    have := rnle h1
    omega
