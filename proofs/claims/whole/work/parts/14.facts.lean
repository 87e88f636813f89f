/-! facts on twin functions that the walks use -/
theorem rg_inc {x : Int32} (h0 : 0 ≤ x.toInt) (h1 : x.toInt < 1000000) : (x + 1).toInt = x.toInt + 1 := fb_addI (by rw [show (1 : Int32).toInt = 1 by decide]; omega) (by rw [show (1 : Int32).toInt = 1 by decide]; omega)
theorem rIW {x b : Int32} (h : ¬ f_X8_isWithin x b = 0) : 0 ≤ x.toInt ∧ x.toInt < b.toInt := by
  unfold f_X8_isWithin at h
  split at h
  · exact absurd rfl h
  · rename_i h1
    split at h
    · exact absurd rfl h
    · rename_i h2
      have i1 := rnlt h1
      have i2 := rnle h2
      rw [show (0 : Int32).toInt = 0 by decide] at i1
      exact ⟨i1, i2⟩
theorem R_registerAt_L {u : Blk} {a : Int32} (h : BlkInv u) : ∀ (n : Nat) (x : Int32), 0 ≤ x.toInt → (f_X0_registerAt_L2 u a n x).toInt = -9 ∨ (0 ≤ (f_X0_registerAt_L2 u a n x).toInt ∧ (f_X0_registerAt_L2 u a n x).toInt < 6) := by
  intro n
  induction n with
  | zero => intro x hx; right; rw [f_X0_registerAt_L2]; decide
  | succ n ih =>
    intro x hx
    have hb := BI_regs h
    rw [f_X0_registerAt_L2]
    split
    · left; decide
    · rename_i h1
      have i1 := rnle h1
      split
      · right; omega
      · exact ih _ (by rw [rg_inc hx (by omega)]; omega)
theorem R_registerAt {u : Blk} (h : BlkInv u) (a : Int32) : (f_X0_registerAt u a).toInt = -9 ∨ (0 ≤ (f_X0_registerAt u a).toInt ∧ (f_X0_registerAt u a).toInt < 6) := R_registerAt_L h _ _ (by decide)
theorem R_aliasAt_L {u : Blk} {a : Int32} (h : BlkInv u) : ∀ (n : Nat) (x : Int32), 0 ≤ x.toInt → (f_X0_aliasAt_L15 u a n x).toInt = -9 ∨ (0 ≤ (f_X0_aliasAt_L15 u a n x).toInt ∧ (f_X0_aliasAt_L15 u a n x).toInt < 4) := by
  intro n
  induction n with
  | zero => intro x hx; right; rw [f_X0_aliasAt_L15]; decide
  | succ n ih =>
    intro x hx
    have hb := BI_als h
    rw [f_X0_aliasAt_L15]
    split
    · left; decide
    · rename_i h1
      have i1 := rnle h1
      split
      · right; omega
      · exact ih _ (by rw [rg_inc hx (by omega)]; omega)
theorem R_aliasAt {u : Blk} (h : BlkInv u) (a : Int32) : (f_X0_aliasAt u a).toInt = -9 ∨ (0 ≤ (f_X0_aliasAt u a).toInt ∧ (f_X0_aliasAt u a).toInt < 4) := by
  rw [f_X0_aliasAt]
  split
  · exact R_aliasAt_L h _ _ (by decide)
  · left; decide
theorem R_registerBehind {u : Blk} (h : BlkInv u) (a : Int32) : (f_X0_registerBehind u a).toInt = -9 ∨ (0 ≤ (f_X0_registerBehind u a).toInt ∧ (f_X0_registerBehind u a).toInt < 6) := by
  rw [f_X0_registerBehind]
  split
  · exact R_registerAt h a
  · right; exact BI_areg h _
theorem rOB {u : Blk} {r o : Int32} (h : ¬ f_X0_isOpenedBy u r o = 0) : 0 ≤ (u 3 r.toNatClampNeg).toInt ∧ (u 3 r.toNatClampNeg).toInt < (u 0 1).toInt := by
  unfold f_X0_isOpenedBy at h
  split at h
  · exact absurd rfl h
  · rename_i h1; exact rIW h1
theorem rCH {u : Blk} {f v : Int32} (h : ¬ f_X0_canHold u f v = 0) : 0 ≤ f.toInt ∧ f.toInt < (u 0 1).toInt := by
  unfold f_X0_canHold at h
  split at h
  · exact absurd rfl h
  · rename_i h1; exact rIW h1
