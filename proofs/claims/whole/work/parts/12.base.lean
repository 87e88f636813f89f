/-! numbers (fb_ rows out of the kit's COUNTS), what holds of a block's rows -/
theorem fb_rng (x : Int32) : -2147483648 ≤ x.toInt ∧ x.toInt < 2147483648 := ⟨by have := Int32.le_toInt x; omega, by have := Int32.toInt_lt x; omega⟩
theorem fb_bmod {z : Int} (h1 : -2147483648 ≤ z) (h2 : z < 2147483648) : z.bmod (2 ^ 32) = z := by
  rw [Int.bmod_eq_of_le] <;> omega
theorem fb_addI {x y : Int32} (h1 : -2147483648 ≤ x.toInt + y.toInt) (h2 : x.toInt + y.toInt < 2147483648) : (x + y).toInt = x.toInt + y.toInt := by
  rw [Int32.toInt_add, fb_bmod h1 h2]
theorem fb_subI {x y : Int32} (h1 : -2147483648 ≤ x.toInt - y.toInt) (h2 : x.toInt - y.toInt < 2147483648) : (x - y).toInt = x.toInt - y.toInt := by
  rw [Int32.toInt_sub, fb_bmod h1 h2]
theorem fb_mulI {x y : Int32} (h1 : -2147483648 ≤ x.toInt * y.toInt) (h2 : x.toInt * y.toInt < 2147483648) : (x * y).toInt = x.toInt * y.toInt := by
  rw [Int32.toInt_mul, fb_bmod h1 h2]
theorem rg_mul {x c : Int32} {n : Int} (hc : c.toInt = n) (h1 : -2147483648 ≤ x.toInt * n) (h2 : x.toInt * n < 2147483648) : (x * c).toInt = x.toInt * n := by
  subst hc; exact fb_mulI h1 h2
theorem rg_mul2 {x c : Int32} {n : Int} (hc : c.toInt = n) (h1 : -2147483648 ≤ n * x.toInt) (h2 : n * x.toInt < 2147483648) : (c * x).toInt = n * x.toInt := by
  subst hc; exact fb_mulI h1 h2
theorem rlt {x y : Int32} (h : x < y) : x.toInt < y.toInt := Int32.lt_iff_toInt_lt.mp h
theorem rle {x y : Int32} (h : x ≤ y) : x.toInt ≤ y.toInt := Int32.le_iff_toInt_le.mp h
theorem rnlt {x y : Int32} (h : ¬ x < y) : y.toInt ≤ x.toInt := by
  have := mt Int32.lt_iff_toInt_lt.mpr h
  omega
theorem rnle {x y : Int32} (h : ¬ x ≤ y) : y.toInt < x.toInt := by
  have := mt Int32.le_iff_toInt_le.mpr h
  omega
theorem rne {x y : Int32} (h : ¬ x = y) : x.toInt ≠ y.toInt := fun q => h (Int32.toInt_inj.mp q)
theorem nb01 {v : Int32} (h : v = 0 ∨ v = 1) : narrow .boolean (.int v) = .int v := by rcases h with rfl | rfl <;> rfl
def BlkInv (u : Blk) : Prop := (0 ≤ (u 0 0).toInt ∧ (u 0 0).toInt ≤ 6) ∧ (0 ≤ (u 0 1).toInt ∧ (u 0 1).toInt ≤ 12) ∧ (0 ≤ (u 0 2).toInt ∧ (u 0 2).toInt ≤ 4) ∧ (∀ k, 0 ≤ (u 4 k).toInt ∧ (u 4 k).toInt < 6) ∧ (∀ k, 0 ≤ (u 11 k).toInt ∧ (u 11 k).toInt < 6)
theorem BI_regs {u : Blk} (h : BlkInv u) : 0 ≤ (u 0 0).toInt ∧ (u 0 0).toInt ≤ 6 := h.1
theorem BI_flds {u : Blk} (h : BlkInv u) : 0 ≤ (u 0 1).toInt ∧ (u 0 1).toInt ≤ 12 := h.2.1
theorem BI_als {u : Blk} (h : BlkInv u) : 0 ≤ (u 0 2).toInt ∧ (u 0 2).toInt ≤ 4 := h.2.2.1
theorem BI_owner {u : Blk} (h : BlkInv u) (k : Nat) : 0 ≤ (u 4 k).toInt ∧ (u 4 k).toInt < 6 := h.2.2.2.1 k
theorem BI_areg {u : Blk} (h : BlkInv u) (k : Nat) : 0 ≤ (u 11 k).toInt ∧ (u 11 k).toInt < 6 := h.2.2.2.2 k
