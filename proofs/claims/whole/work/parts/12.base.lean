/-! numbers (fb_ rows out of the kit's COUNTS), what holds of a block's rows -/
theorem fb_rng (x : Int32) : -2147483648 ≤ x.toInt ∧ x.toInt < 2147483648 := ⟨by have := Int32.le_toInt x; omega, by have := Int32.toInt_lt x; omega⟩
theorem fb_bmod {z : Int} (h1 : -2147483648 ≤ z) (h2 : z < 2147483648) : z.bmod (2 ^ 32) = z := by
  rw [Int.bmod_eq_of_le] <;> omega
theorem fb_addI {x y : Int32} (h1 : -2147483648 ≤ x.toInt + y.toInt) (h2 : x.toInt + y.toInt < 2147483648) : (x + y).toInt = x.toInt + y.toInt := by
  rw [Int32.toInt_add, fb_bmod h1 h2]
theorem fb_subI {x y : Int32} (h1 : -2147483648 ≤ x.toInt - y.toInt) (h2 : x.toInt - y.toInt < 2147483648) : (x - y).toInt = x.toInt - y.toInt := by
  rw [Int32.toInt_sub, fb_bmod h1 h2]
theorem fb_mulI {x y : Int32} (h1 : -2147483648 ≤ x.toInt * y.toInt) (h2 : x.toInt * y.toInt < 2147483648) : (x * y).toInt = x.toInt * y.toInt := by
  rw [Int32.toInt_mul, fb_bmod h1 h2]
theorem rg_mul {x c : Int32} {n : Int} (hc : c.toInt = n) (h1 : -2147483648 ≤ x.toInt * n) (h2 : x.toInt * n < 2147483648) : (x * c).toInt = x.toInt * n := by
  subst hc; exact fb_mulI h1 h2
theorem rg_mul2 {x c : Int32} {n : Int} (hc : c.toInt = n) (h1 : -2147483648 ≤ n * x.toInt) (h2 : n * x.toInt < 2147483648) : (c * x).toInt = n * x.toInt := by
  subst hc; exact fb_mulI h1 h2
theorem rlt {x y : Int32} (h : x < y) : x.toInt < y.toInt := Int32.lt_iff_toInt_lt.mp h
theorem rle {x y : Int32} (h : x ≤ y) : x.toInt ≤ y.toInt := Int32.le_iff_toInt_le.mp h
theorem rnlt {x y : Int32} (h : ¬ x < y) : y.toInt ≤ x.toInt := by
  have := mt Int32.lt_iff_toInt_lt.mpr h
  omega
theorem rnle {x y : Int32} (h : ¬ x ≤ y) : y.toInt < x.toInt := by
  have := mt Int32.le_iff_toInt_le.mpr h
  omega
theorem rne {x y : Int32} (h : ¬ x = y) : x.toInt ≠ y.toInt := fun q => h (Int32.toInt_inj.mp q)
theorem nb01 {v : Int32} (h : v = 0 ∨ v = 1) : narrow .boolean (.int v) = .int v := by rcases h with rfl | rfl <;> rfl
def BlkInv (u : Blk) : Prop := (0 ≤ (u 0 0).toInt ∧ (u 0 0).toInt ≤ 6) ∧ (0 ≤ (u 0 1).toInt ∧ (u 0 1).toInt ≤ 12) ∧ (0 ≤ (u 0 2).toInt ∧ (u 0 2).toInt ≤ 4) ∧ (∀ k, 0 ≤ (u 4 k).toInt ∧ (u 4 k).toInt < 6) ∧ (∀ k, 0 ≤ (u 11 k).toInt ∧ (u 11 k).toInt < 6)
theorem BI_regs {u : Blk} (h : BlkInv u) : 0 ≤ (u 0 0).toInt ∧ (u 0 0).toInt ≤ 6 := h.1
theorem BI_flds {u : Blk} (h : BlkInv u) : 0 ≤ (u 0 1).toInt ∧ (u 0 1).toInt ≤ 12 := h.2.1
theorem BI_als {u : Blk} (h : BlkInv u) : 0 ≤ (u 0 2).toInt ∧ (u 0 2).toInt ≤ 4 := h.2.2.1
theorem BI_owner {u : Blk} (h : BlkInv u) (k : Nat) : 0 ≤ (u 4 k).toInt ∧ (u 4 k).toInt < 6 := h.2.2.2.1 k
theorem BI_areg {u : Blk} (h : BlkInv u) (k : Nat) : 0 ≤ (u 11 k).toInt ∧ (u 11 k).toInt < 6 := h.2.2.2.2 k
/-- what holds of the model's rows of what was told -/
def ToldInv (t : Fn) : Prop := (0 ≤ (t (90 : Int32).toNatClampNeg).toInt ∧ (t (90 : Int32).toNatClampNeg).toInt ≤ 6) ∧ (0 ≤ (t (91 : Int32).toNatClampNeg).toInt ∧ (t (91 : Int32).toNatClampNeg).toInt ≤ 12) ∧ (0 ≤ (t (92 : Int32).toNatClampNeg).toInt ∧ (t (92 : Int32).toNatClampNeg).toInt ≤ 4) ∧ (∀ x : Int32, 0 ≤ x.toInt → x.toInt < 12 → 0 ≤ (t ((18 : Int32) + x).toNatClampNeg).toInt ∧ (t ((18 : Int32) + x).toNatClampNeg).toInt < 6) ∧ (∀ x : Int32, 0 ≤ x.toInt → x.toInt < 6 → (t ((6 : Int32) + x).toNatClampNeg).toInt = -9 ∨ (0 ≤ (t ((6 : Int32) + x).toNatClampNeg).toInt ∧ (t ((6 : Int32) + x).toNatClampNeg).toInt < 12)) ∧ (∀ x : Int32, 0 ≤ x.toInt → x.toInt < 6 → (t ((12 : Int32) + x).toNatClampNeg).toInt = -9 ∨ (0 ≤ (t ((12 : Int32) + x).toNatClampNeg).toInt ∧ (t ((12 : Int32) + x).toNatClampNeg).toInt < 12)) ∧ (∀ x : Int32, 100 ≤ x.toInt → x.toInt < 104 → 0 ≤ (t (((82 : Int32) + x) - (100 : Int32)).toNatClampNeg).toInt ∧ (t (((82 : Int32) + x) - (100 : Int32)).toNatClampNeg).toInt < 6)
theorem TI_90 {t : Fn} (h : ToldInv t) : 0 ≤ (t (90 : Int32).toNatClampNeg).toInt ∧ (t (90 : Int32).toNatClampNeg).toInt ≤ 6 := h.1
theorem TI_91 {t : Fn} (h : ToldInv t) : 0 ≤ (t (91 : Int32).toNatClampNeg).toInt ∧ (t (91 : Int32).toNatClampNeg).toInt ≤ 12 := h.2.1
theorem TI_92 {t : Fn} (h : ToldInv t) : 0 ≤ (t (92 : Int32).toNatClampNeg).toInt ∧ (t (92 : Int32).toNatClampNeg).toInt ≤ 4 := h.2.2.1
theorem TI_18 {t : Fn} {x : Int32} (h : ToldInv t) (h0 : 0 ≤ x.toInt) (h1 : x.toInt < 12) : 0 ≤ (t ((18 : Int32) + x).toNatClampNeg).toInt ∧ (t ((18 : Int32) + x).toNatClampNeg).toInt < 6 := h.2.2.2.1 x h0 h1
theorem TI_6 {t : Fn} {x : Int32} (h : ToldInv t) (h0 : 0 ≤ x.toInt) (h1 : x.toInt < 6) : (t ((6 : Int32) + x).toNatClampNeg).toInt = -9 ∨ (0 ≤ (t ((6 : Int32) + x).toNatClampNeg).toInt ∧ (t ((6 : Int32) + x).toNatClampNeg).toInt < 12) := h.2.2.2.2.1 x h0 h1
theorem TI_12 {t : Fn} {x : Int32} (h : ToldInv t) (h0 : 0 ≤ x.toInt) (h1 : x.toInt < 6) : (t ((12 : Int32) + x).toNatClampNeg).toInt = -9 ∨ (0 ≤ (t ((12 : Int32) + x).toNatClampNeg).toInt ∧ (t ((12 : Int32) + x).toNatClampNeg).toInt < 12) := h.2.2.2.2.2.1 x h0 h1
theorem TI_82 {t : Fn} {x : Int32} (h : ToldInv t) (h0 : 100 ≤ x.toInt) (h1 : x.toInt < 104) : 0 ≤ (t (((82 : Int32) + x) - (100 : Int32)).toNatClampNeg).toInt ∧ (t (((82 : Int32) + x) - (100 : Int32)).toNatClampNeg).toInt < 6 := h.2.2.2.2.2.2 x h0 h1
theorem rg_div {x c : Int32} {n : Int} (hc : c.toInt = n) (h0 : 0 ≤ x.toInt) (hn : 0 < n ∧ n < 100000) : (x / c).toInt = x.toInt / n := by
  have hx := fb_rng x
  have h1 : 0 ≤ x.toInt / n := Int.ediv_nonneg h0 (by omega)
  have h2 : x.toInt / n ≤ x.toInt := Int.ediv_le_self _ h0
  rw [Int32.toInt_div, hc, Int.tdiv_eq_ediv_of_nonneg h0, fb_bmod (by omega) (by omega)]
theorem rg_rem {x c : Int32} {n : Int} (hc : c.toInt = n) (h0 : 0 ≤ x.toInt) (hn : 0 < n ∧ n < 100000) : (x - x / c * c).toInt = x.toInt - x.toInt / n * n := by
  have hx := fb_rng x
  have e := rg_div hc h0 hn
  have h1 : 0 ≤ x.toInt / n := Int.ediv_nonneg h0 (by omega)
  have h2 : x.toInt / n * n ≤ x.toInt := Int.ediv_mul_le _ (by omega)
  have h3 : 0 ≤ x.toInt / n * n := Int.mul_nonneg h1 (by omega)
  have e2 : (x / c * c).toInt = x.toInt / n * n := by
    rw [fb_mulI (by rw [e, hc]; omega) (by rw [e, hc]; omega), e, hc]
  rw [fb_subI (by rw [e2]; omega) (by rw [e2]; omega), e2]
theorem upd_o {f : Fn} {k : Nat} {x : Int32} {j : Nat} (h : j ≠ k) : upd f k x j = f j := if_neg h
theorem ixn (x : Int32) : x.toNatClampNeg = x.toInt.toNat := rfl
theorem n72 {i : Int32} (h0 : 0 ≤ i.toInt) (h1 : i.toInt ≠ 72) : (72 : Int32).toNatClampNeg ≠ i.toNatClampNeg := by
  rw [ixn i, show (72 : Int32).toNatClampNeg = 72 by decide]
  omega
theorem ine {j : Nat} {i : Int32} (h0 : 0 ≤ i.toInt) (h1 : i.toInt ≠ j) : j ≠ i.toNatClampNeg := by
  rw [ixn i]
  omega
