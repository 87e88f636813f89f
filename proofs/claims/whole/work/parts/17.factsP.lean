/-! facts on the reader of tokens and items -/
theorem z0I : (0 : Int32).toInt = 0 := by decide
theorem AD_L101 {s k len : Int32} {tx : Fn} (hl : len.toInt ≤ 160) : ∀ (n : Nat) (e : Int32), 0 ≤ e.toInt → e.toInt ≤ len.toInt → (f_X7_advance_L101 s k tx len n e).1 = s ∧ e.toInt ≤ (f_X7_advance_L101 s k tx len n e).2.1.toInt ∧ (f_X7_advance_L101 s k tx len n e).2.1.toInt ≤ len.toInt := by
  intro n
  induction n with
  | zero => intro e h0 h1; rw [f_X7_advance_L101]; exact ⟨rfl, Int.le_refl _, h1⟩
  | succ n ih =>
    intro e h0 h1
    rw [f_X7_advance_L101]
    split
    · exact ⟨rfl, Int.le_refl _, h1⟩
    · rename_i h2
      have i2 := rnle h2
      split
      · exact ⟨rfl, Int.le_refl _, h1⟩
      · have e3 := rg_inc h0 (by omega)
        obtain ⟨a, b, c⟩ := ih (e + 1) (by omega) (by omega)
        exact ⟨a, by omega, c⟩
theorem AD_L161 {s k len : Int32} {tx : Fn} (hl : len.toInt ≤ 160) : ∀ (n : Nat) (e : Int32), 0 ≤ e.toInt → e.toInt ≤ len.toInt → (f_X7_advance_L161 s k tx len n e).1 = s ∧ e.toInt ≤ (f_X7_advance_L161 s k tx len n e).2.1.toInt ∧ (f_X7_advance_L161 s k tx len n e).2.1.toInt ≤ len.toInt := by
  intro n
  induction n with
  | zero => intro e h0 h1; rw [f_X7_advance_L161]; exact ⟨rfl, Int.le_refl _, h1⟩
  | succ n ih =>
    intro e h0 h1
    rw [f_X7_advance_L161]
    split
    · exact ⟨rfl, Int.le_refl _, h1⟩
    · rename_i h2
      have i2 := rnle h2
      split
      · exact ⟨rfl, Int.le_refl _, h1⟩
      · have e3 := rg_inc h0 (by omega)
        obtain ⟨a, b, c⟩ := ih (e + 1) (by omega) (by omega)
        exact ⟨a, by omega, c⟩
theorem AD_J52 {s len : Int32} {tx : Fn} (hl : len.toInt ≤ 160) (h0 : 0 ≤ s.toInt) (h1 : s.toInt ≤ len.toInt) : (f_X7_advance_J52 s tx len).1 = s ∧ s.toInt ≤ (f_X7_advance_J52 s tx len).2.1.toInt ∧ (f_X7_advance_J52 s tx len).2.1.toInt ≤ len.toInt := by
  rw [f_X7_advance_J52]
  split
  · rename_i h2
    have i2 := rlt h2
    have e3 := rg_inc h0 (by omega)
    split
    · split
      · split
        · simp only [f_X7_advance_J225]; exact ⟨trivial, by omega, by omega⟩
        · simp only [f_X7_advance_J225]; exact ⟨trivial, by omega, by omega⟩
      · exact AD_L161 hl _ _ h0 h1
    · exact AD_L101 hl _ _ h0 h1
  · exact ⟨rfl, Int.le_refl _, h1⟩
theorem AD_L8 {len : Int32} {tx : Fn} (hl : len.toInt ≤ 160) : ∀ (n : Nat) (s : Int32), 0 ≤ s.toInt → s.toInt ≤ len.toInt → 160 - s.toInt < n → 0 ≤ (f_X7_advance_L8 tx len n s).1.toInt ∧ (f_X7_advance_L8 tx len n s).1.toInt ≤ (f_X7_advance_L8 tx len n s).2.1.toInt ∧ (f_X7_advance_L8 tx len n s).2.1.toInt ≤ len.toInt := by
  intro n
  induction n with
  | zero => intro s h0 h1 hn; omega
  | succ n ih =>
    intro s h0 h1 hn
    rw [f_X7_advance_L8]
    have hj := AD_J52 (s := s) (len := len) (tx := tx) hl h0 h1
    split
    · rw [hj.1]; exact ⟨h0, hj.2.1, hj.2.2⟩
    · rename_i h2
      have i2 := rnle h2
      have e3 := rg_inc h0 (by omega)
      split
      · exact ih _ (by omega) (by omega) (by omega)
      · rw [hj.1]; exact ⟨h0, hj.2.1, hj.2.2⟩
theorem R_advance {e len : Int32} {tx : Fn} (hl : 0 ≤ len.toInt ∧ len.toInt ≤ 160) (he : 0 ≤ e.toInt ∧ e.toInt ≤ len.toInt) : 0 ≤ (f_X7_advance e tx len).1.toInt ∧ (f_X7_advance e tx len).1.toInt ≤ (f_X7_advance e tx len).2.1.toInt ∧ (f_X7_advance e tx len).2.1.toInt ≤ len.toInt := AD_L8 hl.2 _ _ he.1 he.2 (by show 160 - e.toInt < 4000; omega)
theorem R_takeNumber {e len a b : Int32} {tx : Fn} (hl : 0 ≤ len.toInt ∧ len.toInt ≤ 160) (he : 0 ≤ e.toInt ∧ e.toInt ≤ len.toInt) : (0 ≤ (f_X4_takeNumber e tx len a b).2.1.toInt ∧ (f_X4_takeNumber e tx len a b).2.1.toInt ≤ (f_X4_takeNumber e tx len a b).2.2.1.toInt ∧ (f_X4_takeNumber e tx len a b).2.2.1.toInt ≤ len.toInt) ∧ ((f_X4_takeNumber e tx len a b).1.toInt = 0 ∨ (a.toInt ≤ (f_X7_number (f_X4_takeNumber e tx len a b).2.1 (f_X4_takeNumber e tx len a b).2.2.1 (f_X4_takeNumber e tx len a b).2.2.2 tx).toInt ∧ (f_X7_number (f_X4_takeNumber e tx len a b).2.1 (f_X4_takeNumber e tx len a b).2.2.1 (f_X4_takeNumber e tx len a b).2.2.2 tx).toInt ≤ b.toInt)) := by
  have h := R_advance (e := e) (tx := tx) hl he
  rw [f_X4_takeNumber, f_X4_takeNumber_C7]
  split
  · exact ⟨h, Or.inl z0I⟩
  · split
    · exact ⟨h, Or.inl z0I⟩
    · rename_i h2
      split
      · exact ⟨h, Or.inl z0I⟩
      · rename_i h3
        exact ⟨h, Or.inr ⟨rnlt h2, rnlt h3⟩⟩
theorem R_takeKind {e len : Int32} {tx : Fn} (hl : 0 ≤ len.toInt ∧ len.toInt ≤ 160) (he : 0 ≤ e.toInt ∧ e.toInt ≤ len.toInt) : 0 ≤ (f_X4_takeKind e tx len).2.1.toInt ∧ (f_X4_takeKind e tx len).2.1.toInt ≤ (f_X4_takeKind e tx len).2.2.1.toInt ∧ (f_X4_takeKind e tx len).2.2.1.toInt ≤ len.toInt := by
  have h := R_advance (e := e) (tx := tx) hl he
  rw [f_X4_takeKind, f_X4_takeKind_C7]
  split <;> exact h
theorem R_takeSemicolon {e len : Int32} {tx : Fn} (hl : 0 ≤ len.toInt ∧ len.toInt ≤ 160) (he : 0 ≤ e.toInt ∧ e.toInt ≤ len.toInt) : 0 ≤ (f_X4_takeSemicolon e tx len).2.1.toInt ∧ (f_X4_takeSemicolon e tx len).2.1.toInt ≤ (f_X4_takeSemicolon e tx len).2.2.1.toInt ∧ (f_X4_takeSemicolon e tx len).2.2.1.toInt ≤ len.toInt := by
  have h := R_advance (e := e) (tx := tx) hl he
  rw [f_X4_takeSemicolon, f_X4_takeSemicolon_C7]
  split <;> exact h
theorem bw_ne {u : Blk} {k i : Nat} {x : Int32} {q : Nat} (h : q ≠ k) : bw u k i x q = u q := if_neg h
theorem bw_eq {u : Blk} {k i : Nat} {x : Int32} : bw u k i x k = upd (u k) i x := if_pos rfl
theorem upd_c {f : Fn} {k j : Nat} {x : Int32} {P : Int32 → Prop} (h0 : P (f j)) (h1 : P x) : P (upd f k x j) := by
  unfold upd; split <;> assumption
theorem BI_bwo {u : Blk} {k i : Nat} {x : Int32} (h : BlkInv u) (hk : k ≠ 0 ∧ k ≠ 4 ∧ k ≠ 11) : BlkInv (bw u k i x) := by
  obtain ⟨h1, h2, h3, h4, h5⟩ := h
  refine ⟨?_, ?_, ?_, ?_, ?_⟩
  · rw [bw_ne (Ne.symm hk.1)]; exact h1
  · rw [bw_ne (Ne.symm hk.1)]; exact h2
  · rw [bw_ne (Ne.symm hk.1)]; exact h3
  · rw [bw_ne (Ne.symm hk.2.1)]; exact h4
  · rw [bw_ne (Ne.symm hk.2.2)]; exact h5
theorem BI_bw4 {u : Blk} {i : Nat} {x : Int32} (h : BlkInv u) (hx : 0 ≤ x.toInt ∧ x.toInt < 6) : BlkInv (bw u 4 i x) := by
  obtain ⟨h1, h2, h3, h4, h5⟩ := h
  refine ⟨?_, ?_, ?_, ?_, ?_⟩
  · rw [bw_ne (by decide)]; exact h1
  · rw [bw_ne (by decide)]; exact h2
  · rw [bw_ne (by decide)]; exact h3
  · intro k; rw [bw_eq]; exact upd_c (P := fun z => 0 ≤ z.toInt ∧ z.toInt < 6) (h4 k) hx
  · rw [bw_ne (by decide)]; exact h5
theorem BI_bw11 {u : Blk} {i : Nat} {x : Int32} (h : BlkInv u) (hx : 0 ≤ x.toInt ∧ x.toInt < 6) : BlkInv (bw u 11 i x) := by
  obtain ⟨h1, h2, h3, h4, h5⟩ := h
  refine ⟨?_, ?_, ?_, ?_, ?_⟩
  · rw [bw_ne (by decide)]; exact h1
  · rw [bw_ne (by decide)]; exact h2
  · rw [bw_ne (by decide)]; exact h3
  · rw [bw_ne (by decide)]; exact h4
  · intro k; rw [bw_eq]; exact upd_c (P := fun z => 0 ≤ z.toInt ∧ z.toInt < 6) (h5 k) hx
theorem BI_bw0 {u : Blk} {i : Nat} {x : Int32} (h : BlkInv u) (hx : 0 ≤ x.toInt) (hi : (i = 0 ∧ x.toInt ≤ 6) ∨ (i = 1 ∧ x.toInt ≤ 12) ∨ (i = 2 ∧ x.toInt ≤ 4)) : BlkInv (bw u 0 i x) := by
  obtain ⟨h1, h2, h3, h4, h5⟩ := h
  refine ⟨?_, ?_, ?_, ?_, ?_⟩
  · rw [bw_eq]; unfold upd; split
    · omega
    · exact h1
  · rw [bw_eq]; unfold upd; split
    · omega
    · exact h2
  · rw [bw_eq]; unfold upd; split
    · omega
    · exact h3
  · rw [bw_ne (by decide)]; exact h4
  · rw [bw_ne (by decide)]; exact h5
theorem BI_empty {u : Blk} (h : BlkInv u) : BlkInv (f_X0_empty u) := by
  have k : (0 : Int32).toInt = 0 := by decide
  rw [f_X0_empty]
  exact BI_bw0 (BI_bw0 (BI_bw0 h (by omega) (by omega)) (by omega) (by omega)) (by omega) (by omega)
def TokR (T : Int32 × Int32 × Int32 × Int32 × Blk) (len : Int32) : Prop := (0 ≤ T.2.1.toInt ∧ T.2.1.toInt ≤ T.2.2.1.toInt ∧ T.2.2.1.toInt ≤ len.toInt) ∧ BlkInv T.2.2.2.2
theorem sub1 {x : Int32} (h0 : 0 ≤ x.toInt) (h1 : x.toInt ≤ 100000) : (x - 1).toInt = x.toInt - 1 := by
  have k : (1 : Int32).toInt = 1 := by decide
  rw [fb_subI (by omega) (by omega), k]
theorem R_readRegister {s e k len : Int32} {tx : Fn} {u : Blk} (hB : BlkInv u) (hl : 0 ≤ len.toInt ∧ len.toInt ≤ 160) (hk : 0 ≤ s.toInt ∧ s.toInt ≤ e.toInt ∧ e.toInt ≤ len.toInt) : TokR (f_X4_readRegister s e k tx len u) len := by
  have hr := BI_regs hB
  rw [f_X4_readRegister]
  split
  · exact ⟨hk, hB⟩
  · rename_i h1
    have i1 := rnle h1
    rw [show (6 : Int32).toInt = 6 by decide] at i1
    have t1 := (R_takeNumber (e := e) (tx := tx) (a := 0) (b := 15) hl (by omega)).1
    generalize f_X4_takeNumber e tx len 0 15 = Z at t1 ⊢
    obtain ⟨z0, z1, z2, z3⟩ := Z
    dsimp only at t1 ⊢
    rw [f_X4_readRegister_C21]
    split
    · exact ⟨t1, hB⟩
    · have t2 := R_takeSemicolon (e := z2) (tx := tx) hl (by omega)
      have e3 := rg_inc (x := u 0 0) hr.1 (by omega)
      exact ⟨t2, BI_bw0 (BI_bwo (BI_bwo (BI_bwo hB (by decide)) (by decide)) (by decide)) (show 0 ≤ (u 0 0 + 1).toInt by omega) (Or.inl ⟨rfl, show (u 0 0 + 1).toInt ≤ 6 by omega⟩)⟩
theorem R_readLock {s e k len : Int32} {tx : Fn} {u : Blk} (hB : BlkInv u) (hl : 0 ≤ len.toInt ∧ len.toInt ≤ 160) (hk : 0 ≤ s.toInt ∧ s.toInt ≤ e.toInt ∧ e.toInt ≤ len.toInt) : TokR (f_X4_readLock s e k tx len u) len := by
  rw [f_X4_readLock]
  split
  · exact ⟨hk, hB⟩
  · have t1 := (R_takeNumber (e := e) (tx := tx) (a := 0) (b := u 0 0 - 1) hl (by omega)).1
    generalize f_X4_takeNumber e tx len 0 (u 0 0 - 1) = Z at t1 ⊢
    obtain ⟨z0, z1, z2, z3⟩ := Z
    dsimp only at t1 ⊢
    rw [f_X4_readLock_C24]
    split
    · exact ⟨t1, hB⟩
    · split
      · have t2 := (R_takeNumber (e := z2) (tx := tx) (a := 0) (b := u 0 1 - 1) hl (by omega)).1
        generalize f_X4_takeNumber z2 tx len 0 (u 0 1 - 1) = Y at t2 ⊢
        obtain ⟨y0, y1, y2, y3⟩ := Y
        dsimp only at t2 ⊢
        rw [f_X4_readLock_C65]
        split
        · exact ⟨t2, hB⟩
        · have t3 := R_takeSemicolon (e := y2) (tx := tx) hl (by omega)
          exact ⟨t3, BI_bwo hB (by decide)⟩
      · exact ⟨t1, hB⟩
theorem R_readGate {s e k len : Int32} {tx : Fn} {u : Blk} (hB : BlkInv u) (hl : 0 ≤ len.toInt ∧ len.toInt ≤ 160) (hk : 0 ≤ s.toInt ∧ s.toInt ≤ e.toInt ∧ e.toInt ≤ len.toInt) : TokR (f_X4_readGate s e k tx len u) len := by
  rw [f_X4_readGate]
  split
  · exact ⟨hk, hB⟩
  · have t1 := (R_takeNumber (e := e) (tx := tx) (a := 0) (b := u 0 0 - 1) hl (by omega)).1
    generalize f_X4_takeNumber e tx len 0 (u 0 0 - 1) = Z at t1 ⊢
    obtain ⟨z0, z1, z2, z3⟩ := Z
    dsimp only at t1 ⊢
    rw [f_X4_readGate_C24]
    split
    · exact ⟨t1, hB⟩
    · split
      · have t2 := (R_takeNumber (e := z2) (tx := tx) (a := 0) (b := u 0 1 - 1) hl (by omega)).1
        generalize f_X4_takeNumber z2 tx len 0 (u 0 1 - 1) = Y at t2 ⊢
        obtain ⟨y0, y1, y2, y3⟩ := Y
        dsimp only at t2 ⊢
        rw [f_X4_readGate_C65]
        split
        · exact ⟨t2, hB⟩
        · split
          · exact ⟨t2, hB⟩
          · have t3 := R_takeSemicolon (e := y2) (tx := tx) hl (by omega)
            exact ⟨t3, BI_bwo hB (by decide)⟩
      · exact ⟨t1, hB⟩
theorem R_readAlias_C80 {len : Int32} {tx : Fn} {u : Blk} {a b s e k : Int32} (hB : BlkInv u) (hl : 0 ≤ len.toInt ∧ len.toInt ≤ 160) (h4 : (u 0 2).toInt < 4) (hk : 0 ≤ s.toInt ∧ s.toInt ≤ e.toInt ∧ e.toInt ≤ len.toInt) : TokR (f_X4_readAlias_C80 tx len u a b s e k) len := by
  have ha := BI_als hB
  rw [f_X4_readAlias_C80]
  split
  · exact ⟨hk, hB⟩
  · split
    · exact ⟨hk, hB⟩
    · generalize f_X7_kind s e k tx = K
      have t5 := R_takeSemicolon (e := e) (tx := tx) hl (by omega)
      have e3 := rg_inc (x := u 0 2) ha.1 (by omega)
      have hc : bw u 12 a.toNatClampNeg K 0 2 = u 0 2 := by rw [bw_ne (by decide)]
      rw [hc]
      exact ⟨t5, BI_bw0 (BI_bwo hB (by decide)) (by omega) (Or.inr (Or.inr ⟨rfl, by omega⟩))⟩
theorem R_readAlias_C55 {len : Int32} {tx : Fn} {u : Blk} {a b s e k : Int32} (hB : BlkInv u) (hl : 0 ≤ len.toInt ∧ len.toInt ≤ 160) (h4 : (u 0 2).toInt < 4) (hk : 0 ≤ s.toInt ∧ s.toInt ≤ e.toInt ∧ e.toInt ≤ len.toInt) (hn : b.toInt = 0 ∨ (0 ≤ (f_X7_number s e k tx).toInt ∧ (f_X7_number s e k tx).toInt < 6)) : TokR (f_X4_readAlias_C55 tx len u a b s e k) len := by
  rw [f_X4_readAlias_C55]
  split
  · exact ⟨hk, hB⟩
  · rename_i h3
    have i3 := rne h3
    rw [z0I] at i3
    generalize f_X7_number s e k tx = N at hn ⊢
    have t4 := R_takeKind (e := e) (tx := tx) hl (by omega)
    exact R_readAlias_C80 (BI_bw11 hB (by omega)) hl (by rw [bw_ne (by decide)]; exact h4) t4
theorem R_readAlias {s e k len : Int32} {tx : Fn} {u : Blk} (hB : BlkInv u) (hl : 0 ≤ len.toInt ∧ len.toInt ≤ 160) (hk : 0 ≤ s.toInt ∧ s.toInt ≤ e.toInt ∧ e.toInt ≤ len.toInt) : TokR (f_X4_readAlias s e k tx len u) len := by
  have hr := BI_regs hB
  rw [f_X4_readAlias]
  split
  · exact ⟨hk, hB⟩
  · rename_i h1
    have i1 := rnle h1
    rw [show (4 : Int32).toInt = 4 by decide] at i1
    have t1 := (R_takeNumber (e := e) (tx := tx) (a := 0) (b := 15) hl (by omega)).1
    generalize f_X4_takeNumber e tx len 0 15 = Z at t1 ⊢
    obtain ⟨z0, z1, z2, z3⟩ := Z
    dsimp only at t1 ⊢
    rw [f_X4_readAlias_C20]
    split
    · exact ⟨t1, hB⟩
    · generalize f_X7_number z1 z2 z3 tx = N
      have hc0 : bw u 10 (u 0 2).toNatClampNeg N 0 0 = u 0 0 := by rw [bw_ne (by decide)]
      rw [hc0]
      obtain ⟨t2, n2⟩ := R_takeNumber (e := z2) (tx := tx) (a := 0) (b := u 0 0 - 1) hl (by omega)
      rw [sub1 hr.1 (by omega), z0I] at n2
      exact R_readAlias_C55 (BI_bwo hB (by decide)) hl (by rw [bw_ne (by decide)]; exact i1) t2 (by omega)
theorem R_readField {s e k len : Int32} {tx : Fn} {u : Blk} (hB : BlkInv u) (hl : 0 ≤ len.toInt ∧ len.toInt ≤ 160) (hk : 0 ≤ s.toInt ∧ s.toInt ≤ e.toInt ∧ e.toInt ≤ len.toInt) : TokR (f_X4_readField s e k tx len u) len := by
  have hr := BI_regs hB
  have hf := BI_flds hB
  rw [f_X4_readField]
  split
  · exact ⟨hk, hB⟩
  · rename_i h1
    have i1 := rnle h1
    rw [show (12 : Int32).toInt = 12 by decide] at i1
    split
    · exact ⟨hk, hB⟩
    · rename_i h2
      have i2 := rnlt h2
      rw [z0I, sub1 hr.1 (by omega)] at i2
      have e2 := sub1 hr.1 (by omega)
      have t1 := R_takeKind (e := e) (tx := tx) hl (by omega)
      generalize f_X4_takeKind e tx len = Z at t1 ⊢
      obtain ⟨z0, z1, z2, z3⟩ := Z
      dsimp only at t1 ⊢
      rw [f_X4_readField_C32]
      split
      · exact ⟨t1, hB⟩
      · have hB1 : BlkInv (bw (bw u 4 (u 0 1).toNatClampNeg (u 0 0 - 1)) 5 (u 0 1).toNatClampNeg (f_X7_kind z1 z2 z3 tx)) := BI_bwo (BI_bw4 hB (by omega)) (by decide)
        have hc : bw (bw u 4 (u 0 1).toNatClampNeg (u 0 0 - 1)) 5 (u 0 1).toNatClampNeg (f_X7_kind z1 z2 z3 tx) 0 1 = u 0 1 := rfl
        generalize bw (bw u 4 (u 0 1).toNatClampNeg (u 0 0 - 1)) 5 (u 0 1).toNatClampNeg (f_X7_kind z1 z2 z3 tx) = u1 at hB1 hc ⊢
        have t2 := (R_takeNumber (e := z2) (tx := tx) (a := 0) (b := 7) hl (by omega)).1
        generalize f_X4_takeNumber z2 tx len 0 7 = Y at t2 ⊢
        obtain ⟨y0, y1, y2, y3⟩ := Y
        dsimp only at t2 ⊢
        rw [f_X4_readField_C79]
        split
        · exact ⟨t2, hB1⟩
        · split
          · generalize f_X7_number y1 y2 y3 tx = lo
            have t3 := (R_takeNumber (e := y2) (tx := tx) (a := lo) (b := 7) hl (by omega)).1
            generalize f_X4_takeNumber y2 tx len lo 7 = V at t3 ⊢
            obtain ⟨v0, v1, v2, v3⟩ := V
            dsimp only at t3 ⊢
            rw [f_X4_readField_C110]
            split
            · exact ⟨t3, hB1⟩
            · split
              · generalize f_X7_number v1 v2 v3 tx = hi
                generalize ((2 : Int32) <<< (hi &&& 31)) - ((1 : Int32) <<< (lo &&& 31)) = mk
                have t4 := (R_takeNumber (e := v2) (tx := tx) (a := 0) (b := mk >>> (lo &&& 31)) hl (by omega)).1
                generalize f_X4_takeNumber v2 tx len 0 (mk >>> (lo &&& 31)) = U at t4 ⊢
                obtain ⟨w0, w1, w2, w3⟩ := U
                dsimp only at t4 ⊢
                rw [f_X4_readField_C152]
                split
                · exact ⟨t4, hB1⟩
                · have t5 := R_takeSemicolon (e := w2) (tx := tx) hl (by omega)
                  have e3 := rg_inc (x := u 0 1) hf.1 (by omega)
                  exact ⟨t5, BI_bw0 (BI_bwo (BI_bwo (BI_bwo (BI_bwo hB1 (by decide)) (by decide)) (by decide)) (by decide)) (show 0 ≤ (u1 0 1 + 1).toInt by rw [hc]; omega) (Or.inr (Or.inl ⟨rfl, show (u1 0 1 + 1).toInt ≤ 12 by rw [hc]; omega⟩))⟩
              · exact ⟨t3, hB1⟩
          · exact ⟨t2, hB1⟩
theorem R_readItem {s e k len : Int32} {tx : Fn} {u : Blk} (hB : BlkInv u) (hl : 0 ≤ len.toInt ∧ len.toInt ≤ 160) (hk : 0 ≤ s.toInt ∧ s.toInt ≤ e.toInt ∧ e.toInt ≤ len.toInt) : TokR (f_X4_readItem s e k tx len u) len := by
  rw [f_X4_readItem]
  split
  · exact R_readAlias hB hl hk
  · split
    · exact R_readField hB hl hk
    · split
      · exact R_readLock hB hl hk
      · split
        · exact R_readRegister hB hl hk
        · split
          · exact R_readGate hB hl hk
          · exact ⟨hk, hB⟩
