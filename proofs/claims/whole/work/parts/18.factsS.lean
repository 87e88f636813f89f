/-! facts on the model's reader of a whole item -/
def KI (d : Fn) (x : Int32) : Prop := (x.toInt ≠ 114 ∨ (d (90 : Int32).toNatClampNeg).toInt < 6) ∧ (x.toInt ≠ 102 ∨ ((d (91 : Int32).toNatClampNeg).toInt < 12 ∧ 1 ≤ (d (90 : Int32).toNatClampNeg).toInt)) ∧ (x.toInt ≠ 97 ∨ (d (92 : Int32).toNatClampNeg).toInt < 4)
theorem RI_J182 {d tx : Fn} {ty p ta tk v f : Int32} (hD : DraftInv d) (hy : 0 ≤ ty.toInt ∧ ty.toInt ≤ 160) (h : 0 ≤ p.toInt ∧ p.toInt ≤ ty.toInt) (ht : 0 ≤ ta.toInt) : RD ty p f (f_X9_readItem_J182 tx ty d p ta tk v f) := by
  rw [f_X9_readItem_J182]
  simp only [f_X9_readItem_J196, f_X9_readItem_C199]
  split
  · exact ⟨hD, must_MR (tx := tx) (tk := tk) (v := v) (f := f) (is := 1) hy h ht⟩
  · exact ⟨hD, must_MR (tx := tx) (tk := tk) (v := v) (f := f) (is := 0) hy h ht⟩
theorem RI_J182' {T : Fn × Int32 × Int32 × Int32 × Int32 × Int32} {tx : Fn} {ty p f : Int32} (hy : 0 ≤ ty.toInt ∧ ty.toInt ≤ 160) (h0 : 0 ≤ p.toInt) (h : RD ty p f T) : RD ty p f (f_X9_readItem_J182 tx ty T.1 T.2.1 T.2.2.1 T.2.2.2.1 T.2.2.2.2.1 T.2.2.2.2.2) := by
  obtain ⟨t0, t1, t2, t3, t4, t5⟩ := T
  obtain ⟨hD, m⟩ := h
  dsimp only at hD m ⊢
  obtain ⟨⟨m1, m2⟩, m3, m4⟩ := id m
  dsimp only at m1 m2 m3 m4
  exact RD.tr m (RI_J182 hD hy ⟨by omega, m2⟩ m3)
theorem RI_J112 {d tx : Fn} {ty x1 s1 p ta tk v f : Int32} (hD : DraftInv d) (hs : s1.toInt = 0 ∨ KI d x1) (hy : 0 ≤ ty.toInt ∧ ty.toInt ≤ 160) (h : 0 ≤ p.toInt ∧ p.toInt ≤ ty.toInt) (ht : 0 ≤ ta.toInt) : RD ty p f (f_X9_readItem_J112 d tx ty p ta tk v f x1 s1) := by
  have m := must_MR (tx := tx) (tk := tk) (v := v) (f := f) (is := s1) hy h ht
  have q := must_is (tx := tx) (tk := tk) (v := v) (f := f) (is := s1) hy h ht
  rw [f_X9_readItem_J112]
  generalize f_X9_must tx ty p ta tk v f s1 = Z at m q ⊢
  obtain ⟨z0, z1, z2, z3, z4, z5⟩ := Z
  dsimp only at m q ⊢
  obtain ⟨⟨m1, m2⟩, m3, m4⟩ := id m
  dsimp only at m1 m2 m3 m4
  have hz : 0 ≤ z1.toInt ∧ z1.toInt ≤ ty.toInt := ⟨by omega, m2⟩
  rw [f_X9_readItem_C115]
  split
  · rename_i h1
    have i1 := congrArg Int32.toInt h1
    rw [k9] at i1
    have hK : KI d x1 := by
      rcases hs with hs | hs
      · omega
      · exact hs
    obtain ⟨k1, k2, k3⟩ := hK
    refine RD.tr m ?_
    simp only [f_X9_readItem_C136, f_X9_readItem_C149, f_X9_readItem_C162, f_X9_readItem_J179]
    split
    · rename_i h2
      have i2 := congrArg Int32.toInt h2
      rw [show (114 : Int32).toInt = 114 by decide] at i2
      exact RI_J182' hy hz.1 (RM_readRegister hD (by omega) hy hz m3)
    · split
      · rename_i h2
        have i2 := congrArg Int32.toInt h2
        rw [show (102 : Int32).toInt = 102 by decide] at i2
        exact RI_J182' hy hz.1 (RM_readField hD (by omega) (by omega) hy hz m3)
      · split
        · rename_i h2
          have i2 := congrArg Int32.toInt h2
          rw [show (97 : Int32).toInt = 97 by decide] at i2
          exact RI_J182' hy hz.1 (RM_readAlias hD (by omega) hy hz m3)
        · split
          · exact RI_J182' hy hz.1 (RM_readLink hD (Or.inl (by decide)) hy hz m3)
          · exact RI_J182' hy hz.1 (RM_readLink hD (Or.inr (by decide)) hy hz m3)
  · exact ⟨hD, m⟩
theorem RM_readItem {d tx : Fn} {ty p ta tk v f : Int32} (hD : DraftInv d) (hy : 0 ≤ ty.toInt ∧ ty.toInt ≤ 160) (h : 0 ≤ p.toInt ∧ p.toInt ≤ ty.toInt) (ht : 0 ≤ ta.toInt) : RD ty p f (f_X9_readItem d tx ty p ta tk v f) := by
  have c1 : (114 : Int32).toInt = 114 := by decide
  have c2 : (102 : Int32).toInt = 102 := by decide
  have c3 : (97 : Int32).toInt = 97 := by decide
  have c4 : (107 : Int32).toInt = 107 := by decide
  have c5 : (115 : Int32).toInt = 115 := by decide
  have c6 : (6 : Int32).toInt = 6 := by decide
  have c7 : (12 : Int32).toInt = 12 := by decide
  have c8 : (4 : Int32).toInt = 4 := by decide
  have j103 : ∀ x1 x2 : Int32, x1.toInt = 107 ∨ x1.toInt = 115 → RD ty p f (f_X9_readItem_J103 d tx ty p ta tk v f x1 x2) := by
    intro x1 x2 hx
    rw [f_X9_readItem_J103]
    split
    · exact RI_J112 hD (Or.inl z0I) hy h ht
    · exact RI_J112 hD (Or.inr ⟨by omega, by omega, by omega⟩) hy h ht
  have j91 : ∀ x1 x2 : Int32, RD ty p f (f_X9_readItem_J91 d tx ty p ta tk v f x1 x2) := by
    intro x1 x2
    rw [f_X9_readItem_J91]
    split
    · rename_i g; exact j103 _ _ (Or.inl ((congrArg Int32.toInt g).trans c4))
    · split
      · rename_i g; exact j103 _ _ (Or.inr ((congrArg Int32.toInt g).trans c5))
      · exact RI_J112 hD (Or.inl z0I) hy h ht
  have j74 : ∀ x1 x2 : Int32, RD ty p f (f_X9_readItem_J74 d tx ty p ta tk v f x1 x2) := by
    intro x1 x2
    rw [f_X9_readItem_J74]
    split
    · rename_i g
      have g := congrArg Int32.toInt g
      split
      · rename_i g2
        have g2 := rlt g2
        exact RI_J112 hD (Or.inr ⟨by omega, by omega, by omega⟩) hy h ht
      · exact j91 _ _
    · exact j91 _ _
  have j52 : ∀ x1 x2 : Int32, x2.toInt = 0 ∨ 1 ≤ (d (90 : Int32).toNatClampNeg).toInt → RD ty p f (f_X9_readItem_J52 d tx ty p ta tk v f x1 x2) := by
    intro x1 x2 hx
    rw [f_X9_readItem_J52]
    split
    · rename_i g
      have g := congrArg Int32.toInt g
      split
      · exact j74 _ _
      · rename_i g1
        have g1 := rne g1
        rw [z0I] at g1
        split
        · rename_i g2
          have g2 := rlt g2
          exact RI_J112 hD (Or.inr ⟨by omega, by omega, by omega⟩) hy h ht
        · exact j74 _ _
    · exact j74 _ _
  have j32 : ∀ x1 x2 : Int32, x2.toInt = 0 ∨ 1 ≤ (d (90 : Int32).toNatClampNeg).toInt → RD ty p f (f_X9_readItem_J32 d tx ty p ta tk v f x1 x2) := by
    intro x1 x2 hx
    rw [f_X9_readItem_J32]
    split
    · rename_i g
      have g := congrArg Int32.toInt g
      split
      · rename_i g2
        have g2 := rlt g2
        exact RI_J112 hD (Or.inr ⟨by omega, by omega, by omega⟩) hy h ht
      · exact j52 _ _ hx
    · exact j52 _ _ hx
  have j16 : ∀ x1 : Int32, RD ty p f (f_X9_readItem_J16 d tx ty p ta tk v f x1) := by
    intro x1
    rw [f_X9_readItem_J16]
    split
    · exact j32 _ _ (Or.inl z0I)
    · rename_i g
      have g := rnle g
      rw [z0I] at g
      exact j32 _ _ (Or.inr (by omega))
  rw [f_X9_readItem]
  split
  · exact j16 _
  · exact j16 _
theorem zf_0 {d : Fn} : ∀ j : Nat, (j : Int) < (0 : Int32).toInt → d j = 0 := fun j h => by rw [z0I] at h; omega
theorem zf_s {d : Fn} {x : Int32} (h : ∀ j : Nat, (j : Int) < x.toInt → d j = 0) (h0 : 0 ≤ x.toInt) (h1 : x.toInt < 1000) : ∀ j : Nat, (j : Int) < (x + 1).toInt → upd d x.toNatClampNeg 0 j = 0 := fun j hj => by
  rw [rg_inc h0 (by omega)] at hj
  unfold upd
  split
  · rfl
  · rename_i g
    rw [ixn] at g
    exact h j (by omega)
theorem cp_0 {d e : Fn} : ∀ j : Nat, (j : Int) < (0 : Int32).toInt → d j = e j := fun j h => by rw [z0I] at h; omega
theorem cp_s {d e : Fn} {x : Int32} (h : ∀ j : Nat, (j : Int) < x.toInt → d j = e j) (h0 : 0 ≤ x.toInt) (h1 : x.toInt < 1000) : ∀ j : Nat, (j : Int) < (x + 1).toInt → upd d x.toNatClampNeg (e x.toNatClampNeg) j = e j := fun j hj => by
  rw [rg_inc h0 (by omega)] at hj
  unfold upd
  split
  · rename_i g; rw [g]
  · rename_i g
    rw [ixn] at g
    exact h j (by omega)
theorem TI_cong {d e : Fn} (h : ToldInv d) (he : ∀ j : Nat, j < 93 → e j = d j) : ToldInv e := by
  obtain ⟨h1, h2, h3, h4, h5, h6, h7⟩ := h
  refine ⟨?_, ?_, ?_, ?_, ?_, ?_, ?_⟩
  · rw [he _ (by decide)]; exact h1
  · rw [he _ (by decide)]; exact h2
  · rw [he _ (by decide)]; exact h3
  · intro x a b; rw [he _ (by rw [ixa 18 (c := 18) (by decide) (by decide) a (by omega)]; omega)]; exact h4 x a b
  · intro x a b; rw [he _ (by rw [ixa 6 (c := 6) (by decide) (by decide) a (by omega)]; omega)]; exact h5 x a b
  · intro x a b; rw [he _ (by rw [ixa 12 (c := 12) (by decide) (by decide) a (by omega)]; omega)]; exact h6 x a b
  · intro x a b
    have k82 : (82 : Int32).toInt = 82 := by decide
    have k100 : (100 : Int32).toInt = 100 := by decide
    have e1 := add2 (x := 82) (y := x) (by omega) (by omega) (by omega) (by omega)
    have e2 := fb_subI (x := 82 + x) (y := 100) (by omega) (by omega)
    rw [he _ (by rw [ixn, e2, e1, k82, k100]; omega)]; exact h7 x a b
