/-! facts on the model's reader of items -/
def RD (ty p f : Int32) (T : Fn × Int32 × Int32 × Int32 × Int32 × Int32) : Prop := DraftInv T.1 ∧ MR ty p f (0, T.2)
theorem RD.tr {ty p f i a b k v g : Int32} {T : Fn × Int32 × Int32 × Int32 × Int32 × Int32} (h1 : MR ty p f (i, a, b, k, v, g)) (h2 : RD ty a g T) : RD ty p f T := ⟨h2.1, MR.tr h1 h2.2 rfl⟩
theorem MR.stay {ty p ta tk v f : Int32} (h : 0 ≤ p.toInt ∧ p.toInt ≤ ty.toInt) (ht : 0 ≤ ta.toInt) (hf : f.toInt ≠ -9) : MR ty p f (0, p, ta, tk, v, f) := ⟨⟨Int.le_refl _, h.2⟩, ht, Or.inl hf⟩
theorem k9 : (-9 : Int32).toInt = -9 := by decide
theorem ix90 : (90 : Int32).toNatClampNeg = 90 := by decide
theorem ix91 : (91 : Int32).toNatClampNeg = 91 := by decide
theorem ix92 : (92 : Int32).toNatClampNeg = 92 := by decide
/-- a store in the rows under way at c + x, far from the counters -/
theorem RM_readRegister {d tx : Fn} {ty p ta tk v f : Int32} (hD : DraftInv d) (hr : (d (90 : Int32).toNatClampNeg).toInt < 6) (hy : 0 ≤ ty.toInt ∧ ty.toInt ≤ 160) (h : 0 ≤ p.toInt ∧ p.toInt ≤ ty.toInt) (ht : 0 ≤ ta.toInt) : RD ty p f (f_X9_readRegister d tx ty p ta tk v f) := by
  have m := number_MR (tx := tx) (tk := tk) (v := v) (f := f) (a := 0) (b := 15) hy h ht
  have h90 := DI_90 hD
  rw [f_X9_readRegister]
  generalize f_X9_number tx ty p ta tk v f 0 15 = Z at m ⊢
  obtain ⟨z0, z1, z2, z3, z4, z5⟩ := Z
  dsimp only at m ⊢
  generalize hx : d (90 : Int32).toNatClampNeg = x at hr h90 ⊢
  have i0 := ixa (c := 0) (x := x) 0 (by decide) (by decide) h90.1 (by omega)
  have i6 := ixa (c := 6) (x := x) 6 (by decide) (by decide) h90.1 (by omega)
  have i12 := ixa (c := 12) (x := x) 12 (by decide) (by decide) h90.1 (by omega)
  rw [f_X9_readRegister_C15]
  split
  · refine ⟨?_, m⟩
    have e3 := rg_inc (x := x) h90.1 (by omega)
    rw [upd_o (by rw [ix90, i12]; omega), upd_o (by rw [ix90, i6]; omega), upd_o (by rw [ix90, i0]; omega), hx, i0, i6, i12, ix90]
    refine DI_upd (DI_upd (DI_upd (DI_upd hD ?_ ?_ ?_ ?_ ?_ ?_ ?_ ?_) ?_ ?_ ?_ ?_ ?_ ?_ ?_ ?_) ?_ ?_ ?_ ?_ ?_ ?_ ?_ ?_) ?_ ?_ ?_ ?_ ?_ ?_ ?_ ?_ <;> (intros; first | omega | (rw [k9]; omega))
  · exact ⟨hD, m⟩
theorem RF_J170 {d : Fn} {ty x1 x3 x4 x5 s0 p ta tk v f : Int32} (hD : DraftInv d) (h91 : (d (91 : Int32).toNatClampNeg).toInt < 12) (hx : 0 ≤ x1.toInt ∧ x1.toInt < 6) (hl : f.toInt ≠ -9 ∨ 0 ≤ x4.toInt) (hh : f.toInt ≠ -9 ∨ x5.toInt ≤ 7) : DraftInv (f_X9_readField_J170 d x1 x3 x4 x5 s0 p ta tk v f).1 ∧ (f_X9_readField_J170 d x1 x3 x4 x5 s0 p ta tk v f).2 = (p, ta, tk, v, f) := by
  have h0 := DI_91 hD
  rw [f_X9_readField_J170]
  split
  · rename_i h1
    have i1 := congrArg Int32.toInt h1
    rw [k9] at i1
    refine ⟨?_, rfl⟩
    generalize hz : d (91 : Int32).toNatClampNeg = x at h91 h0 ⊢
    have i18 := ixa (c := 18) (x := x) 18 (by decide) (by decide) h0.1 (by omega)
    have i30 := ixa (c := 30) (x := x) 30 (by decide) (by decide) h0.1 (by omega)
    have i42 := ixa (c := 42) (x := x) 42 (by decide) (by decide) h0.1 (by omega)
    have i54 := ixa (c := 54) (x := x) 54 (by decide) (by decide) h0.1 (by omega)
    have i66 := ixa (c := 66) (x := x) 66 (by decide) (by decide) h0.1 (by omega)
    have e3 := rg_inc (x := x) h0.1 (by omega)
    rw [upd_o (by rw [ix91, i66]; omega), upd_o (by rw [ix91, i54]; omega), upd_o (by rw [ix91, i42]; omega), upd_o (by rw [ix91, i30]; omega), upd_o (by rw [ix91, i18]; omega), hz, i18, i30, i42, i54, i66, ix91]
    refine DI_upd (DI_upd (DI_upd (DI_upd (DI_upd (DI_upd hD ?_ ?_ ?_ ?_ ?_ ?_ ?_ ?_) ?_ ?_ ?_ ?_ ?_ ?_ ?_ ?_) ?_ ?_ ?_ ?_ ?_ ?_ ?_ ?_) ?_ ?_ ?_ ?_ ?_ ?_ ?_ ?_) ?_ ?_ ?_ ?_ ?_ ?_ ?_ ?_) ?_ ?_ ?_ ?_ ?_ ?_ ?_ ?_ <;> (intros; omega)
  · exact ⟨hD, rfl⟩
theorem RF_C139 {d tx : Fn} {ty x1 x3 x4 s0 p ta tk v f : Int32} (hD : DraftInv d) (h91 : (d (91 : Int32).toNatClampNeg).toInt < 12) (hx : 0 ≤ x1.toInt ∧ x1.toInt < 6) (hl : f.toInt ≠ -9 ∨ 0 ≤ x4.toInt) (hh : f.toInt ≠ -9 ∨ s0.toInt ≤ 7) (hy : 0 ≤ ty.toInt ∧ ty.toInt ≤ 160) (h : 0 ≤ p.toInt ∧ p.toInt ≤ ty.toInt) (ht : 0 ≤ ta.toInt) : RD ty p f (f_X9_readField_C139 d tx ty x1 x3 x4 s0 p ta tk v f) := by
  rw [f_X9_readField_C139]
  split
  · generalize ((1 : Int32) <<< ((s0 - x4 + 1) &&& 31)) - 1 = b
    have m := number_MR (tx := tx) (tk := tk) (v := v) (f := f) (a := 0) (b := b) hy h ht
    generalize f_X9_number tx ty p ta tk v f 0 b = Z at m ⊢
    obtain ⟨z0, z1, z2, z3, z4, z5⟩ := Z
    dsimp only at m ⊢
    rw [f_X9_readField_C166]
    have m4 := m.2.2
    dsimp only at m4
    obtain ⟨a, e⟩ := RF_J170 (ty := ty) (x3 := x3) (s0 := z0) (p := z1) (ta := z2) (tk := z3) (v := z4) (f := z5) hD h91 hx (x4 := x4) (x5 := s0) (by omega) (by omega)
    exact ⟨a, by rw [e]; exact m⟩
  · rename_i h1
    have i1 := rne h1
    rw [k9] at i1
    obtain ⟨a, e⟩ := RF_J170 (ty := ty) (x3 := x3) (s0 := 0) (p := p) (ta := ta) (tk := tk) (v := v) (f := f) hD h91 hx (x4 := x4) (x5 := s0) hl hh
    exact ⟨a, by rw [e]; exact MR.stay h ht i1⟩
theorem RF_J136 {d tx : Fn} {ty x1 x3 x4 s1 p ta tk v f : Int32} (hD : DraftInv d) (h91 : (d (91 : Int32).toNatClampNeg).toInt < 12) (hx : 0 ≤ x1.toInt ∧ x1.toInt < 6) (hl : f.toInt ≠ -9 ∨ 0 ≤ x4.toInt) (hs : s1.toInt = 0 ∨ v.toInt ≤ 7) (hy : 0 ≤ ty.toInt ∧ ty.toInt ≤ 160) (h : 0 ≤ p.toInt ∧ p.toInt ≤ ty.toInt) (ht : 0 ≤ ta.toInt) : RD ty p f (f_X9_readField_J136 d tx ty p ta tk v f x1 x3 x4 s1) := by
  have m := must_MR (tx := tx) (tk := tk) (v := v) (f := f) (is := s1) hy h ht
  have e := must_its (tx := tx) (ty := ty) (p := p) (ta := ta) (tk := tk) (v := v) (f := f) (is := s1)
  have q := must_is (tx := tx) (tk := tk) (v := v) (f := f) (is := s1) hy h ht
  rw [f_X9_readField_J136]
  generalize f_X9_must tx ty p ta tk v f s1 = Z at m e q ⊢
  obtain ⟨z0, z1, z2, z3, z4, z5⟩ := Z
  dsimp only at m e q ⊢
  obtain ⟨⟨m1, m2⟩, m3, m4⟩ := id m
  dsimp only at m1 m2 m3 m4
  exact RD.tr m (RF_C139 hD h91 hx (by omega) (by rw [e]; omega) hy ⟨by omega, m2⟩ m3)
theorem RF_C90 {d tx : Fn} {ty x1 x2 x3 s0 p ta tk v f : Int32} (hD : DraftInv d) (h91 : (d (91 : Int32).toNatClampNeg).toInt < 12) (hx : 0 ≤ x1.toInt ∧ x1.toInt < 6) (hl : f.toInt ≠ -9 ∨ 0 ≤ s0.toInt) (hy : 0 ≤ ty.toInt ∧ ty.toInt ≤ 160) (h : 0 ≤ p.toInt ∧ p.toInt ≤ ty.toInt) (ht : 0 ≤ ta.toInt) : RD ty p f (f_X9_readField_C90 d tx ty x1 x2 x3 s0 p ta tk v f) := by
  rw [f_X9_readField_C90]
  simp only [f_X9_readField_J135]
  split
  · split
    · exact RF_J136 hD h91 hx hl (Or.inl z0I) hy h ht
    · rename_i h2
      have i2 := rIN h2
      rw [show (7 : Int32).toInt = 7 by decide] at i2
      split
      · exact RF_J136 hD h91 hx hl (Or.inr i2.2) hy h ht
      · exact RF_J136 hD h91 hx hl (Or.inl z0I) hy h ht
  · exact RF_J136 hD h91 hx hl (Or.inl z0I) hy h ht
theorem RF_J87 {d tx : Fn} {ty x1 x2 x3 s1 p ta tk v f : Int32} (hD : DraftInv d) (h91 : (d (91 : Int32).toNatClampNeg).toInt < 12) (hx : 0 ≤ x1.toInt ∧ x1.toInt < 6) (hs : s1.toInt = 0 ∨ 0 ≤ v.toInt) (hy : 0 ≤ ty.toInt ∧ ty.toInt ≤ 160) (h : 0 ≤ p.toInt ∧ p.toInt ≤ ty.toInt) (ht : 0 ≤ ta.toInt) : RD ty p f (f_X9_readField_J87 d tx ty p ta tk v f x1 x2 x3 s1) := by
  have m := must_MR (tx := tx) (tk := tk) (v := v) (f := f) (is := s1) hy h ht
  have e := must_its (tx := tx) (ty := ty) (p := p) (ta := ta) (tk := tk) (v := v) (f := f) (is := s1)
  have q := must_is (tx := tx) (tk := tk) (v := v) (f := f) (is := s1) hy h ht
  rw [f_X9_readField_J87]
  generalize f_X9_must tx ty p ta tk v f s1 = Z at m e q ⊢
  obtain ⟨z0, z1, z2, z3, z4, z5⟩ := Z
  dsimp only at m e q ⊢
  obtain ⟨⟨m1, m2⟩, m3, m4⟩ := id m
  dsimp only at m1 m2 m3 m4
  exact RD.tr m (RF_C90 hD h91 hx (by rw [e]; omega) hy ⟨by omega, m2⟩ m3)
theorem RF_C45 {d tx : Fn} {ty x1 x2 s0 p ta tk v f : Int32} (hD : DraftInv d) (h91 : (d (91 : Int32).toNatClampNeg).toInt < 12) (hx : 0 ≤ x1.toInt ∧ x1.toInt < 6) (hy : 0 ≤ ty.toInt ∧ ty.toInt ≤ 160) (h : 0 ≤ p.toInt ∧ p.toInt ≤ ty.toInt) (ht : 0 ≤ ta.toInt) : RD ty p f (f_X9_readField_C45 d tx ty x1 x2 s0 p ta tk v f) := by
  rw [f_X9_readField_C45]
  simp only [f_X9_readField_J86]
  split
  · split
    · exact RF_J87 hD h91 hx (Or.inl z0I) hy h ht
    · rename_i h2
      have i2 := rIN h2
      rw [z0I] at i2
      split
      · exact RF_J87 hD h91 hx (Or.inr i2.1) hy h ht
      · exact RF_J87 hD h91 hx (Or.inl z0I) hy h ht
  · exact RF_J87 hD h91 hx (Or.inl z0I) hy h ht
theorem RF_J42 {d tx : Fn} {ty x1 x2 s1 p ta tk v f : Int32} (hD : DraftInv d) (h91 : (d (91 : Int32).toNatClampNeg).toInt < 12) (hx : 0 ≤ x1.toInt ∧ x1.toInt < 6) (hy : 0 ≤ ty.toInt ∧ ty.toInt ≤ 160) (h : 0 ≤ p.toInt ∧ p.toInt ≤ ty.toInt) (ht : 0 ≤ ta.toInt) : RD ty p f (f_X9_readField_J42 d tx ty p ta tk v f x1 x2 s1) := by
  have m := must_MR (tx := tx) (tk := tk) (v := v) (f := f) (is := s1) hy h ht
  rw [f_X9_readField_J42]
  generalize f_X9_must tx ty p ta tk v f s1 = Z at m ⊢
  obtain ⟨z0, z1, z2, z3, z4, z5⟩ := Z
  dsimp only at m ⊢
  obtain ⟨⟨m1, m2⟩, m3, m4⟩ := id m
  dsimp only at m1 m2 m3 m4
  exact RD.tr m (RF_C45 hD h91 hx hy ⟨by omega, m2⟩ m3)
theorem RM_readField {d tx : Fn} {ty p ta tk v f : Int32} (hD : DraftInv d) (h90 : 1 ≤ (d (90 : Int32).toNatClampNeg).toInt) (h91 : (d (91 : Int32).toNatClampNeg).toInt < 12) (hy : 0 ≤ ty.toInt ∧ ty.toInt ≤ 160) (h : 0 ≤ p.toInt ∧ p.toInt ≤ ty.toInt) (ht : 0 ≤ ta.toInt) : RD ty p f (f_X9_readField d tx ty p ta tk v f) := by
  have h0 := DI_90 hD
  have e := sub1 h0.1 (by omega)
  rw [f_X9_readField]
  simp only [f_X9_readField_J41]
  repeat' split
  all_goals exact RF_J42 hD h91 (by omega) hy h ht
theorem RA_C77 {d : Fn} {x1 x2 x3 s0 p ta tk v f : Int32} (hD : DraftInv d) (h92 : (d (92 : Int32).toNatClampNeg).toInt < 4) (hx : f.toInt ≠ -9 ∨ (0 ≤ x2.toInt ∧ x2.toInt < 6)) : DraftInv (f_X9_readAlias_C77 d x1 x2 x3 s0 p ta tk v f).1 ∧ (f_X9_readAlias_C77 d x1 x2 x3 s0 p ta tk v f).2 = (p, ta, tk, v, f) := by
  have h0 := DI_92 hD
  rw [f_X9_readAlias_C77]
  split
  · rename_i h1
    have i1 := congrArg Int32.toInt h1
    rw [k9] at i1
    refine ⟨?_, rfl⟩
    generalize hz : d (92 : Int32).toNatClampNeg = x at h92 h0 ⊢
    have i78 := ixa (c := 78) (x := x) 78 (by decide) (by decide) h0.1 (by omega)
    have i82 := ixa (c := 82) (x := x) 82 (by decide) (by decide) h0.1 (by omega)
    have i86 := ixa (c := 86) (x := x) 86 (by decide) (by decide) h0.1 (by omega)
    have e3 := rg_inc (x := x) h0.1 (by omega)
    rw [upd_o (by rw [ix92, i86]; omega), upd_o (by rw [ix92, i82]; omega), upd_o (by rw [ix92, i78]; omega), hz, i78, i82, i86, ix92]
    refine DI_upd (DI_upd (DI_upd (DI_upd hD ?_ ?_ ?_ ?_ ?_ ?_ ?_ ?_) ?_ ?_ ?_ ?_ ?_ ?_ ?_ ?_) ?_ ?_ ?_ ?_ ?_ ?_ ?_ ?_) ?_ ?_ ?_ ?_ ?_ ?_ ?_ ?_ <;> (intros; omega)
  · exact ⟨hD, rfl⟩
theorem RA_J74 {d tx : Fn} {ty x1 x2 x3 s1 p ta tk v f : Int32} (hD : DraftInv d) (h92 : (d (92 : Int32).toNatClampNeg).toInt < 4) (hx : f.toInt ≠ -9 ∨ (0 ≤ x2.toInt ∧ x2.toInt < 6)) (hy : 0 ≤ ty.toInt ∧ ty.toInt ≤ 160) (h : 0 ≤ p.toInt ∧ p.toInt ≤ ty.toInt) (ht : 0 ≤ ta.toInt) : RD ty p f (f_X9_readAlias_J74 d tx ty p ta tk v f x1 x2 x3 s1) := by
  have m := must_MR (tx := tx) (tk := tk) (v := v) (f := f) (is := s1) hy h ht
  rw [f_X9_readAlias_J74]
  generalize f_X9_must tx ty p ta tk v f s1 = Z at m ⊢
  obtain ⟨z0, z1, z2, z3, z4, z5⟩ := Z
  dsimp only at m ⊢
  have m4 := m.2.2
  dsimp only at m4
  obtain ⟨a, e⟩ := RA_C77 (x1 := x1) (x3 := x3) (s0 := z0) (p := z1) (ta := z2) (tk := z3) (v := z4) (f := z5) (x2 := x2) hD h92 (by omega)
  exact ⟨a, by rw [e]; exact m⟩
theorem RM_readAlias {d tx : Fn} {ty p ta tk v f : Int32} (hD : DraftInv d) (h92 : (d (92 : Int32).toNatClampNeg).toInt < 4) (hy : 0 ≤ ty.toInt ∧ ty.toInt ≤ 160) (h : 0 ≤ p.toInt ∧ p.toInt ≤ ty.toInt) (ht : 0 ≤ ta.toInt) : RD ty p f (f_X9_readAlias d tx ty p ta tk v f) := by
  have h0 := DI_90 hD
  have e := sub1 h0.1 (by omega)
  have m := number_MR (tx := tx) (tk := tk) (v := v) (f := f) (a := 0) (b := 15) hy h ht
  rw [f_X9_readAlias]
  generalize f_X9_number tx ty p ta tk v f 0 15 = Z at m ⊢
  obtain ⟨z0, z1, z2, z3, z4, z5⟩ := Z
  dsimp only at m ⊢
  obtain ⟨⟨m1, m2⟩, m3, m4⟩ := id m
  dsimp only at m1 m2 m3 m4
  refine RD.tr m ?_
  have hz : 0 ≤ z1.toInt ∧ z1.toInt ≤ ty.toInt := ⟨by omega, m2⟩
  have n := number_MR (tx := tx) (tk := z3) (v := z4) (f := z5) (a := 0) (b := d (90 : Int32).toNatClampNeg - 1) hy hz m3
  have n2 := number_ok (tx := tx) (tk := z3) (v := z4) (f := z5) (a := 0) (b := d (90 : Int32).toNatClampNeg - 1) hy hz m3
  rw [f_X9_readAlias_C7]
  generalize f_X9_number tx ty z1 z2 z3 z4 z5 0 (d (90 : Int32).toNatClampNeg - 1) = Y at n n2 ⊢
  obtain ⟨y0, y1, y2, y3, y4, y5⟩ := Y
  dsimp only at n n2 ⊢
  obtain ⟨⟨n3, n4⟩, n5, n6⟩ := id n
  dsimp only at n3 n4 n5 n6
  refine RD.tr n ?_
  rw [e, z0I] at n2
  rw [f_X9_readAlias_C22]
  simp only [f_X9_readAlias_J43, f_X9_readAlias_J69]
  repeat' split
  all_goals exact RA_J74 hD h92 (by omega) hy ⟨by omega, n4⟩ n5
theorem RL_J110 {d tx : Fn} {ty x1 x2 s1 p ta tk v f : Int32} (hD : DraftInv d) (hw : x1.toInt = 6 ∨ x1.toInt = 12) (hx : f.toInt ≠ -9 ∨ (0 ≤ x2.toInt ∧ x2.toInt < 6)) (hs : s1.toInt = 0 ∨ (0 ≤ v.toInt ∧ v.toInt < 12)) (hy : 0 ≤ ty.toInt ∧ ty.toInt ≤ 160) (h : 0 ≤ p.toInt ∧ p.toInt ≤ ty.toInt) (ht : 0 ≤ ta.toInt) : RD ty p f (f_X9_readLink_J110 d tx ty p ta tk v f x1 x2 s1) := by
  have m := must_MR (tx := tx) (tk := tk) (v := v) (f := f) (is := s1) hy h ht
  have e := must_its (tx := tx) (ty := ty) (p := p) (ta := ta) (tk := tk) (v := v) (f := f) (is := s1)
  have q := must_is (tx := tx) (tk := tk) (v := v) (f := f) (is := s1) hy h ht
  rw [f_X9_readLink_J110]
  generalize f_X9_must tx ty p ta tk v f s1 = Z at m e q ⊢
  obtain ⟨z0, z1, z2, z3, z4, z5⟩ := Z
  dsimp only at m e q ⊢
  have m4 := m.2.2
  dsimp only at m4
  rw [f_X9_readLink_C113]
  split
  · rename_i h1
    have i1 := congrArg Int32.toInt h1
    rw [k9] at i1
    have e2 := add2 (x := x1) (y := x2) (by omega) (by omega) (by omega) (by omega)
    refine ⟨?_, m⟩
    rw [ixn]
    refine DI_upd hD ?_ ?_ ?_ ?_ ?_ ?_ ?_ ?_ <;> (intros; first | omega | (rw [e]; omega))
  · exact ⟨hD, m⟩
theorem RL_C53 {d tx : Fn} {ty x1 s0 p ta tk v f : Int32} (hD : DraftInv d) (hw : x1.toInt = 6 ∨ x1.toInt = 12) (hx : f.toInt ≠ -9 ∨ (0 ≤ s0.toInt ∧ s0.toInt < 6)) (hy : 0 ≤ ty.toInt ∧ ty.toInt ≤ 160) (h : 0 ≤ p.toInt ∧ p.toInt ≤ ty.toInt) (ht : 0 ≤ ta.toInt) : RD ty p f (f_X9_readLink_C53 d tx ty x1 s0 p ta tk v f) := by
  have h0 := DI_91 hD
  have e := sub1 h0.1 (by omega)
  rw [f_X9_readLink_C53]
  simp only [f_X9_readLink_J105, f_X9_readLink_J109]
  split
  · split
    · exact RL_J110 hD hw hx (Or.inl z0I) hy h ht
    · rename_i h2
      have i2 := rIN h2
      rw [z0I, e] at i2
      repeat' split
      all_goals exact RL_J110 hD hw hx (by omega) hy h ht
  · exact RL_J110 hD hw hx (Or.inl z0I) hy h ht
theorem RL_J50 {d tx : Fn} {ty x1 s1 p ta tk v f : Int32} (hD : DraftInv d) (hw : x1.toInt = 6 ∨ x1.toInt = 12) (hs : s1.toInt = 0 ∨ (0 ≤ v.toInt ∧ v.toInt < 6)) (hy : 0 ≤ ty.toInt ∧ ty.toInt ≤ 160) (h : 0 ≤ p.toInt ∧ p.toInt ≤ ty.toInt) (ht : 0 ≤ ta.toInt) : RD ty p f (f_X9_readLink_J50 d tx ty p ta tk v f x1 s1) := by
  have m := must_MR (tx := tx) (tk := tk) (v := v) (f := f) (is := s1) hy h ht
  have e := must_its (tx := tx) (ty := ty) (p := p) (ta := ta) (tk := tk) (v := v) (f := f) (is := s1)
  have q := must_is (tx := tx) (tk := tk) (v := v) (f := f) (is := s1) hy h ht
  rw [f_X9_readLink_J50]
  generalize f_X9_must tx ty p ta tk v f s1 = Z at m e q ⊢
  obtain ⟨z0, z1, z2, z3, z4, z5⟩ := Z
  dsimp only at m e q ⊢
  obtain ⟨⟨m1, m2⟩, m3, m4⟩ := id m
  dsimp only at m1 m2 m3 m4
  exact RD.tr m (RL_C53 hD hw (by rw [e]; omega) hy ⟨by omega, m2⟩ m3)
theorem RM_readLink {d tx : Fn} {ty p ta tk v f x1 : Int32} (hD : DraftInv d) (hw : x1.toInt = 6 ∨ x1.toInt = 12) (hy : 0 ≤ ty.toInt ∧ ty.toInt ≤ 160) (h : 0 ≤ p.toInt ∧ p.toInt ≤ ty.toInt) (ht : 0 ≤ ta.toInt) : RD ty p f (f_X9_readLink d tx ty p ta tk v f x1) := by
  have h0 := DI_90 hD
  have e := sub1 h0.1 (by omega)
  rw [f_X9_readLink]
  simp only [f_X9_readLink_J49]
  split
  · split
    · exact RL_J50 hD hw (Or.inl z0I) hy h ht
    · rename_i h2
      have i2 := rIN h2
      rw [z0I, e] at i2
      split
      · exact RL_J50 hD hw (by omega) hy h ht
      · exact RL_J50 hD hw (Or.inl z0I) hy h ht
  · exact RL_J50 hD hw (Or.inl z0I) hy h ht
