/-! facts on the model's reader -/
theorem rHere {tx : Fn} {ty at' a b : Int32} (h : ¬ f_X9_isHere tx ty at' a b = 0) : at'.toInt < ty.toInt := by
  unfold f_X9_isHere at h
  split at h
  · exact absurd rfl h
  · rename_i h1; exact rnle h1
theorem NX_L67 {tx : Fn} {ty ta : Int32} (hy : ty.toInt ≤ 160) : ∀ (n : Nat) (p v : Int32), 0 ≤ p.toInt → p.toInt ≤ ty.toInt → p.toInt ≤ (f_X9_next_L67 tx ty ta n p v).1.toInt ∧ (f_X9_next_L67 tx ty ta n p v).1.toInt ≤ ty.toInt ∧ (f_X9_next_L67 tx ty ta n p v).2.1 = ta := by
  intro n
  induction n with
  | zero => intro p v h0 h1; rw [f_X9_next_L67]; exact ⟨Int.le_refl _, h1, rfl⟩
  | succ n ih =>
    intro p v h0 h1
    rw [f_X9_next_L67]
    split
    · repeat' split
      all_goals exact ⟨Int.le_refl _, h1, rfl⟩
    · rename_i h2
      have i2 := rHere h2
      have e := rg_inc h0 (by omega)
      simp only [f_X9_next_J116]
      split
      · have := ih (p + 1) ((10 * v + tx p.toNatClampNeg) - 48) (by omega) (by omega); exact ⟨by omega, this.2.1, this.2.2⟩
      · have := ih (p + 1) v (by omega) (by omega); exact ⟨by omega, this.2.1, this.2.2⟩
theorem NX_L192 {tx : Fn} {ty ta : Int32} (hy : ty.toInt ≤ 160) : ∀ (n : Nat) (p v : Int32), 0 ≤ p.toInt → p.toInt ≤ ty.toInt → p.toInt ≤ (f_X9_next_L192 tx ty ta n p v).1.toInt ∧ (f_X9_next_L192 tx ty ta n p v).1.toInt ≤ ty.toInt ∧ (f_X9_next_L192 tx ty ta n p v).2.1 = ta := by
  intro n
  induction n with
  | zero => intro p v h0 h1; rw [f_X9_next_L192]; exact ⟨Int.le_refl _, h1, rfl⟩
  | succ n ih =>
    intro p v h0 h1
    rw [f_X9_next_L192]
    simp only [f_X9_next_J299, f_X9_next_J304, f_X9_next_J238]
    split
    · repeat' split
      all_goals exact ⟨Int.le_refl _, h1, rfl⟩
    · rename_i h2
      have i2 := rHere h2
      have e := rg_inc h0 (by omega)
      split
      · have := ih (p + 1) (256 * v + tx p.toNatClampNeg) (by omega) (by omega); exact ⟨by omega, this.2.1, this.2.2⟩
      · have := ih (p + 1) v (by omega) (by omega); exact ⟨by omega, this.2.1, this.2.2⟩
theorem NX_L67s {tx : Fn} {ty ta : Int32} (hy : ty.toInt ≤ 160) (n : Nat) (p v : Int32) (h0 : 0 ≤ p.toInt) (h1 : p.toInt ≤ ty.toInt) (h2 : ¬ f_X9_isHere tx ty p 48 57 = 0) : p.toInt < (f_X9_next_L67 tx ty ta (n + 1) p v).1.toInt := by
  have i2 := rHere h2
  have e := rg_inc h0 (by omega)
  rw [f_X9_next_L67, if_neg h2]
  simp only [f_X9_next_J116]
  split
  · have := NX_L67 (tx := tx) (ta := ta) hy n (p + 1) ((10 * v + tx p.toNatClampNeg) - 48) (by omega) (by omega); omega
  · have := NX_L67 (tx := tx) (ta := ta) hy n (p + 1) v (by omega) (by omega); omega
theorem NX_L192s {tx : Fn} {ty ta : Int32} (hy : ty.toInt ≤ 160) (n : Nat) (p v : Int32) (h0 : 0 ≤ p.toInt) (h1 : p.toInt ≤ ty.toInt) (h2 : ¬ f_X9_isHere tx ty p 97 122 = 0) : p.toInt < (f_X9_next_L192 tx ty ta (n + 1) p v).1.toInt := by
  have i2 := rHere h2
  have e := rg_inc h0 (by omega)
  rw [f_X9_next_L192, if_neg h2]
  simp only [f_X9_next_J238]
  split
  · have := NX_L192 (tx := tx) (ta := ta) hy n (p + 1) (256 * v + tx p.toNatClampNeg) (by omega) (by omega); omega
  · have := NX_L192 (tx := tx) (ta := ta) hy n (p + 1) v (by omega) (by omega); omega
/-- the reader's place: a0 at first, now at', with a token behind which something was read (or none left) -/
def PS (ty a0 at' ta tk : Int32) : Prop := 0 ≤ ta.toInt ∧ 0 ≤ a0.toInt ∧ a0.toInt ≤ at'.toInt ∧ at'.toInt ≤ ty.toInt ∧ (tk.toInt = 0 ∨ a0.toInt < at'.toInt)
theorem NX_L0 {tx : Fn} {ty : Int32} (hy : ty.toInt ≤ 160) : ∀ (n : Nat) (p : Int32), 0 ≤ p.toInt → p.toInt ≤ ty.toInt → 160 - p.toInt < n → PS ty p (f_X9_next_L0 tx ty n p).1 (f_X9_next_L0 tx ty n p).2.1 (f_X9_next_L0 tx ty n p).2.2.1 := by
  intro n
  induction n with
  | zero => intro p h0 h1 h2; omega
  | succ n ih =>
    intro p h0 h1 hn
    rw [f_X9_next_L0]
    split
    · split
      · exact ⟨h0, h0, Int.le_refl _, h1, Or.inl z0I⟩
      · rename_i h3
        have i3 := rne h3
        have e := rg_inc h0 (by omega)
        split
        · split
          · simp only [f_X9_next_J353]
            split
            · exact ⟨h0, h0, show p.toInt ≤ (p + 1).toInt by omega, show (p + 1).toInt ≤ _ by omega, Or.inr (show p.toInt < (p + 1).toInt by omega)⟩
            · exact ⟨h0, h0, show p.toInt ≤ (p + 1).toInt by omega, show (p + 1).toInt ≤ _ by omega, Or.inr (show p.toInt < (p + 1).toInt by omega)⟩
          · rename_i h5
            have q := NX_L192s (tx := tx) (ta := p) hy 3999 p 0 h0 h1 h5
            have q2 := NX_L192 (tx := tx) (ta := p) hy 4000 p 0 h0 h1
            exact ⟨by rw [q2.2.2]; exact h0, h0, q2.1, q2.2.1, Or.inr q⟩
        · rename_i h5
          have q := NX_L67s (tx := tx) (ta := p) hy 3999 p 0 h0 h1 h5
          have q2 := NX_L67 (tx := tx) (ta := p) hy 4000 p 0 h0 h1
          exact ⟨by rw [q2.2.2]; exact h0, h0, q2.1, q2.2.1, Or.inr q⟩
    · rename_i h2
      have i2 := rHere h2
      have e := rg_inc h0 (by omega)
      obtain ⟨a0, a, b, c, d⟩ := ih (p + 1) (by omega) (by omega) (by omega)
      exact ⟨a0, h0, by omega, c, by omega⟩
theorem R_next {tx : Fn} {ty p : Int32} (hy : 0 ≤ ty.toInt ∧ ty.toInt ≤ 160) (h : 0 ≤ p.toInt ∧ p.toInt ≤ ty.toInt) : PS ty p (f_X9_next tx ty p).1 (f_X9_next tx ty p).2.1 (f_X9_next tx ty p).2.2.1 := NX_L0 hy.2 _ _ h.1 h.2 (by show 160 - p.toInt < 4000; omega)
theorem must_rng {tx : Fn} {ty p ta tk v f is : Int32} (hy : 0 ≤ ty.toInt ∧ ty.toInt ≤ 160) (h : 0 ≤ p.toInt ∧ p.toInt ≤ ty.toInt) : p.toInt ≤ (f_X9_must tx ty p ta tk v f is).2.1.toInt ∧ (f_X9_must tx ty p ta tk v f is).2.1.toInt ≤ ty.toInt := by
  obtain ⟨a0', a, b, c, d⟩ := R_next (tx := tx) hy h
  rw [f_X9_must]
  split
  · split
    · exact ⟨Int.le_refl _, h.2⟩
    · exact ⟨b, c⟩
  · exact ⟨Int.le_refl _, h.2⟩
theorem must_PS {tx : Fn} {ty p ta tk v f is a0 : Int32} (hy : 0 ≤ ty.toInt ∧ ty.toInt ≤ 160) (h : PS ty a0 p ta tk) : PS ty a0 (f_X9_must tx ty p ta tk v f is).2.1 (f_X9_must tx ty p ta tk v f is).2.2.1 (f_X9_must tx ty p ta tk v f is).2.2.2.1 := by
  obtain ⟨h0, h1, h2, h3, h4⟩ := id h
  obtain ⟨a0', a, b, c, d⟩ := R_next (tx := tx) hy (p := p) ⟨by omega, h3⟩
  rw [f_X9_must]
  split
  · split
    · exact h
    · exact ⟨a0', h1, show a0.toInt ≤ (f_X9_next tx ty p).1.toInt by omega, c, by rcases d with d | d; exact Or.inl d; exact Or.inr (show a0.toInt < (f_X9_next tx ty p).1.toInt by omega)⟩
  · exact h
theorem must_ok {tx : Fn} {ty p ta tk v f is : Int32} (hy : 0 ≤ ty.toInt ∧ ty.toInt ≤ 160) (h : 0 ≤ p.toInt ∧ p.toInt ≤ ty.toInt) (ht : 0 ≤ ta.toInt) : (f_X9_must tx ty p ta tk v f is).2.2.2.2.2.toInt ≠ -9 ∨ (f.toInt = -9 ∧ is.toInt ≠ 0 ∧ PS ty p (f_X9_must tx ty p ta tk v f is).2.1 (f_X9_must tx ty p ta tk v f is).2.2.1 (f_X9_must tx ty p ta tk v f is).2.2.2.1) := by
  have hn := R_next (tx := tx) hy h
  have k9 : (-9 : Int32).toInt = -9 := by decide
  rw [f_X9_must]
  split
  · rename_i h1
    have i1 := congrArg Int32.toInt h1
    split
    · exact Or.inl (show ta.toInt ≠ -9 by omega)
    · rename_i h2
      have i2 := rne h2
      rw [z0I] at i2
      exact Or.inr ⟨by omega, i2, hn⟩
  · rename_i h1
    have i1 := rne h1
    exact Or.inl (show f.toInt ≠ -9 by omega)
theorem must_ta {tx : Fn} {ty p ta tk v f is : Int32} (hy : 0 ≤ ty.toInt ∧ ty.toInt ≤ 160) (h : 0 ≤ p.toInt ∧ p.toInt ≤ ty.toInt) (ht : 0 ≤ ta.toInt) : 0 ≤ (f_X9_must tx ty p ta tk v f is).2.2.1.toInt := by
  have hn := R_next (tx := tx) hy h
  rw [f_X9_must]
  split
  · split
    · exact ht
    · exact hn.1
  · exact ht
theorem must_its {tx : Fn} {ty p ta tk v f is : Int32} : (f_X9_must tx ty p ta tk v f is).1 = v := by
  rw [f_X9_must]
  split
  · split <;> rfl
  · rfl
/-- what a step of the reader does: its answer T (its, at, tokenAt, token, value, fault) -/
def MR (ty p f : Int32) (T : Int32 × Int32 × Int32 × Int32 × Int32 × Int32) : Prop := (p.toInt ≤ T.2.1.toInt ∧ T.2.1.toInt ≤ ty.toInt) ∧ 0 ≤ T.2.2.1.toInt ∧ (T.2.2.2.2.2.toInt ≠ -9 ∨ (f.toInt = -9 ∧ (T.2.2.2.1.toInt = 0 ∨ p.toInt < T.2.1.toInt)))
theorem must_MR {tx : Fn} {ty p ta tk v f is : Int32} (hy : 0 ≤ ty.toInt ∧ ty.toInt ≤ 160) (h : 0 ≤ p.toInt ∧ p.toInt ≤ ty.toInt) (ht : 0 ≤ ta.toInt) : MR ty p f (f_X9_must tx ty p ta tk v f is) := ⟨must_rng hy h, must_ta hy h ht, by
  rcases must_ok (tx := tx) (tk := tk) (v := v) (f := f) (is := is) hy h ht with q | q
  · exact Or.inl q
  · exact Or.inr ⟨q.1, q.2.2.2.2.2.2⟩⟩
theorem must_is {tx : Fn} {ty p ta tk v f is : Int32} (hy : 0 ≤ ty.toInt ∧ ty.toInt ≤ 160) (h : 0 ≤ p.toInt ∧ p.toInt ≤ ty.toInt) (ht : 0 ≤ ta.toInt) : (f_X9_must tx ty p ta tk v f is).2.2.2.2.2.toInt ≠ -9 ∨ is.toInt ≠ 0 := by
  rcases must_ok (tx := tx) (tk := tk) (v := v) (f := f) (is := is) hy h ht with q | q
  · exact Or.inl q
  · exact Or.inr q.2.1
theorem number_eq {tx : Fn} {ty p ta tk v f a b : Int32} : ∃ is : Int32, f_X9_number tx ty p ta tk v f a b = f_X9_must tx ty p ta tk v f is ∧ (is.toInt = 0 ∨ (a.toInt ≤ v.toInt ∧ v.toInt ≤ b.toInt)) := by
  rw [f_X9_number]
  split
  · split
    · exact ⟨0, rfl, Or.inl z0I⟩
    · rename_i h; exact ⟨1, rfl, Or.inr (rIN h)⟩
  · exact ⟨0, rfl, Or.inl z0I⟩
theorem number_MR {tx : Fn} {ty p ta tk v f a b : Int32} (hy : 0 ≤ ty.toInt ∧ ty.toInt ≤ 160) (h : 0 ≤ p.toInt ∧ p.toInt ≤ ty.toInt) (ht : 0 ≤ ta.toInt) : MR ty p f (f_X9_number tx ty p ta tk v f a b) := by
  obtain ⟨is, e, -⟩ := number_eq (tx := tx) (ty := ty) (p := p) (ta := ta) (tk := tk) (v := v) (f := f) (a := a) (b := b)
  rw [e]; exact must_MR hy h ht
theorem number_ok {tx : Fn} {ty p ta tk v f a b : Int32} (hy : 0 ≤ ty.toInt ∧ ty.toInt ≤ 160) (h : 0 ≤ p.toInt ∧ p.toInt ≤ ty.toInt) (ht : 0 ≤ ta.toInt) : (f_X9_number tx ty p ta tk v f a b).2.2.2.2.2.toInt ≠ -9 ∨ (a.toInt ≤ (f_X9_number tx ty p ta tk v f a b).1.toInt ∧ (f_X9_number tx ty p ta tk v f a b).1.toInt ≤ b.toInt) := by
  obtain ⟨is, e, q⟩ := number_eq (tx := tx) (ty := ty) (p := p) (ta := ta) (tk := tk) (v := v) (f := f) (a := a) (b := b)
  rw [e, must_its]
  rcases must_is (tx := tx) (tk := tk) (v := v) (f := f) (is := is) hy h ht with z | z
  · exact Or.inl z
  · rcases q with q | q
    · exact absurd q z
    · exact Or.inr q
theorem MR.tr {ty p p2 f f2 : Int32} {T : Int32 × Int32 × Int32 × Int32 × Int32 × Int32} {i a b k v : Int32} (h1 : MR ty p f (i, a, b, k, v, f2)) (h2 : MR ty a f2 T) (hp : p2 = p) : MR ty p f T := by
  obtain ⟨⟨a1, a2⟩, a3, a4⟩ := h1
  obtain ⟨⟨b1, b2⟩, b3, b4⟩ := h2
  dsimp only at a1 a2 a3 a4
  exact ⟨⟨by omega, b2⟩, b3, by omega⟩
/-- the rows under way: those of a block, lows and highs in their ranges -/
def DraftInv (d : Fn) : Prop := ToldInv d ∧ ∀ x : Int32, 0 ≤ x.toInt → x.toInt < 12 → 0 ≤ (d ((30 : Int32) + x).toNatClampNeg).toInt ∧ (d ((42 : Int32) + x).toNatClampNeg).toInt ≤ 7
theorem DI_90 {d : Fn} (h : DraftInv d) : 0 ≤ (d (90 : Int32).toNatClampNeg).toInt ∧ (d (90 : Int32).toNatClampNeg).toInt ≤ 6 := TI_90 h.1
theorem DI_91 {d : Fn} (h : DraftInv d) : 0 ≤ (d (91 : Int32).toNatClampNeg).toInt ∧ (d (91 : Int32).toNatClampNeg).toInt ≤ 12 := TI_91 h.1
theorem DI_92 {d : Fn} (h : DraftInv d) : 0 ≤ (d (92 : Int32).toNatClampNeg).toInt ∧ (d (92 : Int32).toNatClampNeg).toInt ≤ 4 := TI_92 h.1
theorem DI_lh {d : Fn} {x : Int32} (h : DraftInv d) (h0 : 0 ≤ x.toInt) (h1 : x.toInt < 12) : 0 ≤ (d ((30 : Int32) + x).toNatClampNeg).toInt ∧ (d ((42 : Int32) + x).toNatClampNeg).toInt ≤ 7 := h.2 x h0 h1
theorem upd_w {d : Fn} {i j : Nat} {v : Int32} {P : Int32 → Prop} (h0 : P (d j)) (h1 : j = i → P v) : P (upd d i v j) := by
  unfold upd; split
  · rename_i h; exact h1 h
  · exact h0
theorem ixa {c : Nat} {x : Int32} (k : Int32) (hk : k.toInt = c) (hc : c ≤ 1000) (h0 : 0 ≤ x.toInt) (h1 : x.toInt < 1000) : (k + x).toNatClampNeg = c + x.toInt.toNat := by
  have e := add2 (x := k) (y := x) (by omega) h0 (by omega) (by omega)
  rw [ixn, e, hk]; omega
theorem DI_upd {d : Fn} {i : Nat} {v : Int32} (h : DraftInv d) (c90 : i = 90 → 0 ≤ v.toInt ∧ v.toInt ≤ 6) (c91 : i = 91 → 0 ≤ v.toInt ∧ v.toInt ≤ 12) (c92 : i = 92 → 0 ≤ v.toInt ∧ v.toInt ≤ 4) (c18 : 18 ≤ i → i < 30 → 0 ≤ v.toInt ∧ v.toInt < 6) (c6 : 6 ≤ i → i < 18 → v.toInt = -9 ∨ (0 ≤ v.toInt ∧ v.toInt < 12)) (c82 : 82 ≤ i → i < 86 → 0 ≤ v.toInt ∧ v.toInt < 6) (c30 : 30 ≤ i → i < 42 → 0 ≤ v.toInt) (c42 : 42 ≤ i → i < 54 → v.toInt ≤ 7) : DraftInv (upd d i v) := by
  obtain ⟨⟨h1, h2, h3, h4, h5, h6, h7⟩, h8⟩ := h
  refine ⟨⟨?_, ?_, ?_, ?_, ?_, ?_, ?_⟩, ?_⟩
  · exact upd_w (P := fun z => 0 ≤ z.toInt ∧ z.toInt ≤ 6) h1 (fun e => c90 (by rw [← e]; decide))
  · exact upd_w (P := fun z => 0 ≤ z.toInt ∧ z.toInt ≤ 12) h2 (fun e => c91 (by rw [← e]; decide))
  · exact upd_w (P := fun z => 0 ≤ z.toInt ∧ z.toInt ≤ 4) h3 (fun e => c92 (by rw [← e]; decide))
  · intro x a b
    exact upd_w (P := fun z => 0 ≤ z.toInt ∧ z.toInt < 6) (h4 x a b) (fun e => by rw [ixa 18 (c := 18) (by decide) (by decide) a (by omega)] at e; exact c18 (by omega) (by omega))
  · intro x a b
    exact upd_w (P := fun z => z.toInt = -9 ∨ (0 ≤ z.toInt ∧ z.toInt < 12)) (h5 x a b) (fun e => by rw [ixa 6 (c := 6) (by decide) (by decide) a (by omega)] at e; exact c6 (by omega) (by omega))
  · intro x a b
    exact upd_w (P := fun z => z.toInt = -9 ∨ (0 ≤ z.toInt ∧ z.toInt < 12)) (h6 x a b) (fun e => by rw [ixa 12 (c := 12) (by decide) (by decide) a (by omega)] at e; exact c6 (by omega) (by omega))
  · intro x a b
    refine upd_w (P := fun z => 0 ≤ z.toInt ∧ z.toInt < 6) (h7 x a b) (fun e => ?_)
    have k82 : (82 : Int32).toInt = 82 := by decide
    have k100 : (100 : Int32).toInt = 100 := by decide
    have e1 := add2 (x := 82) (y := x) (by omega) (by omega) (by omega) (by omega)
    have e2 := fb_subI (x := 82 + x) (y := 100) (by omega) (by omega)
    rw [ixn, e2, e1, k82, k100] at e
    exact c82 (by omega) (by omega)
  · intro x a b
    refine ⟨upd_w (P := fun z => 0 ≤ z.toInt) (h8 x a b).1 (fun e => by rw [ixa 30 (c := 30) (by decide) (by decide) a (by omega)] at e; exact c30 (by omega) (by omega)), upd_w (P := fun z => z.toInt ≤ 7) (h8 x a b).2 (fun e => by rw [ixa 42 (c := 42) (by decide) (by decide) a (by omega)] at e; exact c42 (by omega) (by omega))⟩
theorem DI_zero {d : Fn} (h : ∀ j : Nat, j < 93 → d j = 0) : DraftInv d := by
  have z : ∀ i : Nat, i < 93 → (d i).toInt = 0 := fun i hi => by rw [h i hi]; exact z0I
  refine ⟨⟨?_, ?_, ?_, ?_, ?_, ?_, ?_⟩, ?_⟩
  · have := z 90 (by omega); exact ⟨Int.le_of_eq this.symm, by show (d 90).toInt ≤ 6; omega⟩
  · have := z 91 (by omega); exact ⟨Int.le_of_eq this.symm, by show (d 91).toInt ≤ 12; omega⟩
  · have := z 92 (by omega); exact ⟨Int.le_of_eq this.symm, by show (d 92).toInt ≤ 4; omega⟩
  · intro x a b; rw [ixa 18 (c := 18) (by decide) (by decide) a (by omega), z _ (by omega)]; omega
  · intro x a b; rw [ixa 6 (c := 6) (by decide) (by decide) a (by omega), z _ (by omega)]; omega
  · intro x a b; rw [ixa 12 (c := 12) (by decide) (by decide) a (by omega), z _ (by omega)]; omega
  · intro x a b
    have k82 : (82 : Int32).toInt = 82 := by decide
    have k100 : (100 : Int32).toInt = 100 := by decide
    have e1 := add2 (x := 82) (y := x) (by omega) (by omega) (by omega) (by omega)
    have e2 := fb_subI (x := 82 + x) (y := 100) (by omega) (by omega)
    rw [ixn, e2, e1, k82, k100, z _ (by omega)]; omega
  · intro x a b; rw [ixa 30 (c := 30) (by decide) (by decide) a (by omega), ixa 42 (c := 42) (by decide) (by decide) a (by omega), z _ (by omega), z _ (by omega)]; omega
