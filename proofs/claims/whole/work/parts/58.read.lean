/-! class against model: items, on -/
theorem tok4 {a s' t v a2 s2 t2 v2 : Int32} {N : Int32 × Int32 × Int32 × Int32} (h1 : N = (a, s', t, v)) (h2 : N = (a2, s2, t2, v2)) : a = a2 ∧ s' = s2 ∧ t = t2 ∧ v = v2 := by
  rw [h1] at h2
  injection h2 with q1 q2; injection q2 with q2 q3; injection q3 with q3 q4; exact ⟨q1, q2, q3, q4⟩
theorem tk_lt {S E : Nat} {t : Int32} (h : t = 0 ∨ S < E) (h2 : t ≠ 0) : S < E := h.resolve_left h2
theorem tnum {tx : Fn} {L E : Nat} {s e so lo hi k : Int32} (hA : f_X7_advance (nI E) tx (nI L) = (s, e, so)) (h : f_X4_takeNumber_C7 tx lo hi s e so = (k, s, e, so)) : f_X4_takeNumber (nI E) tx (nI L) lo hi = (k, s, e, so) := by
  unfold f_X4_takeNumber; rw [hA]; exact h
theorem it_gate {tx : Fn} {L P E : Nat} (hL : L ≤ 160) (hP : P ≤ E) (hE : E ≤ L) {u : Blk} {d : Fn} (hG : GD u d) (s so : Int32) (hR : 0 < nR u) {a s' t v : Int32} (hN : f_X9_next tx (nI L) (nI E) = (a, s', t, v)) {T : Fn × Int32 × Int32 × Int32 × Int32 × Int32} (hT : T = f_X9_readLink d tx (nI L) a s' t v (-9) 12) :
    Out tx L P (f_X4_readGate s (nI E) so tx (nI L) u) (f_X9_readItem_J182 tx (nI L) T.1 T.2.1 T.2.2.1 T.2.2.2.1 T.2.2.2.2.1 T.2.2.2.2.2) := by
  have lR := lR hG.1
  have lF := lF hG.1
  obtain ⟨S2, E2, so2, tok2, val2, h1, h2, h3, h4, hA, hN2, hTF⟩ := tk_eq hL (tx := tx) hE
  obtain ⟨rfl, rfl, rfl, rfl⟩ := tok4 hN hN2
  have bad : ∀ (e2 so3 : Int32) (u2 : Blk), T = f_X9_readLink_J49 d tx (nI L) (nI E2) (nI S2) t v (-9) 12 → Out tx L P (0, nI S2, e2, so3, u2) (f_X9_readItem_J182 tx (nI L) T.1 T.2.1 T.2.2.1 T.2.2.2.1 T.2.2.2.2.1 T.2.2.2.2.2) := by
    intro e2 so3 u2 hb
    unfold f_X9_readLink_J49 f_X9_readLink_J50 at hb
    rw [mu_0] at hb
    exact out_f (by omega) hL (by rw [hb]; exact lk_f (nI_n9 (by omega)))
  unfold f_X4_readGate f_X4_readGate_C24 f_X4_readGate_C65 f_X4_readGate_C107
  unfold f_X9_readLink at hT
  rw [eR hG.1, eF hG.1, if_neg (fun q => by have := (n0 (by omega)).mp q; omega)]
  rw [ix90, hG.2.2.1.1, eR hG.1] at hT
  rcases nf hTF 0 (hi := nI (nR u) - 1) (m1_le (by omega)) with ⟨g1, g2, g3, ⟨n, hn, g4⟩, g5⟩ | ⟨b1, b2⟩
  · obtain ⟨r, hr, er⟩ := in_m1 (by omega) g2
    have lt : S2 < E2 := tk_lt h4 (by rw [g1]; exact q_10)
    rw [if_pos g1, if_neg (by rw [g2]; exact q_10), er, x_12, ci (n := 12 + r) (by omega), (hG.2.2.2.1 r hr).2.2] at hT
    rw [tnum hA g5]
    dsimp only
    rw [if_neg q_10, g3, er, ci (n := r) (by omega)]
    by_cases c : u 3 r = -9
    · rw [if_pos c]
      rw [if_pos c] at hT
      obtain ⟨S3, E3, so3, tok3, val3, k1, k2, k3, k4, kA, kN, kT⟩ := tk_eq hL (tx := tx) h3
      unfold f_X9_readLink_J50 f_X9_readLink_C53 at hT
      rw [mu_1 kN] at hT
      dsimp only at hT
      rw [ix91, hG.2.2.1.2.1, eF hG.1] at hT
      have bad3 : ∀ (e2 so3 : Int32) (u2 : Blk), T = f_X9_readLink_J109 d tx (nI L) (nI E3) (nI S3) tok3 val3 (-9) 12 (nI r) → Out tx L P (0, nI S3, e2, so3, u2) (f_X9_readItem_J182 tx (nI L) T.1 T.2.1 T.2.2.1 T.2.2.2.1 T.2.2.2.2.1 T.2.2.2.2.2) := by
        intro e2 so3 u2 hT2
        unfold f_X9_readLink_J109 f_X9_readLink_J110 f_X9_readLink_C113 at hT2
        rw [mu_0] at hT2
        dsimp only at hT2
        rw [if_neg (show ¬ nI S3 = -9 from nI_n9 (by omega))] at hT2
        exact out_f (by omega) hL (by rw [hT2])
      rcases nf kT 0 (hi := nI (nF u) - 1) (m1_le (by omega)) with ⟨p1, p2, p3, ⟨n2, hn2, p4⟩, p5⟩ | ⟨b1, b2⟩
      · obtain ⟨f, hf, ef⟩ := in_m1 (by omega) p2
        have lt3 : S3 < E3 := tk_lt k4 (by rw [p1]; exact q_10)
        obtain ⟨S4, E4, so4, tok4, val4, l1, l2, l3, l4, lA, lN, lT⟩ := tk_eq hL (tx := tx) k3
        rw [if_pos p1, if_neg (by rw [p2]; exact q_10), if_neg (show ¬ (12 : Int32) = 6 from by decide), ef, x_18, ci (n := 18 + f) (by omega), (hG.2.2.2.2.1 f hf).1] at hT
        rw [tnum kA p5]
        dsimp only
        rw [if_neg q_10, p3, ef, ci (n := f) (by omega)]
        by_cases o : u 4 f = nI r
        · rw [if_pos o]
          rw [if_pos o] at hT
          exact bad3 _ _ _ (by rw [hT, ef])
        · rw [if_neg o]
          rw [if_neg o] at hT
          unfold f_X9_readLink_J105 f_X9_readLink_J110 f_X9_readLink_C113 at hT
          rw [mu_1 lN] at hT
          dsimp only at hT
          rw [if_pos rfl, x_12, ci (n := 12 + r) (by omega)] at hT
          rw [hT]
          dsimp only
          refine semi hL (P := P) (by omega) k3 ?_ lN
          exact gd_lnk hG (w := 3) (Or.inr rfl) hr hf bwk (fun q hq => bwo hq) (fun j => rfl)
      · rw [tnum kA b2]
        dsimp only
        rw [if_pos rfl]
        refine bad3 _ _ _ ?_
        rw [hT]
        rcases b1 with q | q
        · rw [if_neg q]
        · rw [if_pos q, ite_self]
    · rw [if_neg c]
      rw [if_neg c] at hT
      refine bad _ _ _ ?_
      rw [hT, er]
  · rw [tnum hA b2]
    dsimp only
    rw [if_pos rfl]
    refine bad _ _ _ ?_
    rw [hT]
    rcases b1 with q | q
    · rw [if_neg q]
    · rw [if_pos q, ite_self]
/-! an alias -/
theorem al_f77 {d : Fn} {x1 x2 x3 s0 a s t v f : Int32} (h : f ≠ -9) : (f_X9_readAlias_C77 d x1 x2 x3 s0 a s t v f).2.2.2.2.2 = f := by
  unfold f_X9_readAlias_C77
  rw [if_neg h]
theorem al_f74 {d tx : Fn} {ty x1 x2 x3 is a s t v f : Int32} (h : f ≠ -9) : (f_X9_readAlias_J74 d tx ty a s t v f x1 x2 x3 is).2.2.2.2.2 = f := by
  unfold f_X9_readAlias_J74
  rw [mu_f h]
  exact al_f77 h
theorem al_f43 {d tx : Fn} {ty x1 x2 k a s t v f : Int32} (h : f ≠ -9) : (f_X9_readAlias_J43 d tx ty a s t v f x1 x2 k).2.2.2.2.2 = f := by
  unfold f_X9_readAlias_J43 f_X9_readAlias_J69
  repeat' split
  all_goals exact al_f74 h
theorem al_f22 {d tx : Fn} {ty x1 x2 a s t v f : Int32} (h : f ≠ -9) : (f_X9_readAlias_C22 d tx ty x1 x2 a s t v f).2.2.2.2.2 = f := by
  unfold f_X9_readAlias_C22
  split
  · exact al_f43 h
  · exact al_f43 h
theorem al_f7 {d tx : Fn} {ty x1 a s t v f : Int32} (h : f ≠ -9) : (f_X9_readAlias_C7 d tx ty x1 a s t v f).2.2.2.2.2 = f := by
  unfold f_X9_readAlias_C7
  rw [nu_f h]
  exact al_f22 h
theorem tkind {tx : Fn} {L E : Nat} {s e so : Int32} (hA : f_X7_advance (nI E) tx (nI L) = (s, e, so)) : f_X4_takeKind (nI E) tx (nI L) = if f_X7_kind s e so tx = -9 then (0, s, e, so) else (1, s, e, so) := by
  unfold f_X4_takeKind; rw [hA]; rfl
theorem suit_no {k : Int32} (h : f_X4_suitsAlias k = 0) : k ≠ 0 ∧ k ≠ 1 ∧ k ≠ 3 ∧ k ≠ 4 ∧ k ≠ 5 := by
  refine ⟨?_, ?_, ?_, ?_, ?_⟩ <;> (rintro rfl; revert h; decide)
theorem suit_yes {k : Int32} (h : f_X4_suitsAlias k ≠ 0) : k = 0 ∨ k = 1 ∨ k = 3 ∨ k = 4 ∨ k = 5 := by
  unfold f_X4_suitsAlias at h
  by_cases a : k = 0; · exact Or.inl a
  by_cases b : k = 1; · exact Or.inr (Or.inl b)
  by_cases c : k = 3; · exact Or.inr (Or.inr (Or.inl c))
  by_cases d : k = 4; · exact Or.inr (Or.inr (Or.inr (Or.inl d)))
  by_cases e : k = 5; · exact Or.inr (Or.inr (Or.inr (Or.inr e)))
  rw [if_neg a, if_neg b, if_neg c, if_neg d, if_neg e] at h
  exact absurd rfl h
theorem j43_no {d tx : Fn} {ty x1 x2 k a s t v f : Int32} (h : k = -9 ∨ f_X4_suitsAlias k = 0) : f_X9_readAlias_J43 d tx ty a s t v f x1 x2 k = f_X9_readAlias_J74 d tx ty a s t v f x1 x2 k 0 := by
  have n : k ≠ 0 ∧ k ≠ 1 ∧ k ≠ 3 ∧ k ≠ 4 ∧ k ≠ 5 := by
    rcases h with rfl | h
    · decide
    · exact suit_no h
  unfold f_X9_readAlias_J43
  rw [if_neg n.1, if_neg n.2.1, if_neg n.2.2.1, if_neg n.2.2.2.1, if_neg n.2.2.2.2]
theorem j43_yes {d tx : Fn} {ty x1 x2 k a s t v f : Int32} (h : f_X4_suitsAlias k ≠ 0) : f_X9_readAlias_J43 d tx ty a s t v f x1 x2 k = f_X9_readAlias_J74 d tx ty a s t v f x1 x2 k 1 := by
  unfold f_X9_readAlias_J43 f_X9_readAlias_J69
  rcases suit_yes h with q | q | q | q | q <;> (rw [q]; rfl)
theorem it_alias {tx : Fn} {L P E : Nat} (hL : L ≤ 160) (hP : P ≤ E) (hE : E ≤ L) {u : Blk} {d : Fn} (hG : GD u d) (s so : Int32) (hA4 : nA u < 4) {a s' t v : Int32} (hN : f_X9_next tx (nI L) (nI E) = (a, s', t, v)) {T : Fn × Int32 × Int32 × Int32 × Int32 × Int32} (hT : T = f_X9_readAlias d tx (nI L) a s' t v (-9)) :
    Out tx L P (f_X4_readAlias s (nI E) so tx (nI L) u) (f_X9_readItem_J182 tx (nI L) T.1 T.2.1 T.2.2.1 T.2.2.2.1 T.2.2.2.2.1 T.2.2.2.2.2) := by
  have lR := lR hG.1
  have lF := lF hG.1
  obtain ⟨S2, E2, so2, tok2, val2, h1, h2, h3, h4, hA, hN2, hTF⟩ := tk_eq hL (tx := tx) hE
  obtain ⟨rfl, rfl, rfl, rfl⟩ := tok4 hN hN2
  unfold f_X4_readAlias f_X4_readAlias_C20
  unfold f_X9_readAlias at hT
  rw [eA hG.1, if_neg (show ¬ (4 : Int32) ≤ nI (nA u) from fun q => by have := (le_c (a := 4) (by omega) (by omega)).mp q; omega)]
  rcases nf hTF 0 (hi := 15) (by decide) with ⟨g1, g2, g3, ⟨n, hn, g4⟩, g5⟩ | ⟨b1, b2⟩
  · obtain ⟨S3, E3, so3, tok3, val3, k1, k2, k3, k4, kA, kN, kT⟩ := tk_eq hL (tx := tx) h3
    have lt : S2 < E2 := tk_lt h4 (by rw [g1]; exact q_10)
    rw [nu_g g1 g2 kN] at hT
    unfold f_X9_readAlias_C7 at hT
    dsimp only at hT
    rw [ix90, hG.2.2.1.1, eR hG.1] at hT
    rw [tnum hA g5]
    dsimp only
    rw [if_neg q_10, g3, bwo (u := u) (k := 10) (q := 0) (by omega), eR hG.1, ci (n := nA u) (by omega)]
    unfold f_X4_readAlias_C55
    rcases nf kT 0 (hi := nI (nR u) - 1) (m1_le (by omega)) with ⟨p1, p2, p3, ⟨n2, hn2, p4⟩, p5⟩ | ⟨b1, b2⟩
    · obtain ⟨r, hr, er⟩ := in_m1 (by omega) p2
      obtain ⟨S4, E4, so4, tok4, val4, l1, l2, l3, l4, lA, lN, lT⟩ := tk_eq hL (tx := tx) k3
      rw [nu_g p1 p2 lN] at hT
      unfold f_X9_readAlias_C22 at hT
      dsimp only at hT
      have hK := lT.2.2.2.1
      have hT2 : T = f_X9_readAlias_J43 d tx (nI L) (nI E4) (nI S4) tok4 val4 (-9) v val3 (f_X7_kind (nI S4) (nI E4) so4 tx) := by
        rw [hT, hK]
        by_cases c : tok4 = 4
        · rw [if_pos c, if_pos c]
        · rw [if_neg c, if_neg c]
      rw [tnum kA p5]
      dsimp only
      rw [if_neg q_10, p3, tkind lA]
      unfold f_X4_readAlias_C80 f_X4_readAlias_C131
      by_cases c : f_X7_kind (nI S4) (nI E4) so4 tx = -9
      · rw [if_pos c]
        dsimp only
        rw [if_pos rfl]
        rw [j43_no (Or.inl c)] at hT2
        unfold f_X9_readAlias_J74 at hT2
        rw [mu_0] at hT2
        exact out_f (by omega) hL (by rw [hT2]; exact al_f77 (nI_n9 (by omega)))
      · rw [if_neg c]
        dsimp only
        rw [if_neg q_10]
        by_cases c2 : f_X4_suitsAlias (f_X7_kind (nI S4) (nI E4) so4 tx) = 0
        · rw [if_pos c2]
          rw [j43_no (Or.inr c2)] at hT2
          unfold f_X9_readAlias_J74 at hT2
          rw [mu_0] at hT2
          exact out_f (by omega) hL (by rw [hT2]; exact al_f77 (nI_n9 (by omega)))
        · rw [if_neg c2]
          have t4 : tok4 ≠ 0 := fun q => by rw [q] at hK; exact c (hK.trans (if_neg (by decide)))
          obtain ⟨S5, E5, so5, tok5, val5, m1, m2, m3, m4, mA, mN, mT⟩ := tk_eq hL (tx := tx) l3
          have lt4 : S4 < E4 := tk_lt l4 t4
          rw [j43_yes c2] at hT2
          unfold f_X9_readAlias_J74 f_X9_readAlias_C77 at hT2
          rw [mu_1 mN] at hT2
          dsimp only at hT2
          rw [if_pos rfl, ix92, hG.2.2.1.2.2, eA hG.1, x_78, x_82, x_86, ci (n := 78 + nA u) (by omega), ci (n := 82 + nA u) (by omega), ci (n := 86 + nA u) (by omega), upd_o (j := 92) (by omega), upd_o (j := 92) (by omega), upd_o (j := 92) (by omega), hG.2.2.1.2.2, eA hG.1, nI_1] at hT2
          rw [hT2]
          dsimp only
          refine semi hL (P := P) (by omega) l3 ?_ mN
          refine gd_als hG hA4 (r := r) (ad := v) (kd := f_X7_kind (nI S4) (nI E4) so4 tx) hr c ⟨?_, ?_, ?_⟩ ?_ ?_ ?_ (fun q q1 q2 => ?_) (fun j => ?_)
          · rw [bwk, upd_o (by omega), bwo (by omega), bwo (by omega), bwo (by omega)]
          · rw [bwk, upd_o (by omega), bwo (by omega), bwo (by omega), bwo (by omega)]
          · rw [bwk, upd_s, bwo (by omega), bwo (by omega), bwo (by omega), eA hG.1, nI_1]
          · rw [bwo (by omega), bwo (by omega), bwo (by omega), bwk]
          · rw [bwo (by omega), bwo (by omega), bwk, bwo (by omega), er, ci (n := nA u) (by omega)]
          · rw [bwo (by omega), bwk, bwo (by omega), bwo (by omega), ci (n := nA u) (by omega)]
          · rw [bwo (by omega), bwo (by omega), bwo (by omega), bwo (by omega)]
          · rw [er]; rfl
    · rw [nu_b b1] at hT
      dsimp only at hT
      rw [tnum kA b2]
      dsimp only
      rw [if_pos rfl]
      exact out_f (by omega) hL (by rw [hT]; exact al_f22 (nI_n9 (by omega)))
  · rw [nu_b b1] at hT
    dsimp only at hT
    rw [tnum hA b2]
    dsimp only
    rw [if_pos rfl]
    exact out_f (by omega) hL (by rw [hT]; exact al_f7 (nI_n9 (by omega)))
/-! a field -/
theorem fi_f170 {d : Fn} {x1 x3 x4 x5 s0 a s t v f : Int32} (h : f ≠ -9) : (f_X9_readField_J170 d x1 x3 x4 x5 s0 a s t v f).2.2.2.2.2 = f := by
  unfold f_X9_readField_J170
  rw [if_neg h]
theorem fi_f139 {d tx : Fn} {ty x1 x3 x4 s0 a s t v f : Int32} (h : f ≠ -9) : (f_X9_readField_C139 d tx ty x1 x3 x4 s0 a s t v f).2.2.2.2.2 = f := by
  unfold f_X9_readField_C139
  rw [if_neg h]
  exact fi_f170 h
theorem fi_f136 {d tx : Fn} {ty x1 x3 x4 is a s t v f : Int32} (h : f ≠ -9) : (f_X9_readField_J136 d tx ty a s t v f x1 x3 x4 is).2.2.2.2.2 = f := by
  unfold f_X9_readField_J136
  rw [mu_f h]
  exact fi_f139 h
theorem fi_f90 {d tx : Fn} {ty x1 x2 x3 s0 a s t v f : Int32} (h : f ≠ -9) : (f_X9_readField_C90 d tx ty x1 x2 x3 s0 a s t v f).2.2.2.2.2 = f := by
  unfold f_X9_readField_C90 f_X9_readField_J135
  repeat' split
  all_goals exact fi_f136 h
theorem fi_f87 {d tx : Fn} {ty x1 x2 x3 is a s t v f : Int32} (h : f ≠ -9) : (f_X9_readField_J87 d tx ty a s t v f x1 x2 x3 is).2.2.2.2.2 = f := by
  unfold f_X9_readField_J87
  rw [mu_f h]
  exact fi_f90 h
theorem fi_f45 {d tx : Fn} {ty x1 x2 s0 a s t v f : Int32} (h : f ≠ -9) : (f_X9_readField_C45 d tx ty x1 x2 s0 a s t v f).2.2.2.2.2 = f := by
  unfold f_X9_readField_C45 f_X9_readField_J86
  repeat' split
  all_goals exact fi_f87 h
theorem ub_bw {u u' : Blk} (hI : BlkInv u) (e0 : u' 0 = u 0) (e8 : u' 8 = u 8) (e4 : ∀ i, i < nF u → u' 4 i = u 4 i) (r : Int32) : ∀ n i (x : Int32), i ≤ nF u → nF u < n + i → f_X0_usedBits_L4 u' r n x (nI i) = f_X0_usedBits_L4 u r n x (nI i) := by
  have hF := lF hI
  intro n
  induction n with
  | zero => intro i x h1 h2; omega
  | succ n ih =>
    intro i x h1 h2
    rw [f_X0_usedBits_L4, f_X0_usedBits_L4, e0, e8, eF hI, ci (n := i) (by omega), nI_1]
    by_cases z : nF u ≤ i
    · rw [if_pos ((le_c (by omega) (by omega)).mpr z), if_pos ((le_c (by omega) (by omega)).mpr z)]
    · have z' : ¬ nI (nF u) ≤ nI i := fun q => z ((le_c (by omega) (by omega)).mp q)
      rw [if_neg z', if_neg z', e4 i (by omega), ih (i + 1) _ (by omega) (by omega), ih (i + 1) _ (by omega) (by omega)]
theorem R1 {R : Nat} (h : 0 < R) : nI R - 1 = nI (R - 1) := by
  obtain ⟨m, rfl⟩ : ∃ m, R = m + 1 := ⟨R - 1, by omega⟩
  exact nI_pred m
theorem it_field {tx : Fn} {L P E : Nat} (hL : L ≤ 160) (hP : P ≤ E) (hE : E ≤ L) {u : Blk} {d : Fn} (hG : GD u d) (s so : Int32) (hR : 0 < nR u) (hF : nF u < 12) {a s' t v : Int32} (hN : f_X9_next tx (nI L) (nI E) = (a, s', t, v)) {T : Fn × Int32 × Int32 × Int32 × Int32 × Int32} (hT : T = f_X9_readField d tx (nI L) a s' t v (-9)) :
    Out tx L P (f_X4_readField s (nI E) so tx (nI L) u) (f_X9_readItem_J182 tx (nI L) T.1 T.2.1 T.2.2.1 T.2.2.2.1 T.2.2.2.2.1 T.2.2.2.2.2) := by
  have lR := lR hG.1
  obtain ⟨S2, E2, so2, tok2, val2, h1, h2, h3, h4, hA, hN2, hTF⟩ := tk_eq hL (tx := tx) hE
  obtain ⟨rfl, rfl, rfl, rfl⟩ := tok4 hN hN2
  have hub : f_X0_usedBits u (nI (nR u - 1)) = f_X9_usedBits d (nI (nR u - 1)) := ub_eq hG (by omega) 4000 0 0 (by omega) (by omega)
  unfold f_X4_readField f_X4_readField_C32
  unfold f_X9_readField at hT
  rw [eF hG.1, eR hG.1, R1 hR, if_neg (show ¬ (12 : Int32) ≤ nI (nF u) from fun q => by have := (le_c (a := 12) (by omega) (by omega)).mp q; omega), if_neg (nI_pos (by omega)), tkind hA]
  rw [ix90, hG.2.2.1.1, eR hG.1, R1 hR, ← hub] at hT
  have hK := hTF.2.2.2.1
  by_cases c : f_X7_kind (nI S2) (nI E2) so2 tx = -9
  · rw [if_pos c]
    dsimp only
    rw [if_pos rfl]
    have hT2 : T = f_X9_readField_J41 d tx (nI L) (nI E2) (nI S2) t v (-9) (nI (nR u - 1)) (f_X0_usedBits u (nI (nR u - 1))) := by
      rw [hT]
      by_cases q : t = 4
      · rw [if_pos q] at hK
        rw [if_pos q, if_pos (hK.symm.trans c)]
      · rw [if_neg q]
    unfold f_X9_readField_J41 f_X9_readField_J42 at hT2
    rw [mu_0] at hT2
    exact out_f (by omega) hL (by rw [hT2]; exact fi_f45 (nI_n9 (by omega)))
  · rw [if_neg c]
    dsimp only
    rw [if_neg q_10]
    have t4 : t = 4 := by
      by_cases q : t = 4
      · exact q
      · rw [if_neg q] at hK; exact absurd hK c
    rw [if_pos t4] at hK hT
    rw [if_neg (show ¬ f_X9_kindOf v = -9 by rw [← hK]; exact c)] at hT
    have lt2 : S2 < E2 := tk_lt h4 (by rw [t4]; decide)
    obtain ⟨S3, E3, so3, tok3, val3, k1, k2, k3, k4, kA, kN, kT⟩ := tk_eq hL (tx := tx) h3
    unfold f_X9_readField_J42 at hT
    rw [mu_1 kN] at hT
    dsimp only at hT
    unfold f_X9_readField_C45 at hT
    unfold f_X4_readField_C79
    rw [← hK] at hT
    generalize hkd : f_X7_kind (nI S2) (nI E2) so2 tx = kd at hT c
    generalize hus : f_X0_usedBits u (nI (nR u - 1)) = us at hT
    have hus2 : f_X0_usedBits (bw (bw u 4 (nI (nF u)).toNatClampNeg (nI (nR u - 1))) 5 (nI (nF u)).toNatClampNeg kd) (nI (nR u - 1)) = us := by
      rw [← hus]
      refine ub_bw hG.1 ?_ ?_ (fun i hi => ?_) _ 4000 0 0 (by omega) (by omega)
      · rw [bwo (by omega), bwo (by omega)]
      · rw [bwo (by omega), bwo (by omega)]
      · rw [bwo (by omega), bwk, upd_o (by rw [ci (by omega)]; omega)]
    rw [hus2]
    have bad3 : ∀ (e2 so3 : Int32) (u2 : Blk), T = f_X9_readField_J86 d tx (nI L) (nI E3) (nI S3) tok3 val3 (-9) (nI (nR u - 1)) us kd → Out tx L P (0, nI S3, e2, so3, u2) (f_X9_readItem_J182 tx (nI L) T.1 T.2.1 T.2.2.1 T.2.2.2.1 T.2.2.2.2.1 T.2.2.2.2.2) := by
      intro e2 so3 u2 hT2
      unfold f_X9_readField_J86 f_X9_readField_J87 at hT2
      rw [mu_0] at hT2
      exact out_f (by omega) hL (by rw [hT2]; exact fi_f90 (nI_n9 (by omega)))
    rcases nf kT 0 (hi := 7) (by decide) with ⟨p1, p2, p3, _, p5⟩ | ⟨b1, b2⟩
    · obtain ⟨l, hl, el⟩ := in_m1 (n := 8) (by omega) p2
      have lt3 : S3 < E3 := tk_lt k4 (by rw [p1]; exact q_10)
      rw [tnum kA p5]
      dsimp only
      rw [if_neg q_10, p3, el]
      rw [if_pos p1, if_neg (by rw [p2]; exact q_10), el] at hT
      by_cases ub : ((us >>> (nI l &&& 31)) &&& 1) = 0
      · rw [if_pos ub]
        rw [if_pos ub] at hT
        obtain ⟨S4, E4, so4, tok4, val4, l1, l2, l3, l4, lA, lN, lT⟩ := tk_eq hL (tx := tx) k3
        unfold f_X9_readField_J87 at hT
        rw [mu_1 lN] at hT
        dsimp only at hT
        unfold f_X9_readField_C90 at hT
        unfold f_X4_readField_C110
        have bad4 : ∀ (e2 so3 : Int32) (u2 : Blk), T = f_X9_readField_J135 d tx (nI L) (nI E4) (nI S4) tok4 val4 (-9) (nI (nR u - 1)) kd (nI l) → Out tx L P (0, nI S4, e2, so3, u2) (f_X9_readItem_J182 tx (nI L) T.1 T.2.1 T.2.2.1 T.2.2.2.1 T.2.2.2.2.1 T.2.2.2.2.2) := by
          intro e2 so3 u2 hT2
          unfold f_X9_readField_J135 f_X9_readField_J136 at hT2
          rw [mu_0] at hT2
          exact out_f (by omega) hL (by rw [hT2]; exact fi_f139 (nI_n9 (by omega)))
        rcases nf lT (nI l) (hi := 7) (by decide) with ⟨r1, r2, r3, ⟨h, hh, eh⟩, r5⟩ | ⟨b1, b2⟩
        · have lt4 : S4 < E4 := tk_lt l4 (by rw [r1]; exact q_10)
          have hb := rIN (show ¬ f_X9_in val4 (nI l) 7 = 0 by rw [r2]; exact q_10)
          rw [eh, ti_c (by omega), ti_c (by omega), show (7 : Int32).toInt = 7 from rfl] at hb
          rw [tnum lA r5]
          dsimp only
          rw [if_neg q_10, r3, eh]
          rw [if_pos r1, if_neg (by rw [r2]; exact q_10), eh] at hT
          rw [show ((2 : Int32) <<< (nI h &&& 31)) - ((1 : Int32) <<< (nI l &&& 31)) = msk l h from rfl] at hT ⊢
          by_cases um : us &&& msk l h = 0
          · rw [if_pos um]
            rw [if_pos um] at hT
            obtain ⟨S5, E5, so5, tok5, val5, m1, m2, m3, m4, mA, mN, mT⟩ := tk_eq hL (tx := tx) l3
            unfold f_X9_readField_J136 at hT
            rw [mu_1 mN] at hT
            dsimp only at hT
            unfold f_X9_readField_C139 at hT
            rw [if_pos rfl, ← msk_most h (by omega) l (by omega)] at hT
            unfold f_X4_readField_C152 f_X4_readField_C223
            have p8 : 2 ^ (h - l + 1) ≤ 2 ^ 8 := Nat.pow_le_pow_right (by omega) (by omega)
            have p0 : 0 < 2 ^ (h - l + 1) := Nat.pow_pos (by omega)
            have top := msk_top h (by omega) l (by omega)
            rcases nf mT 0 (hi := msk l h >>> (nI l &&& 31)) (by rw [top, ti_c (by omega)]; omega) with ⟨s1, s2, s3, ⟨n, hn, en⟩, s5⟩ | ⟨b1, b2⟩
            · have lt5 : S5 < E5 := tk_lt m4 (by rw [s1]; exact q_10)
              have hb5 := rIN (show ¬ f_X9_in val5 0 (msk l h >>> (nI l &&& 31)) = 0 by rw [s2]; exact q_10)
              rw [en, top, ti_c (by omega), ti_c (by omega)] at hb5
              obtain ⟨S6, E6, so6, tok6, val6, o1, o2, o3, o4, oA, oN, oT⟩ := tk_eq hL (tx := tx) m3
              rw [nu_g s1 s2 oN] at hT
              unfold f_X9_readField_C166 f_X9_readField_J170 at hT
              dsimp only at hT
              rw [if_pos rfl, ix91, hG.2.2.1.2.1, eF hG.1, x_18, x_30, x_42, x_54, x_66, ci (n := 18 + nF u) (by omega), ci (n := 30 + nF u) (by omega), ci (n := 42 + nF u) (by omega), ci (n := 54 + nF u) (by omega), ci (n := 66 + nF u) (by omega), upd_o (j := 91) (by omega), upd_o (j := 91) (by omega), upd_o (j := 91) (by omega), upd_o (j := 91) (by omega), upd_o (j := 91) (by omega), hG.2.2.1.2.1, eF hG.1, nI_1] at hT
              rw [tnum mA s5]
              dsimp only
              rw [if_neg q_10, s3, ci (n := nF u) (by omega), hT, en]
              dsimp only
              refine semi hL (P := P) (by omega) m3 ?_ oN
              refine gd_fld hG hR hF (l := l) (hh := h) (n := n) (kd := kd) (by omega) (by omega) (by omega) (fun g g1 g2 => ?_) ⟨?_, ?_, ?_⟩ ?_ ?_ ?_ ?_ ?_ ?_ (fun q hq => ?_) (fun j => rfl)
              · have ub0 : f_X0_usedBits_L4 u (nI (nR u - 1)) 4000 0 (nI 0) &&& msk l h = 0 := by
                  rw [show f_X0_usedBits_L4 u (nI (nR u - 1)) 4000 0 (nI 0) = f_X0_usedBits u (nI (nR u - 1)) from rfl, hus]; exact um
                exact (ub_sub hG.1 (by omega) 4000 0 0 (by omega) (by omega) ub0).2 g (by omega) g1 g2
              · rw [bwk, upd_o (by omega), bwo (by omega), bwo (by omega), bwo (by omega), bwo (by omega), bwo (by omega), bwo (by omega)]
              · rw [bwk, upd_s, bwo (by omega), bwo (by omega), bwo (by omega), bwo (by omega), bwo (by omega), bwo (by omega), eF hG.1, nI_1]
              · rw [bwk, upd_o (by omega), bwo (by omega), bwo (by omega), bwo (by omega), bwo (by omega), bwo (by omega), bwo (by omega)]
              · rw [bwo (by omega), bwo (by omega), bwo (by omega), bwo (by omega), bwo (by omega), bwo (by omega), bwk]
              · rw [bwo (by omega), bwo (by omega), bwo (by omega), bwo (by omega), bwo (by omega), bwk, bwo (by omega)]
              · rw [bwo (by omega), bwo (by omega), bwo (by omega), bwo (by omega), bwk, bwo (by omega), bwo (by omega)]
              · rw [bwo (by omega), bwo (by omega), bwo (by omega), bwk, bwo (by omega), bwo (by omega), bwo (by omega)]
              · rw [bwo (by omega), bwo (by omega), bwk, bwo (by omega), bwo (by omega), bwo (by omega), bwo (by omega)]
              · rw [bwo (by omega), bwk, bwo (by omega), bwo (by omega), bwo (by omega), bwo (by omega), bwo (by omega)]
              · rw [bwo (by omega), bwo (by omega), bwo (by omega), bwo (by omega), bwo (by omega), bwo (by omega), bwo (by omega)]
            · rw [nu_b b1] at hT
              unfold f_X9_readField_C166 at hT
              dsimp only at hT
              rw [tnum mA b2]
              dsimp only
              rw [if_pos rfl]
              exact out_f (by omega) hL (by rw [hT]; exact fi_f170 (nI_n9 (by omega)))
          · rw [if_neg um]
            rw [if_neg um] at hT
            exact bad4 _ _ _ (by rw [hT, eh])
        · rw [tnum lA b2]
          dsimp only
          rw [if_pos rfl]
          refine bad4 _ _ _ ?_
          rw [hT]
          rcases b1 with q | q
          · rw [if_neg q]
          · rw [if_pos q, ite_self]
      · rw [if_neg ub]
        rw [if_neg ub] at hT
        exact bad3 _ _ _ (by rw [hT, el])
    · rw [tnum kA b2]
      dsimp only
      rw [if_pos rfl]
      refine bad3 _ _ _ ?_
      rw [hT]
      rcases b1 with q | q
      · rw [if_neg q]
      · rw [if_pos q, ite_self]
