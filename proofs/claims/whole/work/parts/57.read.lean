/-! class against model: items -/
theorem nf {tx : Fn} {s e so tok val : Int32} (h : TF tx s e so tok val) (lo : Int32) {hi : Int32} (h1 : hi.toInt ≤ 255) :
    (tok = 1 ∧ f_X9_in val lo hi = 1 ∧ f_X7_number s e so tx = val ∧ (∃ n : Nat, n ≤ 255 ∧ val = nI n) ∧ f_X4_takeNumber_C7 tx lo hi s e so = (1, s, e, so)) ∨ ((tok ≠ 1 ∨ f_X9_in val lo hi = 0) ∧ f_X4_takeNumber_C7 tx lo hi s e so = (0, s, e, so)) := by
  obtain ⟨_, _, hn, _⟩ := h
  unfold f_X4_takeNumber_C7
  rcases hn with ⟨t1, t2, n, hn, t3⟩ | ⟨t1, t2⟩
  · rw [t2, if_neg (show ¬ val = -9 by rw [t3]; exact nI_n9 (by omega))]
    unfold f_X9_in
    by_cases c : val < lo
    · rw [if_pos c, if_pos c]; exact Or.inr ⟨Or.inr rfl, rfl⟩
    · rw [if_neg c, if_neg c]
      by_cases d : hi < val
      · rw [if_pos d, if_pos d]; exact Or.inr ⟨Or.inr rfl, rfl⟩
      · rw [if_neg d, if_neg d]; exact Or.inl ⟨t1, rfl, rfl, ⟨n, hn, t3⟩, rfl⟩
  · right
    refine ⟨Or.inl t1, ?_⟩
    rcases t2 with q | ⟨n, n1, n2, q⟩
    · rw [q, if_pos rfl]
    · rw [q, if_neg (nI_n9 (by omega))]
      by_cases c : nI n < lo
      · rw [if_pos c]
      · rw [if_neg c, if_pos (Int32.lt_iff_toInt_lt.mpr (by rw [ti_c (by omega)]; omega))]
/-! the model's must -/
theorem mu_f {tx : Fn} {ty a s t v f is : Int32} (h : f ≠ -9) : f_X9_must tx ty a s t v f is = (v, a, s, t, v, f) := if_neg h
theorem mu_0 {tx : Fn} {ty a s t v : Int32} : f_X9_must tx ty a s t v (-9) 0 = (v, a, s, t, v, s) := by
  unfold f_X9_must
  rw [if_pos rfl, if_pos rfl]
theorem mu_1 {tx : Fn} {ty a s t v a' s' t' v' : Int32} (h : f_X9_next tx ty a = (a', s', t', v')) : f_X9_must tx ty a s t v (-9) 1 = (v, a', s', t', v', -9) := by
  unfold f_X9_must f_X9_must_C22
  rw [if_pos rfl, if_neg q_10, h]
theorem nu_f {tx : Fn} {ty a s t v f x y : Int32} (h : f ≠ -9) : f_X9_number tx ty a s t v f x y = (v, a, s, t, v, f) := by
  unfold f_X9_number f_X9_number_J25 f_X9_number_J26 f_X9_number_C29
  rw [mu_f h, mu_f h, ite_self, ite_self]
theorem nu_b {tx : Fn} {ty a s t v x y : Int32} (h : t ≠ 1 ∨ f_X9_in v x y = 0) : f_X9_number tx ty a s t v (-9) x y = (v, a, s, t, v, s) := by
  unfold f_X9_number f_X9_number_J25 f_X9_number_J26 f_X9_number_C29
  rw [mu_0]
  by_cases c : t = 1
  · rw [if_pos c, if_pos (h.resolve_left (fun q => q c))]
  · rw [if_neg c]
theorem nu_g {tx : Fn} {ty a s t v x y a' s' t' v' : Int32} (h1 : t = 1) (h2 : f_X9_in v x y = 1) (h : f_X9_next tx ty a = (a', s', t', v')) : f_X9_number tx ty a s t v (-9) x y = (v, a', s', t', v', -9) := by
  unfold f_X9_number f_X9_number_J26 f_X9_number_C29
  rw [if_pos h1, if_neg (by rw [h2]; exact q_10), mu_1 h]
/-- an item, both ways -/
def Out (tx : Fn) (L P : Nat) (C : Int32 × Int32 × Int32 × Int32 × Blk) (M : Fn × Int32 × Int32 × Int32 × Int32 × Int32) : Prop :=
  (C.1 = 0 ∧ ∃ S, S ≤ L ∧ C.2.1 = nI S ∧ M.2.2.2.2.2 = nI S) ∨ (C.1 = 1 ∧ ∃ E, P < E ∧ E ≤ L ∧ C.2.2.1 = nI E ∧ M.2 = ((f_X9_next tx (nI L) (nI E)).1, (f_X9_next tx (nI L) (nI E)).2.1, (f_X9_next tx (nI L) (nI E)).2.2.1, (f_X9_next tx (nI L) (nI E)).2.2.2, -9) ∧ GD C.2.2.2.2 M.1)
theorem j182_f {tx d : Fn} {ty a s t v f : Int32} (h : f ≠ -9) : (f_X9_readItem_J182 tx ty d a s t v f).2.2.2.2.2 = f := by
  unfold f_X9_readItem_J182 f_X9_readItem_J196 f_X9_readItem_C199
  rw [mu_f h, mu_f h, ite_self]
theorem out_f {tx : Fn} {L P S : Nat} {a s t v f : Int32} {d : Fn} {e so : Int32} {u : Blk} (hS : S ≤ L) (hL : L ≤ 160) (hf : f = nI S) : Out tx L P (0, nI S, e, so, u) (f_X9_readItem_J182 tx (nI L) d a s t v f) :=
  Or.inl ⟨rfl, S, hS, rfl, by rw [j182_f (by rw [hf]; exact nI_n9 (by omega)), hf]⟩
/-- the semicolon -/
theorem semi {tx : Fn} {L P E : Nat} (hL : L ≤ 160) (hP : P < E) (hE : E ≤ L) {u : Blk} {d : Fn} (hG : GD u d) {a s t v : Int32} (hN : f_X9_next tx (nI L) (nI E) = (a, s, t, v)) :
    Out tx L P ((f_X4_takeSemicolon (nI E) tx (nI L)).1, (f_X4_takeSemicolon (nI E) tx (nI L)).2.1, (f_X4_takeSemicolon (nI E) tx (nI L)).2.2.1, (f_X4_takeSemicolon (nI E) tx (nI L)).2.2.2, u) (f_X9_readItem_J182 tx (nI L) d a s t v (-9)) := by
  obtain ⟨S2, E2, so2, tok2, val2, h1, h2, h3, h4, hA, hN2, hT⟩ := tk_eq hL (tx := tx) hE
  rw [hN] at hN2
  obtain ⟨rfl, rfl, rfl, rfl⟩ : a = nI E2 ∧ s = nI S2 ∧ t = tok2 ∧ v = val2 := by
    injection hN2 with q1 q2; injection q2 with q2 q3; injection q3 with q3 q4; exact ⟨q1, q2, q3, q4⟩
  unfold f_X4_takeSemicolon f_X4_takeSemicolon_C7 f_X9_readItem_J182 f_X9_readItem_J196 f_X9_readItem_C199
  rw [hA]
  dsimp only
  by_cases c : so2 = 3
  · rw [if_pos c, if_pos (hT.2.1.mp c)]
    obtain ⟨S3, E3, so3, tok3, val3, k1, k2, k3, k4, kA, kN, kT⟩ := tk_eq hL (tx := tx) h3
    rw [mu_1 kN]
    refine Or.inr ⟨rfl, E2, ?_, h3, rfl, ?_, hG⟩
    · rcases h4 with q | q
      · exfalso; have := hT.2.1.mp c; rw [q] at this; exact absurd this (by decide)
      · omega
    · rw [kN]
  · rw [if_neg c, if_neg (fun q => c (hT.2.1.mpr q)), mu_0]
    exact Or.inl ⟨rfl, S2, by omega, rfl, rfl⟩
theorem bwk {u : Blk} {k i : Nat} {x : Int32} : bw u k i x k = upd (u k) i x := if_pos rfl
theorem bwo {u : Blk} {k i : Nat} {x : Int32} {q : Nat} (h : q ≠ k) : bw u k i x q = u q := if_neg h
theorem it_reg {tx : Fn} {L P E : Nat} (hL : L ≤ 160) (hP : P ≤ E) (hE : E ≤ L) {u : Blk} {d : Fn} (hG : GD u d) (s so : Int32) (hR : nR u < 6) {a s' t v : Int32} (hN : f_X9_next tx (nI L) (nI E) = (a, s', t, v)) {T : Fn × Int32 × Int32 × Int32 × Int32 × Int32} (hT : T = f_X9_readRegister d tx (nI L) a s' t v (-9)) :
    Out tx L P (f_X4_readRegister s (nI E) so tx (nI L) u) (f_X9_readItem_J182 tx (nI L) T.1 T.2.1 T.2.2.1 T.2.2.2.1 T.2.2.2.2.1 T.2.2.2.2.2) := by
  obtain ⟨S2, E2, so2, tok2, val2, h1, h2, h3, h4, hA, hN2, hTF⟩ := tk_eq hL (tx := tx) hE
  rw [hN] at hN2
  obtain ⟨rfl, rfl, rfl, rfl⟩ : a = nI E2 ∧ s' = nI S2 ∧ t = tok2 ∧ v = val2 := by
    injection hN2 with q1 q2; injection q2 with q2 q3; injection q3 with q3 q4; exact ⟨q1, q2, q3, q4⟩
  unfold f_X4_readRegister f_X4_readRegister_C21 f_X4_readRegister_C81 f_X4_takeNumber
  unfold f_X9_readRegister f_X9_readRegister_C15 at hT
  rw [hA, eR hG.1, if_neg (show ¬ (6 : Int32) ≤ nI (nR u) from fun q => by have := (le_c (a := 6) (by omega) (by omega)).mp q; omega)]
  dsimp only
  rcases nf hTF 0 (hi := 15) (by decide) with ⟨g1, g2, g3, ⟨n, hn, g4⟩, g5⟩ | ⟨b1, b2⟩
  · obtain ⟨S3, E3, so3, tok3, val3, k1, k2, k3, k4, kA, kN, kT⟩ := tk_eq hL (tx := tx) h3
    rw [nu_g g1 g2 kN, if_pos rfl, ix90, hG.2.2.1.1, eR hG.1, x_0, x_6, x_12, ci (n := nR u) (by omega), ci (n := 6 + nR u) (by omega), ci (n := 12 + nR u) (by omega), upd_o (j := 90) (by omega), upd_o (j := 90) (by omega), upd_o (j := 90) (by omega), hG.2.2.1.1, eR hG.1, nI_1] at hT
    rw [g5]
    dsimp only
    rw [if_neg q_10, g3, hT, ci (n := nR u) (by omega)]
    dsimp only
    have lt : S2 < E2 := by
      rcases h4 with q | q
      · rw [q] at g1; exact absurd g1 (by decide)
      · exact q
    refine semi hL (P := P) (by omega) h3 ?_ kN
    refine gd_reg hG hR (v := v) ⟨?_, ?_, ?_⟩ ?_ ?_ ?_ (fun q hq => ?_) (fun j => ?_)
    · rw [bwk, upd_s, bwo (by omega), bwo (by omega), bwo (by omega), eR hG.1, nI_1]
    · rw [bwk, upd_o (by omega), bwo (by omega), bwo (by omega), bwo (by omega)]
    · rw [bwk, upd_o (by omega), bwo (by omega), bwo (by omega), bwo (by omega)]
    · rw [bwo (by omega), bwo (by omega), bwo (by omega), bwk]
    · rw [bwo (by omega), bwo (by omega), bwk, bwo (by omega)]
    · rw [bwo (by omega), bwk, bwo (by omega), bwo (by omega)]
    · rw [bwo (by omega), bwo (by omega), bwo (by omega), bwo (by omega)]
    · rfl
  · rw [nu_b b1] at hT
    rw [b2, hT]
    dsimp only
    rw [if_pos rfl, if_neg (show ¬ nI S2 = -9 from nI_n9 (by omega))]
    exact out_f (by omega) hL rfl
/-! locks and gates -/
theorem lk_f {tx d : Fn} {ty a s t v f w r : Int32} (h : f ≠ -9) : (f_X9_readLink_C53 d tx ty w r a s t v f).2.2.2.2.2 = f := by
  unfold f_X9_readLink_C53 f_X9_readLink_J109 f_X9_readLink_J105 f_X9_readLink_J110 f_X9_readLink_C113
  rw [mu_f h, mu_f h]
  dsimp only
  rw [if_neg h]
  repeat' split
  all_goals rfl
theorem in_m1 {x : Int32} {n : Nat} (hn : n < 1000) (h : f_X9_in x 0 (nI n - 1) = 1) : ∃ j, j < n ∧ x = nI j := by
  rw [in_eq (by omega)] at h
  rcases iw_of (x := x) (n := n) (by omega) with q | ⟨_, j, hj, e⟩
  · rw [q] at h; exact absurd h.symm q_10
  · exact ⟨j, hj, e⟩
theorem m1_le {n : Nat} (h : n ≤ 12) : (nI n - 1 : Int32).toInt ≤ 255 := by
  rw [show (1 : Int32) = nI 1 from rfl, pk_sub_toInt (by omega) (by omega)]; omega
theorem it_lock {tx : Fn} {L P E : Nat} (hL : L ≤ 160) (hP : P ≤ E) (hE : E ≤ L) {u : Blk} {d : Fn} (hG : GD u d) (s so : Int32) (hR : 0 < nR u) {a s' t v : Int32} (hN : f_X9_next tx (nI L) (nI E) = (a, s', t, v)) {T : Fn × Int32 × Int32 × Int32 × Int32 × Int32} (hT : T = f_X9_readLink d tx (nI L) a s' t v (-9) 6) :
    Out tx L P (f_X4_readLock s (nI E) so tx (nI L) u) (f_X9_readItem_J182 tx (nI L) T.1 T.2.1 T.2.2.1 T.2.2.2.1 T.2.2.2.2.1 T.2.2.2.2.2) := by
  have lR := lR hG.1
  have lF := lF hG.1
  obtain ⟨S2, E2, so2, tok2, val2, h1, h2, h3, h4, hA, hN2, hTF⟩ := tk_eq hL (tx := tx) hE
  rw [hN] at hN2
  obtain ⟨rfl, rfl, rfl, rfl⟩ : a = nI E2 ∧ s' = nI S2 ∧ t = tok2 ∧ v = val2 := by
    injection hN2 with q1 q2; injection q2 with q2 q3; injection q3 with q3 q4; exact ⟨q1, q2, q3, q4⟩
  have bad : ∀ (e2 so3 : Int32) (u2 : Blk), T = f_X9_readLink_J49 d tx (nI L) (nI E2) (nI S2) t v (-9) 6 → Out tx L P (0, nI S2, e2, so3, u2) (f_X9_readItem_J182 tx (nI L) T.1 T.2.1 T.2.2.1 T.2.2.2.1 T.2.2.2.2.1 T.2.2.2.2.2) := by
    intro e2 so3 u2 hb
    unfold f_X9_readLink_J49 f_X9_readLink_J50 at hb
    rw [mu_0] at hb
    exact out_f (by omega) hL (by rw [hb]; exact lk_f (nI_n9 (by omega)))
  unfold f_X4_readLock f_X4_readLock_C24 f_X4_readLock_C65 f_X4_readLock_C90
  unfold f_X9_readLink at hT
  rw [eR hG.1, eF hG.1, if_neg (fun q => by have := (n0 (by omega)).mp q; omega)]
  rw [ix90, hG.2.2.1.1, eR hG.1] at hT
  rcases nf hTF 0 (hi := nI (nR u) - 1) (m1_le (by omega)) with ⟨g1, g2, g3, ⟨n, hn, g4⟩, g5⟩ | ⟨b1, b2⟩
  · obtain ⟨r, hr, er⟩ := in_m1 (by omega) g2
    have lt : S2 < E2 := by
      rcases h4 with q | q
      · rw [q] at g1; exact absurd g1 (by decide)
      · exact q
    have tn : f_X4_takeNumber (nI E) tx (nI L) 0 (nI (nR u) - 1) = (1, nI S2, nI E2, so2) := by unfold f_X4_takeNumber; rw [hA]; exact g5
    rw [if_pos g1, if_neg (by rw [g2]; exact q_10), er, x_6, ci (n := 6 + r) (by omega), (hG.2.2.2.1 r hr).2.1] at hT
    rw [tn]
    dsimp only
    rw [if_neg q_10, g3, er, ci (n := r) (by omega)]
    by_cases c : u 2 r = -9
    · rw [if_pos c]
      rw [if_pos c] at hT
      obtain ⟨S3, E3, so3, tok3, val3, k1, k2, k3, k4, kA, kN, kT⟩ := tk_eq hL (tx := tx) h3
      unfold f_X9_readLink_J50 f_X9_readLink_C53 at hT
      rw [mu_1 kN] at hT
      dsimp only at hT
      rw [ix91, hG.2.2.1.2.1, eF hG.1] at hT
      rcases nf kT 0 (hi := nI (nF u) - 1) (m1_le (by omega)) with ⟨p1, p2, p3, ⟨n2, hn2, p4⟩, p5⟩ | ⟨b1, b2⟩
      · obtain ⟨f, hf, ef⟩ := in_m1 (by omega) p2
        have lt3 : S3 < E3 := by
          rcases k4 with q | q
          · rw [q] at p1; exact absurd p1 (by decide)
          · exact q
        have tn2 : f_X4_takeNumber (nI E2) tx (nI L) 0 (nI (nF u) - 1) = (1, nI S3, nI E3, so3) := by unfold f_X4_takeNumber; rw [kA]; exact p5
        obtain ⟨S4, E4, so4, tok4, val4, l1, l2, l3, l4, lA, lN, lT⟩ := tk_eq hL (tx := tx) k3
        rw [if_pos p1, if_neg (by rw [p2]; exact q_10), if_pos rfl] at hT
        unfold f_X9_readLink_J105 f_X9_readLink_J110 f_X9_readLink_C113 at hT
        rw [mu_1 lN] at hT
        dsimp only at hT
        rw [if_pos rfl, x_6, ci (n := 6 + r) (by omega)] at hT
        rw [tn2]
        dsimp only
        rw [if_neg q_10, p3, ef, hT, ef]
        dsimp only
        refine semi hL (P := P) (by omega) k3 ?_ lN
        exact gd_lnk hG (w := 2) (Or.inl rfl) hr hf bwk (fun q hq => bwo hq) (fun j => rfl)
      · have tn2 : f_X4_takeNumber (nI E2) tx (nI L) 0 (nI (nF u) - 1) = (0, nI S3, nI E3, so3) := by unfold f_X4_takeNumber; rw [kA]; exact b2
        rw [tn2]
        dsimp only
        rw [if_pos rfl]
        have hT2 : T = f_X9_readLink_J109 d tx (nI L) (nI E3) (nI S3) tok3 val3 (-9) 6 (nI r) := by
          rw [hT]
          rcases b1 with q | q
          · rw [if_neg q]
          · rw [if_pos q, ite_self]
        unfold f_X9_readLink_J109 f_X9_readLink_J110 f_X9_readLink_C113 at hT2
        rw [mu_0] at hT2
        dsimp only at hT2
        rw [if_neg (show ¬ nI S3 = -9 from nI_n9 (by omega))] at hT2
        exact out_f (by omega) hL (by rw [hT2])
    · rw [if_neg c]
      rw [if_neg c] at hT
      refine bad _ _ _ ?_
      rw [hT, er]
  · have tn : f_X4_takeNumber (nI E) tx (nI L) 0 (nI (nR u) - 1) = (0, nI S2, nI E2, so2) := by unfold f_X4_takeNumber; rw [hA]; exact b2
    rw [tn]
    dsimp only
    rw [if_pos rfl]
    refine bad _ _ _ ?_
    rw [hT]
    rcases b1 with q | q
    · rw [if_neg q]
    · rw [if_pos q, ite_self]
