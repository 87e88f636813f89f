/-! class against model: a text -/
theorem lt_w {tx : Fn} {s e so tok val : Int32} (h : TF tx s e so tok val) {c : Int32} (hc : c = 114 ∨ c = 102 ∨ c = 97 ∨ c = 107 ∨ c = 115) : f_X7_letter s e so tx = c ↔ (if tok = 4 then val else 0) = c := by
  rw [h.2.2.2.2 c hc]
  by_cases q : tok = 4
  · rw [if_pos q]; exact ⟨fun z => z.2, fun z => ⟨q, z⟩⟩
  · rw [if_neg q]
    refine ⟨fun z => absurd z.1 q, fun z => ?_⟩
    exfalso
    rcases hc with r | r | r | r | r <;> (rw [r] at z; exact absurd z (by decide))
theorem j111_f {tx d : Fn} {L E S : Nat} {t v x1 : Int32} (hS : S ≤ 160) : (f_X9_readItem_J111 d tx (nI L) (nI E) (nI S) t v (-9) x1).2.2.2.2.2 = nI S := by
  unfold f_X9_readItem_J111 f_X9_readItem_J112
  rw [mu_0]
  dsimp only
  unfold f_X9_readItem_C115
  rw [if_neg (show ¬ nI S = -9 from nI_n9 (by omega))]
theorem j107_e {tx d : Fn} {L E S : Nat} {t v x1 a' s' t' v' : Int32} (h : f_X9_next tx (nI L) (nI E) = (a', s', t', v')) : f_X9_readItem_J107 d tx (nI L) (nI E) (nI S) t v (-9) x1 = f_X9_readItem_C115 d tx (nI L) x1 v a' s' t' v' (-9) := by
  unfold f_X9_readItem_J107 f_X9_readItem_J112
  rw [mu_1 h]
theorem it_item {tx : Fn} {L P S E : Nat} (hL : L ≤ 160) (hP : P ≤ S) (hS : S ≤ E) (hE : E ≤ L) {u : Blk} {d : Fn} (hG : GD u d) {so tok val : Int32} (hT : TF tx (nI S) (nI E) so tok val) :
    Out tx L P (f_X4_readItem (nI S) (nI E) so tx (nI L) u) (f_X9_readItem d tx (nI L) (nI E) (nI S) tok val (-9)) := by
  have lR := lR hG.1
  have lF := lF hG.1
  have lA := lA hG.1
  obtain ⟨S2, E2, so2, tok2, val2, h1, h2, h3, h4, hA, hN, hTF⟩ := tk_eq hL (tx := tx) hE
  have hM : f_X9_readItem d tx (nI L) (nI E) (nI S) tok val (-9) = f_X9_readItem_J16 d tx (nI L) (nI E) (nI S) tok val (-9) (if tok = 4 then val else 0) := by
    unfold f_X9_readItem
    by_cases q : tok = 4
    · rw [if_pos q, if_pos q]
    · rw [if_neg q, if_neg q]
  have wA := lt_w hT (c := 97) (Or.inr (Or.inr (Or.inl rfl)))
  have wF := lt_w hT (c := 102) (Or.inr (Or.inl rfl))
  have wK := lt_w hT (c := 107) (Or.inr (Or.inr (Or.inr (Or.inl rfl))))
  have wR := lt_w hT (c := 114) (Or.inl rfl)
  have wS := lt_w hT (c := 115) (Or.inr (Or.inr (Or.inr (Or.inr rfl))))
  rw [hM]
  generalize (if tok = 4 then val else 0) = x1 at wA wF wK wR wS
  have hx2 : f_X9_readItem_J16 d tx (nI L) (nI E) (nI S) tok val (-9) x1 = f_X9_readItem_J32 d tx (nI L) (nI E) (nI S) tok val (-9) x1 (if nR u = 0 then 0 else 1) := by
    unfold f_X9_readItem_J16
    rw [ix90, hG.2.2.1.1, eR hG.1]
    by_cases q : nR u = 0
    · rw [if_pos q, if_pos (show nI (nR u) ≤ (0 : Int32) from (le_c (b := 0) (by omega) (by omega)).mpr (by omega))]
    · rw [if_neg q, if_neg (show ¬ nI (nR u) ≤ (0 : Int32) from fun z => by have := (le_c (b := 0) (by omega) (by omega)).mp z; omega)]
  have bad : ∀ C : Int32 × Int32 × Int32 × Int32 × Blk, C = (0, nI S, nI E, so, u) → f_X9_readItem_J32 d tx (nI L) (nI E) (nI S) tok val (-9) x1 (if nR u = 0 then 0 else 1) = f_X9_readItem_J111 d tx (nI L) (nI E) (nI S) tok val (-9) x1 → Out tx L P C (f_X9_readItem_J16 d tx (nI L) (nI E) (nI S) tok val (-9) x1) := by
    intro C e1 e2
    rw [hx2, e2, e1]
    exact Or.inl ⟨rfl, S, by omega, rfl, j111_f (by omega)⟩
  have good : ∀ C : Int32 × Int32 × Int32 × Int32 × Blk, f_X9_readItem_J32 d tx (nI L) (nI E) (nI S) tok val (-9) x1 (if nR u = 0 then 0 else 1) = f_X9_readItem_J107 d tx (nI L) (nI E) (nI S) tok val (-9) x1 → Out tx L P C (f_X9_readItem_C115 d tx (nI L) x1 val (nI E2) (nI S2) tok2 val2 (-9)) → Out tx L P C (f_X9_readItem_J16 d tx (nI L) (nI E) (nI S) tok val (-9) x1) := by
    intro C e1 e2
    rw [hx2, e1, j107_e hN]
    exact e2
  have c90 : d (90 : Int32).toNatClampNeg = nI (nR u) := by rw [ix90, hG.2.2.1.1, eR hG.1]
  have c91 : d (91 : Int32).toNatClampNeg = nI (nF u) := by rw [ix91, hG.2.2.1.2.1, eF hG.1]
  have c92 : d (92 : Int32).toNatClampNeg = nI (nA u) := by rw [ix92, hG.2.2.1.2.2, eA hG.1]
  unfold f_X4_readItem
  by_cases a : x1 = 97
  · rw [if_pos (wA.mpr a)]
    by_cases q : nA u < 4
    · refine good _ ?_ ?_
      · unfold f_X9_readItem_J32 f_X9_readItem_J52 f_X9_readItem_J74
        rw [c92, a, if_neg (show ¬ (97 : Int32) = 114 by decide), if_neg (show ¬ (97 : Int32) = 102 by decide), if_pos rfl, if_pos (show nI (nA u) < (4 : Int32) from (lt_c (b := 4) (by omega) (by omega)).mpr q)]
      · unfold f_X9_readItem_C115
        rw [if_pos rfl, a, if_neg (show ¬ (97 : Int32) = 114 by decide), if_neg (show ¬ (97 : Int32) = 102 by decide), if_pos rfl]
        exact it_alias hL (by omega) hE hG (nI S) so q hN rfl
    · refine bad _ ?_ ?_
      · unfold f_X4_readAlias
        rw [eA hG.1, if_pos (show (4 : Int32) ≤ nI (nA u) from (le_c (a := 4) (by omega) (by omega)).mpr (by omega))]
        rfl
      · unfold f_X9_readItem_J32 f_X9_readItem_J52 f_X9_readItem_J74 f_X9_readItem_J91
        rw [c92, a, if_neg (show ¬ (97 : Int32) = 114 by decide), if_neg (show ¬ (97 : Int32) = 102 by decide), if_pos rfl, if_neg (show ¬ nI (nA u) < (4 : Int32) from fun z => q ((lt_c (b := 4) (by omega) (by omega)).mp z)), if_neg (show ¬ (97 : Int32) = 107 by decide), if_neg (show ¬ (97 : Int32) = 115 by decide)]
  rw [if_neg (fun z => a (wA.mp z))]
  by_cases b : x1 = 102
  · rw [if_pos (wF.mpr b)]
    by_cases q : nF u < 12 ∧ 0 < nR u
    · refine good _ ?_ ?_
      · unfold f_X9_readItem_J32 f_X9_readItem_J52
        rw [c91, b, if_neg (show ¬ (102 : Int32) = 114 by decide), if_pos rfl, if_neg (show ¬ nR u = 0 by omega), if_neg q_10, if_pos (show nI (nF u) < (12 : Int32) from (lt_c (b := 12) (by omega) (by omega)).mpr q.1)]
      · unfold f_X9_readItem_C115
        rw [if_pos rfl, b, if_neg (show ¬ (102 : Int32) = 114 by decide), if_pos rfl]
        exact it_field hL (by omega) hE hG (nI S) so q.2 q.1 hN rfl
    · refine bad _ ?_ ?_
      · unfold f_X4_readField
        rw [eF hG.1, eR hG.1]
        by_cases z : nF u < 12
        · rw [if_neg (show ¬ (12 : Int32) ≤ nI (nF u) from fun y => by have := (le_c (a := 12) (by omega) (by omega)).mp y; omega), show nR u = 0 by omega, if_pos (show nI 0 - 1 < (0 : Int32) by decide)]
          rfl
        · rw [if_pos (show (12 : Int32) ≤ nI (nF u) from (le_c (a := 12) (by omega) (by omega)).mpr (by omega))]
          rfl
      · unfold f_X9_readItem_J32 f_X9_readItem_J52 f_X9_readItem_J74 f_X9_readItem_J91
        rw [c91, b, if_neg (show ¬ (102 : Int32) = 114 by decide), if_pos rfl, if_neg (show ¬ (102 : Int32) = 97 by decide), if_neg (show ¬ (102 : Int32) = 107 by decide), if_neg (show ¬ (102 : Int32) = 115 by decide)]
        by_cases z : nR u = 0
        · rw [if_pos z, if_pos rfl]
        · rw [if_neg z, if_neg q_10, if_neg (show ¬ nI (nF u) < (12 : Int32) from fun y => q ⟨(lt_c (b := 12) (by omega) (by omega)).mp y, by omega⟩)]
  rw [if_neg (fun z => b (wF.mp z))]
  by_cases k : x1 = 107
  · rw [if_pos (wK.mpr k)]
    by_cases q : 0 < nR u
    · refine good _ ?_ ?_
      · unfold f_X9_readItem_J32 f_X9_readItem_J52 f_X9_readItem_J74 f_X9_readItem_J91 f_X9_readItem_J103
        rw [k, if_neg (show ¬ (107 : Int32) = 114 by decide), if_neg (show ¬ (107 : Int32) = 102 by decide), if_neg (show ¬ (107 : Int32) = 97 by decide), if_pos rfl, if_neg (show ¬ nR u = 0 by omega), if_neg q_10]
      · unfold f_X9_readItem_C115
        rw [if_pos rfl, k, if_neg (show ¬ (107 : Int32) = 114 by decide), if_neg (show ¬ (107 : Int32) = 102 by decide), if_neg (show ¬ (107 : Int32) = 97 by decide), if_pos rfl]
        exact it_lock hL (by omega) hE hG (nI S) so q hN rfl
    · refine bad _ ?_ ?_
      · unfold f_X4_readLock
        rw [eR hG.1, show nR u = 0 by omega, if_pos (show nI 0 = (0 : Int32) from rfl)]
        rfl
      · unfold f_X9_readItem_J32 f_X9_readItem_J52 f_X9_readItem_J74 f_X9_readItem_J91 f_X9_readItem_J103
        rw [k, if_neg (show ¬ (107 : Int32) = 114 by decide), if_neg (show ¬ (107 : Int32) = 102 by decide), if_neg (show ¬ (107 : Int32) = 97 by decide), if_pos rfl, if_pos (show nR u = 0 by omega), if_pos rfl]
  rw [if_neg (fun z => k (wK.mp z))]
  by_cases r : x1 = 114
  · rw [if_pos (wR.mpr r)]
    by_cases q : nR u < 6
    · refine good _ ?_ ?_
      · unfold f_X9_readItem_J32
        rw [c90, r, if_pos rfl, if_pos (show nI (nR u) < (6 : Int32) from (lt_c (b := 6) (by omega) (by omega)).mpr q)]
      · unfold f_X9_readItem_C115
        rw [if_pos rfl, r, if_pos rfl]
        exact it_reg hL (by omega) hE hG (nI S) so q hN rfl
    · refine bad _ ?_ ?_
      · unfold f_X4_readRegister
        rw [eR hG.1, if_pos (show (6 : Int32) ≤ nI (nR u) from (le_c (a := 6) (by omega) (by omega)).mpr (by omega))]
        rfl
      · unfold f_X9_readItem_J32 f_X9_readItem_J52 f_X9_readItem_J74 f_X9_readItem_J91
        rw [c90, r, if_pos rfl, if_neg (show ¬ nI (nR u) < (6 : Int32) from fun z => q ((lt_c (b := 6) (by omega) (by omega)).mp z)), if_neg (show ¬ (114 : Int32) = 102 by decide), if_neg (show ¬ (114 : Int32) = 97 by decide), if_neg (show ¬ (114 : Int32) = 107 by decide), if_neg (show ¬ (114 : Int32) = 115 by decide)]
  rw [if_neg (fun z => r (wR.mp z))]
  by_cases s : x1 = 115
  · rw [if_pos (wS.mpr s)]
    by_cases q : 0 < nR u
    · refine good _ ?_ ?_
      · unfold f_X9_readItem_J32 f_X9_readItem_J52 f_X9_readItem_J74 f_X9_readItem_J91 f_X9_readItem_J103
        rw [s, if_neg (show ¬ (115 : Int32) = 114 by decide), if_neg (show ¬ (115 : Int32) = 102 by decide), if_neg (show ¬ (115 : Int32) = 97 by decide), if_neg (show ¬ (115 : Int32) = 107 by decide), if_pos rfl, if_neg (show ¬ nR u = 0 by omega), if_neg q_10]
      · unfold f_X9_readItem_C115
        rw [if_pos rfl, s, if_neg (show ¬ (115 : Int32) = 114 by decide), if_neg (show ¬ (115 : Int32) = 102 by decide), if_neg (show ¬ (115 : Int32) = 97 by decide), if_neg (show ¬ (115 : Int32) = 107 by decide)]
        exact it_gate hL (by omega) hE hG (nI S) so q hN rfl
    · refine bad _ ?_ ?_
      · unfold f_X4_readGate
        rw [eR hG.1, show nR u = 0 by omega, if_pos (show nI 0 = (0 : Int32) from rfl)]
        rfl
      · unfold f_X9_readItem_J32 f_X9_readItem_J52 f_X9_readItem_J74 f_X9_readItem_J91 f_X9_readItem_J103
        rw [s, if_neg (show ¬ (115 : Int32) = 114 by decide), if_neg (show ¬ (115 : Int32) = 102 by decide), if_neg (show ¬ (115 : Int32) = 97 by decide), if_neg (show ¬ (115 : Int32) = 107 by decide), if_pos rfl, if_pos (show nR u = 0 by omega), if_pos rfl]
  rw [if_neg (fun z => s (wS.mp z))]
  refine bad _ rfl ?_
  unfold f_X9_readItem_J32 f_X9_readItem_J52 f_X9_readItem_J74 f_X9_readItem_J91
  rw [if_neg r, if_neg b, if_neg a, if_neg k, if_neg s]
theorem pa_L {tx : Fn} {L : Nat} (hL : L ≤ 160) {told now kept : Fn} {pp : Int32} : ∀ n x P (s so : Int32) (u : Blk) (d : Fn) (a s' t v : Int32), GD u d → DraftInv d → P ≤ L → x ≤ P → L + 1 < n + P → f_X9_next tx (nI L) (nI P) = (a, s', t, v) →
    ∃ (d' : Fn) (a' s2 t' v' f : Int32) (it : Nat), f_X9_tells_L38 told now pp kept tx (nI L) n (nI x) d a s' t v (-9) = f_X9_tells_J64 told d' now pp kept (nI L) a' s2 t' v' f (nI it) ∧
      ((∃ S, S ≤ L ∧ f = nI S ∧ (f_X4_parse_L16 tx (nI L) n (nI x) s (nI P) so u).1 = -10 - nI S) ∨ (f = -9 ∧ it ≤ 160 ∧ (f_X4_parse_L16 tx (nI L) n (nI x) s (nI P) so u).1 = nI it ∧ GD (f_X4_parse_L16 tx (nI L) n (nI x) s (nI P) so u).2.2.2.2 d' ∧ DraftInv d')) := by
  intro n
  induction n with
  | zero => intro x P s so u d a s' t v _ _ h1 h2 h3; omega
  | succ n ih =>
    intro x P s so u d a s' t v hG hD h1 h2 h3 hN
    obtain ⟨S, E, so2, tok, val, g1, g2, g3, g4, hA, hN2, hT⟩ := tk_eq hL (tx := tx) h1
    obtain ⟨rfl, rfl, rfl, rfl⟩ := tok4 hN hN2
    rw [f_X9_tells_L38, f_X4_parse_L16, if_pos rfl, if_neg (show ¬ (160 : Int32) < nI x from fun q => by have := (lt_c (a := 160) (by omega) (by omega)).mp q; omega), hA]
    unfold f_X4_parse_C30 f_X4_parse_C47 f_X9_tells_C58
    dsimp only
    by_cases c : so2 = 4
    · rw [if_pos c, if_pos (hT.1.mp c)]
      exact ⟨d, _, _, _, _, -9, x, rfl, Or.inr ⟨rfl, by omega, rfl, hG, hD⟩⟩
    · have t0 : t ≠ 0 := fun q => c (hT.1.mpr q)
      have lt : S < E := tk_lt g4 t0
      rw [if_neg c, if_neg t0, nI_1]
      have hDI := RM_readItem (d := d) (tx := tx) (ty := nI L) (p := nI E) (ta := nI S) (tk := t) (v := v) (f := -9) hD (by rw [ti_c (by omega)]; omega) (by rw [ti_c (by omega), ti_c (by omega)]; omega) (by rw [ti_c (by omega)]; omega)
      rcases it_item hL (P := P) g1 g2 g3 hG hT with ⟨o1, S3, o2, o3, o4⟩ | ⟨o1, E3, o2, o3, o4, o5, o6⟩
      · rw [o1, if_pos rfl, o3]
        obtain ⟨m, rfl⟩ : ∃ m, n = m + 1 := ⟨n - 1, by omega⟩
        rw [f_X9_tells_L38, o4, if_neg (show ¬ nI S3 = -9 from nI_n9 (by omega))]
        exact ⟨_, _, _, _, _, nI S3, x + 1, rfl, Or.inl ⟨S3, o2, rfl, rfl⟩⟩
      · rw [o1, if_neg q_10, o4, o5]
        dsimp only
        exact ih (x + 1) E3 _ _ _ _ _ _ _ _ o6 hDI.1 o3 (by omega) (by omega) rfl
theorem tz_L {tx : Fn} {told now kept : Fn} {pp ty : Int32} : ∀ n i (d : Fn), i ≤ 93 → 93 < n + i → (∀ j, j < i → d j = 0) → ∃ dz : Fn, (∀ j, j < 93 → dz j = 0) ∧ f_X9_tells_L2 told now pp kept tx ty n (nI i) d = f_X9_tells_L38 told now pp kept tx ty 4000 (nI 0) dz (f_X9_next tx ty (nI 0)).1 (f_X9_next tx ty (nI 0)).2.1 (f_X9_next tx ty (nI 0)).2.2.1 (f_X9_next tx ty (nI 0)).2.2.2 (-9) := by
  intro n
  induction n with
  | zero => intro i d h1 h2; omega
  | succ n ih =>
    intro i d h1 h2 hz
    rw [f_X9_tells_L2, ci (by omega), nI_1]
    by_cases z : 93 ≤ i
    · rw [if_pos (show (93 : Int32) ≤ nI i from (le_c (a := 93) (by omega) (by omega)).mpr z)]
      exact ⟨d, fun j hj => hz j (by omega), rfl⟩
    · rw [if_neg (show ¬ (93 : Int32) ≤ nI i from fun q => z ((le_c (a := 93) (by omega) (by omega)).mp q))]
      exact ih (i + 1) _ (by omega) (by omega) (fun j hj => by
        by_cases y : j = i
        · rw [y, upd_s]
        · rw [upd_o y]; exact hz j (by omega))
theorem tc_L {d now kept : Fn} {a s t v f x : Int32} : ∀ n i (told : Fn), i ≤ 93 → 93 < n + i → (∀ j, j < i → told j = d j) → ∃ t' : Fn, (∀ j, j < 93 → t' j = d j) ∧ f_X9_tells_L83 d now kept a s t v f x n (nI i) told = f_X9_tells_C116 t' d 0 a s t v f x (f_X9_begin t' now kept).1 (f_X9_begin t' now kept).2.1 (f_X9_begin t' now kept).2.2 := by
  intro n
  induction n with
  | zero => intro i d h1 h2; omega
  | succ n ih =>
    intro i told h1 h2 hz
    rw [f_X9_tells_L83, ci (by omega), nI_1]
    by_cases z : 93 ≤ i
    · rw [if_pos (show (93 : Int32) ≤ nI i from (le_c (a := 93) (by omega) (by omega)).mpr z)]
      exact ⟨told, fun j hj => hz j (by omega), rfl⟩
    · rw [if_neg (show ¬ (93 : Int32) ≤ nI i from fun q => z ((le_c (a := 93) (by omega) (by omega)).mp q))]
      exact ih (i + 1) _ (by omega) (by omega) (fun j hj => by
        by_cases y : j = i
        · rw [y, upd_s]
        · rw [upd_o y]; exact hz j (by omega))
theorem gd_0 {u : Blk} {d : Fn} (hI : BlkInv u) (hz : ∀ j, j < 93 → d j = 0) : GD (f_X0_empty u) d := by
  have e0 : f_X0_empty u 0 0 = nI 0 := rfl
  have e1 : f_X0_empty u 0 1 = nI 0 := rfl
  have e2 : f_X0_empty u 0 2 = nI 0 := rfl
  have r0 : nR (f_X0_empty u) = 0 := nR_e e0 (by omega)
  have f0 : nF (f_X0_empty u) = 0 := nF_e e1 (by omega)
  have a0 : nA (f_X0_empty u) = 0 := nA_e e2 (by omega)
  refine ⟨BI_empty hI, ⟨fun f hf => by omega, fun f g hf => by omega, fun r hr => by omega, fun a ha => by omega⟩, ⟨(hz 90 (by omega)).trans e0.symm, (hz 91 (by omega)).trans e1.symm, (hz 92 (by omega)).trans e2.symm⟩, fun r hr => by omega, fun f hf => by omega, fun a ha => by omega⟩
theorem gb_cong {u : Blk} {d t : Fn} (h : GD u d) (hD : DraftInv d) (he : ∀ j, j < 93 → t j = d j) : GB u t := by
  have lR := lR h.1
  have lF := lF h.1
  have lA := lA h.1
  refine ⟨h.1, h.2.1, ⟨?_, fun r hr => ?_, fun f hf => ?_, fun a ha => ?_⟩, TI_cong hD.1 he⟩
  · rw [he 90 (by omega), he 91 (by omega), he 92 (by omega)]; exact h.2.2.1
  · rw [he r (by omega), he (6 + r) (by omega), he (12 + r) (by omega)]; exact h.2.2.2.1 r hr
  · rw [he (18 + f) (by omega), he (30 + f) (by omega), he (42 + f) (by omega), he (54 + f) (by omega), he (66 + f) (by omega)]; exact h.2.2.2.2.1 f hf
  · rw [he (78 + a) (by omega), he (82 + a) (by omega), he (86 + a) (by omega)]; exact h.2.2.2.2.2 a ha
/-- a text read both ways -/
theorem pt_eq {tx : Fn} {L : Nat} (hL : L ≤ 160) {told draft now kept : Fn} {pp : Int32} (s so : Int32) {pu : Blk} (hI : BlkInv pu) :
    (∃ (S : Nat) (d' : Fn) (a s2 t v : Int32), S ≤ L ∧ (f_X4_parse s so tx (nI L) pu).1 = -10 - nI S ∧ f_X9_tells told draft now pp kept tx (nI L) = (-10 - nI S, told, d', now, pp, kept, nI L, a, s2, t, v, nI S)) ∨
    (∃ (it : Nat) (t' d' : Fn) (a s2 t v : Int32), it ≤ 160 ∧ (f_X4_parse s so tx (nI L) pu).1 = nI it ∧ GB (f_X4_parse s so tx (nI L) pu).2.2.2.2 t' ∧ f_X9_tells told draft now pp kept tx (nI L) = (nI it, t', d', (f_X9_begin t' now kept).1, (f_X9_begin t' now kept).2.1, (f_X9_begin t' now kept).2.2, 0, a, s2, t, v, -9)) := by
  obtain ⟨dz, z1, z2⟩ := tz_L (tx := tx) (told := told) (now := now) (kept := kept) (pp := pp) (ty := nI L) 4000 0 draft (by omega) (by omega) (fun j hj => by omega)
  have z2 : f_X9_tells told draft now pp kept tx (nI L) = _ := z2
  obtain ⟨d', a', s2, t', v', f, it, p1, p2⟩ := pa_L (tx := tx) hL (told := told) (now := now) (kept := kept) (pp := pp) 4000 0 0 s so (f_X0_empty pu) dz (f_X9_next tx (nI L) (nI 0)).1 (f_X9_next tx (nI L) (nI 0)).2.1 (f_X9_next tx (nI L) (nI 0)).2.2.1 (f_X9_next tx (nI L) (nI 0)).2.2.2 (gd_0 hI z1) (DI_zero z1) (by omega) (by omega) (by omega) rfl
  have hp : f_X4_parse s so tx (nI L) pu = f_X4_parse_L16 tx (nI L) 4000 (nI 0) s (nI 0) so (f_X0_empty pu) := rfl
  rw [hp, z2, p1]
  unfold f_X9_tells_J64
  rcases p2 with ⟨S, hS, ef, eC⟩ | ⟨ef, hit, eC, hG, hD⟩
  · left
    rw [ef, if_neg (show ¬ nI S = -9 from nI_n9 (by omega))]
    exact ⟨S, d', a', s2, t', v', hS, eC, rfl⟩
  · right
    rw [ef, if_pos rfl]
    obtain ⟨t2, c1, c2⟩ := tc_L (d := d') (now := now) (kept := kept) (a := a') (s := s2) (t := t') (v := v') (f := -9) (x := nI it) 4000 0 told (by omega) (by omega) (fun j hj => by omega)
    have c2 : f_X9_tells_L83 d' now kept a' s2 t' v' (-9) (nI it) 4000 0 told = _ := c2
    rw [c2]
    exact ⟨it, t2, d', a', s2, t', v', hit, eC, gb_cong hG hD c1, rfl⟩
/-! a reset of both -/
theorem rst_eq {u : Blk} {t : Fn} (hG : GB u t) {w k mk : Fn} (c h e mc mh me ja jb jv : Fn) (h1 : ∀ f, f < nF u → w (12 + f) = k f) (h2 : ∀ f, f < nF u → w (48 + f) = mk f) (h3 : ∀ f, f < nF u → mk f = u 5 f) :
    SR u (0, -9, ((f_X1_restart c h e u).1, (f_X1_restart c h e u).2.1, (f_X1_restart c h e u).2.2, k), ((f_X1_restart mc mh me u).1, (f_X1_restart mc mh me u).2.1, (f_X1_restart mc mh me u).2.2, mk), (0, ja, jb, jv)) (f_X9_emptyLog (f_X9_reset t (f_X9_reset t w (nI 0)) (nI 36))) := by
  have lF := lF hG.1
  have f0 : ∀ j, 36 ≤ j → f_X9_reset t w (nI 0) j = w j := fun j hj => FR_reset (by rw [ti_c (by omega)]; omega) (by rw [ti_c (by omega)]; omega)
  have f36 : ∀ w1 : Fn, ∀ j, j < 36 ∨ 72 ≤ j → f_X9_reset t w1 (nI 36) j = w1 j := fun w1 j hj => FR_reset (by rw [ti_c (by omega)]; omega) (by rw [ti_c (by omega)]; omega)
  have fe : ∀ w1 : Fn, ∀ j, j < 72 → f_X9_emptyLog w1 j = w1 j := fun w1 j hj => by
    unfold f_X9_emptyLog
    rw [show (72 : Int32).toNatClampNeg = 72 from rfl, show (133 : Int32).toNatClampNeg = 133 from rfl, show (134 : Int32).toNatClampNeg = 134 from rfl, upd_o (by omega), upd_o (by omega), upd_o (by omega)]
  have d0 := rs_eq hG (m := 0) (by omega) (w := w) (k := k) c h e (fun f hf => by rw [Nat.zero_add]; exact h1 f hf)
  have d36 := rs_eq hG (m := 36) (by omega) (w := f_X9_reset t w (nI 0)) (k := mk) mc mh me (fun f hf => (f0 _ (by omega)).trans (h2 f hf))
  refine ⟨⟨?_, ?_⟩, dr_cong hG.1 hG.2.1 d0 (fun _ _ => ⟨rfl, rfl, rfl⟩) (fun _ _ => rfl) (fun j hj => (fe _ _ (by omega)).trans (f36 _ _ (by omega))), dr_cong hG.1 hG.2.1 d36 (fun _ _ => ⟨rfl, rfl, rfl⟩) (fun _ _ => rfl) (fun j hj => fe _ _ (by omega)), h3, 0, by omega, rfl, ?_, fun i hi => by omega⟩
  · rfl
  · rfl
  · rfl
theorem beg_eq {u : Blk} {t : Fn} (hG : GB u t) (w kept c h e k mc mh me mk ja jb jv : Fn) :
    SR u (0, -9, ((f_X1_restart c h e u).1, (f_X1_restart c h e u).2.1, (f_X1_restart c h e u).2.2, f_X1_mend k u), ((f_X1_restart mc mh me u).1, (f_X1_restart mc mh me u).2.1, (f_X1_restart mc mh me u).2.2, f_X1_mend mk u), (0, ja, jb, jv)) (f_X9_begin t w kept).1 := by
  have lF := lF hG.1
  have fr : ∀ w1 : Fn, ∀ j, j < 36 ∨ 72 ≤ j → f_X9_repair t w1 (nI 36) j = w1 j := fun w1 j hj => FR_repair (by rw [ti_c (by omega)]; omega) (by rw [ti_c (by omega)]; omega)
  have r0 := fun f hf => rp_eq hG (m := 0) (by omega) w (f := f) hf
  have r36 := fun f hf => rp_eq hG (m := 36) (by omega) (f_X9_repair t w (nI 0)) (f := f) hf
  exact rst_eq hG (w := f_X9_repair t (f_X9_repair t w (nI 0)) (nI 36)) c h e mc mh me ja jb jv (fun f hf => by
    rw [fr _ _ (by omega), md_eq (by omega), ← r0 f hf, Nat.zero_add]) (fun f hf => by
    rw [md_eq (by omega), ← r36 f hf]) (fun f hf => md_eq (by omega))
