/-! class against model: a read, a write of both machines -/
theorem ln_none {u : Blk} {k : Fn} (hI : BlkInv u) (v : Int32) : ∀ n i (c : Fn), nF u < n + i → i ≤ nF u → f_X1_learn_L10 k u v (-9) n (nI i) c = c := by
  have hF := lF hI
  intro n
  induction n with
  | zero => intro i c h1 h2; omega
  | succ n ih =>
    intro i c h1 h2
    rw [f_X1_learn_L10, eF hI, ci (by omega)]
    by_cases z : nF u ≤ i
    · rw [if_pos ((le_c (by omega) (by omega)).mpr z)]
    · rw [if_neg (fun q => z ((le_c (by omega) (by omega)).mp q)), if_neg (ow9 hI i), nI_1]
      exact ih (i + 1) c (by omega) (by omega)
theorem ln_L {u : Blk} {t : Fn} (hG : GB u t) {h e k : Fn} {r : Nat} (hr : r < nR u) (v : Int32) {past : Fn} {pp a to mine : Int32} (h9 : to ≠ -9) (hto : f_X9_registerOf t to = nI r) : ∀ n i (c w : Fn), i ≤ nF u → nF u < n + i → DR u 36 c h e k w →
    ∃ w' : Fn, f_X9_reads_L56 t past pp a to mine v n (nI i) w = f_X9_reads_J139 t w' past pp a to mine v ∧ DR u 36 (f_X1_learn_L10 k u v (nI r) n (nI i) c) h e k w' ∧ ∀ j, j < 36 ∨ 72 ≤ j → w' j = w j := by
  have hF := lF hG.1
  have hR := lR hG.1
  intro n
  induction n with
  | zero => intro i c w h1 h2; omega
  | succ n ih =>
    intro i c w h1 h2 hD
    rw [f_X1_learn_L10, f_X9_reads_L56, f_fld hG, eF hG.1, x_18, ci (n := i) (by omega), ci (n := 18 + i) (by omega), hto]
    by_cases z : nF u ≤ i
    · rw [if_pos ((le_c (by omega) (by omega)).mpr z), if_pos ((le_c (by omega) (by omega)).mpr z)]
      exact ⟨w, rfl, hD, fun _ _ => rfl⟩
    · have z' : ¬ nI (nF u) ≤ nI i := fun q => z ((le_c (by omega) (by omega)).mp q)
      have hi : i < nF u := by omega
      have hO := lO hG.1 i
      have hk : w (48 + i) = k i := (congrArg w (by omega)).trans (hD.1 i hi).2
      rw [if_neg z', if_neg z', if_neg h9, (hG.2.2.1.2.2.1 i hi).1, eO hG.1]
      by_cases o : ow u i = r
      · rw [if_pos (congrArg nI o), if_pos (congrArg nI o), x_48, ci (n := 48 + i) (by omega), hk]
        by_cases kk : k i = 2
        · rw [if_pos kk, if_pos kk, nI_1]
          exact ih (i + 1) _ _ (by omega) (by omega) hD
        · rw [if_neg kk, if_neg kk, nI_1, x_36, x_30, ci (n := 36 + i) (by omega), ci (n := 30 + i) (by omega), (hG.2.2.1.2.2.1 i hi).2.1, most_eq hG hi, ← Int32.shiftRight_and]
          obtain ⟨w', g1, g2, g3⟩ := ih (i + 1) _ _ (by omega) (by omega) (dr_put hG hD hi v _ rfl)
          exact ⟨w', g1, g2, fun j hj => (g3 j hj).trans (upd_o (by omega))⟩
      · have o' : ¬ nI (ow u i) = nI r := fun q => o ((eq_c (by omega) (by omega)).mp q)
        rw [if_neg o', if_neg o', nI_1]
        exact ih (i + 1) _ _ (by omega) (by omega) hD
theorem frR {u : Blk} {t : Fn} (hG : GB u t) {m : Nat} (hm : m ≤ 135) (w : Fn) (a : Int32) {j : Nat} (hj : j < m ∨ m + 36 ≤ j) : (f_X9_readOf t w (nI m) a).2 j = w j := FR_readOf hG.2.2.2 (by rw [ti_c (by omega)]; omega) (by rw [ti_c (by omega)]; omega)
theorem frW {u : Blk} {t : Fn} (hG : GB u t) {m : Nat} (hm : m ≤ 135) (w : Fn) (a v : Int32) {j : Nat} (hj : j < m ∨ m + 36 ≤ j) : f_X9_writeTo t w (nI m) a v j = w j := FR_writeTo hG.2.2.2 (by rw [ti_c (by omega)]; omega) (by rw [ti_c (by omega)]; omega)
theorem frC (w : Fn) {a b : Nat} (ha : a ≤ 135) (hb : b ≤ 135) {j : Nat} (hj : j < b ∨ b + 36 ≤ j) : f_X9_copyMachine w (nI a) (nI b) j = w j := FR_copyMachine (by rw [ti_c (by omega)]; omega) (by rw [ti_c (by omega)]; omega) (by rw [ti_c (by omega)]; omega)
theorem j139 {t w past : Fn} {pp a mine v : Int32} : f_X9_reads_J139 t w past pp a (f_X9_goesTo t a) mine v = f_X9_reads_J152 past pp a mine v (f_X9_readOf t w (nI 36) a).2 := by
  unfold f_X9_reads_J139 f_X9_readOf
  by_cases c : f_X9_goesTo t a = -9
  · rw [if_pos c, if_pos c]
  · rw [if_neg c, if_neg c]; rfl
theorem ln_eq {u : Blk} {t : Fn} (hG : GB u t) {h e k c w : Fn} (v a : Int32) {past : Fn} {pp mine : Int32} (hD : DR u 36 c h e k w) :
    ∃ w' : Fn, f_X9_reads_L56 t past pp a (f_X9_goesTo t a) mine v 4000 (nI 0) w = f_X9_reads_J139 t w' past pp a (f_X9_goesTo t a) mine v ∧ DR u 36 (f_X1_learn c k u a v) h e k w' ∧ ∀ j, j < 36 ∨ 72 ≤ j → w' j = w j := by
  have hF := lF hG.1
  unfold f_X1_learn
  rcases goes2 hG a with ⟨h1, h2, h3⟩ | ⟨r, hr, h1, h2, h3⟩
  · rw [h1, h2, show (0 : Int32) = nI 0 from rfl, ln_none hG.1 v 4000 0 c (by omega) (by omega)]
    refine ⟨w, ?_, hD, fun _ _ => rfl⟩
    rw [f_X9_reads_L56, f_fld hG]
    by_cases z : nI (nF u) ≤ nI 0
    · rw [if_pos z]
    · rw [if_neg z, if_pos rfl]
  · rw [h1]
    exact ln_L hG hr v h2 h3 4000 0 c w (by omega) (by omega) hD
theorem pr_eq {u : Blk} {t : Fn} (hG : GB u t) {s : Sit} {w : Fn} (hS : SR u s w) (hl : s.2.2.2.2.1 < 20) (a : Int32) (past : Fn) (pp : Int32) :
    ∃ w' : Fn, f_X9_reads_C31 t w a past pp = ((f_X5_performRead s.1 s.2.2.1.1 s.2.2.1.2.2.2 s.2.2.2.1.1 s.2.2.2.1.2.2.2 s.2.2.2.2.1 s.2.2.2.2.2.1 s.2.2.2.2.2.2.1 s.2.2.2.2.2.2.2 u a).1, w', past, pp) ∧
      ∀ P, P = f_X5_performRead s.1 s.2.2.1.1 s.2.2.1.2.2.2 s.2.2.2.1.1 s.2.2.2.1.2.2.2 s.2.2.2.2.1 s.2.2.2.2.2.1 s.2.2.2.2.2.2.1 s.2.2.2.2.2.2.2 u a →
      SR u (P.2.1, P.2.2.1, (P.2.2.2.1, s.2.2.1.2.1, s.2.2.1.2.2.1, s.2.2.1.2.2.2), (P.2.2.2.2.1, s.2.2.2.1.2.1, s.2.2.2.1.2.2.1, s.2.2.2.1.2.2.2), P.2.2.2.2.2) w' := by
  obtain ⟨df, ld, ⟨c, h, e, k⟩, ⟨mc, mh, me, mk⟩, jl, ja, jb, jv⟩ := s
  obtain ⟨⟨s1, s2⟩, hD, hM, hk, hL⟩ := hS
  dsimp only at hl s1 s2 hD hM hk hL ⊢
  have hF := lF hG.1
  have hR := lR hG.1
  obtain ⟨r1, r2⟩ := rd_eq hG (m := 0) (by omega) hD a
  have l1 := lk_look hG (m := 36) (by omega) hM a
  have hM1 : DR u 36 mc mh me mk (f_X9_readOf t w (nI 0) a).2 := dr_cong hG.1 hG.2.1 hM (fun r _ => ⟨rfl, rfl, rfl⟩) (fun _ _ => rfl) (fun j hj => frR hG (m := 0) (by omega) w a (by omega))
  obtain ⟨w2, n1, n2, n3⟩ := ln_eq hG (f_X9_readOf t w (nI 0) a).1 a (past := past) (pp := pp) (mine := f_X9_peekAt t w (nI 36) a) hM1
  obtain ⟨m1, m2⟩ := rd_eq hG (m := 36) (by omega) n2 a
  have hD2 : DR u 0 (f_X1_read c k u a).2 h e k (f_X9_readOf t w2 (nI 36) a).2 := dr_cong hG.1 hG.2.1 r2 (fun r _ => ⟨rfl, rfl, rfl⟩) (fun _ _ => rfl) (fun j hj => (frR hG (m := 36) (by omega) w2 a (by omega)).trans (n3 _ (by omega)))
  have far : ∀ j, 72 ≤ j → (f_X9_readOf t w2 (nI 36) a).2 j = w j := fun j hj => ((frR hG (m := 36) (by omega) w2 a (by omega)).trans (n3 _ (by omega))).trans (frR hG (m := 0) (by omega) w a (by omega))
  have hL2 : LR (jl, ja, jb, jv) (f_X9_readOf t w2 (nI 36) a).2 := by
    obtain ⟨n, hn, e1, e2, hh⟩ := hL
    exact ⟨n, hn, e1, (far 72 (by omega)).trans e2, fun i hi => by rw [far _ (by omega), far _ (by omega), far _ (by omega)]; exact hh i hi⟩
  have c31 : f_X9_reads_C31 t w a past pp = f_X9_reads_L56 t past pp a (f_X9_goesTo t a) (f_X9_peekAt t w (nI 36) a) (f_X9_readOf t w (nI 0) a).1 4000 (nI 0) (f_X9_readOf t w (nI 0) a).2 := rfl
  rw [c31, n1, j139]
  generalize hw3 : (f_X9_readOf t w2 (nI 36) a).2 = w3 at hD2 m2 hL2 far
  have n20 : ∃ n, n ≤ 20 ∧ w3 72 = nI n ∧ jl = nI n := by
    obtain ⟨n, hn, e1, e2, _⟩ := hL2
    exact ⟨n, hn, e2, e1⟩
  obtain ⟨n, hn, e72, ejl⟩ := n20
  have nlt : n < 20 := by rw [ejl] at hl; exact (lt_c (b := 20) (by omega) (by omega)).mp hl
  unfold f_X9_reads_J152
  rw [show (134 : Int32).toNatClampNeg = 134 from rfl, show (133 : Int32).toNatClampNeg = 133 from rfl, upd_s, upd_o (j := 133) (by omega), far 133 (by omega), s1]
  have key : ∀ d : Int32, LR (f_X3_append jl ja jb jv a 0 (f_X9_readOf t w (nI 0) a).1) (f_X9_logs (upd (upd w3 134 (f_X9_peekAt t w (nI 36) a ^^^ (f_X9_readOf t w (nI 0) a).1)) 133 (df + d)) a 0 (f_X9_readOf t w (nI 0) a).1) ∧ (∀ j, j < 72 → f_X9_logs (upd (upd w3 134 (f_X9_peekAt t w (nI 36) a ^^^ (f_X9_readOf t w (nI 0) a).1)) 133 (df + d)) a 0 (f_X9_readOf t w (nI 0) a).1 j = w3 j) ∧ f_X9_logs (upd (upd w3 134 (f_X9_peekAt t w (nI 36) a ^^^ (f_X9_readOf t w (nI 0) a).1)) 133 (df + d)) a 0 (f_X9_readOf t w (nI 0) a).1 133 = df + d ∧ f_X9_logs (upd (upd w3 134 (f_X9_peekAt t w (nI 36) a ^^^ (f_X9_readOf t w (nI 0) a).1)) 133 (df + d)) a 0 (f_X9_readOf t w (nI 0) a).1 134 = f_X9_peekAt t w (nI 36) a ^^^ (f_X9_readOf t w (nI 0) a).1 := by
    intro d
    have e72' : (upd (upd w3 134 (f_X9_peekAt t w (nI 36) a ^^^ (f_X9_readOf t w (nI 0) a).1)) 133 (df + d)) 72 = nI n := by rw [upd_o (by omega), upd_o (by omega), e72]
    refine ⟨lg_app ?_ hl _ _ _ (Or.inl rfl), fun j hj => ?_, ?_, ?_⟩
    · obtain ⟨n', hn', e1, e2, hh⟩ := hL2
      exact ⟨n', hn', e1, by rw [upd_o (by omega), upd_o (by omega), e2], fun i hi => by rw [upd_o (by omega), upd_o (by omega), upd_o (by omega), upd_o (by omega), upd_o (by omega), upd_o (by omega)]; exact hh i hi⟩
    · rw [lg_fr _ _ _ _ nlt e72' (by omega), upd_o (by omega), upd_o (by omega)]
    · rw [lg_fr _ _ _ _ nlt e72' (by omega), upd_s]
    · rw [lg_fr _ _ _ _ nlt e72' (by omega), upd_o (by omega), upd_s]
  have fin : ∀ (df2 : Int32) (w' : Fn), LR (f_X3_append jl ja jb jv a 0 (f_X9_readOf t w (nI 0) a).1) w' → (∀ j, j < 72 → w' j = w3 j) → w' 133 = df2 → w' 134 = f_X9_peekAt t w (nI 36) a ^^^ (f_X9_readOf t w (nI 0) a).1 →
      SR u (df2, f_X9_peekAt t w (nI 36) a ^^^ (f_X9_readOf t w (nI 0) a).1, ((f_X1_read c k u a).2, h, e, k), ((f_X1_read (f_X1_learn mc mk u a (f_X9_readOf t w (nI 0) a).1) mk u a).2, mh, me, mk), f_X3_append jl ja jb jv a 0 (f_X9_readOf t w (nI 0) a).1) w' := by
    intro df2 w' a1 a2 a3 a4
    exact ⟨⟨a3, a4⟩, dr_cong hG.1 hG.2.1 hD2 (fun r _ => ⟨rfl, rfl, rfl⟩) (fun _ _ => rfl) (fun j hj => a2 _ (by omega)), dr_cong hG.1 hG.2.1 m2 (fun r _ => ⟨rfl, rfl, rfl⟩) (fun _ _ => rfl) (fun j hj => a2 _ (by omega)), hk, a1⟩
  have cls : f_X5_performRead df c k mc mk jl ja jb jv u a = if (f_X9_peekAt t w (nI 36) a ^^^ (f_X9_readOf t w (nI 0) a).1) = 0 then ((f_X9_readOf t w (nI 0) a).1, df, f_X9_peekAt t w (nI 36) a ^^^ (f_X9_readOf t w (nI 0) a).1, (f_X1_read c k u a).2, (f_X1_read (f_X1_learn mc mk u a (f_X9_readOf t w (nI 0) a).1) mk u a).2, f_X3_append jl ja jb jv a 0 (f_X9_readOf t w (nI 0) a).1) else ((f_X9_readOf t w (nI 0) a).1, df + 1, f_X9_peekAt t w (nI 36) a ^^^ (f_X9_readOf t w (nI 0) a).1, (f_X1_read c k u a).2, (f_X1_read (f_X1_learn mc mk u a (f_X9_readOf t w (nI 0) a).1) mk u a).2, f_X3_append jl ja jb jv a 0 (f_X9_readOf t w (nI 0) a).1) := by
    unfold f_X5_performRead f_X5_performRead_C9
    rw [r1, l1, Int32.xor_comm (f_X9_readOf t w (nI 0) a).1 _]
    rfl
  rw [cls]
  by_cases x0 : (f_X9_peekAt t w (nI 36) a ^^^ (f_X9_readOf t w (nI 0) a).1) = 0
  · rw [if_pos x0, if_pos x0]
    obtain ⟨k1, k2, k3, k4⟩ := key 0
    rw [Int32.add_zero] at k1 k2 k3 k4
    refine ⟨_, by unfold f_X9_reads_J189; rw [Int32.add_zero], fun P hP => ?_⟩
    rw [hP]
    exact fin df _ k1 k2 k3 k4
  · rw [if_neg x0, if_neg x0]
    obtain ⟨k1, k2, k3, k4⟩ := key 1
    refine ⟨_, by unfold f_X9_reads_J189; rfl, fun P hP => ?_⟩
    rw [hP]
    exact fin (df + 1) _ k1 k2 k3 k4
/-! writes of both -/
theorem cm_L {b : Nat} (hb : b = 135) : ∀ n i (w : Fn), i ≤ 36 → 36 < n + i → (∀ j, j < i → w (b + j) = w j) → ∀ j, j < 36 → f_X9_copyMachine_L2 (nI 0) (nI b) n (nI i) w (b + j) = w j := by
  intro n
  induction n with
  | zero => intro i w h1 h2; omega
  | succ n ih =>
    intro i w h1 h2 hz
    rw [f_X9_copyMachine_L2, nI_add, nI_add, Nat.zero_add, ci (n := i) (by omega), ci (n := b + i) (by omega)]
    by_cases z : 36 ≤ i
    · rw [if_pos (show (36 : Int32) ≤ nI i from (le_c (a := 36) (by omega) (by omega)).mpr z)]
      exact fun j hj => hz j (by omega)
    · rw [if_neg (show ¬ (36 : Int32) ≤ nI i from fun q => z ((le_c (a := 36) (by omega) (by omega)).mp q)), nI_1]
      intro j hj
      have := ih (i + 1) (upd w (b + i) (w i)) (by omega) (by omega) (fun j hj => by
        by_cases y : j = i
        · rw [y, upd_s, upd_o (by omega)]
        · rw [upd_o (by omega), upd_o (by omega)]; exact hz j (by omega)) j hj
      rw [this, upd_o (by omega)]
theorem cmc_eq (w : Fn) {j : Nat} (hj : j < 36) : f_X9_copyMachine w (nI 0) (nI 135) (135 + j) = w j := cm_L rfl 4000 0 w (by omega) (by omega) (fun j hj => by omega) j hj
theorem cb_L {u : Blk} {t : Fn} (hG : GB u t) {w : Fn} {m1 m2 : Nat} (h1 : m1 ≤ 135) (h2 : m2 ≤ 135) {c0 v0 v1 v2 v3 : Fn} (hv : ∀ f, f < nF u → (vl u v0 f = vl u c0 f ↔ w (m1 + f) = w (m2 + f))) : ∀ n i (x : Int32), i ≤ nF u → nF u < n + i →
    f_X8_changedBy_L32 c0 v0 v1 v2 v3 u n x (nI i) = (f_X9_otherFields_L5 t w (nI m1) (nI m2) n x (nI i), v0, v1, v2, v3) := by
  have hF := lF hG.1
  intro n
  induction n with
  | zero => intro i x h1 h2; omega
  | succ n ih =>
    intro i x g1 g2
    rw [f_X8_changedBy_L32, f_X9_otherFields_L5, f_fld hG, eF hG.1, nI_add, nI_add, ci (by omega), ci (by omega)]
    by_cases z : nF u ≤ i
    · rw [if_pos ((le_c (by omega) (by omega)).mpr z), if_pos ((le_c (by omega) (by omega)).mpr z)]
    · have z' : ¬ nI (nF u) ≤ nI i := fun q => z ((le_c (by omega) (by omega)).mp q)
      rw [if_neg z', if_neg z', val_eq (by omega), val_eq (by omega), nI_1, Int32.or_zero]
      by_cases y : vl u v0 i = vl u c0 i
      · rw [if_pos y, if_pos ((hv i (by omega)).mp y)]
        exact ih (i + 1) _ (by omega) (by omega)
      · rw [if_neg y, if_neg (fun q => y ((hv i (by omega)).mpr q))]
        exact ih (i + 1) _ (by omega) (by omega)
/-- what a write would change, the class's way -/
theorem cb_eq {u : Blk} {t : Fn} (hG : GB u t) {c h e k w W : Fn} (hD : DR u 0 c h e k w) (v0 v1 v2 v3 : Fn) (a v : Int32) {m1 m2 : Nat} (h1 : m1 ≤ 135) (h2 : m2 ≤ 135) (hW : ∀ f, f < nF u → (W (m1 + f) = W (m2 + f) ↔ f_X9_writeTo t w (nI 0) a v f = w f)) :
    (f_X8_changedBy c h e k v0 v1 v2 v3 u a v).1 = f_X9_otherFields t W (nI m1) (nI m2) := by
  have hF := lF hG.1
  have hT := dr_copy hG (w' := w) (m' := 0) v0 v1 v2 v3 hD (fun _ _ => rfl)
  have hX := wr_eq hG (by omega) hT a v
  unfold f_X8_changedBy f_X8_changedBy_C14 f_X8_changedBy_C27
  rw [show (0 : Int32) = nI 0 from rfl]
  rw [cb_L hG h1 h2 (w := W) (fun f hf => by
    rw [← (hX.1 f hf).1, ← (hD.1 f hf).1, Nat.zero_add]
    exact (hW f hf).symm) 4000 0 (nI 0) (by omega) (by omega)]
  rfl
theorem pw_eq {u : Blk} {t : Fn} (hG : GB u t) {s : Sit} {w : Fn} (hS : SR u s w) (hl : s.2.2.2.2.1 < 20) (a v : Int32) (past : Fn) (pp : Int32) (v0 v1 v2 v3 : Fn) :
    ∃ w' : Fn, f_X9_writes_C42 t w a v past pp = ((f_X8_changedBy s.2.2.1.1 s.2.2.1.2.1 s.2.2.1.2.2.1 s.2.2.1.2.2.2 v0 v1 v2 v3 u a v).1, w', past, pp) ∧
      ∀ P, P = f_X5_performWrite s.2.2.1.1 s.2.2.1.2.1 s.2.2.1.2.2.1 s.2.2.1.2.2.2 s.2.2.2.1.1 s.2.2.2.1.2.1 s.2.2.2.1.2.2.1 s.2.2.2.1.2.2.2 s.2.2.2.2.1 s.2.2.2.2.2.1 s.2.2.2.2.2.2.1 s.2.2.2.2.2.2.2 u a v →
      SR u (s.1, s.2.1, (P.1, P.2.1, P.2.2.1, s.2.2.1.2.2.2), (P.2.2.2.1, P.2.2.2.2.1, P.2.2.2.2.2.1, s.2.2.2.1.2.2.2), P.2.2.2.2.2.2) w' := by
  obtain ⟨df, ld, ⟨c, h, e, k⟩, ⟨mc, mh, me, mk⟩, jl, ja, jb, jv⟩ := s
  obtain ⟨⟨s1, s2⟩, hD, hM, hk, hL⟩ := hS
  dsimp only at hl s1 s2 hD hM hk hL ⊢
  have hF := lF hG.1
  have hR := lR hG.1
  have fC : ∀ j, j < 135 → f_X9_copyMachine w (nI 0) (nI 135) j = w j := fun j hj => frC w (by omega) (by omega) (by omega)
  have hD1 : DR u 0 c h e k (f_X9_copyMachine w (nI 0) (nI 135)) := dr_cong hG.1 hG.2.1 hD (fun r _ => ⟨rfl, rfl, rfl⟩) (fun _ _ => rfl) (fun j hj => fC _ (by omega))
  have hM1 : DR u 36 mc mh me mk (f_X9_copyMachine w (nI 0) (nI 135)) := dr_cong hG.1 hG.2.1 hM (fun r _ => ⟨rfl, rfl, rfl⟩) (fun _ _ => rfl) (fun j hj => fC _ (by omega))
  generalize hw1 : f_X9_copyMachine w (nI 0) (nI 135) = w1 at hD1 hM1 fC
  have cp : ∀ j, j < 36 → w1 (135 + j) = w j := fun j hj => by rw [← hw1]; exact cmc_eq w hj
  have hD2 := wr_eq hG (m := 0) (by omega) hD1 a v
  have f2 : ∀ j, 36 ≤ j → f_X9_writeTo t w1 (nI 0) a v j = w1 j := fun j hj => frW hG (m := 0) (by omega) w1 a v (by omega)
  have hM2 : DR u 36 mc mh me mk (f_X9_writeTo t w1 (nI 0) a v) := dr_cong hG.1 hG.2.1 hM1 (fun r _ => ⟨rfl, rfl, rfl⟩) (fun _ _ => rfl) (fun j hj => f2 _ (by omega))
  have hM3 := wr_eq hG (m := 36) (by omega) hM2 a v
  have f3 : ∀ j, j < 36 ∨ 72 ≤ j → f_X9_writeTo t (f_X9_writeTo t w1 (nI 0) a v) (nI 36) a v j = f_X9_writeTo t w1 (nI 0) a v j := fun j hj => frW hG (m := 36) (by omega) _ a v (by omega)
  have hD3 := dr_cong hG.1 hG.2.1 (m' := 0) (w' := f_X9_writeTo t (f_X9_writeTo t w1 (nI 0) a v) (nI 36) a v) hD2 (fun r _ => ⟨rfl, rfl, rfl⟩) (fun _ _ => rfl) (fun j hj => f3 _ (by omega))
  have far : ∀ j, 72 ≤ j → j < 135 → f_X9_writeTo t (f_X9_writeTo t w1 (nI 0) a v) (nI 36) a v j = w j := fun j hj hj2 => ((f3 j (by omega)).trans (f2 j (by omega))).trans (fC j hj2)
  have low : ∀ j, j < 36 → f_X9_writeTo t (f_X9_writeTo t w1 (nI 0) a v) (nI 36) a v j = f_X9_writeTo t w1 (nI 0) a v j := fun j hj => f3 j (by omega)
  have top : ∀ j, j < 36 → f_X9_writeTo t (f_X9_writeTo t w1 (nI 0) a v) (nI 36) a v (135 + j) = w j := fun j hj => ((f3 _ (by omega)).trans (f2 _ (by omega))).trans (cp j hj)
  have sam : ∀ f, f < nF u → f_X9_writeTo t w1 (nI 0) a v f = f_X9_writeTo t w (nI 0) a v f := fun f hf => by
    have p1 := ((wr_eq hG (m := 0) (by omega) hD1 a v).1 f hf).1
    have p2 := ((wr_eq hG (m := 0) (by omega) hD a v).1 f hf).1
    rw [Nat.zero_add] at p1 p2
    rw [p1, p2]
  have c42 : f_X9_writes_C42 t w a v past pp = (f_X9_otherFields t (f_X9_logs (f_X9_writeTo t (f_X9_writeTo t (f_X9_copyMachine w (nI 0) (nI 135)) (nI 0) a v) (nI 36) a v) a 1 v) (nI 0) (nI 135), f_X9_logs (f_X9_writeTo t (f_X9_writeTo t (f_X9_copyMachine w (nI 0) (nI 135)) (nI 0) a v) (nI 36) a v) a 1 v, past, pp) := rfl
  rw [c42, hw1]
  generalize f_X9_writeTo t (f_X9_writeTo t w1 (nI 0) a v) (nI 36) a v = w3 at hM3 hD3 far low top
  have hL3 : LR (jl, ja, jb, jv) w3 := by
    obtain ⟨n, hn, e1, e2, hh⟩ := hL
    exact ⟨n, hn, e1, (far 72 (by omega) (by omega)).trans e2, fun i hi => by rw [far _ (by omega) (by omega), far _ (by omega) (by omega), far _ (by omega) (by omega)]; exact hh i hi⟩
  obtain ⟨n, hn, ejl, e72, _⟩ := id hL3
  have ejl : jl = nI n := ejl
  have nlt : n < 20 := by rw [ejl] at hl; exact (lt_c (b := 20) (by omega) (by omega)).mp hl
  have fl : ∀ j, j < 72 ∨ 133 ≤ j → f_X9_logs w3 a 1 v j = w3 j := fun j hj => lg_fr w3 a 1 v nlt e72 hj
  have ans := cb_eq hG (W := f_X9_logs w3 a 1 v) hD v0 v1 v2 v3 a v (m1 := 0) (m2 := 135) (by omega) (by omega) (fun f hf => by
    rw [Nat.zero_add, fl f (by omega), fl (135 + f) (by omega), low f (by omega), top f (by omega), sam f hf])
  refine ⟨_, by rw [ans], fun P hP => ?_⟩
  rw [hP]
  exact ⟨⟨(fl 133 (by omega)).trans ((far 133 (by omega) (by omega)).trans s1), (fl 134 (by omega)).trans ((far 134 (by omega) (by omega)).trans s2)⟩, dr_cong hG.1 hG.2.1 hD3 (fun r _ => ⟨rfl, rfl, rfl⟩) (fun _ _ => rfl) (fun j hj => fl _ (by omega)), dr_cong hG.1 hG.2.1 hM3 (fun r _ => ⟨rfl, rfl, rfl⟩) (fun _ _ => rfl) (fun j hj => fl _ (by omega)), hk, lg_app hL3 hl _ _ _ (Or.inr rfl)⟩
