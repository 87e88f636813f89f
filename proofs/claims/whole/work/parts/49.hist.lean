/-! class against model: the log, situations, the history -/
def LR (j : Jo) (w : Fn) : Prop := ∃ n : Nat, n ≤ 20 ∧ j.1 = nI n ∧ w 72 = nI n ∧ ∀ i, i < n → w (73 + 3 * i) = j.2.1 i ∧ w (73 + 3 * i + 1) = j.2.2.1 i ∧ w (73 + 3 * i + 2) = j.2.2.2 i ∧ (j.2.2.1 i = 0 ∨ j.2.2.1 i = 1)
def SR (u : Blk) (s : Sit) (w : Fn) : Prop := (w 133 = s.1 ∧ w 134 = s.2.1) ∧ DR u 0 s.2.2.1.1 s.2.2.1.2.1 s.2.2.1.2.2.1 s.2.2.1.2.2.2 w ∧ DR u 36 s.2.2.2.1.1 s.2.2.2.1.2.1 s.2.2.2.1.2.2.1 s.2.2.2.1.2.2.2 w ∧ (∀ f, f < nF u → s.2.2.2.1.2.2.2 f = u 5 f) ∧ LR s.2.2.2.2 w
theorem jc_L {l : Int32} {a1 b1 v1 : Fn} : ∀ n i (a b v : Fn), i ≤ 20 → 20 < n + i → (∀ r, r < i → a r = a1 r ∧ b r = vp_nar .boolean (b1 r) ∧ v r = v1 r) →
    (f_X3_copyFrom_L10 l a1 b1 v1 n (nI i) a b v).1 = l ∧ (∀ r, r < 20 → (f_X3_copyFrom_L10 l a1 b1 v1 n (nI i) a b v).2.1 r = a1 r ∧ (f_X3_copyFrom_L10 l a1 b1 v1 n (nI i) a b v).2.2.1 r = vp_nar .boolean (b1 r) ∧ (f_X3_copyFrom_L10 l a1 b1 v1 n (nI i) a b v).2.2.2 r = v1 r) := by
  intro n
  induction n with
  | zero => intro i a b v h1 h2; omega
  | succ n ih =>
    intro i a b v h1 h2 hz
    rw [f_X3_copyFrom_L10, ci (by omega)]
    by_cases z : 20 ≤ i
    · rw [if_pos (show (20 : Int32) ≤ nI i from (le_c (a := 20) (by omega) (by omega)).mpr z)]
      exact ⟨rfl, fun r hr => hz r (by omega)⟩
    · rw [if_neg (show ¬ (20 : Int32) ≤ nI i from fun q => z ((le_c (a := 20) (by omega) (by omega)).mp q)), nI_1]
      refine ih (i + 1) _ _ _ (by omega) (by omega) (fun r hr => ?_)
      by_cases y : r = i
      · rw [y, upd_s, upd_s, upd_s]; exact ⟨rfl, rfl, rfl⟩
      · rw [upd_o y, upd_o y, upd_o y]; exact hz r (by omega)
theorem lr_copy {l : Int32} {a1 b1 v1 : Fn} (a b v : Fn) {w w' : Fn} (h : LR (l, a1, b1, v1) w) (hw : ∀ j, j < 135 → w' j = w j) : LR (f_X3_copyFrom a b v l a1 b1 v1) w' := by
  obtain ⟨n, hn, e1, e2, h⟩ := h
  obtain ⟨c1, c2⟩ := jc_L (l := l) (a1 := a1) (b1 := b1) (v1 := v1) 4000 0 a b v (by omega) (by omega) (fun r hr => by omega)
  refine ⟨n, hn, c1.trans e1, (hw 72 (by omega)).trans e2, fun i hi => ?_⟩
  obtain ⟨g1, g2, g3, g4⟩ := h i hi
  obtain ⟨d1, d2, d3⟩ := c2 i (by omega)
  rw [vn01 g4] at d2
  exact ⟨(hw _ (by omega)).trans (g1.trans d1.symm), (hw _ (by omega)).trans (g2.trans d2.symm), (hw _ (by omega)).trans (g3.trans d3.symm), d2 ▸ g4⟩
/-- a situation after copyFrom -/
def cpS (d s : Sit) : Sit := (s.1, s.2.1, f_X1_copyFrom d.2.2.1.1 d.2.2.1.2.1 d.2.2.1.2.2.1 d.2.2.1.2.2.2 s.2.2.1.1 s.2.2.1.2.1 s.2.2.1.2.2.1 s.2.2.1.2.2.2, f_X1_copyFrom d.2.2.2.1.1 d.2.2.2.1.2.1 d.2.2.2.1.2.2.1 d.2.2.2.1.2.2.2 s.2.2.2.1.1 s.2.2.2.1.2.1 s.2.2.2.1.2.2.1 s.2.2.2.1.2.2.2, f_X3_copyFrom d.2.2.2.2.2.1 d.2.2.2.2.2.2.1 d.2.2.2.2.2.2.2 s.2.2.2.2.1 s.2.2.2.2.2.1 s.2.2.2.2.2.2.1 s.2.2.2.2.2.2.2)
theorem sr_copy {u : Blk} {t : Fn} (hG : GB u t) (d : Sit) {s : Sit} {w w' : Fn} (h : SR u s w) (hw : ∀ j, j < 135 → w' j = w j) : SR u (cpS d s) w' := by
  have hF := lF hG.1
  obtain ⟨⟨h1, h2⟩, h3, h4, h5, h6⟩ := h
  refine ⟨⟨(hw 133 (by omega)).trans h1, (hw 134 (by omega)).trans h2⟩, dr_copy hG _ _ _ _ h3 (fun j hj => hw _ (by omega)), dr_copy hG _ _ _ _ h4 (fun j hj => hw _ (by omega)), fun f hf => ?_, lr_copy _ _ _ h6 hw⟩
  have b := (cf_L (k := d.2.2.2.1.2.2.2) (c1 := s.2.2.2.1.1) (h1 := s.2.2.2.1.2.1) (e1 := s.2.2.2.1.2.2.1) (k1 := s.2.2.2.1.2.2.2) (fun _ _ => trivial) 4000 0 d.2.2.2.1.1 d.2.2.2.1.2.1 d.2.2.2.1.2.2.1 (by omega) (by omega) (fun r hr => by omega)).2
  have b2 := congrFun b f
  refine Eq.trans b2 ?_
  unfold va_cpy
  rw [if_pos (by omega), show 0 + (f - 0) = f by omega]
  exact h5 f hf
theorem sr_cong {u : Blk} {s : Sit} {w w' : Fn} (hI : BlkInv u) (hW : BW u) (h : SR u s w) (hw : ∀ j, j < 135 → w' j = w j) : SR u s w' := by
  obtain ⟨⟨h1, h2⟩, h3, h4, h5, n, hn, e1, e2, h6⟩ := h
  exact ⟨⟨(hw 133 (by omega)).trans h1, (hw 134 (by omega)).trans h2⟩, dr_cong hI hW h3 (fun r _ => ⟨rfl, rfl, rfl⟩) (fun _ _ => rfl) (fun j hj => hw _ (by omega)), dr_cong hI hW h4 (fun r _ => ⟨rfl, rfl, rfl⟩) (fun _ _ => rfl) (fun j hj => hw _ (by omega)), h5, n, hn, e1, (hw 72 (by omega)).trans e2, fun i hi => by
    rw [hw _ (by omega), hw _ (by omega), hw _ (by omega)]; exact h6 i hi⟩
/-! the model's history -/
theorem nA_L (w : Fn) {p : Nat} (hp : p < 6) : ∀ n i (past : Fn), i ≤ 135 → 135 < n + i → (∀ j, j < i → past (135 * p + j) = w j) →
    (f_X9_note_L52 w (nI p) n (nI i) past).2 = nI (p + 1) ∧ (∀ j, j < 135 → (f_X9_note_L52 w (nI p) n (nI i) past).1 (135 * p + j) = w j) ∧ (∀ j, j < 135 * p → (f_X9_note_L52 w (nI p) n (nI i) past).1 j = past j) := by
  intro n
  induction n with
  | zero => intro i past h1 h2; omega
  | succ n ih =>
    intro i past h1 h2 hz
    rw [f_X9_note_L52, z_135, nI_add, ci (n := i) (by omega), ci (n := 135 * p + i) (by omega)]
    by_cases z : 135 ≤ i
    · rw [if_pos (show (135 : Int32) ≤ nI i from (le_c (a := 135) (by omega) (by omega)).mpr z), nI_1]
      exact ⟨rfl, fun j hj => hz j (by omega), fun _ _ => rfl⟩
    · rw [if_neg (show ¬ (135 : Int32) ≤ nI i from fun q => z ((le_c (a := 135) (by omega) (by omega)).mp q)), nI_1]
      have := ih (i + 1) (upd past (135 * p + i) (w i)) (by omega) (by omega) (fun j hj => by
        by_cases y : j = i
        · rw [y, upd_s]
        · rw [upd_o (by omega)]; exact hz j (by omega))
      exact ⟨this.1, this.2.1, fun j hj => (this.2.2 j hj).trans (upd_o (by omega))⟩
theorem nB_L (w : Fn) : ∀ n i (past0 past : Fn), i ≤ 675 → 675 < n + i → (∀ j, j < i → past j = past0 (j + 135)) → (∀ j, i ≤ j → past j = past0 j) →
    ∃ p1 : Fn, f_X9_note_L11 w (nI 6) n (nI i) past = f_X9_note_J50 w p1 (nI 6 - 1) ∧ ∀ j, j < 675 → p1 j = past0 (j + 135) := by
  intro n
  induction n with
  | zero => intro i p0 past h1 h2; omega
  | succ n ih =>
    intro i p0 past h1 h2 hz hy
    rw [f_X9_note_L11, y_135, ci (n := i) (by omega), ci (n := i + 135) (by omega)]
    by_cases z : 675 ≤ i
    · rw [if_pos (show (675 : Int32) ≤ nI i from (le_c (a := 675) (by omega) (by omega)).mpr z)]
      exact ⟨past, rfl, fun j hj => hz j (by omega)⟩
    · rw [if_neg (show ¬ (675 : Int32) ≤ nI i from fun q => z ((le_c (a := 675) (by omega) (by omega)).mp q)), nI_1]
      refine ih (i + 1) p0 _ (by omega) (by omega) (fun j hj => ?_) (fun j hj => ?_)
      · by_cases y : j = i
        · rw [y, upd_s]; exact hy _ (by omega)
        · rw [upd_o y]; exact hz j (by omega)
      · rw [upd_o (by omega)]; exact hy j (by omega)
theorem j50 (w p : Fn) (q : Int32) : f_X9_note_J50 w p q = f_X9_note_L52 w q 4000 (nI 0) p := rfl
def HR (u : Blk) (hb : Nat → Sit) (nx ln : Nat) (past : Fn) : Prop := ∀ i, i < ln → SR u (hb ((nx + 6 - ln + i) % 6)) (fun j => past (135 * i + j))
theorem note_eq {u : Blk} {t : Fn} (hG : GB u t) {hb : Nat → Sit} {nx ln : Nat} {past w : Fn} {s s' : Sit} (hn : nx < 6) (hl : ln ≤ 6) (hH : HR u hb nx ln past) (hS : SR u s' w) (hb' : Nat → Sit) (e1 : hb' nx = s') (e2 : ∀ i, i ≠ nx → hb' i = hb i) :
    (f_X9_note w past (nI ln)).2 = nI (if ln = 6 then 6 else ln + 1) ∧ HR u hb' ((nx + 1) % 6) (if ln = 6 then 6 else ln + 1) (f_X9_note w past (nI ln)).1 := by
  unfold f_X9_note
  by_cases c : ln = 6
  · subst c
    rw [if_pos (show nI 6 = (6 : Int32) from rfl), if_pos rfl]
    obtain ⟨p1, h0, h1⟩ := nB_L w 4000 0 past past (by omega) (by omega) (fun j hj => by omega) (fun j _ => rfl)
    have h00 : f_X9_note_L11 w (nI 6) 4000 0 past = f_X9_note_J50 w p1 (nI 6 - 1) := h0
    rw [h00, show nI 6 - 1 = nI 5 from rfl, j50]
    obtain ⟨g1, g2, g3⟩ := nA_L w (p := 5) (by omega) 4000 0 p1 (by omega) (by omega) (fun j hj => by omega)
    refine ⟨g1, fun i hi => ?_⟩
    by_cases y : i = 5
    · subst y
      rw [show ((nx + 1) % 6 + 6 - 6 + 5) % 6 = nx by omega, e1]
      exact sr_cong hG.1 hG.2.1 hS (fun j hj => g2 j hj)
    · rw [show ((nx + 1) % 6 + 6 - 6 + i) % 6 = (nx + 6 - 6 + (i + 1)) % 6 by omega, e2 _ (by omega)]
      exact sr_cong hG.1 hG.2.1 (hH (i + 1) (by omega)) (fun j hj => by
        have a1 := g3 (135 * i + j) (by omega)
        have a2 := h1 (135 * i + j) (by omega)
        rw [show 135 * i + j + 135 = 135 * (i + 1) + j by omega] at a2
        exact a1.trans a2)
  · rw [if_neg (show ¬ nI ln = (6 : Int32) from fun q => c ((eq_c (b := 6) (by omega) (by omega)).mp q)), if_neg c, j50]
    obtain ⟨g1, g2, g3⟩ := nA_L w (p := ln) (by omega) 4000 0 past (by omega) (by omega) (fun j hj => by omega)
    refine ⟨g1, fun i hi => ?_⟩
    by_cases y : i = ln
    · subst y
      rw [show ((nx + 1) % 6 + 6 - (i + 1) + i) % 6 = nx by omega, e1]
      exact sr_cong hG.1 hG.2.1 hS (fun j hj => g2 j hj)
    · rw [show ((nx + 1) % 6 + 6 - (ln + 1) + i) % 6 = (nx + 6 - ln + i) % 6 by omega, e2 _ (by omega)]
      exact sr_cong hG.1 hG.2.1 (hH i (by omega)) (fun j hj => g3 _ (by omega))
theorem undo_L {past : Fn} {p : Nat} (hp : p < 6) : ∀ n i (w : Fn), i ≤ 135 → 135 < n + i → (∀ j, j < i → w j = past (135 * p + j)) →
    (f_X9_undo_L22 past (nI p) n (nI i) w).1 = nI p ∧ (f_X9_undo_L22 past (nI p) n (nI i) w).2.2 = nI p ∧ (∀ j, j < 135 → (f_X9_undo_L22 past (nI p) n (nI i) w).2.1 j = past (135 * p + j)) := by
  intro n
  induction n with
  | zero => intro i past h1 h2; omega
  | succ n ih =>
    intro i w h1 h2 hz
    rw [f_X9_undo_L22, z_135, nI_add, ci (n := i) (by omega), ci (n := 135 * p + i) (by omega)]
    by_cases z : 135 ≤ i
    · rw [if_pos (show (135 : Int32) ≤ nI i from (le_c (a := 135) (by omega) (by omega)).mpr z)]
      exact ⟨rfl, rfl, fun j hj => hz j (by omega)⟩
    · rw [if_neg (show ¬ (135 : Int32) ≤ nI i from fun q => z ((le_c (a := 135) (by omega) (by omega)).mp q)), nI_1]
      exact ih (i + 1) (upd w i (past (135 * p + i))) (by omega) (by omega) (fun j hj => by
        by_cases y : j = i
        · rw [y, upd_s]
        · rw [upd_o (by omega)]; exact hz j (by omega))
theorem keep_L {w held : Fn} {p : Nat} (hp : p < 2) : ∀ n i (im : Fn), i ≤ 135 → 135 < n + i → (∀ j, j < i → im (135 * p + j) = w j) →
    (f_X9_keep_L13 w held (nI p) n (nI i) im).1 = w 72 ∧ (f_X9_keep_L13 w held (nI p) n (nI i) im).2.2 = upd held p 1 ∧ (∀ j, j < 135 → (f_X9_keep_L13 w held (nI p) n (nI i) im).2.1 (135 * p + j) = w j) ∧ (∀ j, j < 135 * p ∨ 135 * p + 135 ≤ j → (f_X9_keep_L13 w held (nI p) n (nI i) im).2.1 j = im j) := by
  intro n
  induction n with
  | zero => intro i past h1 h2; omega
  | succ n ih =>
    intro i im h1 h2 hz
    rw [f_X9_keep_L13, z_135, nI_add, ci (n := i) (by omega), ci (n := 135 * p + i) (by omega), ci (n := p) (by omega)]
    by_cases z : 135 ≤ i
    · rw [if_pos (show (135 : Int32) ≤ nI i from (le_c (a := 135) (by omega) (by omega)).mpr z), nb1]
      exact ⟨rfl, rfl, fun j hj => hz j (by omega), fun _ _ => rfl⟩
    · rw [if_neg (show ¬ (135 : Int32) ≤ nI i from fun q => z ((le_c (a := 135) (by omega) (by omega)).mp q)), nI_1]
      have := ih (i + 1) (upd im (135 * p + i) (w i)) (by omega) (by omega) (fun j hj => by
        by_cases y : j = i
        · rw [y, upd_s]
        · rw [upd_o (by omega)]; exact hz j (by omega))
      exact ⟨this.1, this.2.1, this.2.2.1, fun j hj => (this.2.2.2 j hj).trans (upd_o (by omega))⟩
theorem back_L {im : Fn} {p : Nat} (hp : p < 2) : ∀ n i (w : Fn), i ≤ 135 → 135 < n + i → (∀ j, j < i → w j = im (135 * p + j)) →
    (f_X9_back_L25 im (nI p) n (nI i) w).1 = im (135 * p + 72) ∧ (f_X9_back_L25 im (nI p) n (nI i) w).2.2 = 0 ∧ (∀ j, j < 135 → (f_X9_back_L25 im (nI p) n (nI i) w).2.1 j = im (135 * p + j)) := by
  intro n
  induction n with
  | zero => intro i past h1 h2; omega
  | succ n ih =>
    intro i w h1 h2 hz
    rw [f_X9_back_L25, z_135, nI_add, ci (n := i) (by omega), ci (n := 135 * p + i) (by omega)]
    by_cases z : 135 ≤ i
    · rw [if_pos (show (135 : Int32) ≤ nI i from (le_c (a := 135) (by omega) (by omega)).mpr z)]
      exact ⟨hz 72 (by omega), rfl, fun j hj => hz j (by omega)⟩
    · rw [if_neg (show ¬ (135 : Int32) ≤ nI i from fun q => z ((le_c (a := 135) (by omega) (by omega)).mp q)), nI_1]
      exact ih (i + 1) (upd w i (im (135 * p + i))) (by omega) (by omega) (fun j hj => by
        by_cases y : j = i
        · rw [y, upd_s]
        · rw [upd_o (by omega)]; exact hz j (by omega))
/-! an access is logged -/
theorem lg_fr (w : Fn) (a b v : Int32) {n : Nat} (hn : n < 20) (hw : w 72 = nI n) {j : Nat} (hj : j < 72 ∨ 133 ≤ j) : f_X9_logs w a b v j = w j := by
  unfold f_X9_logs
  rw [show (72 : Int32).toNatClampNeg = 72 from rfl, hw, z_3, x_73, nI_1, y_2, ci (n := 73 + 3 * n) (by omega), ci (n := 73 + 3 * n + 1) (by omega), ci (n := 73 + 3 * n + 2) (by omega), upd_o (by omega), upd_o (by omega), upd_o (by omega), upd_o (by omega)]
theorem lg_app {l : Int32} {a1 b1 v1 w : Fn} (h : LR (l, a1, b1, v1) w) (hl : l < 20) (a b v : Int32) (hb : b = 0 ∨ b = 1) : LR (f_X3_append l a1 b1 v1 a b v) (f_X9_logs w a b v) := by
  obtain ⟨n, hn, e1, e2, h⟩ := h
  have e1 : l = nI n := e1
  subst e1
  have n20 : n < 20 := (lt_c (b := 20) (by omega) (by omega)).mp hl
  unfold f_X3_append
  rw [if_pos hl, vn01 hb, ci (n := n) (by omega)]
  unfold f_X9_logs
  rw [show (72 : Int32).toNatClampNeg = 72 from rfl, e2, z_3, x_73, nI_1 (73 + 3 * n), y_2, ci (n := 73 + 3 * n) (by omega), ci (n := 73 + 3 * n + 1) (by omega), ci (n := 73 + 3 * n + 2) (by omega), upd_o (j := 72) (by omega), upd_o (j := 72) (by omega), upd_o (j := 72) (by omega), e2, nI_1]
  refine ⟨n + 1, by omega, rfl, by rw [upd_s], fun i hi => ?_⟩
  by_cases z : i = n
  · subst z
    rw [upd_o (by omega), upd_o (by omega), upd_o (by omega), upd_s, upd_o (by omega), upd_o (by omega), upd_s, upd_o (by omega), upd_s]
    exact ⟨upd_s.symm, upd_s.symm, upd_s.symm, by show upd b1 i b i = 0 ∨ upd b1 i b i = 1; rw [upd_s]; exact hb⟩
  · have g := h i (by omega)
    rw [upd_o (by omega), upd_o (by omega), upd_o (by omega), upd_o (by omega), upd_o (by omega), upd_o (by omega), upd_o (by omega), upd_o (by omega), upd_o (by omega), upd_o (by omega), upd_o (by omega), upd_o (by omega)]
    refine ⟨g.1.trans (upd_o z).symm, g.2.1.trans (upd_o z).symm, g.2.2.1.trans (upd_o z).symm, ?_⟩
    show upd b1 n b i = 0 ∨ upd b1 n b i = 1
    rw [upd_o z]; exact g.2.2.2
