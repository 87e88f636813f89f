/-! class against model: counts and firsts -/
def cC (P : Nat → Bool) : Nat → Nat → Nat
  | 0, _ => 0
  | d + 1, i => (if P i then 1 else 0) + cC P d (i + 1)
def cL (P : Nat → Bool) : Nat → Nat → Int32
  | 0, _ => -9
  | d + 1, i => if P i then nI i else cL P d (i + 1)
theorem cC_le (P : Nat → Bool) : ∀ d i, cC P d i ≤ d := by
  intro d
  induction d with
  | zero => intro i; exact Nat.le_refl _
  | succ d ih =>
    intro i
    have := ih (i + 1)
    unfold cC
    split <;> omega
theorem cC_t {P : Nat → Bool} {d i : Nat} (h : P i = true) : cC P (d + 1) i = 1 + cC P d (i + 1) := by
  show (if P i then 1 else 0) + cC P d (i + 1) = _
  rw [if_pos h]
theorem cC_f {P : Nat → Bool} {d i : Nat} (h : P i = false) : cC P (d + 1) i = cC P d (i + 1) := by
  show (if P i then 1 else 0) + cC P d (i + 1) = _
  rw [if_neg (by rw [h]; decide), Nat.zero_add]
theorem cL_t {P : Nat → Bool} {d i : Nat} (h : P i = true) : cL P (d + 1) i = nI i := if_pos h
theorem cL_f {P : Nat → Bool} {d i : Nat} (h : P i = false) : cL P (d + 1) i = cL P d (i + 1) := if_neg (by rw [h]; decide)
theorem n0 {k : Nat} (h : k < 100000) : nI k = 0 ↔ k = 0 := eq_c (b := 0) h (by omega)
/-! clashes -/
theorem ho_L33 {u : Blk} {t : Fn} (hG : GB u t) (x2 x3 a : Int32) (K : Int32 → Int32 → Int32 → Int32) : ∀ n i (x : Int32), i ≤ nA u → nA u < n + i →
    f_X9_clashes_L74 t x2 x3 a K n x (nI i) = (if f_X0_holdersOf_L33 u a n x (nI i) ≤ 1 then K x2 x3 (a + 1) else if x2 = 0 then K (x2 + 1) a (a + 1) else K (x2 + 1) x3 (a + 1)) := by
  have hA := lA hG.1
  intro n
  induction n with
  | zero => intro i x h1 h2; omega
  | succ n ih =>
    intro i x h1 h2
    rw [f_X9_clashes_L74, f_X0_holdersOf_L33, f_als hG, eA hG.1, x_78, ci (by omega), ci (by omega)]
    by_cases z : nA u ≤ i
    · rw [if_pos ((le_c (by omega) (by omega)).mpr z), if_pos ((le_c (by omega) (by omega)).mpr z)]
    · have z' : ¬ nI (nA u) ≤ nI i := fun q => z ((le_c (by omega) (by omega)).mp q)
      rw [if_neg z', if_neg z', (hG.2.2.1.2.2.2 i (by omega)).1, nI_1, Int32.add_zero]
      by_cases y : u 10 i = a
      · rw [if_pos y, if_pos y]; exact ih (i + 1) _ (by omega) (by omega)
      · rw [if_neg y, if_neg y]; exact ih (i + 1) _ (by omega) (by omega)
theorem ho_L4 {u : Blk} {t : Fn} (hG : GB u t) (x2 x3 a : Int32) (K : Int32 → Int32 → Int32 → Int32) : ∀ n i (x : Int32), i ≤ nR u → nR u < n + i →
    f_X9_clashes_L32 t x2 x3 a K n x (nI i) = (if f_X0_holdersOf_L4 u a n x (nI i) ≤ 1 then K x2 x3 (a + 1) else if x2 = 0 then K (x2 + 1) a (a + 1) else K (x2 + 1) x3 (a + 1)) := by
  have hA := lA hG.1
  have hR := lR hG.1
  intro n
  induction n with
  | zero => intro i x h1 h2; omega
  | succ n ih =>
    intro i x h1 h2
    rw [f_X9_clashes_L32, f_X0_holdersOf_L4, f_reg hG, eR hG.1, x_0, ci (by omega)]
    by_cases z : nR u ≤ i
    · rw [if_pos ((le_c (by omega) (by omega)).mpr z), if_pos ((le_c (by omega) (by omega)).mpr z)]
      exact ho_L33 hG x2 x3 a K 4000 0 x (by omega) (by omega)
    · have z' : ¬ nI (nR u) ≤ nI i := fun q => z ((le_c (by omega) (by omega)).mp q)
      rw [if_neg z', if_neg z', (hG.2.2.1.2.1 i (by omega)).1, nI_1, Int32.add_zero]
      by_cases y : u 1 i = a
      · rw [if_pos y, if_pos y]; exact ih (i + 1) _ (by omega) (by omega)
      · rw [if_neg y, if_neg y]; exact ih (i + 1) _ (by omega) (by omega)
def hoP (u : Blk) (i : Nat) : Bool := decide (¬ f_X0_holdersOf u (nI i) ≤ 1)
theorem hoP_t {u : Blk} {i : Nat} (h : ¬ f_X0_holdersOf u (nI i) ≤ 1) : hoP u i = true := decide_eq_true h
theorem hoP_f {u : Blk} {i : Nat} (h : f_X0_holdersOf u (nI i) ≤ 1) : hoP u i = false := decide_eq_false (fun q => q h)
theorem ck_L {u : Blk} (x1 : Int32) : ∀ i n, i ≤ 16 → i < n → f_X8_clashes_L19 u x1 n (nI (cC (hoP u) (16 - i) i)) (cL (hoP u) (16 - i) i) (nI i + (-1)) = if x1 = 0 then nI (cC (hoP u) 16 0) else cL (hoP u) 16 0 := by
  intro i
  induction i with
  | zero =>
    intro n h1 h2
    obtain ⟨n, rfl⟩ : ∃ m, n = m + 1 := ⟨n - 1, by omega⟩
    rw [f_X8_clashes_L19, if_pos (by decide)]
  | succ i ih =>
    intro n h1 h2
    obtain ⟨n, rfl⟩ : ∃ m, n = m + 1 := ⟨n - 1, by omega⟩
    rw [f_X8_clashes_L19, pk_m1, if_neg (nI_pos (by omega))]
    have e := ih n (by omega) (by omega)
    rw [show 16 - i = (16 - (i + 1)) + 1 by omega] at e
    by_cases y : f_X0_holdersOf u (nI i) ≤ 1
    · rw [if_pos y]
      rw [cC_f (hoP_f y), cL_f (hoP_f y)] at e
      exact e
    · rw [if_neg y, nI_1]
      rw [cC_t (hoP_t y), cL_t (hoP_t y), Nat.add_comm 1] at e
      exact e
theorem cm_Lk {u : Blk} {t : Fn} (hG : GB u t) (x1 : Int32) : ∀ d i n, i + d = 16 → d < n → ∀ (k : Nat) (first : Int32), k + d ≤ 1000 → (k = 0 → first = -9) →
    f_X9_clashes_L19 t x1 n (nI k) first (nI i) = if x1 = 0 then nI (k + cC (hoP u) d i) else if k = 0 then cL (hoP u) d i else first := by
  intro d
  induction d with
  | zero =>
    intro i n h1 h2 k first hk hf
    obtain ⟨n, rfl⟩ : ∃ m, n = m + 1 := ⟨n - 1, by omega⟩
    rw [f_X9_clashes_L19, if_pos (show (16 : Int32) ≤ nI i from (le_c (a := 16) (by omega) (by omega)).mpr (by omega))]
    unfold cC cL
    by_cases z : k = 0
    · rw [if_pos z, hf z]; rfl
    · rw [if_neg z]; rfl
  | succ d ih =>
    intro i n h1 h2 k first hk hf
    obtain ⟨n, rfl⟩ : ∃ m, n = m + 1 := ⟨n - 1, by omega⟩
    have hR := lR hG.1
    have e0 := ho_L4 hG (nI k) first (nI i) (f_X9_clashes_L19 t x1 n) 4000 0 0 (by omega) (by omega)
    rw [f_X9_clashes_L19, if_neg (show ¬ (16 : Int32) ≤ nI i from fun q => by have := (le_c (a := 16) (by omega) (by omega)).mp q; omega)]
    refine Eq.trans e0 ?_
    rw [show f_X0_holdersOf_L4 u (nI i) 4000 0 (nI 0) = f_X0_holdersOf u (nI i) from rfl, nI_1, nI_1]
    by_cases y : f_X0_holdersOf u (nI i) ≤ 1
    · rw [if_pos y, cC_f (hoP_f y), cL_f (hoP_f y)]
      exact ih (i + 1) n (by omega) (by omega) k first (by omega) hf
    · rw [if_neg y, cC_t (hoP_t y), cL_t (hoP_t y)]
      by_cases z : k = 0
      · rw [if_pos ((n0 (by omega)).mpr z), if_pos z, ih (i + 1) n (by omega) (by omega) (k + 1) (nI i) (by omega) (fun q => by omega), if_neg (show ¬ k + 1 = 0 by omega), Nat.add_assoc]
      · rw [if_neg (fun q => z ((n0 (by omega)).mp q)), if_neg z, ih (i + 1) n (by omega) (by omega) (k + 1) first (by omega) (fun q => by omega), if_neg (show ¬ k + 1 = 0 by omega), Nat.add_assoc]
theorem qa_clashes {u : Blk} {t : Fn} (hG : GB u t) (x : Int32) : f_X8_clashes u x = f_X9_clashes t x := by
  unfold f_X8_clashes f_X9_clashes
  rw [in_1]
  by_cases z : f_X8_isWithin x 2 = 0
  · rw [if_pos z, if_pos z]
  · rw [if_neg z, if_neg z]
    have e1 : f_X8_clashes_L19 u x 4000 0 (-9) 15 = _ := ck_L (u := u) x 16 4000 (by omega) (by omega)
    have e2 : f_X9_clashes_L19 t x 4000 0 (-9) 0 = _ := cm_Lk hG x 16 0 4000 (by omega) (by omega) 0 (-9) (by omega) (fun _ => rfl)
    rw [e1, e2, if_pos rfl, Nat.zero_add]
/-! suspects -/
/-- the log is told again -/
theorem wt_0 {t : Fn} (n : Nat) (x w) : f_X9_wouldTell_L36 t n 0 x w = (0, w) := by
  cases n with
  | zero => rw [f_X9_wouldTell_L36]
  | succ n =>
    rw [f_X9_wouldTell_L36]
    split
    · rfl
    · rw [if_pos rfl]
theorem ag_L {u : Blk} {t : Fn} (hG : GB u t) {m0 : Nat} {ja jb jv k w0 : Fn} (h20 : m0 ≤ 20) (h72 : w0 72 = nI m0) (hh : ∀ i, i < m0 → w0 (73 + 3 * i) = ja i ∧ w0 (73 + 3 * i + 1) = jb i ∧ w0 (73 + 3 * i + 2) = jv i ∧ (jb i = 0 ∨ jb i = 1)) : ∀ n i (c h e w : Fn), i ≤ m0 → m0 < n + i → DR u 135 c h e k w → (∀ j, j < 135 → w j = w0 j) →
    ((f_X3_agreesWith_L2 (nI m0) ja jb jv k u n (nI i) c h e).1 = (f_X9_wouldTell_L36 t n 1 (nI i) w).1) ∧ ((f_X3_agreesWith_L2 (nI m0) ja jb jv k u n (nI i) c h e).1 = 0 ∨ (f_X3_agreesWith_L2 (nI m0) ja jb jv k u n (nI i) c h e).1 = 1) ∧ ∀ j, j < 135 → (f_X9_wouldTell_L36 t n 1 (nI i) w).2 j = w0 j := by
  intro n
  induction n with
  | zero => intro i c h e w h1 h2; omega
  | succ n ih =>
    intro i c h e w h1 h2 hD hw
    rw [f_X3_agreesWith_L2, f_X9_wouldTell_L36]
    unfold f_X3_agreesWith_C50 f_X3_agreesWith_C36 f_X9_wouldTell_C114
    rw [show (72 : Int32).toNatClampNeg = 72 from rfl, hw 72 (by omega), h72, z_3, x_73, nI_1 (73 + 3 * i), y_2, nI_1, ci (n := i) (by omega), ci (n := 73 + 3 * i) (by omega), ci (n := 73 + 3 * i + 1) (by omega), ci (n := 73 + 3 * i + 2) (by omega)]
    by_cases z : m0 ≤ i
    · rw [if_pos ((le_c (by omega) (by omega)).mpr z), if_pos ((le_c (by omega) (by omega)).mpr z)]
      exact ⟨rfl, Or.inr rfl, hw⟩
    · have z' : ¬ nI m0 ≤ nI i := fun q => z ((le_c (by omega) (by omega)).mp q)
      obtain ⟨g1, g2, g3, g4⟩ := hh i (by omega)
      rw [if_neg z', if_neg z', if_neg q_10, hw (73 + 3 * i) (by omega), hw (73 + 3 * i + 1) (by omega), hw (73 + 3 * i + 2) (by omega), g1, g2, g3, show (135 : Int32) = nI 135 from rfl]
      rcases g4 with q | q
      · have fr : ∀ j, j < 135 → (f_X9_readOf t w (nI 135) (ja i)).2 j = w0 j := fun j hj => (frR hG (m := 135) (by omega) w (ja i) (by omega)).trans (hw j hj)
        obtain ⟨r1, r2⟩ := rd_eq hG (m := 135) (by omega) hD (ja i)
        rw [q, if_pos rfl, if_neg (show ¬ (0 : Int32) = 1 from fun q => q_10 q.symm), r1, fr (73 + 3 * i + 2) (by omega), g3]
        by_cases y : (f_X9_readOf t w (nI 135) (ja i)).1 = jv i
        · rw [if_pos y, if_pos y]
          exact ih (i + 1) _ _ _ _ (by omega) (by omega) r2 fr
        · rw [if_neg y, if_neg y, wt_0]
          exact ⟨rfl, Or.inl rfl, fr⟩
      · rw [q, if_neg q_10, if_pos rfl]
        exact ih (i + 1) _ _ _ _ (by omega) (by omega) (wr_eq hG (m := 135) (by omega) hD (ja i) (jv i)) (fun j hj => (frW hG (m := 135) (by omega) w _ _ (by omega)).trans (hw j hj))
theorem ws_eq {u : Blk} {t : Fn} (hG : GB u t) {l : Int32} {ja jb jv w : Fn} (hL : LR (l, ja, jb, jv) w) (v0 v1 v2 v3 : Fn) (x y x' y' : Int32) (hx : (x = -9 ∧ x' = -9) ∨ ∃ f, f < nF u ∧ x = nI f ∧ x' = nI f ∧ y' = y) :
    (f_X8_wouldReadTheSame l ja jb jv v0 v1 v2 v3 u x y).1 = (f_X9_wouldTell t w x' y').1 ∧ ((f_X8_wouldReadTheSame l ja jb jv v0 v1 v2 v3 u x y).1 = 0 ∨ (f_X8_wouldReadTheSame l ja jb jv v0 v1 v2 v3 u x y).1 = 1) ∧ ∀ j, j < 135 → (f_X9_wouldTell t w x' y').2 j = w j := by
  have hF := lF hG.1
  obtain ⟨m0, h20, e1, e2, hh⟩ := id hL
  have e1 : l = nI m0 := e1
  subst e1
  have fin : ∀ (k w1 : Fn), (∀ f, f < nF u → w1 (135 + 12 + f) = k f) → (∀ j, j < 135 → w1 j = w j) →
      (f_X8_wouldReadTheSame_J35 (nI m0) ja jb jv v0 v1 v2 u k).1 = (f_X9_wouldTell_J24 t w1).1 ∧ ((f_X8_wouldReadTheSame_J35 (nI m0) ja jb jv v0 v1 v2 u k).1 = 0 ∨ (f_X8_wouldReadTheSame_J35 (nI m0) ja jb jv v0 v1 v2 u k).1 = 1) ∧ ∀ j, j < 135 → (f_X9_wouldTell_J24 t w1).2 j = w j := by
    intro k w1 hk hw
    have hD := rs_eq hG (m := 135) (by omega) v0 v1 v2 hk
    have fr : ∀ j, j < 135 → f_X9_reset t w1 (nI 135) j = w j := fun j hj => (FR_reset (by rw [ti_c (by omega)]; omega) (by rw [ti_c (by omega)]; omega)).trans (hw j hj)
    exact ag_L hG (w0 := w) h20 e2 hh 4000 0 _ _ _ _ (by omega) (by omega) hD fr
  have rp : ∀ f, f < nF u → f_X9_repair t w (nI 135) (135 + 12 + f) = u 5 f := fun f hf => rp_eq hG (by omega) w hf
  have rf : ∀ j, j < 135 → f_X9_repair t w (nI 135) j = w j := fun j hj => FR_repair (by rw [ti_c (by omega)]; omega) (by rw [ti_c (by omega)]; omega)
  unfold f_X8_wouldReadTheSame f_X9_wouldTell
  rw [show (135 : Int32) = nI 135 from rfl, eF hG.1]
  rcases hx with ⟨ex, ex'⟩ | ⟨f, hf, ex, ex', ey⟩
  · rw [ex, ex', iw_9, if_pos rfl, if_pos rfl]
    exact fin _ _ (fun f hf => (rp f hf).trans (md_eq (by omega)).symm) rf
  · rw [ex, ex', ey, iw_in hf (by omega), if_neg q_10, if_neg (nI_n9 (by omega)), x_147, ci (n := f) (by omega), ci (n := 147 + f) (by omega)]
    refine fin _ _ (fun g hg => ?_) (fun j hj => (upd_o (by omega)).trans (rf j hj))
    by_cases z : g = f
    · rw [z, show 135 + 12 + f = 147 + f by omega, upd_s, upd_s]
    · rw [upd_o (by omega), upd_o z, rp g hg, md_eq (by omega)]
/-- whether a field and a kind are suspect -/
def suP (u : Blk) (l : Int32) (ja jb jv : Fn) (i : Nat) : Bool := decide (¬ nI (i % 8) = u 5 (i / 8) ∧ ¬ (f_X8_wouldReadTheSame l ja jb jv (fun _ => 0) (fun _ => 0) (fun _ => 0) (fun _ => 0) u (nI (i / 8)) (nI (i % 8))).1 = 0)
theorem ws_same {u : Blk} {t : Fn} (hG : GB u t) {l : Int32} {ja jb jv w : Fn} (hL : LR (l, ja, jb, jv) w) (v0 v1 v2 v3 : Fn) {f : Nat} (hf : f < nF u) (y : Int32) : (f_X8_wouldReadTheSame l ja jb jv v0 v1 v2 v3 u (nI f) y).1 = (f_X8_wouldReadTheSame l ja jb jv (fun _ => 0) (fun _ => 0) (fun _ => 0) (fun _ => 0) u (nI f) y).1 :=
  (ws_eq hG hL v0 v1 v2 v3 (nI f) y (nI f) y (Or.inr ⟨f, hf, rfl, rfl, rfl⟩)).1.trans (ws_eq hG hL (fun _ => 0) (fun _ => 0) (fun _ => 0) (fun _ => 0) (nI f) y (nI f) y (Or.inr ⟨f, hf, rfl, rfl, rfl⟩)).1.symm
theorem dv8 {i : Nat} (h : i < 100000) : nI i / (8 : Int32) = nI (i / 8) := pk_div (d := 8) (by omega) (by omega) (by omega)
theorem rm8 {i : Nat} (h : i < 100000) : nI i - nI i / (8 : Int32) * (8 : Int32) = nI (i % 8) := pk_rem (d := 8) (by omega) (by omega) (by omega)
theorem sm_L {u : Blk} {t : Fn} (hG : GB u t) {l : Int32} {ja jb jv w : Fn} (hL : LR (l, ja, jb, jv) w) (x1 : Int32) : ∀ d i n, i + d = 8 * nF u → d < n → ∀ (k : Nat) (first : Int32) (w1 : Fn), k + d ≤ 1000 → (k = 0 → first = -9) → (∀ j, j < 135 → w1 j = w j) →
    (f_X9_suspects_L40 t x1 n (nI k) first (nI i) w1).1 = (if x1 = 0 then nI (k + cC (suP u l ja jb jv) d i) else if k = 0 then cL (suP u l ja jb jv) d i else first) ∧ ∀ j, j < 135 → (f_X9_suspects_L40 t x1 n (nI k) first (nI i) w1).2 j = w j := by
  have hF := lF hG.1
  have z8 : (8 : Int32) * f_X9_fields t = nI (8 * nF u) := by rw [f_fld hG]; exact pk_mul 8 (nF u)
  intro d
  induction d with
  | zero =>
    intro i n h1 h2 k first w1 hk hf hw
    obtain ⟨n, rfl⟩ : ∃ m, n = m + 1 := ⟨n - 1, by omega⟩
    rw [f_X9_suspects_L40, z8, if_pos ((le_c (by omega) (by omega)).mpr (by omega))]
    unfold cC cL
    by_cases x : x1 = 0
    · rw [if_pos x, if_pos x]; exact ⟨rfl, hw⟩
    · rw [if_neg x, if_neg x]
      refine ⟨?_, hw⟩
      by_cases z : k = 0
      · rw [if_pos z, hf z]
      · rw [if_neg z]
  | succ d ih =>
    intro i n h1 h2 k first w1 hk hf hw
    obtain ⟨n, rfl⟩ : ∃ m, n = m + 1 := ⟨n - 1, by omega⟩
    have hi8 : i / 8 < nF u := by omega
    rw [f_X9_suspects_L40, z8, if_neg (fun q => by have := (le_c (by omega) (by omega)).mp q; omega), rm8 (by omega), dv8 (by omega), x_54, ci (by omega), (hG.2.2.1.2.2.1 (i / 8) hi8).2.2.2.1, nI_1]
    have hL1 : LR (l, ja, jb, jv) w1 := by
      obtain ⟨m, hm, a1, a2, a3⟩ := hL
      exact ⟨m, hm, a1, (hw 72 (by omega)).trans a2, fun i hi => by rw [hw _ (by omega), hw _ (by omega), hw _ (by omega)]; exact a3 i hi⟩
    obtain ⟨e1, e2, e3⟩ := ws_eq hG hL1 (fun _ => 0) (fun _ => 0) (fun _ => 0) (fun _ => 0) (nI (i / 8)) (nI (i % 8)) (nI (i / 8)) (nI (i % 8)) (Or.inr ⟨i / 8, hi8, rfl, rfl, rfl⟩)
    by_cases own : nI (i % 8) = u 5 (i / 8)
    · have pf : suP u l ja jb jv i = false := decide_eq_false (fun q => q.1 own)
      rw [if_pos own, cC_f pf, cL_f pf]
      exact ih (i + 1) n (by omega) (by omega) k first w1 (by omega) hf hw
    · rw [if_neg own]
      unfold f_X9_suspects_C87
      rw [← e1, nI_1, nI_1]
      have fr : ∀ j, j < 135 → (f_X9_wouldTell t w1 (nI (i / 8)) (nI (i % 8))).2 j = w j := fun j hj => (e3 j hj).trans (hw j hj)
      by_cases y : (f_X8_wouldReadTheSame l ja jb jv (fun _ => 0) (fun _ => 0) (fun _ => 0) (fun _ => 0) u (nI (i / 8)) (nI (i % 8))).1 = 0
      · have pf : suP u l ja jb jv i = false := decide_eq_false (fun q => q.2 y)
        rw [if_pos y, cC_f pf, cL_f pf]
        exact ih (i + 1) n (by omega) (by omega) k first _ (by omega) hf fr
      · have pt : suP u l ja jb jv i = true := decide_eq_true ⟨own, y⟩
        rw [if_neg y, cC_t pt, cL_t pt]
        by_cases z : k = 0
        · rw [if_pos ((n0 (by omega)).mpr z), if_pos z]
          have := ih (i + 1) n (by omega) (by omega) (k + 1) (nI i) _ (by omega) (fun q => by omega) fr
          rw [if_neg (show ¬ k + 1 = 0 by omega), Nat.add_assoc] at this
          exact this
        · rw [if_neg (fun q => z ((n0 (by omega)).mp q)), if_neg z]
          have := ih (i + 1) n (by omega) (by omega) (k + 1) first _ (by omega) (fun q => by omega) fr
          rw [if_neg (show ¬ k + 1 = 0 by omega), Nat.add_assoc] at this
          exact this
def suT (P : Nat → Bool) (x1 : Int32) (k d i : Nat) : Int32 := if x1 = 1 then cL P d i else nI (k + cC P d i)
theorem sc_50 {u : Blk} {t : Fn} (hG : GB u t) {l : Int32} {ja jb jv w : Fn} (hL : LR (l, ja, jb, jv) w) (x1 : Int32) {f : Nat} (hf : f < nF u) {K : Int32 → Int32 → Fn → Fn → Fn → Fn → Int32 × Fn × Fn × Fn × Fn} (hK : ∀ (k : Nat) (v0 v1 v2 v3 : Fn), k ≤ 8 * f + 8 → (K (nI k) (nI (f + 1)) v0 v1 v2 v3).1 = suT (suP u l ja jb jv) x1 k (8 * nF u - (8 * f + 8)) (8 * f + 8)) :
    ∀ e kd n, kd + e = 8 → e < n → ∀ (k : Nat) (v0 v1 v2 v3 : Fn), k ≤ 8 * f + kd → (f_X8_suspects_L50 l ja jb jv u x1 (nI f) K n (nI k) (nI kd) v0 v1 v2 v3).1 = suT (suP u l ja jb jv) x1 k (8 * nF u - (8 * f + kd)) (8 * f + kd) := by
  have hF := lF hG.1
  intro e
  induction e with
  | zero =>
    intro kd n h1 h2 k v0 v1 v2 v3 hk
    obtain ⟨n, rfl⟩ : ∃ m, n = m + 1 := ⟨n - 1, by omega⟩
    obtain rfl : kd = 8 := by omega
    rw [f_X8_suspects_L50, if_pos (show (8 : Int32) ≤ nI 8 from (le_c (a := 8) (b := 8) (by omega) (by omega)).mpr (by omega)), nI_1]
    exact hK k v0 v1 v2 v3 hk
  | succ e ih =>
    intro kd n h1 h2 k v0 v1 v2 v3 hk
    obtain ⟨n, rfl⟩ : ∃ m, n = m + 1 := ⟨n - 1, by omega⟩
    have i8 : (8 * f + kd) / 8 = f := by omega
    have m8 : (8 * f + kd) % 8 = kd := by omega
    have dd : 8 * nF u - (8 * f + kd) = (8 * nF u - (8 * f + (kd + 1))) + 1 := by omega
    rw [f_X8_suspects_L50, if_neg (show ¬ (8 : Int32) ≤ nI kd from fun q => by have := (le_c (a := 8) (by omega) (by omega)).mp q; omega), ci (by omega), nI_1]
    unfold f_X8_suspects_C78
    rw [ws_same hG hL v0 v1 v2 v3 hf, nI_1, nI_1]
    by_cases own : nI kd = u 5 f
    · have pf : suP u l ja jb jv (8 * f + kd) = false := decide_eq_false (fun q => by rw [i8, m8] at q; exact q.1 own)
      rw [if_pos own, ih (kd + 1) n (by omega) (by omega) k _ _ _ _ (by omega), dd]
      unfold suT
      rw [cC_f pf, cL_f pf]; rfl
    · rw [if_neg own]
      by_cases y : (f_X8_wouldReadTheSame l ja jb jv (fun _ => 0) (fun _ => 0) (fun _ => 0) (fun _ => 0) u (nI f) (nI kd)).1 = 0
      · have pf : suP u l ja jb jv (8 * f + kd) = false := decide_eq_false (fun q => by rw [i8, m8] at q; exact q.2 y)
        rw [if_pos y, ih (kd + 1) n (by omega) (by omega) k _ _ _ _ (by omega), dd]
        unfold suT
        rw [cC_f pf, cL_f pf]; rfl
      · have pt : suP u l ja jb jv (8 * f + kd) = true := decide_eq_true (by rw [i8, m8]; exact ⟨own, y⟩)
        rw [if_neg y, dd]
        by_cases x : x1 = 1
        · rw [if_pos x]
          unfold suT
          rw [if_pos x, cL_t pt]
          show (8 : Int32) * nI f + nI kd = _
          rw [show (8 : Int32) * nI f = nI (8 * f) from pk_mul 8 f, nI_add]
        · rw [if_neg x, ih (kd + 1) n (by omega) (by omega) (k + 1) _ _ _ _ (by omega)]
          unfold suT
          rw [if_neg x, if_neg x, cC_t pt, Nat.add_assoc]; rfl
theorem sc_36 {u : Blk} {t : Fn} (hG : GB u t) {l : Int32} {ja jb jv w : Fn} (hL : LR (l, ja, jb, jv) w) (x1 : Int32) : ∀ D f n, f + D = nF u → D < n → ∀ (k : Nat) (v0 v1 v2 v3 : Fn), k ≤ 8 * f → (f_X8_suspects_L36 l ja jb jv u x1 n (nI k) (nI f) v0 v1 v2 v3).1 = suT (suP u l ja jb jv) x1 k (8 * nF u - 8 * f) (8 * f) := by
  have hF := lF hG.1
  intro D
  induction D with
  | zero =>
    intro f n h1 h2 k v0 v1 v2 v3 hk
    obtain ⟨n, rfl⟩ : ∃ m, n = m + 1 := ⟨n - 1, by omega⟩
    rw [f_X8_suspects_L36, eF hG.1, if_pos ((le_c (by omega) (by omega)).mpr (by omega)), show 8 * nF u - 8 * f = 0 by omega]
    unfold suT cL cC
    by_cases x : x1 = 1
    · rw [if_pos x, if_pos x]
    · rw [if_neg x, if_neg x]; rfl
  | succ D ih =>
    intro f n h1 h2 k v0 v1 v2 v3 hk
    obtain ⟨n, rfl⟩ : ∃ m, n = m + 1 := ⟨n - 1, by omega⟩
    rw [f_X8_suspects_L36, eF hG.1, if_neg (fun q => by have := (le_c (by omega) (by omega)).mp q; omega)]
    exact sc_50 hG hL x1 (f := f) (by omega) (fun k v0 v1 v2 v3 hk => ih (f + 1) n (by omega) (by omega) k v0 v1 v2 v3 (by omega)) 8 0 4000 (by omega) (by omega) k v0 v1 v2 v3 (by omega)
theorem qa_suspects {u : Blk} {t : Fn} (hG : GB u t) {l : Int32} {ja jb jv w : Fn} (hL : LR (l, ja, jb, jv) w) (v0 v1 v2 v3 : Fn) (x : Int32) : (f_X8_suspects l ja jb jv v0 v1 v2 v3 u x).1 = (f_X9_suspects t w x).1 ∧ ∀ j, j < 135 → (f_X9_suspects t w x).2 j = w j := by
  have hF := lF hG.1
  unfold f_X8_suspects f_X9_suspects
  rw [in_2]
  rcases iw_of (x := x) (n := 3) (by omega) with z | ⟨z, j, hj, rfl⟩
  · rw [show (3 : Int32) = nI 3 from rfl, z, if_pos rfl, if_pos rfl]; exact ⟨rfl, fun _ _ => rfl⟩
  · rw [show (3 : Int32) = nI 3 from rfl, z, if_neg q_10, if_neg q_10]
    by_cases x2 : nI j = 2
    · rw [if_pos x2, if_pos x2]
      obtain ⟨e1, e2, e3⟩ := ws_eq hG hL v0 v1 v2 v3 (-9) (-9) (-9) 0 (Or.inl ⟨rfl, rfl⟩)
      unfold f_X8_suspects_C23 f_X9_suspects_C23
      rw [e1]
      by_cases c : (f_X9_wouldTell t w (-9) 0).1 = 0
      · rw [if_pos c, if_pos c]; exact ⟨rfl, e3⟩
      · rw [if_neg c, if_neg c]; exact ⟨rfl, e3⟩
    · rw [if_neg x2, if_neg x2]
      have a := sc_36 hG hL (nI j) (nF u) 0 4000 (by omega) (by omega) 0 v0 v1 v2 v3 (by omega)
      obtain ⟨b1, b2⟩ := sm_L hG hL (nI j) (8 * nF u) 0 4000 (by omega) (by omega) 0 (-9) w (by omega) (fun _ => rfl) (fun _ _ => rfl)
      refine ⟨Eq.trans a (Eq.trans ?_ b1.symm), b2⟩
      unfold suT
      rw [if_pos rfl, Nat.mul_zero, Nat.sub_zero, Nat.zero_add]
      obtain rfl | rfl : j = 0 ∨ j = 1 := by
        have : j ≠ 2 := fun q => x2 (by rw [q]; rfl)
        omega
      · rw [if_neg (show ¬ nI 0 = (1 : Int32) from by decide), if_pos (show nI 0 = (0 : Int32) from rfl)]
      · rw [if_pos (show nI 1 = (1 : Int32) from rfl), if_neg (show ¬ nI 1 = (0 : Int32) from by decide)]
