/-! class against model: way -/
theorem pb_fr {u : Blk} {c : Fn} {i : Nat} (hi : i < 100000) (b : Int32) {r : Nat} (h : r ≠ ow u i) : f_X1_putBits c u (nI i) b r = c r := by
  rw [put_eq hi, upd_o h]
theorem li_fr {u : Blk} (hI : BlkInv u) {e k : Fn} {r : Nat} (hr : r < 6) (v : Int32) {q : Nat} (hq : q ≠ r) : ∀ n i (c : Fn), i ≤ nF u → nF u < n + i → (f_X1_letIn_L3 e k u (nI r) v n (nI i) c).1 q = c q := by
  have hF := lF hI
  intro n
  induction n with
  | zero => intro i c h1 h2; omega
  | succ n ih =>
    intro i c h1 h2
    have hO := lO hI i
    rw [f_X1_letIn_L3, eF hI, ci (n := i) (by omega), eO hI, nI_1]
    by_cases z : nF u ≤ i
    · rw [if_pos ((le_c (by omega) (by omega)).mpr z)]
    · rw [if_neg (fun q => z ((le_c (by omega) (by omega)).mp q))]
      by_cases o : nI (ow u i) = nI r
      · have o' := (eq_c (by omega) (by omega)).mp o
        rw [if_pos o, ih (i + 1) _ (by omega) (by omega), pb_fr (by omega) _ (by omega)]
      · rw [if_neg o, ih (i + 1) _ (by omega) (by omega)]
theorem la_fr {u : Blk} (hI : BlkInv u) {e k : Fn} {r : Nat} (hr : r < 6) (v kd : Int32) {q : Nat} (hq : q ≠ r) : ∀ n i (c : Fn), i ≤ nF u → nF u < n + i → f_X1_letInByAlias_L3 e k u (nI r) v kd n (nI i) c q = c q := by
  have hF := lF hI
  intro n
  induction n with
  | zero => intro i c h1 h2; omega
  | succ n ih =>
    intro i c h1 h2
    have hO := lO hI i
    rw [f_X1_letInByAlias_L3, eF hI, ci (n := i) (by omega), eO hI, nI_1]
    by_cases z : nF u ≤ i
    · rw [if_pos ((le_c (by omega) (by omega)).mpr z)]
    · rw [if_neg (fun q => z ((le_c (by omega) (by omega)).mp q))]
      by_cases o : nI (ow u i) = nI r
      · have o' := (eq_c (by omega) (by omega)).mp o
        rw [if_pos o]
        by_cases k1 : k i = 1
        · rw [if_pos k1, ih (i + 1) _ (by omega) (by omega)]
        · rw [if_neg k1]
          by_cases k6 : k i = 6
          · rw [if_pos k6, ih (i + 1) _ (by omega) (by omega)]
          · rw [if_neg k6, ih (i + 1) _ (by omega) (by omega), pb_fr (by omega) _ (by omega)]
      · rw [if_neg o, ih (i + 1) _ (by omega) (by omega)]
theorem og_fr {u : Blk} (hI : BlkInv u) {k : Fn} (x v : Int32) {q : Nat} (hq : q < 6) (hop : f_X0_isOpenedBy u (nI q) x = 0) : ∀ n i (c h e : Fn), i ≤ nR u → nR u < n + i → (f_X1_openGates_L3 k u x v n (nI i) c h e).1 q = c q := by
  have hF := lF hI
  have hR := lR hI
  intro n
  induction n with
  | zero => intro i c h e h1 h2; omega
  | succ n ih =>
    intro i c h e h1 h2
    rw [f_X1_openGates_L3, eR hI, ci (n := i) (by omega), nI_1]
    unfold f_X1_openGates_J80
    rw [nI_1]
    by_cases z : nR u ≤ i
    · rw [if_pos ((le_c (by omega) (by omega)).mpr z)]
    · rw [if_neg (fun q => z ((le_c (by omega) (by omega)).mp q))]
      by_cases a1 : h i = -9
      · rw [if_pos a1, ih (i + 1) _ _ _ (by omega) (by omega)]
      · rw [if_neg a1]
        by_cases a2 : f_X0_isOpenedBy u (nI i) x = 0
        · rw [if_pos a2, ih (i + 1) _ _ _ (by omega) (by omega)]
        · rw [if_neg a2]
          have qi : q ≠ i := fun e => a2 (by rw [← e]; exact hop)
          by_cases a3 : ((v >>> (u 6 (u 3 i).toNatClampNeg &&& 31)) &&& 1) = 0
          · rw [if_pos a3, ih (i + 1) _ _ _ (by omega) (by omega)]
          · rw [if_neg a3]
            by_cases a4 : f_X1_isLocked c u (nI i) = 0
            · rw [if_pos a4, ih (i + 1) _ _ _ (by omega) (by omega)]
              exact li_fr hI (by omega) _ qi 4000 0 c (by omega) (by omega)
            · rw [if_neg a4, ih (i + 1) _ _ _ (by omega) (by omega)]
theorem wr_fr {u : Blk} {t : Fn} (hG : GB u t) {c h e k : Fn} (a v : Int32) {f : Nat} (hf : f < nF u) (hc : f_X0_canReach u a (nI f) = 0) : vl u (f_X1_write c h e k u a v).1 f = vl u c f := by
  have hF := lF hG.1
  have hR := lR hG.1
  have hA := lA hG.1
  have hO := lO hG.1 f
  have key : ∀ r, r < 6 → f_X0_registerBehind u a = nI r → ow u f ≠ r ∧ f_X0_isOpenedBy u (nI (ow u f)) (nI r) = 0 := by
    intro r hr hb
    unfold f_X0_canReach at hc
    rw [hb, if_neg (nI_n9 (by omega)), ci (by omega), eO hG.1] at hc
    by_cases z : nI r = nI (ow u f)
    · rw [if_pos z] at hc; exact absurd hc q_10
    · rw [if_neg z] at hc
      refine ⟨fun q => z (by rw [q]), ?_⟩
      by_cases y : f_X0_isOpenedBy u (nI (ow u f)) (nI r) = 0
      · exact y
      · rw [if_neg y] at hc; exact absurd hc q_10
  have fin : ∀ c1 : Fn, c1 (ow u f) = c (ow u f) → vl u c1 f = vl u c f := fun c1 q => by unfold vl; rw [q]
  unfold f_X1_write
  rcases goes hG a with ⟨r, hr, h1, h2, h3, h4⟩ | ⟨h1, j, hj, h2, h3, h4⟩ | ⟨h1, h2, h3, h4⟩
  · obtain ⟨k1, k2⟩ := key r (by omega) h3
    rw [h2, h3, if_neg (nI_n9 (by omega))]
    by_cases lk : f_X1_isLocked c u (nI r) = 0
    · rw [if_pos lk, if_pos (show (-9 : Int32) = -9 from rfl)]
      by_cases g : u 3 (nI r).toNatClampNeg = -9
      · rw [if_pos g]
        unfold f_X1_write_C77 f_X1_write_J89 f_X1_write_C97
        exact fin _ ((og_fr hG.1 (nI r) v hO k2 4000 0 _ _ _ (by omega) (by omega)).trans (li_fr hG.1 (by omega) v k1 4000 0 c (by omega) (by omega)))
      · rw [if_neg g]
    · rw [if_neg lk]
  · have hAr := lAr hG.1 j
    obtain ⟨k1, k2⟩ := key _ hAr h3
    rw [h2, h3, if_neg (show ¬ nI (ar u j) = -9 from nI_n9 (by omega))]
    by_cases lk : f_X1_isLocked c u (nI (ar u j)) = 0
    · rw [if_pos lk, if_neg (show ¬ nI j = -9 from nI_n9 (by omega))]
      unfold f_X1_write_J89 f_X1_write_C97
      exact fin _ ((og_fr hG.1 (nI (ar u j)) v hO k2 4000 0 _ _ _ (by omega) (by omega)).trans (la_fr hG.1 (by omega) v _ k1 4000 0 c (by omega) (by omega)))
    · rw [if_neg lk]
  · rw [h3, if_pos rfl]
theorem wc_vl {u : Blk} {t : Fn} (hG : GB u t) {c h e k w : Fn} (hD : DR u 0 c h e k w) (v0 v1 v2 v3 : Fn) (a v : Int32) {f : Nat} (hf : f < nF u) : vl u (f_X1_write (f_X1_copyFrom v0 v1 v2 v3 c h e k).1 (f_X1_copyFrom v0 v1 v2 v3 c h e k).2.1 (f_X1_copyFrom v0 v1 v2 v3 c h e k).2.2.1 (f_X1_copyFrom v0 v1 v2 v3 c h e k).2.2.2 u a v).1 f = vl u (f_X1_write c h e k u a v).1 f := by
  have hT := dr_copy hG (w' := w) (m' := 0) v0 v1 v2 v3 hD (fun _ _ => rfl)
  exact ((wr_eq hG (by omega) hT a v).1 f hf).1.symm.trans ((wr_eq hG (by omega) hD a v).1 f hf).1
def wyP (u : Blk) (c h e k : Fn) (f : Nat) (v : Int32) (i : Nat) : Bool := decide (vl u (f_X1_write c h e k u (nI (i / 256)) (nI (i % 256))).1 f = v)
theorem dv256 {i : Nat} (h : i < 100000) : nI i / (256 : Int32) = nI (i / 256) := pk_div (d := 256) (by omega) (by omega) (by omega)
theorem rm256 {i : Nat} (h : i < 100000) : nI i - nI i / (256 : Int32) * (256 : Int32) = nI (i % 256) := pk_rem (d := 256) (by omega) (by omega) (by omega)
theorem wm_L {u : Blk} {t : Fn} (hG : GB u t) {c h e k w : Fn} (hD : DR u 0 c h e k w) {f : Nat} (hf : f < nF u) (v : Int32) : ∀ d i n (w1 : Fn), i + d = 4096 → d < n → (∀ j, j < 135 → w1 j = w j) →
    (f_X9_way_L25 t (nI f) v n (nI i) w1).1 = cL (wyP u c h e k f v) d i ∧ ∀ j, j < 135 → (f_X9_way_L25 t (nI f) v n (nI i) w1).2 j = w j := by
  have hF := lF hG.1
  intro d
  induction d with
  | zero =>
    intro i n w1 h1 h2 hw
    obtain ⟨n, rfl⟩ : ∃ m, n = m + 1 := ⟨n - 1, by omega⟩
    rw [f_X9_way_L25, if_pos (show (4096 : Int32) ≤ nI i from (le_c (a := 4096) (by omega) (by omega)).mpr (by omega))]
    exact ⟨rfl, hw⟩
  | succ d ih =>
    intro i n w1 h1 h2 hw
    obtain ⟨n, rfl⟩ : ∃ m, n = m + 1 := ⟨n - 1, by omega⟩
    have hD1 : DR u 0 c h e k w1 := dr_cong hG.1 hG.2.1 hD (fun r _ => ⟨rfl, rfl, rfl⟩) (fun _ _ => rfl) (fun j hj => hw _ (by omega))
    have fr : ∀ j, j < 135 → f_X9_tryWrite t w1 (nI (i / 256)) (nI (i % 256)) j = w j := fun j hj => ((tw_dr hG hD1 _ _).2 j hj).trans (hw j hj)
    rw [f_X9_way_L25, if_neg (show ¬ (4096 : Int32) ≤ nI i from fun q => by have := (le_c (a := 4096) (by omega) (by omega)).mp q; omega), rm256 (by omega), dv256 (by omega), x_135, ci (by omega), tw_vl hG hD1 _ _ hf, nI_1]
    by_cases y : vl u (f_X1_write c h e k u (nI (i / 256)) (nI (i % 256))).1 f = v
    · rw [if_pos y, cL_t (decide_eq_true y)]
      exact ⟨rfl, fr⟩
    · rw [if_neg y, cL_f (decide_eq_false y)]
      exact ih (i + 1) n _ (by omega) (by omega) fr
def cB (P : Nat → Bool) (a : Nat) : Nat → Nat → Int32
  | 0, _ => -9
  | e + 1, b => if P (256 * a + b) then nI b else cB P a e (b + 1)
theorem cB_cL {P : Nat → Bool} {a D : Nat} (ha : a < 100) : ∀ e b, b + e = 256 → cL P (e + D) (256 * a + b) = if cB P a e b = -9 then cL P D (256 * (a + 1)) else (256 : Int32) * nI a + cB P a e b := by
  intro e
  induction e with
  | zero =>
    intro b hb
    unfold cB
    rw [if_pos rfl, Nat.zero_add, show 256 * a + b = 256 * (a + 1) by omega]
  | succ e ih =>
    intro b hb
    rw [show e + 1 + D = (e + D) + 1 by omega]
    cases hp : P (256 * a + b)
    · rw [cL_f hp, show 256 * a + b + 1 = 256 * a + (b + 1) by omega, ih (b + 1) (by omega)]
      have : cB P a (e + 1) b = cB P a e (b + 1) := if_neg (by rw [hp]; decide)
      rw [this]
    · rw [cL_t hp]
      have : cB P a (e + 1) b = nI b := if_pos hp
      rw [this, if_neg (nI_n9 (by omega)), show (256 : Int32) * nI a = nI (256 * a) from pk_mul 256 a, nI_add]
theorem cB_no {P : Nat → Bool} {a : Nat} : ∀ e b, (∀ j, b ≤ j → j < b + e → P (256 * a + j) = false) → cB P a e b = -9 := by
  intro e
  induction e with
  | zero => intro b _; rfl
  | succ e ih =>
    intro b h
    have : cB P a (e + 1) b = cB P a e (b + 1) := if_neg (by rw [h b (by omega) (by omega)]; decide)
    rw [this]
    exact ih (b + 1) (fun j h1 h2 => h j (by omega) (by omega))
theorem bg_L {u : Blk} {t : Fn} (hG : GB u t) {c h e k w : Fn} (hD : DR u 0 c h e k w) {f : Nat} (hf : f < nF u) (v : Int32) {a : Nat} (ha : a < 16) {B : Nat} (hB : B ≤ 256) : ∀ d b n (v0 v1 v2 v3 : Fn), b + d = B → d < n →
    (f_X8_byteThatGives_L24 c h e k u (nI a) (nI f) v (nI B) n (nI b) v0 v1 v2 v3).1 = cB (wyP u c h e k f v) a d b := by
  have hF := lF hG.1
  intro d
  induction d with
  | zero =>
    intro b n v0 v1 v2 v3 h1 h2
    obtain ⟨n, rfl⟩ : ∃ m, n = m + 1 := ⟨n - 1, by omega⟩
    rw [f_X8_byteThatGives_L24, if_pos ((le_c (by omega) (by omega)).mpr (by omega))]
    rfl
  | succ d ih =>
    intro b n v0 v1 v2 v3 h1 h2
    obtain ⟨n, rfl⟩ : ∃ m, n = m + 1 := ⟨n - 1, by omega⟩
    have i1 : (256 * a + b) / 256 = a := by omega
    have i2 : (256 * a + b) % 256 = b := by omega
    rw [f_X8_byteThatGives_L24, if_neg (fun q => by have := (le_c (by omega) (by omega)).mp q; omega)]
    unfold f_X8_byteThatGives_C45 f_X8_byteThatGives_C59
    rw [val_eq (by omega), wc_vl hG hD v0 v1 v2 v3 (nI a) (nI b) hf, nI_1]
    by_cases y : vl u (f_X1_write c h e k u (nI a) (nI b)).1 f = v
    · rw [if_pos y]
      have p : wyP u c h e k f v (256 * a + b) = true := decide_eq_true (by rw [i1, i2]; exact y)
      exact (if_pos p).symm
    · rw [if_neg y]
      have p : wyP u c h e k f v (256 * a + b) = false := decide_eq_false (by rw [i1, i2]; exact y)
      rw [ih (b + 1) n _ _ _ _ (by omega) (by omega)]
      exact (if_neg (by rw [p]; decide)).symm
theorem bg_eq {u : Blk} {t : Fn} (hG : GB u t) {c h e k w : Fn} (hD : DR u 0 c h e k w) {f : Nat} (hf : f < nF u) (v : Int32) {a : Nat} (ha : a < 16) (v0 v1 v2 v3 : Fn) : (f_X8_byteThatGives c h e k v0 v1 v2 v3 u (nI a) (nI f) v).1 = cB (wyP u c h e k f v) a 256 0 := by
  unfold f_X8_byteThatGives f_X8_byteThatGives_J19
  by_cases r : f_X0_canReach u (nI a) (nI f) = 0
  · rw [if_pos r]
    refine Eq.trans (bg_L hG hD hf v ha (B := 1) (by omega) 1 0 4000 v0 v1 v2 v3 (by omega) (by omega)) ?_
    have all : ∀ j, j < 256 → wyP u c h e k f v (256 * a + j) = decide (vl u c f = v) := fun j hj => by
      unfold wyP
      rw [show (256 * a + j) / 256 = a by omega, wr_fr hG _ _ hf r]
    cases hp : decide (vl u c f = v)
    · have n1 : cB (wyP u c h e k f v) a 1 0 = -9 := cB_no 1 0 (fun j _ hj => (all j (by omega)).trans hp)
      have n2 : cB (wyP u c h e k f v) a 256 0 = -9 := cB_no 256 0 (fun j _ hj => (all j (by omega)).trans hp)
      rw [n1, n2]
    · have p0 : wyP u c h e k f v (256 * a + 0) = true := (all 0 (by omega)).trans hp
      exact (if_pos p0).trans (if_pos p0).symm
  · rw [if_neg r]
    exact bg_L hG hD hf v ha (B := 256) (by omega) 256 0 4000 v0 v1 v2 v3 (by omega) (by omega)
theorem wk_L {u : Blk} {t : Fn} (hG : GB u t) {c h e k w : Fn} (hD : DR u 0 c h e k w) {f : Nat} (hf : f < nF u) (v : Int32) : ∀ D a n (v0 v1 v2 v3 : Fn), a + D = 16 → D < n →
    (f_X8_way_L16 c h e k u (nI f) v n (nI a) v0 v1 v2 v3).1 = cL (wyP u c h e k f v) (256 * D) (256 * a) := by
  intro D
  induction D with
  | zero =>
    intro a n v0 v1 v2 v3 h1 h2
    obtain ⟨n, rfl⟩ : ∃ m, n = m + 1 := ⟨n - 1, by omega⟩
    rw [f_X8_way_L16, if_pos (show (16 : Int32) ≤ nI a from (le_c (a := 16) (by omega) (by omega)).mpr (by omega))]
    rfl
  | succ D ih =>
    intro a n v0 v1 v2 v3 h1 h2
    obtain ⟨n, rfl⟩ : ∃ m, n = m + 1 := ⟨n - 1, by omega⟩
    rw [f_X8_way_L16, if_neg (show ¬ (16 : Int32) ≤ nI a from fun q => by have := (le_c (a := 16) (by omega) (by omega)).mp q; omega)]
    unfold f_X8_way_C29
    rw [bg_eq hG hD hf v (by omega), nI_1, show 256 * (D + 1) = 256 + 256 * D by omega, show 256 * a = 256 * a + 0 by omega, cB_cL (by omega) 256 0 (by omega)]
    by_cases y : cB (wyP u c h e k f v) a 256 0 = -9
    · rw [if_pos y, if_pos y]
      exact ih (a + 1) n _ _ _ _ (by omega) (by omega)
    · rw [if_neg y, if_neg y]
theorem qa_way {u : Blk} {t : Fn} (hG : GB u t) {c h e k w : Fn} (hD : DR u 0 c h e k w) (v0 v1 v2 v3 : Fn) (x y : Int32) : (f_X8_way c h e k v0 v1 v2 v3 u x y).1 = (f_X9_way t w x y).1 ∧ ∀ j, j < 135 → (f_X9_way t w x y).2 j = w j := by
  unfold f_X8_way f_X9_way
  rcases ch_of hG x y with ⟨a, b⟩ | ⟨a, b1, b2, f, hf, rfl, _⟩
  · rw [if_pos a]
    rcases b with b | b
    · rw [if_pos b]; exact ⟨rfl, fun _ _ => rfl⟩
    · by_cases b1 : f_X9_isField t x = 0
      · rw [if_pos b1]; exact ⟨rfl, fun _ _ => rfl⟩
      · rw [if_neg b1, if_pos b]; exact ⟨rfl, fun _ _ => rfl⟩
  · rw [if_neg a, if_neg b1, if_neg b2]
    obtain ⟨m1, m2⟩ := wm_L hG hD hf y 4096 0 5000 w (by omega) (by omega) (fun _ _ => rfl)
    exact ⟨(wk_L hG hD hf y 16 0 4000 v0 v1 v2 v3 (by omega) (by omega)).trans m1.symm, m2⟩
