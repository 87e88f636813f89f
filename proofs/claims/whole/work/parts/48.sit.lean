/-! class against model: resets, situations -/
theorem zr_L {u : Blk} : ∀ n i (c h e : Fn), i ≤ 6 → 6 < n + i → (∀ r, r < i → c r = 0 ∧ h r = -9 ∧ e r = 0) → ∃ c1 h1 e1 : Fn, f_X1_restart_L2 u n (nI i) c h e = f_X1_restart_L38 h1 e1 u 4000 (nI 0) c1 ∧ ∀ r, r < 6 → c1 r = 0 ∧ h1 r = -9 ∧ e1 r = 0 := by
  intro n
  induction n with
  | zero => intro i c h e h1 h2; omega
  | succ n ih =>
    intro i c h e h1 h2 hz
    rw [f_X1_restart_L2, ci (by omega)]
    by_cases z : 6 ≤ i
    · rw [if_pos (show (6 : Int32) ≤ nI i from (le_c (a := 6) (by omega) (by omega)).mpr z)]
      exact ⟨c, h, e, rfl, fun r hr => hz r (by omega)⟩
    · rw [if_neg (show ¬ (6 : Int32) ≤ nI i from fun q => z ((le_c (a := 6) (by omega) (by omega)).mp q)), nI_1, nb0]
      refine ih (i + 1) _ _ _ (by omega) (by omega) (fun r hr => ?_)
      by_cases y : r = i
      · rw [y, upd_s, upd_s, upd_s]; exact ⟨rfl, rfl, rfl⟩
      · rw [upd_o y, upd_o y, upd_o y]; exact hz r (by omega)
theorem iv_L {u : Blk} (hI : BlkInv u) (hW : BW u) {h e : Fn} : ∀ n i (c : Fn), i ≤ nF u → nF u < n + i → (∀ g, g < i → vl u c g = u 9 g) → (∀ r M, r < nR u → (∀ f, f < nF u → ow u f = r → u 8 f &&& M = 0) → c r &&& M = 0) →
    (f_X1_restart_L38 h e u n (nI i) c).2.1 = h ∧ (f_X1_restart_L38 h e u n (nI i) c).2.2 = e ∧ (∀ g, g < nF u → vl u (f_X1_restart_L38 h e u n (nI i) c).1 g = u 9 g) ∧ (∀ r M, r < nR u → (∀ f, f < nF u → ow u f = r → u 8 f &&& M = 0) → (f_X1_restart_L38 h e u n (nI i) c).1 r &&& M = 0) := by
  have hF := lF hI
  have hR := lR hI
  intro n
  induction n with
  | zero => intro i c h1 h2; omega
  | succ n ih =>
    intro i c h1 h2 hv hc
    rw [f_X1_restart_L38, eF hI, ci (n := i) (by omega)]
    by_cases z : nF u ≤ i
    · rw [if_pos ((le_c (by omega) (by omega)).mpr z)]
      exact ⟨rfl, rfl, fun g hg => hv g (by omega), hc⟩
    · have hi : i < nF u := by omega
      rw [if_neg (fun q => z ((le_c (by omega) (by omega)).mp q)), nI_1]
      unfold f_X1_putValue
      rw [ci (n := i) (by omega)]
      refine ih (i + 1) _ (by omega) (by omega) (fun g hg => ?_) (fun r M hr hM => cov_put hi hF (hc r M hr hM) (hM i hi))
      rw [vl_put hW hi hF (by omega)]
      by_cases y : g = i
      · rw [if_pos y, y]
        obtain ⟨l, hh, hl, hh8, e6, e7, e8, v, hv8, e9⟩ := nd_fm hW hi
        rw [e6, e8, e9, msk_put hh hh8 l hl v hv8]
      · rw [if_neg y]; exact hv g (by omega)
theorem rz_L (m : Nat) (hm : m ≤ 135) : ∀ n i (w : Fn), i ≤ 6 → 6 < n + i → (∀ r, r < i → w (m + 24 + r) = -9 ∧ w (m + 30 + r) = 0) →
    (∀ r, r < 6 → f_X9_reset_L45 (nI m) n (nI i) w (m + 24 + r) = -9 ∧ f_X9_reset_L45 (nI m) n (nI i) w (m + 30 + r) = 0) ∧ (∀ f, f < 24 → f_X9_reset_L45 (nI m) n (nI i) w (m + f) = w (m + f)) := by
  intro n
  induction n with
  | zero => intro i w h1 h2; omega
  | succ n ih =>
    intro i w h1 h2 hz
    rw [f_X9_reset_L45, y_24, y_30, nI_add, nI_add, ci (by omega), ci (by omega)]
    by_cases z : 6 ≤ i
    · rw [if_pos (show (6 : Int32) ≤ nI i from (le_c (a := 6) (by omega) (by omega)).mpr z)]
      exact ⟨fun r hr => hz r (by omega), fun _ _ => rfl⟩
    · rw [if_neg (show ¬ (6 : Int32) ≤ nI i from fun q => z ((le_c (a := 6) (by omega) (by omega)).mp q)), nI_1]
      have := ih (i + 1) (upd (upd w (m + 24 + i) (-9)) (m + 30 + i) 0) (by omega) (by omega) (fun r hr => by
        by_cases y : r = i
        · rw [y, upd_s, upd_o (by omega), upd_s]; exact ⟨rfl, rfl⟩
        · rw [upd_o (by omega), upd_o (by omega), upd_o (by omega), upd_o (by omega)]; exact hz r (by omega))
      refine ⟨this.1, fun f hf => (this.2 f hf).trans ?_⟩
      rw [upd_o (by omega), upd_o (by omega)]
theorem rw_L {u : Blk} {t : Fn} (hG : GB u t) (m : Nat) (hm : m ≤ 135) : ∀ n i (w : Fn), i ≤ 12 → 12 < n + i → (∀ f, f < i → f < nF u → w (m + f) = u 9 f) →
    (∀ f, f < nF u → f_X9_reset_L2 t (nI m) n (nI i) w (m + f) = u 9 f) ∧ (∀ f, f < 12 → f_X9_reset_L2 t (nI m) n (nI i) w (m + 12 + f) = w (m + 12 + f)) ∧ (∀ r, r < 6 → f_X9_reset_L2 t (nI m) n (nI i) w (m + 24 + r) = -9 ∧ f_X9_reset_L2 t (nI m) n (nI i) w (m + 30 + r) = 0) := by
  have hF := lF hG.1
  intro n
  induction n with
  | zero => intro i w h1 h2; omega
  | succ n ih =>
    intro i w h1 h2 hz
    rw [f_X9_reset_L2, nI_add, x_66, f_fld hG, ci (by omega), ci (by omega)]
    by_cases z : 12 ≤ i
    · rw [if_pos (show (12 : Int32) ≤ nI i from (le_c (a := 12) (by omega) (by omega)).mpr z)]
      have h0 := rz_L m hm 4000 0 w (by omega) (by omega) (fun r hr => by omega)
      exact ⟨fun f hf => (h0.2 f (by omega)).trans (hz f (by omega) hf), fun f hf => by rw [Nat.add_assoc]; exact h0.2 (12 + f) (by omega), h0.1⟩
    · rw [if_neg (show ¬ (12 : Int32) ≤ nI i from fun q => z ((le_c (a := 12) (by omega) (by omega)).mp q)), nI_1]
      by_cases y : nF u ≤ i
      · rw [if_pos ((le_c (by omega) (by omega)).mpr y)]
        have := ih (i + 1) (upd w (m + i) 0) (by omega) (by omega) (fun f h1 h2 => by rw [upd_o (by omega)]; exact hz f (by omega) h2)
        exact ⟨this.1, fun f hf => (this.2.1 f hf).trans (upd_o (by omega)), this.2.2⟩
      · rw [if_neg (fun q => y ((le_c (by omega) (by omega)).mp q)), (hG.2.2.1.2.2.1 i (by omega)).2.2.2.2]
        have := ih (i + 1) (upd w (m + i) (u 9 i)) (by omega) (by omega) (fun f h1 h2 => by
          by_cases x : f = i
          · rw [x, upd_s]
          · rw [upd_o (by omega)]; exact hz f (by omega) h2)
        exact ⟨this.1, fun f hf => (this.2.1 f hf).trans (upd_o (by omega)), this.2.2⟩
theorem rs_eq {u : Blk} {t : Fn} (hG : GB u t) {m : Nat} (hm : m ≤ 135) {k w : Fn} (c h e : Fn) (hk : ∀ f, f < nF u → w (m + 12 + f) = k f) :
    DR u m (f_X1_restart c h e u).1 (f_X1_restart c h e u).2.1 (f_X1_restart c h e u).2.2 k (f_X9_reset t w (nI m)) := by
  have hF := lF hG.1
  have hR := lR hG.1
  obtain ⟨c1, h1, e1, h0, hz⟩ := zr_L (u := u) 4000 0 c h e (by omega) (by omega) (fun r hr => by omega)
  have h00 : f_X1_restart c h e u = f_X1_restart_L38 h1 e1 u 4000 (nI 0) c1 := h0
  rw [h00]
  obtain ⟨g1, g2, g3, g4⟩ := iv_L hG.1 hG.2.1 (h := h1) (e := e1) 4000 0 c1 (by omega) (by omega) (fun g hg => by omega) (fun r M hr hM => by rw [(hz r (by omega)).1, Int32.zero_and])
  have a := rw_L hG m hm 4000 0 w (by omega) (by omega) (fun f hf => by omega)
  refine ⟨fun f hf => ⟨?_, ?_⟩, fun r hr => ⟨?_, ?_, ?_⟩, g4⟩
  · rw [g3 f hf]; exact a.1 f hf
  · exact (a.2.1 f (by omega)).trans (hk f hf)
  · rw [g1, (hz r (by omega)).2.1]; exact (a.2.2 r (by omega)).1
  · rw [g2, (hz r (by omega)).2.2]; exact (a.2.2 r (by omega)).2
  · rw [g2, (hz r (by omega)).2.2]; exact Or.inl rfl
theorem rs_kd {u : Blk} {t : Fn} (hG : GB u t) {m : Nat} (hm : m ≤ 135) (w : Fn) {f : Nat} (hf : f < 12) : f_X9_reset t w (nI m) (m + 12 + f) = w (m + 12 + f) := (rw_L hG m hm 4000 0 w (by omega) (by omega) (fun f hf => by omega)).2.1 f hf
theorem rp_L {u : Blk} {t : Fn} (hG : GB u t) (m : Nat) (hm : m ≤ 135) : ∀ n i (w : Fn), i ≤ 12 → 12 < n + i → (∀ f, f < i → f < nF u → w (m + 12 + f) = u 5 f) → ∀ f, f < nF u → f_X9_repair_L2 t (nI m) n (nI i) w (m + 12 + f) = u 5 f := by
  have hF := lF hG.1
  intro n
  induction n with
  | zero => intro i w h1 h2; omega
  | succ n ih =>
    intro i w h1 h2 hz
    rw [f_X9_repair_L2, y_12, nI_add, x_54, f_fld hG, ci (by omega), ci (by omega)]
    by_cases z : 12 ≤ i
    · rw [if_pos (show (12 : Int32) ≤ nI i from (le_c (a := 12) (by omega) (by omega)).mpr z)]
      exact fun f hf => hz f (by omega) hf
    · rw [if_neg (show ¬ (12 : Int32) ≤ nI i from fun q => z ((le_c (a := 12) (by omega) (by omega)).mp q)), nI_1]
      by_cases y : nF u ≤ i
      · rw [if_pos ((le_c (by omega) (by omega)).mpr y)]
        exact ih (i + 1) _ (by omega) (by omega) (fun f h1 h2 => by rw [upd_o (by omega)]; exact hz f (by omega) h2)
      · rw [if_neg (fun q => y ((le_c (by omega) (by omega)).mp q)), (hG.2.2.1.2.2.1 i (by omega)).2.2.2.1]
        exact ih (i + 1) _ (by omega) (by omega) (fun f h1 h2 => by
          by_cases x : f = i
          · rw [x, upd_s]
          · rw [upd_o (by omega)]; exact hz f (by omega) h2)
theorem rp_eq {u : Blk} {t : Fn} (hG : GB u t) {m : Nat} (hm : m ≤ 135) (w : Fn) {f : Nat} (hf : f < nF u) : f_X9_repair t w (nI m) (m + 12 + f) = u 5 f := by
  have hF := lF hG.1
  exact rp_L hG m hm 4000 0 w (by omega) (by omega) (fun f hf => by omega) f hf
theorem md_eq {u : Blk} {k : Fn} {f : Nat} (hf : f < 12) : f_X1_mend k u f = u 5 f := by
  unfold f_X1_mend va_cpy
  rw [if_pos (by omega)]
  congr 1
  omega
/-! copies -/
theorem cf_L {k c1 h1 e1 k1 : Fn} (he : ∀ r, r < 6 → True) : ∀ n i (c h e : Fn), i ≤ 6 → 6 < n + i → (∀ r, r < i → c r = c1 r ∧ h r = h1 r ∧ e r = vp_nar .boolean (e1 r)) →
    (∀ r, r < 6 → (f_X1_copyFrom_L2 k c1 h1 e1 k1 n (nI i) c h e).1 r = c1 r ∧ (f_X1_copyFrom_L2 k c1 h1 e1 k1 n (nI i) c h e).2.1 r = h1 r ∧ (f_X1_copyFrom_L2 k c1 h1 e1 k1 n (nI i) c h e).2.2.1 r = vp_nar .boolean (e1 r)) ∧ (f_X1_copyFrom_L2 k c1 h1 e1 k1 n (nI i) c h e).2.2.2 = va_cpy k1 k 0 0 12 := by
  intro n
  induction n with
  | zero => intro i c h e h1 h2; omega
  | succ n ih =>
    intro i c h e h1 h2 hz
    rw [f_X1_copyFrom_L2, ci (by omega)]
    by_cases z : 6 ≤ i
    · rw [if_pos (show (6 : Int32) ≤ nI i from (le_c (a := 6) (by omega) (by omega)).mpr z)]
      exact ⟨fun r hr => hz r (by omega), rfl⟩
    · rw [if_neg (show ¬ (6 : Int32) ≤ nI i from fun q => z ((le_c (a := 6) (by omega) (by omega)).mp q)), nI_1]
      refine ih (i + 1) _ _ _ (by omega) (by omega) (fun r hr => ?_)
      by_cases y : r = i
      · rw [y, upd_s, upd_s, upd_s]; exact ⟨rfl, rfl, rfl⟩
      · rw [upd_o y, upd_o y, upd_o y]; exact hz r (by omega)
theorem vn01 {x : Int32} (h : x = 0 ∨ x = 1) : vp_nar .boolean x = x := by rcases h with rfl | rfl <;> rfl
/-- a machine after copyFrom -/
theorem dr_copy {u : Blk} {t : Fn} (hG : GB u t) {m m' : Nat} {c1 h1 e1 k1 w w' : Fn} (c h e k : Fn) (hD : DR u m c1 h1 e1 k1 w) (hw : ∀ j, j < 36 → w' (m' + j) = w (m + j)) :
    DR u m' (f_X1_copyFrom c h e k c1 h1 e1 k1).1 (f_X1_copyFrom c h e k c1 h1 e1 k1).2.1 (f_X1_copyFrom c h e k c1 h1 e1 k1).2.2.1 (f_X1_copyFrom c h e k c1 h1 e1 k1).2.2.2 w' := by
  have hF := lF hG.1
  have hR := lR hG.1
  obtain ⟨a, b⟩ := cf_L (k := k) (c1 := c1) (h1 := h1) (e1 := e1) (k1 := k1) (fun _ _ => trivial) 4000 0 c h e (by omega) (by omega) (fun r hr => by omega)
  refine dr_cong hG.1 hG.2.1 hD (fun r hr => ?_) (fun f hf => ?_) hw
  · obtain ⟨a1, a2, a3⟩ := a r (by omega)
    exact ⟨a1, a2, a3.trans (vn01 (hD.2.1 r hr).2.2)⟩
  · show (f_X1_copyFrom_L2 k c1 h1 e1 k1 4000 (nI 0) c h e).2.2.2 f = _
    rw [b]
    unfold va_cpy
    rw [if_pos (by omega)]
    congr 1
    omega
