/-! class against model: what is asked -/
theorem qa_field {u : Blk} {t : Fn} (hG : GB u t) {c h e k mc mh me mk w : Fn} (hD : DR u 0 c h e k w) (hM : DR u 36 mc mh me mk w) (x y : Int32) : f_X8_field c k mc u x y = f_X9_field t w x y := by
  have hF := lF hG.1
  unfold f_X8_field f_X9_field
  rw [isF hG, eF hG.1]
  rcases iw_of (x := x) (n := nF u) (by omega) with z | ⟨z, f, hf, rfl⟩
  · rw [z, if_pos rfl, if_pos rfl]
  · have b := hG.2.2.1.2.2.1 f hf
    have d1 := (hD.1 f hf).1
    have d2 := (hD.1 f hf).2
    rw [Nat.zero_add] at d1
    rw [Nat.zero_add] at d2
    rw [z, if_neg q_10, if_neg q_10, x_18, x_30, x_42, x_54, x_66, x_0, x_36, x_12, ci (n := 18 + f) (by omega), ci (n := 30 + f) (by omega), ci (n := 42 + f) (by omega), ci (n := 54 + f) (by omega), ci (n := 66 + f) (by omega), ci (n := 36 + f) (by omega), ci (n := 12 + f) (by omega), ci (n := f) (by omega), b.1, b.2.1, b.2.2.1, b.2.2.2.1, b.2.2.2.2, d1, d2, (hM.1 f hf).1, val_eq (by omega), val_eq (by omega)]
theorem qa_register {u : Blk} {t : Fn} (hG : GB u t) {c h e k w : Fn} (hD : DR u 0 c h e k w) (x y : Int32) : f_X8_register c h u x y = f_X9_register t w x y := by
  have hR := lR hG.1
  unfold f_X8_register f_X9_register
  rw [isR hG, eR hG.1]
  rcases iw_of (x := x) (n := nR u) (by omega) with z | ⟨z, r, hr, rfl⟩
  · rw [z, if_pos rfl, if_pos rfl]
  · have b := hG.2.2.1.2.1 r hr
    have d := (hD.2.1 r hr).1
    rw [Nat.zero_add] at d
    have l : f_X1_isLocked c u (nI r) = f_X9_isLocked t w 0 (nI r) := lk_eq hG (m := 0) (by omega) hD hr
    rw [z, if_neg q_10, if_neg q_10, x_0, x_6, x_12, x_24, ci (n := r) (by omega), ci (n := 6 + r) (by omega), ci (n := 12 + r) (by omega), ci (n := 24 + r) (by omega), b.1, b.2.1, b.2.2, d, l]
theorem iw_no {x : Int32} (h0 : x ≠ 0) (h1 : x ≠ 1) (h2 : x ≠ 2) : f_X8_isWithin x 3 = 0 := by
  rcases iw_of (x := x) (n := 3) (by omega) with z | ⟨_, j, hj, rfl⟩
  · exact z
  · exfalso
    obtain rfl | rfl | rfl : j = 0 ∨ j = 1 ∨ j = 2 := by omega
    · exact h0 rfl
    · exact h1 rfl
    · exact h2 rfl
theorem qa_alias {u : Blk} {t : Fn} (hG : GB u t) (x y : Int32) : f_X8_alias u x y = f_X9_alias t x y := by
  have hA := lA hG.1
  unfold f_X8_alias f_X9_alias
  rw [f_als hG, in_eq (by omega), in_2, eA hG.1]
  rcases iw_of (x := x) (n := nA u) (by omega) with z | ⟨z, a, ha, rfl⟩
  · rw [z, if_pos rfl, if_pos rfl]
  · have b := hG.2.2.1.2.2.2 a ha
    rw [z, if_neg q_10, if_neg q_10, ci (n := a) (by omega)]
    by_cases y0 : y = 0
    · subst y0
      rw [if_pos rfl, if_neg (by decide), show (78 : Int32) + (4 : Int32) * 0 = 78 from rfl, x_78, ci (by omega), b.1]
    · rw [if_neg y0]
      by_cases y1 : y = 1
      · subst y1
        rw [if_pos rfl, if_neg (by decide), show (78 : Int32) + (4 : Int32) * 1 = 82 from rfl, x_82, ci (by omega), b.2.1]
      · rw [if_neg y1]
        by_cases y2 : y = 2
        · subst y2
          rw [if_pos rfl, if_neg (by decide), show (78 : Int32) + (4 : Int32) * 2 = 86 from rfl, x_86, ci (by omega), b.2.2]
        · rw [if_neg y2, iw_no y0 y1 y2, if_pos rfl]
theorem qa_at {u : Blk} {t : Fn} (hG : GB u t) (x : Int32) : f_X8_at u x = f_X9_at t x := by
  have hR := lR hG.1
  have hA := lA hG.1
  unfold f_X8_at f_X9_at
  rw [in_15]
  by_cases z : f_X8_isWithin x 16 = 0
  · rw [if_pos z, if_pos z]
  · rw [if_neg z, if_neg z]
    rcases goes hG x with ⟨r, hr, h1, h2, h3, h4⟩ | ⟨h1, j, hj, h2, h3, h4⟩ | ⟨h1, h2, h3, h4⟩
    · rw [h2, if_pos rfl, h1, h4]
    · rw [h2, if_neg (nI_n9 (by omega)), x_100, h4]
    · rw [h2, if_pos rfl, h1, h4]
theorem qa_peek {u : Blk} {t : Fn} (hG : GB u t) {c h e k mc mh me mk w : Fn} (hD : DR u 0 c h e k w) (hM : DR u 36 mc mh me mk w) (x y : Int32) : f_X8_peek c k mc mk u x y = f_X9_peek t w x y := by
  have l1 : f_X1_look c k u x = f_X9_peekAt t w 0 x := lk_look hG (m := 0) (by omega) hD x
  have l2 : f_X1_look mc mk u x = f_X9_peekAt t w 36 x := lk_look hG (m := 36) (by omega) hM x
  unfold f_X8_peek f_X9_peek f_X9_peek_J30
  rw [in_15, in_1, l1, l2]
theorem qa_differed {w : Fn} {d l : Int32} (h1 : w 133 = d) (h2 : w 134 = l) (x : Int32) : f_X8_differed d l x = f_X9_differed w x := by
  unfold f_X8_differed f_X9_differed
  rw [in_1]
  by_cases y0 : x = 0
  · subst y0
    rw [if_pos rfl, if_neg (by decide), show ((133 : Int32) + 0).toNatClampNeg = 133 from rfl, h1]
  · rw [if_neg y0]
    by_cases y1 : x = 1
    · subst y1
      rw [if_pos rfl, if_neg (by decide), show ((133 : Int32) + 1).toNatClampNeg = 134 from rfl, h2]
    · rw [if_neg y1]
      rcases iw_of (x := x) (n := 2) (by omega) with z | ⟨_, j, hj, rfl⟩
      · rw [show (2 : Int32) = nI 2 from rfl, z, if_pos rfl]
      · exfalso
        obtain rfl | rfl : j = 0 ∨ j = 1 := by omega
        · exact y0 rfl
        · exact y1 rfl
theorem qa_log {l : Int32} {a b v w : Fn} (h : LR (l, a, b, v) w) (x y : Int32) : f_X8_log l a b v x y = f_X9_log w x y := by
  obtain ⟨n, hn, e1, e2, hh⟩ := h
  have e1 : l = nI n := e1
  subst e1
  unfold f_X8_log f_X9_log
  rw [in_2, show (72 : Int32).toNatClampNeg = 72 from rfl, e2]
  by_cases x0 : x < 0
  · rw [if_pos x0, if_pos x0]
  · rw [if_neg x0, if_neg x0]
    by_cases z : f_X8_isWithin y 3 = 0
    · rw [if_pos z, if_pos z]
    · rw [if_neg z, if_neg z]
      obtain ⟨i, hi, rfl⟩ := nI_of x0
      by_cases c : i < n
      · have g := hh i c
        rw [if_pos (nI_lt c (by omega)), if_neg (nI_ge c (by omega)), z_3, x_73, ci (n := i) (by omega)]
        by_cases y0 : y = 0
        · subst y0
          rw [if_pos rfl, show (0 : Int32) = nI 0 from rfl, nI_add, ci (by omega)]
          exact g.1.symm
        · rw [if_neg y0]
          by_cases y1 : y = 1
          · subst y1
            rw [if_pos rfl, nI_1, ci (by omega), g.2.1]
            show (if b i = 0 then (0 : Int32) else 1) = b i
            rcases g.2.2.2 with q | q
            · have q : b i = 0 := q
              rw [q, if_pos rfl]
            · have q : b i = 1 := q
              rw [q, if_neg q_10]
          · rw [if_neg y1]
            by_cases y2 : y = 2
            · subst y2
              rw [y_2, ci (by omega)]
              exact g.2.2.1.symm
            · exact absurd (iw_no y0 y1 y2) z
      · rw [if_neg (nI_nlt (by omega) (by omega)), if_pos (nI_le (by omega) (by omega))]
theorem bf_L {u : Blk} {t : Fn} (hG : GB u t) : ∀ n i (x : Int32), i ≤ nF u → nF u < n + i → f_X0_bitsOfFields_L4 u n x (nI i) = f_X9_fieldBits_L4 t n x (nI i) := by
  have hF := lF hG.1
  intro n
  induction n with
  | zero => intro i x h1 h2; omega
  | succ n ih =>
    intro i x h1 h2
    rw [f_X0_bitsOfFields_L4, f_X9_fieldBits_L4, f_fld hG, eF hG.1, x_42, x_30, ci (by omega), ci (by omega), ci (by omega)]
    by_cases z : nF u ≤ i
    · rw [if_pos ((le_c (by omega) (by omega)).mpr z), if_pos ((le_c (by omega) (by omega)).mpr z)]
    · have z' : ¬ nI (nF u) ≤ nI i := fun q => z ((le_c (by omega) (by omega)).mp q)
      obtain ⟨l, h, hl, hh, e6, e7, e8, _⟩ := nd_fm hG.2.1 (f := i) (by omega)
      have b := hG.2.2.1.2.2.1 i (by omega)
      rw [if_neg z', if_neg z', b.2.2.1, b.2.1, e6, e7, e8, msk_cnt h hh l hl, nI_1]
      exact ih (i + 1) _ (by omega) (by omega)
theorem bm_L {u : Blk} {t : Fn} (hG : GB u t) {c h e k w : Fn} (hD : DR u 0 c h e k w) : ∀ n i (x : Int32), i ≤ nF u → nF u < n + i → f_X1_brokenFields_L4 k u n x (nI i) = f_X9_brokenMany_L4 t w n x (nI i) := by
  have hF := lF hG.1
  intro n
  induction n with
  | zero => intro i x h1 h2; omega
  | succ n ih =>
    intro i x h1 h2
    rw [f_X1_brokenFields_L4, f_X9_brokenMany_L4, f_fld hG, eF hG.1, x_12, x_54, ci (by omega), ci (by omega), ci (by omega)]
    by_cases z : nF u ≤ i
    · rw [if_pos ((le_c (by omega) (by omega)).mpr z), if_pos ((le_c (by omega) (by omega)).mpr z)]
    · have z' : ¬ nI (nF u) ≤ nI i := fun q => z ((le_c (by omega) (by omega)).mp q)
      have d := (hD.1 i (by omega)).2
      rw [Nat.zero_add] at d
      rw [if_neg z', if_neg z', (hG.2.2.1.2.2.1 i (by omega)).2.2.2.1, d, nI_1, Int32.add_zero]
      by_cases y : k i = u 5 i
      · rw [if_pos y, if_pos y]
        exact ih (i + 1) _ (by omega) (by omega)
      · rw [if_neg y, if_neg y]
        exact ih (i + 1) _ (by omega) (by omega)
theorem qa_count {u : Blk} {t : Fn} (hG : GB u t) {c h e k w : Fn} (hD : DR u 0 c h e k w) (tl jl pl : Int32) (hj : w 72 = jl) (x : Int32) : f_X8_count tl k jl pl u x = f_X9_count t w pl tl x := by
  have hF := lF hG.1
  have b1 : f_X0_bitsOfFields u = f_X9_fieldBits t := bf_L hG 4000 0 0 (by omega) (by omega)
  have b2 : f_X1_brokenFields k u = f_X9_brokenMany t w := bm_L hG hD 4000 0 0 (by omega) (by omega)
  unfold f_X8_count f_X9_count
  rw [b1, b2, f_reg hG, f_fld hG, f_als hG, show (72 : Int32).toNatClampNeg = 72 from rfl, hj, eR hG.1, eF hG.1, eA hG.1]
/-! values of a field -/
theorem ch_eq {u : Blk} {t : Fn} (hG : GB u t) {f : Nat} (hf : f < nF u) (v : Int32) : f_X0_canHold u (nI f) v = f_X9_in v 0 (f_X9_most t (nI f)) := by
  have hF := lF hG.1
  unfold f_X0_canHold f_X9_in f_X0_greatestValue
  rw [eF hG.1, iw_in hf (by omega), if_neg q_10, most_eq hG hf, ci (by omega)]
theorem ch_of {u : Blk} {t : Fn} (hG : GB u t) (x v : Int32) : f_X0_canHold u x v = 0 ∧ (f_X9_isField t x = 0 ∨ f_X9_in v 0 (f_X9_most t x) = 0) ∨ (f_X0_canHold u x v ≠ 0 ∧ f_X9_isField t x ≠ 0 ∧ f_X9_in v 0 (f_X9_most t x) ≠ 0 ∧ ∃ f, f < nF u ∧ x = nI f ∧ ∃ l h n : Nat, l < h + 1 ∧ h < 8 ∧ u 6 f = nI l ∧ u 8 f = msk l h ∧ n < 2 ^ (h - l + 1) ∧ v = nI n) := by
  have hF := lF hG.1
  rw [isF hG, eF hG.1]
  rcases iw_of (x := x) (n := nF u) (by omega) with z | ⟨z, f, hf, rfl⟩
  · left
    refine ⟨?_, Or.inl z⟩
    unfold f_X0_canHold
    rw [eF hG.1, z, if_pos rfl]
  · have e := ch_eq hG hf v
    rw [e]
    by_cases c : f_X9_in v 0 (f_X9_most t (nI f)) = 0
    · exact Or.inl ⟨c, Or.inr c⟩
    · refine Or.inr ⟨c, by rw [z]; exact q_10, c, f, hf, rfl, ?_⟩
      obtain ⟨l, h, hl, hh, e6, e7, e8, _⟩ := nd_fm hG.2.1 hf
      have i := rIN c
      rw [most_eq hG hf, e6, e8, msk_top h hh l hl] at i
      have p8 : 2 ^ (h - l + 1) ≤ 2 ^ 8 := Nat.pow_le_pow_right (by omega) (by omega)
      have p0 : 0 < 2 ^ (h - l + 1) := Nat.pow_pos (by omega)
      rw [ti_c (by omega), show (0 : Int32).toInt = 0 from rfl] at i
      refine ⟨l, h, v.toNatClampNeg, hl, hh, e6, e8, ?_, nI_ti i.1⟩
      rw [ixn]; omega
theorem pv_eq {u : Blk} {c : Fn} {f l h n : Nat} (hf : f < 100000) (hl : l < h + 1) (hh : h < 8) (e6 : u 6 f = nI l) (e8 : u 8 f = msk l h) (hn : n < 2 ^ (h - l + 1)) : ∃ b : Int32, f_X1_putValue c u (nI f) (nI n) = f_X1_putBits c u (nI f) b ∧ nI n = (b &&& u 8 f) >>> (u 6 f &&& 31) := by
  refine ⟨nI n <<< (u 6 f &&& 31), ?_, ?_⟩
  · unfold f_X1_putValue
    rw [ci hf]
  · rw [e6, e8, msk_put h hh l hl n hn]
/-! what a write would do -/
theorem tw_dr {u : Blk} {t : Fn} (hG : GB u t) {c h e k w : Fn} (hD : DR u 0 c h e k w) (a v : Int32) :
    DR u 135 (f_X1_write c h e k u a v).1 (f_X1_write c h e k u a v).2.1 (f_X1_write c h e k u a v).2.2 k (f_X9_tryWrite t w a v) ∧ ∀ j, j < 135 → f_X9_tryWrite t w a v j = w j := by
  have d1 : DR u 135 c h e k (f_X9_copyMachine w (nI 0) (nI 135)) := dr_cong hG.1 hG.2.1 hD (fun r _ => ⟨rfl, rfl, rfl⟩) (fun _ _ => rfl) (fun j hj => by rw [Nat.zero_add]; exact cmc_eq w hj)
  exact ⟨wr_eq hG (m := 135) (by omega) d1 a v, fun j hj => (frW hG (m := 135) (by omega) _ a v (by omega)).trans (frC w (a := 0) (b := 135) (by omega) (by omega) (by omega))⟩
theorem tw_vl {u : Blk} {t : Fn} (hG : GB u t) {c h e k w : Fn} (hD : DR u 0 c h e k w) (a v : Int32) {f : Nat} (hf : f < nF u) : f_X9_tryWrite t w a v (135 + f) = vl u (f_X1_write c h e k u a v).1 f := ((tw_dr hG hD a v).1.1 f hf).1
theorem qa_touched {u : Blk} {t : Fn} (hG : GB u t) {c h e k w : Fn} (hD : DR u 0 c h e k w) (v0 v1 v2 v3 : Fn) (x y : Int32) : (f_X8_touched c h e k v0 v1 v2 v3 u x y).1 = (f_X9_touched t w x y).1 ∧ ∀ j, j < 135 → (f_X9_touched t w x y).2 j = w j := by
  have hF := lF hG.1
  unfold f_X8_touched f_X9_touched f_X8_touched_C27
  rw [in_15, in_255]
  by_cases z : f_X8_isWithin x 16 = 0
  · rw [if_pos z, if_pos z]; exact ⟨rfl, fun _ _ => rfl⟩
  · rw [if_neg z, if_neg z]
    by_cases z2 : f_X8_isWithin y 256 = 0
    · rw [if_pos z2, if_pos z2]; exact ⟨rfl, fun _ _ => rfl⟩
    · rw [if_neg z2, if_neg z2]
      refine ⟨?_, (tw_dr hG hD x y).2⟩
      exact cb_eq hG (W := f_X9_tryWrite t w x y) hD v0 v1 v2 v3 x y (m1 := 0) (m2 := 135) (by omega) (by omega) (fun f hf => by
        have p1 := ((wr_eq hG (m := 0) (by omega) hD x y).1 f hf).1
        rw [Nat.zero_add] at p1
        rw [Nat.zero_add, tw_vl hG hD x y hf, (tw_dr hG hD x y).2 f (by omega), p1]
        exact eq_comm)
