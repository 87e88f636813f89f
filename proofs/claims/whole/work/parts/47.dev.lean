/-! class against model: a machine's reads and writes -/
theorem most_eq {u : Blk} {t : Fn} (hG : GB u t) {f : Nat} (hf : f < nF u) : f_X9_most t (nI f) = u 8 f >>> (u 6 f &&& 31) := by
  have hF := lF hG.1
  obtain ⟨l, h, hl, hh, e6, e7, e8, _⟩ := nd_fm hG.2.1 hf
  unfold f_X9_most
  rw [x_42, x_30, ci (by omega), ci (by omega), (hG.2.2.1.2.2.1 f hf).2.2.1, (hG.2.2.1.2.2.1 f hf).2.1, e6, e7, e8, msk_most h hh l hl]
theorem sh_m1 {u : Blk} (hW : BW u) {f : Nat} (hf : f < nF u) : (-1 : Int32) >>> (u 6 f &&& 31) = (-1 : Int32) := by
  obtain ⟨l, h, hl, hh, e6, e7, e8, _⟩ := nd_fm hW hf
  rw [e6, q_m1s l (by omega)]
theorem bk_eq {u : Blk} (hW : BW u) (c : Fn) {f : Nat} (hf : f < nF u) : vl u c f <<< (u 6 f &&& 31) = c (ow u f) &&& u 8 f := by
  obtain ⟨l, h, hl, hh, e6, e7, e8, _⟩ := nd_fm hW hf
  unfold vl
  rw [e6, e8, q_back _ hh hl]
theorem sh_L {u : Blk} {t : Fn} (hG : GB u t) {m : Nat} {c h e k w : Fn} (hm : m ≤ 135) (hD : DR u m c h e k w) {r : Nat} (hr : r < nR u) : ∀ n i (s T U : Int32), i ≤ nF u → nF u < n + i → T = s &&& U → s &&& c r = s →
    (∀ g, i ≤ g → g < nF u → ow u g = r → U &&& u 8 g = 0) → (∀ g, i ≤ g → g < nF u → ow u g = r → s &&& u 8 g = c r &&& u 8 g) → (∀ g, g < i → ow u g = r → u 8 g &&& (U ^^^ (-1 : Int32)) = 0) →
    f_X1_shown_L10 k u (nI r) n s (nI i) = f_X9_tellsOf_L5 t w (nI m) (nI r) n T (nI i) := by
  have hF := lF hG.1
  have hR := lR hG.1
  intro n
  induction n with
  | zero => intro i s T U h1 h2; omega
  | succ n ih =>
    intro i s T U h1 h2 hb hc hd he hf
    rw [f_X1_shown_L10, f_X9_tellsOf_L5, f_fld hG, eF hG.1, x_18, ci (by omega), ci (by omega)]
    by_cases z : nF u ≤ i
    · rw [if_pos ((le_c (by omega) (by omega)).mpr z), if_pos ((le_c (by omega) (by omega)).mpr z), hb]
      have hC : c r &&& (U ^^^ (-1 : Int32)) = 0 := hD.2.2 r _ hr (fun g hg ho => hf g (by omega) ho)
      exact (q_split s U (q_sub _ _ _ hc hC)).symm
    · have z' : ¬ nI (nF u) ≤ nI i := fun q => z ((le_c (by omega) (by omega)).mp q)
      have hi : i < nF u := by omega
      have hO := lO hG.1 i
      rw [if_neg z', if_neg z', (hG.2.2.1.2.2.1 i hi).1, eO hG.1]
      by_cases o : ow u i = r
      · rw [if_pos (congrArg nI o), if_pos (congrArg nI o), y_12, nI_add, ci (by omega), (hD.1 i hi).2]
        have dis : ∀ g, i + 1 ≤ g → g < nF u → ow u g = r → u 8 i &&& u 8 g = 0 := fun g g1 g2 g3 => hG.2.1.2.1 i g hi g2 (by omega) (by rw [o, g3])
        by_cases kk : k i = 2
        · rw [if_pos kk, if_pos kk, nI_1]
          refine ih (i + 1) _ _ (U ||| u 8 i) (by omega) (by omega) (q_tellW s U _ T hb (hd i (by omega) hi o)) (q_sneg _ _ _ hc) (fun g g1 g2 g3 => q_andor _ _ _ (hd g (by omega) g2 g3) (dis g g1 g2 g3)) (fun g g1 g2 g3 => by rw [q_andn _ _ _ (dis g g1 g2 g3)]; exact he g (by omega) g2 g3) (fun g g1 g3 => ?_)
          by_cases y : g = i
          · subst y; exact q_notor _ _
          · exact q_notor2 _ _ _ (hf g (by omega) g3)
        · rw [if_neg kk, if_neg kk, nI_1, nI_add, ci (by omega), x_30, ci (by omega), (hD.1 i hi).1, (hG.2.2.1.2.2.1 i hi).2.1, bk_eq hG.2.1 c hi, o, ← he i (by omega) hi o]
          refine ih (i + 1) _ _ (U ||| u 8 i) (by omega) (by omega) (q_tellN s U _ T hb) hc (fun g g1 g2 g3 => q_andor _ _ _ (hd g (by omega) g2 g3) (dis g g1 g2 g3)) (fun g g1 g2 g3 => he g (by omega) g2 g3) (fun g g1 g3 => ?_)
          by_cases y : g = i
          · subst y; exact q_notor _ _
          · exact q_notor2 _ _ _ (hf g (by omega) g3)
      · have o' : ¬ nI (ow u i) = nI r := fun q => o ((eq_c (by omega) (by omega)).mp q)
        rw [if_neg o', if_neg o', nI_1]
        exact ih (i + 1) s T U (by omega) (by omega) hb hc (fun g g1 g2 g3 => hd g (by omega) g2 g3) (fun g g1 g2 g3 => he g (by omega) g2 g3) (fun g g1 g3 => by
          by_cases y : g = i
          · subst y; exact absurd g3 o
          · exact hf g (by omega) g3)
theorem sh_eq {u : Blk} {t : Fn} (hG : GB u t) {m : Nat} {c h e k w : Fn} (hm : m ≤ 135) (hD : DR u m c h e k w) {r : Nat} (hr : r < nR u) : f_X1_shown c k u (nI r) = f_X9_tellsOf t w (nI m) (nI r) := by
  have hF := lF hG.1
  have hR := lR hG.1
  unfold f_X1_shown f_X9_tellsOf
  rw [ci (by omega)]
  exact sh_L hG hm hD hr 4000 0 (c r) 0 0 (by omega) (by omega) Int32.and_zero.symm Int32.and_self (fun g _ _ _ => Int32.zero_and) (fun g _ _ _ => rfl) (fun g hg => by omega)
theorem lk_look {u : Blk} {t : Fn} (hG : GB u t) {m : Nat} {c h e k w : Fn} (hm : m ≤ 135) (hD : DR u m c h e k w) (a : Int32) : f_X1_look c k u a = f_X9_peekAt t w (nI m) a := by
  have hR := lR hG.1
  unfold f_X1_look f_X9_peekAt
  rcases goes2 hG a with ⟨h1, h2, h3⟩ | ⟨r, hr, h1, h2, h3⟩
  · rw [h1, h2, if_pos rfl, if_pos rfl]
  · rw [h1, h3, if_neg (nI_n9 (by omega)), if_neg h2, sh_eq hG hm hD hr]
theorem ow9 {u : Blk} (h : BlkInv u) (i : Nat) : ¬ u 4 i = -9 := by
  have := lO h i
  rw [eO h]; exact nI_n9 (by omega)
theorem rd_none {u : Blk} {k : Fn} (hI : BlkInv u) (v : Int32) : ∀ n i (c : Fn), nF u < n + i → i ≤ nF u → f_X1_read_L17 k u v (-9) n (nI i) c = (v, c) := by
  have hF := lF hI
  intro n
  induction n with
  | zero => intro i c h1 h2; omega
  | succ n ih =>
    intro i c h1 h2
    rw [f_X1_read_L17, eF hI, ci (by omega)]
    by_cases z : nF u ≤ i
    · rw [if_pos ((le_c (by omega) (by omega)).mpr z)]
    · rw [if_neg (fun q => z ((le_c (by omega) (by omega)).mp q)), if_neg (ow9 hI i), nI_1]
      exact ih (i + 1) c (by omega) (by omega)
theorem rd_L {u : Blk} {t : Fn} (hG : GB u t) {m : Nat} {h e k : Fn} (hm : m ≤ 135) {r : Nat} (hr : r < nR u) (v : Int32) : ∀ n i (c w : Fn), i ≤ nF u → nF u < n + i → DR u m c h e k w →
    (f_X1_read_L17 k u v (nI r) n (nI i) c).1 = v ∧ DR u m (f_X1_read_L17 k u v (nI r) n (nI i) c).2 h e k (f_X9_clearRead_L2 t (nI m) (nI r) n (nI i) w) := by
  have hF := lF hG.1
  have hR := lR hG.1
  intro n
  induction n with
  | zero => intro i c w h1 h2; omega
  | succ n ih =>
    intro i c w h1 h2 hD
    rw [f_X1_read_L17, f_X9_clearRead_L2, f_fld hG, eF hG.1, x_18, ci (by omega), ci (by omega)]
    by_cases z : nF u ≤ i
    · rw [if_pos ((le_c (by omega) (by omega)).mpr z), if_pos ((le_c (by omega) (by omega)).mpr z)]
      exact ⟨rfl, hD⟩
    · have z' : ¬ nI (nF u) ≤ nI i := fun q => z ((le_c (by omega) (by omega)).mp q)
      have hi : i < nF u := by omega
      have hO := lO hG.1 i
      have n100 : ¬ (100 : Int32) ≤ nI r := fun q => by have := (le_c (a := 100) (b := r) (by omega) (by omega)).mp q; omega
      rw [if_neg z', if_neg z', if_neg n100, (hG.2.2.1.2.2.1 i hi).1, eO hG.1]
      by_cases o : ow u i = r
      · rw [if_pos (congrArg nI o), if_pos (congrArg nI o), y_12, nI_add, ci (by omega), (hD.1 i hi).2]
        by_cases kk : k i = 6
        · rw [if_pos kk, if_pos kk, nI_1, nI_add, ci (by omega)]
          exact ih (i + 1) _ _ (by omega) (by omega) (dr_put hG hD hi 0 0 (by rw [Int32.zero_and, Int32.zero_shiftRight]))
        · rw [if_neg kk, if_neg kk, nI_1]
          exact ih (i + 1) _ _ (by omega) (by omega) hD
      · have o' : ¬ nI (ow u i) = nI r := fun q => o ((eq_c (by omega) (by omega)).mp q)
        rw [if_neg o', if_neg o', nI_1]
        exact ih (i + 1) _ _ (by omega) (by omega) hD
theorem cl_alias {u : Blk} {t : Fn} (hG : GB u t) {w : Fn} {m : Int32} {j : Nat} (hj : j < 100) : f_X9_clearRead t w m (nI (100 + j)) = w := by
  unfold f_X9_clearRead
  rw [f_X9_clearRead_L2]
  split
  · rfl
  · rw [if_pos (show (100 : Int32) ≤ nI (100 + j) from (le_c (a := 100) (by omega) (by omega)).mpr (by omega))]
theorem rd_eq {u : Blk} {t : Fn} (hG : GB u t) {m : Nat} {c h e k w : Fn} (hm : m ≤ 135) (hD : DR u m c h e k w) (a : Int32) : (f_X1_read c k u a).1 = (f_X9_readOf t w (nI m) a).1 ∧ DR u m (f_X1_read c k u a).2 h e k (f_X9_readOf t w (nI m) a).2 := by
  have hF := lF hG.1
  have hR := lR hG.1
  have hA := lA hG.1
  have hl := lk_look hG hm hD a
  unfold f_X1_read f_X9_readOf
  rcases goes hG a with ⟨r, hr, h1, h2, h3, h4⟩ | ⟨h1, j, hj, h2, h3, h4⟩ | ⟨h1, h2, h3, h4⟩
  · rw [h1, h4, if_neg (nI_n9 (by omega)), hl]
    exact rd_L hG hm hr _ 4000 0 c w (by omega) (by omega) hD
  · rw [h1, h4, if_neg (nI_n9 (by omega)), hl, cl_alias hG (by omega), show (0 : Int32) = nI 0 from rfl, rd_none hG.1 _ 4000 0 c (by omega) (by omega)]
    exact ⟨rfl, hD⟩
  · rw [h1, h4, if_pos rfl, hl, show (0 : Int32) = nI 0 from rfl, rd_none hG.1 _ 4000 0 c (by omega) (by omega)]
    exact ⟨rfl, hD⟩
/-! writes -/
theorem by_eq (c e : Fn) (r : Nat) (hr : r < 1000) (v kd M s op : Int32) (h1 : (-1 : Int32) >>> s = (-1 : Int32)) (ho : op = 0 ↔ ¬ e r = 0) : ((f_X1_bitsAfter c e (nI r) v kd) &&& M) >>> s = f_X9_by kd ((c r &&& M) >>> s) ((v &&& M) >>> s) op := by
  unfold f_X1_bitsAfter f_X9_by
  rw [ci (by omega)]
  by_cases k0 : kd = 0; · rw [if_pos k0, if_pos k0]
  rw [if_neg k0, if_neg k0]
  by_cases k1 : kd = 1; · rw [if_pos k1, if_pos k1]
  rw [if_neg k1, if_neg k1]
  by_cases k2 : kd = 2; · rw [if_pos k2, if_pos k2]
  rw [if_neg k2, if_neg k2]
  by_cases k3 : kd = 3; · rw [if_pos k3, if_pos k3, q_clr _ _ _ _ h1]
  rw [if_neg k3, if_neg k3]
  by_cases k4 : kd = 4; · rw [if_pos k4, if_pos k4, q_set]
  rw [if_neg k4, if_neg k4]
  by_cases k5 : kd = 5; · rw [if_pos k5, if_pos k5, q_tog]
  rw [if_neg k5, if_neg k5]
  by_cases k6 : kd = 6; · rw [if_pos k6, if_pos k6]
  rw [if_neg k6, if_neg k6]
  by_cases k7 : kd = 7
  · rw [if_pos k7, if_pos k7]
    by_cases z : e r = 0
    · rw [if_pos z, if_neg (fun q => (ho.mp q) z)]
    · rw [if_neg z, if_pos (ho.mpr z)]
  · rw [if_neg k7, if_neg k7]
theorem upd_id {w : Fn} {i : Nat} : upd w i (w i) = w := by
  funext j
  by_cases z : j = i
  · subst z; rw [upd_s]
  · rw [upd_o z]
theorem nb1 : vp_nar .boolean (1 : Int32) = 1 := rfl
theorem nb0 : vp_nar .boolean (0 : Int32) = 0 := rfl
theorem li_L {u : Blk} {t : Fn} (hG : GB u t) {m : Nat} {h e k : Fn} (hm : m ≤ 135) {r : Nat} (hr : r < nR u) (v : Int32) : ∀ n i (c w : Fn), i ≤ nF u → nF u < n + i → DR u m c h e k w →
    DR u m (f_X1_letIn_L3 e k u (nI r) v n (nI i) c).1 h (f_X1_letIn_L3 e k u (nI r) v n (nI i) c).2 k (f_X9_letIn_L3 t (nI m) (nI r) v (-9) n (nI i) w) := by
  have hF := lF hG.1
  have hR := lR hG.1
  intro n
  induction n with
  | zero => intro i c w h1 h2; omega
  | succ n ih =>
    intro i c w h1 h2 hD
    rw [f_X1_letIn_L3, f_X9_letIn_L3, f_fld hG, eF hG.1, x_18, ci (n := i) (by omega), ci (n := 18 + i) (by omega)]
    by_cases z : nF u ≤ i
    · rw [if_pos ((le_c (by omega) (by omega)).mpr z), if_pos ((le_c (by omega) (by omega)).mpr z), if_pos rfl, y_30, nI_add, ci (by omega), ci (by omega), nb1]
      exact dr_ent hG hD hr 1 (Or.inr rfl)
    · have z' : ¬ nI (nF u) ≤ nI i := fun q => z ((le_c (by omega) (by omega)).mp q)
      have hi : i < nF u := by omega
      have hO := lO hG.1 i
      rw [if_neg z', if_neg z', (hG.2.2.1.2.2.1 i hi).1, eO hG.1]
      by_cases o : ow u i = r
      · rw [if_pos (congrArg nI o), if_pos (congrArg nI o), if_pos rfl]
        unfold f_X9_letIn_J81 f_X9_letIn_J86
        rw [if_neg q_10]
        unfold f_X9_letIn_J108 f_X9_letIn_J138
        rw [y_12, y_30, nI_add, nI_add, nI_add, x_30, ci (n := m + 12 + i) (by omega), ci (n := m + 30 + r) (by omega), ci (n := m + i) (by omega), ci (n := 30 + i) (by omega), (hD.1 i hi).1, (hD.1 i hi).2, (hD.2.1 r hr).2.1, (hG.2.2.1.2.2.1 i hi).2.1, most_eq hG hi, ← Int32.shiftRight_and, nI_1]
        by_cases y : e r = 0
        · rw [if_pos y]
          refine ih (i + 1) _ _ (by omega) (by omega) (dr_put hG hD hi _ _ ?_)
          rw [by_eq c e r (by omega) v (k i) (u 8 i) (u 6 i &&& 31) 1 (sh_m1 hG.2.1 hi) ⟨fun q => absurd q q_10, fun q => absurd y q⟩]
          unfold vl; rw [o]
        · rw [if_neg y]
          refine ih (i + 1) _ _ (by omega) (by omega) (dr_put hG hD hi _ _ ?_)
          rw [by_eq c e r (by omega) v (k i) (u 8 i) (u 6 i &&& 31) 0 (sh_m1 hG.2.1 hi) ⟨fun _ => y, fun _ => rfl⟩]
          unfold vl; rw [o]
      · have o' : ¬ nI (ow u i) = nI r := fun q => o ((eq_c (by omega) (by omega)).mp q)
        rw [if_neg o', if_neg o', nI_1]
        exact ih (i + 1) _ _ (by omega) (by omega) hD
theorem li_eq {u : Blk} {t : Fn} (hG : GB u t) {m : Nat} {c h e k w : Fn} (hm : m ≤ 135) (hD : DR u m c h e k w) {r : Nat} (hr : r < nR u) (v : Int32) :
    DR u m (f_X1_letIn c e k u (nI r) v).1 h (f_X1_letIn c e k u (nI r) v).2 k (f_X9_letIn t w (nI m) (nI r) v (-9)) := by
  have hF := lF hG.1
  exact li_L hG hm hr v 4000 0 c w (by omega) (by omega) hD
theorem la_L {u : Blk} {t : Fn} (hG : GB u t) {m : Nat} {h e k : Fn} (hm : m ≤ 135) {r : Nat} (hr : r < nR u) (v kd : Int32) (hk : kd ≠ -9) : ∀ n i (c w : Fn), i ≤ nF u → nF u < n + i → DR u m c h e k w →
    DR u m (f_X1_letInByAlias_L3 e k u (nI r) v kd n (nI i) c) h e k (f_X9_letIn_L3 t (nI m) (nI r) v kd n (nI i) w) := by
  have hF := lF hG.1
  have hR := lR hG.1
  intro n
  induction n with
  | zero => intro i c w h1 h2; omega
  | succ n ih =>
    intro i c w h1 h2 hD
    rw [f_X1_letInByAlias_L3, f_X9_letIn_L3, f_fld hG, eF hG.1, x_18, ci (n := i) (by omega), ci (n := 18 + i) (by omega)]
    by_cases z : nF u ≤ i
    · rw [if_pos ((le_c (by omega) (by omega)).mpr z), if_pos ((le_c (by omega) (by omega)).mpr z), if_neg hk]
      exact hD
    · have z' : ¬ nI (nF u) ≤ nI i := fun q => z ((le_c (by omega) (by omega)).mp q)
      have hi : i < nF u := by omega
      have hO := lO hG.1 i
      rw [if_neg z', if_neg z', (hG.2.2.1.2.2.1 i hi).1, eO hG.1]
      by_cases o : ow u i = r
      · have st : ∀ kk, kk = 1 ∨ kk = 6 → ∀ s x op, f_X9_by kk s x op = s := by
          intro kk hkk s x op
          unfold f_X9_by
          rcases hkk with q | q
          · rw [q, if_neg (by decide), if_pos rfl]
          · rw [q, if_neg (by decide), if_neg (by decide), if_neg (by decide), if_neg (by decide), if_neg (by decide), if_neg (by decide), if_pos rfl]
        rw [if_pos (congrArg nI o), if_pos (congrArg nI o), if_neg hk]
        unfold f_X9_letIn_J81 f_X9_letIn_J86
        rw [if_neg q_10, if_pos rfl]
        unfold f_X9_letIn_J108 f_X9_letIn_J138
        rw [y_12, y_30, nI_add, nI_add, nI_add, x_30, ci (n := m + 12 + i) (by omega), ci (n := m + 30 + r) (by omega), ci (n := m + i) (by omega), ci (n := 30 + i) (by omega), (hD.1 i hi).2, (hG.2.2.1.2.2.1 i hi).2.1, most_eq hG hi, ← Int32.shiftRight_and, nI_1]
        by_cases k1 : k i = 1
        · rw [if_pos k1, if_pos k1, st _ (Or.inl k1), st _ (Or.inl k1), upd_id, ite_self]
          exact ih (i + 1) _ _ (by omega) (by omega) hD
        · rw [if_neg k1, if_neg k1]
          by_cases k6 : k i = 6
          · rw [if_pos k6, if_pos k6, st _ (Or.inr k6), st _ (Or.inr k6), upd_id, ite_self]
            exact ih (i + 1) _ _ (by omega) (by omega) hD
          · rw [if_neg k6, if_neg k6, (hD.2.1 r hr).2.1, (hD.1 i hi).1]
            by_cases y : e r = 0
            · rw [if_pos y]
              refine ih (i + 1) _ _ (by omega) (by omega) (dr_put hG hD hi _ _ ?_)
              rw [by_eq c e r (by omega) v kd (u 8 i) (u 6 i &&& 31) 1 (sh_m1 hG.2.1 hi) ⟨fun q => absurd q q_10, fun q => absurd y q⟩]
              unfold vl; rw [o]
            · rw [if_neg y]
              refine ih (i + 1) _ _ (by omega) (by omega) (dr_put hG hD hi _ _ ?_)
              rw [by_eq c e r (by omega) v kd (u 8 i) (u 6 i &&& 31) 0 (sh_m1 hG.2.1 hi) ⟨fun _ => y, fun _ => rfl⟩]
              unfold vl; rw [o]
      · have o' : ¬ nI (ow u i) = nI r := fun q => o ((eq_c (by omega) (by omega)).mp q)
        rw [if_neg o', if_neg o', nI_1]
        exact ih (i + 1) _ _ (by omega) (by omega) hD
theorem la_eq {u : Blk} {t : Fn} (hG : GB u t) {m : Nat} {c h e k w : Fn} (hm : m ≤ 135) (hD : DR u m c h e k w) {r : Nat} (hr : r < nR u) (v kd : Int32) (hk : kd ≠ -9) :
    DR u m (f_X1_letInByAlias c e k u (nI r) v kd) h e k (f_X9_letIn t w (nI m) (nI r) v kd) := by
  have hF := lF hG.1
  exact la_L hG hm hr v kd hk 4000 0 c w (by omega) (by omega) hD
theorem og_L {u : Blk} {t : Fn} (hG : GB u t) {m : Nat} {k : Fn} (hm : m ≤ 135) {r : Nat} (hr : r < nR u) (v : Int32) : ∀ n i (c h e w : Fn), i ≤ nR u → nR u < n + i → DR u m c h e k w →
    DR u m (f_X1_openGates_L3 k u (nI r) v n (nI i) c h e).1 (f_X1_openGates_L3 k u (nI r) v n (nI i) c h e).2.1 (f_X1_openGates_L3 k u (nI r) v n (nI i) c h e).2.2 k (f_X9_openGates_L3 t (nI m) (nI r) v n (nI i) w) := by
  have hF := lF hG.1
  have hR := lR hG.1
  intro n
  induction n with
  | zero => intro i c h e w h1 h2; omega
  | succ n ih =>
    intro i c h e w h1 h2 hD
    rw [f_X1_openGates_L3, f_X9_openGates_L3, f_reg hG, eR hG.1]
    by_cases z : nR u ≤ i
    · rw [if_pos ((le_c (by omega) (by omega)).mpr z), if_pos ((le_c (by omega) (by omega)).mpr z)]
      exact hD
    · have z' : ¬ nI (nR u) ≤ nI i := fun q => z ((le_c (by omega) (by omega)).mp q)
      have hi : i < nR u := by omega
      have next := ih (i + 1) c h e w (by omega) (by omega) hD
      rw [if_neg z', if_neg z', x_12, y_24, nI_add, ci (n := i) (by omega), ci (n := 12 + i) (by omega), ci (n := m + 24 + i) (by omega), (hG.2.2.1.2.1 i hi).2.2, (hD.2.1 i hi).1, nI_1]
      unfold f_X0_isOpenedBy
      rw [ci (n := i) (by omega)]
      rcases (hG.2.1.2.2.1 i hi).2 with y | ⟨g, hg, y⟩
      · rw [y, iw_9, if_pos (show (-9 : Int32) = -9 from rfl), if_pos (show (0 : Int32) = 0 from rfl), if_pos (show (0 : Int32) = 0 from rfl), ite_self]
        exact next
      · have hO := lO hG.1 g
        rw [y, eF hG.1, iw_in hg (by omega), if_neg q_10, if_neg (nI_n9 (by omega)), x_18, x_30, ci (n := g) (by omega), ci (n := 18 + g) (by omega), ci (n := 30 + g) (by omega), (hG.2.2.1.2.2.1 g hg).1, (hG.2.2.1.2.2.1 g hg).2.1, eO hG.1]
        by_cases o : nI (ow u g) = nI r
        · rw [if_pos o, if_pos o, if_neg q_10]
          by_cases hh : h i = -9
          · rw [if_pos hh, if_pos hh]; exact next
          · rw [if_neg hh, if_neg hh]
            rcases q_one (v >>> (u 6 g &&& 31)) with b | b
            · rw [b, if_pos rfl, if_neg (fun q => q_10 q.symm)]; exact next
            · rw [b, if_neg q_10, if_pos rfl, lk_eq hG hm hD hi]
              unfold f_X1_openGates_J80 f_X9_openGates_J105
              rw [nI_1, y_24, nI_add, ci (n := i) (by omega), ci (n := m + 24 + i) (by omega)]
              by_cases lk : f_X9_isLocked t w (nI m) (nI i) = 0
              · rw [if_pos lk, if_pos lk]
                exact ih (i + 1) _ _ _ _ (by omega) (by omega) (dr_held hG (li_eq hG hm hD hi (h i)) hi (-9))
              · rw [if_neg lk, if_neg lk]
                exact ih (i + 1) _ _ _ _ (by omega) (by omega) (dr_held hG hD hi (-9))
        · rw [if_neg o, if_neg o, if_pos (show (0 : Int32) = 0 from rfl), ite_self]
          exact next
theorem og_eq {u : Blk} {t : Fn} (hG : GB u t) {m : Nat} {c h e k w : Fn} (hm : m ≤ 135) (hD : DR u m c h e k w) {r : Nat} (hr : r < nR u) (v : Int32) :
    DR u m (f_X1_openGates c h e k u (nI r) v).1 (f_X1_openGates c h e k u (nI r) v).2.1 (f_X1_openGates c h e k u (nI r) v).2.2 k (f_X9_openGates t w (nI m) (nI r) v) := by
  have hR := lR hG.1
  exact og_L hG hm hr v 4000 0 c h e w (by omega) (by omega) hD
theorem wr_eq {u : Blk} {t : Fn} (hG : GB u t) {m : Nat} {c h e k w : Fn} (hm : m ≤ 135) (hD : DR u m c h e k w) (a v : Int32) :
    DR u m (f_X1_write c h e k u a v).1 (f_X1_write c h e k u a v).2.1 (f_X1_write c h e k u a v).2.2 k (f_X9_writeTo t w (nI m) a v) := by
  have hF := lF hG.1
  have hR := lR hG.1
  have hA := lA hG.1
  unfold f_X1_write f_X9_writeTo
  rcases goes hG a with ⟨r, hr, h1, h2, h3, h4⟩ | ⟨h1, j, hj, h2, h3, h4⟩ | ⟨h1, h2, h3, h4⟩
  · rw [h2, h3, h4, rof_r (by omega), if_neg (nI_n9 (by omega)), if_neg (nI_n9 (by omega)), lk_eq hG hm hD hr]
    have n100 : ¬ (100 : Int32) ≤ nI r := fun q => by have := (le_c (a := 100) (b := r) (by omega) (by omega)).mp q; omega
    by_cases lk : f_X9_isLocked t w (nI m) (nI r) = 0
    · rw [if_pos lk, if_pos lk, if_pos (show (-9 : Int32) = -9 from rfl), if_neg n100, x_12, ci (n := r) (by omega), ci (n := 12 + r) (by omega), (hG.2.2.1.2.1 r hr).2.2]
      by_cases g : u 3 r = -9
      · rw [if_pos g, if_pos g]
        unfold f_X1_write_C77 f_X1_write_J89 f_X1_write_C97 f_X9_writeTo_J73
        rw [if_neg n100]
        exact og_eq hG hm (li_eq hG hm hD hr v) hr v
      · rw [if_neg g, if_neg g, y_24, nI_add, ci (by omega)]
        exact dr_held hG hD hr v
    · rw [if_neg lk, if_neg lk]; exact hD
  · have hq := (hG.2.1.2.2.2 j hj)
    have p100 : (100 : Int32) ≤ nI (100 + j) := (le_c (a := 100) (b := 100 + j) (by omega) (by omega)).mpr (by omega)
    have hAr := lAr hG.1 j
    have n1 : ¬ nI (ar u j) = -9 := nI_n9 (by omega)
    have n2 : ¬ nI (100 + j) = -9 := nI_n9 (by omega)
    have n3 : ¬ nI j = -9 := nI_n9 (by omega)
    rw [h2, h3, h4, rof_a hG hj, if_neg n1, if_neg n2, lk_eq hG hm hD hq.1]
    by_cases lk : f_X9_isLocked t w (nI m) (nI (ar u j)) = 0
    · rw [if_pos lk, if_pos lk, if_neg n3, if_pos p100]
      unfold f_X1_write_J89 f_X1_write_C97 f_X9_writeTo_J73
      rw [if_pos p100, x_86, show nI (86 + (100 + j)) - (100 : Int32) = nI (86 + j) from by
        have := pk_sub (a := 86 + (100 + j)) (b := 100) (by omega)
        rw [show 86 + (100 + j) - 100 = 86 + j by omega] at this
        exact this, ci (n := j) (by omega), ci (n := 86 + j) (by omega), (hG.2.2.1.2.2.2 j hj).2.2]
      exact og_eq hG hm (la_eq hG hm hD hq.1 v (u 12 j) hq.2) hq.1 v
    · rw [if_neg lk, if_neg lk]; exact hD
  · rw [h3, h4, if_pos rfl, if_pos rfl]; exact hD
