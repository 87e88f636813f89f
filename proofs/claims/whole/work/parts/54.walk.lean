/-! class against model: walk -/
theorem bo_eq {u : Blk} {t : Fn} (hG : GB u t) {f : Nat} (hf : f < nF u) : f_X9_bitsOf t (nI f) = u 8 f := by
  have hF := lF hG.1
  obtain ⟨l, h, hl, hh, e6, e7, e8, _⟩ := nd_fm hG.2.1 hf
  unfold f_X9_bitsOf f_X9_most
  rw [x_42, x_30, ci (by omega), ci (by omega), (hG.2.2.1.2.2.1 f hf).2.2.1, (hG.2.2.1.2.2.1 f hf).2.1, e6, e7, e8, msk_back h hh l hl]
theorem lg_1 {u : Blk} {t : Fn} (hG : GB u t) (x y : Int32) : ∀ n i, i ≤ nR u → nR u < n + i → f_X9_isLockOrGate_L5 t x y n 1 (nI i) = 1 := by
  have hR := lR hG.1
  intro n
  induction n with
  | zero => intro i h1 h2; omega
  | succ n ih =>
    intro i h1 h2
    rw [f_X9_isLockOrGate_L5, f_reg hG, nI_1]
    by_cases z : nR u ≤ i
    · rw [if_pos ((le_c (by omega) (by omega)).mpr z)]
    · rw [if_neg (fun q => z ((le_c (by omega) (by omega)).mp q)), if_neg q_10]
      exact ih (i + 1) (by omega) (by omega)
theorem lc_L {u : Blk} {t : Fn} (hG : GB u t) (x : Int32) : ∀ n i, i ≤ nR u → nR u < n + i → f_X0_isLock_L2 u x n (nI i) = f_X9_isLockOrGate_L5 t x 6 n 0 (nI i) := by
  have hR := lR hG.1
  intro n
  induction n with
  | zero => intro i h1 h2; omega
  | succ n ih =>
    intro i h1 h2
    rw [f_X0_isLock_L2, f_X9_isLockOrGate_L5, f_reg hG, eR hG.1, x_6, ci (by omega), ci (by omega), nI_1]
    by_cases z : nR u ≤ i
    · rw [if_pos ((le_c (by omega) (by omega)).mpr z), if_pos ((le_c (by omega) (by omega)).mpr z)]
    · have z' : ¬ nI (nR u) ≤ nI i := fun q => z ((le_c (by omega) (by omega)).mp q)
      rw [if_neg z', if_neg z', if_pos rfl, (hG.2.2.1.2.1 i (by omega)).2.1]
      by_cases y : u 2 i = x
      · rw [if_pos y, if_pos y, lg_1 hG x 6 n (i + 1) (by omega) (by omega)]
      · rw [if_neg y, if_neg y]; exact ih (i + 1) (by omega) (by omega)
theorem gc_L {u : Blk} {t : Fn} (hG : GB u t) (x : Int32) : ∀ n i, i ≤ nR u → nR u < n + i → f_X0_isGate_L2 u x n (nI i) = f_X9_isLockOrGate_L5 t x 12 n 0 (nI i) := by
  have hR := lR hG.1
  intro n
  induction n with
  | zero => intro i h1 h2; omega
  | succ n ih =>
    intro i h1 h2
    rw [f_X0_isGate_L2, f_X9_isLockOrGate_L5, f_reg hG, eR hG.1, x_12, ci (by omega), ci (by omega), nI_1]
    by_cases z : nR u ≤ i
    · rw [if_pos ((le_c (by omega) (by omega)).mpr z), if_pos ((le_c (by omega) (by omega)).mpr z)]
    · have z' : ¬ nI (nR u) ≤ nI i := fun q => z ((le_c (by omega) (by omega)).mp q)
      rw [if_neg z', if_neg z', if_pos rfl, (hG.2.2.1.2.1 i (by omega)).2.2]
      by_cases y : u 3 i = x
      · rw [if_pos y, if_pos y, lg_1 hG x 12 n (i + 1) (by omega) (by omega)]
      · rw [if_neg y, if_neg y]; exact ih (i + 1) (by omega) (by omega)
theorem lc_eq {u : Blk} {t : Fn} (hG : GB u t) (x : Int32) : f_X0_isLock u x = f_X9_isLockOrGate t x 6 := lc_L hG x 4000 0 (Nat.zero_le _) (by have := lR hG.1; omega)
theorem gc_eq {u : Blk} {t : Fn} (hG : GB u t) (x : Int32) : f_X0_isGate u x = f_X9_isLockOrGate t x 12 := gc_L hG x 4000 0 (Nat.zero_le _) (by have := lR hG.1; omega)
theorem iw_0 {t : Fn} (x : Int32) : ∀ n (y : Int32), f_X9_isWalked_L48 t x n 0 y = 0 := by
  intro n
  induction n with
  | zero => intro y; rw [f_X9_isWalked_L48]
  | succ n ih =>
    intro y
    rw [f_X9_isWalked_L48]
    split
    · rfl
    · rw [if_pos rfl]; exact ih _
theorem wb_L {u : Blk} {t : Fn} (hG : GB u t) {r : Nat} (hr : r < nR u) : ∀ n i (x : Int32), i ≤ nF u → nF u < n + i → f_X8_walkedBits_L58 u (nI r) n x (nI i) = if f_X9_isWalked_L48 t (nI r) n 1 (nI i) = 0 then 0 else f_X9_bitsBy_L5 t (nI r) 1 n x (nI i) := by
  have hF := lF hG.1
  have hR := lR hG.1
  intro n
  induction n with
  | zero => intro i x h1 h2; omega
  | succ n ih =>
    intro i x h1 h2
    rw [f_X8_walkedBits_L58, f_X9_isWalked_L48, f_X9_bitsBy_L5]
    unfold f_X9_bitsBy_J56
    rw [f_fld hG, eF hG.1, x_18, x_54, ci (n := i) (by omega), ci (n := 18 + i) (by omega), ci (n := 54 + i) (by omega), nI_1]
    by_cases z : nF u ≤ i
    · rw [if_pos ((le_c (by omega) (by omega)).mpr z), if_pos ((le_c (by omega) (by omega)).mpr z), if_pos ((le_c (by omega) (by omega)).mpr z), if_neg q_10]
    · have z' : ¬ nI (nF u) ≤ nI i := fun q => z ((le_c (by omega) (by omega)).mp q)
      have hO := lO hG.1 i
      have b := hG.2.2.1.2.2.1 i (by omega)
      rw [if_neg z', if_neg z', if_neg z', if_neg (show ¬ (1 : Int32) = 0 from q_10), if_neg (show ¬ (1 : Int32) = 0 from q_10), b.1, b.2.2.2.1, eO hG.1, bo_eq hG (by omega), gc_eq hG, lc_eq hG, iw_0]
      by_cases o : nI (ow u i) = nI r
      · rw [if_pos o, if_pos o, if_pos o]
        by_cases k2 : u 5 i = 2
        · rw [if_pos k2, if_pos k2, if_pos rfl]
        rw [if_neg k2, if_neg k2]
        by_cases k6 : u 5 i = 6
        · rw [if_pos k6, if_pos k6, if_pos rfl]
        rw [if_neg k6, if_neg k6]
        by_cases k7 : u 5 i = 7
        · rw [if_pos k7, if_pos k7, if_pos rfl]
        rw [if_neg k7, if_neg k7]
        by_cases g : f_X9_isLockOrGate t (nI i) 12 = 0
        · rw [if_pos g, if_pos g]
          by_cases k0 : u 5 i = 0
          · rw [if_pos k0, if_pos k0]
            by_cases lk : f_X9_isLockOrGate t (nI i) 6 = 0
            · rw [if_pos lk, if_pos lk]; exact ih (i + 1) _ (by omega) (by omega)
            · rw [if_neg lk, if_neg lk]; exact ih (i + 1) _ (by omega) (by omega)
          · rw [if_neg k0, if_neg k0]; exact ih (i + 1) _ (by omega) (by omega)
        · rw [if_neg g, if_neg g, if_pos rfl]
      · rw [if_neg o, if_neg o, if_neg o]; exact ih (i + 1) _ (by omega) (by omega)
theorem wb_eq {u : Blk} {t : Fn} (hG : GB u t) {mc mh me mk w : Fn} (hM : DR u 36 mc mh me mk w) {r : Nat} (hr : r < nR u) : f_X8_walkedBits mc u (nI r) = if f_X9_isWalked t w (nI r) = 0 then 0 else f_X9_bitsBy t (nI r) 1 := by
  have hF := lF hG.1
  have hR := lR hG.1
  have hA := lA hG.1
  have b := hG.2.2.1.2.1 r hr
  have l : f_X1_isLocked mc u (nI r) = f_X9_isLocked t w 36 (nI r) := lk_eq hG (m := 36) (by omega) hM hr
  have j0 : f_X9_isWalked_L48 t (nI r) 4000 0 0 = 0 := iw_0 _ _ _
  unfold f_X8_walkedBits f_X9_isWalked f_X9_isWalked_J44 f_X9_isWalked_J45
  rw [x_0, x_12, ci (n := r) (by omega), ci (n := 12 + r) (by omega), b.1, b.2.2, l, j0]
  have g : f_X0_registerAt u (u 1 r) = nI r ↔ f_X9_goesTo t (u 1 r) = nI r := by
    rcases goes hG (u 1 r) with ⟨q, hq, h1, h2, h3, h4⟩ | ⟨h1, j, hj, h2, h3, h4⟩ | ⟨h1, h2, h3, h4⟩
    · rw [h1, h4]
    · rw [h1, h4]
      exact ⟨fun q => absurd q.symm (nI_n9 (by omega)), fun q => by have := (eq_c (by omega) (by omega)).mp q; omega⟩
    · rw [h1, h4]
  by_cases g1 : f_X9_goesTo t (u 1 r) = nI r
  · rw [if_pos (g.mpr g1), if_pos g1]
    by_cases g2 : u 3 r = -9
    · rw [if_pos g2, if_pos g2]
      by_cases g3 : f_X9_isLocked t w 36 (nI r) = 0
      · rw [if_pos g3, if_pos g3]
        exact wb_L hG hr 4000 0 0 (by omega) (by omega)
      · rw [if_neg g3, if_neg g3, if_pos rfl]
    · rw [if_neg g2, if_neg g2, ite_self, if_pos rfl]
  · rw [if_neg (fun q => g1 (g.mp q)), if_neg g1, if_pos rfl]
theorem pl_L {u : Blk} {t : Fn} (hG : GB u t) {r : Nat} (hr : r < nR u) : ∀ n i (x : Int32), i ≤ nF u → nF u < n + i → f_X0_plainBits_L4 u (nI r) n x (nI i) = f_X9_bitsBy_L5 t (nI r) 0 n x (nI i) := by
  have hF := lF hG.1
  intro n
  induction n with
  | zero => intro i x h1 h2; omega
  | succ n ih =>
    intro i x h1 h2
    rw [f_X0_plainBits_L4, f_X9_bitsBy_L5]
    unfold f_X9_bitsBy_J56
    rw [f_fld hG, eF hG.1, x_18, x_54, ci (n := i) (by omega), ci (n := 18 + i) (by omega), ci (n := 54 + i) (by omega), nI_1]
    by_cases z : nF u ≤ i
    · rw [if_pos ((le_c (by omega) (by omega)).mpr z), if_pos ((le_c (by omega) (by omega)).mpr z)]
    · have z' : ¬ nI (nF u) ≤ nI i := fun q => z ((le_c (by omega) (by omega)).mp q)
      have b := hG.2.2.1.2.2.1 i (by omega)
      rw [if_neg z', if_neg z', if_pos (show (0 : Int32) = 0 from rfl), b.1, b.2.2.2.1, bo_eq hG (by omega), ih (i + 1) _ (by omega) (by omega), ih (i + 1) _ (by omega) (by omega)]
theorem sk_L {u : Blk} (hI : BlkInv u) (hW : BW u) {k : Fn} {r : Nat} (hr : r < 6) {g : Nat} (hg : g < nF u) (ho : ow u g = r) (hk : k g ≠ 2) : ∀ n i (s : Int32), i ≤ nF u → nF u < n + i → f_X1_shown_L10 k u (nI r) n s (nI i) &&& u 8 g = s &&& u 8 g := by
  have hF := lF hI
  intro n
  induction n with
  | zero => intro i x h1 h2; omega
  | succ n ih =>
    intro i s h1 h2
    have hO := lO hI i
    rw [f_X1_shown_L10, eF hI, ci (n := i) (by omega), eO hI, nI_1]
    by_cases z : nF u ≤ i
    · rw [if_pos ((le_c (by omega) (by omega)).mpr z)]
    · rw [if_neg (fun q => z ((le_c (by omega) (by omega)).mp q))]
      by_cases o : nI (ow u i) = nI r
      · have o' := (eq_c (by omega) (by omega)).mp o
        rw [if_pos o]
        by_cases k2 : k i = 2
        · rw [if_pos k2, ih (i + 1) _ (by omega) (by omega), q_andn _ _ _ (hW.2.1 i g (by omega) hg (fun e => hk (by rw [← e]; exact k2)) (by omega))]
        · rw [if_neg k2]; exact ih (i + 1) _ (by omega) (by omega)
      · rw [if_neg o]; exact ih (i + 1) _ (by omega) (by omega)
theorem q_dist (s c a m : Int32) (h1 : s &&& a = c &&& a) (h2 : s &&& m = c &&& m) : s &&& (a ||| m) = c &&& (a ||| m) := by
  apply b_ext; intro i hi
  have e1 := congrArg (fun z => bt z i) h1
  have e2 := congrArg (fun z => bt z i) h2
  simp only [b_and] at e1 e2
  simp only [b_and, b_or]
  revert e1 e2
  cases bt s i <;> cases bt c i <;> cases bt a i <;> cases bt m i <;> simp
theorem pk_L {u : Blk} (hI : BlkInv u) {r : Nat} (hr : r < 6) {s c : Int32} (hs : ∀ g, g < nF u → ow u g = r → u 5 g = 0 → s &&& u 8 g = c &&& u 8 g) : ∀ n i (x : Int32), i ≤ nF u → nF u < n + i → s &&& x = c &&& x → s &&& f_X0_plainBits_L4 u (nI r) n x (nI i) = c &&& f_X0_plainBits_L4 u (nI r) n x (nI i) := by
  have hF := lF hI
  intro n
  induction n with
  | zero => intro i x h1 h2; omega
  | succ n ih =>
    intro i x h1 h2 hx
    have hO := lO hI i
    rw [f_X0_plainBits_L4, eF hI, ci (n := i) (by omega), eO hI, nI_1]
    by_cases z : nF u ≤ i
    · rw [if_pos ((le_c (by omega) (by omega)).mpr z)]; exact hx
    · rw [if_neg (fun q => z ((le_c (by omega) (by omega)).mp q))]
      by_cases o : nI (ow u i) = nI r
      · have o' := (eq_c (by omega) (by omega)).mp o
        rw [if_pos o]
        by_cases k0 : u 5 i = 0
        · rw [if_pos k0]
          exact ih (i + 1) _ (by omega) (by omega) (q_dist _ _ _ _ hx (hs i (by omega) o' k0))
        · rw [if_neg k0]; exact ih (i + 1) _ (by omega) (by omega) hx
      · rw [if_neg o]; exact ih (i + 1) _ (by omega) (by omega) hx
theorem st_eq {u : Blk} {t : Fn} (hG : GB u t) {mc mh me mk w : Fn} (hM : DR u 36 mc mh me mk w) (hk : ∀ f, f < nF u → mk f = u 5 f) {r : Nat} (hr : r < nR u) (bit y : Int32) : f_X8_stepOfWalk mc mk u (nI r) bit y = if y = 0 then t ((0 : Int32) + nI r).toNatClampNeg else if y = 1 then ((f_X9_tellsOf t w 36 (nI r)) &&& (f_X9_bitsBy t (nI r) 0)) ^^^ bit else (f_X9_tellsOf t w 36 (nI r)) ^^^ bit := by
  have hF := lF hG.1
  have hR := lR hG.1
  have sh : f_X1_shown mc mk u (nI r) = f_X9_tellsOf t w 36 (nI r) := sh_eq hG (m := 36) (by omega) hM hr
  have p1 : f_X0_plainBits u (nI r) = f_X9_bitsBy t (nI r) 0 := pl_L hG hr 4000 0 0 (by omega) (by omega)
  have p2 : f_X1_shown mc mk u (nI r) &&& f_X0_plainBits u (nI r) = mc r &&& f_X0_plainBits u (nI r) := by
    refine pk_L hG.1 (by omega) (fun g hg ho h0 => ?_) 4000 0 0 (by omega) (by omega) (by rw [Int32.and_zero, Int32.and_zero])
    have e : f_X1_shown mc mk u (nI r) = f_X1_shown_L10 mk u (nI r) 4000 (mc (nI r).toNatClampNeg) (nI 0) := rfl
    rw [e, ci (n := r) (by omega)]
    exact sk_L hG.1 hG.2.1 (by omega) hg ho (by rw [hk g hg, h0]; decide) 4000 0 _ (by omega) (by omega)
  unfold f_X8_stepOfWalk
  rw [x_0, ci (n := r) (by omega), (hG.2.2.1.2.1 r hr).1, ← p2, sh, p1]
theorem wi_L {u : Blk} {t : Fn} (hG : GB u t) {mc mh me mk w : Fn} (hM : DR u 36 mc mh me mk w) (hk : ∀ f, f < nF u → mk f = u 5 f) (x y : Int32) {r : Nat} (hr : r < nR u) (bits : Int32) {K K' : Int32 → Int32 → Int32} (hK : ∀ z, K z (nI (r + 1)) = K' z (nI (r + 1))) : ∀ n j (z : Int32), j ≤ 8 → 8 < n + j →
    f_X8_walk_L43 mc mk u x y (nI r) bits K n z (nI j) = f_X9_walk_L55 t w x y (nI r) bits K' n z (nI j) := by
  have hR := lR hG.1
  intro n
  induction n with
  | zero => intro j z h1 h2; omega
  | succ n ih =>
    intro j z h1 h2
    rw [f_X8_walk_L43, f_X9_walk_L55, nI_1, nI_1]
    by_cases c : 8 ≤ j
    · rw [if_pos (show (8 : Int32) ≤ nI j from (le_c (a := 8) (by omega) (by omega)).mpr c), if_pos (show (8 : Int32) ≤ nI j from (le_c (a := 8) (by omega) (by omega)).mpr c)]
      exact hK z
    · have c' : ¬ (8 : Int32) ≤ nI j := fun q => c ((le_c (a := 8) (by omega) (by omega)).mp q)
      rw [if_neg c', if_neg c', st_eq hG hM hk hr]
      by_cases b : (bits &&& ((1 : Int32) <<< (nI j &&& 31))) = 0
      · have b' := (q_bit bits (l := j) (by omega)).mpr b
        rw [if_pos b, b', if_neg (show ¬ (0 : Int32) = 1 from fun q => q_10 q.symm)]
        exact ih (j + 1) z (by omega) (by omega)
      · have b' : ((bits >>> (nI j &&& 31)) &&& 1) = 1 := by
          rcases q_one (bits >>> (nI j &&& 31)) with q | q
          · exact absurd ((q_bit bits (l := j) (by omega)).mp q) b
          · exact q
        rw [if_neg b, b', if_pos rfl]
        by_cases e : z = x
        · rw [if_pos e, if_pos e]
        · rw [if_neg e, if_neg e]
          exact ih (j + 1) _ (by omega) (by omega)
theorem wo_L {u : Blk} {t : Fn} (hG : GB u t) {mc mh me mk w : Fn} (hM : DR u 36 mc mh me mk w) (hk : ∀ f, f < nF u → mk f = u 5 f) (x y : Int32) (hx : ¬ x < -1) : ∀ n r (z : Int32), r ≤ nR u → nR u < n + r → f_X8_walk_L20 mc mk u x y n z (nI r) = f_X9_walk_L21 t w x y n z (nI r) := by
  have hR := lR hG.1
  intro n
  induction n with
  | zero => intro r z h1 h2; omega
  | succ n ih =>
    intro r z h1 h2
    rw [f_X8_walk_L20, f_X9_walk_L21, f_reg hG, eR hG.1]
    by_cases c : nR u ≤ r
    · rw [if_pos ((le_c (by omega) (by omega)).mpr c), if_pos ((le_c (by omega) (by omega)).mpr c)]
      have a := rnlt hx
      rw [show (-1 : Int32).toInt = -1 from rfl] at a
      by_cases e : x = -1
      · rw [if_pos e, if_neg (show ¬ (0 : Int32) ≤ x from by rw [e]; decide)]
      · rw [if_neg e, if_pos (show (0 : Int32) ≤ x from Int32.le_iff_toInt_le.mpr (by
          have := rne e
          rw [show (-1 : Int32).toInt = -1 from rfl] at this
          rw [show (0 : Int32).toInt = 0 from rfl]; omega))]
    · have c' : ¬ nI (nR u) ≤ nI r := fun q => c ((le_c (by omega) (by omega)).mp q)
      rw [if_neg c', if_neg c', wb_eq hG hM (by omega)]
      unfold f_X9_walk_J50
      have go := fun bits => wi_L hG hM hk x y (r := r) (by omega) bits (K := f_X8_walk_L20 mc mk u x y n) (K' := f_X9_walk_L21 t w x y n) (fun z => ih (r + 1) z (by omega) (by omega)) 4000 0 z (by omega) (by omega)
      by_cases d : f_X9_isWalked t w (nI r) = 0
      · rw [if_pos d, if_pos d]; exact go 0
      · rw [if_neg d, if_neg d]; exact go _
theorem qa_walk {u : Blk} {t : Fn} (hG : GB u t) {mc mh me mk w : Fn} (hM : DR u 36 mc mh me mk w) (hk : ∀ f, f < nF u → mk f = u 5 f) (x y : Int32) : f_X8_walk mc mk u x y = f_X9_walk t w x y := by
  have hR := lR hG.1
  unfold f_X8_walk f_X9_walk
  rw [in_2]
  by_cases c : x < -1
  · rw [if_pos c, if_pos c]
  · rw [if_neg c, if_neg c]
    by_cases d : f_X8_isWithin y 3 = 0
    · rw [if_pos d, if_pos d]
    · rw [if_neg d, if_neg d]
      exact wo_L hG hM hk x y c 4000 0 0 (by omega) (by omega)
