/-! class against model: the relations -/
theorem nI_ti {x : Int32} (h : 0 ≤ x.toInt) : x = nI x.toNatClampNeg := by
  have r := fb_rng x
  have hn : x.toNatClampNeg < 2 ^ 31 := by rw [ixn]; omega
  apply Int32.toInt_inj.mp
  rw [nI_toInt hn, ixn]
  omega
def nR (u : Blk) : Nat := (u 0 0).toNatClampNeg
def nF (u : Blk) : Nat := (u 0 1).toNatClampNeg
def nA (u : Blk) : Nat := (u 0 2).toNatClampNeg
def ow (u : Blk) (f : Nat) : Nat := (u 4 f).toNatClampNeg
def ar (u : Blk) (a : Nat) : Nat := (u 11 a).toNatClampNeg
def vl (u : Blk) (c : Fn) (f : Nat) : Int32 := (c (ow u f) &&& u 8 f) >>> (u 6 f &&& 31)
theorem eR {u : Blk} (h : BlkInv u) : u 0 0 = nI (nR u) := nI_ti (BI_regs h).1
theorem eF {u : Blk} (h : BlkInv u) : u 0 1 = nI (nF u) := nI_ti (BI_flds h).1
theorem eA {u : Blk} (h : BlkInv u) : u 0 2 = nI (nA u) := nI_ti (BI_als h).1
theorem eO {u : Blk} (h : BlkInv u) (k : Nat) : u 4 k = nI (ow u k) := nI_ti (BI_owner h k).1
theorem eAr {u : Blk} (h : BlkInv u) (k : Nat) : u 11 k = nI (ar u k) := nI_ti (BI_areg h k).1
theorem lR {u : Blk} (h : BlkInv u) : nR u ≤ 6 := by have := BI_regs h; show (u 0 0).toInt.toNat ≤ 6; omega
theorem lF {u : Blk} (h : BlkInv u) : nF u ≤ 12 := by have := BI_flds h; show (u 0 1).toInt.toNat ≤ 12; omega
theorem lA {u : Blk} (h : BlkInv u) : nA u ≤ 4 := by have := BI_als h; show (u 0 2).toInt.toNat ≤ 4; omega
theorem lO {u : Blk} (h : BlkInv u) (k : Nat) : ow u k < 6 := by have := BI_owner h k; show (u 4 k).toInt.toNat < 6; omega
theorem lAr {u : Blk} (h : BlkInv u) (k : Nat) : ar u k < 6 := by have := BI_areg h k; show (u 11 k).toInt.toNat < 6; omega
/-- a block that a text gave -/
def BW (u : Blk) : Prop :=
  (∀ f, f < nF u → ow u f < nR u ∧ ∃ l h : Nat, l < h + 1 ∧ h < 8 ∧ u 6 f = nI l ∧ u 7 f = nI h ∧ u 8 f = msk l h ∧ ∃ v, v < 2 ^ (h - l + 1) ∧ u 9 f = nI v) ∧
  (∀ f g, f < nF u → g < nF u → f ≠ g → ow u f = ow u g → u 8 f &&& u 8 g = 0) ∧
  (∀ r, r < nR u → (u 2 r = -9 ∨ ∃ f, f < nF u ∧ u 2 r = nI f) ∧ (u 3 r = -9 ∨ ∃ f, f < nF u ∧ u 3 r = nI f)) ∧
  (∀ a, a < nA u → ar u a < nR u ∧ u 12 a ≠ -9)
/-- block and told rows -/
def BR (u : Blk) (t : Fn) : Prop := (t 90 = u 0 0 ∧ t 91 = u 0 1 ∧ t 92 = u 0 2) ∧
  (∀ r, r < nR u → t r = u 1 r ∧ t (6 + r) = u 2 r ∧ t (12 + r) = u 3 r) ∧
  (∀ f, f < nF u → t (18 + f) = u 4 f ∧ t (30 + f) = u 6 f ∧ t (42 + f) = u 7 f ∧ t (54 + f) = u 5 f ∧ t (66 + f) = u 9 f) ∧
  (∀ a, a < nA u → t (78 + a) = u 10 a ∧ t (82 + a) = u 11 a ∧ t (86 + a) = u 12 a)
def GB (u : Blk) (t : Fn) : Prop := BlkInv u ∧ BW u ∧ BR u t ∧ ToldInv t
theorem nd_fm {u : Blk} (h : BW u) {f : Nat} (hf : f < nF u) : ∃ l h : Nat, l < h + 1 ∧ h < 8 ∧ u 6 f = nI l ∧ u 7 f = nI h ∧ u 8 f = msk l h ∧ ∃ v, v < 2 ^ (h - l + 1) ∧ u 9 f = nI v := (h.1 f hf).2
/-- a machine of the class, a machine in the model's row -/
def DR (u : Blk) (m : Nat) (c h e k w : Fn) : Prop :=
  (∀ f, f < nF u → w (m + f) = vl u c f ∧ w (m + 12 + f) = k f) ∧
  (∀ r, r < nR u → w (m + 24 + r) = h r ∧ w (m + 30 + r) = e r ∧ (e r = 0 ∨ e r = 1)) ∧
  (∀ r M, r < nR u → (∀ f, f < nF u → ow u f = r → u 8 f &&& M = 0) → c r &&& M = 0)
theorem upd_s {f : Fn} {k : Nat} {x : Int32} : upd f k x k = x := if_pos rfl
theorem c9 : (-9 : Int32).toInt = -9 := by decide
theorem nI_n9 {n : Nat} (h : n < 2 ^ 31) : nI n ≠ -9 := fun q => by
  have := congrArg Int32.toInt q
  rw [nI_toInt h, c9] at this
  omega
theorem nI_n9' {n : Nat} (h : n < 2 ^ 31) : ¬ (-9 : Int32) = nI n := fun q => nI_n9 h q.symm
theorem x_0 (i : Nat) : (0 : Int32) + nI i = nI i := by have := nI_add 0 i; rw [Nat.zero_add] at this; exact this
theorem x_6 (i : Nat) : (6 : Int32) + nI i = nI (6 + i) := nI_add 6 i
theorem x_12 (i : Nat) : (12 : Int32) + nI i = nI (12 + i) := nI_add 12 i
theorem x_18 (i : Nat) : (18 : Int32) + nI i = nI (18 + i) := nI_add 18 i
theorem x_24 (i : Nat) : (24 : Int32) + nI i = nI (24 + i) := nI_add 24 i
theorem x_30 (i : Nat) : (30 : Int32) + nI i = nI (30 + i) := nI_add 30 i
theorem x_36 (i : Nat) : (36 : Int32) + nI i = nI (36 + i) := nI_add 36 i
theorem x_42 (i : Nat) : (42 : Int32) + nI i = nI (42 + i) := nI_add 42 i
theorem x_48 (i : Nat) : (48 : Int32) + nI i = nI (48 + i) := nI_add 48 i
theorem x_54 (i : Nat) : (54 : Int32) + nI i = nI (54 + i) := nI_add 54 i
theorem x_66 (i : Nat) : (66 : Int32) + nI i = nI (66 + i) := nI_add 66 i
theorem x_73 (i : Nat) : (73 : Int32) + nI i = nI (73 + i) := nI_add 73 i
theorem x_78 (i : Nat) : (78 : Int32) + nI i = nI (78 + i) := nI_add 78 i
theorem x_82 (i : Nat) : (82 : Int32) + nI i = nI (82 + i) := nI_add 82 i
theorem x_86 (i : Nat) : (86 : Int32) + nI i = nI (86 + i) := nI_add 86 i
theorem x_100 (i : Nat) : (100 : Int32) + nI i = nI (100 + i) := nI_add 100 i
theorem x_133 (i : Nat) : (133 : Int32) + nI i = nI (133 + i) := nI_add 133 i
theorem x_135 (i : Nat) : (135 : Int32) + nI i = nI (135 + i) := nI_add 135 i
theorem x_147 (i : Nat) : (147 : Int32) + nI i = nI (147 + i) := nI_add 147 i
theorem y_12 (i : Nat) : nI i + (12 : Int32) = nI (i + 12) := nI_add i 12
theorem y_24 (i : Nat) : nI i + (24 : Int32) = nI (i + 24) := nI_add i 24
theorem y_30 (i : Nat) : nI i + (30 : Int32) = nI (i + 30) := nI_add i 30
theorem y_2 (i : Nat) : nI i + (2 : Int32) = nI (i + 2) := nI_add i 2
theorem y_135 (i : Nat) : nI i + (135 : Int32) = nI (i + 135) := nI_add i 135
theorem z_3 (i : Nat) : (3 : Int32) * nI i = nI (3 * i) := pk_mul 3 i
theorem z_4 (i : Nat) : (4 : Int32) * nI i = nI (4 * i) := pk_mul 4 i
theorem z_135 (i : Nat) : (135 : Int32) * nI i = nI (135 * i) := pk_mul 135 i
theorem ci {n : Nat} (h : n < 100000) : (nI n).toNatClampNeg = n := nI_clamp (by omega)
theorem le_c {a b : Nat} (ha : a < 100000) (hb : b < 100000) : nI a ≤ nI b ↔ a ≤ b := nI_leI (by omega) (by omega)
theorem lt_c {a b : Nat} (ha : a < 100000) (hb : b < 100000) : nI a < nI b ↔ a < b := nI_ltI (by omega) (by omega)
theorem eq_c {a b : Nat} (ha : a < 100000) (hb : b < 100000) : nI a = nI b ↔ a = b := nI_eq (by omega) (by omega)
theorem ti_c {a : Nat} (ha : a < 100000) : (nI a).toInt = a := nI_toInt (by omega)
theorem iw_of {x : Int32} {n : Nat} (hn : n < 100000) : f_X8_isWithin x (nI n) = 0 ∨ (f_X8_isWithin x (nI n) = 1 ∧ ∃ j, j < n ∧ x = nI j) := by
  by_cases c : f_X8_isWithin x (nI n) = 0
  · exact Or.inl c
  · have i := rIW c
    rw [ti_c hn] at i
    refine Or.inr ⟨?_, x.toNatClampNeg, ?_, nI_ti i.1⟩
    · revert c; unfold f_X8_isWithin; split; · exact fun c => absurd rfl c
      · split; · exact fun c => absurd rfl c
        · exact fun _ => rfl
    · rw [ixn]; omega
theorem iw_in {j n : Nat} (hj : j < n) (hn : n < 100000) : f_X8_isWithin (nI j) (nI n) = 1 := by
  unfold f_X8_isWithin
  rw [if_neg (nI_pos (by omega)), if_neg (by rw [le_c hn (by omega)]; omega)]
theorem iw_9 (y : Int32) : f_X8_isWithin (-9) y = 0 := if_pos (by decide)
theorem in_eq {x : Int32} {n : Nat} (hn : n < 100000) : f_X9_in x 0 (nI n - 1) = f_X8_isWithin x (nI n) := by
  have e : (nI n - 1).toInt = (n : Int) - 1 := by rw [show (1 : Int32) = nI 1 from rfl, pk_sub_toInt (by omega) (by omega)]; rfl
  unfold f_X9_in f_X8_isWithin
  by_cases c : x < 0
  · rw [if_pos c, if_pos c]
  · rw [if_neg c, if_neg c]
    by_cases d : nI n ≤ x
    · have := rle d
      rw [ti_c hn] at this
      rw [if_pos d, if_pos (Int32.lt_iff_toInt_lt.mpr (by omega))]
    · have := rnle d
      rw [ti_c hn] at this
      rw [if_neg d, if_neg (fun q => by have := rlt q; omega)]
theorem in_15 (x : Int32) : f_X9_in x 0 15 = f_X8_isWithin x 16 := in_eq (n := 16) (by omega)
theorem in_255 (x : Int32) : f_X9_in x 0 255 = f_X8_isWithin x 256 := in_eq (n := 256) (by omega)
theorem in_7 (x : Int32) : f_X9_in x 0 7 = f_X8_isWithin x 8 := in_eq (n := 8) (by omega)
theorem in_1 (x : Int32) : f_X9_in x 0 1 = f_X8_isWithin x 2 := in_eq (n := 2) (by omega)
theorem in_2 (x : Int32) : f_X9_in x 0 2 = f_X8_isWithin x 3 := in_eq (n := 3) (by omega)
theorem f_reg {u : Blk} {t : Fn} (h : GB u t) : f_X9_registers t = nI (nR u) := by
  show t (90 : Int32).toNatClampNeg = _
  rw [ix90, h.2.2.1.1.1, eR h.1]
theorem f_fld {u : Blk} {t : Fn} (h : GB u t) : f_X9_fields t = nI (nF u) := by
  show t (91 : Int32).toNatClampNeg = _
  rw [ix91, h.2.2.1.1.2.1, eF h.1]
theorem f_als {u : Blk} {t : Fn} (h : GB u t) : t (92 : Int32).toNatClampNeg = nI (nA u) := by
  rw [ix92, h.2.2.1.1.2.2, eA h.1]
theorem isF {u : Blk} {t : Fn} (h : GB u t) (x : Int32) : f_X9_isField t x = f_X8_isWithin x (u 0 1) := by
  have := lF h.1
  rw [f_X9_isField, f_fld h, eF h.1, in_eq (by omega)]
theorem isR {u : Blk} {t : Fn} (h : GB u t) (x : Int32) : f_X9_isRegister t x = f_X8_isWithin x (u 0 0) := by
  have := lR h.1
  rw [f_X9_isRegister, f_reg h, eR h.1, in_eq (by omega)]
theorem put_eq {u : Blk} {c : Fn} {f : Nat} {b : Int32} (hf : f < 100000) : f_X1_putBits c u (nI f) b = upd c (ow u f) ((c (ow u f) &&& (u 8 f ^^^ (-1 : Int32))) ||| (b &&& u 8 f)) := by
  unfold f_X1_putBits
  rw [ci hf]; rfl
theorem val_eq {u : Blk} {c : Fn} {f : Nat} (hf : f < 100000) : f_X1_valueOf c u (nI f) = vl u c f := by
  unfold f_X1_valueOf
  rw [ci hf]; rfl
theorem vl_put {u : Blk} {c : Fn} (hW : BW u) {f g : Nat} {b : Int32} (hf : f < nF u) (hF : nF u ≤ 12) (hg : g < nF u) : vl u (f_X1_putBits c u (nI f) b) g = if g = f then (b &&& u 8 f) >>> (u 6 f &&& 31) else vl u c g := by
  rw [put_eq (by omega)]
  unfold vl
  by_cases h : g = f
  · subst h
    rw [if_pos rfl, upd_s, q_put]
  · rw [if_neg h]
    by_cases z : ow u g = ow u f
    · rw [z, upd_s, q_dis _ _ _ _ (hW.2.1 f g hf hg (fun q => h q.symm) z.symm)]
    · rw [upd_o z]
theorem cov_put {u : Blk} {c : Fn} {f : Nat} {b : Int32} (hf : f < nF u) (hF : nF u ≤ 12) {r : Nat} {M : Int32} (h : c r &&& M = 0) (hM : ow u f = r → u 8 f &&& M = 0) : f_X1_putBits c u (nI f) b r &&& M = 0 := by
  rw [put_eq (by omega)]
  by_cases z : r = ow u f
  · rw [z] at h ⊢
    rw [upd_s, q_dis _ _ _ _ (hM z.symm), h]
  · rw [upd_o z, h]
theorem dr_put {u : Blk} {t : Fn} (hG : GB u t) {m : Nat} {c h e k w : Fn} (hD : DR u m c h e k w) {f : Nat} (hf : f < nF u) (b v : Int32) (hv : v = (b &&& u 8 f) >>> (u 6 f &&& 31)) : DR u m (f_X1_putBits c u (nI f) b) h e k (upd w (m + f) v) := by
  have hF := lF hG.1
  have hR := lR hG.1
  refine ⟨fun g hg => ⟨?_, ?_⟩, fun r hr => ⟨?_, ?_, (hD.2.1 r hr).2.2⟩, fun r M hr hM => ?_⟩
  · rw [vl_put hG.2.1 hf hF hg]
    by_cases z : g = f
    · rw [if_pos z, z, upd_s, hv]
    · rw [if_neg z, upd_o (by omega)]; exact (hD.1 g hg).1
  · rw [upd_o (by omega)]; exact (hD.1 g hg).2
  · rw [upd_o (by omega)]; exact (hD.2.1 r hr).1
  · rw [upd_o (by omega)]; exact (hD.2.1 r hr).2.1
  · exact cov_put hf hF (hD.2.2 r M hr hM) (hM f hf)
theorem dr_held {u : Blk} {t : Fn} (hG : GB u t) {m : Nat} {c h e k w : Fn} (hD : DR u m c h e k w) {r : Nat} (hr : r < nR u) (v : Int32) : DR u m c (upd h r v) e k (upd w (m + 24 + r) v) := by
  have hF := lF hG.1
  have hR := lR hG.1
  refine ⟨fun g hg => ⟨?_, ?_⟩, fun q hq => ⟨?_, ?_, (hD.2.1 q hq).2.2⟩, hD.2.2⟩
  · rw [upd_o (by omega)]; exact (hD.1 g hg).1
  · rw [upd_o (by omega)]; exact (hD.1 g hg).2
  · by_cases z : q = r
    · rw [z, upd_s, upd_s]
    · rw [upd_o (by omega), upd_o z]; exact (hD.2.1 q hq).1
  · rw [upd_o (by omega)]; exact (hD.2.1 q hq).2.1
theorem dr_ent {u : Blk} {t : Fn} (hG : GB u t) {m : Nat} {c h e k w : Fn} (hD : DR u m c h e k w) {r : Nat} (hr : r < nR u) (v : Int32) (hv : v = 0 ∨ v = 1) : DR u m c h (upd e r v) k (upd w (m + 30 + r) v) := by
  have hF := lF hG.1
  have hR := lR hG.1
  refine ⟨fun g hg => ⟨?_, ?_⟩, fun q hq => ⟨?_, ?_, ?_⟩, hD.2.2⟩
  · rw [upd_o (by omega)]; exact (hD.1 g hg).1
  · rw [upd_o (by omega)]; exact (hD.1 g hg).2
  · rw [upd_o (by omega)]; exact (hD.2.1 q hq).1
  · by_cases z : q = r
    · rw [z, upd_s, upd_s]
    · rw [upd_o (by omega), upd_o z]; exact (hD.2.1 q hq).2.1
  · by_cases z : q = r
    · rw [z, upd_s]; exact hv
    · rw [upd_o z]; exact (hD.2.1 q hq).2.2
theorem dr_kind {u : Blk} {t : Fn} (hG : GB u t) {m : Nat} {c h e k w : Fn} (hD : DR u m c h e k w) {f : Nat} (hf : f < nF u) (v : Int32) : DR u m c h e (upd k f v) (upd w (m + 12 + f) v) := by
  have hF := lF hG.1
  have hR := lR hG.1
  refine ⟨fun g hg => ⟨?_, ?_⟩, fun q hq => ⟨?_, ?_, (hD.2.1 q hq).2.2⟩, hD.2.2⟩
  · rw [upd_o (by omega)]; exact (hD.1 g hg).1
  · by_cases z : g = f
    · rw [z, upd_s, upd_s]
    · rw [upd_o (by omega), upd_o z]; exact (hD.1 g hg).2
  · rw [upd_o (by omega)]; exact (hD.2.1 q hq).1
  · rw [upd_o (by omega)]; exact (hD.2.1 q hq).2.1
theorem dr_cong {u : Blk} {m m' : Nat} {c h e k w c' h' e' k' w' : Fn} (hI : BlkInv u) (hW : BW u) (hD : DR u m c h e k w) (hc : ∀ r, r < nR u → c' r = c r ∧ h' r = h r ∧ e' r = e r) (hk : ∀ f, f < nF u → k' f = k f) (hw : ∀ j, j < 36 → w' (m' + j) = w (m + j)) : DR u m' c' h' e' k' w' := by
  have hF := lF hI
  have hR := lR hI
  refine ⟨fun g hg => ⟨?_, ?_⟩, fun q hq => ⟨?_, ?_, ?_⟩, fun r M hr hM => ?_⟩
  · rw [hw g (by omega), (hD.1 g hg).1]; unfold vl; rw [(hc _ (hW.1 g hg).1).1]
  · rw [Nat.add_assoc, hw (12 + g) (by omega), ← Nat.add_assoc, (hD.1 g hg).2, hk g hg]
  · rw [Nat.add_assoc, hw (24 + q) (by omega), ← Nat.add_assoc, (hD.2.1 q hq).1, (hc q hq).2.1]
  · rw [Nat.add_assoc, hw (30 + q) (by omega), ← Nat.add_assoc, (hD.2.1 q hq).2.1, (hc q hq).2.2]
  · rw [(hc q hq).2.2]; exact (hD.2.1 q hq).2.2
  · rw [(hc r hr).1]; exact hD.2.2 r M hr hM
/-! where an access goes -/
theorem go_R {u : Blk} {t : Fn} (hG : GB u t) (a : Int32) : ∀ n i, i ≤ nR u → nR u < n + i → (f_X0_registerAt_L2 u a n (nI i) = -9 ∧ f_X9_goesTo_L2 t a n (nI i) = f_X9_goesTo_L32 t a 4000 0) ∨ (∃ r, r < nR u ∧ f_X0_registerAt_L2 u a n (nI i) = nI r ∧ f_X9_goesTo_L2 t a n (nI i) = nI r) := by
  intro n
  induction n with
  | zero => intro i h1 h2; omega
  | succ n ih =>
    intro i h1 h2
    have hR := lR hG.1
    rw [f_X0_registerAt_L2, f_X9_goesTo_L2, f_reg hG, eR hG.1, x_0, ci (by omega)]
    by_cases c : nR u ≤ i
    · rw [if_pos ((le_c (by omega) (by omega)).mpr c), if_pos ((le_c (by omega) (by omega)).mpr c)]
      exact Or.inl ⟨rfl, rfl⟩
    · have c' : ¬ nI (nR u) ≤ nI i := fun q => c ((le_c (by omega) (by omega)).mp q)
      rw [if_neg c', if_neg c', (hG.2.2.1.2.1 i (by omega)).1]
      by_cases d : u 1 i = a
      · rw [if_pos d, if_pos d]
        exact Or.inr ⟨i, by omega, rfl, rfl⟩
      · rw [if_neg d, if_neg d, nI_1]
        exact ih (i + 1) (by omega) (by omega)
theorem go_A {u : Blk} {t : Fn} (hG : GB u t) (a : Int32) : ∀ n i, i ≤ nA u → nA u < n + i → (f_X0_aliasAt_L15 u a n (nI i) = -9 ∧ f_X9_goesTo_L32 t a n (nI i) = -9) ∨ (∃ j, j < nA u ∧ f_X0_aliasAt_L15 u a n (nI i) = nI j ∧ f_X9_goesTo_L32 t a n (nI i) = nI (100 + j)) := by
  intro n
  induction n with
  | zero => intro i h1 h2; omega
  | succ n ih =>
    intro i h1 h2
    have hR := lA hG.1
    rw [f_X0_aliasAt_L15, f_X9_goesTo_L32, f_als hG, eA hG.1, x_78, x_100, ci (by omega), ci (by omega)]
    by_cases c : nA u ≤ i
    · rw [if_pos ((le_c (by omega) (by omega)).mpr c), if_pos ((le_c (by omega) (by omega)).mpr c)]
      exact Or.inl ⟨rfl, rfl⟩
    · have c' : ¬ nI (nA u) ≤ nI i := fun q => c ((le_c (by omega) (by omega)).mp q)
      rw [if_neg c', if_neg c', (hG.2.2.1.2.2.2 i (by omega)).1]
      by_cases d : u 10 i = a
      · rw [if_pos d, if_pos d]
        exact Or.inr ⟨i, by omega, rfl, rfl⟩
      · rw [if_neg d, if_neg d, nI_1]
        exact ih (i + 1) (by omega) (by omega)
theorem goes {u : Blk} {t : Fn} (hG : GB u t) (a : Int32) : (∃ r, r < nR u ∧ f_X0_registerAt u a = nI r ∧ f_X0_aliasAt u a = -9 ∧ f_X0_registerBehind u a = nI r ∧ f_X9_goesTo t a = nI r) ∨ (f_X0_registerAt u a = -9 ∧ ∃ j, j < nA u ∧ f_X0_aliasAt u a = nI j ∧ f_X0_registerBehind u a = nI (ar u j) ∧ f_X9_goesTo t a = nI (100 + j)) ∨ (f_X0_registerAt u a = -9 ∧ f_X0_aliasAt u a = -9 ∧ f_X0_registerBehind u a = -9 ∧ f_X9_goesTo t a = -9) := by
  have hR := lR hG.1
  have hA := lA hG.1
  rcases go_R hG a 4000 0 (by omega) (by omega) with ⟨h1, h2⟩ | ⟨r, hr, h1, h2⟩
  · right
    have e1 : f_X0_registerAt u a = -9 := h1
    have e2 : f_X0_aliasAt u a = f_X0_aliasAt_L15 u a 4000 0 := by unfold f_X0_aliasAt; rw [if_pos e1]
    rcases go_A hG a 4000 0 (by omega) (by omega) with ⟨g1, g2⟩ | ⟨j, hj, g1, g2⟩
    · have e3 : f_X0_aliasAt u a = -9 := e2.trans g1
      refine Or.inr ⟨e1, e3, ?_, h2.trans g2⟩
      unfold f_X0_registerBehind
      rw [if_pos e3, e1]
    · have e3 : f_X0_aliasAt u a = nI j := e2.trans g1
      refine Or.inl ⟨e1, j, hj, e3, ?_, h2.trans g2⟩
      unfold f_X0_registerBehind
      rw [e3, if_neg (nI_n9 (by omega)), ci (by omega), eAr hG.1]
  · left
    have e1 : f_X0_registerAt u a = nI r := h1
    have e3 : f_X0_aliasAt u a = -9 := by unfold f_X0_aliasAt; rw [if_neg (by rw [e1]; exact nI_n9 (by omega))]
    refine ⟨r, hr, e1, e3, ?_, h2⟩
    unfold f_X0_registerBehind
    rw [if_pos e3, e1]
theorem rof_r {t : Fn} {r : Nat} (h : r < 100) : f_X9_registerOf t (nI r) = nI r := if_neg (fun q => by have := (le_c (a := 100) (b := r) (by omega) (by omega)).mp q; omega)
theorem rof_a {u : Blk} {t : Fn} (hG : GB u t) {j : Nat} (h : j < nA u) : f_X9_registerOf t (nI (100 + j)) = nI (ar u j) := by
  have hA := lA hG.1
  unfold f_X9_registerOf
  rw [if_pos (show (100 : Int32) ≤ nI (100 + j) from (le_c (a := 100) (by omega) (by omega)).mpr (by omega)), x_82, show nI (82 + (100 + j)) - (100 : Int32) = nI (82 + j) from by
    have := pk_sub (a := 82 + (100 + j)) (b := 100) (by omega)
    rw [show 82 + (100 + j) - 100 = 82 + j by omega] at this
    exact this, ci (by omega), (hG.2.2.1.2.2.2 j h).2.1, eAr hG.1]
/-- the summary: register behind, both ways -/
theorem goes2 {u : Blk} {t : Fn} (hG : GB u t) (a : Int32) : (f_X0_registerBehind u a = -9 ∧ f_X9_goesTo t a = -9 ∧ f_X0_registerAt u a = -9) ∨ (∃ r, r < nR u ∧ f_X0_registerBehind u a = nI r ∧ f_X9_goesTo t a ≠ -9 ∧ f_X9_registerOf t (f_X9_goesTo t a) = nI r) := by
  have hR := lR hG.1
  have hA := lA hG.1
  rcases goes hG a with ⟨r, hr, h1, h2, h3, h4⟩ | ⟨h1, j, hj, h2, h3, h4⟩ | ⟨h1, h2, h3, h4⟩
  · exact Or.inr ⟨r, hr, h3, by rw [h4]; exact nI_n9 (by omega), by rw [h4]; exact rof_r (by omega)⟩
  · exact Or.inr ⟨ar u j, (hG.2.1.2.2.2 j hj).1, h3, by rw [h4]; exact nI_n9 (by omega), by rw [h4]; exact rof_a hG hj⟩
  · exact Or.inl ⟨h3, h4, h1⟩
theorem lk_eq {u : Blk} {t : Fn} (hG : GB u t) {m : Nat} {c h e k w : Fn} (hm : m ≤ 135) (hD : DR u m c h e k w) {r : Nat} (hr : r < nR u) : f_X1_isLocked c u (nI r) = f_X9_isLocked t w (nI m) (nI r) := by
  have hR := lR hG.1
  have hF := lF hG.1
  unfold f_X1_isLocked f_X9_isLocked
  rw [x_6, ci (by omega), ci (by omega), (hG.2.2.1.2.1 r hr).2.1]
  rcases (hG.2.1.2.2.1 r hr).1 with z | ⟨f, hf, z⟩
  · rw [z, iw_9, if_pos rfl, if_pos rfl]
  · rw [z, eF hG.1, iw_in hf (by omega), if_neg q_10, if_neg (nI_n9 (by omega)), nI_add, ci (by omega), val_eq (by omega), (hD.1 f hf).1]
