/-! class against model: bits (the first rows: the kit's BITS, family bt) -/
def bt (x : Int32) (i : Nat) : Bool := x.toBitVec.getLsbD i
theorem b_ext {x y : Int32} (h : ∀ i, i < 32 → bt x i = bt y i) : x = y := Int32.toBitVec_inj.mp (BitVec.eq_of_getLsbD_eq (fun i hi => h i hi))
theorem b_or (x y : Int32) (i : Nat) : bt (x ||| y) i = (bt x i || bt y i) := by unfold bt; rw [Int32.toBitVec_or, BitVec.getLsbD_or]
theorem b_and (x y : Int32) (i : Nat) : bt (x &&& y) i = (bt x i && bt y i) := by unfold bt; rw [Int32.toBitVec_and, BitVec.getLsbD_and]
theorem b_xor (x y : Int32) (i : Nat) : bt (x ^^^ y) i = (bt x i ^^ bt y i) := by unfold bt; rw [Int32.toBitVec_xor, BitVec.getLsbD_xor]
theorem b_big {x : Int32} {i : Nat} (h : 32 ≤ i) : bt x i = false := BitVec.getLsbD_of_ge _ _ h
theorem b_255 (i : Nat) : bt 255 i = decide (i < 8) := by
  rcases Nat.lt_or_ge i 32 with h | h
  · exact (by decide +kernel : ∀ i, i < 32 → bt 255 i = decide (i < 8)) i h
  · rw [b_big h, decide_eq_false (by omega)]
theorem b_m1 : ∀ i, i < 32 → bt (-1) i = true := by decide +kernel
theorem b_0 (i : Nat) : bt 0 i = false := BitVec.getLsbD_zero
theorem s_l : ∀ n, n < 32 → ((nI n &&& 31).toBitVec.smod 32).toNat = n := by decide +kernel
theorem s_u : ∀ n, n < 32 → (((nI n).toUInt32 &&& Int32.toUInt32 31).toBitVec % 32).toNat = n := by decide +kernel
theorem b_shl (n : Nat) (hn : n < 32) (x : Int32) {i : Nat} (hi : i < 32) : bt (x <<< (nI n &&& 31)) i = (decide (n ≤ i) && bt x (i - n)) := by
  unfold bt
  rw [Int32.toBitVec_shiftLeft]
  show (x.toBitVec <<< ((nI n &&& 31).toBitVec.smod 32).toNat).getLsbD i = _
  rw [s_l n hn, BitVec.getLsbD_shiftLeft]
  rcases Nat.lt_or_ge i n with h | h
  · simp [h, Nat.not_le.mpr h]
  · simp [hi, h, Nat.not_lt.mpr h]
theorem b_sshr (n : Nat) (hn : n < 32) (x : Int32) {i : Nat} (hi : i < 32) : bt (x >>> (nI n &&& 31)) i = if n + i < 32 then bt x (n + i) else bt x 31 := by
  unfold bt
  rw [Int32.toBitVec_shiftRight]
  show (x.toBitVec.sshiftRight ((nI n &&& 31).toBitVec.smod 32).toNat).getLsbD i = _
  rw [s_l n hn, BitVec.getLsbD_sshiftRight, BitVec.msb_eq_getLsbD_last]
  simp [hi]
/-! masks of a field's bits -/
def msk (l h : Nat) : Int32 := ((2 : Int32) <<< (nI h &&& 31)) - ((1 : Int32) <<< (nI l &&& 31))
theorem msk_most : ∀ h, h < 8 → ∀ l, l < h + 1 → msk l h >>> (nI l &&& 31) = ((1 : Int32) <<< (((nI h - nI l) + 1) &&& 31)) - 1 := by decide +kernel
theorem msk_top : ∀ h, h < 8 → ∀ l, l < h + 1 → msk l h >>> (nI l &&& 31) = nI (2 ^ (h - l + 1) - 1) := by decide +kernel
theorem msk_low : ∀ h, h < 8 → ∀ l, l < h + 1 → ∀ i, i < l → bt (msk l h) i = false := by decide +kernel
theorem msk_put : ∀ h, h < 8 → ∀ l, l < h + 1 → ∀ v, v < 2 ^ (h - l + 1) → ((nI v <<< (nI l &&& 31)) &&& msk l h) >>> (nI l &&& 31) = nI v := by decide +kernel
theorem msk_back : ∀ h, h < 8 → ∀ l, l < h + 1 → (((1 : Int32) <<< (((nI h - nI l) + 1) &&& 31)) - 1) <<< (nI l &&& 31) = msk l h := by decide +kernel
theorem msk_cnt : ∀ h, h < 8 → ∀ l, l < h + 1 → f_J6_bitCount_0f7a4 (msk l h) = (nI h - nI l) + 1 := by decide +kernel
theorem q_put (c b m : Int32) : ((c &&& (m ^^^ (-1 : Int32))) ||| (b &&& m)) &&& m = b &&& m := by
  apply b_ext; intro i hi
  simp only [b_and, b_or, b_xor, b_m1 i hi]
  cases bt c i <;> cases bt b i <;> cases bt m i <;> rfl
theorem q_dis (c b m M : Int32) (h : m &&& M = 0) : ((c &&& (m ^^^ (-1 : Int32))) ||| (b &&& m)) &&& M = c &&& M := by
  apply b_ext; intro i hi
  have h1 := congrArg (fun z => bt z i) h
  simp only [b_and, b_0] at h1
  simp only [b_and, b_or, b_xor, b_m1 i hi]
  revert h1
  cases bt c i <;> cases bt b i <;> cases bt m i <;> cases bt M i <;> simp
theorem q_m1s (s : Nat) (hs : s < 32) : (-1 : Int32) >>> (nI s &&& 31) = (-1 : Int32) := (by decide +kernel : ∀ s, s < 32 → (-1 : Int32) >>> (nI s &&& 31) = (-1 : Int32)) s hs
/-- a value's bits under a mask, shifted down -/
theorem q_clr (c v m s : Int32) (h1 : (-1 : Int32) >>> s = (-1 : Int32)) : ((c &&& (v ^^^ (-1 : Int32))) &&& m) >>> s = ((c &&& m) >>> s) &&& (((v &&& m) >>> s) ^^^ (-1 : Int32)) := by
  simp only [Int32.shiftRight_and, Int32.shiftRight_xor, h1]
  apply b_ext; intro i hi
  simp only [b_and, b_or, b_xor, b_m1 i hi]
  cases bt (c >>> s) i <;> cases bt (v >>> s) i <;> cases bt (m >>> s) i <;> rfl
theorem q_set (c v m s : Int32) : ((c ||| v) &&& m) >>> s = ((c &&& m) >>> s) ||| ((v &&& m) >>> s) := by
  simp only [Int32.shiftRight_and, Int32.shiftRight_or]
  apply b_ext; intro i hi
  simp only [b_and, b_or, b_xor]
  cases bt (c >>> s) i <;> cases bt (v >>> s) i <;> cases bt (m >>> s) i <;> rfl
theorem q_tog (c v m s : Int32) : ((c ^^^ v) &&& m) >>> s = ((c &&& m) >>> s) ^^^ ((v &&& m) >>> s) := by
  simp only [Int32.shiftRight_and, Int32.shiftRight_xor]
  apply b_ext; intro i hi
  simp only [b_and, b_or, b_xor]
  cases bt (c >>> s) i <;> cases bt (v >>> s) i <;> cases bt (m >>> s) i <;> rfl
theorem q_back (c : Int32) {l h : Nat} (hh : h < 8) (hl : l < h + 1) : ((c &&& msk l h) >>> (nI l &&& 31)) <<< (nI l &&& 31) = c &&& msk l h := by
  apply b_ext; intro i hi
  rw [b_shl l (by omega) _ hi]
  rcases Nat.lt_or_ge i l with z | z
  · rw [b_and, msk_low h hh l hl i z, decide_eq_false (by omega)]; simp
  · rw [decide_eq_true z, b_sshr l (by omega) _ (by omega), if_pos (by omega), show l + (i - l) = i by omega]; simp
theorem q_one (x : Int32) : x &&& 1 = 0 ∨ x &&& 1 = 1 := by
  cases hb : bt x 0
  · left
    apply b_ext; intro i hi
    rw [b_and, b_0]
    rcases Nat.eq_zero_or_pos i with z | z
    · subst z; rw [hb]; rfl
    · rw [(by decide +kernel : ∀ i, i < 32 → 0 < i → bt 1 i = false) i hi z]; simp
  · right
    apply b_ext; intro i hi
    rw [b_and]
    rcases Nat.eq_zero_or_pos i with z | z
    · subst z; rw [hb]; simp
    · rw [(by decide +kernel : ∀ i, i < 32 → 0 < i → bt 1 i = false) i hi z]; simp
theorem q_10 : (1 : Int32) ≠ 0 := by decide
/-- a bit told both ways -/
theorem q_bit (x : Int32) {l : Nat} (hl : l < 31) : ((x >>> (nI l &&& 31)) &&& 1) = 0 ↔ (x &&& ((1 : Int32) <<< (nI l &&& 31))) = 0 := by
  have e1 : ∀ i, i < 32 → bt ((x >>> (nI l &&& 31)) &&& 1) i = (decide (i = 0) && bt x l) := by
    intro i hi
    rw [b_and]
    rcases Nat.eq_zero_or_pos i with z | z
    · subst z
      rw [b_sshr l (by omega) _ hi, if_pos (by omega), Nat.add_zero, show bt 1 0 = true by decide +kernel]; simp
    · rw [(by decide +kernel : ∀ i, i < 32 → 0 < i → bt 1 i = false) i hi z, decide_eq_false (by omega)]; simp
  have e2 : ∀ i, i < 32 → bt (x &&& ((1 : Int32) <<< (nI l &&& 31))) i = (decide (i = l) && bt x l) := by
    intro i hi
    rw [b_and, b_shl l (by omega) _ hi]
    by_cases z : i = l
    · subst z; rw [Nat.sub_self, show bt 1 0 = true by decide +kernel]; simp
    · rw [decide_eq_false z]
      by_cases y : l ≤ i
      · rw [(by decide +kernel : ∀ i, i < 32 → 0 < i → bt 1 i = false) (i - l) (by omega) (by omega)]; simp
      · rw [decide_eq_false y]; simp
  constructor
  · intro h
    have := e1 0 (by omega)
    rw [h, b_0] at this
    apply b_ext; intro i hi
    rw [e2 i hi, b_0]
    simp at this
    simp [this]
  · intro h
    have := e2 l (by omega)
    rw [h, b_0] at this
    apply b_ext; intro i hi
    rw [e1 i hi, b_0]
    simp at this
    simp [this]
/-- what is told of a register, step by step -/
theorem q_tell0 (s u m : Int32) (T : Int32) (h : T = s &&& u) (h2 : s &&& m = s &&& m) : T &&& (m ^^^ (-1 : Int32)) = (s &&& (m ^^^ (-1 : Int32))) &&& u := by
  subst h
  apply b_ext; intro i hi
  simp only [b_and, b_or, b_xor, b_m1 i hi]
  cases bt s i <;> cases bt u i <;> cases bt m i <;> rfl
theorem q_tellW (s u m T : Int32) (h : T = s &&& u) (hd : u &&& m = 0) : T = (s &&& (m ^^^ (-1 : Int32))) &&& (u ||| m) := by
  subst h
  apply b_ext; intro i hi
  have h1 := congrArg (fun z => bt z i) hd
  simp only [b_and, b_0] at h1
  simp only [b_and, b_or, b_xor, b_m1 i hi]
  revert h1
  cases bt s i <;> cases bt u i <;> cases bt m i <;> simp
theorem q_tellN (s u m T : Int32) (h : T = s &&& u) : T ||| (s &&& m) = s &&& (u ||| m) := by
  subst h
  apply b_ext; intro i hi
  simp only [b_and, b_or]
  cases bt s i <;> cases bt u i <;> cases bt m i <;> rfl
theorem q_andor (u m M : Int32) (h1 : u &&& M = 0) (h2 : m &&& M = 0) : (u ||| m) &&& M = 0 := by
  apply b_ext; intro i hi
  have e1 := congrArg (fun z => bt z i) h1
  have e2 := congrArg (fun z => bt z i) h2
  simp only [b_and, b_0] at e1 e2
  simp only [b_and, b_or, b_0]
  revert e1 e2
  cases bt u i <;> cases bt m i <;> cases bt M i <;> simp
theorem q_andn (s m M : Int32) (h2 : m &&& M = 0) : (s &&& (m ^^^ (-1 : Int32))) &&& M = s &&& M := by
  apply b_ext; intro i hi
  have e2 := congrArg (fun z => bt z i) h2
  simp only [b_and, b_0] at e2
  simp only [b_and, b_xor, b_m1 i hi]
  revert e2
  cases bt s i <;> cases bt m i <;> cases bt M i <;> simp
theorem q_sub (c s M : Int32) (h : s &&& c = s) (h2 : c &&& M = 0) : s &&& M = 0 := by
  rw [← h, Int32.and_assoc, h2, Int32.and_zero]
theorem q_split (s u : Int32) (h : s &&& (u ^^^ (-1 : Int32)) = 0) : s &&& u = s := by
  apply b_ext; intro i hi
  have e2 := congrArg (fun z => bt z i) h
  simp only [b_and, b_0, b_xor, b_m1 i hi] at e2
  simp only [b_and]
  revert e2
  cases bt s i <;> cases bt u i <;> simp
theorem q_notor (u m : Int32) : m &&& ((u ||| m) ^^^ (-1 : Int32)) = 0 := by
  apply b_ext; intro i hi
  simp only [b_and, b_or, b_xor, b_m1 i hi, b_0]
  cases bt u i <;> cases bt m i <;> rfl
theorem q_notor2 (u m M : Int32) (h : M &&& (u ^^^ (-1 : Int32)) = 0) : M &&& ((u ||| m) ^^^ (-1 : Int32)) = 0 := by
  apply b_ext; intro i hi
  have e2 := congrArg (fun z => bt z i) h
  simp only [b_and, b_0, b_xor, b_m1 i hi] at e2
  simp only [b_and, b_or, b_xor, b_m1 i hi, b_0]
  revert e2
  cases bt u i <;> cases bt m i <;> cases bt M i <;> simp
theorem q_sneg (s m c : Int32) (h : s &&& c = s) : (s &&& (m ^^^ (-1 : Int32))) &&& c = s &&& (m ^^^ (-1 : Int32)) := by
  apply b_ext; intro i hi
  have e2 := congrArg (fun z => bt z i) h
  simp only [b_and] at e2
  simp only [b_and, b_xor, b_m1 i hi]
  revert e2
  cases bt s i <;> cases bt m i <;> cases bt c i <;> simp
