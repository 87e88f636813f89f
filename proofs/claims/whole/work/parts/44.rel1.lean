/-! class against model: text -/
theorem z0 : (0 : Int32).toInt = 0 := by decide
theorem e_within (x : Int32) : (f_X8_isWithin x 256 = 0) ↔ (f_X9_in x 0 255 = 0) := by
  have h1 : (256 : Int32).toInt = 256 := by decide
  have h2 : (255 : Int32).toInt = 255 := by decide
  have h0 : (0 : Int32).toInt = 0 := by decide
  unfold f_X8_isWithin f_X9_in
  repeat' split
  all_goals simp only [Int32.lt_iff_toInt_lt, Int32.le_iff_toInt_le, h1, h2, h0] at *
  all_goals first | decide | (exfalso; omega) | omega
theorem e_type {t : Fn} {n x : Int32} (hn : 0 ≤ n.toInt ∧ n.toInt ≤ 160) : f_X8_type t n x = f_X9_type t n x := by
  have h1 : (160 : Int32).toInt = 160 := by decide
  unfold f_X8_type f_X9_type
  by_cases c : f_X8_isWithin x 256 = 0
  · rw [if_pos c, if_pos ((e_within x).mp c)]
  · rw [if_neg c, if_neg (fun h => c ((e_within x).mpr h))]
    by_cases d : n < 160
    · have d2 : n ≠ 160 := fun h => by rw [h] at d; exact absurd d (by decide)
      have d3 : ¬ (160 : Int32) ≤ n := fun h => by
        have := Int32.lt_iff_toInt_lt.mp d
        have := Int32.le_iff_toInt_le.mp h
        omega
      rw [if_pos d, if_neg d2]
      unfold f_X8_type_C36 f_X6_append
      rw [if_neg d3]
    · have d2 : n = 160 := Int32.toInt_inj.mp (by
        have : ¬ n.toInt < (160 : Int32).toInt := fun h => d (Int32.lt_iff_toInt_lt.mpr h)
        omega)
      rw [if_neg d, if_pos d2]
theorem e_clear {n : Int32} : f_X8_clear n = f_X9_clear n := rfl
theorem ok_type {t : Fn} {n x : Int32} (hn : 0 ≤ n.toInt ∧ n.toInt ≤ 160) : 0 ≤ (f_X9_type t n x).2.2.toInt ∧ (f_X9_type t n x).2.2.toInt ≤ 160 := by
  have h1 : (160 : Int32).toInt = 160 := by decide
  have h2 : (1 : Int32).toInt = 1 := by decide
  unfold f_X9_type
  split
  · exact hn
  · split
    · exact hn
    · rename_i c
      have d : n.toInt ≠ 160 := fun h => c (Int32.toInt_inj.mp (by rw [h, h1]))
      have e : (n + 1).toInt = n.toInt + (1 : Int32).toInt := fb_addI (by omega) (by omega)
      show 0 ≤ (n + 1).toInt ∧ (n + 1).toInt ≤ 160
      omega
