/-! class against model: text -/
theorem z0 : (0 : Int32).toInt = 0 := by decide
theorem e_within (x : Int32) : (f_X8_isWithin x 256 = 0) ↔ (f_X9_in x 0 255 = 0) := by
  have h1 : (256 : Int32).toInt = 256 := by decide
  have h2 : (255 : Int32).toInt = 255 := by decide
  have h0 : (0 : Int32).toInt = 0 := by decide
  unfold f_X8_isWithin f_X9_in
  repeat' split
  all_goals simp only [Int32.lt_iff_toInt_lt, Int32.le_iff_toInt_le, h1, h2, h0] at *
  all_goals first | decide | (exfalso; omega) | omega
