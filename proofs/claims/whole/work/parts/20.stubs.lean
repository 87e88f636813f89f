set_option maxHeartbeats 4000000 in
set_option maxRecDepth 100000 in
theorem c_X9_in (l : Launch) (G : Gm) (A : Nat → Prop) (Ω : Om) (x0 : Int32) (x1 : Int32) (x2 : Int32) : Met l yX9_in (wz yX9_in cX9_in 3 (some .boolean)) ({ frames := 0, cells := 0, slots := 0, locals := 0 } : Room) (va_Pc [.int x0, .int x1, .int x2] (oS G A Ω)) (va_Qi (fun (r : Int32) (Ω1 : Om) => (r = (f_X9_in x0 x1 x2) ∧ (r = 0 ∨ r = 1)) ∧ Ω1 = Ω) (oB G A) A) 0 0 A := by
  sorry
