/-! a new object is the picture k0 -/
set_option maxHeartbeats 2000000 in
theorem m_init (l : Launch) (G : Gm) (A : Nat → Prop) (Ω : Om) (x : Nat) (hA0 : ∀ q, x ≤ q → A q) (k_0 : Ω x = some (.inr (8, [.null, .null, .null, .null, .null, .null, .null, .null]))) : Met l yX8_init (wz yX8_init cX8_init 2 none) ({ frames := 4, cells := 174, slots := 1682, locals := 73 } : Room) (va_Pc [.ref x] (oP G A Ω (x + 1))) (va_Qv (fun Ω1 : Om => inMB G Ω1 x k0 ∧ ∀ q : Nat, q < x → Ω1 q = Ω q) (oBz G A (x + 175)) A) 174 1682 A := by
  refine Met.post (c_X8_init l G A Ω x hA0 k_0) (va_Qv.post ?_)
  intro Ω1 h1
  obtain ⟨h_0, h_t, h_p, h_n, h_h, h_a, h_i, h_v, h_b, h_s0, h_s1, hE⟩ := h1
  obtain ⟨h_p1, h_p2, h_p3⟩ := h_p
  rw [show x + 3 + 14 = x + 17 from by omega] at h_p1 h_p3
  rw [show x + 3 + 1 = x + 4 from by omega] at h_p1 h_p2
  obtain ⟨n1, n2, n3, n4⟩ := h_n
  rw [show x + 18 + 1 = x + 19 from by omega] at n2
  rw [show x + 18 + 6 = x + 24 from by omega] at n3
  rw [show x + 18 + 11 = x + 29 from by omega] at n4
  refine ⟨⟨x + 132, x + 4, Or.inr ⟨rfl, rfl⟩, h_0, h_t, h_p1, h_p3, n1, n2, n3, n4, h_h, h_a, h_i, h_v, h_b, h_p2, fun i hi => ?_⟩, hE⟩
  obtain rfl | rfl : i = 0 ∨ i = 1 := by omega
  · rw [show x + 145 + 15 * 0 = x + 145 from by omega]; exact h_s0
  · rw [show x + 145 + 15 * 1 = x + 160 from by omega]; exact h_s1
