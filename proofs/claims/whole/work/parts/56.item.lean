/-! class against model: blocks under reading -/
def GD (u : Blk) (d : Fn) : Prop := BlkInv u ∧ BW u ∧ BR u d
theorem nR_e {u : Blk} {n : Nat} (h : u 0 0 = nI n) (hn : n < 100000) : nR u = n := by unfold nR; rw [h, ci hn]
theorem nF_e {u : Blk} {n : Nat} (h : u 0 1 = nI n) (hn : n < 100000) : nF u = n := by unfold nF; rw [h, ci hn]
theorem nA_e {u : Blk} {n : Nat} (h : u 0 2 = nI n) (hn : n < 100000) : nA u = n := by unfold nA; rw [h, ci hn]
theorem bi_of {u : Blk} {R F A : Nat} (h0 : u 0 0 = nI R) (h1 : u 0 1 = nI F) (h2 : u 0 2 = nI A) (hR : R ≤ 6) (hF : F ≤ 12) (hA : A ≤ 4) (h4 : ∀ k, 0 ≤ (u 4 k).toInt ∧ (u 4 k).toInt < 6) (h11 : ∀ k, 0 ≤ (u 11 k).toInt ∧ (u 11 k).toInt < 6) : BlkInv u := by
  refine ⟨?_, ?_, ?_, h4, h11⟩
  · rw [h0, ti_c (by omega)]; omega
  · rw [h1, ti_c (by omega)]; omega
  · rw [h2, ti_c (by omega)]; omega
theorem gd_reg {u u' : Blk} {d d' : Fn} (h : GD u d) (hR : nR u < 6) {v : Int32} (e0 : u' 0 0 = nI (nR u + 1) ∧ u' 0 1 = u 0 1 ∧ u' 0 2 = u 0 2) (e1 : u' 1 = upd (u 1) (nR u) v) (e2 : u' 2 = upd (u 2) (nR u) (-9)) (e3 : u' 3 = upd (u 3) (nR u) (-9)) (e : ∀ q, 4 ≤ q → u' q = u q)
    (hd : ∀ j, d' j = if j = 90 then nI (nR u + 1) else if j = 12 + nR u then -9 else if j = 6 + nR u then -9 else if j = nR u then v else d j) : GD u' d' := by
  obtain ⟨hI, hW, hB⟩ := h
  have lF := lF hI
  have lA := lA hI
  have r' : nR u' = nR u + 1 := nR_e e0.1 (by omega)
  have f' : nF u' = nF u := by unfold nF; rw [e0.2.1]
  have a' : nA u' = nA u := by unfold nA; rw [e0.2.2]
  have o' : ∀ k, ow u' k = ow u k := fun k => by unfold ow; rw [e 4 (by omega)]
  have ar' : ∀ k, ar u' k = ar u k := fun k => by unfold ar; rw [e 11 (by omega)]
  have dk : ∀ j, j ≠ 90 → j ≠ 12 + nR u → j ≠ 6 + nR u → j ≠ nR u → d' j = d j := fun j a b c x => by rw [hd, if_neg a, if_neg b, if_neg c, if_neg x]
  refine ⟨bi_of e0.1 (e0.2.1.trans (eF hI)) (e0.2.2.trans (eA hI)) (by omega) (by omega) (by omega) (fun k => by rw [e 4 (by omega)]; exact BI_owner hI k) (fun k => by rw [e 11 (by omega)]; exact BI_areg hI k), ⟨fun f hf => ?_, fun f g hf hg => ?_, fun r hr => ?_, fun a ha => ?_⟩, ⟨?_, fun r hr => ?_, fun f hf => ?_, fun a ha => ?_⟩⟩
  · rw [f'] at hf
    have := hW.1 f hf
    rw [o', r', e 6 (by omega), e 7 (by omega), e 8 (by omega), e 9 (by omega)]
    exact ⟨by omega, this.2⟩
  · rw [f'] at hf hg
    rw [o', o', e 8 (by omega)]
    exact hW.2.1 f g hf hg
  · rw [r'] at hr
    rw [f', e2, e3]
    by_cases z : r = nR u
    · rw [z, upd_s, upd_s]; exact ⟨Or.inl rfl, Or.inl rfl⟩
    · rw [upd_o z, upd_o z]; exact hW.2.2.1 r (by omega)
  · rw [a'] at ha
    have := hW.2.2.2 a ha
    rw [ar', r', e 12 (by omega)]
    exact ⟨by omega, this.2⟩
  · refine ⟨?_, ?_, ?_⟩
    · rw [hd, if_pos rfl, e0.1]
    · rw [dk 91 (by omega) (by omega) (by omega) (by omega), hB.1.2.1, e0.2.1]
    · rw [dk 92 (by omega) (by omega) (by omega) (by omega), hB.1.2.2, e0.2.2]
  · rw [r'] at hr
    rw [e1, e2, e3]
    by_cases z : r = nR u
    · rw [z, upd_s, upd_s, upd_s]
      refine ⟨?_, ?_, ?_⟩
      · rw [hd, if_neg (by omega), if_neg (by omega), if_neg (by omega), if_pos rfl]
      · rw [hd, if_neg (by omega), if_neg (by omega), if_pos rfl]
      · rw [hd, if_neg (by omega), if_pos rfl]
    · rw [upd_o z, upd_o z, upd_o z, dk r (by omega) (by omega) (by omega) (by omega), dk (6 + r) (by omega) (by omega) (by omega) (by omega), dk (12 + r) (by omega) (by omega) (by omega) (by omega)]
      exact hB.2.1 r (by omega)
  · rw [f'] at hf
    rw [e 4 (by omega), e 5 (by omega), e 6 (by omega), e 7 (by omega), e 9 (by omega), dk (18 + f) (by omega) (by omega) (by omega) (by omega), dk (30 + f) (by omega) (by omega) (by omega) (by omega), dk (42 + f) (by omega) (by omega) (by omega) (by omega), dk (54 + f) (by omega) (by omega) (by omega) (by omega), dk (66 + f) (by omega) (by omega) (by omega) (by omega)]
    exact hB.2.2.1 f hf
  · rw [a'] at ha
    rw [e 10 (by omega), e 11 (by omega), e 12 (by omega), dk (78 + a) (by omega) (by omega) (by omega) (by omega), dk (82 + a) (by omega) (by omega) (by omega) (by omega), dk (86 + a) (by omega) (by omega) (by omega) (by omega)]
    exact hB.2.2.2 a ha
theorem gd_fld {u u' : Blk} {d d' : Fn} (h : GD u d) (hR : 0 < nR u) (hF : nF u < 12) {l hh n : Nat} {kd : Int32} (g1 : l < hh + 1) (g2 : hh < 8) (g3 : n < 2 ^ (hh - l + 1)) (dis : ∀ g, g < nF u → ow u g = nR u - 1 → u 8 g &&& msk l hh = 0)
    (e0 : u' 0 0 = u 0 0 ∧ u' 0 1 = nI (nF u + 1) ∧ u' 0 2 = u 0 2) (e4 : u' 4 = upd (u 4) (nF u) (nI (nR u - 1))) (e5 : u' 5 = upd (u 5) (nF u) kd) (e6 : u' 6 = upd (u 6) (nF u) (nI l)) (e7 : u' 7 = upd (u 7) (nF u) (nI hh)) (e8 : u' 8 = upd (u 8) (nF u) (msk l hh)) (e9 : u' 9 = upd (u 9) (nF u) (nI n)) (e : ∀ q, (1 ≤ q ∧ q ≤ 3) ∨ 10 ≤ q → u' q = u q)
    (hd : ∀ j, d' j = if j = 91 then nI (nF u + 1) else if j = 66 + nF u then nI n else if j = 54 + nF u then kd else if j = 42 + nF u then nI hh else if j = 30 + nF u then nI l else if j = 18 + nF u then nI (nR u - 1) else d j) : GD u' d' := by
  obtain ⟨hI, hW, hB⟩ := h
  have lR := lR hI
  have lA := lA hI
  have r' : nR u' = nR u := by unfold nR; rw [e0.1]
  have f' : nF u' = nF u + 1 := nF_e e0.2.1 (by omega)
  have a' : nA u' = nA u := by unfold nA; rw [e0.2.2]
  have on : ow u' (nF u) = nR u - 1 := by unfold ow; rw [e4, upd_s, ci (by omega)]
  have oo : ∀ k, k ≠ nF u → ow u' k = ow u k := fun k z => by unfold ow; rw [e4, upd_o z]
  have ar' : ∀ k, ar u' k = ar u k := fun k => by unfold ar; rw [e 11 (by omega)]
  have dk : ∀ j, j ≠ 91 → j ≠ 66 + nF u → j ≠ 54 + nF u → j ≠ 42 + nF u → j ≠ 30 + nF u → j ≠ 18 + nF u → d' j = d j := fun j a b c x y z => by rw [hd, if_neg a, if_neg b, if_neg c, if_neg x, if_neg y, if_neg z]
  refine ⟨bi_of (e0.1.trans (eR hI)) e0.2.1 (e0.2.2.trans (eA hI)) (by omega) (by omega) (by omega) (fun k => ?_) (fun k => by rw [e 11 (by omega)]; exact BI_areg hI k), ⟨fun f hf => ?_, fun f g hf hg z ho => ?_, fun r hr => ?_, fun a ha => ?_⟩, ⟨?_, fun r hr => ?_, fun f hf => ?_, fun a ha => ?_⟩⟩
  · rw [e4]
    by_cases z : k = nF u
    · rw [z, upd_s, ti_c (by omega)]; omega
    · rw [upd_o z]; exact BI_owner hI k
  · rw [r', e6, e7, e8, e9]
    by_cases z : f = nF u
    · rw [z, on, upd_s, upd_s, upd_s, upd_s]
      exact ⟨by omega, l, hh, g1, g2, rfl, rfl, rfl, n, g3, rfl⟩
    · rw [oo f z, upd_o z, upd_o z, upd_o z, upd_o z]; exact hW.1 f (by omega)
  · rw [f'] at hf hg
    rw [e8]
    by_cases x : f = nF u
    · have y : g ≠ nF u := fun q => z (by omega)
      rw [x, on, oo g y] at ho
      rw [x, upd_s, upd_o y, Int32.and_comm]
      exact dis g (by omega) ho.symm
    · by_cases y : g = nF u
      · rw [y, on, oo f x] at ho
        rw [y, upd_s, upd_o x]
        exact dis f (by omega) ho
      · rw [oo f x, oo g y] at ho
        rw [upd_o x, upd_o y]
        exact hW.2.1 f g (by omega) (by omega) z ho
  · rw [r'] at hr
    rw [f', e 2 (by omega), e 3 (by omega)]
    obtain ⟨p1, p2⟩ := hW.2.2.1 r hr
    exact ⟨p1.imp_right (fun ⟨f, hf, q⟩ => ⟨f, by omega, q⟩), p2.imp_right (fun ⟨f, hf, q⟩ => ⟨f, by omega, q⟩)⟩
  · rw [a'] at ha
    rw [ar', r', e 12 (by omega)]
    exact hW.2.2.2 a ha
  · refine ⟨?_, ?_, ?_⟩
    · rw [dk 90 (by omega) (by omega) (by omega) (by omega) (by omega) (by omega), hB.1.1, e0.1]
    · rw [hd, if_pos rfl, e0.2.1]
    · rw [dk 92 (by omega) (by omega) (by omega) (by omega) (by omega) (by omega), hB.1.2.2, e0.2.2]
  · rw [r'] at hr
    rw [e 1 (by omega), e 2 (by omega), e 3 (by omega), dk r (by omega) (by omega) (by omega) (by omega) (by omega) (by omega), dk (6 + r) (by omega) (by omega) (by omega) (by omega) (by omega) (by omega), dk (12 + r) (by omega) (by omega) (by omega) (by omega) (by omega) (by omega)]
    exact hB.2.1 r hr
  · rw [e4, e5, e6, e7, e9]
    by_cases z : f = nF u
    · rw [z, upd_s, upd_s, upd_s, upd_s, upd_s]
      refine ⟨?_, ?_, ?_, ?_, ?_⟩
      · rw [hd, if_neg (by omega), if_neg (by omega), if_neg (by omega), if_neg (by omega), if_neg (by omega), if_pos rfl]
      · rw [hd, if_neg (by omega), if_neg (by omega), if_neg (by omega), if_neg (by omega), if_pos rfl]
      · rw [hd, if_neg (by omega), if_neg (by omega), if_neg (by omega), if_pos rfl]
      · rw [hd, if_neg (by omega), if_neg (by omega), if_pos rfl]
      · rw [hd, if_neg (by omega), if_pos rfl]
    · rw [f'] at hf
      rw [upd_o z, upd_o z, upd_o z, upd_o z, upd_o z, dk (18 + f) (by omega) (by omega) (by omega) (by omega) (by omega) (by omega), dk (30 + f) (by omega) (by omega) (by omega) (by omega) (by omega) (by omega), dk (42 + f) (by omega) (by omega) (by omega) (by omega) (by omega) (by omega), dk (54 + f) (by omega) (by omega) (by omega) (by omega) (by omega) (by omega), dk (66 + f) (by omega) (by omega) (by omega) (by omega) (by omega) (by omega)]
      exact hB.2.2.1 f (by omega)
  · rw [a'] at ha
    rw [e 10 (by omega), e 11 (by omega), e 12 (by omega), dk (78 + a) (by omega) (by omega) (by omega) (by omega) (by omega) (by omega), dk (82 + a) (by omega) (by omega) (by omega) (by omega) (by omega) (by omega), dk (86 + a) (by omega) (by omega) (by omega) (by omega) (by omega) (by omega)]
    exact hB.2.2.2 a ha
theorem gd_als {u u' : Blk} {d d' : Fn} (h : GD u d) (hA : nA u < 4) {r : Nat} {ad kd : Int32} (hr : r < nR u) (hk : kd ≠ -9)
    (e0 : u' 0 0 = u 0 0 ∧ u' 0 1 = u 0 1 ∧ u' 0 2 = nI (nA u + 1)) (e10 : u' 10 = upd (u 10) (nA u) ad) (e11 : u' 11 = upd (u 11) (nA u) (nI r)) (e12 : u' 12 = upd (u 12) (nA u) kd) (e : ∀ q, 1 ≤ q → q ≤ 9 → u' q = u q)
    (hd : ∀ j, d' j = if j = 92 then nI (nA u + 1) else if j = 86 + nA u then kd else if j = 82 + nA u then nI r else if j = 78 + nA u then ad else d j) : GD u' d' := by
  obtain ⟨hI, hW, hB⟩ := h
  have lR := lR hI
  have lF := lF hI
  have r' : nR u' = nR u := by unfold nR; rw [e0.1]
  have f' : nF u' = nF u := by unfold nF; rw [e0.2.1]
  have a' : nA u' = nA u + 1 := nA_e e0.2.2 (by omega)
  have o' : ∀ k, ow u' k = ow u k := fun k => by unfold ow; rw [e 4 (by omega) (by omega)]
  have dk : ∀ j, j ≠ 92 → j ≠ 86 + nA u → j ≠ 82 + nA u → j ≠ 78 + nA u → d' j = d j := fun j a b c x => by rw [hd, if_neg a, if_neg b, if_neg c, if_neg x]
  refine ⟨bi_of (e0.1.trans (eR hI)) (e0.2.1.trans (eF hI)) e0.2.2 (by omega) (by omega) (by omega) (fun k => by rw [e 4 (by omega) (by omega)]; exact BI_owner hI k) (fun k => ?_), ⟨fun f hf => ?_, fun f g hf hg => ?_, fun q hq => ?_, fun a ha => ?_⟩, ⟨?_, fun q hq => ?_, fun f hf => ?_, fun a ha => ?_⟩⟩
  · rw [e11]
    by_cases z : k = nA u
    · rw [z, upd_s, ti_c (by omega)]; omega
    · rw [upd_o z]; exact BI_areg hI k
  · rw [f'] at hf
    rw [o', r', e 6 (by omega) (by omega), e 7 (by omega) (by omega), e 8 (by omega) (by omega), e 9 (by omega) (by omega)]
    exact hW.1 f hf
  · rw [f'] at hf hg
    rw [o', o', e 8 (by omega) (by omega)]
    exact hW.2.1 f g hf hg
  · rw [r'] at hq
    rw [f', e 2 (by omega) (by omega), e 3 (by omega) (by omega)]
    exact hW.2.2.1 q hq
  · rw [r', e12]
    unfold ar
    rw [e11]
    by_cases z : a = nA u
    · rw [z, upd_s, upd_s, ci (by omega)]; exact ⟨hr, hk⟩
    · rw [upd_o z, upd_o z]; exact hW.2.2.2 a (by omega)
  · refine ⟨?_, ?_, ?_⟩
    · rw [dk 90 (by omega) (by omega) (by omega) (by omega), hB.1.1, e0.1]
    · rw [dk 91 (by omega) (by omega) (by omega) (by omega), hB.1.2.1, e0.2.1]
    · rw [hd, if_pos rfl, e0.2.2]
  · rw [r'] at hq
    rw [e 1 (by omega) (by omega), e 2 (by omega) (by omega), e 3 (by omega) (by omega), dk q (by omega) (by omega) (by omega) (by omega), dk (6 + q) (by omega) (by omega) (by omega) (by omega), dk (12 + q) (by omega) (by omega) (by omega) (by omega)]
    exact hB.2.1 q hq
  · rw [f'] at hf
    rw [e 4 (by omega) (by omega), e 5 (by omega) (by omega), e 6 (by omega) (by omega), e 7 (by omega) (by omega), e 9 (by omega) (by omega), dk (18 + f) (by omega) (by omega) (by omega) (by omega), dk (30 + f) (by omega) (by omega) (by omega) (by omega), dk (42 + f) (by omega) (by omega) (by omega) (by omega), dk (54 + f) (by omega) (by omega) (by omega) (by omega), dk (66 + f) (by omega) (by omega) (by omega) (by omega)]
    exact hB.2.2.1 f hf
  · rw [e10, e11, e12]
    by_cases z : a = nA u
    · rw [z, upd_s, upd_s, upd_s]
      refine ⟨?_, ?_, ?_⟩
      · rw [hd, if_neg (by omega), if_neg (by omega), if_neg (by omega), if_pos rfl]
      · rw [hd, if_neg (by omega), if_neg (by omega), if_pos rfl]
      · rw [hd, if_neg (by omega), if_pos rfl]
    · rw [a'] at ha
      rw [upd_o z, upd_o z, upd_o z, dk (78 + a) (by omega) (by omega) (by omega) (by omega), dk (82 + a) (by omega) (by omega) (by omega) (by omega), dk (86 + a) (by omega) (by omega) (by omega) (by omega)]
      exact hB.2.2.2 a (by omega)
theorem gd_lnk {u u' : Blk} {d d' : Fn} (h : GD u d) {w r f : Nat} (hw : w = 2 ∨ w = 3) (hr : r < nR u) (hf : f < nF u) (ew : u' w = upd (u w) r (nI f)) (e : ∀ q, q ≠ w → u' q = u q) (hd : ∀ j, d' j = if j = (if w = 2 then 6 else 12) + r then nI f else d j) : GD u' d' := by
  obtain ⟨hI, hW, hB⟩ := h
  have lR := lR hI
  have lF := lF hI
  have lA := lA hI
  have r' : nR u' = nR u := by unfold nR; rw [e 0 (by omega)]
  have f' : nF u' = nF u := by unfold nF; rw [e 0 (by omega)]
  have a' : nA u' = nA u := by unfold nA; rw [e 0 (by omega)]
  have o' : ∀ k, ow u' k = ow u k := fun k => by unfold ow; rw [e 4 (by omega)]
  have ar' : ∀ k, ar u' k = ar u k := fun k => by unfold ar; rw [e 11 (by omega)]
  have b6 : (if w = 2 then 6 else 12) = 6 ∨ (if w = 2 then 6 else 12) = 12 := by split <;> simp
  have dk : ∀ j, j ≠ (if w = 2 then 6 else 12) + r → d' j = d j := fun j a => by rw [hd, if_neg a]
  refine ⟨bi_of ((congrFun (e 0 (by omega)) 0).trans (eR hI)) ((congrFun (e 0 (by omega)) 1).trans (eF hI)) ((congrFun (e 0 (by omega)) 2).trans (eA hI)) (by omega) (by omega) (by omega) (fun k => by rw [e 4 (by omega)]; exact BI_owner hI k) (fun k => by rw [e 11 (by omega)]; exact BI_areg hI k), ⟨fun f hf => ?_, fun f g hf hg => ?_, fun q hq => ?_, fun a ha => ?_⟩, ⟨?_, fun q hq => ?_, fun f hf => ?_, fun a ha => ?_⟩⟩
  · rw [f'] at hf
    rw [o', r', e 6 (by omega), e 7 (by omega), e 8 (by omega), e 9 (by omega)]
    exact hW.1 f hf
  · rw [f'] at hf hg
    rw [o', o', e 8 (by omega)]
    exact hW.2.1 f g hf hg
  · rw [r'] at hq
    rw [f']
    have old := hW.2.2.1 q hq
    rcases hw with rfl | rfl
    · rw [ew, e 3 (by omega)]
      refine ⟨?_, old.2⟩
      by_cases z : q = r
      · rw [z, upd_s]; exact Or.inr ⟨f, hf, rfl⟩
      · rw [upd_o z]; exact old.1
    · rw [ew, e 2 (by omega)]
      refine ⟨old.1, ?_⟩
      by_cases z : q = r
      · rw [z, upd_s]; exact Or.inr ⟨f, hf, rfl⟩
      · rw [upd_o z]; exact old.2
  · rw [a'] at ha
    rw [ar', r', e 12 (by omega)]
    exact hW.2.2.2 a ha
  · rw [dk 90 (by omega), dk 91 (by omega), dk 92 (by omega), e 0 (by omega)]
    exact hB.1
  · rw [r'] at hq
    rw [e 1 (by omega), dk q (by omega)]
    have old := hB.2.1 q hq
    rcases hw with rfl | rfl
    · rw [if_pos rfl] at hd dk
      rw [ew, e 3 (by omega), dk (12 + q) (by omega)]
      refine ⟨old.1, ?_, old.2.2⟩
      by_cases z : q = r
      · rw [z, upd_s, hd, if_pos rfl]
      · rw [upd_o z, dk (6 + q) (by omega)]; exact old.2.1
    · rw [if_neg (by omega)] at hd dk
      rw [ew, e 2 (by omega), dk (6 + q) (by omega)]
      refine ⟨old.1, old.2.1, ?_⟩
      by_cases z : q = r
      · rw [z, upd_s, hd, if_pos rfl]
      · rw [upd_o z, dk (12 + q) (by omega)]; exact old.2.2
  · rw [f'] at hf
    rw [e 4 (by omega), e 5 (by omega), e 6 (by omega), e 7 (by omega), e 9 (by omega), dk (18 + f) (by omega), dk (30 + f) (by omega), dk (42 + f) (by omega), dk (54 + f) (by omega), dk (66 + f) (by omega)]
    exact hB.2.2.1 f hf
  · rw [a'] at ha
    rw [e 10 (by omega), e 11 (by omega), e 12 (by omega), dk (78 + a) (by omega), dk (82 + a) (by omega), dk (86 + a) (by omega)]
    exact hB.2.2.2 a ha
/-! bits that are used -/
theorem q_or0 (a m M : Int32) (h : (a ||| m) &&& M = 0) : a &&& M = 0 ∧ m &&& M = 0 := by
  constructor
  · apply b_ext; intro i hi
    have e := congrArg (fun z => bt z i) h
    simp only [b_and, b_or, b_0] at e
    simp only [b_and, b_0]
    revert e
    cases bt a i <;> cases bt m i <;> cases bt M i <;> simp
  · apply b_ext; intro i hi
    have e := congrArg (fun z => bt z i) h
    simp only [b_and, b_or, b_0] at e
    simp only [b_and, b_0]
    revert e
    cases bt a i <;> cases bt m i <;> cases bt M i <;> simp
theorem ub_sub {u : Blk} (hI : BlkInv u) {r : Nat} (hr : r < 6) {M : Int32} : ∀ n i (x : Int32), i ≤ nF u → nF u < n + i → f_X0_usedBits_L4 u (nI r) n x (nI i) &&& M = 0 → x &&& M = 0 ∧ ∀ g, i ≤ g → g < nF u → ow u g = r → u 8 g &&& M = 0 := by
  have hF := lF hI
  intro n
  induction n with
  | zero => intro i x h1 h2; omega
  | succ n ih =>
    intro i x h1 h2 h
    have hO := lO hI i
    rw [f_X0_usedBits_L4, eF hI, ci (n := i) (by omega), eO hI, nI_1] at h
    by_cases z : nF u ≤ i
    · rw [if_pos ((le_c (by omega) (by omega)).mpr z)] at h
      exact ⟨h, fun g _ _ _ => by omega⟩
    · rw [if_neg (fun q => z ((le_c (by omega) (by omega)).mp q))] at h
      by_cases o : nI (ow u i) = nI r
      · rw [if_pos o] at h
        obtain ⟨a, b⟩ := ih (i + 1) _ (by omega) (by omega) h
        obtain ⟨a1, a2⟩ := q_or0 _ _ _ a
        refine ⟨a1, fun g g1 g2 g3 => ?_⟩
        by_cases y : g = i
        · rw [y]; exact a2
        · exact b g (by omega) g2 g3
      · rw [if_neg o] at h
        obtain ⟨a, b⟩ := ih (i + 1) _ (by omega) (by omega) h
        refine ⟨a, fun g g1 g2 g3 => ?_⟩
        by_cases y : g = i
        · rw [y] at g3; exact absurd (congrArg nI g3) o
        · exact b g (by omega) g2 g3
def rb : Nat → Nat → Int32 → Int32
  | 0, _, x => x
  | k + 1, i, x => rb k (i + 1) (x ||| ((1 : Int32) <<< (nI i &&& 31)))
theorem rb_or : ∀ k i (x y : Int32), rb k i (x ||| y) = x ||| rb k i y := by
  intro k
  induction k with
  | zero => intro i x y; rfl
  | succ k ih =>
    intro i x y
    show rb k (i + 1) ((x ||| y) ||| _) = x ||| rb k (i + 1) (y ||| _)
    rw [Int32.or_assoc, ih]
theorem rb_tab : ∀ h, h < 8 → ∀ l, l < h + 1 → rb (h - l + 1) l 0 = msk l h := by decide +kernel
theorem ui_L {d : Fn} {r i h : Nat} {K : Int32 → Int32 → Int32} (hi : i < 12) (h8 : h < 8) (ho : d (18 + i) = nI r) (hh : d (42 + i) = nI h) : ∀ n j (x : Int32), j ≤ h + 1 → h + 1 < n + j → f_X9_usedBits_L26 d (nI r) (nI i) K n x (nI j) = K (rb (h + 1 - j) j x) (nI (i + 1)) := by
  intro n
  induction n with
  | zero => intro j x h1 h2; omega
  | succ n ih =>
    intro j x h1 h2
    rw [f_X9_usedBits_L26, x_18, x_42, ci (by omega), ci (by omega), ho, hh, if_pos rfl, nI_1, nI_1]
    by_cases z : h < j
    · rw [if_pos ((lt_c (by omega) (by omega)).mpr z), show h + 1 - j = 0 by omega]; rfl
    · rw [if_neg (fun q => z ((lt_c (by omega) (by omega)).mp q)), ih (j + 1) _ (by omega) (by omega), show h + 1 - j = (h + 1 - (j + 1)) + 1 by omega]; rfl
theorem ub_eq {u : Blk} {d : Fn} (hG : GD u d) {r : Nat} (hr : r < 6) : ∀ n i (x : Int32), i ≤ nF u → nF u < n + i → f_X0_usedBits_L4 u (nI r) n x (nI i) = f_X9_usedBits_L4 d (nI r) n x (nI i) := by
  have hF := lF hG.1
  intro n
  induction n with
  | zero => intro i x h1 h2; omega
  | succ n ih =>
    intro i x h1 h2
    have hO := lO hG.1 i
    rw [f_X0_usedBits_L4, f_X9_usedBits_L4, ix91, hG.2.2.1.2.1, eF hG.1, x_30, ci (by omega), ci (by omega), eO hG.1, nI_1]
    by_cases z : nF u ≤ i
    · rw [if_pos ((le_c (by omega) (by omega)).mpr z), if_pos ((le_c (by omega) (by omega)).mpr z)]
    · have z' : ¬ nI (nF u) ≤ nI i := fun q => z ((le_c (by omega) (by omega)).mp q)
      have b := hG.2.2.2.2.1 i (by omega)
      obtain ⟨l, h, hl, hh, e6, e7, e8, _⟩ := nd_fm hG.2.1 (f := i) (by omega)
      rw [if_neg z', if_neg z', b.2.1, e6]
      by_cases o : nI (ow u i) = nI r
      · have o' : d (18 + i) = nI r := b.1.trans ((eO hG.1 i).trans o)
        rw [if_pos o, ui_L (by omega) hh o' (b.2.2.1.trans e7) 4000 l x (by omega) (by omega), show h + 1 - l = h - l + 1 by omega]
        have : rb (h - l + 1) l x = x ||| u 8 i := by rw [e8, ← rb_tab h hh l hl, ← rb_or, Int32.or_zero]
        rw [this]
        exact ih (i + 1) _ (by omega) (by omega)
      · rw [if_neg o, f_X9_usedBits_L26, x_18, ci (by omega), b.1, eO hG.1, if_neg o, nI_1]
        exact ih (i + 1) _ (by omega) (by omega)
