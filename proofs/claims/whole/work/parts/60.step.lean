/-! class against model: the whole state, step by step -/
def IR (u : Blk) (held kept : Fn) (im : Nat → Sit) (imgs : Fn) : Prop := ∀ i, i < 2 → kept i = held i ∧ (held i ≠ 0 → SR u (im i) (fun j => imgs (135 * i + j)))
def RelA (tx : Fn) (tl : Int32) (S : Sit) (hb : Nat → Sit) (hn hl : Int32) (held : Fn) (im : Nat → Sit) (u pu : Blk) (told now past : Fn) (pp : Int32) (imgs kept text : Fn) (typed : Int32) : Prop :=
  text = tx ∧ typed = tl ∧ (∃ L, L ≤ 160 ∧ tl = nI L) ∧ GB u told ∧ BlkInv pu ∧ SR u S now ∧ (∃ nx ln, nx < 6 ∧ ln ≤ 6 ∧ hn = nI nx ∧ hl = nI ln ∧ pp = nI ln ∧ HR u hb nx ln past) ∧ IR u held kept im imgs
def Rel (k : MBk) (q : MMk) : Prop := RelA k.1.1 k.1.2 k.2.2.1 k.2.2.2.1.1 k.2.2.2.1.2.1 k.2.2.2.1.2.2 k.2.2.2.2.1 k.2.2.2.2.2.2.1 k.2.2.2.2.2.2.2.1 k.2.2.2.2.2.2.2.2 q.1 q.2.2.1 q.2.2.2.1 q.2.2.2.2.1 q.2.2.2.2.2.1 q.2.2.2.2.2.2.1 q.2.2.2.2.2.2.2.1 q.2.2.2.2.2.2.2.2.1
theorem n72_ : (72 : Int32).toNatClampNeg = 72 := rfl
theorem rel_ok {k : MBk} {q : MMk} (h : Rel k q) : okMB k ∧ okMM q := by
  obtain ⟨e1, e2, ⟨L, hL, eL⟩, hG, hP, hS, ⟨nx, ln, n1, n2, n3, n4, n5, _⟩, _⟩ := h
  obtain ⟨_, _, _, _, n, hn, j1, j2, _⟩ := hS
  refine ⟨⟨?_, ?_, ?_, hG.1, hP⟩, hG.2.2.2, ?_, ?_, ?_⟩
  · rw [eL, ti_c (by omega)]; omega
  · rw [j1, ti_c (by omega)]; omega
  · rw [n3, ti_c (by omega)]; omega
  · rw [n5, ti_c (by omega)]; omega
  · rw [n72_, j2, ti_c (by omega)]; omega
  · rw [e2, eL, ti_c (by omega)]; omega
theorem hist_eq {u : Blk} {t : Fn} (hG : GB u t) {hb : Nat → Sit} {nx ln : Nat} {past now : Fn} {S : Sit} (hn : nx < 6) (hl : ln ≤ 6) (hH : HR u hb nx ln past) (hS : SR u S now) {R : (Nat → Sit) × Int32 × Int32}
    (hR : R = f_X2_remember hb (nI nx) (nI ln) S.1 S.2.1 S.2.2.1.1 S.2.2.1.2.1 S.2.2.1.2.2.1 S.2.2.1.2.2.2 S.2.2.2.1.1 S.2.2.2.1.2.1 S.2.2.2.1.2.2.1 S.2.2.2.1.2.2.2 S.2.2.2.2.1 S.2.2.2.2.2.1 S.2.2.2.2.2.2.1 S.2.2.2.2.2.2.2) :
    ∃ nx' ln', nx' < 6 ∧ ln' ≤ 6 ∧ R.2.1 = nI nx' ∧ R.2.2 = nI ln' ∧ (f_X9_note now past (nI ln)).2 = nI ln' ∧ HR u R.1 nx' ln' (f_X9_note now past (nI ln)).1 := by
  have a1 : R.2.1 = nI ((nx + 1) % 6) := by
    rw [hR]
    show ((nI nx + 1) - (nI nx + 1) / (6 : Int32) * (6 : Int32)) = _
    rw [nI_1]
    exact pk_rem (d := 6) (by omega) (by omega) (by omega)
  have a2 : R.2.2 = nI (if ln = 6 then 6 else ln + 1) := by
    rw [hR]
    show (if (6 : Int32) < nI ln + 1 then (6 : Int32) else nI ln + 1) = _
    rw [nI_1]
    by_cases c : ln = 6
    · rw [if_pos c, if_pos (show (6 : Int32) < nI (ln + 1) from (lt_c (a := 6) (by omega) (by omega)).mpr (by omega))]; rfl
    · rw [if_neg c, if_neg (show ¬ (6 : Int32) < nI (ln + 1) from fun q => by have := (lt_c (a := 6) (by omega) (by omega)).mp q; omega)]
  have a3 : ∀ i, R.1 i = if i = (nI nx).toNatClampNeg then cpS (hb (nI nx).toNatClampNeg) S else hb i := fun i => by rw [hR]; rfl
  have := note_eq (s := S) hG hn hl hH (sr_copy hG (hb nx) hS (w' := now) (fun _ _ => rfl)) R.1 (by rw [a3, ci (by omega), if_pos rfl]) (fun i hi => by rw [a3, ci (by omega), if_neg hi])
  exact ⟨(nx + 1) % 6, if ln = 6 then 6 else ln + 1, by omega, by split <;> omega, a1, a2, this.1, this.2⟩
theorem a_resets {tx : Fn} {tl df ld jl hn hl pp typed : Int32} {c h e kd mc mh me mk ja jb jv held told now past imgs kept text : Fn} {hb im : Nat → Sit} {u pu : Blk}
    (H : RelA tx tl (df, ld, (c, h, e, kd), (mc, mh, me, mk), (jl, ja, jb, jv)) hb hn hl held im u pu told now past pp imgs kept text typed) :
    ∀ P, P = f_X8_resets df ld c h e kd mc mh me mk jl ja jb jv hb hn hl u → ∀ Q, Q = f_X9_resets told now past pp →
    P.1 = Q.1 ∧ RelA tx tl (P.2.1, P.2.2.1, (P.2.2.2.1, P.2.2.2.2.1, P.2.2.2.2.2.1, kd), (P.2.2.2.2.2.2.1, P.2.2.2.2.2.2.2.1, P.2.2.2.2.2.2.2.2.1, mk), (P.2.2.2.2.2.2.2.2.2.1, ja, jb, jv)) P.2.2.2.2.2.2.2.2.2.2.1 P.2.2.2.2.2.2.2.2.2.2.2.1 P.2.2.2.2.2.2.2.2.2.2.2.2 held im u pu told Q.2.1 Q.2.2.1 Q.2.2.2 imgs kept text typed := by
  intro P hP Q hQ
  obtain ⟨e1, e2, eL, hG, hPu, hS, ⟨nx, ln, n1, n2, n3, n4, n5, hH⟩, hI⟩ := H
  obtain ⟨nx', ln', r1, r2, r3, r4, r5, r6⟩ := hist_eq hG n1 n2 hH hS rfl
  obtain ⟨_, hD, hM, hk, n, hn20, j1, j2, _⟩ := id hS
  have lF := lF hG.1
  subst n3 n4 n5
  rw [hP, hQ]
  refine ⟨?_, e1, e2, eL, hG, hPu, ?_, ⟨nx', ln', r1, r2, r3, r4, r5, r6⟩, hI⟩
  · show jl = now (72 : Int32).toNatClampNeg
    rw [n72_, j2]; exact j1
  · exact rst_eq hG (w := now) c h e mc mh me ja jb jv (fun f hf => by
      have := (hD.1 f hf).2
      rw [Nat.zero_add] at this; exact this) (fun f hf => (congrArg now (by omega)).trans (hM.1 f hf).2) hk
theorem a_reads {tx : Fn} {tl df ld jl hn hl pp typed : Int32} {c h e kd mc mh me mk ja jb jv held told now past imgs kept text : Fn} {hb im : Nat → Sit} {u pu : Blk}
    (H : RelA tx tl (df, ld, (c, h, e, kd), (mc, mh, me, mk), (jl, ja, jb, jv)) hb hn hl held im u pu told now past pp imgs kept text typed) (x : Int32) :
    ∀ P, P = f_X8_reads df ld c h e kd mc mh me mk jl ja jb jv hb hn hl u x → ∀ Q, Q = f_X9_reads told now past pp x →
    P.1 = Q.1 ∧ RelA tx tl (P.2.1, P.2.2.1, (P.2.2.2.1, h, e, kd), (P.2.2.2.2.1, mh, me, mk), (P.2.2.2.2.2.1, P.2.2.2.2.2.2.1, P.2.2.2.2.2.2.2.1, P.2.2.2.2.2.2.2.2.1)) P.2.2.2.2.2.2.2.2.2.1 P.2.2.2.2.2.2.2.2.2.2.1 P.2.2.2.2.2.2.2.2.2.2.2 held im u pu told Q.2.1 Q.2.2.1 Q.2.2.2 imgs kept text typed := by
  intro P hP Q hQ
  have H0 := H
  obtain ⟨e1, e2, eL, hG, hPu, hS, ⟨nx, ln, n1, n2, n3, n4, n5, hH⟩, hI⟩ := H
  obtain ⟨nx', ln', r1, r2, r3, r4, r5, r6⟩ := hist_eq hG n1 n2 hH hS rfl
  obtain ⟨_, _, _, _, n, hn20, j1, j2, _⟩ := id hS
  have j1 : jl = nI n := j1
  unfold f_X8_reads at hP
  unfold f_X9_reads at hQ
  rw [in_15, n72_, j2] at hQ
  by_cases z : f_X8_isWithin x 16 = 0
  · rw [if_pos z] at hP hQ
    rw [hP, hQ]
    exact ⟨rfl, H0⟩
  · rw [if_neg z] at hP hQ
    by_cases y : n < 20
    · have jlt : jl < 20 := by rw [j1]; exact (lt_c (b := 20) (by omega) (by omega)).mpr y
      rw [if_pos jlt] at hP
      rw [if_neg (show ¬ nI n = (20 : Int32) from fun q => by have := (eq_c (b := 20) (by omega) (by omega)).mp q; omega)] at hQ
      obtain ⟨w', p1, p2⟩ := pr_eq hG hS jlt x (f_X9_note now past pp).1 (f_X9_note now past pp).2
      rw [p1] at hQ
      subst n3 n4 n5
      rw [hP, hQ]
      exact ⟨rfl, e1, e2, eL, hG, hPu, p2 _ rfl, ⟨nx', ln', r1, r2, r3, r4, r5, r6⟩, hI⟩
    · have jge : ¬ jl < 20 := by rw [j1]; exact fun q => y ((lt_c (b := 20) (by omega) (by omega)).mp q)
      rw [if_neg jge] at hP
      rw [if_pos (show nI n = (20 : Int32) from by rw [show n = 20 by omega]; rfl)] at hQ
      rw [hP, hQ]
      exact ⟨rfl, H0⟩
theorem a_writes {tx : Fn} {tl df ld jl hn hl pp typed : Int32} {c h e kd mc mh me mk ja jb jv held told now past imgs kept text v0 v1 v2 v3 : Fn} {hb im : Nat → Sit} {u pu : Blk}
    (H : RelA tx tl (df, ld, (c, h, e, kd), (mc, mh, me, mk), (jl, ja, jb, jv)) hb hn hl held im u pu told now past pp imgs kept text typed) (x y : Int32) :
    ∀ P, P = f_X8_writes df ld c h e kd mc mh me mk jl ja jb jv hb hn hl v0 v1 v2 v3 u x y → ∀ Q, Q = f_X9_writes told now past pp x y →
    P.1 = Q.1 ∧ RelA tx tl (df, ld, (P.2.1, P.2.2.1, P.2.2.2.1, kd), (P.2.2.2.2.1, P.2.2.2.2.2.1, P.2.2.2.2.2.2.1, mk), (P.2.2.2.2.2.2.2.1, P.2.2.2.2.2.2.2.2.1, P.2.2.2.2.2.2.2.2.2.1, P.2.2.2.2.2.2.2.2.2.2.1)) P.2.2.2.2.2.2.2.2.2.2.2.1 P.2.2.2.2.2.2.2.2.2.2.2.2.1 P.2.2.2.2.2.2.2.2.2.2.2.2.2.1 held im u pu told Q.2.1 Q.2.2.1 Q.2.2.2 imgs kept text typed := by
  intro P hP Q hQ
  have H0 := H
  obtain ⟨e1, e2, eL, hG, hPu, hS, ⟨nx, ln, n1, n2, n3, n4, n5, hH⟩, hI⟩ := H
  obtain ⟨nx', ln', r1, r2, r3, r4, r5, r6⟩ := hist_eq hG n1 n2 hH hS rfl
  obtain ⟨_, _, _, _, n, hn20, j1, j2, _⟩ := id hS
  have j1 : jl = nI n := j1
  unfold f_X8_writes at hP
  unfold f_X9_writes at hQ
  rw [in_15, in_255, n72_, j2] at hQ
  by_cases z : f_X8_isWithin x 16 = 0
  · rw [if_pos z] at hP hQ
    rw [hP, hQ]
    exact ⟨rfl, H0⟩
  rw [if_neg z] at hP hQ
  by_cases z2 : f_X8_isWithin y 256 = 0
  · rw [if_pos z2] at hP hQ
    rw [hP, hQ]
    exact ⟨rfl, H0⟩
  rw [if_neg z2] at hP hQ
  by_cases y2 : n < 20
  · have jlt : jl < 20 := by rw [j1]; exact (lt_c (b := 20) (by omega) (by omega)).mpr y2
    rw [if_pos jlt] at hP
    rw [if_neg (show ¬ nI n = (20 : Int32) from fun q => by have := (eq_c (b := 20) (by omega) (by omega)).mp q; omega)] at hQ
    obtain ⟨w', p1, p2⟩ := pw_eq hG hS jlt x y (f_X9_note now past pp).1 (f_X9_note now past pp).2 v0 v1 v2 v3
    rw [p1] at hQ
    subst n3 n4 n5
    rw [hP, hQ]
    exact ⟨rfl, e1, e2, eL, hG, hPu, p2 _ rfl, ⟨nx', ln', r1, r2, r3, r4, r5, r6⟩, hI⟩
  · have jge : ¬ jl < 20 := by rw [j1]; exact fun q => y2 ((lt_c (b := 20) (by omega) (by omega)).mp q)
    rw [if_neg jge] at hP
    rw [if_pos (show nI n = (20 : Int32) from by rw [show n = 20 by omega]; rfl)] at hQ
    rw [hP, hQ]
    exact ⟨rfl, H0⟩
/-! one cell of the device -/
theorem sr_dev {u : Blk} {df ld : Int32} {c h e kd : Fn} {mm : Dv} {jo : Jo} {c' h' e' kd' w w' : Fn} (hI : BlkInv u) (hW : BW u) (hS : SR u (df, ld, (c, h, e, kd), mm, jo) w) (hD : DR u 0 c' h' e' kd' w') (hw : ∀ j, 36 ≤ j → w' j = w j) : SR u (df, ld, (c', h', e', kd'), mm, jo) w' := by
  obtain ⟨⟨s1, s2⟩, _, hM, hk, n, hn, j1, j2, hh⟩ := hS
  exact ⟨⟨(hw 133 (by omega)).trans s1, (hw 134 (by omega)).trans s2⟩, hD, dr_cong hI hW hM (fun _ _ => ⟨rfl, rfl, rfl⟩) (fun _ _ => rfl) (fun j hj => hw _ (by omega)), hk, n, hn, j1, (hw 72 (by omega)).trans j2, fun i hi => by
    rw [hw _ (by omega), hw _ (by omega), hw _ (by omega)]; exact hh i hi⟩
theorem a_sets {tx : Fn} {tl df ld jl hn hl pp typed : Int32} {c h e kd mc mh me mk ja jb jv held told now past imgs kept text : Fn} {hb im : Nat → Sit} {u pu : Blk}
    (H : RelA tx tl (df, ld, (c, h, e, kd), (mc, mh, me, mk), (jl, ja, jb, jv)) hb hn hl held im u pu told now past pp imgs kept text typed) (x y : Int32) :
    ∀ P, P = f_X8_sets df ld c h e kd mc mh me mk jl ja jb jv hb hn hl u x y → ∀ Q, Q = f_X9_sets told now past pp x y →
    P.1 = Q.1 ∧ RelA tx tl (df, ld, (P.2.1, h, e, kd), (mc, mh, me, mk), (jl, ja, jb, jv)) P.2.2.1 P.2.2.2.1 P.2.2.2.2 held im u pu told Q.2.1 Q.2.2.1 Q.2.2.2 imgs kept text typed := by
  intro P hP Q hQ
  have H0 := H
  obtain ⟨e1, e2, eL, hG, hPu, hS, ⟨nx, ln, n1, n2, n3, n4, n5, hH⟩, hI⟩ := H
  obtain ⟨nx', ln', r1, r2, r3, r4, r5, r6⟩ := hist_eq hG n1 n2 hH hS rfl
  have hD : DR u 0 c h e kd now := hS.2.1
  have lF := lF hG.1
  unfold f_X8_sets at hP
  unfold f_X9_sets at hQ
  rcases ch_of hG x y with ⟨a, b⟩ | ⟨a, b1, b2, f, hf, ex, l, hh, n, g1, g2, g3, g4, g5, g6⟩
  · rw [if_pos a] at hP
    have hQ2 : Q = (-1, now, past, pp) := by
      rw [hQ]
      rcases b with b | b
      · rw [if_pos b]
      · rw [if_pos b, ite_self]
    rw [hP, hQ2]
    exact ⟨rfl, H0⟩
  · subst ex
    have d1 := (hD.1 f hf).1
    rw [Nat.zero_add] at d1
    rw [if_neg a, val_eq (by omega)] at hP
    rw [if_neg b1, if_neg b2, x_0, ci (by omega), d1] at hQ
    by_cases z : vl u c f = y
    · rw [if_pos z] at hP hQ
      rw [hP, hQ]
      exact ⟨rfl, H0⟩
    · rw [if_neg z] at hP hQ
      unfold f_X8_sets_C49 at hP
      unfold f_X9_sets_C44 at hQ
      rw [x_0, ci (by omega)] at hQ
      obtain ⟨b, p1, p2⟩ := pv_eq (u := u) (c := c) (f := f) (by omega) g1 g2 g3 g4 g5
      rw [g6, p1] at hP
      rw [g6] at hQ
      subst n3 n4 n5
      rw [hP, hQ]
      have hD2 := dr_put hG hD hf b (nI n) p2
      rw [Nat.zero_add] at hD2
      exact ⟨rfl, e1, e2, eL, hG, hPu, sr_dev hG.1 hG.2.1 hS hD2 (fun j hj => upd_o (by omega)), ⟨nx', ln', r1, r2, r3, r4, r5, r6⟩, hI⟩
theorem a_breaks {tx : Fn} {tl df ld jl hn hl pp typed : Int32} {c h e kd mc mh me mk ja jb jv held told now past imgs kept text : Fn} {hb im : Nat → Sit} {u pu : Blk}
    (H : RelA tx tl (df, ld, (c, h, e, kd), (mc, mh, me, mk), (jl, ja, jb, jv)) hb hn hl held im u pu told now past pp imgs kept text typed) (x y : Int32) :
    ∀ P, P = f_X8_breaks df ld c h e kd mc mh me mk jl ja jb jv hb hn hl u x y → ∀ Q, Q = f_X9_breaks told now past pp x y →
    P.1 = Q.1 ∧ RelA tx tl (df, ld, (c, h, e, P.2.1), (mc, mh, me, mk), (jl, ja, jb, jv)) P.2.2.1 P.2.2.2.1 P.2.2.2.2 held im u pu told Q.2.1 Q.2.2.1 Q.2.2.2 imgs kept text typed := by
  intro P hP Q hQ
  have H0 := H
  obtain ⟨e1, e2, eL, hG, hPu, hS, ⟨nx, ln, n1, n2, n3, n4, n5, hH⟩, hI⟩ := H
  obtain ⟨nx', ln', r1, r2, r3, r4, r5, r6⟩ := hist_eq hG n1 n2 hH hS rfl
  have hD : DR u 0 c h e kd now := hS.2.1
  have lF := lF hG.1
  unfold f_X8_breaks at hP
  unfold f_X9_breaks at hQ
  rw [isF hG, in_7, eF hG.1] at hQ
  rw [eF hG.1] at hP
  rcases iw_of (x := x) (n := nF u) (by omega) with z | ⟨z, f, hf, ex⟩
  · rw [if_pos z] at hP hQ
    rw [hP, hQ]
    exact ⟨rfl, H0⟩
  · subst ex
    rw [if_neg (by rw [z]; exact q_10)] at hP hQ
    by_cases z2 : f_X8_isWithin y 8 = 0
    · rw [if_pos z2] at hP hQ
      rw [hP, hQ]
      exact ⟨rfl, H0⟩
    · rw [if_neg z2] at hP hQ
      have d2 := (hD.1 f hf).2
      rw [Nat.zero_add] at d2
      rw [ci (by omega)] at hP
      rw [x_12, ci (by omega), d2] at hQ
      by_cases z3 : kd f = y
      · rw [if_pos z3] at hP hQ
        rw [hP, hQ]
        exact ⟨rfl, H0⟩
      · rw [if_neg z3] at hP hQ
        unfold f_X8_breaks_C57 at hP
        unfold f_X9_breaks_C42 at hQ
        rw [ci (by omega)] at hP
        rw [x_12, ci (by omega)] at hQ
        subst n3 n4 n5
        rw [hP, hQ]
        have hD2 := dr_kind hG hD hf y
        rw [Nat.zero_add] at hD2
        exact ⟨rfl, e1, e2, eL, hG, hPu, sr_dev hG.1 hG.2.1 hS hD2 (fun j hj => upd_o (by omega)), ⟨nx', ln', r1, r2, r3, r4, r5, r6⟩, hI⟩
