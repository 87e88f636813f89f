/-! class against model: the whole state, on (by program steps.py) -/
theorem a_undo {tx : Fn} {tl df ld jl hn hl pp typed : Int32} {c h e kd mc mh me mk ja jb jv held told now past imgs kept text : Fn} {hb im : Nat → Sit} {u pu : Blk}
    (H : RelA tx tl (df, ld, (c, h, e, kd), (mc, mh, me, mk), (jl, ja, jb, jv)) hb hn hl held im u pu told now past pp imgs kept text typed) :
    ∀ P, P = f_X8_undo df ld c h e kd mc mh me mk jl ja jb jv hb hn hl → ∀ Q, Q = f_X9_undo now past pp →
    P.1 = Q.1 ∧ RelA tx tl (P.2.1, P.2.2.1, (P.2.2.2.1, P.2.2.2.2.1, P.2.2.2.2.2.1, P.2.2.2.2.2.2.1), (P.2.2.2.2.2.2.2.1, P.2.2.2.2.2.2.2.2.1, P.2.2.2.2.2.2.2.2.2.1, P.2.2.2.2.2.2.2.2.2.2.1), (P.2.2.2.2.2.2.2.2.2.2.2.1, P.2.2.2.2.2.2.2.2.2.2.2.2.1, P.2.2.2.2.2.2.2.2.2.2.2.2.2.1, P.2.2.2.2.2.2.2.2.2.2.2.2.2.2.1)) hb P.2.2.2.2.2.2.2.2.2.2.2.2.2.2.2.1 P.2.2.2.2.2.2.2.2.2.2.2.2.2.2.2.2 held im u pu told Q.2.1 past Q.2.2 imgs kept text typed := by
  intro P hP Q hQ
  have H0 := H
  obtain ⟨e1, e2, eL, hG, hPu, hS, ⟨nx, ln, n1, n2, n3, n4, n5, hH⟩, hI⟩ := H
  subst n3 n4 n5
  unfold f_X8_undo at hP
  unfold f_X9_undo at hQ
  by_cases z : ln = 0
  · rw [if_pos ((n0 (by omega)).mpr z)] at hP hQ
    rw [hP, hQ]
    exact ⟨rfl, H0⟩
  · rw [if_neg (fun q => z ((n0 (by omega)).mp q))] at hP hQ
    have ep : nI ln - 1 = nI (ln - 1) := R1 (by omega)
    have en : ((nI nx + (6 : Int32)) - (1 : Int32)) - ((nI nx + (6 : Int32)) - (1 : Int32)) / (6 : Int32) * (6 : Int32) = nI ((nx + 5) % 6) := by
      rw [show nI nx + (6 : Int32) = nI (nx + 6) from nI_add nx 6, R1 (show 0 < nx + 6 by omega)]
      exact pk_rem (d := 6) (by omega) (by omega) (by omega)
    rw [ep] at hQ
    obtain ⟨u1, u2, u3⟩ := undo_L (past := past) (p := ln - 1) (by omega) 4000 0 now (by omega) (by omega) (fun j hj => by omega)
    have eQ : Q = f_X9_undo_L22 past (nI (ln - 1)) 4000 (nI 0) now := hQ
    have old := hH (ln - 1) (by omega)
    rw [show (nx + 6 - ln + (ln - 1)) % 6 = (nx + 5) % 6 by omega] at old
    have new := sr_copy hG ((df, ld, (c, h, e, kd), (mc, mh, me, mk), (jl, ja, jb, jv)) : Sit) old (w' := Q.2.1) (fun j hj => by rw [eQ]; exact u3 j hj)
    have c0 : (nI ((nx + 5) % 6)).toNatClampNeg = (nx + 5) % 6 := ci (by omega)
    have eP : P = (nI (ln - 1), (cpS (df, ld, (c, h, e, kd), (mc, mh, me, mk), (jl, ja, jb, jv)) (hb ((nx + 5) % 6))).1, (cpS (df, ld, (c, h, e, kd), (mc, mh, me, mk), (jl, ja, jb, jv)) (hb ((nx + 5) % 6))).2.1, (cpS (df, ld, (c, h, e, kd), (mc, mh, me, mk), (jl, ja, jb, jv)) (hb ((nx + 5) % 6))).2.2.1.1, (cpS (df, ld, (c, h, e, kd), (mc, mh, me, mk), (jl, ja, jb, jv)) (hb ((nx + 5) % 6))).2.2.1.2.1, (cpS (df, ld, (c, h, e, kd), (mc, mh, me, mk), (jl, ja, jb, jv)) (hb ((nx + 5) % 6))).2.2.1.2.2.1, (cpS (df, ld, (c, h, e, kd), (mc, mh, me, mk), (jl, ja, jb, jv)) (hb ((nx + 5) % 6))).2.2.1.2.2.2, (cpS (df, ld, (c, h, e, kd), (mc, mh, me, mk), (jl, ja, jb, jv)) (hb ((nx + 5) % 6))).2.2.2.1.1, (cpS (df, ld, (c, h, e, kd), (mc, mh, me, mk), (jl, ja, jb, jv)) (hb ((nx + 5) % 6))).2.2.2.1.2.1, (cpS (df, ld, (c, h, e, kd), (mc, mh, me, mk), (jl, ja, jb, jv)) (hb ((nx + 5) % 6))).2.2.2.1.2.2.1, (cpS (df, ld, (c, h, e, kd), (mc, mh, me, mk), (jl, ja, jb, jv)) (hb ((nx + 5) % 6))).2.2.2.1.2.2.2, (cpS (df, ld, (c, h, e, kd), (mc, mh, me, mk), (jl, ja, jb, jv)) (hb ((nx + 5) % 6))).2.2.2.2.1, (cpS (df, ld, (c, h, e, kd), (mc, mh, me, mk), (jl, ja, jb, jv)) (hb ((nx + 5) % 6))).2.2.2.2.2.1, (cpS (df, ld, (c, h, e, kd), (mc, mh, me, mk), (jl, ja, jb, jv)) (hb ((nx + 5) % 6))).2.2.2.2.2.2.1, (cpS (df, ld, (c, h, e, kd), (mc, mh, me, mk), (jl, ja, jb, jv)) (hb ((nx + 5) % 6))).2.2.2.2.2.2.2, nI ((nx + 5) % 6), nI (ln - 1)) := by
      rw [hP]
      unfold f_X2_recall
      rw [en, c0, ← ep]
      unfold f_X2_recallV
      rw [en]
      rfl
    rw [eP]
    refine ⟨?_, e1, e2, eL, hG, hPu, new, ⟨(nx + 5) % 6, ln - 1, by omega, by omega, rfl, rfl, ?_, fun i hi => ?_⟩, hI⟩
    · rw [eQ]; exact u1.symm
    · rw [eQ]; exact u2
    · rw [show ((nx + 5) % 6 + 6 - (ln - 1) + i) % 6 = (nx + 6 - ln + i) % 6 by omega]
      exact hH i (by omega)

theorem kx_e {i : Nat} (h : i < 2) : kx (nI i) = i := by
  unfold kx
  rw [ti_c (by omega)]
  obtain rfl | rfl : i = 0 ∨ i = 1 := by omega
  · rfl
  · rfl
theorem a_keep {tx : Fn} {tl df ld jl hn hl pp typed : Int32} {c h e kd mc mh me mk ja jb jv held told now past imgs kept text : Fn} {hb im : Nat → Sit} {u pu : Blk}
    (H : RelA tx tl (df, ld, (c, h, e, kd), (mc, mh, me, mk), (jl, ja, jb, jv)) hb hn hl held im u pu told now past pp imgs kept text typed) (x : Int32) :
    ∀ P, P = f_X8_keepV df ld c h e kd mc mh me mk jl ja jb jv held (im (kx x)).1 (im (kx x)).2.1 (im (kx x)).2.2.1.1 (im (kx x)).2.2.1.2.1 (im (kx x)).2.2.1.2.2.1 (im (kx x)).2.2.1.2.2.2 (im (kx x)).2.2.2.1.1 (im (kx x)).2.2.2.1.2.1 (im (kx x)).2.2.2.1.2.2.1 (im (kx x)).2.2.2.1.2.2.2 (im (kx x)).2.2.2.2.1 (im (kx x)).2.2.2.2.2.1 (im (kx x)).2.2.2.2.2.2.1 (im (kx x)).2.2.2.2.2.2.2 x → ∀ Q, Q = f_X9_keep now imgs kept x →
    P.1 = Q.1 ∧ RelA tx tl (df, ld, (c, h, e, kd), (mc, mh, me, mk), (jl, ja, jb, jv)) hb hn hl P.2.1 (fun i => if i = kx x then (P.2.2.1, P.2.2.2.1, (P.2.2.2.2.1, P.2.2.2.2.2.1, P.2.2.2.2.2.2.1, P.2.2.2.2.2.2.2.1), (P.2.2.2.2.2.2.2.2.1, P.2.2.2.2.2.2.2.2.2.1, P.2.2.2.2.2.2.2.2.2.2.1, P.2.2.2.2.2.2.2.2.2.2.2.1), (P.2.2.2.2.2.2.2.2.2.2.2.2.1, P.2.2.2.2.2.2.2.2.2.2.2.2.2.1, P.2.2.2.2.2.2.2.2.2.2.2.2.2.2.1, P.2.2.2.2.2.2.2.2.2.2.2.2.2.2.2)) else im i) u pu told now past pp Q.2.1 Q.2.2 text typed := by
  intro P hP Q hQ
  obtain ⟨e1, e2, eL, hG, hPu, hS, hH, hI⟩ := H
  unfold f_X8_keepV at hP
  unfold f_X9_keep at hQ
  rw [in_1] at hQ
  rcases iw_of (x := x) (n := 2) (by omega) with z | ⟨z, p, hp, ex⟩
  · have z : f_X8_isWithin x 2 = 0 := z
    rw [if_pos z] at hP hQ
    rw [hP, hQ]
    refine ⟨rfl, e1, e2, eL, hG, hPu, hS, hH, fun i hi => ⟨(hI i hi).1, fun hne => ?_⟩⟩
    dsimp only
    by_cases y : i = kx x
    · rw [if_pos y, ← y]; exact (hI i hi).2 hne
    · rw [if_neg y]; exact (hI i hi).2 hne
  · subst ex
    have z : ¬ f_X8_isWithin (nI p) 2 = 0 := by rw [show f_X8_isWithin (nI p) 2 = 1 from z]; exact q_10
    rw [if_neg z] at hP hQ
    obtain ⟨k1, k2, k3, k4⟩ := keep_L (w := now) (held := kept) hp 4000 0 imgs (by omega) (by omega) (fun j hj => by omega)
    have eQ : Q = f_X9_keep_L13 now kept (nI p) 4000 (nI 0) imgs := hQ
    obtain ⟨_, _, _, _, n, hn20, j1, j2, _⟩ := id hS
    have eP1 : P.1 = jl := by rw [hP]; rfl
    have eP2 : P.2.1 = upd held p 1 := by
      rw [hP]
      show upd held (nI p).toNatClampNeg 1 = _
      rw [ci (by omega)]
    have eP3 : (P.2.2.1, P.2.2.2.1, (P.2.2.2.2.1, P.2.2.2.2.2.1, P.2.2.2.2.2.2.1, P.2.2.2.2.2.2.2.1), (P.2.2.2.2.2.2.2.2.1, P.2.2.2.2.2.2.2.2.2.1, P.2.2.2.2.2.2.2.2.2.2.1, P.2.2.2.2.2.2.2.2.2.2.2.1), (P.2.2.2.2.2.2.2.2.2.2.2.2.1, P.2.2.2.2.2.2.2.2.2.2.2.2.2.1, P.2.2.2.2.2.2.2.2.2.2.2.2.2.2.1, P.2.2.2.2.2.2.2.2.2.2.2.2.2.2.2)) = cpS (im (kx (nI p))) (df, ld, (c, h, e, kd), (mc, mh, me, mk), (jl, ja, jb, jv)) := by rw [hP]; rfl
    refine ⟨?_, e1, e2, eL, hG, hPu, hS, hH, fun i hi => ?_⟩
    · rw [eP1, eQ, k1, j2]; exact j1
    · rw [eP2, eP3, eQ, k2, kx_e hp]
      dsimp only
      by_cases y : i = p
      · rw [y, upd_s, upd_s, if_pos rfl]
        exact ⟨rfl, fun _ => sr_copy hG _ hS (fun j hj => k3 j hj)⟩
      · rw [upd_o y, upd_o y, if_neg y]
        exact ⟨(hI i hi).1, fun hne => sr_cong hG.1 hG.2.1 ((hI i hi).2 hne) (fun j hj => k4 _ (by omega))⟩

theorem a_back {tx : Fn} {tl df ld jl hn hl pp typed : Int32} {c h e kd mc mh me mk ja jb jv held told now past imgs kept text : Fn} {hb im : Nat → Sit} {u pu : Blk}
    (H : RelA tx tl (df, ld, (c, h, e, kd), (mc, mh, me, mk), (jl, ja, jb, jv)) hb hn hl held im u pu told now past pp imgs kept text typed) (x : Int32) :
    ∀ P, P = f_X8_backV df ld c h e kd mc mh me mk jl ja jb jv hl held (im (kx x)).1 (im (kx x)).2.1 (im (kx x)).2.2.1.1 (im (kx x)).2.2.1.2.1 (im (kx x)).2.2.1.2.2.1 (im (kx x)).2.2.1.2.2.2 (im (kx x)).2.2.2.1.1 (im (kx x)).2.2.2.1.2.1 (im (kx x)).2.2.2.1.2.2.1 (im (kx x)).2.2.2.1.2.2.2 (im (kx x)).2.2.2.2.1 (im (kx x)).2.2.2.2.2.1 (im (kx x)).2.2.2.2.2.2.1 (im (kx x)).2.2.2.2.2.2.2 x → ∀ Q, Q = f_X9_back now pp imgs kept x →
    P.1 = Q.1 ∧ RelA tx tl (P.2.1, P.2.2.1, (P.2.2.2.1, P.2.2.2.2.1, P.2.2.2.2.2.1, P.2.2.2.2.2.2.1), (P.2.2.2.2.2.2.2.1, P.2.2.2.2.2.2.2.2.1, P.2.2.2.2.2.2.2.2.2.1, P.2.2.2.2.2.2.2.2.2.2.1), (P.2.2.2.2.2.2.2.2.2.2.2.1, P.2.2.2.2.2.2.2.2.2.2.2.2.1, P.2.2.2.2.2.2.2.2.2.2.2.2.2.1, P.2.2.2.2.2.2.2.2.2.2.2.2.2.2.1)) hb hn P.2.2.2.2.2.2.2.2.2.2.2.2.2.2.2 held im u pu told Q.2.1 past Q.2.2 imgs kept text typed := by
  intro P hP Q hQ
  have H0 := H
  obtain ⟨e1, e2, eL, hG, hPu, hS, ⟨nx, ln, n1, n2, n3, n4, n5, hH⟩, hI⟩ := H
  unfold f_X8_backV at hP
  unfold f_X9_back at hQ
  rw [in_1] at hQ
  rcases iw_of (x := x) (n := 2) (by omega) with z | ⟨z, p, hp, ex⟩
  · have z : f_X8_isWithin x 2 = 0 := z
    rw [if_pos z] at hP hQ
    rw [hP, hQ]
    exact ⟨rfl, H0⟩
  · subst ex
    have z : ¬ f_X8_isWithin (nI p) 2 = 0 := by rw [show f_X8_isWithin (nI p) 2 = 1 from z]; exact q_10
    rw [if_neg z, ci (by omega)] at hP hQ
    rw [(hI p hp).1] at hQ
    by_cases y : held p = 0
    · rw [if_pos y] at hP hQ
      rw [hP, hQ]
      exact ⟨rfl, H0⟩
    · rw [if_neg y] at hP hQ
      have old := (hI p hp).2 y
      obtain ⟨k1, k2, k3⟩ := back_L (im := imgs) hp 4000 0 now (by omega) (by omega) (fun j hj => by omega)
      have eQ : Q = f_X9_back_L25 imgs (nI p) 4000 (nI 0) now := hQ
      have new := sr_copy hG ((df, ld, (c, h, e, kd), (mc, mh, me, mk), (jl, ja, jb, jv)) : Sit) old (w' := Q.2.1) (fun j hj => by rw [eQ]; exact k3 j hj)
      obtain ⟨_, _, _, _, n, hn20, j1, j2, _⟩ := id old
      have eP1 : P.1 = (im (kx (nI p))).2.2.2.2.1 := by
        rw [hP]
        show (f_X3_copyFrom ja jb jv (im (kx (nI p))).2.2.2.2.1 (im (kx (nI p))).2.2.2.2.2.1 (im (kx (nI p))).2.2.2.2.2.2.1 (im (kx (nI p))).2.2.2.2.2.2.2).1 = _
        exact (jc_L 4000 0 ja jb jv (by omega) (by omega) (fun r hr => by omega)).1
      have eP2 : P.2.2.2.2.2.2.2.2.2.2.2.2.2.2.2 = 0 := by rw [hP]; rfl
      have eP3 : (P.2.1, P.2.2.1, (P.2.2.2.1, P.2.2.2.2.1, P.2.2.2.2.2.1, P.2.2.2.2.2.2.1), (P.2.2.2.2.2.2.2.1, P.2.2.2.2.2.2.2.2.1, P.2.2.2.2.2.2.2.2.2.1, P.2.2.2.2.2.2.2.2.2.2.1), (P.2.2.2.2.2.2.2.2.2.2.2.1, P.2.2.2.2.2.2.2.2.2.2.2.2.1, P.2.2.2.2.2.2.2.2.2.2.2.2.2.1, P.2.2.2.2.2.2.2.2.2.2.2.2.2.2.1)) = cpS (df, ld, (c, h, e, kd), (mc, mh, me, mk), (jl, ja, jb, jv)) (im (kx (nI p))) := by rw [hP]; rfl
      rw [kx_e hp] at eP1 eP3
      refine ⟨?_, e1, e2, eL, hG, hPu, ?_, ⟨nx, 0, n1, by omega, n3, eP2, ?_, fun i hi => by omega⟩, hI⟩
      · rw [eP1, eQ, k1, j1]; exact j2.symm
      · rw [eP3]; exact new
      · rw [eQ]; exact k2

theorem s_resets {k : MBk} {q : MMk} (h : Rel k q) : (g_resets k).1 = (h_resets q).1 ∧ Rel (g_resets k).2 (h_resets q).2 := by
  obtain ⟨⟨tx, tl⟩, ⟨t0, t1, t2⟩, ⟨df, ld, ⟨c, hh, e, kd⟩, ⟨mc, mh, me, mk⟩, jl, ja, jb, jv⟩, ⟨hb, hn, hl⟩, held, ⟨v0, v1, v2, v3⟩, im, u, pu⟩ := k
  obtain ⟨told, draft, now, past, pp, imgs, kept, text, typed, p9, p10, p11, p12, p13⟩ := q
  exact a_resets h _ rfl _ rfl
theorem s_reads {k : MBk} {q : MMk} (h : Rel k q) (x1 : Int32) : (g_reads k x1).1 = (h_reads q x1).1 ∧ Rel (g_reads k x1).2 (h_reads q x1).2 := by
  obtain ⟨⟨tx, tl⟩, ⟨t0, t1, t2⟩, ⟨df, ld, ⟨c, hh, e, kd⟩, ⟨mc, mh, me, mk⟩, jl, ja, jb, jv⟩, ⟨hb, hn, hl⟩, held, ⟨v0, v1, v2, v3⟩, im, u, pu⟩ := k
  obtain ⟨told, draft, now, past, pp, imgs, kept, text, typed, p9, p10, p11, p12, p13⟩ := q
  exact a_reads h x1 _ rfl _ rfl
theorem s_writes {k : MBk} {q : MMk} (h : Rel k q) (x1 : Int32) (x2 : Int32) : (g_writes k x1 x2).1 = (h_writes q x1 x2).1 ∧ Rel (g_writes k x1 x2).2 (h_writes q x1 x2).2 := by
  obtain ⟨⟨tx, tl⟩, ⟨t0, t1, t2⟩, ⟨df, ld, ⟨c, hh, e, kd⟩, ⟨mc, mh, me, mk⟩, jl, ja, jb, jv⟩, ⟨hb, hn, hl⟩, held, ⟨v0, v1, v2, v3⟩, im, u, pu⟩ := k
  obtain ⟨told, draft, now, past, pp, imgs, kept, text, typed, p9, p10, p11, p12, p13⟩ := q
  exact a_writes h x1 x2 _ rfl _ rfl
theorem s_sets {k : MBk} {q : MMk} (h : Rel k q) (x1 : Int32) (x2 : Int32) : (g_sets k x1 x2).1 = (h_sets q x1 x2).1 ∧ Rel (g_sets k x1 x2).2 (h_sets q x1 x2).2 := by
  obtain ⟨⟨tx, tl⟩, ⟨t0, t1, t2⟩, ⟨df, ld, ⟨c, hh, e, kd⟩, ⟨mc, mh, me, mk⟩, jl, ja, jb, jv⟩, ⟨hb, hn, hl⟩, held, ⟨v0, v1, v2, v3⟩, im, u, pu⟩ := k
  obtain ⟨told, draft, now, past, pp, imgs, kept, text, typed, p9, p10, p11, p12, p13⟩ := q
  exact a_sets h x1 x2 _ rfl _ rfl
theorem s_breaks {k : MBk} {q : MMk} (h : Rel k q) (x1 : Int32) (x2 : Int32) : (g_breaks k x1 x2).1 = (h_breaks q x1 x2).1 ∧ Rel (g_breaks k x1 x2).2 (h_breaks q x1 x2).2 := by
  obtain ⟨⟨tx, tl⟩, ⟨t0, t1, t2⟩, ⟨df, ld, ⟨c, hh, e, kd⟩, ⟨mc, mh, me, mk⟩, jl, ja, jb, jv⟩, ⟨hb, hn, hl⟩, held, ⟨v0, v1, v2, v3⟩, im, u, pu⟩ := k
  obtain ⟨told, draft, now, past, pp, imgs, kept, text, typed, p9, p10, p11, p12, p13⟩ := q
  exact a_breaks h x1 x2 _ rfl _ rfl
theorem s_undo {k : MBk} {q : MMk} (h : Rel k q) : (g_undo k).1 = (h_undo q).1 ∧ Rel (g_undo k).2 (h_undo q).2 := by
  obtain ⟨⟨tx, tl⟩, ⟨t0, t1, t2⟩, ⟨df, ld, ⟨c, hh, e, kd⟩, ⟨mc, mh, me, mk⟩, jl, ja, jb, jv⟩, ⟨hb, hn, hl⟩, held, ⟨v0, v1, v2, v3⟩, im, u, pu⟩ := k
  obtain ⟨told, draft, now, past, pp, imgs, kept, text, typed, p9, p10, p11, p12, p13⟩ := q
  exact a_undo h _ rfl _ rfl
theorem s_keep {k : MBk} {q : MMk} (h : Rel k q) (x1 : Int32) : (g_keep k x1).1 = (h_keep q x1).1 ∧ Rel (g_keep k x1).2 (h_keep q x1).2 := by
  obtain ⟨⟨tx, tl⟩, ⟨t0, t1, t2⟩, ⟨df, ld, ⟨c, hh, e, kd⟩, ⟨mc, mh, me, mk⟩, jl, ja, jb, jv⟩, ⟨hb, hn, hl⟩, held, ⟨v0, v1, v2, v3⟩, im, u, pu⟩ := k
  obtain ⟨told, draft, now, past, pp, imgs, kept, text, typed, p9, p10, p11, p12, p13⟩ := q
  exact a_keep h x1 _ rfl _ rfl
theorem s_back {k : MBk} {q : MMk} (h : Rel k q) (x1 : Int32) : (g_back k x1).1 = (h_back q x1).1 ∧ Rel (g_back k x1).2 (h_back q x1).2 := by
  obtain ⟨⟨tx, tl⟩, ⟨t0, t1, t2⟩, ⟨df, ld, ⟨c, hh, e, kd⟩, ⟨mc, mh, me, mk⟩, jl, ja, jb, jv⟩, ⟨hb, hn, hl⟩, held, ⟨v0, v1, v2, v3⟩, im, u, pu⟩ := k
  obtain ⟨told, draft, now, past, pp, imgs, kept, text, typed, p9, p10, p11, p12, p13⟩ := q
  exact a_back h x1 _ rfl _ rfl
theorem s_field {k : MBk} {q : MMk} (h : Rel k q) (x1 : Int32) (x2 : Int32) : (g_field k x1 x2).1 = (h_field q x1 x2).1 ∧ Rel (g_field k x1 x2).2 (h_field q x1 x2).2 := by
  exact ⟨qa_field h.2.2.2.1 h.2.2.2.2.2.1.2.1 h.2.2.2.2.2.1.2.2.1 x1 x2, h⟩
theorem s_register {k : MBk} {q : MMk} (h : Rel k q) (x1 : Int32) (x2 : Int32) : (g_register k x1 x2).1 = (h_register q x1 x2).1 ∧ Rel (g_register k x1 x2).2 (h_register q x1 x2).2 := by
  exact ⟨qa_register h.2.2.2.1 h.2.2.2.2.2.1.2.1 x1 x2, h⟩
theorem s_alias {k : MBk} {q : MMk} (h : Rel k q) (x1 : Int32) (x2 : Int32) : (g_alias k x1 x2).1 = (h_alias q x1 x2).1 ∧ Rel (g_alias k x1 x2).2 (h_alias q x1 x2).2 := by
  exact ⟨qa_alias h.2.2.2.1 x1 x2, h⟩
theorem s_at {k : MBk} {q : MMk} (h : Rel k q) (x1 : Int32) : (g_at k x1).1 = (h_at q x1).1 ∧ Rel (g_at k x1).2 (h_at q x1).2 := by
  exact ⟨qa_at h.2.2.2.1 x1, h⟩
theorem s_peek {k : MBk} {q : MMk} (h : Rel k q) (x1 : Int32) (x2 : Int32) : (g_peek k x1 x2).1 = (h_peek q x1 x2).1 ∧ Rel (g_peek k x1 x2).2 (h_peek q x1 x2).2 := by
  exact ⟨qa_peek h.2.2.2.1 h.2.2.2.2.2.1.2.1 h.2.2.2.2.2.1.2.2.1 x1 x2, h⟩
theorem s_differed {k : MBk} {q : MMk} (h : Rel k q) (x1 : Int32) : (g_differed k x1).1 = (h_differed q x1).1 ∧ Rel (g_differed k x1).2 (h_differed q x1).2 := by
  exact ⟨qa_differed h.2.2.2.2.2.1.1.1 h.2.2.2.2.2.1.1.2 x1, h⟩
theorem s_log {k : MBk} {q : MMk} (h : Rel k q) (x1 : Int32) (x2 : Int32) : (g_log k x1 x2).1 = (h_log q x1 x2).1 ∧ Rel (g_log k x1 x2).2 (h_log q x1 x2).2 := by
  exact ⟨qa_log h.2.2.2.2.2.1.2.2.2.2 x1 x2, h⟩
theorem s_clashes {k : MBk} {q : MMk} (h : Rel k q) (x1 : Int32) : (g_clashes k x1).1 = (h_clashes q x1).1 ∧ Rel (g_clashes k x1).2 (h_clashes q x1).2 := by
  exact ⟨qa_clashes h.2.2.2.1 x1, h⟩
theorem s_walk {k : MBk} {q : MMk} (h : Rel k q) (x1 : Int32) (x2 : Int32) : (g_walk k x1 x2).1 = (h_walk q x1 x2).1 ∧ Rel (g_walk k x1 x2).2 (h_walk q x1 x2).2 := by
  exact ⟨qa_walk h.2.2.2.1 h.2.2.2.2.2.1.2.2.1 h.2.2.2.2.2.1.2.2.2.1 x1 x2, h⟩
theorem s_count {k : MBk} {q : MMk} (h : Rel k q) (x1 : Int32) : (g_count k x1).1 = (h_count q x1).1 ∧ Rel (g_count k x1).2 (h_count q x1).2 := by
  obtain ⟨n, hn, j1, j2, _⟩ := h.2.2.2.2.2.1.2.2.2.2
  obtain ⟨nx, ln, n1, n2, n3, n4, n5, _⟩ := h.2.2.2.2.2.2.1
  refine ⟨?_, h⟩
  show f_X8_count _ _ _ _ _ x1 = f_X9_count _ _ _ _ x1
  rw [n5, ← n4, h.2.1]
  exact qa_count h.2.2.2.1 h.2.2.2.2.2.1.2.1 _ _ _ (j2.trans j1.symm) x1
theorem s_suspects {k : MBk} {q : MMk} (h : Rel k q) (x1 : Int32) : (g_suspects k x1).1 = (h_suspects q x1).1 ∧ Rel (g_suspects k x1).2 (h_suspects q x1).2 := by
  have a := qa_suspects h.2.2.2.1 h.2.2.2.2.2.1.2.2.2.2 k.2.2.2.2.2.1.1 k.2.2.2.2.2.1.2.1 k.2.2.2.2.2.1.2.2.1 k.2.2.2.2.2.1.2.2.2 x1
  exact ⟨a.1, h.1, h.2.1, h.2.2.1, h.2.2.2.1, h.2.2.2.2.1, sr_cong h.2.2.2.1.1 h.2.2.2.1.2.1 h.2.2.2.2.2.1 a.2, h.2.2.2.2.2.2⟩
theorem s_touched {k : MBk} {q : MMk} (h : Rel k q) (x1 : Int32) (x2 : Int32) : (g_touched k x1 x2).1 = (h_touched q x1 x2).1 ∧ Rel (g_touched k x1 x2).2 (h_touched q x1 x2).2 := by
  have a := qa_touched h.2.2.2.1 h.2.2.2.2.2.1.2.1 k.2.2.2.2.2.1.1 k.2.2.2.2.2.1.2.1 k.2.2.2.2.2.1.2.2.1 k.2.2.2.2.2.1.2.2.2 x1 x2
  exact ⟨a.1, h.1, h.2.1, h.2.2.1, h.2.2.2.1, h.2.2.2.2.1, sr_cong h.2.2.2.1.1 h.2.2.2.1.2.1 h.2.2.2.2.2.1 a.2, h.2.2.2.2.2.2⟩
theorem s_way {k : MBk} {q : MMk} (h : Rel k q) (x1 : Int32) (x2 : Int32) : (g_way k x1 x2).1 = (h_way q x1 x2).1 ∧ Rel (g_way k x1 x2).2 (h_way q x1 x2).2 := by
  have a := qa_way h.2.2.2.1 h.2.2.2.2.2.1.2.1 k.2.2.2.2.2.1.1 k.2.2.2.2.2.1.2.1 k.2.2.2.2.2.1.2.2.1 k.2.2.2.2.2.1.2.2.2 x1 x2
  exact ⟨a.1, h.1, h.2.1, h.2.2.1, h.2.2.2.1, h.2.2.2.2.1, sr_cong h.2.2.2.1.1 h.2.2.2.1.2.1 h.2.2.2.2.2.1 a.2, h.2.2.2.2.2.2⟩
theorem s_type {k : MBk} {q : MMk} (h : Rel k q) (x1 : Int32) : (g_type k x1).1 = (h_type q x1).1 ∧ Rel (g_type k x1).2 (h_type q x1).2 := by
  obtain ⟨e1, e2, ⟨L, hL, eL⟩, r⟩ := h
  have hl : 0 ≤ k.1.2.toInt ∧ k.1.2.toInt ≤ 160 := by rw [eL, ti_c (by omega)]; omega
  have E : f_X8_type k.1.1 k.1.2 x1 = f_X9_type q.2.2.2.2.2.2.2.1 q.2.2.2.2.2.2.2.2.1 x1 := by rw [e1, e2]; exact e_type hl
  have o := ok_type (t := q.2.2.2.2.2.2.2.1) (x := x1) (n := q.2.2.2.2.2.2.2.2.1) (by rw [e2]; exact hl)
  refine ⟨congrArg (fun z => z.1) E, congrArg (fun z => z.2.1) E.symm, congrArg (fun z => z.2.2) E.symm, ⟨(f_X9_type q.2.2.2.2.2.2.2.1 q.2.2.2.2.2.2.2.2.1 x1).2.2.toNatClampNeg, by rw [ixn]; omega, ?_⟩, r⟩
  show (f_X8_type k.1.1 k.1.2 x1).2.2 = _
  rw [E]
  exact nI_ti o.1
theorem s_clear {k : MBk} {q : MMk} (h : Rel k q) : (g_clear k).1 = (h_clear q).1 ∧ Rel (g_clear k).2 (h_clear q).2 := by
  obtain ⟨e1, e2, ⟨L, hL, eL⟩, r⟩ := h
  exact ⟨e2.symm, e1, rfl, ⟨0, by omega, rfl⟩, r⟩
theorem tw_eq (a b c d ma mb mc md held : Fn) (u : Blk) (x : Int32) : f_X8_tellsW a b c d ma mb mc md held u x = (x, 0, 0, -9, (f_X1_restart a b c u).1, (f_X1_restart a b c u).2.1, (f_X1_restart a b c u).2.2, f_X1_mend d u, (f_X1_restart ma mb mc u).1, (f_X1_restart ma mb mc u).2.1, (f_X1_restart ma mb mc u).2.2, f_X1_mend md u, 0, 0, upd (upd held 0 0) 1 0) := by
  have key : ∀ (n : Nat) (p1 p2 p3 : Int32) (q1 q2 q3 q4 q5 q6 q7 q8 : Fn) (p4 p5 y : Int32), f_X8_tellsW_L59 p1 p2 p3 q1 q2 q3 q4 q5 q6 q7 q8 p4 p5 y (n + 3) (nI 0) held = (y, p1, p2, p3, q1, q2, q3, q4, q5, q6, q7, q8, p4, p5, upd (upd held 0 0) 1 0) := by
    intros
    rw [f_X8_tellsW_L59, if_neg (by decide), f_X8_tellsW_L59, if_neg (by decide), f_X8_tellsW_L59, if_pos (by decide)]
    rfl
  exact key 3997 0 0 (-9) _ _ _ _ _ _ _ _ 0 0 x
theorem s_tells {k : MBk} {q : MMk} (h : Rel k q) : (g_tells k).1 = (h_tells q).1 ∧ Rel (g_tells k).2 (h_tells q).2 := by
  obtain ⟨⟨tx, tl⟩, ⟨t0, t1, t2⟩, ⟨df, ld, ⟨c, hh, e, kd⟩, ⟨mc, mh, me, mk⟩, jl, ja, jb, jv⟩, ⟨hb, hn, hl⟩, held, ⟨v0, v1, v2, v3⟩, im, u, pu⟩ := k
  obtain ⟨told, draft, now, past, pp, imgs, kept, text, typed, p9, p10, p11, p12, p13⟩ := q
  obtain ⟨e1, e2, ⟨L, hL, eL⟩, hG, hPu, hS, ⟨nx, ln, n1, n2, n3, n4, n5, hH⟩, hI⟩ := h
  dsimp only at e1 e2 eL hG hPu hS n3 n4 n5 hH hI
  subst e1 e2 eL
  have hg : g_parse (((text, nI L), (t0, t1, t2), (df, ld, (c, hh, e, kd), (mc, mh, me, mk), (jl, ja, jb, jv)), (hb, hn, hl), held, (v0, v1, v2, v3), im, u, pu) : MBk) = f_X4_parse t0 t2 text (nI L) pu := rfl
  have hBI := R_parse (s := t0) (k := t2) (tx := text) (len := nI L) hPu (by rw [ti_c (by omega)]; omega)
  unfold g_tells h_tells g_tellsF
  rw [hg]
  dsimp only
  rcases pt_eq (tx := text) (told := told) (draft := draft) (now := now) (kept := kept) (pp := pp) hL t0 t2 hPu with ⟨S, d', a, s2, t, v, hS', p1, p2⟩ | ⟨it, t', d', a, s2, t, v, hit, p1, p2, p3⟩
  · have hc : ¬ (-10 : Int32) < (f_X4_parse t0 t2 text (nI L) pu).1 := by
      intro q
      have q2 := rlt q
      rw [p1] at q2
      have q3 : (-10 - nI S : Int32).toInt = -10 - (S : Int) := by
        have := fb_subI (x := (-10 : Int32)) (y := nI S) (by rw [ti_c (by omega), show (-10 : Int32).toInt = -10 from rfl]; omega) (by rw [ti_c (by omega), show (-10 : Int32).toInt = -10 from rfl]; omega)
        rw [this, ti_c (by omega)]; rfl
      rw [q3, show (-10 : Int32).toInt = -10 from rfl] at q2
      omega
    rw [if_neg hc, p2]
    exact ⟨p1, rfl, rfl, ⟨L, hL, rfl⟩, hG, hBI, hS, ⟨nx, ln, n1, n2, n3, n4, n5, hH⟩, hI⟩
  · have hc : (-10 : Int32) < (f_X4_parse t0 t2 text (nI L) pu).1 := by
      rw [p1]
      refine Int32.lt_iff_toInt_lt.mpr ?_
      rw [ti_c (by omega), show (-10 : Int32).toInt = -10 from rfl]; omega
    rw [if_pos hc, p3, tw_eq]
    refine ⟨p1, rfl, rfl, ⟨0, by omega, rfl⟩, p2, hG.1, beg_eq p2 now kept c hh e kd mc mh me mk ja jb jv, ⟨nx, 0, n1, by omega, n3, rfl, rfl, fun i hi => by omega⟩, fun i hi => ?_⟩
    obtain rfl | rfl : i = 0 ∨ i = 1 := by omega
    · exact ⟨rfl, fun q => absurd rfl q⟩
    · exact ⟨rfl, fun q => absurd rfl q⟩
def q0 : MMk := (fun _ => 0, fun _ => 0, (f_X9_begin (fun _ => 0) (fun _ => 0) (fun _ => 0)).1, fun _ => 0, (f_X9_begin (fun _ => 0) (fun _ => 0) (fun _ => 0)).2.1, fun _ => 0, (f_X9_begin (fun _ => 0) (fun _ => 0) (fun _ => 0)).2.2, fun _ => 0, 0, 0, 0, 0, 0, 0)
theorem rel_0 : Rel k0 q0 := by
  have hI : BlkInv (fun _ _ => 0) := ⟨by decide, by decide, by decide, fun _ => (by decide : 0 ≤ (0 : Int32).toInt ∧ (0 : Int32).toInt < 6), fun _ => (by decide : 0 ≤ (0 : Int32).toInt ∧ (0 : Int32).toInt < 6)⟩
  have hT : ToldInv (fun _ => 0) := (DI_zero (d := fun _ => 0) (fun _ _ => rfl)).1
  have hW : BW (fun _ _ => 0) := ⟨fun f hf => absurd hf (Nat.not_lt_zero f), fun f g hf => absurd hf (Nat.not_lt_zero f), fun r hr => absurd hr (Nat.not_lt_zero r), fun a ha => absurd ha (Nat.not_lt_zero a)⟩
  have hB : BR (fun _ _ => 0) (fun _ => 0) := ⟨⟨rfl, rfl, rfl⟩, fun _ _ => ⟨rfl, rfl, rfl⟩, fun _ _ => ⟨rfl, rfl, rfl, rfl, rfl⟩, fun _ _ => ⟨rfl, rfl, rfl⟩⟩
  refine ⟨rfl, rfl, ⟨0, by omega, rfl⟩, ⟨hI, hW, hB, hT⟩, hI, ⟨⟨rfl, rfl⟩, ⟨fun f hf => absurd hf (Nat.not_lt_zero f), fun r hr => absurd hr (Nat.not_lt_zero r), fun r M hr => absurd hr (Nat.not_lt_zero r)⟩, ⟨fun f hf => absurd hf (Nat.not_lt_zero f), fun r hr => absurd hr (Nat.not_lt_zero r), fun r M hr => absurd hr (Nat.not_lt_zero r)⟩, fun f hf => absurd hf (Nat.not_lt_zero f), 0, by omega, rfl, rfl, fun i hi => absurd hi (Nat.not_lt_zero i)⟩, ⟨0, 0, by omega, by omega, rfl, rfl, rfl, fun i hi => absurd hi (Nat.not_lt_zero i)⟩, fun i hi => ?_⟩
  obtain rfl | rfl : i = 0 ∨ i = 1 := by omega
  · exact ⟨rfl, fun q => absurd rfl q⟩
  · exact ⟨rfl, fun q => absurd rfl q⟩
