/-! class against model: tokens -/
theorem in01 (x a b : Int32) : f_X9_in x a b = 0 ∨ f_X9_in x a b = 1 := by
  unfold f_X9_in
  split
  · exact Or.inl rfl
  · split
    · exact Or.inl rfl
    · exact Or.inr rfl
theorem il_eq {tx : Fn} {i : Nat} (hi : i < 100000) : f_X6_isLetter tx (nI i) = f_X9_in (tx i) 97 122 := by
  unfold f_X6_isLetter
  rw [ci hi]; rfl
theorem id_eq {tx : Fn} {i : Nat} (hi : i < 100000) : f_X6_isDigit tx (nI i) = f_X9_in (tx i) 48 57 := by
  unfold f_X6_isDigit
  rw [ci hi]; rfl
theorem ih_end {tx : Fn} {L i : Nat} (hL : L ≤ 160) (hi : L ≤ i) (h2 : i < 1000) (a b : Int32) : f_X9_isHere tx (nI L) (nI i) a b = 0 := if_pos ((le_c (by omega) (by omega)).mpr hi)
theorem ih_in {tx : Fn} {L i : Nat} (hL : L ≤ 160) (hi : i < L) (a b : Int32) : f_X9_isHere tx (nI L) (nI i) a b = f_X9_in (tx i) a b := by
  unfold f_X9_isHere
  rw [if_neg (fun q => by have := (le_c (by omega) (by omega)).mp q; omega), ci (by omega)]
  rcases in01 (tx i) a b with q | q
  · rw [q, if_pos rfl]
  · rw [q, if_neg q_10]
theorem dig {x : Int32} (h : f_X9_in x 48 57 ≠ 0) : ∃ d, d ≤ 9 ∧ x = nI (48 + d) := by
  have i := rIN h
  rw [show (48 : Int32).toInt = 48 from rfl, show (57 : Int32).toInt = 57 from rfl] at i
  refine ⟨x.toNatClampNeg - 48, by rw [ixn]; omega, ?_⟩
  rw [show 48 + (x.toNatClampNeg - 48) = x.toNatClampNeg from by rw [ixn]; omega]
  exact nI_ti (by omega)
theorem let_ {x : Int32} (h : f_X9_in x 97 122 ≠ 0) : ∃ d, d < 26 ∧ x = nI (97 + d) := by
  have i := rIN h
  rw [show (97 : Int32).toInt = 97 from rfl, show (122 : Int32).toInt = 122 from rfl] at i
  refine ⟨x.toNatClampNeg - 97, by rw [ixn]; omega, ?_⟩
  rw [show 97 + (x.toNatClampNeg - 97) = x.toNatClampNeg from by rw [ixn]; omega]
  exact nI_ti (by omega)
theorem not_both {x : Int32} (h : f_X9_in x 48 57 ≠ 0) : f_X9_in x 97 122 = 0 := by
  obtain ⟨d, hd, rfl⟩ := dig h
  unfold f_X9_in
  exact if_pos ((lt_c (b := 97) (by omega) (by omega)).mpr (by omega))
/-- the model's capped number, its word; the class's number -/
def cf (tx : Fn) : Nat → Nat → Int32 → Int32
  | 0, _, v => v
  | k + 1, p, v => cf tx k (p + 1) (if v ≤ (255 : Int32) then (((10 : Int32) * v) + tx p) - (48 : Int32) else v)
def wf (tx : Fn) : Nat → Nat → Int32 → Int32
  | 0, _, v => v
  | k + 1, p, v => wf tx k (p + 1) (if v ≤ (65535 : Int32) then ((256 : Int32) * v) + tx p else v)
def dv (tx : Fn) : Nat → Nat → Int32 → Int32
  | 0, _, v => v
  | k + 1, p, v => dv tx k (p + 1) ((((10 : Int32) * v) + tx p) - (48 : Int32))
def tokD (tx : Fn) (ta e v : Int32) : Int32 := if (255 : Int32) < v then 2 else if tx ta.toNatClampNeg = (48 : Int32) then (if e - ta ≤ (1 : Int32) then 1 else 2) else 1
def tokW (v : Int32) : Int32 := if v = 114 ∨ v = 102 ∨ v = 97 ∨ v = 107 ∨ v = 115 ∨ f_X9_kindOf v ≠ -9 then 4 else 2
theorem le255 {a : Nat} (h : a < 100000) : nI a ≤ (255 : Int32) ↔ a ≤ 255 := le_c (b := 255) h (by omega)
theorem dr_L {tx : Fn} {L : Nat} (hL : L ≤ 160) (s k ta : Int32) : ∀ n P (v : Int32), P ≤ L → L < n + P →
    ∃ E, P ≤ E ∧ E ≤ L ∧ (∀ j, P ≤ j → j < E → f_X9_in (tx j) 48 57 ≠ 0) ∧ (P < L → f_X9_in (tx P) 48 57 ≠ 0 → P < E) ∧ f_X7_advance_L161 s k tx (nI L) n (nI P) = (s, nI E, k) ∧ f_X9_next_L67 tx (nI L) ta n (nI P) v = (nI E, ta, tokD tx ta (nI E) (cf tx (E - P) P v), cf tx (E - P) P v) := by
  intro n
  induction n with
  | zero => intro P v h1 h2; omega
  | succ n ih =>
    intro P v h1 h2
    have stop : f_X9_isHere tx (nI L) (nI P) 48 57 = 0 → f_X9_next_L67 tx (nI L) ta (n + 1) (nI P) v = (nI P, ta, tokD tx ta (nI P) (cf tx (P - P) P v), cf tx (P - P) P v) := by
      intro h0
      rw [f_X9_next_L67, if_pos h0, Nat.sub_self]
      unfold cf tokD
      split
      · rfl
      · split
        · split
          · rfl
          · rfl
        · rfl
    by_cases z : P = L
    · refine ⟨P, Nat.le_refl _, h1, fun j _ _ => by omega, fun q => by omega, ?_, stop (ih_end hL (by omega) (by omega) _ _)⟩
      rw [f_X7_advance_L161, if_pos ((le_c (by omega) (by omega)).mpr (by omega))]
    · have hP : P < L := by omega
      rcases in01 (tx P) 48 57 with q | q
      · refine ⟨P, Nat.le_refl _, h1, fun j _ _ => by omega, fun _ c => absurd q c, ?_, stop (by rw [ih_in hL hP, q])⟩
        rw [f_X7_advance_L161, if_neg (fun q => by have := (le_c (by omega) (by omega)).mp q; omega), id_eq (by omega), if_pos q]
      · have q1 : f_X9_in (tx P) 48 57 ≠ 0 := by rw [q]; exact q_10
        obtain ⟨E, e1, e2, e3, _, e4, e5⟩ := ih (P + 1) (if v ≤ (255 : Int32) then (((10 : Int32) * v) + tx P) - (48 : Int32) else v) (by omega) (by omega)
        refine ⟨E, by omega, e2, fun j j1 j2 => ?_, fun _ _ => by omega, ?_, ?_⟩
        · by_cases y : j = P
          · rw [y]; exact q1
          · exact e3 j (by omega) j2
        · rw [f_X7_advance_L161, if_neg (fun q => by have := (le_c (by omega) (by omega)).mp q; omega), id_eq (by omega), if_neg q1, nI_1]
          exact e4
        · rw [f_X9_next_L67, if_neg (by rw [ih_in hL hP]; exact q1), ci (by omega)]
          unfold f_X9_next_J116
          rw [nI_1, show E - P = (E - (P + 1)) + 1 by omega]
          show _ = (nI E, ta, tokD tx ta (nI E) (cf tx (E - (P + 1)) (P + 1) (if v ≤ (255 : Int32) then (((10 : Int32) * v) + tx P) - (48 : Int32) else v)), cf tx (E - (P + 1)) (P + 1) (if v ≤ (255 : Int32) then (((10 : Int32) * v) + tx P) - (48 : Int32) else v))
          rw [← e5]
          by_cases c : v ≤ (255 : Int32)
          · rw [if_pos c, if_pos c]
          · rw [if_neg c, if_neg c]
theorem wr_L {tx : Fn} {L : Nat} (hL : L ≤ 160) (s k ta : Int32) : ∀ n P (v : Int32), P ≤ L → L < n + P →
    ∃ E, P ≤ E ∧ E ≤ L ∧ (∀ j, P ≤ j → j < E → f_X9_in (tx j) 97 122 ≠ 0) ∧ (P < L → f_X9_in (tx P) 97 122 ≠ 0 → P < E) ∧ f_X7_advance_L101 s k tx (nI L) n (nI P) = (s, nI E, k) ∧ f_X9_next_L192 tx (nI L) ta n (nI P) v = (nI E, ta, tokW (wf tx (E - P) P v), wf tx (E - P) P v) := by
  intro n
  induction n with
  | zero => intro P v h1 h2; omega
  | succ n ih =>
    intro P v h1 h2
    have stop : f_X9_isHere tx (nI L) (nI P) 97 122 = 0 → f_X9_next_L192 tx (nI L) ta (n + 1) (nI P) v = (nI P, ta, tokW (wf tx (P - P) P v), wf tx (P - P) P v) := by
      intro h0
      rw [f_X9_next_L192, if_pos h0, Nat.sub_self]
      unfold wf tokW f_X9_next_J299 f_X9_next_J304
      rw [if_neg q_10, if_pos rfl]
      by_cases a1 : v = 114
      · rw [if_pos a1, if_pos (Or.inl a1)]
      rw [if_neg a1]
      by_cases a2 : v = 102
      · rw [if_pos a2, if_pos (Or.inr (Or.inl a2))]
      rw [if_neg a2]
      by_cases a3 : v = 97
      · rw [if_pos a3, if_pos (Or.inr (Or.inr (Or.inl a3)))]
      rw [if_neg a3]
      by_cases a4 : v = 107
      · rw [if_pos a4, if_pos (Or.inr (Or.inr (Or.inr (Or.inl a4))))]
      rw [if_neg a4]
      by_cases a5 : v = 115
      · rw [if_pos a5, if_pos (Or.inr (Or.inr (Or.inr (Or.inr (Or.inl a5)))))]
      rw [if_neg a5]
      by_cases a6 : f_X9_kindOf v = -9
      · rw [if_pos a6, if_neg (fun q => by rcases q with q | q | q | q | q | q <;> first | exact absurd q a1 | exact absurd q a2 | exact absurd q a3 | exact absurd q a4 | exact absurd q a5 | exact absurd a6 q)]
      · rw [if_neg a6, if_pos (Or.inr (Or.inr (Or.inr (Or.inr (Or.inr a6)))))]
    by_cases z : P = L
    · refine ⟨P, Nat.le_refl _, h1, fun j _ _ => by omega, fun q => by omega, ?_, stop (ih_end hL (by omega) (by omega) _ _)⟩
      rw [f_X7_advance_L101, if_pos ((le_c (by omega) (by omega)).mpr (by omega))]
    · have hP : P < L := by omega
      rcases in01 (tx P) 97 122 with q | q
      · refine ⟨P, Nat.le_refl _, h1, fun j _ _ => by omega, fun _ c => absurd q c, ?_, stop (by rw [ih_in hL hP, q])⟩
        rw [f_X7_advance_L101, if_neg (fun q => by have := (le_c (by omega) (by omega)).mp q; omega), il_eq (by omega), if_pos q]
      · have q1 : f_X9_in (tx P) 97 122 ≠ 0 := by rw [q]; exact q_10
        obtain ⟨E, e1, e2, e3, _, e4, e5⟩ := ih (P + 1) (if v ≤ (65535 : Int32) then ((256 : Int32) * v) + tx P else v) (by omega) (by omega)
        refine ⟨E, by omega, e2, fun j j1 j2 => ?_, fun _ _ => by omega, ?_, ?_⟩
        · by_cases y : j = P
          · rw [y]; exact q1
          · exact e3 j (by omega) j2
        · rw [f_X7_advance_L101, if_neg (fun q => by have := (le_c (by omega) (by omega)).mp q; omega), il_eq (by omega), if_neg q1, nI_1]
          exact e4
        · rw [f_X9_next_L192, if_neg (by rw [ih_in hL hP]; exact q1), ci (by omega)]
          unfold f_X9_next_J238
          rw [nI_1, show E - P = (E - (P + 1)) + 1 by omega]
          show _ = (nI E, ta, tokW (wf tx (E - (P + 1)) (P + 1) (if v ≤ (65535 : Int32) then ((256 : Int32) * v) + tx P else v)), wf tx (E - (P + 1)) (P + 1) (if v ≤ (65535 : Int32) then ((256 : Int32) * v) + tx P else v))
          rw [← e5]
          by_cases c : v ≤ (65535 : Int32)
          · rw [if_pos c, if_pos c]
          · rw [if_neg c, if_neg c]
/-- what is asked of a token, both ways -/
def TF (tx : Fn) (s e so tok val : Int32) : Prop :=
  (so = 4 ↔ tok = 0) ∧ (so = 3 ↔ tok = 3) ∧
  ((tok = 1 ∧ f_X7_number s e so tx = val ∧ ∃ n : Nat, n ≤ 255 ∧ val = nI n) ∨ (tok ≠ 1 ∧ (f_X7_number s e so tx = -9 ∨ ∃ n : Nat, 255 < n ∧ n < 1000 ∧ f_X7_number s e so tx = nI n))) ∧
  (f_X7_kind s e so tx = if tok = 4 then f_X9_kindOf val else -9) ∧
  (∀ c : Int32, c = 114 ∨ c = 102 ∨ c = 97 ∨ c = 107 ∨ c = 115 → (f_X7_letter s e so tx = c ↔ (tok = 4 ∧ val = c)))
theorem nine_no {c : Int32} (h : c = 114 ∨ c = 102 ∨ c = 97 ∨ c = 107 ∨ c = 115) : ¬ (-9 : Int32) = c := by
  rcases h with q | q | q | q | q <;> (rw [q]; decide)
theorem tf_other {tx : Fn} {s e so tok val : Int32} (h : (so = 4 ∧ tok = 0) ∨ (so = 3 ∧ tok = 3) ∨ (so = 0 ∧ tok = 2)) : TF tx s e so tok val := by
  have n2 : so ≠ 2 := by rcases h with ⟨q, _⟩ | ⟨q, _⟩ | ⟨q, _⟩ <;> (rw [q]; decide)
  have n1 : so ≠ 1 := by rcases h with ⟨q, _⟩ | ⟨q, _⟩ | ⟨q, _⟩ <;> (rw [q]; decide)
  have t1 : tok ≠ 1 := by rcases h with ⟨_, q⟩ | ⟨_, q⟩ | ⟨_, q⟩ <;> (rw [q]; decide)
  have t4 : tok ≠ 4 := by rcases h with ⟨_, q⟩ | ⟨_, q⟩ | ⟨_, q⟩ <;> (rw [q]; decide)
  refine ⟨?_, ?_, Or.inr ⟨t1, Or.inl (if_neg n2)⟩, ?_, fun c hc => ?_⟩
  · rcases h with ⟨q, r⟩ | ⟨q, r⟩ | ⟨q, r⟩ <;> first | (rw [q, r]; decide) | rw [q, r]
  · rcases h with ⟨q, r⟩ | ⟨q, r⟩ | ⟨q, r⟩ <;> first | (rw [q, r]; decide) | rw [q, r]
  · rw [if_neg t4]; exact if_neg n1
  · have : f_X7_letter s e so tx = -9 := if_neg n1
    rw [this]
    exact ⟨fun q => absurd q (nine_no hc), fun q => absurd q.1 t4⟩
theorem st10 (a d : Nat) : (((10 : Int32) * nI a) + nI (48 + d)) - (48 : Int32) = nI (10 * a + d) := by
  rw [show (10 : Int32) * nI a = nI (10 * a) from pk_mul 10 a, nI_add]
  have := pk_sub (a := 10 * a + (48 + d)) (b := 48) (by omega)
  rw [show 10 * a + (48 + d) - 48 = 10 * a + d by omega] at this
  exact this
theorem cf_s {tx : Fn} {k p a d : Nat} (ha : a ≤ 255) (hd : tx p = nI (48 + d)) : cf tx (k + 1) p (nI a) = cf tx k (p + 1) (nI (10 * a + d)) := by
  show cf tx k (p + 1) (if nI a ≤ (255 : Int32) then (((10 : Int32) * nI a) + tx p) - (48 : Int32) else nI a) = _
  rw [if_pos ((le255 (by omega)).mpr ha), hd, st10]
theorem cf_b {tx : Fn} {a : Nat} (ha : 255 < a) (h2 : a < 100000) : ∀ k p, cf tx k p (nI a) = nI a := by
  intro k
  induction k with
  | zero => intro p; rfl
  | succ k ih =>
    intro p
    show cf tx k (p + 1) (if nI a ≤ (255 : Int32) then (((10 : Int32) * nI a) + tx p) - (48 : Int32) else nI a) = _
    rw [if_neg (fun q => by have := (le255 h2).mp q; omega)]
    exact ih (p + 1)
theorem dv_s {tx : Fn} {k p a d : Nat} (hd : tx p = nI (48 + d)) : dv tx (k + 1) p (nI a) = dv tx k (p + 1) (nI (10 * a + d)) := by
  show dv tx k (p + 1) ((((10 : Int32) * nI a) + tx p) - (48 : Int32)) = _
  rw [hd, st10]
theorem nm_L {tx : Fn} {E : Nat} (hE : E ≤ 160) : ∀ n P (x : Int32), P ≤ E → E < n + P → f_X7_number_L55 (nI E) tx n x (nI P) = dv tx (E - P) P x := by
  intro n
  induction n with
  | zero => intro P x h1 h2; omega
  | succ n ih =>
    intro P x h1 h2
    rw [f_X7_number_L55, ci (by omega), nI_1]
    by_cases z : E ≤ P
    · rw [if_pos ((le_c (by omega) (by omega)).mpr z), show E - P = 0 by omega]; rfl
    · rw [if_neg (fun q => z ((le_c (by omega) (by omega)).mp q)), ih (P + 1) _ (by omega) (by omega), show E - P = (E - (P + 1)) + 1 by omega]; rfl
theorem tf_dig {tx : Fn} {S E : Nat} (h1 : S < E) (hE : E ≤ 160) (hd : ∀ j, S ≤ j → j < E → f_X9_in (tx j) 48 57 ≠ 0) : TF tx (nI S) (nI E) 2 (tokD tx (nI S) (nI E) (cf tx (E - S) S 0)) (cf tx (E - S) S 0) := by
  have sub : nI E - nI S = nI (E - S) := pk_sub (by omega)
  have tk : ∀ v, tokD tx (nI S) (nI E) v = 1 ∨ tokD tx (nI S) (nI E) v = 2 := by
    intro v
    unfold tokD
    split
    · exact Or.inr rfl
    · split
      · split
        · exact Or.inl rfl
        · exact Or.inr rfl
      · exact Or.inl rfl
  generalize hv : cf tx (E - S) S 0 = v
  have t4 : tokD tx (nI S) (nI E) v ≠ 4 := by rcases tk v with q | q <;> (rw [q]; decide)
  have t0 : tokD tx (nI S) (nI E) v ≠ 0 := by rcases tk v with q | q <;> (rw [q]; decide)
  have t3 : tokD tx (nI S) (nI E) v ≠ 3 := by rcases tk v with q | q <;> (rw [q]; decide)
  refine ⟨⟨fun q => absurd q (by decide), fun q => absurd q t0⟩, ⟨fun q => absurd q (by decide), fun q => absurd q t3⟩, ?_, ?_, fun c hc => ?_⟩
  · obtain ⟨d0, hd0, e0⟩ := dig (hd S (Nat.le_refl _) h1)
    have num : f_X7_number (nI S) (nI E) 2 tx = if 3 < E - S then -9 else if E - S ≤ 1 then dv tx (E - S) S 0 else if d0 = 0 then -9 else dv tx (E - S) S 0 := by
      have j : f_X7_number_J48 (nI S) (nI E) tx = dv tx (E - S) S 0 := nm_L hE 4000 S 0 (by omega) (by omega)
      unfold f_X7_number
      rw [if_pos rfl, sub, j, ci (by omega), e0]
      by_cases a : 3 < E - S
      · rw [if_pos a, if_pos (show (3 : Int32) < nI (E - S) from (lt_c (a := 3) (by omega) (by omega)).mpr a)]
      · rw [if_neg a, if_neg (show ¬ (3 : Int32) < nI (E - S) from fun q => a ((lt_c (a := 3) (by omega) (by omega)).mp q))]
        by_cases b : E - S ≤ 1
        · rw [if_pos b, if_pos (show nI (E - S) ≤ (1 : Int32) from (le_c (b := 1) (by omega) (by omega)).mpr b)]
        · rw [if_neg b, if_neg (show ¬ nI (E - S) ≤ (1 : Int32) from fun q => b ((le_c (b := 1) (by omega) (by omega)).mp q))]
          by_cases c : d0 = 0
          · rw [if_pos c, if_pos (show nI (48 + d0) = (48 : Int32) from by rw [c]; rfl)]
          · rw [if_neg c, if_neg (show ¬ nI (48 + d0) = (48 : Int32) from fun q => by have := (eq_c (b := 48) (by omega) (by omega)).mp q; omega)]
    have tkn : ∀ a : Nat, a < 100000 → tokD tx (nI S) (nI E) (nI a) = if 255 < a then 2 else if d0 = 0 then (if E - S ≤ 1 then 1 else 2) else 1 := by
      intro a ha
      unfold tokD
      rw [sub, ci (by omega), e0]
      by_cases x : 255 < a
      · rw [if_pos x, if_pos (show (255 : Int32) < nI a from (lt_c (a := 255) (by omega) ha).mpr x)]
      · rw [if_neg x, if_neg (show ¬ (255 : Int32) < nI a from fun q => x ((lt_c (a := 255) (by omega) ha).mp q))]
        by_cases c : d0 = 0
        · rw [if_pos c, if_pos (show nI (48 + d0) = (48 : Int32) from by rw [c]; rfl)]
          by_cases b : E - S ≤ 1
          · rw [if_pos b, if_pos (show nI (E - S) ≤ (1 : Int32) from (le_c (b := 1) (by omega) (by omega)).mpr b)]
          · rw [if_neg b, if_neg (show ¬ nI (E - S) ≤ (1 : Int32) from fun q => b ((le_c (b := 1) (by omega) (by omega)).mp q))]
        · rw [if_neg c, if_neg (show ¬ nI (48 + d0) = (48 : Int32) from fun q => by have := (eq_c (b := 48) (by omega) (by omega)).mp q; omega)]
    have z0 : (0 : Int32) = nI 0 := rfl
    rw [num]
    by_cases k1 : E - S = 1
    · rw [k1, z0, cf_s (by omega) e0] at hv
      have hv : nI (10 * 0 + d0) = v := hv
      rw [if_neg (by omega), if_pos (by omega), k1, z0, dv_s e0, ← hv, tkn _ (by omega), if_neg (by omega), if_pos (show E - S ≤ 1 by omega), ite_self]
      exact Or.inl ⟨rfl, rfl, _, by omega, rfl⟩
    · obtain ⟨d1, hd1, e1⟩ := dig (hd (S + 1) (by omega) (by omega))
      by_cases k2 : E - S = 2
      · rw [k2, z0, cf_s (by omega) e0, cf_s (by omega) e1] at hv
        have hv : nI (10 * (10 * 0 + d0) + d1) = v := hv
        rw [if_neg (by omega), if_neg (by omega), k2, z0, dv_s e0, dv_s e1, ← hv, tkn _ (by omega), if_neg (by omega), if_neg (show ¬ E - S ≤ 1 by omega)]
        by_cases c : d0 = 0
        · rw [if_pos c, if_pos c]; exact Or.inr ⟨by decide, Or.inl rfl⟩
        · rw [if_neg c, if_neg c]; exact Or.inl ⟨rfl, rfl, _, by omega, rfl⟩
      · obtain ⟨d2, hd2, e2⟩ := dig (hd (S + 2) (by omega) (by omega))
        by_cases k3 : E - S = 3
        · rw [k3, z0, cf_s (by omega) e0, cf_s (by omega) e1, cf_s (by omega) e2] at hv
          have hv : nI (10 * (10 * (10 * 0 + d0) + d1) + d2) = v := hv
          rw [if_neg (by omega), if_neg (by omega), k3, z0, dv_s e0, dv_s e1, dv_s e2, ← hv, tkn _ (by omega), if_neg (show ¬ E - S ≤ 1 by omega)]
          by_cases c : d0 = 0
          · rw [if_pos c, if_pos c, ite_self]; exact Or.inr ⟨by decide, Or.inl rfl⟩
          · rw [if_neg c, if_neg c]
            by_cases b : 255 < 10 * (10 * (10 * 0 + d0) + d1) + d2
            · rw [if_pos b]; exact Or.inr ⟨by decide, Or.inr ⟨_, b, by omega, rfl⟩⟩
            · rw [if_neg b]; exact Or.inl ⟨rfl, rfl, _, by omega, rfl⟩
        · obtain ⟨d3, hd3, e3⟩ := dig (hd (S + 3) (by omega) (by omega))
          rw [if_pos (by omega)]
          refine Or.inr ⟨?_, Or.inl rfl⟩
          by_cases c : d0 = 0
          · -- a leading zero
            unfold tokD
            rw [sub, ci (by omega), e0]
            split
            · decide
            · rw [if_pos (show nI (48 + d0) = (48 : Int32) from by rw [c]; rfl), if_neg (show ¬ nI (E - S) ≤ (1 : Int32) from fun q => by have := (le_c (b := 1) (by omega) (by omega)).mp q; omega)]
              decide
          · have big : ∃ a : Nat, 255 < a ∧ a < 100000 ∧ v = nI a := by
              rw [show E - S = (E - S - 3) + 1 + 1 + 1 by omega, z0, cf_s (by omega) e0, cf_s (by omega) e1, cf_s (by omega) e2] at hv
              by_cases b : 255 < 10 * (10 * (10 * 0 + d0) + d1) + d2
              · rw [cf_b b (by omega)] at hv
                exact ⟨_, b, by omega, hv.symm⟩
              · rw [show E - S - 3 = (E - S - 4) + 1 by omega, cf_s (by omega) e3, cf_b (by omega) (by omega)] at hv
                exact ⟨_, by omega, by omega, hv.symm⟩
            obtain ⟨a, b1, b2, b3⟩ := big
            rw [b3, tkn a b2, if_pos b1]
            decide
  · rw [if_neg t4]; rfl
  · have : f_X7_letter (nI S) (nI E) 2 tx = -9 := rfl
    rw [this]
    exact ⟨fun q => absurd q (nine_no hc), fun q => absurd q.1 t4⟩
/-! words -/
theorem st256 (a d : Nat) : ((256 : Int32) * nI a) + nI (97 + d) = nI (256 * a + (97 + d)) := by
  rw [show (256 : Int32) * nI a = nI (256 * a) from pk_mul 256 a, nI_add]
theorem wf_s {tx : Fn} {k p a d : Nat} (ha : a ≤ 65535) (hd : tx p = nI (97 + d)) : wf tx (k + 1) p (nI a) = wf tx k (p + 1) (nI (256 * a + (97 + d))) := by
  show wf tx k (p + 1) (if nI a ≤ (65535 : Int32) then ((256 : Int32) * nI a) + tx p else nI a) = _
  rw [if_pos (show nI a ≤ (65535 : Int32) from (le_c (b := 65535) (by omega) (by omega)).mpr ha), hd, st256]
theorem wf_b {tx : Fn} {a : Nat} (ha : 65535 < a) (h2 : a < 2 ^ 31) : ∀ k p, wf tx k p (nI a) = nI a := by
  intro k
  induction k with
  | zero => intro p; rfl
  | succ k ih =>
    intro p
    show wf tx k (p + 1) (if nI a ≤ (65535 : Int32) then ((256 : Int32) * nI a) + tx p else nI a) = _
    rw [if_neg (show ¬ nI a ≤ (65535 : Int32) from fun q => by have := (nI_leI (b := 65535) h2 (by omega)).mp q; omega)]
    exact ih (p + 1)
theorem kd_mv {tx : Fn} {S : Nat} (hS : S < 1000) : ∀ n (x : Int32), f_X7_kind_L26 (nI S) tx n x = f_X7_kind_L26 0 (fun i => if i = 0 then tx S else tx (S + 1)) n x := by
  intro n
  induction n with
  | zero => intro x; rw [f_X7_kind_L26, f_X7_kind_L26]
  | succ n ih =>
    intro x
    rw [f_X7_kind_L26, f_X7_kind_L26, nI_1, ci (n := S) (by omega), ci (n := S + 1) (by omega), ih]
    rfl
theorem kd_tab : ∀ a, a < 26 → ∀ b, b < 26 → f_X7_kind_L26 0 (fun i => if i = 0 then nI (97 + a) else nI (97 + b)) 4000 0 = f_X9_kindOf (nI (256 * (97 + a) + (97 + b))) := by decide +kernel
theorem ko_1 : ∀ a, a < 26 → f_X9_kindOf (nI (97 + a)) = -9 := by decide +kernel
theorem ko_b {a : Nat} (h : 65535 < a) (h2 : a < 2 ^ 31) : f_X9_kindOf (nI a) = -9 := by
  have ne : ∀ c : Nat, c ≤ 65535 → ¬ nI a = nI c := fun c hc q => by have := (nI_eq h2 (by omega)).mp q; omega
  unfold f_X9_kindOf
  rw [if_neg (show ¬ nI a = (28526 : Int32) from ne 28526 (by omega)), if_neg (show ¬ nI a = (29283 : Int32) from ne 29283 (by omega)), if_neg (show ¬ nI a = (29295 : Int32) from ne 29295 (by omega)), if_neg (show ¬ nI a = (29303 : Int32) from ne 29303 (by omega)), if_neg (show ¬ nI a = (30563 : Int32) from ne 30563 (by omega)), if_neg (show ¬ nI a = (30575 : Int32) from ne 30575 (by omega)), if_neg (show ¬ nI a = (30579 : Int32) from ne 30579 (by omega)), if_neg (show ¬ nI a = (30580 : Int32) from ne 30580 (by omega))]
theorem isc {c : Int32} (h : c = 114 ∨ c = 102 ∨ c = 97 ∨ c = 107 ∨ c = 115) : ∃ d : Nat, d < 256 ∧ c = nI d := by
  rcases h with q | q | q | q | q
  · exact ⟨114, by omega, q⟩
  · exact ⟨102, by omega, q⟩
  · exact ⟨97, by omega, q⟩
  · exact ⟨107, by omega, q⟩
  · exact ⟨115, by omega, q⟩
theorem tf_word {tx : Fn} {S E : Nat} (h1 : S < E) (hE : E ≤ 160) (hd : ∀ j, S ≤ j → j < E → f_X9_in (tx j) 97 122 ≠ 0) : TF tx (nI S) (nI E) 1 (tokW (wf tx (E - S) S 0)) (wf tx (E - S) S 0) := by
  have sub : nI E - nI S = nI (E - S) := pk_sub (by omega)
  have tk : ∀ v, tokW v = 4 ∨ tokW v = 2 := by
    intro v
    unfold tokW
    split
    · exact Or.inl rfl
    · exact Or.inr rfl
  have z0 : (0 : Int32) = nI 0 := rfl
  obtain ⟨d0, hd0, e0⟩ := let_ (hd S (Nat.le_refl _) h1)
  have lt : f_X7_letter (nI S) (nI E) 1 tx = if E - S = 1 then nI (97 + d0) else -9 := by
    unfold f_X7_letter
    rw [if_pos rfl, sub, ci (by omega), e0]
    by_cases b : E - S = 1
    · rw [if_pos b, if_pos (show nI (E - S) = (1 : Int32) from by rw [b]; rfl)]
    · rw [if_neg b, if_neg (show ¬ nI (E - S) = (1 : Int32) from fun q => b ((eq_c (b := 1) (by omega) (by omega)).mp q))]
  have kd : f_X7_kind (nI S) (nI E) 1 tx = if E - S = 2 then f_X7_kind_L26 0 (fun i => if i = 0 then tx S else tx (S + 1)) 4000 0 else -9 := by
    unfold f_X7_kind
    rw [if_pos rfl, sub, kd_mv (by omega)]
    by_cases b : E - S = 2
    · rw [if_pos b, if_pos (show nI (E - S) = (2 : Int32) from by rw [b]; rfl)]
    · rw [if_neg b, if_neg (show ¬ nI (E - S) = (2 : Int32) from fun q => b ((eq_c (b := 2) (by omega) (by omega)).mp q))]
  have t1 : ∀ v, tokW v ≠ 1 := fun v => by rcases tk v with q | q <;> (rw [q]; decide)
  have t0 : ∀ v, tokW v ≠ 0 := fun v => by rcases tk v with q | q <;> (rw [q]; decide)
  have t3 : ∀ v, tokW v ≠ 3 := fun v => by rcases tk v with q | q <;> (rw [q]; decide)
  have kw : ∀ v, (if tokW v = 4 then f_X9_kindOf v else -9) = f_X9_kindOf v := by
    intro v
    by_cases q : tokW v = 4
    · rw [if_pos q]
    · rw [if_neg q]
      by_cases r : f_X9_kindOf v = -9
      · exact r.symm
      · exact absurd (if_pos (Or.inr (Or.inr (Or.inr (Or.inr (Or.inr r)))))) q
  refine ⟨⟨fun q => absurd q (by decide), fun q => absurd q (t0 _)⟩, ⟨fun q => absurd q (by decide), fun q => absurd q (t3 _)⟩, Or.inr ⟨t1 _, Or.inl rfl⟩, ?_, fun c hc => ?_⟩
  · rw [kd, kw]
    by_cases k1 : E - S = 1
    · rw [if_neg (by omega), k1, z0, wf_s (by omega) e0]
      exact (ko_1 d0 hd0).symm.trans (by rw [show 256 * 0 + (97 + d0) = 97 + d0 by omega]; rfl)
    · obtain ⟨d1, hd1, e1⟩ := let_ (hd (S + 1) (by omega) (by omega))
      by_cases k2 : E - S = 2
      · rw [if_pos k2, k2, z0, wf_s (by omega) e0, wf_s (by omega) e1, e0, e1]
        have := kd_tab d0 hd0 d1 hd1
        rw [show 256 * (256 * 0 + (97 + d0)) + (97 + d1) = 256 * (97 + d0) + (97 + d1) by omega]
        exact this
      · obtain ⟨d2, hd2, e2⟩ := let_ (hd (S + 2) (by omega) (by omega))
        rw [if_neg k2, show E - S = (E - S - 3) + 1 + 1 + 1 by omega, z0, wf_s (by omega) e0, wf_s (by omega) e1, wf_s (by omega) e2, wf_b (by omega) (by omega), ko_b (by omega) (by omega)]
  · rw [lt]
    obtain ⟨q, hq, rfl⟩ := isc hc
    by_cases k1 : E - S = 1
    · rw [if_pos k1, k1, z0, wf_s (by omega) e0, show 256 * 0 + (97 + d0) = 97 + d0 by omega]
      show nI (97 + d0) = nI q ↔ tokW (nI (97 + d0)) = 4 ∧ nI (97 + d0) = nI q
      refine ⟨fun e => ⟨?_, e⟩, fun e => e.2⟩
      rw [e]
      refine if_pos ?_
      rcases hc with r | r | r | r | r
      · exact Or.inl r
      · exact Or.inr (Or.inl r)
      · exact Or.inr (Or.inr (Or.inl r))
      · exact Or.inr (Or.inr (Or.inr (Or.inl r)))
      · exact Or.inr (Or.inr (Or.inr (Or.inr (Or.inl r))))
    · rw [if_neg k1]
      obtain ⟨d1, hd1, e1⟩ := let_ (hd (S + 1) (by omega) (by omega))
      refine ⟨fun e => absurd e (nine_no hc), fun e => ?_⟩
      exfalso
      have e := e.2
      by_cases k2 : E - S = 2
      · rw [k2, z0, wf_s (by omega) e0, wf_s (by omega) e1] at e
        have e : nI (256 * (256 * 0 + (97 + d0)) + (97 + d1)) = nI q := e
        have := (eq_c (by omega) (by omega)).mp e
        omega
      · obtain ⟨d2, hd2, e2⟩ := let_ (hd (S + 2) (by omega) (by omega))
        rw [show E - S = (E - S - 3) + 1 + 1 + 1 by omega, z0, wf_s (by omega) e0, wf_s (by omega) e1, wf_s (by omega) e2, wf_b (by omega) (by omega)] at e
        have := (nI_eq (by omega) (by omega)).mp e
        omega
/-! a token -/
theorem in32 (x : Int32) : f_X9_in x 32 32 = 0 ↔ ¬ x = 32 := by
  unfold f_X9_in
  have h32 : (32 : Int32).toInt = 32 := rfl
  by_cases c : x < 32
  · rw [if_pos c]
    exact ⟨fun _ q => by have := rlt c; rw [q] at this; omega, fun _ => rfl⟩
  · rw [if_neg c]
    by_cases d : (32 : Int32) < x
    · rw [if_pos d]
      exact ⟨fun _ q => by have := rlt d; rw [q] at this; omega, fun _ => rfl⟩
    · rw [if_neg d]
      exact ⟨fun q => absurd q q_10, fun q => absurd (Int32.toInt_inj.mp (by have := rnlt c; have := rnlt d; omega)) q⟩
def Tok (tx : Fn) (L P : Nat) (A : Int32 × Int32 × Int32) (M : Int32 × Int32 × Int32 × Int32) : Prop := ∃ (S E : Nat) (so tok val : Int32), P ≤ S ∧ S ≤ E ∧ E ≤ L ∧ (tok = 0 ∨ S < E) ∧ A = (nI S, nI E, so) ∧ M = (nI E, nI S, tok, val) ∧ TF tx (nI S) (nI E) so tok val
theorem tk_L {tx : Fn} {L : Nat} (hL : L ≤ 160) : ∀ n P, P ≤ L → L < n + P → Tok tx L P (f_X7_advance_L8 tx (nI L) n (nI P)) (f_X9_next_L0 tx (nI L) n (nI P)) := by
  intro n
  induction n with
  | zero => intro P h1 h2; omega
  | succ n ih =>
    intro P h1 h2
    rw [f_X7_advance_L8, f_X9_next_L0]
    unfold f_X9_next_J353
    rw [ci (by omega), nI_1]
    by_cases z : P = L
    · have c1 : nI L ≤ nI P := (le_c (by omega) (by omega)).mpr (by omega)
      rw [if_pos c1, ih_end hL (by omega) (by omega), if_pos rfl, if_pos (show nI P = nI L by rw [z])]
      unfold f_X7_advance_J52
      rw [if_neg (show ¬ nI P < nI L from fun q => by have := (lt_c (by omega) (by omega)).mp q; omega)]
      exact ⟨P, P, 4, 0, 0, Nat.le_refl _, Nat.le_refl _, h1, Or.inl rfl, rfl, rfl, tf_other (Or.inl ⟨rfl, rfl⟩)⟩
    · have hP : P < L := by omega
      have c1 : ¬ nI L ≤ nI P := fun q => by have := (le_c (by omega) (by omega)).mp q; omega
      have c2 : ¬ nI P = nI L := fun q => z ((eq_c (by omega) (by omega)).mp q)
      rw [if_neg c1, ih_in hL hP, ih_in hL hP, ih_in hL hP]
      by_cases b : tx P = 32
      · rw [if_pos b, if_neg (fun q => (in32 _).mp q b)]
        obtain ⟨S, E, so, tok, val, g1, g2⟩ := ih (P + 1) (by omega) (by omega)
        exact ⟨S, E, so, tok, val, by omega, g2⟩
      · rw [if_neg b, if_pos ((in32 _).mpr b), if_neg c2]
        unfold f_X7_advance_J52 f_X7_advance_J225
        rw [if_pos (show nI P < nI L from (lt_c (by omega) (by omega)).mpr hP), il_eq (by omega), id_eq (by omega), ci (by omega), nI_1]
        by_cases d : f_X9_in (tx P) 48 57 = 0
        · rw [if_pos d, if_pos d]
          by_cases w : f_X9_in (tx P) 97 122 = 0
          · rw [if_pos w, if_pos w]
            by_cases s : tx P = 59
            · rw [if_pos s, if_pos s]
              exact ⟨P, P + 1, 3, 3, 0, Nat.le_refl _, by omega, by omega, Or.inr (by omega), rfl, rfl, tf_other (Or.inr (Or.inl ⟨rfl, rfl⟩))⟩
            · rw [if_neg s, if_neg s]
              exact ⟨P, P + 1, 0, 2, 0, Nat.le_refl _, by omega, by omega, Or.inr (by omega), rfl, rfl, tf_other (Or.inr (Or.inr ⟨rfl, rfl⟩))⟩
          · rw [if_neg w, if_neg w]
            obtain ⟨E, e1, e2, e3, e4, e5, e6⟩ := wr_L hL (nI P) 1 (nI P) 4000 P 0 h1 (by omega)
            exact ⟨P, E, 1, _, _, Nat.le_refl _, e1, e2, Or.inr (e4 hP w), e5, e6, tf_word (e4 hP w) (by omega) e3⟩
        · rw [if_neg d, if_neg d, if_pos (not_both d)]
          obtain ⟨E, e1, e2, e3, e4, e5, e6⟩ := dr_L hL (nI P) 2 (nI P) 4000 P 0 h1 (by omega)
          exact ⟨P, E, 2, _, _, Nat.le_refl _, e1, e2, Or.inr (e4 hP d), e5, e6, tf_dig (e4 hP d) (by omega) e3⟩
theorem tk_eq {tx : Fn} {L : Nat} (hL : L ≤ 160) {P : Nat} (hP : P ≤ L) : Tok tx L P (f_X7_advance (nI P) tx (nI L)) (f_X9_next tx (nI L) (nI P)) := tk_L hL 4000 P hP (by omega)
