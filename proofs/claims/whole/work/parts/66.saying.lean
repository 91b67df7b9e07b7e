/-! pure facts: a saying taken apart into cases and tests -/
def s_tell (c : Nat) : Int32 := if c = 120 then 1000 else nI (100 * (c - 48))
/-- the number of the test that begins at sign j, as far as the first i signs tell it -/
def s_nump (c : Nat → Nat) (i j : Nat) : Nat := if i ≤ j + 2 then 0 else if i ≤ j + 3 ∨ s_dig (c (j + 3)) = false then c (j + 2) - 48 else 10 * (c (j + 2) - 48) + (c (j + 3) - 48)
def s_num (c : Nat → Nat) (j : Nat) : Nat := if s_dig (c (j + 3)) = false then c (j + 2) - 48 else 10 * (c (j + 2) - 48) + (c (j + 3) - 48)
/-- saying k holds the text c of n signs, taken apart -/
def s_par (k n : Nat) (c : Nat → Nat) (cs fr te as ho nu : Nat → Int32) : Prop := (n = 0 ∨ s_S c n = 7) ∧ cs k = nI (s_M c n) ∧ fr (15 * k) = 0 ∧ (∀ j, j < n → s_S c (j + 1) = 7 → fr (15 * k + (s_M c j + 1)) = nI (s_T c j) ∧ te (14 * k + s_M c j) = s_tell (c j)) ∧ (∀ j, j < n → s_S c (j + 1) = 2 → as (14 * k + s_T c j) = nI (s_let (c j)) ∧ ho (14 * k + s_T c j) = nI (c (j + 1)) ∧ nu (14 * k + s_T c j) = nI (s_num c j))
def s_J (k : Nat) (c : Nat → Nat) (fr0 te0 as0 ho0 nu0 : Nat → Int32) (i : Nat) (fr te as ho nu : Nat → Int32) : Prop := (∀ x, (x < 15 * k ∨ 15 * k + 15 ≤ x) → fr x = fr0 x) ∧ (∀ x, (x < 14 * k ∨ 14 * k + 14 ≤ x) → te x = te0 x ∧ as x = as0 x ∧ ho x = ho0 x ∧ nu x = nu0 x) ∧ fr (15 * k) = 0 ∧ (∀ j, j < i → s_S c (j + 1) = 7 → fr (15 * k + (s_M c j + 1)) = nI (s_T c j) ∧ te (14 * k + s_M c j) = s_tell (c j)) ∧ (∀ j, j < i → s_S c (j + 1) = 2 → as (14 * k + s_T c j) = nI (s_let (c j)) ∧ (j + 1 < i → ho (14 * k + s_T c j) = nI (c (j + 1))) ∧ nu (14 * k + s_T c j) = nI (s_nump c i j))
theorem s_T2 {c : Nat → Nat} {j : Nat} (h : s_S c (j + 1) = 2) : s_T c (j + 1) = s_T c j + 1 := by
  show s_T c j + (if s_S c (j + 1) = 2 then 1 else 0) = _
  rw [if_pos h]
theorem s_Tn {c : Nat → Nat} {j : Nat} (h : ¬ s_S c (j + 1) = 2) : s_T c (j + 1) = s_T c j := by
  show s_T c j + (if s_S c (j + 1) = 2 then 1 else 0) = _
  rw [if_neg h, Nat.add_zero]
theorem s_M7 {c : Nat → Nat} {j : Nat} (h : s_S c (j + 1) = 7) : s_M c (j + 1) = s_M c j + 1 := by
  show s_M c j + (if s_S c (j + 1) = 7 then 1 else 0) = _
  rw [if_pos h]
theorem s_Mn {c : Nat → Nat} {j : Nat} (h : ¬ s_S c (j + 1) = 7) : s_M c (j + 1) = s_M c j := by
  show s_M c j + (if s_S c (j + 1) = 7 then 1 else 0) = _
  rw [if_neg h, Nat.add_zero]
theorem s_Tlt {c : Nat → Nat} {j i : Nat} (h : s_S c (j + 1) = 2) (hj : j < i) : s_T c j < s_T c i := by
  have h1 := s_T2 h
  have h2 := s_T_mono c (i := j + 1) (j := i) hj
  omega
theorem s_Mlt {c : Nat → Nat} {j i : Nat} (h : s_S c (j + 1) = 7) (hj : j < i) : s_M c j < s_M c i := by
  have h1 := s_M7 h
  have h2 := s_M_mono c (i := j + 1) (j := i) hj
  omega
theorem s_Tne {c : Nat → Nat} {j i : Nat} (h : s_S c (j + 1) = 2) (h' : s_S c (i + 1) = 2) (hj : ¬ j = i) : ¬ s_T c j = s_T c i := by
  rcases Nat.lt_or_ge j i with q | q
  · have := s_Tlt h q; omega
  · have := s_Tlt h' (show i < j by omega); omega
/-- behind a test's letter -/
theorem s_fwd {n : Nat} {c : Nat → Nat} (hc : ∀ j, j < n → c j < 127) (h7 : s_S c n = 7) {j : Nat} (hj : j < n) (h : s_S c (j + 1) = 2) : j + 4 ≤ n ∧ s_S c (j + 2) = 3 ∧ s_S c (j + 3) = 4 ∧ (s_S c (j + 4) = 5 ↔ s_dig (c (j + 3)) = true) := by
  have n1 : ¬ j + 1 = n := fun e => by rw [e, h7] at h; exact absurd h (by decide)
  obtain ⟨a1, a2, a3, a4⟩ := s_go hc h7 (i := j + 1) (by omega)
  have b := (s_f4 _ a1 _ (hc (j + 1) (by omega))).resolve_left a4
  rw [← a3] at b
  have s3 : s_S c (j + 2) = 3 := b.1.mpr h
  have n2 : ¬ j + 2 = n := fun e => by rw [e, h7] at s3; exact absurd s3 (by decide)
  obtain ⟨a1, a2, a3, a4⟩ := s_go hc h7 (i := j + 2) (by omega)
  have b := (s_f4 _ a1 _ (hc (j + 2) (by omega))).resolve_left a4
  rw [← a3] at b
  have s4 : s_S c (j + 3) = 4 := b.2.1.mpr s3
  have n3 : ¬ j + 3 = n := fun e => by rw [e, h7] at s4; exact absurd s4 (by decide)
  obtain ⟨a1, a2, a3, a4⟩ := s_go hc h7 (i := j + 3) (by omega)
  have b := (s_f4 _ a1 _ (hc (j + 3) (by omega))).resolve_left a4
  rw [← a3] at b
  refine ⟨by omega, s3, s4, ?_⟩
  have := b.2.2.1
  exact ⟨fun z => (this.mp z).2, fun z => this.mpr ⟨s4, z⟩⟩
/-- ahead of a relation, a digit, a second digit -/
theorem s_back {n : Nat} {c : Nat → Nat} (hc : ∀ j, j < n → c j < 127) (h7 : s_S c n = 7) {i : Nat} (hi : i < n) : (s_S c (i + 1) = 3 → ∃ j, i = j + 1 ∧ s_S c (j + 1) = 2) ∧ (s_S c (i + 1) = 4 → ∃ j, i = j + 2 ∧ s_S c (j + 1) = 2) ∧ (s_S c (i + 1) = 5 → ∃ j, i = j + 3 ∧ s_S c (j + 1) = 2) := by
  have p3 : ∀ i, i < n → s_S c (i + 1) = 3 → ∃ j, i = j + 1 ∧ s_S c (j + 1) = 2 := by
    intro i hi h
    obtain ⟨a1, a2, a3, a4⟩ := s_go hc h7 (i := i) hi
    have b := (s_f4 _ a1 _ (hc i hi)).resolve_left a4
    rw [← a3] at b
    have s2 := b.1.mp h
    cases i with
    | zero => exact absurd s2 (by show ¬ 0 = 2; omega)
    | succ j => exact ⟨j, rfl, s2⟩
  have p4 : ∀ i, i < n → s_S c (i + 1) = 4 → ∃ j, i = j + 2 ∧ s_S c (j + 1) = 2 := by
    intro i hi h
    obtain ⟨a1, a2, a3, a4⟩ := s_go hc h7 (i := i) hi
    have b := (s_f4 _ a1 _ (hc i hi)).resolve_left a4
    rw [← a3] at b
    have s2 := b.2.1.mp h
    cases i with
    | zero => exact absurd s2 (by show ¬ 0 = 3; omega)
    | succ j =>
      obtain ⟨m, rfl, h3⟩ := p3 j (by omega) s2
      exact ⟨m, rfl, h3⟩
  refine ⟨p3 i hi, p4 i hi, fun h => ?_⟩
  obtain ⟨a1, a2, a3, a4⟩ := s_go hc h7 (i := i) hi
  have b := (s_f4 _ a1 _ (hc i hi)).resolve_left a4
  rw [← a3] at b
  have s2 := (b.2.2.1.mp h).1
  cases i with
  | zero => exact absurd s2 (by show ¬ 0 = 4; omega)
  | succ j =>
    obtain ⟨m, rfl, h3⟩ := p4 j (by omega) s2
    exact ⟨m, rfl, h3⟩
theorem s_nump_same {n : Nat} {c : Nat → Nat} (hc : ∀ j, j < n → c j < 127) (h7 : s_S c n = 7) {i j : Nat} (hi : i < n) (hj : j < i) (h2 : s_S c (j + 1) = 2) (h4 : ¬ s_S c (i + 1) = 4) (h5 : ¬ s_S c (i + 1) = 5) : s_nump c (i + 1) j = s_nump c i j := by
  obtain ⟨f1, f2, f3, f4⟩ := s_fwd hc h7 (j := j) (by omega) h2
  have e2 : ¬ i = j + 2 := fun e => by rw [e] at h4; exact h4 f3
  by_cases e3 : i = j + 3
  · have d : s_dig (c (j + 3)) = false := by
      cases hd : s_dig (c (j + 3)) with
      | false => rfl
      | true => rw [e3] at h5; exact absurd (f4.mpr hd) h5
    unfold s_nump
    rw [if_neg (by omega), if_pos (.inr d), if_neg (by omega), if_pos (.inr d)]
  · unfold s_nump
    by_cases q : i ≤ j + 2
    · rw [if_pos q, if_pos (by omega)]
    · rw [if_neg q, if_neg (by omega)]
      by_cases d : s_dig (c (j + 3)) = false
      · rw [if_pos (.inr d), if_pos (.inr d)]
      · rw [if_neg (fun z => z.elim (by omega) d), if_neg (fun z => z.elim (by omega) d)]
theorem s_nump_ge {c : Nat → Nat} {i j : Nat} (h : ¬ i ≤ j + 3) : s_nump c i j = s_num c j := by
  have h2 : ¬ i ≤ j + 2 := by omega
  unfold s_nump s_num
  rw [if_neg h2]
  by_cases d : s_dig (c (j + 3)) = false
  · have e : i ≤ j + 3 ∨ s_dig (c (j + 3)) = false := .inr d
    rw [if_pos e, if_pos d]
  · have e : ¬ (i ≤ j + 3 ∨ s_dig (c (j + 3)) = false) := fun z => z.elim h d
    rw [if_neg e, if_neg d]
theorem s_dig_of {c : Nat} (h : s_dig c = true) : 48 ≤ c ∧ c ≤ 57 := of_decide_eq_true h
theorem m_lookOfLetter : ∀ c, c < 127 → mX10_lookOfLetter (nI c) = some (if s_let c = 9 then -1 else nI (s_let c)) := by decide +kernel
theorem m_sayRef {k : Nat} (hk : k < 4) {n : Nat} {sg : Nat → Int32} {c : Nat → Nat} (h : s_txt n sg c) (hp : n = 0 ∨ s_S c n = 7) (cs fr te as ho nu : Nat → Int32) : ∃ fr' te' as' ho' nu', mX10_saying_b31 (nI n) sg cs fr te as ho nu (nI k) = some (nI (s_M c n), 0, upd cs k (nI (s_M c n)), fr', te', as', ho', nu') ∧ s_par k n c (upd cs k (nI (s_M c n))) fr' te' as' ho' nu' ∧ (∀ x, (x < 15 * k ∨ 15 * k + 15 ≤ x) → fr' x = fr x) ∧ (∀ x, (x < 14 * k ∨ 14 * k + 14 ≤ x) → te' x = te x ∧ as' x = as x ∧ ho' x = ho x ∧ nu' x = nu x) := by
  have hn := h.1
  have hc : ∀ j, j < n → c j < 127 := fun j hj => (h.2 j hj).2
  have m15 : (15 : Int32) * nI k = nI (15 * k) := pk_mul 15 k
  have m14 : (14 : Int32) * nI k = nI (14 * k) := pk_mul 14 k
  have ck : (nI k).toNatClampNeg = k := nI_clamp (by omega)
  unfold mX10_saying_b31
  rw [m15, x_ny (n_xin (by omega) (by omega)), nI_clamp (by omega)]
  unfold mX10_saying_b51
  have run := x_run (s := fun q : Int32 × Int32 × Int32 × Int32 × (Nat → Int32) × (Nat → Int32) × (Nat → Int32) × (Nat → Int32) × (Nat → Int32) => mX10_saying_s51 (nI n) sg cs (nI k) (q.1) (q.2.1) (q.2.2.1) (q.2.2.2.1) (q.2.2.2.2.1) (q.2.2.2.2.2.1) (q.2.2.2.2.2.2.1) (q.2.2.2.2.2.2.2.1) (q.2.2.2.2.2.2.2.2)) (fun m q => ∃ i fr' te' as' ho' nu', i ≤ n ∧ m = n - i ∧ q = (nI (s_M c i), nI (s_T c i), nI (s_S c i), nI i, fr', te', as', ho', nu') ∧ s_J k c fr te as ho nu i fr' te' as' ho' nu') (fun o => ∃ fr' te' as' ho' nu', o = (nI (s_M c n), 0, upd cs k (nI (s_M c n)), fr', te', as', ho', nu') ∧ s_J k c fr te as ho nu n fr' te' as' ho' nu') (by
    rintro m q ⟨i, f', t', a', o', u', hi, rfl, rfl, hJ⟩
    by_cases hin : i = n
    · subst hin
      refine .inl ⟨_, ?_, f', t', a', o', u', rfl, hJ⟩
      show mX10_saying_s51 _ _ _ _ _ _ _ _ _ _ _ _ _ = _
      unfold mX10_saying_s51
      rw [if_pos (nI_le (Nat.le_refl i) (by omega)), x_ny (n_xin hk (by omega)), ck]
    have hin' : i < n := by omega
    have h7 : s_S c n = 7 := hp.resolve_left (by omega)
    obtain ⟨g1, g2, g3, g4⟩ := s_go hc h7 hin'
    obtain ⟨e1, e2⟩ := h.2 i hin'
    obtain ⟨t1, t2⟩ := s_TM hc h7 i (by omega)
    have f2 := m_stepOf (s_S c i) g1 (c i) e2
    rw [if_neg g4, ← g3] at f2
    have F3 := (s_f3 _ g1 _ e2).resolve_left g4
    have F4 := (s_f4 _ g1 _ e2).resolve_left g4
    have F5 := (s_f5 _ g1 _ e2).resolve_left g4
    rw [← g3] at F3 F4 F5
    obtain ⟨J1, J2, J3, J4, J5⟩ := hJ
    have A3 := s_A_le (s_S c i)
    have iff2 : nI (s_S c (i + 1)) = 2 ↔ s_S c (i + 1) = 2 := n_eqI (b := 2) (by omega) (by omega)
    have iff3 : nI (s_S c (i + 1)) = 3 ↔ s_S c (i + 1) = 3 := n_eqI (b := 3) (by omega) (by omega)
    have iff4 : nI (s_S c (i + 1)) = 4 ↔ s_S c (i + 1) = 4 := n_eqI (b := 4) (by omega) (by omega)
    have iff5 : nI (s_S c (i + 1)) = 5 ↔ s_S c (i + 1) = 5 := n_eqI (b := 5) (by omega) (by omega)
    have iff7 : nI (s_S c (i + 1)) = 7 ↔ s_S c (i + 1) = 7 := n_eqI (b := 7) (by omega) (by omega)
    -- what stays for the tests and the odds ahead, where nothing is written there
    have keep : ¬ s_S c (i + 1) = 2 → ¬ s_S c (i + 1) = 3 → ¬ s_S c (i + 1) = 4 → ¬ s_S c (i + 1) = 5 → ∀ j, j < i + 1 → s_S c (j + 1) = 2 → a' (14 * k + s_T c j) = nI (s_let (c j)) ∧ (j + 1 < i + 1 → o' (14 * k + s_T c j) = nI (c (j + 1))) ∧ u' (14 * k + s_T c j) = nI (s_nump c (i + 1) j) := by
      intro n2 n3 n4 n5 j hj h2
      have hji : j < i := by
        rcases Nat.lt_or_ge j i with q | q
        · exact q
        · have : j = i := by omega
          rw [this] at h2; exact absurd h2 n2
      obtain ⟨x1, x2, x3⟩ := J5 j hji h2
      refine ⟨x1, fun hj2 => ?_, by rw [x3, s_nump_same hc h7 hin' hji h2 n4 n5]⟩
      refine x2 ?_
      rcases Nat.lt_or_ge (j + 1) i with q | q
      · exact q
      · have : i = j + 1 := by omega
        have f := (s_fwd hc h7 (j := j) (by omega) h2).2.1
        rw [this] at n3
        exact absurd f n3
    have keep7 : ¬ s_S c (i + 1) = 7 → ∀ j, j < i + 1 → s_S c (j + 1) = 7 → f' (15 * k + (s_M c j + 1)) = nI (s_T c j) ∧ t' (14 * k + s_M c j) = s_tell (c j) := by
      intro n7 j hj hh
      have hji : j < i := by
        rcases Nat.lt_or_ge j i with q | q
        · exact q
        · have : j = i := by omega
          rw [this] at hh; exact absurd hh n7
      exact J4 j hji hh
    -- the step, up to its writing
    have step : ∀ r, (if nI (s_S c (i + 1)) = 2 then ((mX10_lookOfLetter (nI (c i))).bind (fun r416 => x_need (x_in (((14 * nI k) + nI (s_T c i))) 56) (x_need (x_in (((14 * nI k) + nI (s_T c i))) 56) (mX10_saying_b234 (nI n) sg cs f' t' ((upd a' (Int32.toNatClampNeg (((14 * nI k) + nI (s_T c i)))) r416)) o' ((upd u' (Int32.toNatClampNeg (((14 * nI k) + nI (s_T c i)))) 0)) (nI k) (nI (s_M c i)) ((nI (s_T c i) + 1)) (nI (s_S c (i + 1))) (nI i))))) else (if nI (s_S c (i + 1)) = 3 then (x_need (x_in ((((14 * nI k) + nI (s_T c i)) - 1)) 56) (mX10_saying_b234 (nI n) sg cs f' t' a' ((upd o' (Int32.toNatClampNeg ((((14 * nI k) + nI (s_T c i)) - 1))) (nI (c i)))) u' (nI k) (nI (s_M c i)) (nI (s_T c i)) (nI (s_S c (i + 1))) (nI i))) else (if nI (s_S c (i + 1)) = 4 then (mX10_saying_b150 (nI n) sg cs f' t' a' o' u' (nI k) (nI (s_M c i)) (nI (s_T c i)) (nI (s_S c (i + 1))) (nI i) (nI (c i)) (((14 * nI k) + nI (s_T c i)))) else (if nI (s_S c (i + 1)) = 5 then (mX10_saying_b150 (nI n) sg cs f' t' a' o' u' (nI k) (nI (s_M c i)) (nI (s_T c i)) (nI (s_S c (i + 1))) (nI i) (nI (c i)) (((14 * nI k) + nI (s_T c i)))) else (if nI (s_S c (i + 1)) = 7 then (if nI (c i) = 120 then (mX10_saying_b218 (nI n) sg cs f' t' a' o' u' (nI k) (nI (s_M c i)) (nI (s_T c i)) (nI (s_S c (i + 1))) (nI i) (((14 * nI k) + nI (s_M c i))) 1000) else (mX10_saying_b218 (nI n) sg cs f' t' a' o' u' (nI k) (nI (s_M c i)) (nI (s_T c i)) (nI (s_S c (i + 1))) (nI i) (((14 * nI k) + nI (s_M c i))) ((100 * ((nI (c i)) - 48))))) else (mX10_saying_b234 (nI n) sg cs f' t' a' o' u' (nI k) (nI (s_M c i)) (nI (s_T c i)) (nI (s_S c (i + 1))) (nI i))))))) = some r → mX10_saying_s51 (nI n) sg cs (nI k) (nI (s_M c i)) (nI (s_T c i)) (nI (s_S c i)) (nI i) f' t' a' o' u' = some r := by
      intro r hr
      unfold mX10_saying_s51
      rw [if_neg (nI_ge hin' (by omega)), x_ny (n_xin (by omega) (by omega)), nI_clamp (by omega), e1, f2]
      exact hr
    rw [m14, nI_add] at step
    have T14 : s_T c i ≤ 13 := by omega
    by_cases q2 : s_S c (i + 1) = 2
    · have q0 := F5.1 q2
      have A0 : s_A (s_S c i) = 0 := by rcases q0 with z | z <;> rw [z] <;> rfl
      have nl : ¬ s_let (c i) = 9 := by have := F3.2.2.2.mpr q2; omega
      refine .inr ⟨n - (i + 1), (nI (s_M c (i + 1)), nI (s_T c (i + 1)), nI (s_S c (i + 1)), nI (i + 1), f', t', upd a' (14 * k + s_T c i) (nI (s_let (c i))), o', upd u' (14 * k + s_T c i) 0), by omega, ?_, i + 1, _, _, _, _, _, by omega, rfl, rfl, J1, ?_, J3, keep7 (by omega), ?_⟩
      · refine step _ ?_
        rw [if_pos (iff2.mpr q2), m_lookOfLetter _ e2, if_neg nl]
        simp only [Option.bind_some]
        rw [x_ny (n_xin (by omega) (by omega)), x_ny (n_xin (by omega) (by omega)), nI_clamp (by omega)]
        unfold mX10_saying_b234
        rw [s_T2 q2, s_Mn (by omega), nI_1, nI_1]
      · intro x hx
        rw [pk_un (by omega), pk_un (by omega)]
        exact J2 x hx
      · intro j hj h2
        by_cases hji : j = i
        · subst hji
          refine ⟨pk_us, fun z => absurd z (by omega), ?_⟩
          rw [pk_us]
          unfold s_nump
          rw [if_pos (by omega)]
          rfl
        · have hlt : j < i := by omega
          have hne := s_Tlt h2 hlt
          obtain ⟨x1, x2, x3⟩ := J5 j hlt h2
          rw [pk_un (by omega), pk_un (by omega)]
          refine ⟨x1, fun hj2 => x2 ?_, by rw [x3, s_nump_same hc h7 hin' hlt h2 (by omega) (by omega)]⟩
          rcases Nat.lt_or_ge (j + 1) i with q | q
          · exact q
          · have e : i = j + 1 := by omega
            have f := (s_fwd hc h7 (j := j) (by omega) h2).2.1
            rw [e, f] at q2
            exact absurd q2 (by decide)
    by_cases q3 : s_S c (i + 1) = 3
    · obtain ⟨j0, rfl, hj0⟩ := (s_back hc h7 hin').1 q3
      have Te := s_T2 hj0
      refine .inr ⟨n - (j0 + 1 + 1), (nI (s_M c (j0 + 1 + 1)), nI (s_T c (j0 + 1 + 1)), nI (s_S c (j0 + 1 + 1)), nI (j0 + 1 + 1), f', t', a', upd o' (14 * k + s_T c j0) (nI (c (j0 + 1))), u'), by omega, ?_, j0 + 1 + 1, _, _, _, _, _, by omega, rfl, rfl, J1, ?_, J3, keep7 (by omega), ?_⟩
      · refine step _ ?_
        rw [if_neg (fun z => q2 (iff2.mp z)), if_pos (iff3.mpr q3), n_pred (by omega), x_ny (n_xin (by omega) (by omega)), nI_clamp (by omega)]
        unfold mX10_saying_b234
        rw [s_Tn q2, s_Mn (c := c) (j := j0 + 1) (by omega), nI_1, Te, show 14 * k + (s_T c j0 + 1) - 1 = 14 * k + s_T c j0 by omega]
      · intro x hx
        rw [pk_un (by omega)]
        exact J2 x hx
      · intro j hj h2
        have hlt : j < j0 + 1 := by
          rcases Nat.lt_or_ge j (j0 + 1) with q | q
          · exact q
          · have : j = j0 + 1 := by omega
            rw [this] at h2; exact absurd h2 q2
        obtain ⟨x1, x2, x3⟩ := J5 j hlt h2
        refine ⟨x1, fun hj2 => ?_, by rw [x3, s_nump_same hc h7 hin' hlt h2 (by omega) (by omega)]⟩
        by_cases e : j = j0
        · subst e
          exact pk_us
        · have := s_Tne h2 hj0 e
          rw [pk_un (by omega)]
          exact x2 (by omega)
    by_cases q4 : s_S c (i + 1) = 4
    · obtain ⟨j0, rfl, hj0⟩ := (s_back hc h7 hin').2.1 q4
      have Te := s_T2 hj0
      have fw := s_fwd hc h7 (j := j0) (by omega) hj0
      have Te2 : s_T c (j0 + 2) = s_T c (j0 + 1) := s_Tn (c := c) (j := j0 + 1) (by rw [show j0 + 1 + 1 = j0 + 2 from rfl, fw.2.1]; decide)
      have dg := s_dig_of (F5.2.1 q4)
      have u0 := (J5 j0 (by omega) hj0).2.2
      have n0 : s_nump c (j0 + 2) j0 = 0 := by unfold s_nump; rw [if_pos (by omega)]
      have n1 : s_nump c (j0 + 2 + 1) j0 = c (j0 + 2) - 48 := by unfold s_nump; rw [if_neg (by omega), if_pos (.inl (by omega))]
      rw [n0] at u0
      refine .inr ⟨n - (j0 + 2 + 1), (nI (s_M c (j0 + 2 + 1)), nI (s_T c (j0 + 2 + 1)), nI (s_S c (j0 + 2 + 1)), nI (j0 + 2 + 1), f', t', a', o', upd u' (14 * k + s_T c j0) (nI (c (j0 + 2) - 48))), by omega, ?_, j0 + 2 + 1, _, _, _, _, _, by omega, rfl, rfl, J1, ?_, J3, keep7 (by omega), ?_⟩
      · refine step _ ?_
        rw [if_neg (fun z => q2 (iff2.mp z)), if_neg (fun z => q3 (iff3.mp z)), if_pos (iff4.mpr q4)]
        unfold mX10_saying_b150 mX10_saying_b234
        rw [n_pred (by omega), x_ny (n_xin (by omega) (by omega)), x_ny (n_xin (by omega) (by omega)), nI_clamp (by omega)]
        rw [s_Tn q2, s_Mn (c := c) (j := j0 + 2) (by omega), nI_1, show 14 * k + s_T c (j0 + 2) - 1 = 14 * k + s_T c j0 by omega, u0]
        have ee : (10 : Int32) * nI 0 + nI (c (j0 + 2)) - 48 = nI (c (j0 + 2) - 48) := by
          rw [show (10 : Int32) * nI 0 = nI 0 by decide, nI_add, Nat.zero_add]
          exact pk_sub dg.1
        rw [ee]
      · intro x hx
        rw [pk_un (by omega)]
        exact J2 x hx
      · intro j hj h2
        have hlt : j < j0 + 2 := by
          rcases Nat.lt_or_ge j (j0 + 2) with q | q
          · exact q
          · have : j = j0 + 2 := by omega
            rw [this] at h2; exact absurd h2 q2
        have hlt1 : j < j0 + 1 := by
          rcases Nat.lt_or_ge j (j0 + 1) with q | q
          · exact q
          · have : j = j0 + 1 := by omega
            rw [this, show j0 + 1 + 1 = j0 + 2 from rfl, fw.2.1] at h2; exact absurd h2 (by decide)
        obtain ⟨x1, x2, x3⟩ := J5 j hlt h2
        refine ⟨x1, fun hj2 => x2 (by omega), ?_⟩
        by_cases e : j = j0
        · subst e
          rw [pk_us, n1]
        · have hne := s_Tne h2 hj0 e
          rw [pk_un (by omega), x3]
          have fj := s_fwd hc h7 (j := j) (by omega) h2
          have : s_nump c (j0 + 2 + 1) j = s_nump c (j0 + 2) j := by
            have e4 : ¬ j0 = j + 1 := fun e4 => by
              rw [e4, show j + 1 + 1 = j + 2 from rfl, fj.2.1] at hj0
              exact absurd hj0 (by decide)
            rw [s_nump_ge (by omega), s_nump_ge (by omega)]
          rw [this]
    by_cases q5 : s_S c (i + 1) = 5
    · obtain ⟨j0, rfl, hj0⟩ := (s_back hc h7 hin').2.2 q5
      have Te := s_T2 hj0
      have fw := s_fwd hc h7 (j := j0) (by omega) hj0
      have Te2 : s_T c (j0 + 2) = s_T c (j0 + 1) := s_Tn (c := c) (j := j0 + 1) (by rw [show j0 + 1 + 1 = j0 + 2 from rfl, fw.2.1]; decide)
      have Te3 : s_T c (j0 + 3) = s_T c (j0 + 2) := s_Tn (c := c) (j := j0 + 2) (by rw [show j0 + 2 + 1 = j0 + 3 from rfl, fw.2.2.1]; decide)
      have dgt := fw.2.2.2.mp q5
      have dg := s_dig_of dgt
      have dg2 : 48 ≤ c (j0 + 2) ∧ c (j0 + 2) ≤ 57 := by
        obtain ⟨b1, b2, b3, b4⟩ := s_go hc h7 (i := j0 + 2) (by omega)
        have b5 := (s_f5 _ b1 _ (hc (j0 + 2) (by omega))).resolve_left b4
        rw [← b3] at b5
        exact s_dig_of (b5.2.1 fw.2.2.1)
      have u0 := (J5 j0 (by omega) hj0).2.2
      have n0 : s_nump c (j0 + 3) j0 = c (j0 + 2) - 48 := by unfold s_nump; rw [if_neg (by omega), if_pos (.inl (by omega))]
      have n1 : s_nump c (j0 + 3 + 1) j0 = 10 * (c (j0 + 2) - 48) + (c (j0 + 3) - 48) := by
        unfold s_nump
        rw [if_neg (by omega), if_neg (fun z => z.elim (by omega) (by rw [dgt]; decide))]
      rw [n0] at u0
      refine .inr ⟨n - (j0 + 3 + 1), (nI (s_M c (j0 + 3 + 1)), nI (s_T c (j0 + 3 + 1)), nI (s_S c (j0 + 3 + 1)), nI (j0 + 3 + 1), f', t', a', o', upd u' (14 * k + s_T c j0) (nI (10 * (c (j0 + 2) - 48) + (c (j0 + 3) - 48)))), by omega, ?_, j0 + 3 + 1, _, _, _, _, _, by omega, rfl, rfl, J1, ?_, J3, keep7 (by omega), ?_⟩
      · refine step _ ?_
        rw [if_neg (fun z => q2 (iff2.mp z)), if_neg (fun z => q3 (iff3.mp z)), if_neg (fun z => q4 (iff4.mp z)), if_pos (iff5.mpr q5)]
        unfold mX10_saying_b150 mX10_saying_b234
        rw [n_pred (by omega), x_ny (n_xin (by omega) (by omega)), x_ny (n_xin (by omega) (by omega)), nI_clamp (by omega)]
        rw [s_Tn q2, s_Mn (c := c) (j := j0 + 3) (by omega), nI_1, show 14 * k + s_T c (j0 + 3) - 1 = 14 * k + s_T c j0 by omega, u0]
        have ee : (10 : Int32) * nI (c (j0 + 2) - 48) + nI (c (j0 + 3)) - 48 = nI (10 * (c (j0 + 2) - 48) + (c (j0 + 3) - 48)) := by
          rw [show (10 : Int32) * nI (c (j0 + 2) - 48) = nI (10 * (c (j0 + 2) - 48)) from pk_mul 10 _, nI_add]
          have := pk_sub (a := 10 * (c (j0 + 2) - 48) + c (j0 + 3)) (b := 48) (by omega)
          rw [show 10 * (c (j0 + 2) - 48) + (c (j0 + 3) - 48) = 10 * (c (j0 + 2) - 48) + c (j0 + 3) - 48 by omega]
          exact this
        rw [ee]
      · intro x hx
        rw [pk_un (by omega)]
        exact J2 x hx
      · intro j hj h2
        have hlt : j < j0 + 3 := by
          rcases Nat.lt_or_ge j (j0 + 3) with q | q
          · exact q
          · have : j = j0 + 3 := by omega
            rw [this] at h2; exact absurd h2 q2
        have hlt2 : j < j0 + 2 := by
          rcases Nat.lt_or_ge j (j0 + 2) with q | q
          · exact q
          · have : j = j0 + 2 := by omega
            rw [this, show j0 + 2 + 1 = j0 + 3 from rfl, fw.2.2.1] at h2; exact absurd h2 (by decide)
        have hlt1 : j < j0 + 1 := by
          rcases Nat.lt_or_ge j (j0 + 1) with q | q
          · exact q
          · have : j = j0 + 1 := by omega
            rw [this, show j0 + 1 + 1 = j0 + 2 from rfl, fw.2.1] at h2; exact absurd h2 (by decide)
        obtain ⟨x1, x2, x3⟩ := J5 j hlt h2
        refine ⟨x1, fun hj2 => x2 (by omega), ?_⟩
        by_cases e : j = j0
        · subst e
          rw [pk_us, n1]
        · have hne := s_Tne h2 hj0 e
          rw [pk_un (by omega), x3]
          have : s_nump c (j0 + 3 + 1) j = s_nump c (j0 + 3) j := by
            rw [s_nump_ge (by omega), s_nump_ge (by omega)]
          rw [this]
    by_cases q7 : s_S c (i + 1) = 7
    · have B6 : s_B (s_S c i) = 3 := by rw [F3.2.1.mp q7]; rfl
      have wr : ∀ v, v = s_tell (c i) → mX10_saying_b218 (nI n) sg cs f' t' a' o' u' (nI k) (nI (s_M c i)) (nI (s_T c i)) (nI (s_S c (i + 1))) (nI i) (14 * nI k + nI (s_M c i)) v = some (.inr (nI (s_M c (i + 1)), nI (s_T c (i + 1)), nI (s_S c (i + 1)), nI (i + 1), upd f' (15 * k + (s_M c i + 1)) (nI (s_T c i)), upd t' (14 * k + s_M c i) (s_tell (c i)), a', o', u')) := by
        intro v hv
        unfold mX10_saying_b218 mX10_saying_b234
        rw [m14, m15, nI_add, nI_1, nI_add, x_ny (n_xin (by omega) (by omega)), x_ny (n_xin (by omega) (by omega)), nI_clamp (by omega), nI_clamp (by omega), hv, s_M7 q7, s_Tn q2, nI_1]
      refine .inr ⟨n - (i + 1), (nI (s_M c (i + 1)), nI (s_T c (i + 1)), nI (s_S c (i + 1)), nI (i + 1), upd f' (15 * k + (s_M c i + 1)) (nI (s_T c i)), upd t' (14 * k + s_M c i) (s_tell (c i)), a', o', u'), by omega, ?_, i + 1, _, _, _, _, _, by omega, rfl, rfl, ?_, ?_, ?_, ?_, keep q2 q3 q4 q5⟩
      · refine step _ ?_
        rw [if_neg (fun z => q2 (iff2.mp z)), if_neg (fun z => q3 (iff3.mp z)), if_neg (fun z => q4 (iff4.mp z)), if_neg (fun z => q5 (iff5.mp z)), if_pos (iff7.mpr q7)]
        have i120 : nI (c i) = 120 ↔ c i = 120 := n_eqI (a := c i) (b := 120) (by omega) (by omega)
        rw [← m14]
        by_cases x : c i = 120
        · rw [if_pos (i120.mpr x)]
          exact wr 1000 (by unfold s_tell; rw [if_pos x])
        · rw [if_neg (fun z => x (i120.mp z))]
          refine wr _ ?_
          have dg := s_dig_of ((F5.2.2 q7).resolve_left x)
          unfold s_tell
          rw [if_neg x, show nI (c i) - 48 = nI (c i - 48) from pk_sub dg.1]
          exact pk_mul 100 _
      · intro x hx
        rw [pk_un (by omega)]
        exact J1 x hx
      · intro x hx
        rw [pk_un (by omega)]
        exact J2 x hx
      · rw [pk_un (by omega)]
        exact J3
      · intro j hj hh
        by_cases hji : j = i
        · subst hji
          exact ⟨pk_us, pk_us⟩
        · have := s_Mlt hh (show j < i by omega)
          rw [pk_un (by omega), pk_un (by omega)]
          exact J4 j (by omega) hh
    · refine .inr ⟨n - (i + 1), (nI (s_M c (i + 1)), nI (s_T c (i + 1)), nI (s_S c (i + 1)), nI (i + 1), f', t', a', o', u'), by omega, ?_, i + 1, _, _, _, _, _, by omega, rfl, rfl, J1, J2, J3, keep7 q7, keep q2 q3 q4 q5⟩
      refine step _ ?_
      rw [if_neg (fun z => q2 (iff2.mp z)), if_neg (fun z => q3 (iff3.mp z)), if_neg (fun z => q4 (iff4.mp z)), if_neg (fun z => q5 (iff5.mp z)), if_neg (fun z => q7 (iff7.mp z))]
      unfold mX10_saying_b234
      rw [s_Mn q7, s_Tn q2, nI_1]) n (0, 0, 0, 0, upd fr (15 * k) 0, te, as, ho, nu) ⟨0, _, _, _, _, _, by omega, rfl, rfl, fun x hx => pk_un (by omega), fun x _ => ⟨rfl, rfl, rfl, rfl⟩, pk_us, fun j hj => absurd hj (Nat.not_lt_zero j), fun j hj => absurd hj (Nat.not_lt_zero j)⟩
  obtain ⟨o, r1, f', t', a', o', u', rfl, J1, J2, J3, J4, J5⟩ := run
  refine ⟨f', t', a', o', u', r1, ⟨hp, pk_us, J3, J4, fun j hj h2 => ?_⟩, J1, J2⟩
  have h7 : s_S c n = 7 := hp.resolve_left (by omega)
  obtain ⟨x1, x2, x3⟩ := J5 j hj h2
  have fj := s_fwd hc h7 hj h2
  refine ⟨x1, x2 (by omega), ?_⟩
  rw [x3, s_nump_ge (by omega)]
