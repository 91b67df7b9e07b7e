/-! pure facts: the states of a text, sign by sign; faults; counting cases -/
def s_let (c : Nat) : Nat := if c = 112 then 0 else if c = 119 then 1 else if c = 115 then 2 else if c = 109 then 3 else if c = 121 then 4 else if c = 100 then 5 else if c = 117 then 6 else 9
def s_dig (c : Nat) : Bool := decide (48 ≤ c ∧ c ≤ 57)
/-- the reference's next state; 9: none -/
def s_step (q c : Nat) : Nat := if q = 0 then (if c = 42 then 1 else if s_let c < 9 then 2 else 9) else if q = 1 then (if c = 58 then 6 else 9) else if q = 2 then (if c = 60 ∨ c = 61 ∨ c = 62 then 3 else 9) else if q = 3 then (if s_dig c = true then 4 else 9) else if q = 4 then (if s_dig c = true then 5 else if c = 38 then 8 else if c = 58 then 6 else 9) else if q = 5 then (if c = 38 then 8 else if c = 58 then 6 else 9) else if q = 6 then (if s_dig c = true ∨ c = 120 then 7 else 9) else if q = 7 then (if c = 59 then 0 else 9) else if q = 8 then (if s_let c < 9 then 2 else 9) else 9
def s_S (c : Nat → Nat) : Nat → Nat | 0 => 0 | i + 1 => s_step (s_S c i) (c i)
def s_T (c : Nat → Nat) : Nat → Nat | 0 => 0 | i + 1 => s_T c i + (if s_S c (i + 1) = 2 then 1 else 0)
def s_M (c : Nat → Nat) : Nat → Nat | 0 => 0 | i + 1 => s_M c i + (if s_S c (i + 1) = 7 then 1 else 0)
/-- the class's place for a state -/
def s_pl : Nat → Nat | 0 => 0 | 1 => 6 | 2 => 2 | 3 => 3 | 4 => 4 | 5 => 5 | 6 => 7 | 7 => 8 | _ => 1
def s_A : Nat → Nat | 2 => 3 | 3 => 2 | 4 => 1 | _ => 0
def s_B : Nat → Nat | 0 => 1 | 6 => 3 | 7 => 0 | _ => 2
theorem s_f1 : ∀ q, q < 9 → ∀ c, c < 127 → s_step q c < 10 := by decide +kernel
theorem s_f2 : ∀ q, q < 9 → ∀ c, c < 127 → s_step q c = 9 ∨ (4 * (if s_step q c = 2 then 1 else 0) + s_A q ≤ 1 + s_A (s_step q c) ∧ 4 * (if s_step q c = 7 then 1 else 0) + s_B (s_step q c) ≤ 1 + s_B q) := by decide +kernel
theorem s_f3 : ∀ q, q < 9 → ∀ c, c < 127 → s_step q c = 9 ∨ ((c = 59 ↔ q = 7) ∧ (s_step q c = 7 ↔ q = 6) ∧ (c = 58 ↔ s_step q c = 6) ∧ (s_let c < 9 ↔ s_step q c = 2)) := by decide +kernel
theorem s_f4 : ∀ q, q < 9 → ∀ c, c < 127 → s_step q c = 9 ∨ ((s_step q c = 3 ↔ q = 2) ∧ (s_step q c = 4 ↔ q = 3) ∧ (s_step q c = 5 ↔ q = 4 ∧ s_dig c = true) ∧ (s_step q c = 0 ↔ q = 7)) := by decide +kernel
theorem s_f5 : ∀ q, q < 9 → ∀ c, c < 127 → s_step q c = 9 ∨ ((s_step q c = 2 → q = 0 ∨ q = 8) ∧ (s_step q c = 4 → s_dig c = true) ∧ (s_step q c = 7 → c = 120 ∨ s_dig c = true)) := by decide +kernel
theorem s_let_le (c : Nat) : s_let c ≤ 9 := by
  unfold s_let
  repeat' split
  all_goals omega
theorem s_let_9 (c : Nat) (h : s_let c < 9) : s_let c ≤ 6 := by
  unfold s_let at h ⊢
  repeat' split
  all_goals first | omega | simp_all
theorem s_step9 (c : Nat) : s_step 9 c = 9 := rfl
/-- signs as small numbers -/
def s_txt (n : Nat) (sg : Nat → Int32) (c : Nat → Nat) : Prop := n ≤ 50 ∧ ∀ j, j < n → sg j = nI (c j) ∧ c j < 127
theorem m_stepOf : ∀ q, q < 9 → ∀ c, c < 127 → mX10_stepOf (nI q) (nI c) = some (if s_step q c = 9 then -1 else nI (s_step q c)) := by decide +kernel
theorem s_xLT : xLT 0 = nI 112 ∧ xLT 1 = nI 119 ∧ xLT 2 = nI 115 ∧ xLT 3 = nI 109 ∧ xLT 4 = nI 121 ∧ xLT 5 = nI 100 ∧ xLT 6 = nI 117 := by decide
theorem s_c8 : ∀ c, c < 127 → (nI c).toInt8.toInt32 = nI c := by decide +kernel
theorem s_c16 : ∀ c, c < 127 → ((nI c).toUInt32 % 65536).toInt32 = nI c := by decide +kernel
theorem m_letter {c : Nat} (hc : c < 127) : mJ0_indexOf_0f7a4S (((nI c).toUInt32 % 65536).toInt32) = some (if s_let c = 9 then -1 else nI (s_let c)) := by
  rw [s_c16 c hc]
  have go : mJ1_indexOfChar_4cfefT3_b7 7 (nI c) 0 = some (if s_let c = 9 then -1 else nI (s_let c)) := by
    unfold mJ1_indexOfChar_4cfefT3_b7
    obtain ⟨l0, l1, l2, l3, l4, l5, l6⟩ := s_xLT
    have hit : ∀ k, k < 7 → xLT k = nI c → mJ1_indexOfChar_4cfefT3_s7 7 (nI c) (nI k) = some (.inl (nI k)) := by
      intro k hk h
      unfold mJ1_indexOfChar_4cfefT3_s7
      rw [if_neg (show ¬ (7 : Int32) ≤ nI k from nI_ge (b := 7) hk (by omega)), x_ny (n_xin hk (by omega)), nI_clamp (by omega), if_pos h]
    have miss : ∀ k, k < 7 → ¬ xLT k = nI c → mJ1_indexOfChar_4cfefT3_s7 7 (nI c) (nI k) = some (.inr (nI (k + 1))) := by
      intro k hk h
      unfold mJ1_indexOfChar_4cfefT3_s7
      rw [if_neg (show ¬ (7 : Int32) ≤ nI k from nI_ge (b := 7) hk (by omega)), x_ny (n_xin hk (by omega)), nI_clamp (by omega), if_neg h, nI_1]
    have ne : ∀ a, a < 127 → ¬ c = a → ¬ nI a = nI c := fun a ha h e => h ((n_eqI (by omega) (by omega)).mp e).symm
    unfold s_let
    by_cases c0 : c = 112
    · rw [if_pos c0]
      exact x_loop_inl (hit 0 (by omega) (by rw [l0, c0]))
    rw [if_neg c0]
    refine (x_loop_inr (miss 0 (by omega) (by rw [l0]; exact ne _ (by omega) c0))).trans ?_
    by_cases c1 : c = 119
    · rw [if_pos c1]
      exact x_loop_inl (hit 1 (by omega) (by rw [l1, c1]))
    rw [if_neg c1]
    refine (x_loop_inr (miss 1 (by omega) (by rw [l1]; exact ne _ (by omega) c1))).trans ?_
    by_cases c2 : c = 115
    · rw [if_pos c2]
      exact x_loop_inl (hit 2 (by omega) (by rw [l2, c2]))
    rw [if_neg c2]
    refine (x_loop_inr (miss 2 (by omega) (by rw [l2]; exact ne _ (by omega) c2))).trans ?_
    by_cases c3 : c = 109
    · rw [if_pos c3]
      exact x_loop_inl (hit 3 (by omega) (by rw [l3, c3]))
    rw [if_neg c3]
    refine (x_loop_inr (miss 3 (by omega) (by rw [l3]; exact ne _ (by omega) c3))).trans ?_
    by_cases c4 : c = 121
    · rw [if_pos c4]
      exact x_loop_inl (hit 4 (by omega) (by rw [l4, c4]))
    rw [if_neg c4]
    refine (x_loop_inr (miss 4 (by omega) (by rw [l4]; exact ne _ (by omega) c4))).trans ?_
    by_cases c5 : c = 100
    · rw [if_pos c5]
      exact x_loop_inl (hit 5 (by omega) (by rw [l5, c5]))
    rw [if_neg c5]
    refine (x_loop_inr (miss 5 (by omega) (by rw [l5]; exact ne _ (by omega) c5))).trans ?_
    by_cases c6 : c = 117
    · rw [if_pos c6]
      exact x_loop_inl (hit 6 (by omega) (by rw [l6, c6]))
    rw [if_neg c6]
    refine (x_loop_inr (miss 6 (by omega) (by rw [l6]; exact ne _ (by omega) c6))).trans ?_
    rw [if_pos rfl]
    refine x_loop_inl ?_
    show mJ1_indexOfChar_4cfefT3_s7 7 (nI c) (nI 7) = _
    unfold mJ1_indexOfChar_4cfefT3_s7
    rw [if_pos (show (7 : Int32) ≤ nI 7 by decide)]
  have e7 : (7 : Int32) >>> ((0 : Int32) &&& 31) = 7 := by decide
  have ce : mJ1_canEncode_9a6ad (nI c) = some true := by
    unfold mJ1_canEncode_9a6ad
    rw [if_neg (nI_pos (by omega)), if_neg (show ¬ (255 : Int32) < nI c from nI_nlt (a := 255) (show c ≤ 255 by omega) (by omega))]
  unfold mJ0_indexOf_0f7a4S mJ0_indexOf_7cf53S mJ0_isLatin1_aae02S mJ0_length_8abf5S mJ0_coder_7d493S mJ1_indexOf_4cfefT3 mJ1_indexOfChar_4cfefT3
  simp only [Option.bind_some]
  rw [ce, e7]
  simp only [Option.bind_some]
  rw [if_neg xb_n, s_c8 c hc, show (if (7 : Int32) < 7 then (7 : Int32) else 7) = 7 by decide, show (if (0 : Int32) < 0 then (0 : Int32) else 0) = 0 by decide, if_pos (show (0 : Int32) < 7 by decide), go]
  rfl
theorem m_isLetter {c : Nat} (hc : c < 127) : mX8_isLetter (nI c) = some (decide (s_let c < 9)) := by
  unfold mX8_isLetter
  rw [m_letter hc]
  simp only [Option.bind_some]
  by_cases h : s_let c = 9
  · rw [if_pos h, if_pos (by decide), h]
    rfl
  · have := s_let_le c
    rw [if_neg h, if_neg (nI_pos (by omega)), decide_eq_true (by omega)]
theorem m_placeBehind : ∀ q, q < 9 → ∀ c, c < 127 → mX8_placeBehind (nI (s_pl q)) (nI c) = some (if s_step q c = 9 then -6 else nI (s_pl (s_step q c))) := by
  intro q hq c hc
  unfold mX8_placeBehind
  rw [m_isLetter hc]
  revert hc
  revert c
  revert hq
  revert q
  decide +kernel
/-- the first place where no sign can go on, if there is one -/
theorem m_fault (n : Nat) (sg : Nat → Int32) (c : Nat → Nat) (h : s_txt n sg c) : ∃ o, mX8_firstFault (nI n) sg = some o ∧ mX10_fault (nI n) sg = some o ∧ (o = -6 ∧ s_S c n = 7 ∨ 0 ≤ o ∧ ¬ o < 0 ∧ ¬ o = -6) := by
  have hn := h.1
  have ge : ∀ i, i ≤ 50 → 0 ≤ nI i ∧ ¬ nI i < 0 ∧ ¬ nI i = -6 := fun i hi => ⟨nI_pos' (by omega), nI_pos (by omega), n_ne6 i (by omega)⟩
  obtain ⟨a, b, h1, h2, h3⟩ := x_pair (s1 := fun q : Int32 × Int32 => mX8_firstFault_s4 (nI n) sg q.1 q.2) (s2 := fun q : Int32 × Int32 => mX10_fault_s4 (nI n) sg q.1 q.2) (fun m a b => ∃ i, i ≤ n ∧ m = n - i ∧ s_S c i < 9 ∧ a = (nI (s_pl (s_S c i)), nI i) ∧ b = (nI (s_S c i), nI i)) (fun a b => a = b ∧ (a = -6 ∧ s_S c n = 7 ∨ 0 ≤ a ∧ ¬ a < 0 ∧ ¬ a = -6)) (by
    rintro m a b ⟨i, hi, rfl, hS, rfl, rfl⟩
    by_cases hin : i = n
    · subst hin
      have pl8 : ∀ q, q < 9 → (nI (s_pl q) = 8 ↔ q = 7) := by decide +kernel
      have q7 : ∀ q, q < 9 → (nI q = 7 ↔ q = 7) := by decide +kernel
      by_cases h7 : s_S c i = 7
      · refine .inl ⟨-6, -6, ?_, ?_, rfl, .inl ⟨rfl, h7⟩⟩
        · show mX8_firstFault_s4 _ _ _ _ = _
          unfold mX8_firstFault_s4
          rw [if_pos (nI_le (Nat.le_refl i) (by omega)), if_pos ((pl8 _ hS).mpr h7)]
        · show mX10_fault_s4 _ _ _ _ = _
          unfold mX10_fault_s4
          rw [if_pos (nI_le (Nat.le_refl i) (by omega)), if_pos ((q7 _ hS).mpr h7)]
      · refine .inl ⟨nI i, nI i, ?_, ?_, rfl, .inr (ge i hn)⟩
        · show mX8_firstFault_s4 _ _ _ _ = _
          unfold mX8_firstFault_s4
          rw [if_pos (nI_le (Nat.le_refl i) (by omega)), if_neg (fun z => h7 ((pl8 _ hS).mp z))]
        · show mX10_fault_s4 _ _ _ _ = _
          unfold mX10_fault_s4
          rw [if_pos (nI_le (Nat.le_refl i) (by omega)), if_neg (fun z => h7 ((q7 _ hS).mp z))]
    have hin' : i < n := by omega
    obtain ⟨e1, e2⟩ := h.2 i hin'
    have f1 := m_placeBehind (s_S c i) hS (c i) e2
    have f2 := m_stepOf (s_S c i) hS (c i) e2
    by_cases h9 : s_step (s_S c i) (c i) = 9
    · rw [if_pos h9] at f1 f2
      refine .inl ⟨nI i, nI i, ?_, ?_, rfl, .inr (ge i (by omega))⟩
      · show mX8_firstFault_s4 _ _ _ _ = _
        unfold mX8_firstFault_s4
        rw [if_neg (nI_ge hin' (by omega)), n_at (by omega) sg (i := i) (by omega), e1]
        simp only [Option.bind_some]
        rw [f1]
        simp only [Option.bind_some]
        rw [if_pos trivial]
      · show mX10_fault_s4 _ _ _ _ = _
        unfold mX10_fault_s4
        rw [if_neg (nI_ge hin' (by omega)), x_ny (n_xin (by omega) (by omega)), nI_clamp (by omega), e1, f2]
        simp only [Option.bind_some]
        rw [if_neg (by decide)]
    · rw [if_neg h9] at f1 f2
      have h10 := s_f1 _ hS _ e2
      have pn : ∀ q, q < 9 → ¬ nI (s_pl q) = -6 := by decide +kernel
      refine .inr ⟨n - (i + 1), (nI (s_pl (s_S c (i + 1))), nI (i + 1)), (nI (s_S c (i + 1)), nI (i + 1)), by omega, ?_, ?_, i + 1, by omega, rfl, by show s_step (s_S c i) (c i) < 9; omega, rfl, rfl⟩
      · show mX8_firstFault_s4 _ _ _ _ = _
        unfold mX8_firstFault_s4
        rw [if_neg (nI_ge hin' (by omega)), n_at (by omega) sg (i := i) (by omega), e1]
        simp only [Option.bind_some]
        rw [f1]
        simp only [Option.bind_some]
        rw [if_neg (pn _ (by omega)), nI_1]
        rfl
      · show mX10_fault_s4 _ _ _ _ = _
        unfold mX10_fault_s4
        rw [if_neg (nI_ge hin' (by omega)), x_ny (n_xin (by omega) (by omega)), nI_clamp (by omega), e1, f2]
        simp only [Option.bind_some]
        rw [if_pos (nI_pos' (by omega)), nI_1]
        rfl) n (0, 0) (0, 0) ⟨0, by omega, rfl, by show 0 < 9; omega, rfl, rfl⟩
  refine ⟨a, ?_, ?_, h3.2⟩
  · unfold mX8_firstFault mX8_firstFault_b4
    exact h1
  · unfold mX10_fault mX10_fault_b4
    rw [h3.1]
    exact h2
/-- a text without a fault: no state on its way is 9 -/
theorem s_S_lt {n : Nat} {c : Nat → Nat} (hc : ∀ j, j < n → c j < 127) (h7 : s_S c n = 7) : ∀ k, k ≤ n → s_S c (n - k) < 9 := by
  have a9 : ∀ i k, s_S c i = 9 → s_S c (i + k) = 9 := by
    intro i k h
    induction k with
    | zero => exact h
    | succ k ih => show s_step (s_S c (i + k)) (c (i + k)) = 9; rw [ih]; rfl
  have all : ∀ i, i ≤ n → s_S c i < 10 := by
    intro i
    induction i with
    | zero => intro _; show 0 < 10; omega
    | succ i ih =>
      intro hi
      have h1 := ih (by omega)
      show s_step (s_S c i) (c i) < 10
      by_cases h9 : s_S c i = 9
      · rw [h9]; show 9 < 10; omega
      · exact s_f1 _ (by omega) _ (hc i (by omega))
  intro k hk
  have h1 := all (n - k) (by omega)
  by_cases h9 : s_S c (n - k) = 9
  · have := a9 (n - k) k h9
    rw [Nat.sub_add_cancel hk, h7] at this
    exact absurd this (by decide)
  · omega
theorem s_S_ok {n : Nat} {c : Nat → Nat} (hc : ∀ j, j < n → c j < 127) (h7 : s_S c n = 7) {i : Nat} (hi : i ≤ n) : s_S c i < 9 := by
  have := s_S_lt hc h7 (n - i) (by omega)
  rwa [show n - (n - i) = i by omega] at this
/-- one step of a text without a fault -/
theorem s_go {n : Nat} {c : Nat → Nat} (hc : ∀ j, j < n → c j < 127) (h7 : s_S c n = 7) {i : Nat} (hi : i < n) : s_S c i < 9 ∧ s_S c (i + 1) < 9 ∧ s_S c (i + 1) = s_step (s_S c i) (c i) ∧ ¬ s_step (s_S c i) (c i) = 9 := by
  have h1 := s_S_ok hc h7 (i := i) (by omega)
  have h2 := s_S_ok hc h7 (i := i + 1) (by omega)
  have h3 : s_S c (i + 1) = s_step (s_S c i) (c i) := rfl
  exact ⟨h1, h2, h3, by omega⟩
theorem s_TM {n : Nat} {c : Nat → Nat} (hc : ∀ j, j < n → c j < 127) (h7 : s_S c n = 7) : ∀ i, i ≤ n → 4 * s_T c i ≤ i + s_A (s_S c i) ∧ 4 * s_M c i + s_B (s_S c i) ≤ i + 1 := by
  intro i
  induction i with
  | zero => intro _; show 4 * 0 ≤ 0 + s_A 0 ∧ 4 * 0 + s_B 0 ≤ 0 + 1; decide
  | succ i ih =>
    intro hi
    obtain ⟨h1, h2⟩ := ih (by omega)
    obtain ⟨g1, g2, g3, g4⟩ := s_go hc h7 (i := i) (by omega)
    rcases s_f2 _ g1 _ (hc i (by omega)) with h | ⟨f1, f2⟩
    · exact absurd h g4
    · rw [← g3] at f1 f2
      show 4 * (s_T c i + (if s_S c (i + 1) = 2 then 1 else 0)) ≤ _ ∧ 4 * (s_M c i + (if s_S c (i + 1) = 7 then 1 else 0)) + _ ≤ _
      omega
theorem s_A_le (q : Nat) : s_A q ≤ 3 := by
  unfold s_A
  split <;> omega
theorem s_T_mono (c : Nat → Nat) {i j : Nat} (h : i ≤ j) : s_T c i ≤ s_T c j := by
  induction j with
  | zero => have : i = 0 := by omega
            rw [this]; exact Nat.le_refl _
  | succ j ih =>
    by_cases e : i = j + 1
    · rw [e]; exact Nat.le_refl _
    · have := ih (by omega)
      show _ ≤ s_T c j + _
      omega
theorem s_M_mono (c : Nat → Nat) {i j : Nat} (h : i ≤ j) : s_M c i ≤ s_M c j := by
  induction j with
  | zero => have : i = 0 := by omega
            rw [this]; exact Nat.le_refl _
  | succ j ih =>
    by_cases e : i = j + 1
    · rw [e]; exact Nat.le_refl _
    · have := ih (by omega)
      show _ ≤ s_M c j + _
      omega
theorem m_countCases (n : Nat) (sg : Nat → Int32) (c : Nat → Nat) (h : s_txt n sg c) (hp : n = 0 ∨ s_S c n = 7) : mX8_countCases (nI n) sg = some (nI (s_M c n)) := by
  have hn := h.1
  unfold mX8_countCases mX8_countCases_b12 mX8_countCases_b15
  rcases hp with rfl | h7
  · rw [if_pos (show nI 0 ≤ 0 by decide)]
    refine x_loop_inl ?_
    show mX8_countCases_s15 (nI 0) sg 0 0 = _
    unfold mX8_countCases_s15
    rw [if_pos (by decide)]
    rfl
  have n0 : ¬ n = 0 := fun e => by rw [e] at h7; exact absurd (show 0 = 7 from h7) (by decide)
  have hc : ∀ j, j < n → c j < 127 := fun j hj => (h.2 j hj).2
  rw [if_neg (nI_nle (by omega) (by omega))]
  obtain ⟨a, h1, h2⟩ := x_run (s := fun q : Int32 × Int32 => mX8_countCases_s15 (nI n) sg q.1 q.2) (fun m a => ∃ i, i ≤ n ∧ m = n - i ∧ a = (nI (s_M c i + (if s_S c i = 7 then 0 else 1)), nI i)) (fun a => a = nI (s_M c n)) (by
    rintro m a ⟨i, hi, rfl, rfl⟩
    by_cases hin : i = n
    · subst hin
      refine .inl ⟨_, ?_, rfl⟩
      show mX8_countCases_s15 _ _ _ _ = _
      unfold mX8_countCases_s15
      rw [if_pos (nI_le (Nat.le_refl i) (by omega)), if_pos h7, Nat.add_zero]
    have hin' : i < n := by omega
    obtain ⟨g1, g2, g3, g4⟩ := s_go hc h7 hin'
    obtain ⟨e1, e2⟩ := h.2 i hin'
    rcases s_f3 _ g1 _ e2 with hh | ⟨f1, f2, -, -⟩
    · exact absurd hh g4
    rw [← g3] at f2
    refine .inr ⟨n - (i + 1), _, by omega, ?_, i + 1, by omega, rfl, rfl⟩
    show mX8_countCases_s15 _ _ _ _ = _
    unfold mX8_countCases_s15 mX8_countCases_b39
    rw [if_neg (nI_ge hin' (by omega)), n_at (by omega) sg (i := i) (by omega), e1]
    simp only [Option.bind_some]
    have iff : nI (c i) = 59 ↔ c i = 59 := n_eqI (a := c i) (b := 59) (by omega) (by omega)
    show _ = some (Sum.inr (nI (s_M c i + (if s_S c (i + 1) = 7 then 1 else 0) + (if s_S c (i + 1) = 7 then 0 else 1)), nI (i + 1)))
    by_cases c1 : c i = 59
    · have q7 := f1.mp c1
      have nq : ¬ s_S c (i + 1) = 7 := fun z => by have := f2.mp z; omega
      rw [if_pos (iff.mpr c1), if_pos q7, if_neg nq, if_neg nq, nI_1, nI_1]
    · have q7 : ¬ s_S c i = 7 := fun z => c1 (f1.mpr z)
      rw [if_neg (fun z => c1 (iff.mp z)), if_neg q7, nI_1]
      by_cases s7 : s_S c (i + 1) = 7
      · rw [if_pos s7, if_pos s7]
      · rw [if_neg s7, if_neg s7]) n (1, 0) ⟨0, by omega, rfl, rfl⟩
  rw [← h2]
  exact h1
