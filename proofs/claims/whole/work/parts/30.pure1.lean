/-! pure facts: leaves, and the first calls on both sides -/
theorem i_add {a b : Int32} (h1 : -2147483648 ≤ a.toInt + b.toInt) (h2 : a.toInt + b.toInt < 2147483648) : (a + b).toInt = a.toInt + b.toInt := by
  rw [Int32.toInt_add]
  exact Int.bmod_eq_of_le (by omega) (by omega)
theorem i_sub {a b : Int32} (h1 : -2147483648 ≤ a.toInt - b.toInt) (h2 : a.toInt - b.toInt < 2147483648) : (a - b).toInt = a.toInt - b.toInt := by
  rw [Int32.toInt_sub]
  exact Int.bmod_eq_of_le (by omega) (by omega)
theorem i_le {a b : Int32} : a ≤ b ↔ a.toInt ≤ b.toInt := Int32.le_iff_toInt_le
theorem i_lt {a b : Int32} : a < b ↔ a.toInt < b.toInt := Int32.lt_iff_toInt_lt
theorem i_eq {a b : Int32} : a = b ↔ a.toInt = b.toInt := Int32.toInt_inj.symm
theorem m_within (a b c : Int32) : mX9_within a b c = some (decide (b ≤ a ∧ a ≤ c)) := by
  unfold mX9_within
  by_cases h1 : a < b
  · rw [if_pos h1]
    have : ¬ (b ≤ a ∧ a ≤ c) := fun h => by rw [i_le] at h; rw [i_lt] at h1; omega
    rw [decide_eq_false this]
  · rw [if_neg h1]
    by_cases h2 : c < a
    · rw [if_pos h2]
      have : ¬ (b ≤ a ∧ a ≤ c) := fun h => by have h3 := h.2; rw [i_le] at h3; rw [i_lt] at h2; omega
      rw [decide_eq_false this]
    · rw [if_neg h2]
      have : b ≤ a ∧ a ≤ c := by rw [i_le, i_le]; rw [i_lt] at h1 h2; omega
      rw [decide_eq_true this]
theorem m_in (a b c : Int32) : mX10_in a.toInt64 b.toInt64 c.toInt64 = some (decide (b ≤ a ∧ a ≤ c)) := by
  unfold mX10_in
  simp only [lg_cmp_lt, lg_cmp_gt, Int64.lt_iff_toInt_lt, Int32.toInt_toInt64]
  by_cases h1 : a.toInt < b.toInt
  · rw [if_pos h1]
    have : ¬ (b ≤ a ∧ a ≤ c) := fun h => by rw [i_le] at h; omega
    rw [decide_eq_false this]
  · rw [if_neg h1]
    by_cases h2 : c.toInt < a.toInt
    · rw [if_pos h2]
      have : ¬ (b ≤ a ∧ a ≤ c) := fun h => by have h3 := h.2; rw [i_le] at h3; omega
      rw [decide_eq_false this]
    · rw [if_neg h2]
      have : b ≤ a ∧ a ≤ c := by rw [i_le, i_le]; omega
      rw [decide_eq_true this]
theorem m_at (n : Nat) (f : Nat → Int32) (i : Int32) (hn : n < 2147483648) : mX9_at n f i = some (if 0 ≤ i.toInt ∧ i.toInt < n then f i.toNatClampNeg else -6) := by
  unfold mX9_at
  by_cases h1 : i < 0
  · rw [if_pos h1]
    have h2 : ¬ (0 ≤ i.toInt ∧ i.toInt < n) := fun h => by rw [i_lt, Int32.toInt_zero] at h1; omega
    rw [if_neg h2]
  · rw [if_neg h1]
    have h0 : 0 ≤ i.toInt := by rw [i_lt, Int32.toInt_zero] at h1; omega
    by_cases h2 : Int32.ofNat n ≤ i
    · rw [if_pos h2]
      have h3 : ¬ (0 ≤ i.toInt ∧ i.toInt < n) := fun h => by
        have h4 := nI_toInt (n := n) hn
        rw [i_le] at h2
        have h5 : (Int32.ofNat n).toInt = n := h4
        omega
      rw [if_neg h3]
    · rw [if_neg h2]
      have h5 : (Int32.ofNat n).toInt = n := nI_toInt (n := n) hn
      have h3 : i.toInt < n := by rw [i_le] at h2; omega
      have h6 : x_in i n := fun h => by
        rcases h with h | h
        · exact h1 h
        · have : i.toNatClampNeg = i.toInt.toNat := rfl
          omega
      rw [if_pos ⟨h0, h3⟩]
      unfold x_need
      rw [if_pos h6]
theorem m_tap (a b : Int32) : mX9_tap a b = mX10_tap a b := rfl
theorem m_in01 (a c : Int32) (z : Int64) (hz : c.toInt64 = z) : mX10_in a.toInt64 0 z = some (decide (0 ≤ a ∧ a ≤ c)) := by
  rw [← hz]; exact m_in a 0 c
theorem m_stick (k p : Int32) : mX9_stick k p = mX10_stick k p := by
  unfold mX9_stick mX10_stick
  rw [m_within, m_in01 p 9 9 (by decide)]
/-- the brass: mind and needle between 0 and 99 -/
theorem m_hour (a b k p : Int32) (ha : 0 ≤ a.toInt ∧ a.toInt ≤ 99) (hb : 0 ≤ b.toInt ∧ b.toInt ≤ 99) : ∃ r m n, mX9_hour a b k p = some (r, m, n) ∧ mX10_hour a b k p = some (r, m, n) ∧ (0 ≤ m.toInt ∧ m.toInt ≤ 99) ∧ 0 ≤ n.toInt ∧ n.toInt ≤ 99 := by
  unfold mX9_hour mX10_hour
  rw [m_within, m_in01 p 99 99 (by decide)]
  by_cases hp : 0 ≤ p ∧ p ≤ 99
  · rw [decide_eq_true hp]
    have h1 : (0 : Int) ≤ p.toInt := by have := hp.1; rw [i_le, Int32.toInt_zero] at this; exact this
    have h2 : p.toInt ≤ 99 := by have := hp.2; rw [i_le] at this; exact this
    have e1 : (a + p).toInt = a.toInt + p.toInt := i_add (by omega) (by omega)
    have e2 : ((a + p) / 2).toInt = (a.toInt + p.toInt) / 2 := by
      rw [Int32.toInt_div_of_ne_right _ _ (by decide), e1]
      show Int.tdiv _ 2 = _
      rw [Int.tdiv_eq_ediv_of_nonneg (by omega)]
    have e3 : ((a + p) / 2 - b).toInt = (a.toInt + p.toInt) / 2 - b.toInt := by
      rw [i_sub (by omega) (by omega), e2]
    have e4 : (b - (a + p) / 2).toInt = b.toInt - (a.toInt + p.toInt) / 2 := by
      rw [i_sub (by omega) (by omega), e2]
    have e5 : (0 - ((a + p) / 2 - b)).toInt = b.toInt - (a.toInt + p.toInt) / 2 := by
      rw [i_sub (by rw [Int32.toInt_zero]; omega) (by rw [Int32.toInt_zero]; omega), e3, Int32.toInt_zero]
      omega
    have e6 : (if 0 ≤ (a + p) / 2 - b then (a + p) / 2 - b else 0 - ((a + p) / 2 - b)) = (if b ≤ (a + p) / 2 then (a + p) / 2 - b else b - (a + p) / 2) := by
      by_cases hq : b ≤ (a + p) / 2
      · have hq' : 0 ≤ (a + p) / 2 - b := by rw [i_le, Int32.toInt_zero, e3]; rw [i_le, e2] at hq; omega
        rw [if_pos hq, if_pos hq']
      · have hq' : ¬ 0 ≤ (a + p) / 2 - b := by rw [i_le, Int32.toInt_zero, e3]; rw [i_le, e2] at hq; omega
        rw [if_neg hq, if_neg hq', i_eq, e5, e4]
    have e7 : mX10_apart ((a + p) / 2) b = some (if b ≤ (a + p) / 2 then (a + p) / 2 - b else b - (a + p) / 2) := by
      unfold mX10_apart
      by_cases hq : b ≤ (a + p) / 2
      · rw [if_pos hq, if_pos hq]
      · rw [if_neg hq, if_neg hq]
    have hx1 : ¬ xb true = 0 := by decide
    have e8 : mX1_follow a b k p = if (if b ≤ (a + p) / 2 then (a + p) / 2 - b else b - (a + p) / 2) ≤ k then some (b, (a + p) / 2, b) else some ((a + p) / 2, (a + p) / 2, (a + p) / 2) := by
      unfold mX1_follow
      rw [e6]
    simp only [Option.bind_some, if_neg hx1, e7, e8]
    by_cases hk : (if b ≤ (a + p) / 2 then (a + p) / 2 - b else b - (a + p) / 2) ≤ k
    · rw [if_pos hk]
      exact ⟨b, (a + p) / 2, b, rfl, rfl, by rw [e2]; omega, hb⟩
    · rw [if_neg hk]
      exact ⟨(a + p) / 2, (a + p) / 2, (a + p) / 2, rfl, rfl, by rw [e2]; omega, by rw [e2]; omega⟩
  · rw [decide_eq_false hp]
    have hx0 : xb false = 0 := rfl
    simp only [Option.bind_some, if_pos hx0]
    exact ⟨-2, a, b, rfl, rfl, ha, hb⟩
