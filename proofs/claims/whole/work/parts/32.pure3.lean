/-! pure facts: the settings, the looks at the low -/
theorem m_set (k w c a v : Int32) : mX9_set k w c a v = mX10_set k w c a v := by
  unfold mX9_set mX10_set mX9_set_b36 mX9_set_b70 mX10_set_b39 mX10_set_b75
  rw [show mX10_in a.toInt64 0 2 = some (decide (0 ≤ a ∧ a ≤ 2)) from m_in a 0 2, show mX10_in v.toInt64 0 63 = some (decide (0 ≤ v ∧ v ≤ 63)) from m_in v 0 63, show mX10_in v.toInt64 0 10 = some (decide (0 ≤ v ∧ v ≤ 10)) from m_in v 0 10, show mX10_in v.toInt64 0 20 = some (decide (0 ≤ v ∧ v ≤ 20)) from m_in v 0 20]
  simp only [m_within, Option.bind_some, xb_d]
  by_cases h0 : a = 0
  · subst h0
    have hd : (0 : Int32) ≤ 0 ∧ (0 : Int32) ≤ 2 := by decide
    have n1 : ¬ (0 : Int32) = 1 := by decide
    have n2 : ¬ (0 : Int32) = 2 := by decide
    by_cases hv : 0 ≤ v ∧ v ≤ 63
    · simp only [if_true, if_neg (not_not_intro hd), if_neg (not_not_intro hv)]
    · simp only [if_true, if_neg (not_not_intro hd), if_pos hv, if_neg n1, if_neg n2]
  · by_cases h1 : a = 1
    · subst h1
      have hd : (0 : Int32) ≤ 1 ∧ (1 : Int32) ≤ 2 := by decide
      have n2 : ¬ (1 : Int32) = 2 := by decide
      by_cases hv : 0 ≤ v ∧ v ≤ 10
      · simp only [if_true, if_neg h0, if_neg (not_not_intro hd), if_neg (not_not_intro hv)]
      · simp only [if_true, if_neg h0, if_neg (not_not_intro hd), if_pos hv, if_neg n2]
    · by_cases h2 : a = 2
      · subst h2
        have hd : (0 : Int32) ≤ 2 ∧ (2 : Int32) ≤ 2 := by decide
        by_cases hv : 0 ≤ v ∧ v ≤ 20
        · simp only [if_true, if_neg h0, if_neg h1, if_neg (not_not_intro hd), if_neg (not_not_intro hv)]
        · simp only [if_true, if_neg h0, if_neg h1, if_neg (not_not_intro hd), if_pos hv]
      · have hd : ¬ (0 ≤ a ∧ a ≤ 2) := fun h => by
          rw [i_le, i_le, Int32.toInt_zero] at h
          rw [i_eq, Int32.toInt_zero] at h0
          rw [i_eq] at h1 h2
          have e1 : (1 : Int32).toInt = 1 := by decide
          have e2 : (2 : Int32).toInt = 2 := by decide
          omega
        simp only [if_neg h0, if_neg h1, if_neg h2, if_pos hd]
theorem m_isPlace (x y : Int32) : mX9_isPlace x y = some (decide ((0 ≤ x ∧ x ≤ 8) ∧ (0 ≤ y ∧ y ≤ 8))) := by
  unfold mX9_isPlace
  simp only [m_within, Option.bind_some, xb_d]
  by_cases h1 : 0 ≤ x ∧ x ≤ 8
  · by_cases h2 : 0 ≤ y ∧ y ≤ 8
    · rw [if_neg (not_not_intro h1), if_neg (not_not_intro h2), decide_eq_true ⟨h1, h2⟩]
    · rw [if_neg (not_not_intro h1), if_pos h2, decide_eq_false (fun h => h2 h.2)]
  · rw [if_pos h1, decide_eq_false (fun h => h1 h.1)]
theorem m_glass (n : Int32) (f1 f2 f3 f4 : Nat → Int32) (x y p w : Int32) (h0 : 0 ≤ n.toInt) (h1 : n.toInt ≤ 4) : mX9_glass n f1 f2 f3 f4 x y p w = mX10_glass n f1 f2 f3 f4 x y p w := by
  unfold mX9_glass mX10_glass mX9_glass_b25 mX9_glass_b26
  rw [show mX10_in x.toInt64 0 8 = some (decide (0 ≤ x ∧ x ≤ 8)) from m_in x 0 8, show mX10_in y.toInt64 0 8 = some (decide (0 ≤ y ∧ y ≤ 8)) from m_in y 0 8, show mX10_in p.toInt64 0 99 = some (decide (0 ≤ p ∧ p ≤ 99)) from m_in p 0 99, show mX10_in w.toInt64 0 7 = some (decide (0 ≤ w ∧ w ≤ 7)) from m_in w 0 7]
  simp only [m_within, m_isPlace, Option.bind_some, xb_d, if_true]
  have n1 : ¬ (1 : Int32) = 0 := by decide
  by_cases hp : 0 ≤ p ∧ p ≤ 99
  · by_cases hw : 0 ≤ w ∧ w ≤ 7
    · by_cases hx : 0 ≤ x ∧ x ≤ 8
      · by_cases hy : 0 ≤ y ∧ y ≤ 8
        · simp only [if_neg (not_not_intro hp), if_neg (not_not_intro hw), if_neg (not_not_intro hx), if_neg (not_not_intro hy), if_neg (not_not_intro (And.intro hx hy)), if_neg n1]
          unfold mX2_add
          by_cases hn : n = 4
          · subst hn
            rw [if_neg (by decide), if_pos rfl]
            rfl
          · have h2 : n.toInt < 4 := by
              have h3 : n.toInt ≠ 4 := fun e => hn (i_eq.mpr e)
              omega
            have h4 : n < 4 := by rw [i_lt]; exact h2
            rw [if_pos h4, if_neg hn, m_put 4 f1 n x (by decide) h0 (by omega), m_put 4 f2 n y (by decide) h0 (by omega), m_put 4 f3 n p (by decide) h0 (by omega), m_put 4 f4 n w (by decide) h0 (by omega)]
            unfold x_need
            simp only [if_pos (i_in (n := 4) h0 (by omega)), Option.bind_some]
        · simp only [if_neg (not_not_intro hp), if_neg (not_not_intro hw), if_neg (not_not_intro hx), if_pos hy, if_pos (fun h : (0 ≤ x ∧ x ≤ 8) ∧ (0 ≤ y ∧ y ≤ 8) => hy h.2)]
      · simp only [if_neg (not_not_intro hp), if_neg (not_not_intro hw), if_pos hx, if_pos (fun h : (0 ≤ x ∧ x ≤ 8) ∧ (0 ≤ y ∧ y ≤ 8) => hx h.1)]
    · simp only [if_neg (not_not_intro hp), if_pos hw, ite_self]
  · simp only [if_pos hp, ite_self]
