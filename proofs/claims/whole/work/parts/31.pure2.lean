/-! pure facts: the book's end, the pad, the looks, the wire, the settings -/
theorem xb_d (P : Prop) [Decidable P] : (xb (decide P) = 0) ↔ ¬ P := by
  by_cases h : P
  · simp [h, xb]
  · simp [h, xb]
theorem i_in {i : Int32} {n : Nat} (h0 : 0 ≤ i.toInt) (h1 : i.toInt < n) : x_in i n := fun h => by
  rcases h with h | h
  · rw [i_lt, Int32.toInt_zero] at h; omega
  · have : i.toNatClampNeg = i.toInt.toNat := rfl
    omega
theorem m_put (n : Nat) (f : Nat → Int32) (i v : Int32) (hn : n < 2147483648) (h0 : 0 ≤ i.toInt) (h1 : i.toInt < n) : mX9_put n f i v = some (upd f i.toNatClampNeg v) := by
  unfold mX9_put
  have h5 : (Int32.ofNat n).toInt = n := nI_toInt (n := n) hn
  rw [if_neg (by rw [i_lt, Int32.toInt_zero]; omega), if_neg (by rw [i_le]; omega)]
  unfold x_need
  rw [if_pos (i_in h0 h1)]
theorem m_has (d p : Int32) : mX0_has d p = some (decide (0 ≤ p.toInt ∧ p.toInt < d.toInt)) := by
  unfold mX0_has
  by_cases h1 : p < 0
  · rw [if_pos h1, decide_eq_false (fun h => by rw [i_lt, Int32.toInt_zero] at h1; omega)]
  · rw [if_neg h1]
    by_cases h2 : d ≤ p
    · rw [if_pos h2, decide_eq_false (fun h => by rw [i_le] at h2; omega)]
    · rw [if_neg h2, decide_eq_true (by rw [i_le] at h2; rw [i_lt, Int32.toInt_zero] at h1; omega)]
theorem m_isDay (d p : Int32) (hd : 0 ≤ d.toInt) : mX10_isDay d p = some (decide (0 ≤ p.toInt ∧ p.toInt < d.toInt)) := by
  unfold mX10_isDay
  have e : (d - 1).toInt = d.toInt - 1 := i_sub (by show _ ≤ d.toInt - 1; omega) (by show d.toInt - 1 < _; have := Int32.toInt_lt d; omega)
  have h := m_in p 0 (d - 1)
  have hz : (0 : Int32).toInt64 = 0 := by decide
  rw [hz] at h
  rw [h]
  show some (decide (0 ≤ p ∧ p ≤ d - 1)) = _
  congr 1
  rw [decide_eq_decide, i_le, i_le, e, Int32.toInt_zero]
  omega
theorem m_tear (d : Int32) (hd : 0 ≤ d.toInt) : mX9_tear d = mX10_tear d := by
  unfold mX9_tear mX0_dropLast mX10_tear
  by_cases h : d = 0
  · subst h
    rfl
  · have : 0 < d := by
      rw [i_lt, Int32.toInt_zero]
      rw [i_eq, Int32.toInt_zero] at h
      omega
    rw [if_pos this, if_neg h]
    rfl
theorem m_wipe (n : Int32) : mX9_wipe n = mX10_wipe n := rfl
theorem m_clear (n : Int32) : mX9_clear n = mX10_clear n := rfl
theorem m_say (n : Int32) (f : Nat → Int32) (p : Int32) (h0 : 0 ≤ n.toInt) (h1 : n.toInt ≤ 50) : mX9_say n f p = mX10_say n f p := by
  unfold mX9_say mX10_say mX8_add
  rw [m_within, show mX10_in p.toInt64 33 126 = some (decide (33 ≤ p ∧ p ≤ 126)) from m_in p 33 126]
  simp only [Option.bind_some, xb_d]
  by_cases hp : 33 ≤ p ∧ p ≤ 126
  · rw [if_neg (not_not_intro hp), if_neg (not_not_intro hp)]
    by_cases hn : n = 50
    · subst hn
      rw [if_neg (by decide), if_pos rfl]
      rfl
    · have h2 : n.toInt < 50 := by
        have h3 : n.toInt ≠ 50 := fun e => hn (i_eq.mpr e)
        omega
      have h4 : n < 50 := by rw [i_lt]; exact h2
      rw [if_pos h4, if_neg hn, m_put 50 f n p (by decide) h0 (by omega)]
      unfold x_need
      rw [if_pos (i_in h0 (by omega))]
      rfl
  · rw [if_pos hp, if_pos hp]
theorem m_wire (d : Int32) (f : Nat → Int32) (p v : Int32) (h0 : 0 ≤ d.toInt) (h1 : d.toInt ≤ 60) : mX9_wire d f p v = mX10_wire d f p v := by
  unfold mX9_wire mX10_wire
  rw [m_has, m_isDay d p h0, m_within, show mX10_in v.toInt64 (-1) 1000 = some (decide (-1 ≤ v ∧ v ≤ 1000)) from m_in v (-1) 1000]
  simp only [Option.bind_some, xb_d]
  by_cases hd : 0 ≤ p.toInt ∧ p.toInt < d.toInt
  · rw [if_neg (not_not_intro hd), if_neg (not_not_intro hd)]
    by_cases hv : -1 ≤ v ∧ v ≤ 1000
    · rw [if_neg (not_not_intro hv), if_neg (not_not_intro hv)]
      have hx : x_in p 60 := i_in hd.1 (by omega)
      have ha : mX0_wireOf f p = some (f p.toNatClampNeg) := by
        unfold mX0_wireOf
        rw [m_at 60 f p (by decide), if_pos ⟨hd.1, by omega⟩]
        rfl
      unfold mX0_hear x_need
      rw [ha]
      simp only [Option.bind_some, if_pos hx]
      by_cases hz : 0 ≤ v
      · rw [if_pos hz, if_pos hz]
        unfold mX0_hear_b21
        rw [m_put 60 f p v (by decide) hd.1 (by omega)]
        rfl
      · rw [if_neg hz, if_neg hz]
        unfold mX0_hear_b21
        rw [m_put 60 f p (-6) (by decide) hd.1 (by omega)]
        rfl
    · rw [if_pos hv, if_pos hv]
  · rw [if_pos hd, if_pos hd]
