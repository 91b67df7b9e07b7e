/-! pure facts: the looks of a day. Presses: the class keeps -6 where the reference keeps -1 -/
def xp (f g : Nat → Int32) : Prop := ∀ j : Nat, j < 60 → ((g j).toInt = -1 ∧ f j = -6) ∨ (0 ≤ (g j).toInt ∧ (g j).toInt ≤ 99 ∧ f j = g j)
theorem i_cl {d : Int32} : d.toNatClampNeg = d.toInt.toNat := rfl
theorem i_pred {d : Int32} (h0 : 0 ≤ d.toInt) : (d - 1).toInt = d.toInt - 1 := i_sub (by show _ ≤ d.toInt - 1; omega) (by show d.toInt - 1 < _; have := Int32.toInt_lt d; omega)
theorem m_lookOf (y mo f g wi s r : Nat → Int32) (d w : Int32) (hf : xp f g) (h0 : 0 ≤ d.toInt) (h1 : d.toInt < 60) (hw : 0 ≤ w.toInt ∧ w.toInt ≤ 8) : mX0_lookOf y mo f wi s r d w = mX10_lookOf y mo g wi s r d w ∧ ∃ o, mX10_lookOf y mo g wi s r d w = some o := by
  have hd : x_in d 60 := i_in h0 h1
  have ad : ∀ q : Nat → Int32, mX9_at 60 q d = some (q d.toNatClampNeg) := fun q => by
    rw [m_at 60 q d (by decide), if_pos ⟨h0, h1⟩]
  have ep := i_pred h0
  have hz : d = 0 ↔ d.toInt = 0 := by rw [i_eq, Int32.toInt_zero]
  have a0 : d = 0 → ∀ q : Nat → Int32, mX9_at 60 q (d - 1) = some (-6) := fun h q => by
    rw [m_at 60 q (d - 1) (by decide), if_neg (by rw [ep]; have := hz.mp h; omega)]
  have a1 : ¬ d = 0 → ∀ q : Nat → Int32, mX9_at 60 q (d - 1) = some (q (d - 1).toNatClampNeg) := fun h q => by
    rw [m_at 60 q (d - 1) (by decide), if_pos (by rw [ep]; rw [hz] at h; omega)]
  have hd1 : ¬ d = 0 → x_in (d - 1) 60 := fun h => i_in (by rw [ep]; rw [hz] at h; omega) (by rw [ep]; omega)
  have pj := hf d.toNatClampNeg (by rw [i_cl]; omega)
  have pk : ¬ d = 0 → _ := fun _ => hf (d - 1).toNatClampNeg (by rw [i_cl, ep]; omega)
  have n6 : (-6 : Int32).toInt = -6 := by decide
  have t0 : ∀ x : Int32, (0 : Int32) ≤ x ↔ 0 ≤ x.toInt := fun x => by rw [i_le, Int32.toInt_zero]
  have t1 : ∀ x : Int32, x < 0 ↔ x.toInt < 0 := fun x => by rw [i_lt, Int32.toInt_zero]
  unfold mX0_lookOf mX10_lookOf
  by_cases w0 : w = 0
  · rw [if_pos w0, if_pos w0, ad]
    unfold x_need
    rw [if_pos hd]
    rcases pj with ⟨q1, q2⟩ | ⟨q1, q2, q3⟩
    · rw [if_neg (by rw [t0]; omega), q2]
      exact ⟨rfl, _, rfl⟩
    · rw [if_pos (by rw [t0]; exact q1), if_pos hd, q3]
      exact ⟨rfl, _, rfl⟩
  rw [if_neg w0, if_neg w0]
  by_cases w1 : w = 1
  · rw [if_pos w1, if_pos w1, ad]; unfold x_need; rw [if_pos hd]; exact ⟨rfl, _, rfl⟩
  rw [if_neg w1, if_neg w1]
  by_cases w2 : w = 2
  · rw [if_pos w2, if_pos w2, ad]; unfold x_need; rw [if_pos hd]; exact ⟨rfl, _, rfl⟩
  rw [if_neg w2, if_neg w2]
  by_cases w3 : w = 3
  · rw [if_pos w3, if_pos w3, ad]; unfold x_need; rw [if_pos hd]; exact ⟨rfl, _, rfl⟩
  rw [if_neg w3, if_neg w3]
  by_cases w4 : w = 4
  · rw [if_pos w4, if_pos w4]
    by_cases hq : d = 0
    · rw [if_pos hq, a0 hq]; exact ⟨rfl, _, rfl⟩
    · rw [if_neg hq, a1 hq]; unfold x_need; rw [if_pos (hd1 hq)]; exact ⟨rfl, _, rfl⟩
  rw [if_neg w4, if_neg w4]
  have fl : mX10_falls g d = some (decide (¬ d = 0 ∧ 0 ≤ (g d.toNatClampNeg).toInt ∧ 0 ≤ (g (d - 1).toNatClampNeg).toInt)) := by
    unfold mX10_falls x_need
    by_cases hq : d = 0
    · rw [if_pos (by rw [i_le, Int32.toInt_zero]; have := hz.mp hq; omega), decide_eq_false (fun h => h.1 hq)]
    · rw [if_neg (by rw [i_le, Int32.toInt_zero]; rw [hz] at hq; omega), if_pos hd]
      by_cases g1 : g d.toNatClampNeg < 0
      · rw [if_pos g1, decide_eq_false (fun h => by rw [t1] at g1; omega)]
      · rw [if_neg g1, if_pos (hd1 hq)]
        by_cases g2 : g (d - 1).toNatClampNeg < 0
        · rw [if_pos g2, decide_eq_false (fun h => by rw [t1] at g2; omega)]
        · rw [if_neg g2, decide_eq_true ⟨hq, by rw [t1] at g1; omega, by rw [t1] at g2; omega⟩]
  by_cases w5 : w = 5
  · rw [if_pos w5, if_pos w5, ad, fl]
    simp only [Option.bind_some, xb_d]
    by_cases hq : d = 0
    · rw [a0 hq, if_pos (fun h : ¬ d = 0 ∧ _ => h.1 hq)]
      simp only [Option.bind_some]
      unfold mX0_rise
      by_cases z : f d.toNatClampNeg = -6
      · rw [if_pos z]; exact ⟨rfl, _, rfl⟩
      · rw [if_neg z, if_pos rfl]; exact ⟨rfl, _, rfl⟩
    · rw [a1 hq]
      simp only [Option.bind_some]
      unfold mX0_rise
      rcases pj with ⟨q1, q2⟩ | ⟨q1, q2, q3⟩
      · rw [if_pos q2, if_pos (fun h : ¬ d = 0 ∧ _ => by have := h.2.1; omega)]; exact ⟨rfl, _, rfl⟩
      · rcases pk hq with ⟨r1, r2⟩ | ⟨r1, r2, r3⟩
        · rw [if_neg (fun h => by rw [q3, i_eq, n6] at h; omega), if_pos r2, if_pos (fun h : ¬ d = 0 ∧ _ => by have := h.2.2; omega)]; exact ⟨rfl, _, rfl⟩
        · rw [if_neg (fun h => by rw [q3, i_eq, n6] at h; omega), if_neg (fun h => by rw [r3, i_eq, n6] at h; omega), if_neg (not_not_intro ⟨hq, q1, r1⟩), q3, r3]
          unfold x_need
          rw [if_pos hd, if_pos (hd1 hq)]
          have es : (g (d - 1).toNatClampNeg - g d.toNatClampNeg).toInt = (g (d - 1).toNatClampNeg).toInt - (g d.toNatClampNeg).toInt := i_sub (by omega) (by omega)
          by_cases c : g (d - 1).toNatClampNeg ≤ g d.toNatClampNeg
          · rw [if_pos c, if_neg (by rw [i_lt, Int32.toInt_zero, es]; rw [i_le] at c; omega)]; exact ⟨rfl, _, rfl⟩
          · rw [if_neg c, if_pos (by rw [i_lt, Int32.toInt_zero, es]; rw [i_le] at c; omega), if_pos (hd1 hq), if_pos hd]; exact ⟨rfl, _, rfl⟩
  rw [if_neg w5, if_neg w5]
  by_cases w6 : w = 6
  · rw [if_pos w6, if_pos w6, ad, fl]
    simp only [Option.bind_some, xb_d]
    by_cases hq : d = 0
    · rw [a0 hq, if_pos (fun h : ¬ d = 0 ∧ _ => h.1 hq)]
      simp only [Option.bind_some]
      unfold mX0_rise
      rw [if_pos rfl]; exact ⟨rfl, _, rfl⟩
    · rw [a1 hq]
      simp only [Option.bind_some]
      unfold mX0_rise
      rcases pk hq with ⟨r1, r2⟩ | ⟨r1, r2, r3⟩
      · rw [if_pos r2, if_pos (fun h : ¬ d = 0 ∧ _ => by have := h.2.2; omega)]; exact ⟨rfl, _, rfl⟩
      · rcases pj with ⟨q1, q2⟩ | ⟨q1, q2, q3⟩
        · rw [if_neg (fun h => by rw [r3, i_eq, n6] at h; omega), if_pos q2, if_pos (fun h : ¬ d = 0 ∧ _ => by have := h.2.1; omega)]; exact ⟨rfl, _, rfl⟩
        · rw [if_neg (fun h => by rw [r3, i_eq, n6] at h; omega), if_neg (fun h => by rw [q3, i_eq, n6] at h; omega), if_neg (not_not_intro ⟨hq, q1, r1⟩), q3, r3]
          unfold x_need
          rw [if_pos hd, if_pos (hd1 hq)]
          have es : (g d.toNatClampNeg - g (d - 1).toNatClampNeg).toInt = (g d.toNatClampNeg).toInt - (g (d - 1).toNatClampNeg).toInt := i_sub (by omega) (by omega)
          by_cases c : g d.toNatClampNeg ≤ g (d - 1).toNatClampNeg
          · rw [if_pos c, if_neg (by rw [i_lt, Int32.toInt_zero, es]; rw [i_le] at c; omega)]; exact ⟨rfl, _, rfl⟩
          · rw [if_neg c, if_pos (by rw [i_lt, Int32.toInt_zero, es]; rw [i_le] at c; omega), if_pos hd, if_pos (hd1 hq)]; exact ⟨rfl, _, rfl⟩
  rw [if_neg w6, if_neg w6]
  by_cases w7 : w = 7
  · rw [if_pos w7, if_pos w7, ad]; unfold x_need; rw [if_pos hd]; exact ⟨rfl, _, rfl⟩
  rw [if_neg w7, if_neg w7]
  have w8 : w = 8 := by
    rw [i_eq] at w0 w1 w2 w3 w4 w5 w6 w7 ⊢
    have e0 : (0 : Int32).toInt = 0 := rfl
    have e1 : (1 : Int32).toInt = 1 := by decide
    have e2 : (2 : Int32).toInt = 2 := by decide
    have e3 : (3 : Int32).toInt = 3 := by decide
    have e4 : (4 : Int32).toInt = 4 := by decide
    have e5 : (5 : Int32).toInt = 5 := by decide
    have e6 : (6 : Int32).toInt = 6 := by decide
    have e7 : (7 : Int32).toInt = 7 := by decide
    have e8 : (8 : Int32).toInt = 8 := by decide
    omega
  rw [if_pos w8, ad]; unfold x_need; rw [if_pos hd]; exact ⟨rfl, _, rfl⟩
theorem m_look (n : Int32) (y mo f g wi s r : Nat → Int32) (d w : Int32) (hf : xp f g) (h0 : 0 ≤ n.toInt) (h1 : n.toInt ≤ 60) : mX9_look n y mo f wi s r d w = mX10_look n y mo g wi s r d w ∧ ∃ o, mX10_look n y mo g wi s r d w = some o := by
  unfold mX9_look mX10_look
  rw [m_has, m_isDay n d h0, m_within, show mX10_in w.toInt64 0 8 = some (decide (0 ≤ w ∧ w ≤ 8)) from m_in w 0 8]
  simp only [Option.bind_some, xb_d]
  by_cases hd : 0 ≤ d.toInt ∧ d.toInt < n.toInt
  · rw [if_neg (not_not_intro hd), if_neg (not_not_intro hd)]
    by_cases hw : 0 ≤ w ∧ w ≤ 8
    · rw [if_neg (not_not_intro hw), if_neg (not_not_intro hw)]
      have hw' : 0 ≤ w.toInt ∧ w.toInt ≤ 8 := by
        have h2 := hw.1; have h3 := hw.2
        rw [i_le, Int32.toInt_zero] at h2
        rw [i_le] at h3
        exact ⟨h2, h3⟩
      obtain ⟨e1, o, e2⟩ := m_lookOf y mo f g wi s r d w hf hd.1 (by omega) hw'
      rw [e1, e2]
      exact ⟨rfl, o, rfl⟩
    · rw [if_pos hw, if_pos hw]; exact ⟨rfl, _, rfl⟩
  · rw [if_pos hd, if_pos hd]; exact ⟨rfl, _, rfl⟩
