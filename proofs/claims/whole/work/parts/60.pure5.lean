/-! pure facts: the odds of a month -/
theorem m_share (s c : Int32) (hc : 0 ≤ c.toInt) : mX9_thousandths s c = mX10_share s c ∧ ∃ o, mX10_share s c = some o := by
  unfold mX9_thousandths mX10_share
  by_cases z : c = 0
  · rw [if_pos z, if_pos (by rw [i_le, z]; exact Int.le_refl _)]
    exact ⟨rfl, _, rfl⟩
  · have hn : ¬ c ≤ 0 := fun h => z (by rw [i_eq, Int32.toInt_zero]; rw [i_le, Int32.toInt_zero] at h; omega)
    rw [if_neg z, if_neg hn]
    unfold x_need
    rw [if_pos z]
    exact ⟨rfl, _, rfl⟩
theorem m_monthL (days : Int32) (y mo r : Nat → Int32) (d : Int32) (h60 : days.toInt ≤ 60) (d0 : 0 ≤ d.toInt) (d1 : d.toInt < 60) : ∀ n : Nat, ∀ c s v : Int32, 0 ≤ v.toInt → days.toInt - v.toInt ≤ n → 0 ≤ c.toInt → c.toInt ≤ v.toInt → mX0_monthOdds_b7 days y mo r d c s v = mX10_monthOf_b7 days y mo r d s c v ∧ ∃ o, mX10_monthOf_b7 days y mo r d s c v = some o := by
  have hdi : x_in d 60 := i_in d0 d1
  have base : ∀ c s v : Int32, days ≤ v → 0 ≤ c.toInt → mX0_monthOdds_b7 days y mo r d c s v = mX10_monthOf_b7 days y mo r d s c v ∧ ∃ o, mX10_monthOf_b7 days y mo r d s c v = some o := by
    intro c s v hv hc
    obtain ⟨e1, o, e2⟩ := m_share s c hc
    have a : mX0_monthOdds_b7 days y mo r d c s v = some o := by
      unfold mX0_monthOdds_b7
      refine x_loop_inl ?_
      show mX0_monthOdds_s7 days y mo r d c s v = _
      unfold mX0_monthOdds_s7
      rw [if_pos hv, e1, e2]
      rfl
    have b : mX10_monthOf_b7 days y mo r d s c v = some o := by
      unfold mX10_monthOf_b7
      refine x_loop_inl ?_
      show mX10_monthOf_s7 days y mo r d s c v = _
      unfold mX10_monthOf_s7
      rw [if_pos hv, e2]
      rfl
    exact ⟨a.trans b.symm, o, b⟩
  intro n
  induction n with
  | zero => exact fun c s v h0 hn hc0 hc1 => base c s v (by rw [i_le]; omega) hc0
  | succ n ih =>
    intro c s v h0 hn hc0 hc1
    by_cases hv : days ≤ v
    · exact base c s v hv hc0
    have hv' : v.toInt < days.toInt := by rw [i_le] at hv; omega
    have hvi : x_in v 60 := i_in h0 (by omega)
    have va : ∀ q : Nat → Int32, mX9_at 60 q v = some (q v.toNatClampNeg) := fun q => by rw [m_at 60 q v (by decide), if_pos ⟨h0, by omega⟩]
    have da : ∀ q : Nat → Int32, mX9_at 60 q d = some (q d.toNatClampNeg) := fun q => by rw [m_at 60 q d (by decide), if_pos ⟨d0, d1⟩]
    have ev : (v + 1).toInt = v.toInt + 1 := i_add (by show _ ≤ v.toInt + 1; omega) (by show v.toInt + 1 < _; omega)
    have ec : (c + 1).toInt = c.toInt + 1 := i_add (by show _ ≤ c.toInt + 1; omega) (by show c.toInt + 1 < _; omega)
    have fin : ∀ c' s' : Int32, mX0_monthOdds_s7 days y mo r d c s v = some (.inr (c', s', v + 1)) → mX10_monthOf_s7 days y mo r d s c v = some (.inr (s', c', v + 1)) → 0 ≤ c'.toInt → c'.toInt ≤ v.toInt + 1 → mX0_monthOdds_b7 days y mo r d c s v = mX10_monthOf_b7 days y mo r d s c v ∧ ∃ o, mX10_monthOf_b7 days y mo r d s c v = some o := by
      intro c' s' e0 e1 q0 q1
      have a : mX0_monthOdds_b7 days y mo r d c s v = mX0_monthOdds_b7 days y mo r d c' s' (v + 1) := by
        unfold mX0_monthOdds_b7
        exact x_loop_inr e0
      have b : mX10_monthOf_b7 days y mo r d s c v = mX10_monthOf_b7 days y mo r d s' c' (v + 1) := by
        unfold mX10_monthOf_b7
        exact x_loop_inr e1
      rw [a, b]
      exact ih c' s' (v + 1) (by omega) (by omega) q0 (by omega)
    have z1 : ¬ (1 : Int32) = 0 := by decide
    have x0 : xb false = 0 := rfl
    have x1 : ¬ xb true = 0 := by decide
    by_cases hy : y d.toNatClampNeg = y v.toNatClampNeg
    · refine fin c s ?_ ?_ hc0 (by omega)
      · unfold mX0_monthOdds_s7 mX0_inOtherYears
        rw [if_neg hv, da, va]
        simp only [Option.bind_some]
        rw [if_pos hy]
        simp only [Option.bind_some]
        rw [if_pos x0]
        rfl
      · unfold mX10_monthOf_s7 x_need
        rw [if_neg hv, if_pos hvi, if_pos hdi, if_pos hvi, if_pos hdi, if_pos hy.symm]
        have t : mX10_monthOf_b52 days y mo r d s c v = some (.inr (s, c, v + 1)) := by
          unfold mX10_monthOf_b52 mX10_monthOf_b53
          rw [if_pos rfl]
          unfold mX10_monthOf_b66 mX10_monthOf_b85
          rw [if_pos rfl, Int32.add_zero, Int32.add_zero]
        rw [t, ite_self]
    · by_cases hm : mo d.toNatClampNeg = mo v.toNatClampNeg
      · refine fin (c + 1) (s + r v.toNatClampNeg) ?_ ?_ (by omega) (by omega)
        · unfold mX0_monthOdds_s7 mX0_inOtherYears mX0_rainOf
          rw [if_neg hv, da, va]
          simp only [Option.bind_some]
          rw [if_neg hy]
          simp only [Option.bind_some]
          rw [if_neg x1, da, va, va]
          simp only [Option.bind_some]
          rw [if_pos hm]
          rfl
        · unfold mX10_monthOf_s7 x_need
          rw [if_neg hv, if_pos hvi, if_pos hdi, if_pos hvi, if_pos hdi, if_pos hm.symm, if_neg (fun h => hy h.symm)]
          unfold mX10_monthOf_b53
          rw [if_neg z1]
          unfold mX10_monthOf_b66 x_need
          rw [if_neg z1, if_pos hvi]
          rfl
      · refine fin c s ?_ ?_ hc0 (by omega)
        · unfold mX0_monthOdds_s7 mX0_inOtherYears
          rw [if_neg hv, da, va]
          simp only [Option.bind_some]
          rw [if_neg hy]
          simp only [Option.bind_some]
          rw [if_neg x1, da, va]
          simp only [Option.bind_some]
          rw [if_neg hm]
          rfl
        · unfold mX10_monthOf_s7 x_need
          rw [if_neg hv, if_pos hvi, if_pos hdi, if_neg (fun h => hm h.symm)]
          unfold mX10_monthOf_b52 mX10_monthOf_b53
          rw [if_pos rfl]
          unfold mX10_monthOf_b66 mX10_monthOf_b85
          rw [if_pos rfl, Int32.add_zero, Int32.add_zero]
theorem m_month (days : Int32) (y mo r : Nat → Int32) (d : Int32) (h60 : days.toInt ≤ 60) (d0 : 0 ≤ d.toInt) (d1 : d.toInt < 60) : mX0_monthOdds days y mo r d = mX10_monthOf days y mo r d ∧ ∃ o, mX10_monthOf days y mo r d = some o := by
  unfold mX0_monthOdds mX10_monthOf
  have z : (0 : Int32).toInt = 0 := by decide
  exact m_monthL days y mo r d h60 d0 d1 60 0 0 0 (by omega) (by omega) (by omega) (by omega)
