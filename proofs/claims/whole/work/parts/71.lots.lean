/-! pure facts: tried, lot, changed -/
theorem m_tried {n q w : Nat} {y mo f g wi s r wr ki : Nat → Int32} {z0 : Int32} {g0 : Nat → Int32} {z1 : Int32} {g1 : Nat → Int32} {z2 : Int32} {g2 : Nat → Int32} {z3 : Int32} {g3 : Nat → Int32} {cs fr te as ho nu : Nat → Int32} (h : s_rel n q w y mo f g wi s r wr ki z0 g0 z1 g1 z2 g2 z3 g3 cs fr te as ho nu) (a1 a2 a3 a4 p v : Int32) : ∃ o b1 b2 b3 b4, mX9_tried (nI q) (nI w) (nI n) y mo f wi s r wr ki z0 g0 z1 g1 z2 g2 z3 g3 p v = some o ∧ mX10_tried (nI n) a1 a2 a3 a4 y mo g wi s r cs fr te as ho nu p v = some (o, b1, b2, b3, b4) := by
  unfold mX9_tried mX10_tried
  rw [show mX10_in p.toInt64 0 3 = some (decide (0 ≤ p ∧ p ≤ 3)) from m_in p 0 3, show mX10_in v.toInt64 0 2 = some (decide (0 ≤ v ∧ v ≤ 2)) from m_in v 0 2, m_within v 0 2]
  simp only [Option.bind_some, xb_d]
  rcases m_4 p with ⟨k, hk, rfl, hp⟩ | ⟨h0, h1, h2, h3, hp, hN⟩
  · rw [if_neg (not_not_intro hp)]
    obtain ⟨all, taken, both, marked, e1, e2, -⟩ := m_lotOf h hk a1 a2 a3 a4
    have main : ∃ o b1 b2 b3 b4, (if ¬ (0 ≤ v ∧ v ≤ 2) then some (-2 : Int32) else (mX7_lotOfSaying (nI q) (nI w) (nI n) y mo f wi s r wr ki z0 g0 z1 g1 z2 g2 z3 g3 (nI k)).bind (fun r505 => if v = 0 then (some r505.1) else (if v = 1 then (some r505.2.1) else (some r505.2.2.1)))) = some o ∧ (if ¬ (0 ≤ v ∧ v ≤ 2) then some ((-2 : Int32), a1, a2, a3, a4) else (mX10_findTried (nI n) a1 a2 a3 a4 y mo g wi s r cs fr te as ho nu (nI k)).bind (fun r505 => if v = 0 then (some (r505.1, r505.1, r505.2.1, r505.2.2.1, r505.2.2.2)) else (if v = 1 then (some (r505.2.2.1, r505.1, r505.2.1, r505.2.2.1, r505.2.2.2)) else (some (r505.2.2.2, r505.1, r505.2.1, r505.2.2.1, r505.2.2.2))))) = some (o, b1, b2, b3, b4) := by
      by_cases c : 0 ≤ v ∧ v ≤ 2
      · rw [if_neg (not_not_intro c), if_neg (not_not_intro c), e1, e2]
        simp only [Option.bind_some]
        by_cases v0 : v = 0
        · rw [if_pos v0, if_pos v0]; exact ⟨_, _, _, _, _, rfl, rfl⟩
        rw [if_neg v0, if_neg v0]
        by_cases v1 : v = 1
        · rw [if_pos v1, if_pos v1]; exact ⟨_, _, _, _, _, rfl, rfl⟩
        rw [if_neg v1, if_neg v1]
        exact ⟨_, _, _, _, _, rfl, rfl⟩
      · rw [if_pos c, if_pos c]; exact ⟨_, _, _, _, _, rfl, rfl⟩
    have kc : k = 0 ∨ k = 1 ∨ k = 2 ∨ k = 3 := by omega
    rcases kc with rfl | rfl | rfl | rfl
    · rw [if_pos (show nI 0 = 0 from rfl)]
      unfold mX7_sayingAtK0
      simp only [Option.bind_some, xb_d]
      exact main
    · rw [if_neg (show ¬ nI 1 = 0 by decide), if_pos (show nI 1 = 1 from rfl)]
      unfold mX7_sayingAtK1
      simp only [Option.bind_some, xb_d]
      exact main
    · rw [if_neg (show ¬ nI 2 = 0 by decide), if_neg (show ¬ nI 2 = 1 by decide), if_pos (show nI 2 = 2 from rfl)]
      unfold mX7_sayingAtK2
      simp only [Option.bind_some, xb_d]
      exact main
    · rw [if_neg (show ¬ nI 3 = 0 by decide), if_neg (show ¬ nI 3 = 1 by decide), if_neg (show ¬ nI 3 = 2 by decide), if_pos (show nI 3 = 3 from rfl)]
      unfold mX7_sayingAtK3
      simp only [Option.bind_some, xb_d]
      exact main
  · rw [if_pos hp, if_neg h0, if_neg h1, if_neg h2, if_neg h3, hN]
    exact ⟨_, _, _, _, _, rfl, rfl⟩
theorem m_lot {n q w : Nat} {y mo f g wi s r wr ki : Nat → Int32} {z0 : Int32} {g0 : Nat → Int32} {z1 : Int32} {g1 : Nat → Int32} {z2 : Int32} {g2 : Nat → Int32} {z3 : Int32} {g3 : Nat → Int32} {cs fr te as ho nu : Nat → Int32} (h : s_rel n q w y mo f g wi s r wr ki z0 g0 z1 g1 z2 g2 z3 g3 cs fr te as ho nu) (a1 a2 a3 a4 p v : Int32) : ∃ o b1 b2 b3 b4, mX9_lot (nI q) (nI w) (nI n) y mo f wi s r wr ki z0 g0 z1 g1 z2 g2 z3 g3 p v = some o ∧ mX10_lot (nI n) a1 a2 a3 a4 y mo g wi s r cs fr te as ho nu p v = some (o, b1, b2, b3, b4) := by
  unfold mX9_lot mX10_lot
  rw [show mX10_in p.toInt64 0 3 = some (decide (0 ≤ p ∧ p ≤ 3)) from m_in p 0 3, m_isEnd, m_within v 0 1]
  simp only [Option.bind_some, xb_d]
  rcases m_4 p with ⟨k, hk, rfl, hp⟩ | ⟨h0, h1, h2, h3, hp, hN⟩
  · rw [if_neg (not_not_intro hp)]
    obtain ⟨all, taken, both, marked, e1, e2, q1, q2, q3, q4, q5⟩ := m_lotOf h hk a1 a2 a3 a4
    obtain ⟨u, o, l1, l2, l3, l4⟩ := m_lots q1 q2 q3 q4 q5 v
    have main : ∃ o b1 b2 b3 b4, (if ¬ (0 ≤ v ∧ v ≤ 1) then some (-1000000000000000002 : Int64) else (mX7_lotOfSaying (nI q) (nI w) (nI n) y mo f wi s r wr ki z0 g0 z1 g1 z2 g2 z3 g3 (nI k)).bind (fun r505 => (mX5_luckyWays r505.1 r505.2.1 r505.2.2.1 r505.2.2.2).bind (fun r506 => (mX5_ways r505.1 r505.2.1).bind (fun r507 => (mX9_fraction r506 r507 v).bind (fun r508 => some r508))))) = some o ∧ (if ¬ (0 ≤ v ∧ v ≤ 1) then some ((-1000000000000000002 : Int64), a1, a2, a3, a4) else (mX10_findTried (nI n) a1 a2 a3 a4 y mo g wi s r cs fr te as ho nu (nI k)).bind (fun r505 => (mX10_lotOf r505.1 r505.2.1 r505.2.2.1 r505.2.2.2 v).bind (fun r506 => some (r506, r505.1, r505.2.1, r505.2.2.1, r505.2.2.2)))) = some (o, b1, b2, b3, b4) := by
      by_cases c : 0 ≤ v ∧ v ≤ 1
      · rw [if_neg (not_not_intro c), if_neg (not_not_intro c), e1, e2]
        simp only [Option.bind_some]
        rw [l1, l2, l4]
        simp only [Option.bind_some]
        rw [l3]
        exact ⟨_, _, _, _, _, rfl, rfl⟩
      · rw [if_pos c, if_pos c]; exact ⟨_, _, _, _, _, rfl, rfl⟩
    have kc : k = 0 ∨ k = 1 ∨ k = 2 ∨ k = 3 := by omega
    rcases kc with rfl | rfl | rfl | rfl
    · rw [if_pos (show nI 0 = 0 from rfl)]
      unfold mX7_sayingAtK0
      simp only [Option.bind_some, xb_d]
      exact main
    · rw [if_neg (show ¬ nI 1 = 0 by decide), if_pos (show nI 1 = 1 from rfl)]
      unfold mX7_sayingAtK1
      simp only [Option.bind_some, xb_d]
      exact main
    · rw [if_neg (show ¬ nI 2 = 0 by decide), if_neg (show ¬ nI 2 = 1 by decide), if_pos (show nI 2 = 2 from rfl)]
      unfold mX7_sayingAtK2
      simp only [Option.bind_some, xb_d]
      exact main
    · rw [if_neg (show ¬ nI 3 = 0 by decide), if_neg (show ¬ nI 3 = 1 by decide), if_neg (show ¬ nI 3 = 2 by decide), if_pos (show nI 3 = 3 from rfl)]
      unfold mX7_sayingAtK3
      simp only [Option.bind_some, xb_d]
      exact main
  · rw [if_pos hp, if_neg h0, if_neg h1, if_neg h2, if_neg h3, hN]
    exact ⟨_, _, _, _, _, rfl, rfl⟩
theorem m_changed {n : Nat} (hn : n ≤ 60) {y mo f g wi s r : Nat → Int32} (hb : s_bk y mo f g wi s r) (p v : Int32) : ∃ o, mX9_changed (nI n) y r p v = some o ∧ mX10_changed (nI n) y r p v = some o := by
  unfold mX9_changed mX10_changed
  rw [show mX10_in p.toInt64 0 10 = some (decide (0 ≤ p ∧ p ≤ 10)) from m_in p 0 10, m_isEnd, m_within p 0 10, m_within v 0 1]
  simp only [Option.bind_some, xb_d]
  by_cases h1 : 0 ≤ p ∧ p ≤ 10
  · rw [if_neg (not_not_intro h1), if_neg (not_not_intro h1)]
    by_cases h2 : 0 ≤ v ∧ v ≤ 1
    · rw [if_neg (not_not_intro h2), if_neg (not_not_intro h2)]
      unfold mX0_lotFrom mX0_lotFrom_b10 mX10_changed_b34
      obtain ⟨c, d, r1, r2, all, taken, both, marked, u, rfl, q1, q2, q3, q4, q5, q6⟩ := x_pair (s1 := fun z : Int32 × Int32 × Int32 × Int32 × Int32 => mX0_lotFrom_s10 (nI n) y r p z.1 z.2.1 z.2.2.1 z.2.2.2.1 z.2.2.2.2) (s2 := fun z : Int32 × Int32 × Int32 × Int32 => mX10_changed_s34 (nI n) y r p v z.1 z.2.1 z.2.2.1 z.2.2.2) (fun m x z => ∃ d taken both marked, d ≤ n ∧ m = n - d ∧ x = (nI d, nI d, nI taken, nI both, nI marked) ∧ z = (nI marked, nI taken, nI both, nI d) ∧ marked ≤ d ∧ taken ≤ d ∧ both ≤ taken ∧ both ≤ marked) (fun c e => ∃ all taken both marked u, c = (nI all, nI taken, nI both, nI marked) ∧ mX5_luckyWays (nI all) (nI taken) (nI both) (nI marked) = some u ∧ mX5_ways (nI all) (nI taken) = some (lN (s_ch all taken)) ∧ mX9_fraction u (lN (s_ch all taken)) v = some e ∧ True ∧ True ∧ True) (by
        rintro m x z ⟨d, taken, both, marked, hd, rfl, rfl, rfl, p2, p3, p4, p5⟩
        by_cases hdn : d = n
        · subst hdn
          obtain ⟨u, o, l1, l2, l3, l4⟩ := m_lots hn p2 p3 p4 p5 v
          refine .inl ⟨(nI d, nI taken, nI both, nI marked), o, ?_, ?_, d, taken, both, marked, u, rfl, l1, l2, l3, trivial, trivial, trivial⟩
          · try dsimp only
            unfold mX0_lotFrom_s10
            rw [if_pos (nI_le (Nat.le_refl d) (by omega))]
          · try dsimp only
            unfold mX10_changed_s34
            rw [if_pos (nI_le (Nat.le_refl d) (by omega)), l4]
            rfl
        have hd' : d < n := by omega
        obtain ⟨ra1, ra2⟩ := m_rain hb (d := d) (by omega)
        obtain ⟨-, -, -, -, ⟨ra, rb1, rb2⟩⟩ := hb.2 d (by omega)
        have xk : x_in (nI d) 60 := n_xin (by omega) (by omega)
        have ck : (nI d).toNatClampNeg = d := nI_clamp (by omega)
        have n10 : ¬ (1 : Int32) = 0 := by decide
        by_cases c2 : y d < p
        · refine .inr ⟨n - (d + 1), (nI (d + 1), nI (d + 1), nI taken, nI both, nI (marked + ra)), (nI (marked + ra), nI taken, nI both, nI (d + 1)), by omega, ?_, ?_, d + 1, taken, both, marked + ra, by omega, rfl, rfl, rfl, by omega, by omega, p4, by omega⟩
          · try dsimp only
            unfold mX0_lotFrom_s10 mX0_lotFrom_b36 mX5_add
            rw [if_neg (nI_ge hd' (by omega)), n_at (by omega) y (i := d) (by omega)]
            simp only [Option.bind_some]
            rw [if_pos c2, ra1]
            simp only [Option.bind_some]
            rw [if_pos trivial]
            simp only [Option.bind_some]
            rw [rb2, nI_add, nI_1]
          · try dsimp only
            unfold mX10_changed_s34 mX10_changed_b71 mX10_changed_b98
            rw [if_neg (nI_ge hd' (by omega))]
            simp only [x_ny xk, ck, if_pos c2]
            rw [rb2, nI_add, nI_1, Int32.add_zero, Int32.add_zero]
        · refine .inr ⟨n - (d + 1), (nI (d + 1), nI (d + 1), nI (taken + 1), nI (both + ra), nI (marked + ra)), (nI (marked + ra), nI (taken + 1), nI (both + ra), nI (d + 1)), by omega, ?_, ?_, d + 1, taken + 1, both + ra, marked + ra, by omega, rfl, rfl, rfl, by omega, by omega, by omega, by omega⟩
          · try dsimp only
            unfold mX0_lotFrom_s10 mX0_lotFrom_b36 mX5_add
            rw [if_neg (nI_ge hd' (by omega)), n_at (by omega) y (i := d) (by omega)]
            simp only [Option.bind_some]
            rw [if_neg c2, ra1]
            simp only [Option.bind_some]
            rw [if_neg n10]
            simp only [Option.bind_some]
            rw [rb2, nI_add, nI_add, nI_1, nI_1]
          · try dsimp only
            unfold mX10_changed_s34 mX10_changed_b71 mX10_changed_b98
            rw [if_neg (nI_ge hd' (by omega))]
            simp only [x_ny xk, ck, if_neg c2]
            rw [rb2, nI_add, nI_add, nI_1, nI_1]) n (0, 0, 0, 0, 0) (0, 0, 0, 0) ⟨0, 0, 0, 0, by omega, rfl, rfl, rfl, by omega, by omega, by omega, by omega⟩
      rw [r1, r2]
      simp only [Option.bind_some]
      rw [q1, q2]
      simp only [Option.bind_some]
      rw [q3]
      exact ⟨_, rfl, rfl⟩
    · rw [if_pos h2, if_pos h2]
      exact ⟨_, rfl, rfl⟩
  · rw [if_pos h1, if_pos h1]
    exact ⟨_, rfl, rfl⟩
