/-! pure facts: who says what odds of a day -/
/-- the odds of a month: the same on both sides, -6 or up to 1000 -/
theorem m_mon (y mo f g wi s r : Nat → Int32) (hb : s_bk y mo f g wi s r) {n : Nat} (hn : n ≤ 60) {d : Nat} (hd : d < n) : ∃ o, mX0_monthOdds (nI n) y mo r (nI d) = some o ∧ mX10_monthOf (nI n) y mo r (nI d) = some o ∧ s_or 1000 o := by
  obtain ⟨a, b, h1, h2, h3, h4⟩ := x_pair (s1 := fun z : Int32 × Int32 × Int32 => mX0_monthOdds_s7 (nI n) y mo r (nI d) z.1 z.2.1 z.2.2) (s2 := fun z : Int32 × Int32 × Int32 => mX10_monthOf_s7 (nI n) y mo r (nI d) z.1 z.2.1 z.2.2) (fun m a b => ∃ k A B, k ≤ n ∧ m = n - k ∧ B ≤ A ∧ A ≤ k ∧ a = (nI A, nI B, nI k) ∧ b = (nI B, nI A, nI k)) (fun a b => a = b ∧ s_or 1000 a) (by
    rintro m a b ⟨k, A, B, hk, rfl, hBA, hAk, rfl, rfl⟩
    by_cases hkn : k = n
    · subst hkn
      refine .inl ⟨s_th B A, s_th B A, ?_, ?_, rfl, s_th_or B A hBA (by omega)⟩
      · try dsimp only
        unfold mX0_monthOdds_s7
        rw [if_pos (nI_le (Nat.le_refl k) (by omega)), (m_sh B A (by omega) (by omega)).1]
        rfl
      · try dsimp only
        unfold mX10_monthOf_s7
        rw [if_pos (nI_le (Nat.le_refl k) (by omega)), (m_sh B A (by omega) (by omega)).2]
        rfl
    have hkn' : k < n := by omega
    obtain ⟨-, -, -, -, ⟨ra, r1, r2⟩⟩ := hb.2 k (by omega)
    have xk : x_in (nI k) 60 := n_xin (by omega) (by omega)
    have xd : x_in (nI d) 60 := n_xin (by omega) (by omega)
    have ck : (nI k).toNatClampNeg = k := nI_clamp (by omega)
    have cd : (nI d).toNatClampNeg = d := nI_clamp (by omega)
    have z1 : ¬ (1 : Int32) = 0 := by decide
    by_cases hy : y d = y k
    · refine .inr ⟨n - (k + 1), _, _, by omega, ?_, ?_, k + 1, A, B, by omega, rfl, hBA, by omega, rfl, rfl⟩
      · try dsimp only
        unfold mX0_monthOdds_s7 mX0_inOtherYears mX0_monthOdds_b58
        rw [if_neg (nI_ge hkn' (by omega)), n_at (by omega) y (i := d) (by omega), n_at (by omega) y (i := k) (by omega)]
        simp only [Option.bind_some]
        rw [if_pos hy]
        simp only [Option.bind_some]
        rw [if_pos xb_f, nI_1]
      · try dsimp only
        unfold mX10_monthOf_s7
        rw [if_neg (nI_ge hkn' (by omega)), x_ny xk, x_ny xd, x_ny xk, x_ny xd, ck, cd, if_pos hy.symm]
        have t : mX10_monthOf_b52 (nI n) y mo r (nI d) (nI B) (nI A) (nI k) = some (.inr (nI B, nI A, nI (k + 1))) := by
          unfold mX10_monthOf_b52 mX10_monthOf_b53
          rw [if_pos rfl]
          unfold mX10_monthOf_b66 mX10_monthOf_b85
          rw [if_pos rfl, Int32.add_zero, Int32.add_zero, nI_1]
        rw [t, ite_self]
    · by_cases hm : mo d = mo k
      · refine .inr ⟨n - (k + 1), _, _, by omega, ?_, ?_, k + 1, A + 1, B + ra, by omega, rfl, by omega, by omega, rfl, rfl⟩
        · try dsimp only
          unfold mX0_monthOdds_s7 mX0_inOtherYears mX0_rainOf mX0_monthOdds_b58
          rw [if_neg (nI_ge hkn' (by omega)), n_at (by omega) y (i := d) (by omega), n_at (by omega) y (i := k) (by omega)]
          simp only [Option.bind_some]
          rw [if_neg hy]
          simp only [Option.bind_some]
          rw [if_neg xb_n, n_at (by omega) mo (i := d) (by omega), n_at (by omega) mo (i := k) (by omega), n_at (by omega) r (i := k) (by omega)]
          simp only [Option.bind_some]
          rw [if_pos hm, r2, nI_add, nI_1, nI_1]
        · try dsimp only
          unfold mX10_monthOf_s7
          rw [if_neg (nI_ge hkn' (by omega)), x_ny xk, x_ny xd, x_ny xk, x_ny xd, ck, cd, if_pos hm.symm, if_neg (fun h => hy h.symm)]
          unfold mX10_monthOf_b53
          rw [if_neg z1]
          unfold mX10_monthOf_b66 mX10_monthOf_b85
          rw [if_neg z1, x_ny xk, ck, r2, nI_add, nI_1, nI_1]
      · refine .inr ⟨n - (k + 1), _, _, by omega, ?_, ?_, k + 1, A, B, by omega, rfl, hBA, by omega, rfl, rfl⟩
        · try dsimp only
          unfold mX0_monthOdds_s7 mX0_inOtherYears mX0_monthOdds_b58
          rw [if_neg (nI_ge hkn' (by omega)), n_at (by omega) y (i := d) (by omega), n_at (by omega) y (i := k) (by omega)]
          simp only [Option.bind_some]
          rw [if_neg hy]
          simp only [Option.bind_some]
          rw [if_neg xb_n, n_at (by omega) mo (i := d) (by omega), n_at (by omega) mo (i := k) (by omega)]
          simp only [Option.bind_some]
          rw [if_neg hm, nI_1]
        · try dsimp only
          unfold mX10_monthOf_s7
          rw [if_neg (nI_ge hkn' (by omega))]
          simp only [x_ny xk, x_ny xd, ck, cd]
          rw [if_neg (fun h => hm h.symm)]
          unfold mX10_monthOf_b52 mX10_monthOf_b53
          rw [if_pos rfl]
          unfold mX10_monthOf_b66 mX10_monthOf_b85
          rw [if_pos rfl, Int32.add_zero, Int32.add_zero, nI_1]) n (0, 0, 0) (0, 0, 0) ⟨0, 0, 0, by omega, rfl, by omega, by omega, rfl, rfl⟩
  refine ⟨a, ?_, ?_, h4⟩
  · unfold mX0_monthOdds mX0_monthOdds_b7
    exact h1
  · unfold mX10_monthOf mX10_monthOf_b7
    rw [h3]
    exact h2
/-- saying k: the class's text, the reference's tables -/
def s_sy (k : Nat) (z : Int32) (sg cs fr te as ho nu : Nat → Int32) : Prop := ∃ n c, z = nI n ∧ s_txt n sg c ∧ s_par k n c cs fr te as ho nu
/-- the class's book, keys, weight and sayings beside the reference's -/
def s_rel (n q w : Nat) (y mo f g wi s r wr ki : Nat → Int32) (z0 : Int32) (g0 : Nat → Int32) (z1 : Int32) (g1 : Nat → Int32) (z2 : Int32) (g2 : Nat → Int32) (z3 : Int32) (g3 : Nat → Int32) (cs fr te as ho nu : Nat → Int32) : Prop := n ≤ 60 ∧ q < 64 ∧ w ≤ 10 ∧ s_bk y mo f g wi s r ∧ (∀ j, j < 60 → s_or 1000 (wr j)) ∧ s_ks y mo g wi s r ki n ∧ s_sy 0 z0 g0 cs fr te as ho nu ∧ s_sy 1 z1 g1 cs fr te as ho nu ∧ s_sy 2 z2 g2 cs fr te as ho nu ∧ s_sy 3 z3 g3 cs fr te as ho nu
noncomputable def s_od (n q w : Nat) (y mo g wi s r wr cs fr te as ho nu : Nat → Int32) (t d : Nat) : Int32 := (mX10_oddsOf (nI n) (nI q) (nI w) y mo g wi s r wr cs fr te as ho nu (nI t) (nI d)).getD 0
theorem m_oddsOf {n q w : Nat} {y mo f g wi s r wr ki : Nat → Int32} {z0 : Int32} {g0 : Nat → Int32} {z1 : Int32} {g1 : Nat → Int32} {z2 : Int32} {g2 : Nat → Int32} {z3 : Int32} {g3 : Nat → Int32} {cs fr te as ho nu : Nat → Int32} (h : s_rel n q w y mo f g wi s r wr ki z0 g0 z1 g1 z2 g2 z3 g3 cs fr te as ho nu) {t d : Nat} (ht : t ≤ 8) (hd : d < n) : mX7_oddsOf (nI q) (nI w) (nI n) y mo f wi s r wr ki z0 g0 z1 g1 z2 g2 z3 g3 (nI t) (nI d) = some (s_od n q w y mo g wi s r wr cs fr te as ho nu t d) ∧ mX10_oddsOf (nI n) (nI q) (nI w) y mo g wi s r wr cs fr te as ho nu (nI t) (nI d) = some (s_od n q w y mo g wi s r wr cs fr te as ho nu t d) ∧ s_or 1000 (s_od n q w y mo g wi s r wr cs fr te as ho nu t d) := by
  suffices hh : ∃ o, mX7_oddsOf (nI q) (nI w) (nI n) y mo f wi s r wr ki z0 g0 z1 g1 z2 g2 z3 g3 (nI t) (nI d) = some o ∧ mX10_oddsOf (nI n) (nI q) (nI w) y mo g wi s r wr cs fr te as ho nu (nI t) (nI d) = some o ∧ s_or 1000 o by
    obtain ⟨o, h1, h2, h3⟩ := hh
    have e : s_od n q w y mo g wi s r wr cs fr te as ho nu t d = o := by unfold s_od; rw [h2]; rfl
    rw [e]
    exact ⟨h1, h2, h3⟩
  obtain ⟨hn, hq, hw, hb, hwr, hk, y0, y1, y2, y3⟩ := h
  have xd : x_in (nI d) 60 := n_xin (by omega) (by omega)
  have cd : (nI d).toNatClampNeg = d := nI_clamp (by omega)
  have hwire : mX0_wireOf wr (nI d) = some (wr d) := by
    unfold mX0_wireOf
    rw [n_at (by omega) wr (i := d) (by omega)]
    rfl
  have hbook := m_bookOf y mo f g wi s r hb hn hq hd
  have hlike := m_likeOdds y mo f g wi s r ki hb hn hk hq hd
  have hbor := s_bo_or y mo g wi s r q d n hn
  unfold mX7_oddsOf mX10_oddsOf
  have tc : t = 0 ∨ t = 1 ∨ t = 2 ∨ t = 3 ∨ t = 4 ∨ t = 5 ∨ t = 6 ∨ t = 7 ∨ t = 8 := by omega
  rcases tc with rfl | rfl | rfl | rfl | rfl | rfl | rfl | rfl | rfl
  · obtain ⟨o, l1, l2, l3, -, -, -, l7⟩ := m_looks y mo f g wi s r hb (d := d) (w := 4) (by omega) (by omega)
    have o1 := l7 rfl
    rw [show nI 4 = 4 from rfl] at l1 l2
    rw [if_pos (show nI 0 = 0 from rfl), if_pos (show nI 0 = 0 from rfl), l1]
    unfold mX10_lookOf at l2
    rw [if_neg (by decide), if_neg (by decide), if_neg (by decide), if_neg (by decide), if_pos rfl] at l2
    simp only [Option.bind_some]
    by_cases hz : nI d = 0
    · rw [if_pos hz] at l2
      cases l2
      rw [if_pos rfl, if_pos hz]
      exact ⟨-6, rfl, rfl, .inl rfl⟩
    · rw [if_neg hz] at l2 ⊢
      have hd1 : ¬ d = 0 := fun e => hz (by rw [e]; rfl)
      have x1 : x_in (nI d - 1) 60 := by rw [n_pred (by omega)]; exact n_xin (by omega) (by omega)
      rw [x_ny x1] at l2 ⊢
      cases l2
      obtain ⟨-, -, -, -, ⟨ra, r1, r2⟩⟩ := hb.2 (d - 1) (by omega)
      have e2 : r (nI d - 1).toNatClampNeg = nI ra := by rw [n_pred (by omega), nI_clamp (by omega)]; exact r2
      rw [e2, if_neg (n_ne6 ra (by omega))]
      exact ⟨_, rfl, rfl, .inr ⟨1000 * ra, by omega, pk_mul 1000 ra⟩⟩
  · obtain ⟨o, l1, l2, l3⟩ := m_mon y mo f g wi s r hb hn hd
    rw [if_neg (by decide), if_pos (show nI 1 = 1 from rfl), if_neg (by decide), if_pos (show nI 1 = 1 from rfl), l1, l2]
    exact ⟨o, rfl, rfl, l3⟩
  · obtain ⟨m, c, rfl, e1, e2⟩ := y0
    obtain ⟨o, l1, l2, l3⟩ := m_said (k := 0) (by omega) e1 e2 y mo f g wi s r hb (d := d) (by omega)
    rw [if_neg (by decide), if_neg (by decide), if_pos (show nI 2 = 2 from rfl), if_pos (by decide), if_neg (by decide), if_neg (by decide), if_neg (by decide), show nI 2 - 2 = nI 0 by decide, l2]
    unfold mX7_sayingAtK0
    simp only [Option.bind_some]
    rw [l1]
    exact ⟨o, rfl, rfl, l3⟩
  · obtain ⟨m, c, rfl, e1, e2⟩ := y1
    obtain ⟨o, l1, l2, l3⟩ := m_said (k := 1) (by omega) e1 e2 y mo f g wi s r hb (d := d) (by omega)
    rw [if_neg (by decide), if_neg (by decide), if_neg (by decide), if_pos (show nI 3 = 3 from rfl), if_neg (by decide), if_pos (by decide), if_neg (by decide), if_neg (by decide), if_neg (by decide), show nI 3 - 2 = nI 1 by decide, l2]
    unfold mX7_sayingAtK1
    simp only [Option.bind_some]
    rw [l1]
    exact ⟨o, rfl, rfl, l3⟩
  · obtain ⟨m, c, rfl, e1, e2⟩ := y2
    obtain ⟨o, l1, l2, l3⟩ := m_said (k := 2) (by omega) e1 e2 y mo f g wi s r hb (d := d) (by omega)
    rw [if_neg (by decide), if_neg (by decide), if_neg (by decide), if_neg (by decide), if_pos (show nI 4 = 4 from rfl), if_neg (by decide), if_neg (by decide), if_pos (by decide), if_neg (by decide), if_neg (by decide), if_neg (by decide), show nI 4 - 2 = nI 2 by decide, l2]
    unfold mX7_sayingAtK2
    simp only [Option.bind_some]
    rw [l1]
    exact ⟨o, rfl, rfl, l3⟩
  · obtain ⟨m, c, rfl, e1, e2⟩ := y3
    obtain ⟨o, l1, l2, l3⟩ := m_said (k := 3) (by omega) e1 e2 y mo f g wi s r hb (d := d) (by omega)
    rw [if_neg (by decide), if_neg (by decide), if_neg (by decide), if_neg (by decide), if_neg (by decide), if_pos (show nI 5 = 5 from rfl), if_neg (by decide), if_neg (by decide), if_neg (by decide), if_pos (by decide), if_neg (by decide), if_neg (by decide), if_neg (by decide), show nI 5 - 2 = nI 3 by decide, l2]
    unfold mX7_sayingAtK3
    simp only [Option.bind_some]
    rw [l1]
    exact ⟨o, rfl, rfl, l3⟩
  · rw [if_neg (by decide), if_neg (by decide), if_neg (by decide), if_neg (by decide), if_neg (by decide), if_neg (by decide), if_pos (show nI 6 = 6 from rfl), if_neg (by decide), if_neg (by decide), if_pos (by decide), if_pos (show nI 6 = 6 from rfl), hbook, hlike]
    exact ⟨_, rfl, rfl, hbor⟩
  · rw [if_neg (by decide), if_neg (by decide), if_neg (by decide), if_neg (by decide), if_neg (by decide), if_neg (by decide), if_neg (by decide), if_pos (show nI 7 = 7 from rfl), if_neg (by decide), if_neg (by decide), if_pos (by decide), if_neg (by decide), if_pos (show nI 7 = 7 from rfl), hwire, x_ny xd, cd]
    exact ⟨_, rfl, rfl, hwr d (by omega)⟩
  · rw [if_neg (by decide), if_neg (by decide), if_neg (by decide), if_neg (by decide), if_neg (by decide), if_neg (by decide), if_neg (by decide), if_neg (by decide), if_pos (show nI 8 = 8 from rfl), if_neg (by decide), if_neg (by decide), if_pos (by decide), if_neg (by decide), if_neg (by decide), hbook, hlike, hwire]
    simp only [Option.bind_some, x_ny xd, cd]
    unfold mX7_join
    have ge1 := s_or_ge (by omega) hbor
    have ge2 := s_or_ge (by omega) (hwr d (by omega))
    by_cases c1 : s_bo y mo g wi s r q d n = -6
    · rw [if_pos c1, if_pos (ge1.1.mpr c1)]
      exact ⟨-6, rfl, rfl, .inl rfl⟩
    · rw [if_neg c1, if_neg (fun z => c1 (ge1.1.mp z))]
      by_cases c2 : wr d = -6
      · rw [if_pos c2, if_neg (fun z => ge2.2.mp z c2)]
        exact ⟨-6, rfl, rfl, .inl rfl⟩
      · rw [if_neg c2, if_pos (ge2.2.mpr c2)]
        refine ⟨_, rfl, rfl, ?_⟩
        obtain ⟨a, a1, a2⟩ := hbor.resolve_left c1
        obtain ⟨b, b1, b2⟩ := (hwr d (by omega)).resolve_left c2
        have e10 : (10 : Int32) - nI w = nI (10 - w) := pk_sub (a := 10) hw
        have u1 := Nat.mul_le_mul_right w a1
        have u2 := Nat.mul_le_mul_right (10 - w) b1
        have u3 : 1000 * w + 1000 * (10 - w) = 10000 := by omega
        have e3 : (nI a * nI w + nI b * (10 - nI w)) / 10 = nI ((a * w + b * (10 - w)) / 10) := by
          rw [e10, pk_mul, pk_mul, nI_add]
          exact pk_div (d := 10) (by omega) (by omega) (by omega)
        rw [a2, b2, e3]
        exact .inr ⟨_, by omega, rfl⟩
theorem m_isTeller (p : Int32) : mX9_isTeller p = some (decide (0 ≤ p ∧ p ≤ 8)) ∧ mX10_isTeller p = some (decide (0 ≤ p ∧ p ≤ 8)) := by
  unfold mX9_isTeller mX10_isTeller
  rw [m_within, show mX10_in p.toInt64 0 8 = some (decide (0 ≤ p ∧ p ≤ 8)) from m_in p 0 8]
  exact ⟨rfl, rfl⟩
theorem m_isEnd (p : Int32) : mX10_isEnd p = some (decide (0 ≤ p ∧ p ≤ 1)) := by
  unfold mX10_isEnd
  rw [show mX10_in p.toInt64 0 1 = some (decide (0 ≤ p ∧ p ≤ 1)) from m_in p 0 1]
  rfl
/-- a number in a range is nI of a small one -/
theorem n_rng {p : Int32} {m : Nat} (hm : m < 2147483648) (h : 0 ≤ p ∧ p ≤ nI m) : ∃ t, t ≤ m ∧ p = nI t := by
  have a := h.1
  have b := h.2
  rw [i_le, Int32.toInt_zero] at a
  rw [i_le, show (nI m).toInt = m from nI_toInt (by omega)] at b
  exact n_of2 a b
theorem m_odds {n q w : Nat} {y mo f g wi s r wr ki : Nat → Int32} {z0 : Int32} {g0 : Nat → Int32} {z1 : Int32} {g1 : Nat → Int32} {z2 : Int32} {g2 : Nat → Int32} {z3 : Int32} {g3 : Nat → Int32} {cs fr te as ho nu : Nat → Int32} (h : s_rel n q w y mo f g wi s r wr ki z0 g0 z1 g1 z2 g2 z3 g3 cs fr te as ho nu) (p v : Int32) : ∃ o, mX9_odds (nI q) (nI w) (nI n) y mo f wi s r wr ki z0 g0 z1 g1 z2 g2 z3 g3 p v = some o ∧ mX10_odds (nI n) (nI q) (nI w) y mo g wi s r wr cs fr te as ho nu p v = some o := by
  have hnI : (nI n).toInt = n := nI_toInt (by have := h.1; omega)
  unfold mX9_odds mX10_odds
  rw [(m_isTeller p).1, (m_isTeller p).2, m_has, m_isDay (nI n) v (by omega)]
  simp only [Option.bind_some, xb_d]
  by_cases h1 : 0 ≤ p ∧ p ≤ 8
  · rw [if_neg (not_not_intro h1), if_neg (not_not_intro h1)]
    by_cases h2 : 0 ≤ v.toInt ∧ v.toInt < (nI n).toInt
    · rw [if_neg (not_not_intro h2), if_neg (not_not_intro h2)]
      obtain ⟨t, ht, rfl⟩ := n_rng (m := 8) (by omega) h1
      obtain ⟨d, hd, rfl⟩ := n_of3 (n := n) h2.1 (by omega)
      obtain ⟨e1, e2, -⟩ := m_oddsOf h ht hd
      rw [e1, e2]
      exact ⟨_, rfl, rfl⟩
    · rw [if_pos h2, if_pos h2]
      exact ⟨_, rfl, rfl⟩
  · rw [if_pos h1, if_pos h1]
    exact ⟨_, rfl, rfl⟩
