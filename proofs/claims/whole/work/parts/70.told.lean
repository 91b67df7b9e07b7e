/-! pure facts: counts and sums over what was said: means, believed, score, tried, lot, changed -/
theorem m_rain {y mo f g wi s r : Nat → Int32} (hb : s_bk y mo f g wi s r) {d : Nat} (hd : d < 60) : mX0_rainOf r (nI d) = some (r d) ∧ (r d = 0 ∨ r d = 1) := by
  obtain ⟨-, -, -, -, ⟨ra, r1, r2⟩⟩ := hb.2 d hd
  refine ⟨?_, ?_⟩
  · unfold mX0_rainOf
    rw [n_at (by omega) r (i := d) (by omega)]
    rfl
  · rw [r2]
    have : ra = 0 ∨ ra = 1 := by omega
    rcases this with rfl | rfl
    · exact .inl rfl
    · exact .inr rfl
theorem m_means {n q w : Nat} {y mo f g wi s r wr ki : Nat → Int32} {z0 : Int32} {g0 : Nat → Int32} {z1 : Int32} {g1 : Nat → Int32} {z2 : Int32} {g2 : Nat → Int32} {z3 : Int32} {g3 : Nat → Int32} {cs fr te as ho nu : Nat → Int32} (h : s_rel n q w y mo f g wi s r wr ki z0 g0 z1 g1 z2 g2 z3 g3 cs fr te as ho nu) (p a b v : Int32) : ∃ o, mX9_means (nI q) (nI w) (nI n) y mo f wi s r wr ki z0 g0 z1 g1 z2 g2 z3 g3 p a b v = some o ∧ mX10_means (nI n) (nI q) (nI w) y mo g wi s r wr cs fr te as ho nu p a b v = some o := by
  have hn := h.1
  have hb := h.2.2.2.1
  unfold mX9_means mX10_means
  rw [(m_isTeller p).1, (m_isTeller p).2, show mX10_in a.toInt64 0 1000 = some (decide (0 ≤ a ∧ a ≤ 1000)) from m_in a 0 1000, show mX10_in b.toInt64 a.toInt64 1000 = some (decide (a ≤ b ∧ b ≤ 1000)) from m_in b a 1000, m_isEnd, m_within v 0 1]
  simp only [Option.bind_some, xb_d]
  by_cases h1 : 0 ≤ p ∧ p ≤ 8
  · rw [if_neg (not_not_intro h1), if_neg (not_not_intro h1)]
    have T0 : (0 : Int32).toInt = 0 := Int32.toInt_zero
    have T1 : (1000 : Int32).toInt = 1000 := by decide
    by_cases h2 : (0 ≤ a ∧ a ≤ 1000) ∧ (a ≤ b ∧ b ≤ 1000)
    · have i1 : ¬ a < 0 := by have := h2.1.1; rw [i_le] at this; rw [i_lt]; omega
      have i2 : ¬ b < a := by have := h2.2.1; rw [i_le] at this; rw [i_lt]; omega
      have i3 : ¬ (1000 : Int32) < b := by have := h2.2.2; rw [i_le] at this; rw [i_lt]; omega
      rw [if_neg i1, if_neg i2, if_neg i3, if_neg (not_not_intro h2.1), if_neg (not_not_intro h2.2)]
      by_cases h3 : 0 ≤ v ∧ v ≤ 1
      · rw [if_neg (not_not_intro h3), if_neg (not_not_intro h3)]
        obtain ⟨t, ht, rfl⟩ := n_rng (m := 8) (by omega) h1
        obtain ⟨u, hu, rfl⟩ := n_rng (m := 1) (by omega) h3
        have vc : nI u = 0 ∨ nI u = 1 := by
          have : u = 0 ∨ u = 1 := by omega
          rcases this with rfl | rfl
          · exact .inl rfl
          · exact .inr rfl
        obtain ⟨c, d, r1, r2, r3⟩ := x_pair (s1 := fun z : Int32 × Int32 => mX7_countSaid_s6 (nI q) (nI w) (nI n) y mo f wi s r wr ki z0 g0 z1 g1 z2 g2 z3 g3 (nI t) a b (nI u) z.1 z.2) (s2 := fun z : Int32 × Int32 => mX10_means_s51 (nI n) (nI q) (nI w) y mo g wi s r wr cs fr te as ho nu (nI t) a b (nI u) z.1 z.2) (fun m x z => ∃ k e, k ≤ n ∧ m = n - k ∧ x = (e, nI k) ∧ z = (e, nI k)) (fun c d => c = d) (by
          rintro m x z ⟨k, e, hk, rfl, rfl, rfl⟩
          by_cases hkn : k = n
          · subst hkn
            refine .inl ⟨e, e, ?_, ?_, rfl⟩
            · try dsimp only
              unfold mX7_countSaid_s6
              rw [if_pos (nI_le (Nat.le_refl k) (by omega))]
            · try dsimp only
              unfold mX10_means_s51
              rw [if_pos (nI_le (Nat.le_refl k) (by omega))]
          have hk' : k < n := by omega
          obtain ⟨o1, o2, o3⟩ := m_oddsOf h ht hk'
          obtain ⟨ra1, ra2⟩ := m_rain hb (d := k) (by omega)
          have w1 := m_within (s_od n q w y mo g wi s r wr cs fr te as ho nu t k) a b
          have w2 := m_in (s_od n q w y mo g wi s r wr cs fr te as ho nu t k) a b
          have xk : x_in (nI k) 60 := n_xin (by omega) (by omega)
          have ck : (nI k).toNatClampNeg = k := nI_clamp (by omega)
          have rl : r k < nI u ↔ ¬ (nI u = 0 ∨ r k = 1) := by
            rcases vc with z | z <;> rcases ra2 with q | q <;> rw [z, q] <;> decide
          refine .inr ⟨n - (k + 1), ((if (nI u = 0 ∨ r k = 1) ∧ (a ≤ s_od n q w y mo g wi s r wr cs fr te as ho nu t k ∧ s_od n q w y mo g wi s r wr cs fr te as ho nu t k ≤ b) then e + 1 else e), nI (k + 1)), ((if (nI u = 0 ∨ r k = 1) ∧ (a ≤ s_od n q w y mo g wi s r wr cs fr te as ho nu t k ∧ s_od n q w y mo g wi s r wr cs fr te as ho nu t k ≤ b) then e + 1 else e), nI (k + 1)), by omega, ?_, ?_, k + 1, _, by omega, rfl, rfl, rfl⟩
          · try dsimp only
            unfold mX7_countSaid_s6 mX7_countSaid_b50
            rw [if_neg (nI_ge hk' (by omega)), ra1]
            simp only [Option.bind_some]
            by_cases c1 : r k < nI u
            · rw [if_pos c1, if_neg (fun q => rl.mp c1 q.1), nI_1]
            · have c1' : nI u = 0 ∨ r k = 1 := Classical.byContradiction (fun q => c1 (rl.mpr q))
              rw [if_neg c1, o1]
              simp only [Option.bind_some]
              rw [w1]
              simp only [Option.bind_some, xb_d]
              by_cases c2 : a ≤ s_od n q w y mo g wi s r wr cs fr te as ho nu t k ∧ s_od n q w y mo g wi s r wr cs fr te as ho nu t k ≤ b
              · rw [if_neg (not_not_intro c2), if_pos ⟨c1', c2⟩, nI_1]
              · rw [if_pos c2, if_neg (fun q => c2 q.2), nI_1]
          · try dsimp only
            unfold mX10_means_s51 mX10_means_b96 mX10_means_b100 mX10_means_b101
            rw [if_neg (nI_ge hk' (by omega)), o2]
            simp only [Option.bind_some]
            rw [w2]
            simp only [Option.bind_some, xb_d]
            by_cases c2 : a ≤ s_od n q w y mo g wi s r wr cs fr te as ho nu t k ∧ s_od n q w y mo g wi s r wr cs fr te as ho nu t k ≤ b
            · rw [if_neg (not_not_intro c2)]
              by_cases c3 : nI u = 0
              · rw [if_pos c3, if_pos ⟨.inl c3, c2⟩, nI_1]
              · rw [if_neg c3, x_ny xk, ck]
                by_cases c4 : r k = 1
                · rw [if_pos c4, if_pos ⟨.inr c4, c2⟩, nI_1]
                · rw [if_neg c4, if_neg (fun q => q.1.elim c3 c4), nI_1, Int32.add_zero]
            · rw [if_pos c2, if_neg (fun q => c2 q.2), nI_1, Int32.add_zero]) n (0, 0) (0, 0) ⟨0, 0, by omega, rfl, rfl, rfl⟩
        unfold mX7_countSaid mX7_countSaid_b6 mX10_means_b51
        rw [r1, r2, r3]
        exact ⟨_, rfl, rfl⟩
      · rw [if_pos h3, if_pos h3]
        exact ⟨_, rfl, rfl⟩
    · have e2 : (if ¬ (0 ≤ a ∧ a ≤ 1000) then (some (-2 : Int32)) else if ¬ (a ≤ b ∧ b ≤ 1000) then some (-2) else if ¬ (0 ≤ v ∧ v ≤ 1) then some (-2) else mX10_means_b51 (nI n) (nI q) (nI w) y mo g wi s r wr cs fr te as ho nu p a b v 0 0) = some (-2) := by
        by_cases c1 : 0 ≤ a ∧ a ≤ 1000
        · have c2 : ¬ (a ≤ b ∧ b ≤ 1000) := fun q => h2 ⟨c1, q⟩
          rw [if_neg (not_not_intro c1), if_pos c2]
        · rw [if_pos c1]
      refine ⟨-2, ?_, e2⟩
      by_cases i1 : a < 0
      · rw [if_pos i1]
      rw [if_neg i1]
      by_cases i2 : b < a
      · rw [if_pos i2]
      rw [if_neg i2]
      by_cases i3 : (1000 : Int32) < b
      · rw [if_pos i3]
      exfalso
      apply h2
      rw [i_lt] at i1 i2 i3
      rw [i_le, i_le, i_le, i_le]
      omega
  · rw [if_pos h1, if_pos h1]
    exact ⟨_, rfl, rfl⟩
theorem m_believed {n q w : Nat} {y mo f g wi s r wr ki : Nat → Int32} {z0 : Int32} {g0 : Nat → Int32} {z1 : Int32} {g1 : Nat → Int32} {z2 : Int32} {g2 : Nat → Int32} {z3 : Int32} {g3 : Nat → Int32} {cs fr te as ho nu : Nat → Int32} (h : s_rel n q w y mo f g wi s r wr ki z0 g0 z1 g1 z2 g2 z3 g3 cs fr te as ho nu) (p a b : Int32) : ∃ o, mX9_believed (nI q) (nI w) (nI n) y mo f wi s r wr ki z0 g0 z1 g1 z2 g2 z3 g3 p a b = some o ∧ mX10_believed (nI n) (nI q) (nI w) y mo g wi s r wr cs fr te as ho nu p a b = some o := by
  have hn := h.1
  have hb := h.2.2.2.1
  unfold mX9_believed mX10_believed
  rw [(m_isTeller p).1, (m_isTeller p).2, show mX10_in a.toInt64 0 999 = some (decide (0 ≤ a ∧ a ≤ 999)) from m_in a 0 999, show mX10_in b.toInt64 0 999 = some (decide (0 ≤ b ∧ b ≤ 999)) from m_in b 0 999, m_within a 0 999, m_within b 0 999]
  simp only [Option.bind_some, xb_d]
  by_cases h1 : 0 ≤ p ∧ p ≤ 8
  · rw [if_neg (not_not_intro h1), if_neg (not_not_intro h1)]
    by_cases h2 : 0 ≤ a ∧ a ≤ 999
    · rw [if_neg (not_not_intro h2), if_neg (not_not_intro h2)]
      by_cases h3 : 0 ≤ b ∧ b ≤ 999
      · rw [if_neg (not_not_intro h3), if_neg (not_not_intro h3)]
        obtain ⟨t, ht, rfl⟩ := n_rng (m := 8) (by omega) h1
        obtain ⟨c, d, r1, r2, r3⟩ := x_pair (s1 := fun z : Int32 × Int32 => mX7_wash_s6 (nI q) (nI w) (nI n) y mo f wi s r wr ki z0 g0 z1 g1 z2 g2 z3 g3 (nI t) a b z.1 z.2) (s2 := fun z : Int32 × Int32 => mX10_believed_s45 (nI n) (nI q) (nI w) y mo g wi s r wr cs fr te as ho nu (nI t) a b z.1 z.2) (fun m x z => ∃ k e, k ≤ n ∧ m = n - k ∧ x = (e, nI k) ∧ z = (e, nI k)) (fun c d => c = d) (by
          rintro m x z ⟨k, e, hk, rfl, rfl, rfl⟩
          by_cases hkn : k = n
          · subst hkn
            refine .inl ⟨e, e, ?_, ?_, rfl⟩
            · try dsimp only
              unfold mX7_wash_s6
              rw [if_pos (nI_le (Nat.le_refl k) (by omega))]
            · try dsimp only
              unfold mX10_believed_s45
              rw [if_pos (nI_le (Nat.le_refl k) (by omega))]
          have hk' : k < n := by omega
          obtain ⟨o1, o2, o3⟩ := m_oddsOf h ht hk'
          obtain ⟨ra1, ra2⟩ := m_rain hb (d := k) (by omega)
          have ge := s_or_ge (by omega) o3
          have xk : x_in (nI k) 60 := n_xin (by omega) (by omega)
          have ck : (nI k).toNatClampNeg = k := nI_clamp (by omega)
          refine .inr ⟨n - (k + 1), ((if s_od n q w y mo g wi s r wr cs fr te as ho nu t k = -6 then e else if a * (1000 - s_od n q w y mo g wi s r wr cs fr te as ho nu t k) ≤ b * s_od n q w y mo g wi s r wr cs fr te as ho nu t k then e else if r k = 1 then e + (-b) else e + a), nI (k + 1)), ((if s_od n q w y mo g wi s r wr cs fr te as ho nu t k = -6 then e else if a * (1000 - s_od n q w y mo g wi s r wr cs fr te as ho nu t k) ≤ b * s_od n q w y mo g wi s r wr cs fr te as ho nu t k then e else if r k = 1 then e + (-b) else e + a), nI (k + 1)), by omega, ?_, ?_, k + 1, _, by omega, rfl, rfl, rfl⟩
          · try dsimp only
            unfold mX7_wash_s6 mX7_wash_b70 mX7_wash_b73
            rw [if_neg (nI_ge hk' (by omega)), o1]
            simp only [Option.bind_some]
            by_cases c1 : s_od n q w y mo g wi s r wr cs fr te as ho nu t k = -6
            · rw [if_pos c1, if_pos c1, nI_1]
            rw [if_neg c1, if_neg c1]
            by_cases c2 : a * (1000 - s_od n q w y mo g wi s r wr cs fr te as ho nu t k) ≤ b * s_od n q w y mo g wi s r wr cs fr te as ho nu t k
            · rw [if_pos c2, if_pos c2, nI_1]
            rw [if_neg c2, if_neg c2, ra1]
            simp only [Option.bind_some]
            by_cases c3 : r k = 1
            · rw [if_pos c3, if_pos c3, nI_1]
            · rw [if_neg c3, if_neg c3, nI_1]
          · try dsimp only
            unfold mX10_believed_s45 mX10_believed_b102 mX10_believed_b105
            rw [if_neg (nI_ge hk' (by omega)), o2]
            simp only [Option.bind_some]
            by_cases c1 : s_od n q w y mo g wi s r wr cs fr te as ho nu t k = -6
            · rw [if_pos (ge.1.mpr c1), if_pos c1, nI_1]
            rw [if_neg (fun q => c1 (ge.1.mp q)), if_neg c1]
            by_cases c2 : a * (1000 - s_od n q w y mo g wi s r wr cs fr te as ho nu t k) ≤ b * s_od n q w y mo g wi s r wr cs fr te as ho nu t k
            · rw [if_pos c2, if_pos c2, nI_1]
            rw [if_neg c2, if_neg c2, x_ny xk, ck]
            by_cases c3 : r k = 1
            · rw [if_pos c3, if_pos c3, nI_1]
            · rw [if_neg c3, if_neg c3, nI_1]) n (0, 0) (0, 0) ⟨0, 0, by omega, rfl, rfl, rfl⟩
        unfold mX7_wash mX7_wash_b6 mX10_believed_b45
        rw [r1, r2, r3]
        exact ⟨_, rfl, rfl⟩
      · rw [if_pos h3, if_pos h3]
        exact ⟨_, rfl, rfl⟩
    · rw [if_pos h2, if_pos h2]
      exact ⟨_, rfl, rfl⟩
  · rw [if_pos h1, if_pos h1]
    exact ⟨_, rfl, rfl⟩
/-- the off of a day, squared -/
def s_off (o r : Int32) : Nat := (o.toInt - 1000 * r.toInt).natAbs * (o.toInt - 1000 * r.toInt).natAbs
theorem s_off_le {o r : Int32} (ho : s_or 1000 o) (h6 : ¬ o = -6) (hr : r = 0 ∨ r = 1) : s_off o r ≤ 1000000 ∧ (o - 1000 * r) * (o - 1000 * r) = nI (s_off o r) ∧ (o.toInt64 - 1000 * r.toInt64) * (o.toInt64 - 1000 * r.toInt64) = lN (s_off o r) := by
  obtain ⟨a, ha, rfl⟩ := ho.resolve_left h6
  have ea : (nI a).toInt = a := nI_toInt (by omega)
  rcases hr with rfl | rfl
  · have e : s_off (nI a) 0 = a * a := by
      unfold s_off
      rw [ea, Int32.toInt_zero, Int.mul_zero, Int.sub_zero]
      rfl
    rw [e]
    refine ⟨Nat.mul_le_mul ha ha, ?_, ?_⟩
    · rw [Int32.mul_zero, Int32.sub_zero, pk_mul]
    · rw [show (0 : Int32).toInt64 = 0 by decide, Int64.mul_zero, Int64.sub_zero, nI_l (by omega), lN_mul]
  · have e : s_off (nI a) 1 = (1000 - a) * (1000 - a) := by
      unfold s_off
      rw [ea, show (1 : Int32).toInt = 1 by decide]
      have : ((a : Int) - 1000 * 1).natAbs = 1000 - a := by omega
      rw [this]
    rw [e]
    have lm := Nat.mul_le_mul (show 1000 - a ≤ 1000 by omega) (show 1000 - a ≤ 1000 by omega)
    refine ⟨by omega, ?_, ?_⟩
    · have e1 : nI a - 1000 * 1 = -(nI (1000 - a)) := by
        have h1 : (1000 : Int32) * 1 = nI 1000 := by decide
        rw [h1, ← pk_sub ha, Int32.neg_sub]
      rw [e1, Int32.neg_mul_neg, pk_mul]
    · have e1 : (nI a).toInt64 - 1000 * (1 : Int32).toInt64 = -(lN (1000 - a)) := by
        have h1 : (1000 : Int64) * (1 : Int32).toInt64 = lN 1000 := by decide
        rw [h1, nI_l (by omega), ← lN_sub ha, Int64.neg_sub]
      rw [e1, Int64.neg_mul_neg, lN_mul]
/-- the squares of the first n days of a row of odds, and how many days -/
def s_sq (o r : Nat → Int32) : Nat → Nat | 0 => 0 | n + 1 => s_sq o r n + (if o n = -6 then 0 else s_off (o n) (r n))
def s_dn (o : Nat → Int32) : Nat → Nat | 0 => 0 | n + 1 => s_dn o n + (if o n = -6 then 0 else 1)
theorem s_dn_le (o : Nat → Int32) : ∀ n, s_dn o n ≤ n
  | 0 => Nat.le_refl 0
  | n + 1 => by
    have := s_dn_le o n
    show s_dn o n + (if o n = -6 then 0 else 1) ≤ n + 1
    split <;> omega
theorem s_sq_le (o r : Nat → Int32) (N : Nat) (ho : ∀ j, j < N → s_or 1000 (o j)) (hr : ∀ j, j < N → (r j = 0 ∨ r j = 1)) : ∀ n, n ≤ N → s_sq o r n ≤ 1000000 * n
  | 0, _ => Nat.le_refl 0
  | n + 1, h => by
    have := s_sq_le o r N ho hr n (by omega)
    show s_sq o r n + (if o n = -6 then 0 else s_off (o n) (r n)) ≤ 1000000 * (n + 1)
    by_cases c : o n = -6
    · rw [if_pos c]; omega
    · rw [if_neg c]
      have := (s_off_le (ho n (by omega)) c (hr n (by omega))).1
      omega
/-- adding one day to the scores of candidate i -/
theorem m_add6 {N : Nat} (hN : N < 2147483648) (sq dy : Nat → Int32) {i : Nat} (hi : i < N) {o r : Int32} (ho : s_or 1000 o) (hr : r = 0 ∨ r = 1) {A B : Nat} (hA : sq i = nI A) (hB : dy i = nI B) : mX6_add N sq dy (nI i) o r = some (if o = -6 then sq else upd sq i (nI (A + s_off o r)), if o = -6 then dy else upd dy i (nI (B + 1))) := by
  unfold mX6_add
  by_cases c : o = -6
  · rw [if_pos c, if_pos c, if_pos c]
  · rw [if_neg c, if_neg c, if_neg c, n_at hN sq hi]
    simp only [Option.bind_some]
    rw [n_put hN sq hi, n_at hN dy hi]
    simp only [Option.bind_some]
    rw [n_put hN dy hi, (s_off_le ho c hr).2.1, hA, hB, nI_add, nI_1]
    rfl
theorem m_erase6 {N : Nat} (hN : N < 2147483647) (sq dy : Nat → Int32) : ∃ sq' dy', mX6_erase N sq dy = some (sq', dy') ∧ ∀ j, j < N → sq' j = 0 ∧ dy' j = 0 := by
  unfold mX6_erase mX6_erase_b2
  obtain ⟨c, r1, r2⟩ := x_run (s := fun q : Int32 × (Nat → Int32) × (Nat → Int32) => mX6_erase_s2 N q.1 q.2.1 q.2.2) (fun m q => ∃ k s' d', k ≤ N ∧ m = N - k ∧ q = (nI k, s', d') ∧ ∀ j, j < k → s' j = 0 ∧ d' j = 0) (fun c => ∀ j, j < N → c.1 j = 0 ∧ c.2 j = 0) (by
    rintro m q ⟨k, s', d', hk, rfl, rfl, hz⟩
    by_cases hkn : k = N
    · subst hkn
      refine .inl ⟨(s', d'), ?_, hz⟩
      try dsimp only
      unfold mX6_erase_s2
      rw [if_pos (show Int32.ofNat k ≤ nI k from nI_le (Nat.le_refl k) (by omega))]
    · refine .inr ⟨N - (k + 1), (nI (k + 1), upd s' k 0, upd d' k 0), by omega, ?_, k + 1, _, _, by omega, rfl, rfl, ?_⟩
      · try dsimp only
        unfold mX6_erase_s2
        rw [if_neg (show ¬ Int32.ofNat N ≤ nI k from nI_ge (by omega) (by omega)), n_put (by omega) s' (by omega), n_put (by omega) d' (by omega)]
        simp only [Option.bind_some]
        rw [nI_1]
      · intro j hj
        by_cases e : j = k
        · subst e
          exact ⟨pk_us, pk_us⟩
        · rw [pk_un e, pk_un e]
          exact hz j (by omega)) N (0, sq, dy) ⟨0, sq, dy, by omega, rfl, rfl, fun j hj => absurd hj (Nat.not_lt_zero j)⟩
  exact ⟨c.1, c.2, r1, r2⟩
theorem m_scoreTeller {n q w : Nat} {y mo f g wi s r wr ki : Nat → Int32} {z0 : Int32} {g0 : Nat → Int32} {z1 : Int32} {g1 : Nat → Int32} {z2 : Int32} {g2 : Nat → Int32} {z3 : Int32} {g3 : Nat → Int32} {cs fr te as ho nu : Nat → Int32} (h : s_rel n q w y mo f g wi s r wr ki z0 g0 z1 g1 z2 g2 z3 g3 cs fr te as ho nu) {t : Nat} (ht : t ≤ 8) (sq dy : Nat → Int32) : ∃ sq' dy', mX7_scoreTeller (nI q) (nI w) (nI n) y mo f wi s r wr ki z0 g0 z1 g1 z2 g2 z3 g3 1 sq dy (nI t) = some (sq', dy') ∧ sq' 0 = nI (s_sq (s_od n q w y mo g wi s r wr cs fr te as ho nu t) r n) ∧ dy' 0 = nI (s_dn (s_od n q w y mo g wi s r wr cs fr te as ho nu t) n) := by
  have hn := h.1
  have hb := h.2.2.2.1
  obtain ⟨s0, d0, e0, ez⟩ := m_erase6 (N := 1) (by omega) sq dy
  unfold mX7_scoreTeller
  rw [e0]
  simp only [Option.bind_some]
  unfold mX7_scoreTeller_b6
  obtain ⟨c, r1, r2⟩ := x_run (s := fun z : Int32 × (Nat → Int32) × (Nat → Int32) => mX7_scoreTeller_s6 (nI q) (nI w) (nI n) y mo f wi s r wr ki z0 g0 z1 g1 z2 g2 z3 g3 1 (nI t) z.1 z.2.1 z.2.2) (fun m x => ∃ k s' d', k ≤ n ∧ m = n - k ∧ x = (nI k, s', d') ∧ s' 0 = nI (s_sq (s_od n q w y mo g wi s r wr cs fr te as ho nu t) r k) ∧ d' 0 = nI (s_dn (s_od n q w y mo g wi s r wr cs fr te as ho nu t) k)) (fun c => c.1 0 = nI (s_sq (s_od n q w y mo g wi s r wr cs fr te as ho nu t) r n) ∧ c.2 0 = nI (s_dn (s_od n q w y mo g wi s r wr cs fr te as ho nu t) n)) (by
    rintro m x ⟨k, s', d', hk, rfl, rfl, q1, q2⟩
    by_cases hkn : k = n
    · subst hkn
      refine .inl ⟨(s', d'), ?_, q1, q2⟩
      try dsimp only
      unfold mX7_scoreTeller_s6
      rw [if_pos (nI_le (Nat.le_refl k) (by omega))]
    have hk' : k < n := by omega
    obtain ⟨o1, o2, o3⟩ := m_oddsOf h ht hk'
    obtain ⟨ra1, ra2⟩ := m_rain hb (d := k) (by omega)
    refine .inr ⟨n - (k + 1), (nI (k + 1), if s_od n q w y mo g wi s r wr cs fr te as ho nu t k = -6 then s' else upd s' 0 (nI (s_sq (s_od n q w y mo g wi s r wr cs fr te as ho nu t) r k + s_off (s_od n q w y mo g wi s r wr cs fr te as ho nu t k) (r k))), if s_od n q w y mo g wi s r wr cs fr te as ho nu t k = -6 then d' else upd d' 0 (nI (s_dn (s_od n q w y mo g wi s r wr cs fr te as ho nu t) k + 1))), by omega, ?_, k + 1, _, _, by omega, rfl, rfl, ?_, ?_⟩
    · try dsimp only
      unfold mX7_scoreTeller_s6
      rw [if_neg (nI_ge hk' (by omega)), o1]
      simp only [Option.bind_some]
      rw [ra1]
      simp only [Option.bind_some]
      rw [show (0 : Int32) = nI 0 from rfl, m_add6 (by omega) s' d' (by omega) o3 ra2 q1 q2]
      simp only [Option.bind_some]
      rw [nI_1]
    · show _ = nI (s_sq (s_od n q w y mo g wi s r wr cs fr te as ho nu t) r k + (if s_od n q w y mo g wi s r wr cs fr te as ho nu t k = -6 then 0 else s_off (s_od n q w y mo g wi s r wr cs fr te as ho nu t k) (r k)))
      by_cases c1 : s_od n q w y mo g wi s r wr cs fr te as ho nu t k = -6
      · rw [if_pos c1, if_pos c1]; exact q1
      · rw [if_neg c1, if_neg c1]; exact pk_us
    · show _ = nI (s_dn (s_od n q w y mo g wi s r wr cs fr te as ho nu t) k + (if s_od n q w y mo g wi s r wr cs fr te as ho nu t k = -6 then 0 else 1))
      by_cases c1 : s_od n q w y mo g wi s r wr cs fr te as ho nu t k = -6
      · rw [if_pos c1, if_pos c1]; exact q2
      · rw [if_neg c1, if_neg c1]; exact pk_us) n (0, s0, d0) ⟨0, s0, d0, by omega, rfl, rfl, (ez 0 (by omega)).1, (ez 0 (by omega)).2⟩
  exact ⟨c.1, c.2, r1, r2.1, r2.2⟩
theorem m_findScore {n q w : Nat} {y mo f g wi s r wr ki : Nat → Int32} {z0 : Int32} {g0 : Nat → Int32} {z1 : Int32} {g1 : Nat → Int32} {z2 : Int32} {g2 : Nat → Int32} {z3 : Int32} {g3 : Nat → Int32} {cs fr te as ho nu : Nat → Int32} (h : s_rel n q w y mo f g wi s r wr ki z0 g0 z1 g1 z2 g2 z3 g3 cs fr te as ho nu) {t : Nat} (ht : t ≤ 8) (A B : Int64) : mX10_findScore (nI n) (nI q) (nI w) A B y mo g wi s r wr cs fr te as ho nu (nI t) = some (lN (s_sq (s_od n q w y mo g wi s r wr cs fr te as ho nu t) r n), lN (s_dn (s_od n q w y mo g wi s r wr cs fr te as ho nu t) n)) := by
  have hn := h.1
  have hb := h.2.2.2.1
  unfold mX10_findScore mX10_findScore_b12
  obtain ⟨c, r1, r2⟩ := x_run (s := fun z : Int32 × Int64 × Int64 => mX10_findScore_s12 (nI n) (nI q) (nI w) y mo g wi s r wr cs fr te as ho nu (nI t) z.1 z.2.1 z.2.2) (fun m x => ∃ k, k ≤ n ∧ m = n - k ∧ x = (nI k, lN (s_sq (s_od n q w y mo g wi s r wr cs fr te as ho nu t) r k), lN (s_dn (s_od n q w y mo g wi s r wr cs fr te as ho nu t) k))) (fun c => c = (lN (s_sq (s_od n q w y mo g wi s r wr cs fr te as ho nu t) r n), lN (s_dn (s_od n q w y mo g wi s r wr cs fr te as ho nu t) n))) (by
    rintro m x ⟨k, hk, rfl, rfl⟩
    by_cases hkn : k = n
    · subst hkn
      refine .inl ⟨_, ?_, rfl⟩
      try dsimp only
      unfold mX10_findScore_s12
      rw [if_pos (nI_le (Nat.le_refl k) (by omega))]
    have hk' : k < n := by omega
    obtain ⟨o1, o2, o3⟩ := m_oddsOf h ht hk'
    obtain ⟨ra1, ra2⟩ := m_rain hb (d := k) (by omega)
    have ge := s_or_ge (by omega) o3
    have xk : x_in (nI k) 60 := n_xin (by omega) (by omega)
    have ck : (nI k).toNatClampNeg = k := nI_clamp (by omega)
    refine .inr ⟨n - (k + 1), _, by omega, ?_, k + 1, by omega, rfl, rfl⟩
    show _ = some (Sum.inr (nI (k + 1), lN (s_sq (s_od n q w y mo g wi s r wr cs fr te as ho nu t) r k + (if s_od n q w y mo g wi s r wr cs fr te as ho nu t k = -6 then 0 else s_off (s_od n q w y mo g wi s r wr cs fr te as ho nu t k) (r k))), lN (s_dn (s_od n q w y mo g wi s r wr cs fr te as ho nu t) k + (if s_od n q w y mo g wi s r wr cs fr te as ho nu t k = -6 then 0 else 1))))
    try dsimp only
    unfold mX10_findScore_s12 mX10_findScore_b71
    rw [if_neg (nI_ge hk' (by omega)), o2]
    simp only [Option.bind_some]
    by_cases c1 : s_od n q w y mo g wi s r wr cs fr te as ho nu t k = -6
    · rw [if_pos (ge.1.mpr c1), if_pos c1, if_pos c1, nI_1]
      rfl
    · rw [if_neg (fun z => c1 (ge.1.mp z)), x_ny xk, ck, if_neg c1, if_neg c1, (s_off_le o3 c1 ra2).2.2, lN_add, lN_1, nI_1]) n (0, 0, 0) ⟨0, by omega, rfl, rfl⟩
  rw [← r2]
  exact r1
theorem m_score {n q w : Nat} {y mo f g wi s r wr ki : Nat → Int32} {z0 : Int32} {g0 : Nat → Int32} {z1 : Int32} {g1 : Nat → Int32} {z2 : Int32} {g2 : Nat → Int32} {z3 : Int32} {g3 : Nat → Int32} {cs fr te as ho nu : Nat → Int32} (h : s_rel n q w y mo f g wi s r wr ki z0 g0 z1 g1 z2 g2 z3 g3 cs fr te as ho nu) (sq dy : Nat → Int32) (A B : Int64) (p v : Int32) : ∃ o sq' dy' A' B', mX9_score (nI q) (nI w) (nI n) y mo f wi s r wr ki z0 g0 z1 g1 z2 g2 z3 g3 1 sq dy p v = some (o, sq', dy') ∧ mX10_score (nI n) (nI q) (nI w) A B y mo g wi s r wr cs fr te as ho nu p v = some (o, A', B') := by
  have hn := h.1
  have hb := h.2.2.2.1
  unfold mX9_score mX10_score
  rw [(m_isTeller p).1, (m_isTeller p).2, m_isEnd, m_within v 0 1]
  simp only [Option.bind_some, xb_d]
  by_cases h1 : 0 ≤ p ∧ p ≤ 8
  · rw [if_neg (not_not_intro h1), if_neg (not_not_intro h1)]
    by_cases h2 : 0 ≤ v ∧ v ≤ 1
    · rw [if_neg (not_not_intro h2), if_neg (not_not_intro h2)]
      obtain ⟨t, ht, rfl⟩ := n_rng (m := 8) (by omega) h1
      obtain ⟨sq', dy', e1, e2, e3⟩ := m_scoreTeller h ht sq dy
      have e4 := m_findScore h ht A B
      have dl := s_dn_le (s_od n q w y mo g wi s r wr cs fr te as ho nu t) n
      have sl := s_sq_le (s_od n q w y mo g wi s r wr cs fr te as ho nu t) r n (fun j hj => (m_oddsOf h ht hj).2.2) (fun j hj => (m_rain hb (d := j) (by omega)).2) n (Nat.le_refl n)
      rw [e1, e4]
      simp only [Option.bind_some]
      unfold mX6_daysOf mX6_squaresOf
      have ad : mX9_at 1 dy' 0 = some (dy' 0) := n_at (i := 0) (by omega) dy' (by omega)
      have as_ : mX9_at 1 sq' 0 = some (sq' 0) := n_at (i := 0) (by omega) sq' (by omega)
      rw [ad, as_]
      simp only [Option.bind_some]
      rw [e2, e3]
      have z0 : (lg_cmp (lN (s_dn (s_od n q w y mo g wi s r wr cs fr te as ho nu t) n)) 0 = 0) ↔ s_dn (s_od n q w y mo g wi s r wr cs fr te as ho nu t) n = 0 := (lg_cmp_eq _ _).trans (lN_eq (b := 0) (by omega) (by omega))
      have z1 : (nI (s_dn (s_od n q w y mo g wi s r wr cs fr te as ho nu t) n) ≤ 0) ↔ s_dn (s_od n q w y mo g wi s r wr cs fr te as ho nu t) n = 0 := (n_leI (b := 0) (by omega) (by omega)).trans (by omega)
      by_cases c1 : s_dn (s_od n q w y mo g wi s r wr cs fr te as ho nu t) n = 0
      · rw [if_pos (z1.mpr c1), if_pos (z0.mpr c1)]
        exact ⟨_, _, _, _, _, rfl, rfl⟩
      · rw [if_neg (fun z => c1 (z1.mp z)), if_neg (fun z => c1 (z0.mp z)), nI_l (by omega), nI_l (by omega)]
        obtain ⟨o, f1, f2⟩ := m_frac (lN (s_sq (s_od n q w y mo g wi s r wr cs fr te as ho nu t) r n)) (lN (s_dn (s_od n q w y mo g wi s r wr cs fr te as ho nu t) n)) (fun z => c1 ((lN_eq (b := 0) (by omega) (by omega)).mp z)) v
        rw [f1, f2]
        exact ⟨_, _, _, _, _, rfl, rfl⟩
    · rw [if_pos h2, if_pos h2]
      exact ⟨_, _, _, _, _, rfl, rfl⟩
  · rw [if_pos h1, if_pos h1]
    exact ⟨_, _, _, _, _, rfl, rfl⟩
/-- a saying's lot: all, taken, both, marked, on both sides -/
theorem m_lotOf {n q w : Nat} {y mo f g wi s r wr ki : Nat → Int32} {z0 : Int32} {g0 : Nat → Int32} {z1 : Int32} {g1 : Nat → Int32} {z2 : Int32} {g2 : Nat → Int32} {z3 : Int32} {g3 : Nat → Int32} {cs fr te as ho nu : Nat → Int32} (h : s_rel n q w y mo f g wi s r wr ki z0 g0 z1 g1 z2 g2 z3 g3 cs fr te as ho nu) {k : Nat} (hk : k < 4) (a1 a2 a3 a4 : Int32) : ∃ all taken both marked, mX7_lotOfSaying (nI q) (nI w) (nI n) y mo f wi s r wr ki z0 g0 z1 g1 z2 g2 z3 g3 (nI k) = some (nI all, nI taken, nI both, nI marked) ∧ mX10_findTried (nI n) a1 a2 a3 a4 y mo g wi s r cs fr te as ho nu (nI k) = some (nI all, nI marked, nI taken, nI both) ∧ all ≤ 60 ∧ marked ≤ all ∧ taken ≤ all ∧ both ≤ taken ∧ both ≤ marked := by
  have hn := h.1
  have hb := h.2.2.2.1
  unfold mX7_lotOfSaying mX7_lotOfSaying_b10 mX10_findTried mX10_findTried_b22
  obtain ⟨c, d, r1, r2, all, taken, both, marked, rfl, rfl, q1, q2, q3, q4, q5⟩ := x_pair (s1 := fun z : Int32 × Int32 × Int32 × Int32 × Int32 => mX7_lotOfSaying_s10 (nI q) (nI w) (nI n) y mo f wi s r wr ki z0 g0 z1 g1 z2 g2 z3 g3 (nI k) z.1 z.2.1 z.2.2.1 z.2.2.2.1 z.2.2.2.2) (s2 := fun z : Int32 × Int32 × Int32 × Int32 × Int32 => mX10_findTried_s22 (nI n) y mo g wi s r cs fr te as ho nu (nI k) z.1 z.2.1 z.2.2.1 z.2.2.2.1 z.2.2.2.2) (fun m x z => ∃ d all taken both marked, d ≤ n ∧ m = n - d ∧ x = (nI d, nI all, nI taken, nI both, nI marked) ∧ z = (nI d, nI all, nI marked, nI taken, nI both) ∧ all ≤ d ∧ marked ≤ all ∧ taken ≤ all ∧ both ≤ taken ∧ both ≤ marked) (fun c e => ∃ all taken both marked, c = (nI all, nI taken, nI both, nI marked) ∧ e = (nI all, nI marked, nI taken, nI both) ∧ all ≤ 60 ∧ marked ≤ all ∧ taken ≤ all ∧ both ≤ taken ∧ both ≤ marked) (by
    rintro m x z ⟨d, all, taken, both, marked, hd, rfl, rfl, rfl, p1, p2, p3, p4, p5⟩
    by_cases hdn : d = n
    · subst hdn
      refine .inl ⟨(nI all, nI taken, nI both, nI marked), (nI all, nI marked, nI taken, nI both), ?_, ?_, all, taken, both, marked, rfl, rfl, by omega, p2, p3, p4, p5⟩
      · try dsimp only
        unfold mX7_lotOfSaying_s10
        rw [if_pos (nI_le (Nat.le_refl d) (by omega))]
      · try dsimp only
        unfold mX10_findTried_s22
        rw [if_pos (nI_le (Nat.le_refl d) (by omega))]
    have hd' : d < n := by omega
    obtain ⟨o1, o2, o3⟩ := m_oddsOf h (t := 2 + k) (by omega) hd'
    have os : mX10_saidOf y mo g wi s r cs fr te as ho nu (nI k) (nI d) = some (s_od n q w y mo g wi s r wr cs fr te as ho nu (2 + k) d) := by
      have o2' := o2
      unfold mX10_oddsOf at o2'
      rw [if_neg (show ¬ nI (2 + k) = 0 from nI_ne0 (by omega) (by omega)), if_neg (fun z => by have := (n_eqI (a := 2 + k) (b := 1) (by omega) (by omega)).mp z; omega), if_neg (show ¬ (6 : Int32) ≤ nI (2 + k) from nI_ge (b := 6) (by omega) (by omega)), show nI (2 + k) - 2 = nI k from by have := pk_sub (a := 2 + k) (b := 2) (by omega); rw [show 2 + k - 2 = k by omega] at this; exact this] at o2'
      obtain ⟨v, v1, v2⟩ := x_bind o2'
      cases v2
      exact v1
    obtain ⟨ra1, ra2⟩ := m_rain hb (d := d) (by omega)
    obtain ⟨-, -, -, -, ⟨ra, rb1, rb2⟩⟩ := hb.2 d (by omega)
    have ge := s_or_ge (by omega) o3
    have xk : x_in (nI d) 60 := n_xin (by omega) (by omega)
    have ck : (nI d).toNatClampNeg = d := nI_clamp (by omega)
    have e2k : (2 : Int32) + nI k = nI (2 + k) := nI_add 2 k
    have n10 : ¬ (1 : Int32) = 0 := by decide
    by_cases c1 : s_od n q w y mo g wi s r wr cs fr te as ho nu (2 + k) d = -6
    · refine .inr ⟨n - (d + 1), (nI (d + 1), nI all, nI taken, nI both, nI marked), (nI (d + 1), nI all, nI marked, nI taken, nI both), by omega, ?_, ?_, d + 1, all, taken, both, marked, by omega, rfl, rfl, rfl, by omega, p2, p3, p4, p5⟩
      · try dsimp only
        unfold mX7_lotOfSaying_s10 mX7_lotOfSaying_b63
        rw [if_neg (nI_ge hd' (by omega)), e2k, o1]
        simp only [Option.bind_some]
        rw [if_pos c1, nI_1]
      · try dsimp only
        unfold mX10_findTried_s22 mX10_findTried_b113
        rw [if_neg (nI_ge hd' (by omega)), os]
        simp only [Option.bind_some]
        rw [if_pos (ge.1.mpr c1), nI_1]
    · by_cases c2 : s_od n q w y mo g wi s r wr cs fr te as ho nu (2 + k) d < 500
      · refine .inr ⟨n - (d + 1), (nI (d + 1), nI (all + 1), nI taken, nI both, nI (marked + ra)), (nI (d + 1), nI (all + 1), nI (marked + ra), nI taken, nI both), by omega, ?_, ?_, d + 1, all + 1, taken, both, marked + ra, by omega, rfl, rfl, rfl, by omega, by omega, by omega, p4, by omega⟩
        · try dsimp only
          unfold mX7_lotOfSaying_s10 mX7_lotOfSaying_b52 mX7_lotOfSaying_b63 mX5_add
          rw [if_neg (nI_ge hd' (by omega)), e2k, o1]
          simp only [Option.bind_some]
          rw [if_neg c1, if_pos c2, ra1]
          simp only [Option.bind_some]
          rw [if_pos trivial]
          simp only [Option.bind_some]
          rw [rb2, nI_add, nI_1, nI_1]
        · try dsimp only
          unfold mX10_findTried_s22 mX10_findTried_b83 mX10_findTried_b109 mX10_findTried_b113
          rw [if_neg (nI_ge hd' (by omega)), os]
          simp only [Option.bind_some]
          rw [if_neg (fun z => c1 (ge.1.mp z)), x_ny xk, if_pos c2, if_pos c2, ck, rb2, nI_add, nI_1, nI_1, Int32.add_zero, Int32.add_zero]
      · refine .inr ⟨n - (d + 1), (nI (d + 1), nI (all + 1), nI (taken + 1), nI (both + ra), nI (marked + ra)), (nI (d + 1), nI (all + 1), nI (marked + ra), nI (taken + 1), nI (both + ra)), by omega, ?_, ?_, d + 1, all + 1, taken + 1, both + ra, marked + ra, by omega, rfl, rfl, rfl, by omega, by omega, by omega, by omega, by omega⟩
        · try dsimp only
          unfold mX7_lotOfSaying_s10 mX7_lotOfSaying_b52 mX7_lotOfSaying_b63 mX5_add
          rw [if_neg (nI_ge hd' (by omega)), e2k, o1]
          simp only [Option.bind_some]
          rw [if_neg c1, if_neg c2, ra1]
          simp only [Option.bind_some]
          rw [if_neg n10]
          simp only [Option.bind_some]
          rw [rb2, nI_add, nI_add, nI_1, nI_1, nI_1]
        · try dsimp only
          unfold mX10_findTried_s22 mX10_findTried_b83 mX10_findTried_b109 mX10_findTried_b113
          rw [if_neg (nI_ge hd' (by omega)), os]
          simp only [Option.bind_some]
          rw [if_neg (fun z => c1 (ge.1.mp z)), x_ny xk, if_neg c2, if_neg c2, x_ny xk, ck, rb2, nI_add, nI_add, nI_1, nI_1, nI_1]) n (0, 0, 0, 0, 0) (0, 0, 0, 0, 0) ⟨0, 0, 0, 0, 0, by omega, rfl, rfl, rfl, by omega, by omega, by omega, by omega, by omega⟩
  exact ⟨all, taken, both, marked, r1, r2, q1, q2, q3, q4, q5⟩
/-- the number of a saying: 0 to 3, or another -/
theorem m_4 (p : Int32) : (∃ k, k < 4 ∧ p = nI k ∧ (0 ≤ p ∧ p ≤ 3)) ∨ (¬ p = 0 ∧ ¬ p = 1 ∧ ¬ p = 2 ∧ ¬ p = 3 ∧ ¬ (0 ≤ p ∧ p ≤ 3) ∧ mX7_sayingAtN p = some ()) := by
  by_cases h : 0 ≤ p ∧ p ≤ 3
  · obtain ⟨k, h1, h2⟩ := n_rng (m := 3) (by omega) h
    exact .inl ⟨k, by omega, h2, h⟩
  · refine .inr ⟨?_, ?_, ?_, ?_, h, ?_⟩
    · rintro rfl; exact h (by decide)
    · rintro rfl; exact h (by decide)
    · rintro rfl; exact h (by decide)
    · rintro rfl; exact h (by decide)
    · unfold mX7_sayingAtN
      by_cases c : p < 0
      · rw [if_pos c]
      · rw [if_neg c, if_pos ?_]
        rw [i_le, show (4 : Int32).toInt = 4 by decide]
        rw [i_lt, Int32.toInt_zero] at c
        rw [i_le, i_le, Int32.toInt_zero, show (3 : Int32).toInt = 3 by decide] at h
        omega
