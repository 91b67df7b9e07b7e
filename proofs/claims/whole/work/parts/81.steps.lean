/-! the state of both sides, and what each call makes of it -/
def s_st (n q w ca z : Nat) (mi ne st : Int32) (y mo f g wi sk r wr ki xs ys ps ws : Nat → Int32) (z0 : Int32) (g0 : Nat → Int32) (z1 : Int32) (g1 : Nat → Int32) (z2 : Int32) (g2 : Nat → Int32) (z3 : Int32) (g3 : Nat → Int32) (cs fr te as ho nu : Nat → Int32) : Prop := s_rel n q w y mo f g wi sk r wr ki z0 g0 z1 g1 z2 g2 z3 g3 cs fr te as ho nu ∧ ca ≤ 20 ∧ s_cht z xs ys ps ws ∧ (0 ≤ mi.toInt ∧ mi.toInt ≤ 99) ∧ (0 ≤ ne.toInt ∧ ne.toInt ≤ 99)
def s_pd (pz : Nat) (sg : Nat → Int32) : Prop := ∃ c, s_txt pz sg c
theorem t_hour {n q w ca z : Nat} {mi ne st : Int32} {y mo f g wi sk r wr ki xs ys ps ws : Nat → Int32} {z0 : Int32} {g0 : Nat → Int32} {z1 : Int32} {g1 : Nat → Int32} {z2 : Int32} {g2 : Nat → Int32} {z3 : Int32} {g3 : Nat → Int32} {cs fr te as ho nu : Nat → Int32} (h : s_st n q w ca z mi ne st y mo f g wi sk r wr ki xs ys ps ws z0 g0 z1 g1 z2 g2 z3 g3 cs fr te as ho nu) (p : Int32) : ∃ o mi' ne', mX9_hour mi ne st p = some (o, mi', ne') ∧ mX10_hour mi ne st p = some (o, mi', ne') ∧ s_st n q w ca z mi' ne' st y mo f g wi sk r wr ki xs ys ps ws z0 g0 z1 g1 z2 g2 z3 g3 cs fr te as ho nu := by
  obtain ⟨o, m, e, e1, e2, r1, r2⟩ := m_hour mi ne st p h.2.2.2.1 h.2.2.2.2
  exact ⟨o, m, e, e1, e2, h.1, h.2.1, h.2.2.1, r1, r2⟩
theorem t_tap {n q w ca z : Nat} {mi ne st : Int32} {y mo f g wi sk r wr ki xs ys ps ws : Nat → Int32} {z0 : Int32} {g0 : Nat → Int32} {z1 : Int32} {g1 : Nat → Int32} {z2 : Int32} {g2 : Nat → Int32} {z3 : Int32} {g3 : Nat → Int32} {cs fr te as ho nu : Nat → Int32} (h : s_st n q w ca z mi ne st y mo f g wi sk r wr ki xs ys ps ws z0 g0 z1 g1 z2 g2 z3 g3 cs fr te as ho nu) : mX9_tap mi ne = some (mi - ne, mi) ∧ mX10_tap mi ne = some (mi - ne, mi) ∧ s_st n q w ca z mi mi st y mo f g wi sk r wr ki xs ys ps ws z0 g0 z1 g1 z2 g2 z3 g3 cs fr te as ho nu := ⟨rfl, rfl, h.1, h.2.1, h.2.2.1, h.2.2.2.1, h.2.2.2.1⟩
theorem t_stick {n q w ca z : Nat} {mi ne st : Int32} {y mo f g wi sk r wr ki xs ys ps ws : Nat → Int32} {z0 : Int32} {g0 : Nat → Int32} {z1 : Int32} {g1 : Nat → Int32} {z2 : Int32} {g2 : Nat → Int32} {z3 : Int32} {g3 : Nat → Int32} {cs fr te as ho nu : Nat → Int32} (h : s_st n q w ca z mi ne st y mo f g wi sk r wr ki xs ys ps ws z0 g0 z1 g1 z2 g2 z3 g3 cs fr te as ho nu) (p : Int32) : ∃ o st', mX9_stick st p = some (o, st') ∧ mX10_stick st p = some (o, st') ∧ s_st n q w ca z mi ne st' y mo f g wi sk r wr ki xs ys ps ws z0 g0 z1 g1 z2 g2 z3 g3 cs fr te as ho nu := by
  rw [m_stick]
  unfold mX10_stick
  rw [m_in01 p 9 9 (by decide)]
  simp only [Option.bind_some, xb_d]
  by_cases c : 0 ≤ p ∧ p ≤ 9
  · rw [if_neg (not_not_intro c)]
    exact ⟨_, _, rfl, rfl, h⟩
  · rw [if_pos c]
    exact ⟨_, _, rfl, rfl, h⟩
theorem t_day {n q w ca z : Nat} {mi ne st : Int32} {y mo f g wi sk r wr ki xs ys ps ws : Nat → Int32} {z0 : Int32} {g0 : Nat → Int32} {z1 : Int32} {g1 : Nat → Int32} {z2 : Int32} {g2 : Nat → Int32} {z3 : Int32} {g3 : Nat → Int32} {cs fr te as ho nu : Nat → Int32} (h : s_st n q w ca z mi ne st y mo f g wi sk r wr ki xs ys ps ws z0 g0 z1 g1 z2 g2 z3 g3 cs fr te as ho nu) (p0 p1 p2 p3 p4 p5 : Int32) : ∃ o n' y' mo' f' g' wi' sk' r' wr' ki', mX9_day (nI n) y mo f wi sk r wr ki p0 p1 p2 p3 p4 p5 = some (o, nI n', y', mo', f', wi', sk', r', wr', ki') ∧ mX10_day (nI n) y mo g wi sk r wr p0 p1 p2 p3 p4 p5 = some (o, nI n', y', mo', g', wi', sk', r', wr') ∧ s_st n' q w ca z mi ne st y' mo' f' g' wi' sk' r' wr' ki' xs ys ps ws z0 g0 z1 g1 z2 g2 z3 g3 cs fr te as ho nu := by
  obtain ⟨⟨a1, a2, a3, a4, a5, a6, a7⟩, h2⟩ := h
  obtain ⟨o, n', y', mo', f', g', wi', s', r', wr', ki', e1, e2, b1, b2, b3, b4⟩ := m_day a1 a4 a5 a6 p0 p1 p2 p3 p4 p5
  exact ⟨o, n', y', mo', f', g', wi', s', r', wr', ki', e1, e2, ⟨b1, a2, a3, b2, b3, b4, a7⟩, h2⟩
theorem t_tear {n q w ca z : Nat} {mi ne st : Int32} {y mo f g wi sk r wr ki xs ys ps ws : Nat → Int32} {z0 : Int32} {g0 : Nat → Int32} {z1 : Int32} {g1 : Nat → Int32} {z2 : Int32} {g2 : Nat → Int32} {z3 : Int32} {g3 : Nat → Int32} {cs fr te as ho nu : Nat → Int32} (h : s_st n q w ca z mi ne st y mo f g wi sk r wr ki xs ys ps ws z0 g0 z1 g1 z2 g2 z3 g3 cs fr te as ho nu) : ∃ o n', mX9_tear (nI n) = some (o, nI n') ∧ mX10_tear (nI n) = some (o, nI n') ∧ s_st n' q w ca z mi ne st y mo f g wi sk r wr ki xs ys ps ws z0 g0 z1 g1 z2 g2 z3 g3 cs fr te as ho nu := by
  have hn := h.1.1
  rw [m_tear (nI n) (by rw [show (nI n).toInt = n from nI_toInt (by omega)]; omega)]
  unfold mX10_tear
  by_cases c : n = 0
  · subst c
    rw [if_pos (show nI 0 = 0 from rfl)]
    exact ⟨_, 0, rfl, rfl, h⟩
  · rw [if_neg (nI_ne0 (by omega) (by omega)), n_pred (by omega)]
    obtain ⟨⟨a1, a2, a3, a4, a5, a6, a7⟩, h2⟩ := h
    exact ⟨_, n - 1, rfl, rfl, ⟨by omega, a2, a3, a4, a5, fun j hj => a6 j (by omega), a7⟩, h2⟩
theorem t_look {n q w ca z : Nat} {mi ne st : Int32} {y mo f g wi sk r wr ki xs ys ps ws : Nat → Int32} {z0 : Int32} {g0 : Nat → Int32} {z1 : Int32} {g1 : Nat → Int32} {z2 : Int32} {g2 : Nat → Int32} {z3 : Int32} {g3 : Nat → Int32} {cs fr te as ho nu : Nat → Int32} (h : s_st n q w ca z mi ne st y mo f g wi sk r wr ki xs ys ps ws z0 g0 z1 g1 z2 g2 z3 g3 cs fr te as ho nu) (p v : Int32) : ∃ o, mX9_look (nI n) y mo f wi sk r p v = some o ∧ mX10_look (nI n) y mo g wi sk r p v = some o := by
  have hn := h.1.1
  have e : (nI n).toInt = n := nI_toInt (by omega)
  obtain ⟨e1, o, e2⟩ := m_look (nI n) y mo f g wi sk r p v h.1.2.2.2.1.1 (by omega) (by omega)
  exact ⟨o, e1.trans e2, e2⟩
theorem t_say {pz : Nat} {sg : Nat → Int32} (h : s_pd pz sg) (p : Int32) : ∃ o pz' sg', mX9_say (nI pz) sg p = some (o, nI pz', sg') ∧ mX10_say (nI pz) sg p = some (o, nI pz', sg') ∧ s_pd pz' sg' := by
  obtain ⟨c, h1, h2⟩ := h
  have e : (nI pz).toInt = pz := nI_toInt (by omega)
  rw [m_say (nI pz) sg p (by omega) (by omega)]
  unfold mX10_say
  rw [show mX10_in p.toInt64 33 126 = some (decide (33 ≤ p ∧ p ≤ 126)) from m_in p 33 126]
  simp only [Option.bind_some, xb_d]
  by_cases cc : 33 ≤ p ∧ p ≤ 126
  · rw [if_neg (not_not_intro cc)]
    have i50 : nI pz = 50 ↔ pz = 50 := n_eqI (b := 50) (by omega) (by omega)
    by_cases c5 : pz = 50
    · rw [if_pos (i50.mpr c5)]
      exact ⟨_, _, _, rfl, rfl, c, h1, h2⟩
    · have a := cc.1
      have b := cc.2
      rw [i_le, show (33 : Int32).toInt = 33 by decide] at a
      rw [i_le, show (126 : Int32).toInt = 126 by decide] at b
      obtain ⟨k, hk, rfl⟩ := n_of2 (v := p) (n := 126) (by omega) (by omega)
      rw [if_neg (fun z => c5 (i50.mp z)), x_ny (n_xin (by omega) (by omega)), nI_clamp (by omega), nI_1]
      refine ⟨_, _, _, rfl, rfl, fun j => if j = pz then k else c j, by omega, fun j hj => ?_⟩
      by_cases ej : j = pz
      · subst ej
        rw [pk_us]
        show nI k = nI (if j = j then k else c j) ∧ (if j = j then k else c j) < 127
        rw [if_pos rfl]
        exact ⟨rfl, by omega⟩
      · rw [pk_un ej]
        show sg j = nI (if j = pz then k else c j) ∧ (if j = pz then k else c j) < 127
        rw [if_neg ej]
        exact h2 j (by omega)
  · rw [if_pos cc]
    exact ⟨_, _, _, rfl, rfl, c, h1, h2⟩
theorem t_wipe {pz : Nat} {sg : Nat → Int32} : mX9_wipe (nI pz) = some (nI pz, nI 0) ∧ mX10_wipe (nI pz) = some (nI pz, nI 0) ∧ s_pd 0 sg := ⟨rfl, rfl, fun _ => 0, by omega, fun j hj => absurd hj (Nat.not_lt_zero j)⟩
theorem t_fault {pz : Nat} {sg : Nat → Int32} (h : s_pd pz sg) : ∃ o, mX9_fault (nI pz) sg = some o ∧ mX10_fault (nI pz) sg = some o := by
  obtain ⟨c, hc⟩ := h
  obtain ⟨o, e1, e2, -⟩ := m_fault pz sg c hc
  refine ⟨o, ?_, e2⟩
  unfold mX9_fault
  rw [e1]
  rfl
theorem t_saying {n q w ca z : Nat} {mi ne st : Int32} {y mo f g wi sk r wr ki xs ys ps ws : Nat → Int32} {z0 : Int32} {g0 : Nat → Int32} {z1 : Int32} {g1 : Nat → Int32} {z2 : Int32} {g2 : Nat → Int32} {z3 : Int32} {g3 : Nat → Int32} {cs fr te as ho nu : Nat → Int32} (h : s_st n q w ca z mi ne st y mo f g wi sk r wr ki xs ys ps ws z0 g0 z1 g1 z2 g2 z3 g3 cs fr te as ho nu) {pz : Nat} {sg : Nat → Int32} (hp : s_pd pz sg) (p : Int32) : ∃ o a0 b0 a1 b1 a2 b2 a3 b3 pz' cs' fr' te' as' ho' nu', mX9_saying z0 g0 z1 g1 z2 g2 z3 g3 (nI pz) sg p = some (o, a0, b0, a1, b1, a2, b2, a3, b3, nI pz') ∧ mX10_saying (nI pz) sg cs fr te as ho nu p = some (o, nI pz', cs', fr', te', as', ho', nu') ∧ s_pd pz' sg ∧ s_st n q w ca z mi ne st y mo f g wi sk r wr ki xs ys ps ws a0 b0 a1 b1 a2 b2 a3 b3 cs' fr' te' as' ho' nu' := by
  obtain ⟨c, hc⟩ := hp
  obtain ⟨⟨a1, a2, a3, a4, a5, a6, y0, y1, y2, y3⟩, h2⟩ := h
  obtain ⟨o, b0, d0, b1, d1, b2, d2, b3, d3, m', cs', fr', te', as', ho', nu', e1, e2, hm, x0, x1, x2, x3⟩ := m_saying y0 y1 y2 y3 hc p
  exact ⟨o, b0, d0, b1, d1, b2, d2, b3, d3, m', cs', fr', te', as', ho', nu', e1, e2, ⟨c, by have := hc.1; omega, fun j hj => hc.2 j (by omega)⟩, ⟨a1, a2, a3, a4, a5, a6, x0, x1, x2, x3⟩, h2⟩
theorem t_odds {n q w ca z : Nat} {mi ne st : Int32} {y mo f g wi sk r wr ki xs ys ps ws : Nat → Int32} {z0 : Int32} {g0 : Nat → Int32} {z1 : Int32} {g1 : Nat → Int32} {z2 : Int32} {g2 : Nat → Int32} {z3 : Int32} {g3 : Nat → Int32} {cs fr te as ho nu : Nat → Int32} (h : s_st n q w ca z mi ne st y mo f g wi sk r wr ki xs ys ps ws z0 g0 z1 g1 z2 g2 z3 g3 cs fr te as ho nu) (p v : Int32) : ∃ o, mX9_odds (nI q) (nI w) (nI n) y mo f wi sk r wr ki z0 g0 z1 g1 z2 g2 z3 g3 p v = some o ∧ mX10_odds (nI n) (nI q) (nI w) y mo g wi sk r wr cs fr te as ho nu p v = some o := m_odds h.1 p v
theorem t_such {n q w ca z : Nat} {mi ne st : Int32} {y mo f g wi sk r wr ki xs ys ps ws : Nat → Int32} {z0 : Int32} {g0 : Nat → Int32} {z1 : Int32} {g1 : Nat → Int32} {z2 : Int32} {g2 : Nat → Int32} {z3 : Int32} {g3 : Nat → Int32} {cs fr te as ho nu : Nat → Int32} (h : s_st n q w ca z mi ne st y mo f g wi sk r wr ki xs ys ps ws z0 g0 z1 g1 z2 g2 z3 g3 cs fr te as ho nu) (p v : Int32) : ∃ o, mX9_such (nI q) (nI n) y r ki p v = some o ∧ mX10_such (nI n) (nI q) y mo g wi sk r p v = some o := m_such y mo f g wi sk r ki h.1.2.2.2.1 h.1.1 h.1.2.2.2.2.2.1 h.1.2.1 p v
theorem t_wire {n q w ca z : Nat} {mi ne st : Int32} {y mo f g wi sk r wr ki xs ys ps ws : Nat → Int32} {z0 : Int32} {g0 : Nat → Int32} {z1 : Int32} {g1 : Nat → Int32} {z2 : Int32} {g2 : Nat → Int32} {z3 : Int32} {g3 : Nat → Int32} {cs fr te as ho nu : Nat → Int32} (h : s_st n q w ca z mi ne st y mo f g wi sk r wr ki xs ys ps ws z0 g0 z1 g1 z2 g2 z3 g3 cs fr te as ho nu) (p v : Int32) : ∃ o wr', mX9_wire (nI n) wr p v = some (o, wr') ∧ mX10_wire (nI n) wr p v = some (o, wr') ∧ s_st n q w ca z mi ne st y mo f g wi sk r wr' ki xs ys ps ws z0 g0 z1 g1 z2 g2 z3 g3 cs fr te as ho nu := by
  have hn := h.1.1
  have e : (nI n).toInt = n := nI_toInt (by omega)
  rw [m_wire (nI n) wr p v (by omega) (by omega)]
  unfold mX10_wire
  rw [m_isDay (nI n) p (by omega), show mX10_in v.toInt64 (-1) 1000 = some (decide (-1 ≤ v ∧ v ≤ 1000)) from m_in v (-1) 1000]
  simp only [Option.bind_some, xb_d]
  by_cases hd : 0 ≤ p.toInt ∧ p.toInt < (nI n).toInt
  · rw [if_neg (not_not_intro hd)]
    by_cases hv : -1 ≤ v ∧ v ≤ 1000
    · rw [if_neg (not_not_intro hv)]
      obtain ⟨d, hd2, rfl⟩ := n_of3 (n := n) hd.1 (by omega)
      have xd : x_in (nI d) 60 := n_xin (by omega) (by omega)
      have cd : (nI d).toNatClampNeg = d := nI_clamp (by omega)
      obtain ⟨⟨a1, a2, a3, a4, a5, a67⟩, h2⟩ := h
      have b := hv.2
      rw [i_le, show (1000 : Int32).toInt = 1000 by decide] at b
      simp only [x_ny xd, cd]
      by_cases h0 : 0 ≤ v
      · rw [if_pos h0]
        refine ⟨_, _, rfl, rfl, ⟨a1, a2, a3, a4, fun j hj => ?_, a67⟩, h2⟩
        by_cases ej : j = d
        · subst ej
          rw [pk_us]
          rw [i_le, Int32.toInt_zero] at h0
          obtain ⟨k, hk, e⟩ := n_of2 (v := v) (n := 1000) h0 (by omega)
          exact .inr ⟨k, hk, e⟩
        · rw [pk_un ej]
          exact a5 j hj
      · rw [if_neg h0]
        refine ⟨_, _, rfl, rfl, ⟨a1, a2, a3, a4, fun j hj => ?_, a67⟩, h2⟩
        by_cases ej : j = d
        · subst ej
          rw [pk_us]
          exact .inl rfl
        · rw [pk_un ej]
          exact a5 j hj
    · rw [if_pos hv]
      exact ⟨_, _, rfl, rfl, h⟩
  · rw [if_pos hd]
    exact ⟨_, _, rfl, rfl, h⟩
theorem t_setq {n q w ca z : Nat} {mi ne st : Int32} {y mo f g wi sk r wr ki xs ys ps ws : Nat → Int32} {z0 : Int32} {g0 : Nat → Int32} {z1 : Int32} {g1 : Nat → Int32} {z2 : Int32} {g2 : Nat → Int32} {z3 : Int32} {g3 : Nat → Int32} {cs fr te as ho nu : Nat → Int32} (h : s_st n q w ca z mi ne st y mo f g wi sk r wr ki xs ys ps ws z0 g0 z1 g1 z2 g2 z3 g3 cs fr te as ho nu) (p v : Int32) : ∃ o q' w' ca', mX9_set (nI q) (nI w) (nI ca) p v = some (o, nI q', nI w', nI ca') ∧ mX10_set (nI q) (nI w) (nI ca) p v = some (o, nI q', nI w', nI ca') ∧ s_st n q' w' ca' z mi ne st y mo f g wi sk r wr ki xs ys ps ws z0 g0 z1 g1 z2 g2 z3 g3 cs fr te as ho nu := by
  obtain ⟨⟨a1, a2, a3, a47⟩, b1, b2⟩ := h
  rw [← m_set (nI q) (nI w) (nI ca) p v]
  unfold mX9_set mX9_set_b36 mX9_set_b70
  rw [m_within v 0 63, m_within v 0 10, m_within v 0 20]
  simp only [Option.bind_some, xb_d]
  have no : ∃ o q' w' ca', (some ((-2 : Int32), nI q, nI w, nI ca)) = some (o, nI q', nI w', nI ca') ∧ (some ((-2 : Int32), nI q, nI w, nI ca)) = some (o, nI q', nI w', nI ca') ∧ s_st n q' w' ca' z mi ne st y mo f g wi sk r wr ki xs ys ps ws z0 g0 z1 g1 z2 g2 z3 g3 cs fr te as ho nu := ⟨-2, q, w, ca, rfl, rfl, ⟨a1, a2, a3, a47⟩, b1, b2⟩
  by_cases c0 : p = 0
  · have n1 : ¬ p = 1 := fun e => by rw [c0] at e; exact absurd e (by decide)
    have n2 : ¬ p = 2 := fun e => by rw [c0] at e; exact absurd e (by decide)
    rw [if_pos c0, if_neg n1, if_neg n2]
    by_cases cv : 0 ≤ v ∧ v ≤ 63
    · rw [if_neg (not_not_intro cv)]
      obtain ⟨k, hk, rfl⟩ := n_rng (m := 63) (by omega) cv
      exact ⟨_, k, w, ca, rfl, rfl, ⟨a1, by omega, a3, a47⟩, b1, b2⟩
    · rw [if_pos cv]
      exact no
  rw [if_neg c0]
  by_cases c1 : p = 1
  · have n2 : ¬ p = 2 := fun e => by rw [c1] at e; exact absurd e (by decide)
    rw [if_pos c1, if_neg n2]
    by_cases cv : 0 ≤ v ∧ v ≤ 10
    · rw [if_neg (not_not_intro cv)]
      obtain ⟨k, hk, rfl⟩ := n_rng (m := 10) (by omega) cv
      exact ⟨_, q, k, ca, rfl, rfl, ⟨a1, a2, hk, a47⟩, b1, b2⟩
    · rw [if_pos cv]
      exact no
  rw [if_neg c1]
  by_cases c2 : p = 2
  · rw [if_pos c2]
    by_cases cv : 0 ≤ v ∧ v ≤ 20
    · rw [if_neg (not_not_intro cv)]
      obtain ⟨k, hk, rfl⟩ := n_rng (m := 20) (by omega) cv
      exact ⟨_, q, w, k, rfl, rfl, ⟨a1, a2, a3, a47⟩, hk, b2⟩
    · rw [if_pos cv]
      exact no
  rw [if_neg c2]
  exact no
theorem t_score {n q w ca z : Nat} {mi ne st : Int32} {y mo f g wi sk r wr ki xs ys ps ws : Nat → Int32} {z0 : Int32} {g0 : Nat → Int32} {z1 : Int32} {g1 : Nat → Int32} {z2 : Int32} {g2 : Nat → Int32} {z3 : Int32} {g3 : Nat → Int32} {cs fr te as ho nu : Nat → Int32} (h : s_st n q w ca z mi ne st y mo f g wi sk r wr ki xs ys ps ws z0 g0 z1 g1 z2 g2 z3 g3 cs fr te as ho nu) (sq dy : Nat → Int32) (A B : Int64) (p v : Int32) : ∃ o sq' dy' A' B', mX9_score (nI q) (nI w) (nI n) y mo f wi sk r wr ki z0 g0 z1 g1 z2 g2 z3 g3 1 sq dy p v = some (o, sq', dy') ∧ mX10_score (nI n) (nI q) (nI w) A B y mo g wi sk r wr cs fr te as ho nu p v = some (o, A', B') := m_score h.1 sq dy A B p v
theorem t_means {n q w ca z : Nat} {mi ne st : Int32} {y mo f g wi sk r wr ki xs ys ps ws : Nat → Int32} {z0 : Int32} {g0 : Nat → Int32} {z1 : Int32} {g1 : Nat → Int32} {z2 : Int32} {g2 : Nat → Int32} {z3 : Int32} {g3 : Nat → Int32} {cs fr te as ho nu : Nat → Int32} (h : s_st n q w ca z mi ne st y mo f g wi sk r wr ki xs ys ps ws z0 g0 z1 g1 z2 g2 z3 g3 cs fr te as ho nu) (p a b v : Int32) : ∃ o, mX9_means (nI q) (nI w) (nI n) y mo f wi sk r wr ki z0 g0 z1 g1 z2 g2 z3 g3 p a b v = some o ∧ mX10_means (nI n) (nI q) (nI w) y mo g wi sk r wr cs fr te as ho nu p a b v = some o := m_means h.1 p a b v
theorem t_best {n q w ca z : Nat} {mi ne st : Int32} {y mo f g wi sk r wr ki xs ys ps ws : Nat → Int32} {z0 : Int32} {g0 : Nat → Int32} {z1 : Int32} {g1 : Nat → Int32} {z2 : Int32} {g2 : Nat → Int32} {z3 : Int32} {g3 : Nat → Int32} {cs fr te as ho nu : Nat → Int32} (h : s_st n q w ca z mi ne st y mo f g wi sk r wr ki xs ys ps ws z0 g0 z1 g1 z2 g2 z3 g3 cs fr te as ho nu) (jw jv ja jt jq je : Nat → Int32) (A B : Int64) (p : Int32) : ∃ o a1 a2 a3 a4 a5 a6 A' B', mX9_best (nI q) (nI n) y r wr ki 11 jw jv ja jt 64 jq je p = some (o, a1, a2, a3, a4, a5, a6) ∧ mX10_best (nI n) (nI q) (nI w) A B y mo g wi sk r wr cs fr te as ho nu p = some (o, nI q, nI w, A', B') := m_best h.1 jw jv ja jt jq je A B p
theorem t_tried {n q w ca z : Nat} {mi ne st : Int32} {y mo f g wi sk r wr ki xs ys ps ws : Nat → Int32} {z0 : Int32} {g0 : Nat → Int32} {z1 : Int32} {g1 : Nat → Int32} {z2 : Int32} {g2 : Nat → Int32} {z3 : Int32} {g3 : Nat → Int32} {cs fr te as ho nu : Nat → Int32} (h : s_st n q w ca z mi ne st y mo f g wi sk r wr ki xs ys ps ws z0 g0 z1 g1 z2 g2 z3 g3 cs fr te as ho nu) (a1 a2 a3 a4 p v : Int32) : ∃ o b1 b2 b3 b4, mX9_tried (nI q) (nI w) (nI n) y mo f wi sk r wr ki z0 g0 z1 g1 z2 g2 z3 g3 p v = some o ∧ mX10_tried (nI n) a1 a2 a3 a4 y mo g wi sk r cs fr te as ho nu p v = some (o, b1, b2, b3, b4) := m_tried h.1 a1 a2 a3 a4 p v
theorem t_lot {n q w ca z : Nat} {mi ne st : Int32} {y mo f g wi sk r wr ki xs ys ps ws : Nat → Int32} {z0 : Int32} {g0 : Nat → Int32} {z1 : Int32} {g1 : Nat → Int32} {z2 : Int32} {g2 : Nat → Int32} {z3 : Int32} {g3 : Nat → Int32} {cs fr te as ho nu : Nat → Int32} (h : s_st n q w ca z mi ne st y mo f g wi sk r wr ki xs ys ps ws z0 g0 z1 g1 z2 g2 z3 g3 cs fr te as ho nu) (a1 a2 a3 a4 p v : Int32) : ∃ o b1 b2 b3 b4, mX9_lot (nI q) (nI w) (nI n) y mo f wi sk r wr ki z0 g0 z1 g1 z2 g2 z3 g3 p v = some o ∧ mX10_lot (nI n) a1 a2 a3 a4 y mo g wi sk r cs fr te as ho nu p v = some (o, b1, b2, b3, b4) := m_lot h.1 a1 a2 a3 a4 p v
theorem t_changed {n q w ca z : Nat} {mi ne st : Int32} {y mo f g wi sk r wr ki xs ys ps ws : Nat → Int32} {z0 : Int32} {g0 : Nat → Int32} {z1 : Int32} {g1 : Nat → Int32} {z2 : Int32} {g2 : Nat → Int32} {z3 : Int32} {g3 : Nat → Int32} {cs fr te as ho nu : Nat → Int32} (h : s_st n q w ca z mi ne st y mo f g wi sk r wr ki xs ys ps ws z0 g0 z1 g1 z2 g2 z3 g3 cs fr te as ho nu) (p v : Int32) : ∃ o, mX9_changed (nI n) y r p v = some o ∧ mX10_changed (nI n) y r p v = some o := m_changed h.1.1 h.1.2.2.2.1 p v
theorem t_engraved {n q w ca z : Nat} {mi ne st : Int32} {y mo f g wi sk r wr ki xs ys ps ws : Nat → Int32} {z0 : Int32} {g0 : Nat → Int32} {z1 : Int32} {g1 : Nat → Int32} {z2 : Int32} {g2 : Nat → Int32} {z3 : Int32} {g3 : Nat → Int32} {cs fr te as ho nu : Nat → Int32} (h : s_st n q w ca z mi ne st y mo f g wi sk r wr ki xs ys ps ws z0 g0 z1 g1 z2 g2 z3 g3 cs fr te as ho nu) (p : Int32) : ∃ o, mX9_engraved (nI n) f r p = some o ∧ mX10_engraved (nI n) g r p = some o := m_engraved h.1.2.2.2.1 h.1.1 p
theorem t_right {n q w ca z : Nat} {mi ne st : Int32} {y mo f g wi sk r wr ki xs ys ps ws : Nat → Int32} {z0 : Int32} {g0 : Nat → Int32} {z1 : Int32} {g1 : Nat → Int32} {z2 : Int32} {g2 : Nat → Int32} {z3 : Int32} {g3 : Nat → Int32} {cs fr te as ho nu : Nat → Int32} (h : s_st n q w ca z mi ne st y mo f g wi sk r wr ki xs ys ps ws z0 g0 z1 g1 z2 g2 z3 g3 cs fr te as ho nu) (p : Int32) : ∃ o, mX9_right (nI n) f r p = some o ∧ mX10_right (nI n) g r p = some o := m_right h.1.2.2.2.1 h.1.1 p
theorem t_glass {n q w ca z : Nat} {mi ne st : Int32} {y mo f g wi sk r wr ki xs ys ps ws : Nat → Int32} {z0 : Int32} {g0 : Nat → Int32} {z1 : Int32} {g1 : Nat → Int32} {z2 : Int32} {g2 : Nat → Int32} {z3 : Int32} {g3 : Nat → Int32} {cs fr te as ho nu : Nat → Int32} (h : s_st n q w ca z mi ne st y mo f g wi sk r wr ki xs ys ps ws z0 g0 z1 g1 z2 g2 z3 g3 cs fr te as ho nu) (p0 p1 p2 p3 : Int32) : ∃ o z' xs' ys' ps' ws', mX9_glass (nI z) xs ys ps ws p0 p1 p2 p3 = some (o, nI z', xs', ys', ps', ws') ∧ mX10_glass (nI z) xs ys ps ws p0 p1 p2 p3 = some (o, nI z', xs', ys', ps', ws') ∧ s_st n q w ca z' mi ne st y mo f g wi sk r wr ki xs' ys' ps' ws' z0 g0 z1 g1 z2 g2 z3 g3 cs fr te as ho nu := by
  obtain ⟨a1, a2, ⟨c1, c2⟩, a4⟩ := h
  have e : (nI z).toInt = z := nI_toInt (by omega)
  rw [m_glass (nI z) xs ys ps ws p0 p1 p2 p3 (by omega) (by omega)]
  unfold mX10_glass
  rw [show mX10_in p0.toInt64 0 8 = some (decide (0 ≤ p0 ∧ p0 ≤ 8)) from m_in p0 0 8, show mX10_in p1.toInt64 0 8 = some (decide (0 ≤ p1 ∧ p1 ≤ 8)) from m_in p1 0 8, show mX10_in p2.toInt64 0 99 = some (decide (0 ≤ p2 ∧ p2 ≤ 99)) from m_in p2 0 99, show mX10_in p3.toInt64 0 7 = some (decide (0 ≤ p3 ∧ p3 ≤ 7)) from m_in p3 0 7]
  simp only [Option.bind_some, xb_d]
  by_cases h0 : 0 ≤ p0 ∧ p0 ≤ 8
  · rw [if_neg (not_not_intro h0)]
    by_cases h1 : 0 ≤ p1 ∧ p1 ≤ 8
    · rw [if_neg (not_not_intro h1)]
      by_cases h2 : 0 ≤ p2 ∧ p2 ≤ 99
      · rw [if_neg (not_not_intro h2)]
        by_cases h3 : 0 ≤ p3 ∧ p3 ≤ 7
        · rw [if_neg (not_not_intro h3)]
          have i4 : nI z = 4 ↔ z = 4 := n_eqI (b := 4) (by omega) (by omega)
          by_cases c4 : z = 4
          · rw [if_pos (i4.mpr c4)]
            exact ⟨_, _, _, _, _, _, rfl, rfl, a1, a2, ⟨c1, c2⟩, a4⟩
          · have xz : x_in (nI z) 4 := n_xin (by omega) (by omega)
            have cz : (nI z).toNatClampNeg = z := nI_clamp (by omega)
            rw [if_neg (fun q => c4 (i4.mp q))]
            simp only [x_ny xz, cz]
            rw [nI_1]
            refine ⟨_, _, _, _, _, _, rfl, rfl, a1, a2, ⟨by omega, fun j hj => ?_⟩, a4⟩
            by_cases ej : j = z
            · subst ej
              rw [pk_us, pk_us, pk_us, pk_us]
              exact ⟨n_rng (m := 8) (by omega) h0, n_rng (m := 8) (by omega) h1, n_rng (m := 99) (by omega) h2, n_rng (m := 7) (by omega) h3⟩
            · rw [pk_un ej, pk_un ej, pk_un ej, pk_un ej]
              exact c2 j hj
        · rw [if_pos h3]
          exact ⟨_, _, _, _, _, _, rfl, rfl, a1, a2, ⟨c1, c2⟩, a4⟩
      · rw [if_pos h2]
        exact ⟨_, _, _, _, _, _, rfl, rfl, a1, a2, ⟨c1, c2⟩, a4⟩
    · rw [if_pos h1]
      exact ⟨_, _, _, _, _, _, rfl, rfl, a1, a2, ⟨c1, c2⟩, a4⟩
  · rw [if_pos h0]
    exact ⟨_, _, _, _, _, _, rfl, rfl, a1, a2, ⟨c1, c2⟩, a4⟩
theorem t_clear {n q w ca z : Nat} {mi ne st : Int32} {y mo f g wi sk r wr ki xs ys ps ws : Nat → Int32} {z0 : Int32} {g0 : Nat → Int32} {z1 : Int32} {g1 : Nat → Int32} {z2 : Int32} {g2 : Nat → Int32} {z3 : Int32} {g3 : Nat → Int32} {cs fr te as ho nu : Nat → Int32} (h : s_st n q w ca z mi ne st y mo f g wi sk r wr ki xs ys ps ws z0 g0 z1 g1 z2 g2 z3 g3 cs fr te as ho nu) : mX9_clear (nI z) = some (nI z, nI 0) ∧ mX10_clear (nI z) = some (nI z, nI 0) ∧ s_st n q w ca 0 mi ne st y mo f g wi sk r wr ki xs ys ps ws z0 g0 z1 g1 z2 g2 z3 g3 cs fr te as ho nu := ⟨rfl, rfl, h.1, h.2.1, ⟨by omega, h.2.2.1.2⟩, h.2.2.2⟩
theorem t_may {n q w ca z : Nat} {mi ne st : Int32} {y mo f g wi sk r wr ki xs ys ps ws : Nat → Int32} {z0 : Int32} {g0 : Nat → Int32} {z1 : Int32} {g1 : Nat → Int32} {z2 : Int32} {g2 : Nat → Int32} {z3 : Int32} {g3 : Nat → Int32} {cs fr te as ho nu : Nat → Int32} (h : s_st n q w ca z mi ne st y mo f g wi sk r wr ki xs ys ps ws z0 g0 z1 g1 z2 g2 z3 g3 cs fr te as ho nu) (p v : Int32) : ∃ o, mX9_may (nI ca) (nI z) xs ys ps ws p v = some o ∧ mX10_may (nI ca) (nI z) xs ys ps ws p v = some o := m_may h.2.2.1 h.2.1 p v
theorem t_low {n q w ca z : Nat} {mi ne st : Int32} {y mo f g wi sk r wr ki xs ys ps ws : Nat → Int32} {z0 : Int32} {g0 : Nat → Int32} {z1 : Int32} {g1 : Nat → Int32} {z2 : Int32} {g2 : Nat → Int32} {z3 : Int32} {g3 : Nat → Int32} {cs fr te as ho nu : Nat → Int32} (h : s_st n q w ca z mi ne st y mo f g wi sk r wr ki xs ys ps ws z0 g0 z1 g1 z2 g2 z3 g3 cs fr te as ho nu) (p v u : Int32) : ∃ o, mX9_low (nI ca) (nI z) xs ys ps ws p v u = some o ∧ mX10_low (nI ca) (nI z) xs ys ps ws p v u = some o := m_low h.2.2.1 h.2.1 p v u
theorem t_believed {n q w ca z : Nat} {mi ne st : Int32} {y mo f g wi sk r wr ki xs ys ps ws : Nat → Int32} {z0 : Int32} {g0 : Nat → Int32} {z1 : Int32} {g1 : Nat → Int32} {z2 : Int32} {g2 : Nat → Int32} {z3 : Int32} {g3 : Nat → Int32} {cs fr te as ho nu : Nat → Int32} (h : s_st n q w ca z mi ne st y mo f g wi sk r wr ki xs ys ps ws z0 g0 z1 g1 z2 g2 z3 g3 cs fr te as ho nu) (p a b : Int32) : ∃ o, mX9_believed (nI q) (nI w) (nI n) y mo f wi sk r wr ki z0 g0 z1 g1 z2 g2 z3 g3 p a b = some o ∧ mX10_believed (nI n) (nI q) (nI w) y mo g wi sk r wr cs fr te as ho nu p a b = some o := m_believed h.1 p a b
theorem t_told {n q w ca z : Nat} {mi ne st : Int32} {y mo f g wi sk r wr ki xs ys ps ws : Nat → Int32} {z0 : Int32} {g0 : Nat → Int32} {z1 : Int32} {g1 : Nat → Int32} {z2 : Int32} {g2 : Nat → Int32} {z3 : Int32} {g3 : Nat → Int32} {cs fr te as ho nu : Nat → Int32} (h : s_st n q w ca z mi ne st y mo f g wi sk r wr ki xs ys ps ws z0 g0 z1 g1 z2 g2 z3 g3 cs fr te as ho nu) (pz : Nat) (p : Int32) : ∃ o, mX9_told (nI q) (nI w) (nI ca) ne st (nI n) (nI z) z0 g0 z1 g1 z2 g2 z3 g3 (nI pz) p = some o ∧ mX10_told ne st (nI n) (nI pz) (nI q) (nI w) (nI ca) (nI z) cs p = some o := m_told h.1.2.2.2.2.2.2.1 h.1.2.2.2.2.2.2.2.1 h.1.2.2.2.2.2.2.2.2.1 h.1.2.2.2.2.2.2.2.2.2 (nI q) (nI w) (nI ca) ne st (nI n) (nI z) (nI pz) p
