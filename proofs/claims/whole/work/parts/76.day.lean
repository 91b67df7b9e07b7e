/-! pure facts: a day is written; what is told; a saying is made -/
theorem s_look_cong {y mo g wi s r y' mo' g' wi' s' r' : Nat → Int32} {j : Nat} (hj : j < 60) (h : ∀ i, i ≤ j → y i = y' i ∧ mo i = mo' i ∧ g i = g' i ∧ wi i = wi' i ∧ s i = s' i ∧ r i = r' i) (w : Int32) : mX10_lookOf y mo g wi s r (nI j) w = mX10_lookOf y' mo' g' wi' s' r' (nI j) w := by
  have cl : (nI j).toNatClampNeg = j := nI_clamp (by omega)
  have cp : (nI j - 1).toNatClampNeg = j - 1 := by
    rcases Nat.eq_zero_or_pos j with z | z
    · rw [z]; decide
    · rw [n_pred z, nI_clamp (by omega)]
  obtain ⟨e1, e2, e3, e4, e5, e6⟩ := h j (Nat.le_refl j)
  obtain ⟨d1, d2, d3, d4, d5, d6⟩ := h (j - 1) (Nat.sub_le j 1)
  unfold mX10_lookOf mX10_falls
  simp only [cl, cp, e1, e2, e3, e4, e5, e6, d3, d6]
theorem s_key_cong {y mo g wi s r y' mo' g' wi' s' r' : Nat → Int32} {j : Nat} (hj : j < 60) (h : ∀ i, i ≤ j → y i = y' i ∧ mo i = mo' i ∧ g i = g' i ∧ wi i = wi' i ∧ s i = s' i ∧ r i = r' i) (k : Nat) : s_key y mo g wi s r k j = s_key y' mo' g' wi' s' r' k j := by
  unfold s_key mX10_keyOf mX10_keyOf_b47
  rw [s_look_cong hj h, s_look_cong hj h, s_look_cong hj h, s_look_cong hj h, s_look_cong hj h, s_look_cong hj h]
theorem m_day {n : Nat} {y mo f g wi s r wr ki : Nat → Int32} (hn : n ≤ 60) (hb : s_bk y mo f g wi s r) (hw : ∀ j, j < 60 → s_or 1000 (wr j)) (hk : s_ks y mo g wi s r ki n) (p0 p1 p2 p3 p4 p5 : Int32) : ∃ o n' y' mo' f' g' wi' s' r' wr' ki', mX9_day (nI n) y mo f wi s r wr ki p0 p1 p2 p3 p4 p5 = some (o, nI n', y', mo', f', wi', s', r', wr', ki') ∧ mX10_day (nI n) y mo g wi s r wr p0 p1 p2 p3 p4 p5 = some (o, nI n', y', mo', g', wi', s', r', wr') ∧ n' ≤ 60 ∧ s_bk y' mo' f' g' wi' s' r' ∧ (∀ j, j < 60 → s_or 1000 (wr' j)) ∧ s_ks y' mo' g' wi' s' r' ki' n' := by
  have same : mX9_day (nI n) y mo f wi s r wr ki p0 p1 p2 p3 p4 p5 = some (-2, nI n, y, mo, f, wi, s, r, wr, ki) → mX10_day (nI n) y mo g wi s r wr p0 p1 p2 p3 p4 p5 = some (-2, nI n, y, mo, g, wi, s, r, wr) → ∃ o n' y' mo' f' g' wi' s' r' wr' ki', mX9_day (nI n) y mo f wi s r wr ki p0 p1 p2 p3 p4 p5 = some (o, nI n', y', mo', f', wi', s', r', wr', ki') ∧ mX10_day (nI n) y mo g wi s r wr p0 p1 p2 p3 p4 p5 = some (o, nI n', y', mo', g', wi', s', r', wr') ∧ n' ≤ 60 ∧ s_bk y' mo' f' g' wi' s' r' ∧ (∀ j, j < 60 → s_or 1000 (wr' j)) ∧ s_ks y' mo' g' wi' s' r' ki' n' := fun a b => ⟨-2, n, y, mo, f, g, wi, s, r, wr, ki, a, b, hn, hb, hw, hk⟩
  -- the class's three flags
  have e80 : ∀ a b c : Bool, mX9_day_b80 (nI n) y mo f wi s r wr ki p0 p1 p2 p3 p4 p5 (xb a) (xb b) (xb c) = if a && b && c then (mX0_write (nI n) y mo f wi s r wr ki p0 p1 p2 p3 p4 p5) else some (-2, nI n, y, mo, f, wi, s, r, wr, ki) := by
    intro a b c
    unfold mX9_day_b80
    cases a with
    | false => rw [if_pos xb_f]; rfl
    | true =>
      rw [if_neg xb_n]
      cases b with
      | false => rw [if_pos xb_f]; rfl
      | true =>
        rw [if_neg xb_n]
        cases c with
        | false => rw [if_pos xb_f]; rfl
        | true =>
          rw [if_neg xb_n]
          show _ = mX0_write (nI n) y mo f wi s r wr ki p0 p1 p2 p3 p4 p5
          cases mX0_write (nI n) y mo f wi s r wr ki p0 p1 p2 p3 p4 p5 with
          | none => rfl
          | some v => rfl
  have e53 : ∀ a b : Bool, mX9_day_b53 (nI n) y mo f wi s r wr ki p0 p1 p2 p3 p4 p5 (xb a) (xb b) = if a && b && s_b ((0 ≤ p4 ∧ p4 ≤ 3) ∧ 0 ≤ p5 ∧ p5 ≤ 1) then (mX0_write (nI n) y mo f wi s r wr ki p0 p1 p2 p3 p4 p5) else some (-2, nI n, y, mo, f, wi, s, r, wr, ki) := by
    intro a b
    rw [← e80]
    unfold mX9_day_b53 mX9_day_b79
    rw [m_within p4 0 3, m_within p5 0 1]
    simp only [Option.bind_some, xb_d]
    by_cases h1 : 0 ≤ p4 ∧ p4 ≤ 3
    · rw [if_neg (not_not_intro h1)]
      by_cases h2 : 0 ≤ p5 ∧ p5 ≤ 1
      · rw [if_neg (not_not_intro h2), s_b_t ⟨h1, h2⟩]
        rfl
      · rw [if_pos h2, s_b_f (fun q => h2 q.2)]
        rfl
    · rw [if_pos h1, s_b_f (fun q => h1 q.1)]
      rfl
  have e25 : ∀ a : Bool, mX9_day_b25 (nI n) y mo f wi s r wr ki p0 p1 p2 p3 p4 p5 (xb a) = if a && s_b ((-1 ≤ p2 ∧ p2 ≤ 99) ∧ 0 ≤ p3 ∧ p3 ≤ 7) && s_b ((0 ≤ p4 ∧ p4 ≤ 3) ∧ 0 ≤ p5 ∧ p5 ≤ 1) then (mX0_write (nI n) y mo f wi s r wr ki p0 p1 p2 p3 p4 p5) else some (-2, nI n, y, mo, f, wi, s, r, wr, ki) := by
    intro a
    rw [← e53]
    unfold mX9_day_b25 mX9_day_b52
    rw [m_within p2 (-1) 99, m_within p3 0 7]
    simp only [Option.bind_some, xb_d]
    by_cases h1 : -1 ≤ p2 ∧ p2 ≤ 99
    · rw [if_neg (not_not_intro h1)]
      by_cases h2 : 0 ≤ p3 ∧ p3 ≤ 7
      · rw [if_neg (not_not_intro h2), s_b_t ⟨h1, h2⟩]
        rfl
      · rw [if_pos h2, s_b_f (fun q => h2 q.2)]
        rfl
    · rw [if_pos h1, s_b_f (fun q => h1 q.1)]
      rfl
  have e0 : mX9_day (nI n) y mo f wi s r wr ki p0 p1 p2 p3 p4 p5 = if s_b ((0 ≤ p0 ∧ p0 ≤ 9) ∧ 0 ≤ p1 ∧ p1 ≤ 11) && s_b ((-1 ≤ p2 ∧ p2 ≤ 99) ∧ 0 ≤ p3 ∧ p3 ≤ 7) && s_b ((0 ≤ p4 ∧ p4 ≤ 3) ∧ 0 ≤ p5 ∧ p5 ≤ 1) then (mX0_write (nI n) y mo f wi s r wr ki p0 p1 p2 p3 p4 p5) else some (-2, nI n, y, mo, f, wi, s, r, wr, ki) := by
    rw [← e25]
    unfold mX9_day mX9_day_b24
    rw [m_within p0 0 9, m_within p1 0 11]
    simp only [Option.bind_some, xb_d]
    by_cases h1 : 0 ≤ p0 ∧ p0 ≤ 9
    · rw [if_neg (not_not_intro h1)]
      by_cases h2 : 0 ≤ p1 ∧ p1 ≤ 11
      · rw [if_neg (not_not_intro h2), s_b_t ⟨h1, h2⟩]
        rfl
      · rw [if_pos h2, s_b_f (fun q => h2 q.2)]
        rfl
    · rw [if_pos h1, s_b_f (fun q => h1 q.1)]
      rfl
  -- the reference
  have f0 : mX10_day (nI n) y mo g wi s r wr p0 p1 p2 p3 p4 p5 = (if ¬ (0 ≤ p0 ∧ p0 ≤ 9) then some (-2, nI n, y, mo, g, wi, s, r, wr) else if ¬ (0 ≤ p1 ∧ p1 ≤ 11) then some (-2, nI n, y, mo, g, wi, s, r, wr) else if ¬ (-1 ≤ p2 ∧ p2 ≤ 99) then some (-2, nI n, y, mo, g, wi, s, r, wr) else if ¬ (0 ≤ p3 ∧ p3 ≤ 7) then some (-2, nI n, y, mo, g, wi, s, r, wr) else if ¬ (0 ≤ p4 ∧ p4 ≤ 3) then some (-2, nI n, y, mo, g, wi, s, r, wr) else if ¬ (0 ≤ p5 ∧ p5 ≤ 1) then some (-2, nI n, y, mo, g, wi, s, r, wr) else if nI n = 60 then some (-4, nI n, y, mo, g, wi, s, r, wr) else x_need (x_in (nI n) 60) (some (((nI n + 1) - 1), (nI n + 1), (upd y (nI n).toNatClampNeg p0), (upd mo (nI n).toNatClampNeg p1), (upd g (nI n).toNatClampNeg p2), (upd wi (nI n).toNatClampNeg p3), (upd s (nI n).toNatClampNeg p4), (upd r (nI n).toNatClampNeg p5), (upd wr (nI n).toNatClampNeg (-6))))) := by
    have nn : ∀ (P : Prop) [Decidable P] (x : Option (Int32 × Int32 × (Nat → Int32) × (Nat → Int32) × (Nat → Int32) × (Nat → Int32) × (Nat → Int32) × (Nat → Int32) × (Nat → Int32))), x_need P (x_need P x) = x_need P x := by
      intro P _ x
      by_cases h : P
      · rw [x_ny h]
      · unfold x_need
        rw [if_neg h, if_neg h]
    unfold mX10_day
    rw [show mX10_in p0.toInt64 0 9 = some (decide (0 ≤ p0 ∧ p0 ≤ 9)) from m_in p0 0 9, show mX10_in p1.toInt64 0 11 = some (decide (0 ≤ p1 ∧ p1 ≤ 11)) from m_in p1 0 11, show mX10_in p2.toInt64 (-1) 99 = some (decide (-1 ≤ p2 ∧ p2 ≤ 99)) from m_in p2 (-1) 99, show mX10_in p3.toInt64 0 7 = some (decide (0 ≤ p3 ∧ p3 ≤ 7)) from m_in p3 0 7, show mX10_in p4.toInt64 0 3 = some (decide (0 ≤ p4 ∧ p4 ≤ 3)) from m_in p4 0 3, m_isEnd]
    simp only [Option.bind_some, xb_d, nn]
  by_cases h0 : (0 ≤ p0 ∧ p0 ≤ 9) ∧ 0 ≤ p1 ∧ p1 ≤ 11
  · by_cases h1 : (-1 ≤ p2 ∧ p2 ≤ 99) ∧ 0 ≤ p3 ∧ p3 ≤ 7
    · by_cases h2 : (0 ≤ p4 ∧ p4 ≤ 3) ∧ 0 ≤ p5 ∧ p5 ≤ 1
      · rw [s_b_t h0, s_b_t h1, s_b_t h2] at e0
        rw [if_neg (not_not_intro h0.1), if_neg (not_not_intro h0.2), if_neg (not_not_intro h1.1), if_neg (not_not_intro h1.2), if_neg (not_not_intro h2.1), if_neg (not_not_intro h2.2)] at f0
        have e0' : mX9_day (nI n) y mo f wi s r wr ki p0 p1 p2 p3 p4 p5 = mX0_write (nI n) y mo f wi s r wr ki p0 p1 p2 p3 p4 p5 := e0
        rw [e0', f0]
        have i60 : nI n = 60 ↔ n = 60 := n_eqI (b := 60) (by omega) (by omega)
        by_cases h60 : n = 60
        · subst h60
          refine ⟨-4, 60, y, mo, f, g, wi, s, r, wr, ki, ?_, if_pos (i60.mpr rfl), by omega, hb, hw, hk⟩
          unfold mX0_write
          rw [if_neg (by decide)]
        · have hn' : n < 60 := by omega
          have cn : (nI n).toNatClampNeg = n := nI_clamp (by omega)
          rw [if_neg (fun q => h60 (i60.mp q)), x_ny (n_xin hn' (by omega)), cn]
          -- the new arrays
          have p2c : ((p2.toInt = -1 ∧ (if 0 ≤ p2 then p2 else -6) = -6) ∨ (0 ≤ p2.toInt ∧ p2.toInt ≤ 99 ∧ (if 0 ≤ p2 then p2 else -6) = p2)) := by
            have a := h1.1.1
            have b := h1.1.2
            rw [i_le, show (-1 : Int32).toInt = -1 by decide] at a
            rw [i_le, show (99 : Int32).toInt = 99 by decide] at b
            by_cases c : 0 ≤ p2
            · rw [if_pos c]
              rw [i_le, Int32.toInt_zero] at c
              exact .inr ⟨c, b, rfl⟩
            · rw [if_neg c]
              rw [i_le, Int32.toInt_zero] at c
              exact .inl ⟨by omega, rfl⟩
          have bk : s_bk (upd y n p0) (upd mo n p1) (upd f n (if 0 ≤ p2 then p2 else -6)) (upd g n p2) (upd wi n p3) (upd s n p4) (upd r n p5) := by
            refine ⟨fun j hj => ?_, fun j hj => ?_⟩
            · by_cases e : j = n
              · subst e
                rw [pk_us, pk_us]
                exact p2c
              · rw [pk_un e, pk_un e]
                exact hb.1 j hj
            · by_cases e : j = n
              · subst e
                rw [pk_us, pk_us, pk_us, pk_us, pk_us]
                exact ⟨n_rng (m := 9) (by omega) h0.1, n_rng (m := 11) (by omega) h0.2, n_rng (m := 7) (by omega) h1.2, n_rng (m := 3) (by omega) h2.1, n_rng (m := 1) (by omega) h2.2⟩
              · rw [pk_un e, pk_un e, pk_un e, pk_un e, pk_un e]
                exact hb.2 j hj
          have kk := m_kindsOf _ _ _ _ _ _ _ bk hn'
          have wrt : ∀ v, v = (if 0 ≤ p2 then p2 else -6) → mX0_write_b64 (nI n + 1) (upd y n p0) (upd mo n p1) f wi s r wr ki p3 p4 p5 (nI n) (nI n) v = some (nI n, nI (n + 1), upd y n p0, upd mo n p1, upd f n (if 0 ≤ p2 then p2 else -6), upd wi n p3, upd s n p4, upd r n p5, upd wr n (-6), upd ki n (nI (s_pk (fun k => s_kd (s_key (upd y n p0) (upd mo n p1) (upd g n p2) (upd wi n p3) (upd s n p4) (upd r n p5) k n))))) := by
            rintro v rfl
            unfold mX0_write_b64
            rw [n_put (by omega) f hn', n_put (by omega) wi hn', n_put (by omega) s hn', n_put (by omega) r hn', n_put (by omega) wr hn']
            simp only [Option.bind_some]
            rw [kk]
            simp only [Option.bind_some]
            rw [n_put (by omega) ki hn', nI_1]
            rfl
          refine ⟨nI n, n + 1, upd y n p0, upd mo n p1, upd f n (if 0 ≤ p2 then p2 else -6), upd g n p2, upd wi n p3, upd s n p4, upd r n p5, upd wr n (-6), upd ki n (nI (s_pk (fun k => s_kd (s_key (upd y n p0) (upd mo n p1) (upd g n p2) (upd wi n p3) (upd s n p4) (upd r n p5) k n)))), ?_, ?_, by omega, bk, fun j hj => ?_, fun j hj => ?_⟩
          · unfold mX0_write
            rw [if_pos (show nI n < 60 from nI_lt (b := 60) hn' (by omega)), n_put (by omega) y hn', n_put (by omega) mo hn']
            simp only [Option.bind_some]
            by_cases c : 0 ≤ p2
            · rw [if_pos c]
              exact wrt p2 (by rw [if_pos c])
            · rw [if_neg c]
              exact wrt (-6) (by rw [if_neg c])
          · rw [nI_1, nI_pred]
          · by_cases e : j = n
            · subst e
              rw [pk_us]
              exact .inl rfl
            · rw [pk_un e]
              exact hw j hj
          · by_cases e : j = n
            · subst e
              rw [pk_us]
            · rw [pk_un e, hk j (by omega)]
              congr 3
              funext k
              rw [s_key_cong (j := j) (by omega) (fun i hi => ⟨(pk_un (show ¬ i = n by omega)).symm, (pk_un (show ¬ i = n by omega)).symm, (pk_un (show ¬ i = n by omega)).symm, (pk_un (show ¬ i = n by omega)).symm, (pk_un (show ¬ i = n by omega)).symm, (pk_un (show ¬ i = n by omega)).symm⟩) k]
      · rw [s_b_f h2, Bool.and_false] at e0
        refine same e0 (f0.trans ?_)
        rw [if_neg (not_not_intro h0.1), if_neg (not_not_intro h0.2), if_neg (not_not_intro h1.1), if_neg (not_not_intro h1.2)]
        by_cases c : 0 ≤ p4 ∧ p4 ≤ 3
        · rw [if_neg (not_not_intro c), if_pos (fun q => h2 ⟨c, q⟩)]
        · rw [if_pos c]
    · rw [s_b_f h1, Bool.and_false, Bool.false_and] at e0
      refine same e0 (f0.trans ?_)
      rw [if_neg (not_not_intro h0.1), if_neg (not_not_intro h0.2)]
      by_cases c : -1 ≤ p2 ∧ p2 ≤ 99
      · rw [if_neg (not_not_intro c), if_pos (fun q => h1 ⟨c, q⟩)]
      · rw [if_pos c]
  · rw [s_b_f h0, Bool.false_and, Bool.false_and] at e0
    refine same e0 (f0.trans ?_)
    by_cases c : 0 ≤ p0 ∧ p0 ≤ 9
    · rw [if_neg (not_not_intro c), if_pos (fun q => h0 ⟨c, q⟩)]
    · rw [if_pos c]
/-- how many cases a saying has, on both sides -/
theorem m_cases {k : Nat} {z : Int32} {sg cs fr te as ho nu : Nat → Int32} (h : s_sy k z sg cs fr te as ho nu) : mX8_countCases z sg = some (cs k) := by
  obtain ⟨n, c, rfl, h1, h2⟩ := h
  rw [m_countCases n sg c h1 h2.1, h2.2.1]
theorem m_told {z0 z1 z2 z3 : Int32} {g0 g1 g2 g3 cs fr te as ho nu : Nat → Int32} (y0 : s_sy 0 z0 g0 cs fr te as ho nu) (y1 : s_sy 1 z1 g1 cs fr te as ho nu) (y2 : s_sy 2 z2 g2 cs fr te as ho nu) (y3 : s_sy 3 z3 g3 cs fr te as ho nu) (keys weight care needle stick days size pad p : Int32) : ∃ o, mX9_told keys weight care needle stick days size z0 g0 z1 g1 z2 g2 z3 g3 pad p = some o ∧ mX10_told needle stick days pad keys weight care size cs p = some o := by
  unfold mX9_told mX10_told
  rw [show mX10_in p.toInt64 10 13 = some (decide (10 ≤ p ∧ p ≤ 13)) from m_in p 10 13, m_within p 10 13]
  simp only [Option.bind_some, xb_d]
  by_cases h : 10 ≤ p ∧ p ≤ 13
  · rw [if_neg (not_not_intro h)]
    have a := h.1
    have b := h.2
    rw [i_le, show (10 : Int32).toInt = 10 by decide] at a
    rw [i_le, show (13 : Int32).toInt = 13 by decide] at b
    obtain ⟨t, ht, rfl⟩ := n_of2 (v := p) (n := 13) (by omega) (by omega)
    rw [show (nI t).toInt = t from nI_toInt (by omega)] at a
    have tc : t = 10 ∨ t = 11 ∨ t = 12 ∨ t = 13 := by omega
    rcases tc with rfl | rfl | rfl | rfl
    · rw [if_neg (by decide), if_neg (by decide), if_neg (by decide), if_neg (by decide), if_neg (by decide), if_neg (by decide), if_neg (by decide), if_neg (by decide), if_neg (not_not_intro h), if_pos (by decide), m_cases y0, x_ny (by decide), show (nI 10 - 10).toNatClampNeg = 0 by decide]
      exact ⟨_, rfl, rfl⟩
    · rw [if_neg (by decide), if_neg (by decide), if_neg (by decide), if_neg (by decide), if_neg (by decide), if_neg (by decide), if_neg (by decide), if_neg (by decide), if_neg (not_not_intro h), if_neg (by decide), if_pos (by decide), m_cases y1, x_ny (by decide), show (nI 11 - 10).toNatClampNeg = 1 by decide]
      exact ⟨_, rfl, rfl⟩
    · rw [if_neg (by decide), if_neg (by decide), if_neg (by decide), if_neg (by decide), if_neg (by decide), if_neg (by decide), if_neg (by decide), if_neg (by decide), if_neg (not_not_intro h), if_neg (by decide), if_neg (by decide), if_pos (by decide), m_cases y2, x_ny (by decide), show (nI 12 - 10).toNatClampNeg = 2 by decide]
      exact ⟨_, rfl, rfl⟩
    · rw [if_neg (by decide), if_neg (by decide), if_neg (by decide), if_neg (by decide), if_neg (by decide), if_neg (by decide), if_neg (by decide), if_neg (by decide), if_neg (not_not_intro h), if_neg (by decide), if_neg (by decide), if_neg (by decide), if_pos (by decide), m_cases y3, x_ny (by decide), show (nI 13 - 10).toNatClampNeg = 3 by decide]
      exact ⟨_, rfl, rfl⟩
  · rw [if_pos h, if_pos h]
    by_cases c0 : p = 0
    · rw [if_pos c0]; exact ⟨_, rfl, rfl⟩
    rw [if_neg c0]
    by_cases c1 : p = 1
    · rw [if_pos c1]; exact ⟨_, rfl, rfl⟩
    rw [if_neg c1]
    by_cases c2 : p = 2
    · rw [if_pos c2]; exact ⟨_, rfl, rfl⟩
    rw [if_neg c2]
    by_cases c3 : p = 3
    · rw [if_pos c3]; exact ⟨_, rfl, rfl⟩
    rw [if_neg c3]
    by_cases c4 : p = 4
    · rw [if_pos c4]; exact ⟨_, rfl, rfl⟩
    rw [if_neg c4]
    by_cases c5 : p = 5
    · rw [if_pos c5]; exact ⟨_, rfl, rfl⟩
    rw [if_neg c5]
    by_cases c6 : p = 6
    · rw [if_pos c6]; exact ⟨_, rfl, rfl⟩
    rw [if_neg c6]
    by_cases c7 : p = 7
    · rw [if_pos c7]; exact ⟨_, rfl, rfl⟩
    rw [if_neg c7]
    exact ⟨_, rfl, rfl⟩
/-- a saying whose places weren't touched is what it was -/
theorem s_sy_keep {k : Nat} {z : Int32} {sg cs fr te as ho nu cs' fr' te' as' ho' nu' : Nat → Int32} (h : s_sy k z sg cs fr te as ho nu) (h1 : cs' k = cs k) (h2 : ∀ x, 15 * k ≤ x → x < 15 * k + 15 → fr' x = fr x) (h3 : ∀ x, 14 * k ≤ x → x < 14 * k + 14 → te' x = te x ∧ as' x = as x ∧ ho' x = ho x ∧ nu' x = nu x) : s_sy k z sg cs' fr' te' as' ho' nu' := by
  obtain ⟨n, c, rfl, t1, P0, P1, P2, P3, P4⟩ := h
  refine ⟨n, c, rfl, t1, P0, by rw [h1]; exact P1, by rw [h2 _ (by omega) (by omega)]; exact P2, fun j hj h7 => ?_, fun j hj h7 => ?_⟩
  · have hS : s_S c n = 7 := P0.resolve_left (by omega)
    have hc : ∀ j, j < n → c j < 127 := fun j hj => (t1.2 j hj).2
    have q := (s_TM hc hS j (by omega)).2
    have := t1.1
    rw [h2 _ (by omega) (by omega), (h3 _ (by omega) (by omega)).1]
    exact P3 j hj h7
  · have hS : s_S c n = 7 := P0.resolve_left (by omega)
    have hc : ∀ j, j < n → c j < 127 := fun j hj => (t1.2 j hj).2
    have q := (s_TM hc hS j (by omega)).1
    have := t1.1
    have A3 := s_A_le (s_S c j)
    obtain ⟨a1, a2, a3, a4⟩ := h3 (14 * k + s_T c j) (by omega) (by omega)
    rw [a2, a3, a4]
    exact P4 j hj h7
/-- a text taken over -/
theorem m_take8 (z : Int32) (gz : Nat → Int32) (m : Nat) (sg : Nat → Int32) : ∃ sg', mX8_take z gz (nI m) sg = some (nI m, sg') ∧ ∀ j, j < 50 → sg' j = sg j := by
  refine ⟨va_cpy sg gz 0 0 50, ?_, fun j hj => sb_cpy0 hj⟩
  unfold mX8_take mX9_copy
  have e : (if Int32.ofNat 50 < Int32.ofNat 50 then Int32.ofNat 50 else Int32.ofNat 50) = 50 := by decide
  rw [e, x_ny (by decide)]
  rfl
