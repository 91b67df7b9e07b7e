/-! pure facts: the best keys, the best weight -/
theorem s_sq_cong {o o' r : Nat → Int32} : ∀ {n : Nat}, (∀ j, j < n → o j = o' j) → s_sq o r n = s_sq o' r n ∧ s_dn o n = s_dn o' n
  | 0, _ => ⟨rfl, rfl⟩
  | n + 1, h => by
    have ih := s_sq_cong (n := n) (r := r) (fun j hj => h j (by omega))
    have e := h n (by omega)
    show s_sq o r n + (if o n = -6 then 0 else s_off (o n) (r n)) = s_sq o' r n + (if o' n = -6 then 0 else s_off (o' n) (r n)) ∧ s_dn o n + (if o n = -6 then 0 else 1) = s_dn o' n + (if o' n = -6 then 0 else 1)
    rw [ih.1, ih.2, e]
    exact ⟨rfl, rfl⟩
/-- how many bits of a small number are set -/
def s_pop (k : Nat) : Nat := k / 2 ^ 0 % 2 + k / 2 ^ 1 % 2 + k / 2 ^ 2 % 2 + k / 2 ^ 3 % 2 + k / 2 ^ 4 % 2 + k / 2 ^ 5 % 2
theorem m_bits : ∀ k, k < 64 → mJ6_bitCount_0f7a4 (nI k) = some (nI (s_pop k)) := by decide +kernel
theorem s_pop_le (k : Nat) : s_pop k ≤ 6 := by unfold s_pop; omega
theorem m_ones {k : Nat} (hk : k < 64) : mX10_ones (nI k) = some (nI (s_pop k)) := by
  have st : ∀ i c, i < 6 → mX10_ones_s4 (nI k) (nI c) (nI i) = some (.inr (nI (c + k / 2 ^ i % 2), nI (i + 1))) := by
    intro i c hi
    have dl : k / 2 ^ i ≤ k := Nat.div_le_self _ _
    unfold mX10_ones_s4
    rw [if_neg (show ¬ (6 : Int32) ≤ nI i from nI_ge (b := 6) hi (by omega)), pk_shrN (n := k) (by omega) _ i (s_l i (by omega)), pk_andN (n := k / 2 ^ i) (by omega) 1 (by decide), nI_add, nI_1]
  unfold mX10_ones mX10_ones_b4
  refine (x_loop_inr (st 0 0 (by omega))).trans ?_
  refine (x_loop_inr (st 1 _ (by omega))).trans ?_
  refine (x_loop_inr (st 2 _ (by omega))).trans ?_
  refine (x_loop_inr (st 3 _ (by omega))).trans ?_
  refine (x_loop_inr (st 4 _ (by omega))).trans ?_
  refine (x_loop_inr (st 5 _ (by omega))).trans ?_
  refine (x_loop_inl (r := _) (show mX10_ones_s4 (nI k) _ (nI 6) = some (.inl _) from by
    unfold mX10_ones_s4
    exact if_pos (show (6 : Int32) ≤ nI 6 by decide))).trans ?_
  exact congrArg (fun v => some (nI v)) (by unfold s_pop; omega)
/-- the rel holds for any keys, any weight -/
theorem s_rel_q {n q w : Nat} {y mo f g wi s r wr ki : Nat → Int32} {z0 : Int32} {g0 : Nat → Int32} {z1 : Int32} {g1 : Nat → Int32} {z2 : Int32} {g2 : Nat → Int32} {z3 : Int32} {g3 : Nat → Int32} {cs fr te as ho nu : Nat → Int32} (h : s_rel n q w y mo f g wi s r wr ki z0 g0 z1 g1 z2 g2 z3 g3 cs fr te as ho nu) {k v : Nat} (hk : k < 64) (hv : v ≤ 10) : s_rel n k v y mo f g wi s r wr ki z0 g0 z1 g1 z2 g2 z3 g3 cs fr te as ho nu := ⟨h.1, hk, hv, h.2.2.2⟩
theorem s_od6 {n q w : Nat} {y mo f g wi s r wr ki : Nat → Int32} {z0 : Int32} {g0 : Nat → Int32} {z1 : Int32} {g1 : Nat → Int32} {z2 : Int32} {g2 : Nat → Int32} {z3 : Int32} {g3 : Nat → Int32} {cs fr te as ho nu : Nat → Int32} (h : s_rel n q w y mo f g wi s r wr ki z0 g0 z1 g1 z2 g2 z3 g3 cs fr te as ho nu) {d : Nat} (hd : d < n) : s_od n q w y mo g wi s r wr cs fr te as ho nu 6 d = s_bo y mo g wi s r q d n := by
  unfold s_od mX10_oddsOf
  rw [if_neg (by decide), if_neg (by decide), if_pos (by decide), if_pos (by decide), m_bookOf y mo f g wi s r h.2.2.2.1 h.1 h.2.1 hd]
  rfl
theorem s_od8 {n q w : Nat} {y mo f g wi s r wr ki : Nat → Int32} {z0 : Int32} {g0 : Nat → Int32} {z1 : Int32} {g1 : Nat → Int32} {z2 : Int32} {g2 : Nat → Int32} {z3 : Int32} {g3 : Nat → Int32} {cs fr te as ho nu : Nat → Int32} (h : s_rel n q w y mo f g wi s r wr ki z0 g0 z1 g1 z2 g2 z3 g3 cs fr te as ho nu) {d : Nat} (hd : d < n) : mX7_join (s_bo y mo g wi s r q d n) (wr d) (nI w) = some (s_od n q w y mo g wi s r wr cs fr te as ho nu 8 d) := by
  have hn := h.1
  have e := (m_oddsOf h (t := 8) (by omega) hd).1
  unfold mX7_oddsOf mX0_wireOf at e
  rw [if_neg (by decide), if_neg (by decide), if_neg (by decide), if_neg (by decide), if_neg (by decide), if_neg (by decide), if_neg (by decide), if_neg (by decide), if_pos (show nI 8 = 8 from rfl), m_likeOdds y mo f g wi s r ki h.2.2.2.1 hn h.2.2.2.2.2.1 h.2.1 hd, n_at (by omega) wr (i := d) (by omega)] at e
  simp only [Option.bind_some] at e
  obtain ⟨v, v1, v2⟩ := x_bind e
  cases v2
  exact v1
/-- the squares and the days of all 64 sets of keys -/
theorem m_leastKeys {n q w : Nat} {y mo f g wi s r wr ki : Nat → Int32} {z0 : Int32} {g0 : Nat → Int32} {z1 : Int32} {g1 : Nat → Int32} {z2 : Int32} {g2 : Nat → Int32} {z3 : Int32} {g3 : Nat → Int32} {cs fr te as ho nu : Nat → Int32} (h : s_rel n q w y mo f g wi s r wr ki z0 g0 z1 g1 z2 g2 z3 g3 cs fr te as ho nu) (all wet sq dy : Nat → Int32) : ∃ sq' dy' all' wet', (∀ b, mX6_least 64 sq' dy' 1 = some b → mX4_leastKeys all wet 64 sq dy (nI n) y r ki = some (b, all', wet', sq', dy')) ∧ ∀ k, k < 64 → sq' k = nI (s_sq (fun d => s_bo y mo g wi s r k d n) r n) ∧ dy' k = nI (s_dn (fun d => s_bo y mo g wi s r k d n) n) := by
  have hn := h.1
  have hb := h.2.2.2.1
  have hks := h.2.2.2.2.2.1
  obtain ⟨s0, d0, e0, ez⟩ := m_erase6 (N := 64) (by omega) sq dy
  unfold mX4_leastKeys
  rw [e0]
  simp only [Option.bind_some]
  unfold mX4_leastKeys_b9
  -- one day: all sets of keys
  have day : ∀ d, d < n → ∀ (a w s1 d' : Nat → Int32), (∀ k, k < 64 → a k = nI (s_cn y mo g wi s r k d false n) ∧ w k = nI (s_cn y mo g wi s r k d true n)) → (∀ k, k < 64 → s1 k = nI (s_sq (fun d => s_bo y mo g wi s r k d n) r d) ∧ d' k = nI (s_dn (fun d => s_bo y mo g wi s r k d n) d)) → ∃ s2 d2, mX4_leastKeys_b25 a w 64 s1 d' (nI n) y r ki (nI d) 0 = some (.inr (nI (d + 1), a, w, s2, d2)) ∧ ∀ k, k < 64 → s2 k = nI (s_sq (fun d => s_bo y mo g wi s r k d n) r (d + 1)) ∧ d2 k = nI (s_dn (fun d => s_bo y mo g wi s r k d n) (d + 1)) := by
    intro d hd a w s1 d1 haw hsd
    unfold mX4_leastKeys_b25
    obtain ⟨c, r1, s2, d2, r2, r3⟩ := x_run (s := fun q : Int32 × (Nat → Int32) × (Nat → Int32) => mX4_leastKeys_s25 a w 64 (nI n) y r ki (nI d) q.1 q.2.1 q.2.2) (fun m q => ∃ k s2 d2, k ≤ 64 ∧ m = 64 - k ∧ q = (nI k, s2, d2) ∧ ∀ j, j < 64 → s2 j = nI (s_sq (fun d => s_bo y mo g wi s r j d n) r (if j < k then d + 1 else d)) ∧ d2 j = nI (s_dn (fun d => s_bo y mo g wi s r j d n) (if j < k then d + 1 else d))) (fun c => ∃ s2 d2, c = .inr (nI (d + 1), a, w, s2, d2) ∧ ∀ k, k < 64 → s2 k = nI (s_sq (fun d => s_bo y mo g wi s r k d n) r (d + 1)) ∧ d2 k = nI (s_dn (fun d => s_bo y mo g wi s r k d n) (d + 1))) (by
      rintro m q ⟨k, s2, d2, hk1, rfl, rfl, hj⟩
      by_cases h64 : k = 64
      · subst h64
        refine .inl ⟨_, ?_, s2, d2, rfl, fun k hk => by have := hj k hk; rw [if_pos hk] at this; exact this⟩
        try dsimp only
        unfold mX4_leastKeys_s25
        rw [if_pos (by decide), nI_1]
      have hk' : k < 64 := by omega
      obtain ⟨ra, rb⟩ := m_rain hb (d := d) (by omega)
      have c0 := s_cn_le y mo g wi s r k d false n
      have c1 := s_cn_le y mo g wi s r k d true n
      have sor := s_bo_or y mo g wi s r k d n hn
      have hjk := hj k hk'
      rw [if_neg (by omega)] at hjk
      refine .inr ⟨64 - (k + 1), (nI (k + 1), if s_bo y mo g wi s r k d n = -6 then s2 else upd s2 k (nI (s_sq (fun d => s_bo y mo g wi s r k d n) r d + s_off (s_bo y mo g wi s r k d n) (r d))), if s_bo y mo g wi s r k d n = -6 then d2 else upd d2 k (nI (s_dn (fun d => s_bo y mo g wi s r k d n) d + 1))), by omega, ?_, k + 1, _, _, by omega, rfl, rfl, fun j h => ?_⟩
      · try dsimp only
        unfold mX4_leastKeys_s25
        rw [if_neg (show ¬ (64 : Int32) ≤ nI k from nI_ge (b := 64) hk' (by omega)), n_at (by omega) w hk', n_at (by omega) a hk']
        simp only [Option.bind_some]
        rw [(haw k hk').1, (haw k hk').2, (m_sh _ _ (by omega) (by omega)).1]
        simp only [Option.bind_some]
        rw [ra]
        simp only [Option.bind_some]
        have ad := m_add6 (N := 64) (by omega) s2 d2 hk' sor rb hjk.1 hjk.2
        unfold s_bo at ad ⊢
        rw [ad]
        simp only [Option.bind_some]
        rw [nI_1]
      · have hjj := hj j h
        have S1 : s_sq (fun d => s_bo y mo g wi s r j d n) r (d + 1) = s_sq (fun d => s_bo y mo g wi s r j d n) r d + (if s_bo y mo g wi s r j d n = -6 then 0 else s_off (s_bo y mo g wi s r j d n) (r d)) := rfl
        have D1 : s_dn (fun d => s_bo y mo g wi s r j d n) (d + 1) = s_dn (fun d => s_bo y mo g wi s r j d n) d + (if s_bo y mo g wi s r j d n = -6 then 0 else 1) := rfl
        by_cases e : j = k
        · subst e
          rw [if_pos (show j < j + 1 by omega), S1, D1]
          by_cases c6 : s_bo y mo g wi s r j d n = -6
          · rw [if_pos c6, if_pos c6, if_pos c6, if_pos c6]
            exact hjk
          · rw [if_neg c6, if_neg c6, if_neg c6, if_neg c6]
            exact ⟨pk_us, pk_us⟩
        · have hjj' : s2 j = nI (s_sq (fun d => s_bo y mo g wi s r j d n) r (if j < k + 1 then d + 1 else d)) ∧ d2 j = nI (s_dn (fun d => s_bo y mo g wi s r j d n) (if j < k + 1 then d + 1 else d)) := by
            by_cases l : j < k
            · rw [if_pos (by omega)]; rw [if_pos l] at hjj; exact hjj
            · rw [if_neg (by omega)]; rw [if_neg l] at hjj; exact hjj
          by_cases c6 : s_bo y mo g wi s r k d n = -6
          · rw [if_pos c6, if_pos c6]
            exact hjj'
          · rw [if_neg c6, if_neg c6, pk_un e, pk_un e]
            exact hjj') 64 (0, s1, d1) ⟨0, s1, d1, by omega, rfl, rfl, fun j h => by rw [if_neg (by omega)]; exact hsd j h⟩
    exact ⟨s2, d2, by rw [r1, r2], r3⟩
  -- all days: by induction on what is left
  have loop : ∀ m d, n - d ≤ m → d ≤ n → ∀ (a w s1 d' : Nat → Int32), (∀ k, k < 64 → s1 k = nI (s_sq (fun d => s_bo y mo g wi s r k d n) r d) ∧ d' k = nI (s_dn (fun d => s_bo y mo g wi s r k d n) d)) → ∃ sq' dy' all' wet', (∀ b, mX6_least 64 sq' dy' 1 = some b → x_loop (fun q : Int32 × (Nat → Int32) × (Nat → Int32) × (Nat → Int32) × (Nat → Int32) => mX4_leastKeys_s9 64 (nI n) y r ki (q.1) (q.2.1) (q.2.2.1) (q.2.2.2.1) (q.2.2.2.2)) (nI d, a, w, s1, d') = some (b, all', wet', sq', dy')) ∧ ∀ k, k < 64 → sq' k = nI (s_sq (fun d => s_bo y mo g wi s r k d n) r n) ∧ dy' k = nI (s_dn (fun d => s_bo y mo g wi s r k d n) n) := by
    intro m
    induction m with
    | zero =>
      intro d h1 h2 a w s1 d1 hsd
      have e : d = n := by omega
      subst e
      refine ⟨s1, d1, a, w, fun b hb2 => x_loop_inl ?_, hsd⟩
      try dsimp only
      unfold mX4_leastKeys_s9
      rw [if_pos (nI_le (Nat.le_refl d) (by omega)), hb2]
      rfl
    | succ m ih =>
      intro d h1 h2 a w s1 d1 hsd
      by_cases hdn : d = n
      · exact ih d (by omega) h2 a w s1 d1 hsd
      have hd' : d < n := by omega
      obtain ⟨a1, w1, e1, e2⟩ := m_countByKeys y mo f g wi s r ki hb hn hks hd' a w
      obtain ⟨s2, d2, e3, e4⟩ := day d hd' a1 w1 s1 d1 e2 hsd
      obtain ⟨sq', dy', all', wet', i1, i2⟩ := ih (d + 1) (by omega) (by omega) a1 w1 s2 d2 e4
      refine ⟨sq', dy', all', wet', fun b hb2 => (x_loop_inr ?_).trans (i1 b hb2), i2⟩
      try dsimp only
      unfold mX4_leastKeys_s9
      rw [if_neg (nI_ge hd' (by omega)), e1]
      exact e3
  exact loop n 0 (by omega) (by omega) all wet s0 d0 (fun k hk => ez k hk)
/-- squares and days of the eleven weights -/
theorem m_scoreWeights {n q w : Nat} {y mo f g wi s r wr ki : Nat → Int32} {z0 : Int32} {g0 : Nat → Int32} {z1 : Int32} {g1 : Nat → Int32} {z2 : Int32} {g2 : Nat → Int32} {z3 : Int32} {g3 : Nat → Int32} {cs fr te as ho nu : Nat → Int32} (h : s_rel n q w y mo f g wi s r wr ki z0 g0 z1 g1 z2 g2 z3 g3 cs fr te as ho nu) (sq dy : Nat → Int32) : ∃ sq' dy', mX7_scoreWeights (nI q) (nI n) y r wr ki 11 sq dy = some (sq', dy') ∧ ∀ v, v ≤ 10 → sq' v = nI (s_sq (s_od n q v y mo g wi s r wr cs fr te as ho nu 8) r n) ∧ dy' v = nI (s_dn (s_od n q v y mo g wi s r wr cs fr te as ho nu 8) n) := by
  have hn := h.1
  have hb := h.2.2.2.1
  have hks := h.2.2.2.2.2.1
  obtain ⟨s0, d0, e0, ez⟩ := m_erase6 (N := 11) (by omega) sq dy
  unfold mX7_scoreWeights
  rw [e0]
  simp only [Option.bind_some]
  unfold mX7_scoreWeights_b6
  obtain ⟨c, r1, r2⟩ := x_run (s := fun q_ : Int32 × (Nat → Int32) × (Nat → Int32) => mX7_scoreWeights_s6 (nI q) (nI n) y r wr ki 11 q_.1 q_.2.1 q_.2.2) (fun m q_ => ∃ d s1 d1, d ≤ n ∧ m = n - d ∧ q_ = (nI d, s1, d1) ∧ ∀ v, v ≤ 10 → s1 v = nI (s_sq (s_od n q v y mo g wi s r wr cs fr te as ho nu 8) r d) ∧ d1 v = nI (s_dn (s_od n q v y mo g wi s r wr cs fr te as ho nu 8) d)) (fun c => ∀ v, v ≤ 10 → c.1 v = nI (s_sq (s_od n q v y mo g wi s r wr cs fr te as ho nu 8) r n) ∧ c.2 v = nI (s_dn (s_od n q v y mo g wi s r wr cs fr te as ho nu 8) n)) (by
    rintro m q_ ⟨d, s1, d1, hd, rfl, rfl, hsd⟩
    by_cases hdn : d = n
    · subst hdn
      refine .inl ⟨(s1, d1), ?_, hsd⟩
      try dsimp only
      unfold mX7_scoreWeights_s6
      rw [if_pos (nI_le (Nat.le_refl d) (by omega))]
    have hd' : d < n := by omega
    have inner : ∃ s2 d2, mX7_scoreWeights_b33 (nI q) (nI n) y r wr ki 11 s1 d1 (nI d) (s_bo y mo g wi s r q d n) 0 = some (.inr (nI (d + 1), s2, d2)) ∧ ∀ v, v ≤ 10 → s2 v = nI (s_sq (s_od n q v y mo g wi s r wr cs fr te as ho nu 8) r (d + 1)) ∧ d2 v = nI (s_dn (s_od n q v y mo g wi s r wr cs fr te as ho nu 8) (d + 1)) := by
      unfold mX7_scoreWeights_b33
      obtain ⟨c, r1, s2, d2, r2, r3⟩ := x_run (s := fun q_ : Int32 × (Nat → Int32) × (Nat → Int32) => mX7_scoreWeights_s33 (nI q) (nI n) y r wr ki 11 (nI d) (s_bo y mo g wi s r q d n) q_.1 q_.2.1 q_.2.2) (fun m q_ => ∃ k s2 d2, k ≤ 11 ∧ m = 11 - k ∧ q_ = (nI k, s2, d2) ∧ ∀ j, j ≤ 10 → s2 j = nI (s_sq (s_od n q j y mo g wi s r wr cs fr te as ho nu 8) r (if j < k then d + 1 else d)) ∧ d2 j = nI (s_dn (s_od n q j y mo g wi s r wr cs fr te as ho nu 8) (if j < k then d + 1 else d))) (fun c => ∃ s2 d2, c = .inr (nI (d + 1), s2, d2) ∧ ∀ v, v ≤ 10 → s2 v = nI (s_sq (s_od n q v y mo g wi s r wr cs fr te as ho nu 8) r (d + 1)) ∧ d2 v = nI (s_dn (s_od n q v y mo g wi s r wr cs fr te as ho nu 8) (d + 1))) (by
        rintro m q_ ⟨k, s2, d2, hk1, rfl, rfl, hj⟩
        by_cases h11 : k = 11
        · subst h11
          refine .inl ⟨_, ?_, s2, d2, rfl, fun k hk => by have := hj k hk; rw [if_pos (by omega)] at this; exact this⟩
          try dsimp only
          unfold mX7_scoreWeights_s33
          rw [if_pos (by decide), nI_1]
        have hk' : k < 11 := by omega
        obtain ⟨ra, rb⟩ := m_rain hb (d := d) (by omega)
        have hr := s_rel_q h (k := q) (v := k) h.2.1 (by omega)
        have sor := (m_oddsOf hr (t := 8) (by omega) hd').2.2
        have jo := s_od8 hr hd'
        have hjk := hj k (by omega)
        rw [if_neg (by omega)] at hjk
        refine .inr ⟨11 - (k + 1), (nI (k + 1), if s_od n q k y mo g wi s r wr cs fr te as ho nu 8 d = -6 then s2 else upd s2 k (nI (s_sq (s_od n q k y mo g wi s r wr cs fr te as ho nu 8) r d + s_off (s_od n q k y mo g wi s r wr cs fr te as ho nu 8 d) (r d))), if s_od n q k y mo g wi s r wr cs fr te as ho nu 8 d = -6 then d2 else upd d2 k (nI (s_dn (s_od n q k y mo g wi s r wr cs fr te as ho nu 8) d + 1))), by omega, ?_, k + 1, _, _, by omega, rfl, rfl, fun j h => ?_⟩
        · try dsimp only
          unfold mX7_scoreWeights_s33 mX0_wireOf
          rw [if_neg (show ¬ (10 : Int32) < nI k from nI_nlt (a := 10) (by omega) (by omega)), n_at (by omega) wr (i := d) (by omega)]
          simp only [Option.bind_some]
          rw [jo]
          simp only [Option.bind_some]
          rw [ra]
          simp only [Option.bind_some]
          rw [m_add6 (N := 11) (by omega) s2 d2 hk' sor rb hjk.1 hjk.2]
          simp only [Option.bind_some]
          rw [nI_1]
        · have hjj := hj j h
          have S1 : s_sq (s_od n q j y mo g wi s r wr cs fr te as ho nu 8) r (d + 1) = s_sq (s_od n q j y mo g wi s r wr cs fr te as ho nu 8) r d + (if s_od n q j y mo g wi s r wr cs fr te as ho nu 8 d = -6 then 0 else s_off (s_od n q j y mo g wi s r wr cs fr te as ho nu 8 d) (r d)) := rfl
          have D1 : s_dn (s_od n q j y mo g wi s r wr cs fr te as ho nu 8) (d + 1) = s_dn (s_od n q j y mo g wi s r wr cs fr te as ho nu 8) d + (if s_od n q j y mo g wi s r wr cs fr te as ho nu 8 d = -6 then 0 else 1) := rfl
          by_cases e : j = k
          · subst e
            rw [if_pos (show j < j + 1 by omega), S1, D1]
            by_cases c6 : s_od n q j y mo g wi s r wr cs fr te as ho nu 8 d = -6
            · rw [if_pos c6, if_pos c6, if_pos c6, if_pos c6]
              exact hjk
            · rw [if_neg c6, if_neg c6, if_neg c6, if_neg c6]
              exact ⟨pk_us, pk_us⟩
          · have hjj' : s2 j = nI (s_sq (s_od n q j y mo g wi s r wr cs fr te as ho nu 8) r (if j < k + 1 then d + 1 else d)) ∧ d2 j = nI (s_dn (s_od n q j y mo g wi s r wr cs fr te as ho nu 8) (if j < k + 1 then d + 1 else d)) := by
              by_cases l : j < k
              · rw [if_pos (by omega)]; rw [if_pos l] at hjj; exact hjj
              · rw [if_neg (by omega)]; rw [if_neg l] at hjj; exact hjj
            by_cases c6 : s_od n q k y mo g wi s r wr cs fr te as ho nu 8 d = -6
            · rw [if_pos c6, if_pos c6]
              exact hjj'
            · rw [if_neg c6, if_neg c6, pk_un e, pk_un e]
              exact hjj') 11 (0, s1, d1) ⟨0, s1, d1, by omega, rfl, rfl, fun j h => by rw [if_neg (by omega)]; exact hsd j h⟩
      exact ⟨s2, d2, by rw [r1, r2], r3⟩
    obtain ⟨s2, d2, i1, i2⟩ := inner
    refine .inr ⟨n - (d + 1), (nI (d + 1), s2, d2), by omega, ?_, d + 1, s2, d2, by omega, rfl, rfl, i2⟩
    try dsimp only
    unfold mX7_scoreWeights_s6
    rw [if_neg (nI_ge hd' (by omega)), m_likeOdds y mo f g wi s r ki hb hn hks h.2.1 hd']
    exact i1) n (0, s0, d0) ⟨0, s0, d0, by omega, rfl, rfl, fun v hv => ez v (by omega)⟩
  exact ⟨c.1, c.2, r1, r2⟩
/-- comparing two means: as the class does and as the reference does -/
theorem l_cmp {A B C D : Nat} (h : A * B < 4611686018427387904) (h' : C * D < 4611686018427387904) : (lg_cmp (lN A * lN B) (lN C * lN D) = 0 ↔ A * B = C * D) ∧ (0 ≤ lg_cmp (lN A * lN B) (lN C * lN D) ↔ C * D ≤ A * B) ∧ (lg_cmp (lN A * lN B - lN C * lN D) 0 < 0 ↔ A * B < C * D) ∧ (lg_cmp (lN A * lN B - lN C * lN D) 0 = 0 ↔ A * B = C * D) := by
  rw [lN_mul, lN_mul]
  have e1 : (lN (A * B)).toInt = (A * B : Nat) := pk_lT (by omega)
  have e2 : (lN (C * D)).toInt = (C * D : Nat) := pk_lT (by omega)
  have e3 : (lN (A * B) - lN (C * D)).toInt = (A * B : Nat) - (C * D : Nat) := by
    rw [fb_subL (by omega) (by omega), e1, e2]
  refine ⟨?_, ?_, ?_, ?_⟩
  · rw [lg_cmp_eq]; exact pk_lEQ (by omega) (by omega)
  · rw [lg_cmp_ge]; exact pk_lLE (by omega) (by omega)
  · rw [lg_cmp_lt, Int64.lt_iff_toInt_lt, e3, Int64.toInt_zero]; omega
  · rw [lg_cmp_eq, ← Int64.toInt_inj, e3, Int64.toInt_zero]; omega
theorem m_bestKeys {n q w : Nat} {y mo f g wi s r wr ki : Nat → Int32} {z0 : Int32} {g0 : Nat → Int32} {z1 : Int32} {g1 : Nat → Int32} {z2 : Int32} {g2 : Nat → Int32} {z3 : Int32} {g3 : Nat → Int32} {cs fr te as ho nu : Nat → Int32} (h : s_rel n q w y mo f g wi s r wr ki z0 g0 z1 g1 z2 g2 z3 g3 cs fr te as ho nu) (all wet sq dy : Nat → Int32) (A B : Int64) : ∃ b all' wet' sq' dy' A' B', mX4_leastKeys all wet 64 sq dy (nI n) y r ki = some (b, all', wet', sq', dy') ∧ mX10_bestKeys (nI n) (nI q) (nI w) A B y mo g wi s r wr cs fr te as ho nu = some (b, nI q, A', B') := by
  have hn := h.1
  have hb := h.2.2.2.1
  obtain ⟨sq', dy', all', wet', e1, e2⟩ := m_leastKeys h all wet sq dy
  have dl : ∀ k, s_dn (fun d => s_bo y mo g wi s r k d n) n ≤ 60 := fun k => Nat.le_trans (s_dn_le _ n) hn
  have sl : ∀ k, s_sq (fun d => s_bo y mo g wi s r k d n) r n ≤ 60000000 := fun k => by
    have := s_sq_le (fun d => s_bo y mo g wi s r k d n) r n (fun j _ => s_bo_or y mo g wi s r k j n hn) (fun j hj => (m_rain hb (d := j) (by omega)).2) n (Nat.le_refl n)
    omega
  have pl : ∀ k j, s_sq (fun d => s_bo y mo g wi s r k d n) r n * s_dn (fun d => s_bo y mo g wi s r j d n) n < 4611686018427387904 := fun k j => by
    have := Nat.mul_le_mul (sl k) (dl j)
    omega
  have fs : ∀ k, k < 64 → ∀ A B, mX10_findScore (nI n) (nI k) (nI w) A B y mo g wi s r wr cs fr te as ho nu 6 = some (lN (s_sq (fun d => s_bo y mo g wi s r k d n) r n), lN (s_dn (fun d => s_bo y mo g wi s r k d n) n)) := by
    intro k hk A B
    have hr := s_rel_q h (k := k) (v := w) hk h.2.2.1
    have := m_findScore hr (t := 6) (by omega) A B
    have c := s_sq_cong (o := s_od n k w y mo g wi s r wr cs fr te as ho nu 6) (o' := fun d => s_bo y mo g wi s r k d n) (r := r) (n := n) (fun j hj => s_od6 hr hj)
    rw [c.1, c.2] at this
    exact this
  have run := x_pair (s1 := fun z : Int32 × Int32 => mX6_least_s5 64 sq' dy' 1 z.1 z.2) (s2 := fun z : Int32 × Int64 × Int64 × Int32 × Int32 × Int64 × Int64 => mX10_bestKeys_s16 (nI n) (nI w) y mo g wi s r wr cs fr te as ho nu (nI q) z.1 z.2.1 z.2.2.1 z.2.2.2.1 z.2.2.2.2.1 z.2.2.2.2.2.1 z.2.2.2.2.2.2) (fun m x z => ∃ i v U V K A B, i ≤ 64 ∧ m = 64 - i ∧ x = (v, nI i) ∧ z = (v, U, V, nI i, K, A, B) ∧ (v = -6 ∨ ∃ b, b < 64 ∧ v = nI b ∧ U = lN (s_sq (fun d => s_bo y mo g wi s r b d n) r n) ∧ V = lN (s_dn (fun d => s_bo y mo g wi s r b d n) n))) (fun c e => ∃ A B, e = (c, nI q, A, B)) (by
    rintro m x z ⟨i, v, U, V, K, A, B, hi, rfl, rfl, rfl, hv⟩
    by_cases h64 : i = 64
    · subst h64
      refine .inl ⟨v, (v, nI q, A, B), ?_, ?_, A, B, rfl⟩
      · try dsimp only
        unfold mX6_least_s5
        rw [if_pos (show Int32.ofNat 64 ≤ nI 64 by decide)]
      · try dsimp only
        unfold mX10_bestKeys_s16
        rw [if_pos (by decide)]
    have hi' : i < 64 := by omega
    have e2i := e2 i hi'
    have dli := dl i
    have dy0 : nI (s_dn (fun d => s_bo y mo g wi s r i d n) n) ≤ 0 ↔ s_dn (fun d => s_bo y mo g wi s r i d n) n = 0 := (n_leI (b := 0) (by omega) (by omega)).trans (by omega)
    have ld0 : lg_cmp (lN (s_dn (fun d => s_bo y mo g wi s r i d n) n)) 0 ≤ 0 ↔ s_dn (fun d => s_bo y mo g wi s r i d n) n = 0 := (lg_cmp_le _ _).trans ((lN_le (b := 0) (by omega) (by omega)).trans (by omega))
    -- the class's step, by whether i is better
    have cls : ∀ t : Bool, (v = -6 → t = true) → (∀ b, b < 64 → v = nI b → 0 < s_dn (fun d => s_bo y mo g wi s r i d n) n → mX6_isBetter 64 sq' dy' (nI i) v 1 = some t) → mX6_least_s5 64 sq' dy' 1 v (nI i) = some (.inr (if s_dn (fun d => s_bo y mo g wi s r i d n) n = 0 then v else if t = true then nI i else v, nI (i + 1))) := by
      intro t t1 t2
      unfold mX6_least_s5 mX6_least_b38 mX6_least_b40 mX6_daysOf
      rw [if_neg (show ¬ Int32.ofNat 64 ≤ nI i from nI_ge hi' (by omega)), n_at (by omega) dy' hi']
      simp only [Option.bind_some]
      rw [e2i.2]
      by_cases c0 : s_dn (fun d => s_bo y mo g wi s r i d n) n = 0
      · rw [if_pos (dy0.mpr c0), if_pos c0, nI_1]
      rw [if_neg (fun z => c0 (dy0.mp z)), if_neg c0]
      by_cases c6 : v = -6
      · rw [if_pos c6, if_pos (t1 c6), nI_1]
      obtain ⟨b, hb1, hb2, -⟩ := hv.resolve_left c6
      rw [if_neg c6, t2 b hb1 hb2 (by omega)]
      simp only [Option.bind_some]
      cases t with
      | false => rw [if_pos xb_f, if_neg (by decide), nI_1]
      | true => rw [if_neg xb_n, if_pos rfl, nI_1]
    have ref : ∀ t : Bool, (mX10_bestKeys_s16 (nI n) (nI w) y mo g wi s r wr cs fr te as ho nu (nI q) v U V (nI i) K A B = mX10_bestKeys_b86 (nI n) (nI i) (nI w) (lN (s_sq (fun d => s_bo y mo g wi s r i d n) r n)) (lN (s_dn (fun d => s_bo y mo g wi s r i d n) n)) y mo g wi s r wr cs fr te as ho nu (nI q) v U V (nI i) (xb t)) → mX10_bestKeys_s16 (nI n) (nI w) y mo g wi s r wr cs fr te as ho nu (nI q) v U V (nI i) K A B = some (.inr (if s_dn (fun d => s_bo y mo g wi s r i d n) n = 0 then v else if t = true then nI i else v, if s_dn (fun d => s_bo y mo g wi s r i d n) n = 0 then U else if t = true then lN (s_sq (fun d => s_bo y mo g wi s r i d n) r n) else U, if s_dn (fun d => s_bo y mo g wi s r i d n) n = 0 then V else if t = true then lN (s_dn (fun d => s_bo y mo g wi s r i d n) n) else V, nI (i + 1), nI i, lN (s_sq (fun d => s_bo y mo g wi s r i d n) r n), lN (s_dn (fun d => s_bo y mo g wi s r i d n) n))) := by
      intro t ht
      rw [ht]
      unfold mX10_bestKeys_b86 mX10_bestKeys_b116
      by_cases c0 : s_dn (fun d => s_bo y mo g wi s r i d n) n = 0
      · rw [if_pos (ld0.mpr c0), if_pos c0, if_pos c0, if_pos c0, nI_1]
      rw [if_neg (fun z => c0 (ld0.mp z)), if_neg c0, if_neg c0, if_neg c0]
      cases t with
      | false => rw [if_pos xb_f, if_neg (by decide), if_neg (by decide), if_neg (by decide), nI_1]
      | true => rw [if_neg xb_n, if_pos rfl, if_pos rfl, if_pos rfl, nI_1]
    have both : ∃ t : Bool, (v = -6 → t = true) ∧ (∀ b, b < 64 → v = nI b → 0 < s_dn (fun d => s_bo y mo g wi s r i d n) n → mX6_isBetter 64 sq' dy' (nI i) v 1 = some t) ∧ (mX10_bestKeys_s16 (nI n) (nI w) y mo g wi s r wr cs fr te as ho nu (nI q) v U V (nI i) K A B = mX10_bestKeys_b86 (nI n) (nI i) (nI w) (lN (s_sq (fun d => s_bo y mo g wi s r i d n) r n)) (lN (s_dn (fun d => s_bo y mo g wi s r i d n) n)) y mo g wi s r wr cs fr te as ho nu (nI q) v U V (nI i) (xb t)) := by
      rcases hv with rfl | ⟨b, hb1, rfl, rfl, rfl⟩
      · refine ⟨true, fun _ => rfl, fun b hb1 e => absurd e.symm (n_ne6 b (by omega)), ?_⟩
        unfold mX10_bestKeys_s16 mX10_bestKeys_b81
        rw [if_neg (show ¬ (64 : Int32) ≤ nI i from nI_ge (b := 64) hi' (by omega)), fs i hi']
        simp only [Option.bind_some]
        rw [if_pos (by decide)]
        rfl
      · have e2b := e2 b hb1
        have dlb := dl b
        have sli := sl i
        have slb := sl b
        obtain ⟨k1, k2, k3, k4⟩ := l_cmp (pl i b) (pl b i)
        have bn := n_ne6 b (by omega)
        have ref1 : ∀ x, (if lg_cmp (lN (s_sq (fun d => s_bo y mo g wi s r i d n) r n) * lN (s_dn (fun d => s_bo y mo g wi s r b d n) n) - lN (s_sq (fun d => s_bo y mo g wi s r b d n) r n) * lN (s_dn (fun d => s_bo y mo g wi s r i d n) n)) 0 < 0 then mX10_bestKeys_b81 (nI n) (nI i) (nI w) (lN (s_sq (fun d => s_bo y mo g wi s r i d n) r n)) (lN (s_dn (fun d => s_bo y mo g wi s r i d n) n)) y mo g wi s r wr cs fr te as ho nu (nI q) (nI b) (lN (s_sq (fun d => s_bo y mo g wi s r b d n) r n)) (lN (s_dn (fun d => s_bo y mo g wi s r b d n) n)) (nI i) else if lg_cmp (lN (s_sq (fun d => s_bo y mo g wi s r i d n) r n) * lN (s_dn (fun d => s_bo y mo g wi s r b d n) n) - lN (s_sq (fun d => s_bo y mo g wi s r b d n) r n) * lN (s_dn (fun d => s_bo y mo g wi s r i d n) n)) 0 = 0 then if nI (s_pop b) ≤ nI (s_pop i) then mX10_bestKeys_b85 (nI n) (nI i) (nI w) (lN (s_sq (fun d => s_bo y mo g wi s r i d n) r n)) (lN (s_dn (fun d => s_bo y mo g wi s r i d n) n)) y mo g wi s r wr cs fr te as ho nu (nI q) (nI b) (lN (s_sq (fun d => s_bo y mo g wi s r b d n) r n)) (lN (s_dn (fun d => s_bo y mo g wi s r b d n) n)) (nI i) else mX10_bestKeys_b81 (nI n) (nI i) (nI w) (lN (s_sq (fun d => s_bo y mo g wi s r i d n) r n)) (lN (s_dn (fun d => s_bo y mo g wi s r i d n) n)) y mo g wi s r wr cs fr te as ho nu (nI q) (nI b) (lN (s_sq (fun d => s_bo y mo g wi s r b d n) r n)) (lN (s_dn (fun d => s_bo y mo g wi s r b d n) n)) (nI i) else mX10_bestKeys_b85 (nI n) (nI i) (nI w) (lN (s_sq (fun d => s_bo y mo g wi s r i d n) r n)) (lN (s_dn (fun d => s_bo y mo g wi s r i d n) n)) y mo g wi s r wr cs fr te as ho nu (nI q) (nI b) (lN (s_sq (fun d => s_bo y mo g wi s r b d n) r n)) (lN (s_dn (fun d => s_bo y mo g wi s r b d n) n)) (nI i)) = x → mX10_bestKeys_s16 (nI n) (nI w) y mo g wi s r wr cs fr te as ho nu (nI q) (nI b) (lN (s_sq (fun d => s_bo y mo g wi s r b d n) r n)) (lN (s_dn (fun d => s_bo y mo g wi s r b d n) n)) (nI i) K A B = x := by
          intro x hx
          unfold mX10_bestKeys_s16
          rw [if_neg (show ¬ (64 : Int32) ≤ nI i from nI_ge (b := 64) hi' (by omega)), fs i hi']
          simp only [Option.bind_some]
          rw [if_neg (nI_pos (by omega)), m_ones hi', m_ones hb1]
          exact hx
        have cl1 : mX6_isBetter 64 sq' dy' (nI i) (nI b) 1 = (if lg_cmp (lN (s_sq (fun d => s_bo y mo g wi s r i d n) r n) * lN (s_dn (fun d => s_bo y mo g wi s r b d n) n)) (lN (s_sq (fun d => s_bo y mo g wi s r b d n) r n) * lN (s_dn (fun d => s_bo y mo g wi s r i d n) n)) = 0 then (if nI (s_pop b) ≤ nI (s_pop i) then some false else some true) else if 0 ≤ lg_cmp (lN (s_sq (fun d => s_bo y mo g wi s r i d n) r n) * lN (s_dn (fun d => s_bo y mo g wi s r b d n) n)) (lN (s_sq (fun d => s_bo y mo g wi s r b d n) r n) * lN (s_dn (fun d => s_bo y mo g wi s r i d n) n)) then some false else some true) := by
          unfold mX6_isBetter mX6_squaresOf mX6_daysOf
          rw [n_at (by omega) sq' hi', n_at (by omega) dy' hb1, n_at (by omega) sq' hb1, n_at (by omega) dy' hi']
          simp only [Option.bind_some]
          rw [e2i.1, e2i.2, e2b.1, e2b.2, nI_l (by omega), nI_l (by omega), nI_l (by omega), nI_l (by omega), if_neg (show ¬ (1 : Int32) = 0 by decide), m_bits i hi', m_bits b hb1]
          rfl
        rcases Nat.lt_trichotomy (s_sq (fun d => s_bo y mo g wi s r i d n) r n * s_dn (fun d => s_bo y mo g wi s r b d n) n) (s_sq (fun d => s_bo y mo g wi s r b d n) r n * s_dn (fun d => s_bo y mo g wi s r i d n) n) with lt | eq | gt
        · refine ⟨true, fun _ => rfl, fun _ _ _ _ => ?_, ?_⟩
          · rw [cl1, if_neg (fun z => by have := k1.mp z; omega), if_neg (fun z => by have := k2.mp z; omega)]
          · refine ref1 _ ?_
            rw [if_pos (k3.mpr lt)]
            rfl
        · by_cases pp : nI (s_pop b) ≤ nI (s_pop i)
          · refine ⟨false, fun z => absurd z bn, fun _ _ _ _ => ?_, ?_⟩
            · rw [cl1, if_pos (k1.mpr eq), if_pos pp]
            · refine ref1 _ ?_
              rw [if_neg (fun z => by have := k3.mp z; omega), if_pos (k4.mpr eq), if_pos pp]
              rfl
          · refine ⟨true, fun _ => rfl, fun _ _ _ _ => ?_, ?_⟩
            · rw [cl1, if_pos (k1.mpr eq), if_neg pp]
            · refine ref1 _ ?_
              rw [if_neg (fun z => by have := k3.mp z; omega), if_pos (k4.mpr eq), if_neg pp]
              rfl
        · refine ⟨false, fun z => absurd z bn, fun _ _ _ _ => ?_, ?_⟩
          · rw [cl1, if_neg (fun z => by have := k1.mp z; omega), if_pos (k2.mpr (by omega))]
          · refine ref1 _ ?_
            rw [if_neg (fun z => by have := k3.mp z; omega), if_neg (fun z => by have := k4.mp z; omega)]
            rfl
    obtain ⟨t, b1, b2, b3⟩ := both
    refine .inr ⟨64 - (i + 1), _, _, by omega, cls t b1 b2, ref t b3, i + 1, _, _, _, _, _, _, by omega, rfl, rfl, rfl, ?_⟩
    by_cases c0 : s_dn (fun d => s_bo y mo g wi s r i d n) n = 0
    · rw [if_pos c0, if_pos c0, if_pos c0]
      exact hv
    · rw [if_neg c0, if_neg c0, if_neg c0]
      cases t with
      | false => rw [if_neg (by decide), if_neg (by decide), if_neg (by decide)]; exact hv
      | true => rw [if_pos rfl, if_pos rfl, if_pos rfl]; exact .inr ⟨i, hi', rfl, rfl, rfl⟩) 64 (-6, 0) (-6, 0, 1, 0, nI q, A, B) ⟨0, -6, 0, 1, nI q, A, B, by omega, rfl, rfl, rfl, .inl rfl⟩
  obtain ⟨b, e, r1, r2, A', B', rfl⟩ := run
  refine ⟨b, all', wet', sq', dy', A', B', e1 b ?_, ?_⟩
  · unfold mX6_least mX6_least_b5
    exact r1
  · unfold mX10_bestKeys mX10_bestKeys_b16
    exact r2
theorem m_bestWeight {n q w : Nat} {y mo f g wi s r wr ki : Nat → Int32} {z0 : Int32} {g0 : Nat → Int32} {z1 : Int32} {g1 : Nat → Int32} {z2 : Int32} {g2 : Nat → Int32} {z3 : Int32} {g3 : Nat → Int32} {cs fr te as ho nu : Nat → Int32} (h : s_rel n q w y mo f g wi s r wr ki z0 g0 z1 g1 z2 g2 z3 g3 cs fr te as ho nu) (sq dy : Nat → Int32) (A B : Int64) : ∃ b sq' dy' A' B', mX7_scoreWeights (nI q) (nI n) y r wr ki 11 sq dy = some (sq', dy') ∧ mX6_least 11 sq' dy' 0 = some b ∧ mX10_bestWeight (nI n) (nI q) (nI w) A B y mo g wi s r wr cs fr te as ho nu = some (b, nI w, A', B') := by
  have hn := h.1
  have hb := h.2.2.2.1
  obtain ⟨sq', dy', e1, e2⟩ := m_scoreWeights h sq dy
  have dl : ∀ k, s_dn (s_od n q k y mo g wi s r wr cs fr te as ho nu 8) n ≤ 60 := fun k => Nat.le_trans (s_dn_le _ n) hn
  have sl : ∀ k, k ≤ 10 → s_sq (s_od n q k y mo g wi s r wr cs fr te as ho nu 8) r n ≤ 60000000 := fun k hk => by
    have hr := s_rel_q h (k := q) (v := k) h.2.1 hk
    have := s_sq_le (s_od n q k y mo g wi s r wr cs fr te as ho nu 8) r n (fun j hj => (m_oddsOf hr (t := 8) (by omega) hj).2.2) (fun j hj => (m_rain hb (d := j) (by omega)).2) n (Nat.le_refl n)
    omega
  have pl : ∀ k j, k ≤ 10 → s_sq (s_od n q k y mo g wi s r wr cs fr te as ho nu 8) r n * s_dn (s_od n q j y mo g wi s r wr cs fr te as ho nu 8) n < 4611686018427387904 := fun k j hk => by
    have := Nat.mul_le_mul (sl k hk) (dl j)
    omega
  have fs : ∀ k, k ≤ 10 → ∀ A B, mX10_findScore (nI n) (nI q) (nI k) A B y mo g wi s r wr cs fr te as ho nu 8 = some (lN (s_sq (s_od n q k y mo g wi s r wr cs fr te as ho nu 8) r n), lN (s_dn (s_od n q k y mo g wi s r wr cs fr te as ho nu 8) n)) := by
    intro k hk A B
    exact m_findScore (s_rel_q h (k := q) (v := k) h.2.1 hk) (t := 8) (by omega) A B
  have run := x_pair (s1 := fun z : Int32 × Int32 => mX6_least_s5 11 sq' dy' 0 z.1 z.2) (s2 := fun z : Int32 × Int64 × Int64 × Int32 × Int32 × Int64 × Int64 => mX10_bestWeight_s16 (nI n) (nI q) y mo g wi s r wr cs fr te as ho nu (nI w) z.1 z.2.1 z.2.2.1 z.2.2.2.1 z.2.2.2.2.1 z.2.2.2.2.2.1 z.2.2.2.2.2.2) (fun m x z => ∃ i v U V K A B, i ≤ 11 ∧ m = 11 - i ∧ x = (v, nI i) ∧ z = (v, U, V, nI i, K, A, B) ∧ (v = -6 ∨ ∃ b, b ≤ 10 ∧ v = nI b ∧ U = lN (s_sq (s_od n q b y mo g wi s r wr cs fr te as ho nu 8) r n) ∧ V = lN (s_dn (s_od n q b y mo g wi s r wr cs fr te as ho nu 8) n))) (fun c e => ∃ A B, e = (c, nI w, A, B)) (by
    rintro m x z ⟨i, v, U, V, K, A, B, hi, rfl, rfl, rfl, hv⟩
    by_cases h64 : i = 11
    · subst h64
      refine .inl ⟨v, (v, nI w, A, B), ?_, ?_, A, B, rfl⟩
      · try dsimp only
        unfold mX6_least_s5
        rw [if_pos (show Int32.ofNat 11 ≤ nI 11 by decide)]
      · try dsimp only
        unfold mX10_bestWeight_s16
        rw [if_pos (by decide)]
    have hi' : i ≤ 10 := by omega
    have e2i := e2 i hi'
    have dli := dl i
    have dy0 : nI (s_dn (s_od n q i y mo g wi s r wr cs fr te as ho nu 8) n) ≤ 0 ↔ s_dn (s_od n q i y mo g wi s r wr cs fr te as ho nu 8) n = 0 := (n_leI (b := 0) (by omega) (by omega)).trans (by omega)
    have ld0 : lg_cmp (lN (s_dn (s_od n q i y mo g wi s r wr cs fr te as ho nu 8) n)) 0 ≤ 0 ↔ s_dn (s_od n q i y mo g wi s r wr cs fr te as ho nu 8) n = 0 := (lg_cmp_le _ _).trans ((lN_le (b := 0) (by omega) (by omega)).trans (by omega))
    have ck : mX10_bestWeight_s16 (nI n) (nI q) y mo g wi s r wr cs fr te as ho nu (nI w) v U V (nI i) K A B = (if lg_cmp (lN (s_dn (s_od n q i y mo g wi s r wr cs fr te as ho nu 8) n)) 0 ≤ 0 then some (.inr (v, U, V, nI (i + 1), nI i, lN (s_sq (s_od n q i y mo g wi s r wr cs fr te as ho nu 8) r n), lN (s_dn (s_od n q i y mo g wi s r wr cs fr te as ho nu 8) n))) else if v < 0 then some (.inr (nI i, lN (s_sq (s_od n q i y mo g wi s r wr cs fr te as ho nu 8) r n), lN (s_dn (s_od n q i y mo g wi s r wr cs fr te as ho nu 8) n), nI (i + 1), nI i, lN (s_sq (s_od n q i y mo g wi s r wr cs fr te as ho nu 8) r n), lN (s_dn (s_od n q i y mo g wi s r wr cs fr te as ho nu 8) n))) else if 0 ≤ lg_cmp (lN (s_sq (s_od n q i y mo g wi s r wr cs fr te as ho nu 8) r n) * V) (U * lN (s_dn (s_od n q i y mo g wi s r wr cs fr te as ho nu 8) n)) then some (.inr (v, U, V, nI (i + 1), nI i, lN (s_sq (s_od n q i y mo g wi s r wr cs fr te as ho nu 8) r n), lN (s_dn (s_od n q i y mo g wi s r wr cs fr te as ho nu 8) n))) else some (.inr (nI i, lN (s_sq (s_od n q i y mo g wi s r wr cs fr te as ho nu 8) r n), lN (s_dn (s_od n q i y mo g wi s r wr cs fr te as ho nu 8) n), nI (i + 1), nI i, lN (s_sq (s_od n q i y mo g wi s r wr cs fr te as ho nu 8) r n), lN (s_dn (s_od n q i y mo g wi s r wr cs fr te as ho nu 8) n)))) := by
      unfold mX10_bestWeight_s16 mX10_bestWeight_b65 mX10_bestWeight_b79
      rw [if_neg (show ¬ (10 : Int32) < nI i from nI_nlt (a := 10) (by omega) (by omega)), fs i hi']
      simp only [Option.bind_some]
      rw [nI_1]
    by_cases c0 : s_dn (s_od n q i y mo g wi s r wr cs fr te as ho nu 8) n = 0
    · refine .inr ⟨11 - (i + 1), (v, nI (i + 1)), _, by omega, ?_, by rw [ck, if_pos (ld0.mpr c0)], i + 1, v, _, _, _, _, _, by omega, rfl, rfl, rfl, hv⟩
      try dsimp only
      unfold mX6_least_s5 mX6_least_b40 mX6_daysOf
      rw [if_neg (show ¬ Int32.ofNat 11 ≤ nI i from nI_ge (by omega) (by omega)), n_at (by omega) dy' (by omega)]
      simp only [Option.bind_some]
      rw [e2i.2, if_pos (dy0.mpr c0), nI_1]
    rcases hv with rfl | ⟨b, hb1, rfl, rfl, rfl⟩
    · refine .inr ⟨11 - (i + 1), (nI i, nI (i + 1)), _, by omega, ?_, by rw [ck, if_neg (fun z => c0 (ld0.mp z)), if_pos (by decide)], i + 1, nI i, _, _, _, _, _, by omega, rfl, rfl, rfl, .inr ⟨i, hi', rfl, rfl, rfl⟩⟩
      try dsimp only
      unfold mX6_least_s5 mX6_least_b38 mX6_least_b40 mX6_daysOf
      rw [if_neg (show ¬ Int32.ofNat 11 ≤ nI i from nI_ge (by omega) (by omega)), n_at (by omega) dy' (by omega)]
      simp only [Option.bind_some]
      rw [e2i.2, if_neg (fun z => c0 (dy0.mp z)), if_pos trivial, nI_1]
    · have e2b := e2 b hb1
      have dlb := dl b
      have sli := sl i hi'
      have slb := sl b hb1
      obtain ⟨k1, k2, k3, k4⟩ := l_cmp (pl i b hi') (pl b i hb1)
      have cl1 : mX6_isBetter 11 sq' dy' (nI i) (nI b) 0 = (if lg_cmp (lN (s_sq (s_od n q i y mo g wi s r wr cs fr te as ho nu 8) r n) * lN (s_dn (s_od n q b y mo g wi s r wr cs fr te as ho nu 8) n)) (lN (s_sq (s_od n q b y mo g wi s r wr cs fr te as ho nu 8) r n) * lN (s_dn (s_od n q i y mo g wi s r wr cs fr te as ho nu 8) n)) = 0 then some false else if 0 ≤ lg_cmp (lN (s_sq (s_od n q i y mo g wi s r wr cs fr te as ho nu 8) r n) * lN (s_dn (s_od n q b y mo g wi s r wr cs fr te as ho nu 8) n)) (lN (s_sq (s_od n q b y mo g wi s r wr cs fr te as ho nu 8) r n) * lN (s_dn (s_od n q i y mo g wi s r wr cs fr te as ho nu 8) n)) then some false else some true) := by
        unfold mX6_isBetter mX6_squaresOf mX6_daysOf
        rw [n_at (by omega) sq' (i := i) (by omega), n_at (by omega) dy' (i := b) (by omega), n_at (by omega) sq' (i := b) (by omega), n_at (by omega) dy' (i := i) (by omega)]
        simp only [Option.bind_some]
        rw [e2i.1, e2i.2, e2b.1, e2b.2, nI_l (by omega), nI_l (by omega), nI_l (by omega), nI_l (by omega), if_pos trivial]
      have cls : ∀ t : Bool, mX6_isBetter 11 sq' dy' (nI i) (nI b) 0 = some t → mX6_least_s5 11 sq' dy' 0 (nI b) (nI i) = some (.inr (if t = true then nI i else nI b, nI (i + 1))) := by
        intro t ht
        unfold mX6_least_s5 mX6_least_b38 mX6_least_b40 mX6_daysOf
        rw [if_neg (show ¬ Int32.ofNat 11 ≤ nI i from nI_ge (by omega) (by omega)), n_at (by omega) dy' (by omega)]
        simp only [Option.bind_some]
        rw [e2i.2, if_neg (fun z => c0 (dy0.mp z)), if_neg (n_ne6 b (by omega)), ht]
        simp only [Option.bind_some]
        cases t with
        | false => rw [if_pos xb_f, if_neg (by decide), nI_1]
        | true => rw [if_neg xb_n, if_pos rfl, nI_1]
      by_cases c : s_sq (s_od n q b y mo g wi s r wr cs fr te as ho nu 8) r n * s_dn (s_od n q i y mo g wi s r wr cs fr te as ho nu 8) n ≤ s_sq (s_od n q i y mo g wi s r wr cs fr te as ho nu 8) r n * s_dn (s_od n q b y mo g wi s r wr cs fr te as ho nu 8) n
      · refine .inr ⟨11 - (i + 1), (nI b, nI (i + 1)), _, by omega, ?_, by rw [ck, if_neg (fun z => c0 (ld0.mp z)), if_neg (nI_pos (by omega)), if_pos (k2.mpr c)], i + 1, nI b, _, _, _, _, _, by omega, rfl, rfl, rfl, .inr ⟨b, hb1, rfl, rfl, rfl⟩⟩
        exact cls false (by
          rw [cl1]
          by_cases eq : s_sq (s_od n q i y mo g wi s r wr cs fr te as ho nu 8) r n * s_dn (s_od n q b y mo g wi s r wr cs fr te as ho nu 8) n = s_sq (s_od n q b y mo g wi s r wr cs fr te as ho nu 8) r n * s_dn (s_od n q i y mo g wi s r wr cs fr te as ho nu 8) n
          · rw [if_pos (k1.mpr eq)]
          · rw [if_neg (fun z => eq (k1.mp z)), if_pos (k2.mpr c)])
      · refine .inr ⟨11 - (i + 1), (nI i, nI (i + 1)), _, by omega, ?_, by rw [ck, if_neg (fun z => c0 (ld0.mp z)), if_neg (nI_pos (by omega)), if_neg (fun z => c (k2.mp z))], i + 1, nI i, _, _, _, _, _, by omega, rfl, rfl, rfl, .inr ⟨i, hi', rfl, rfl, rfl⟩⟩
        exact cls true (by rw [cl1, if_neg (fun z => by have := k1.mp z; omega), if_neg (fun z => c (k2.mp z))])) 11 (-6, 0) (-6, 0, 1, 0, nI w, A, B) ⟨0, -6, 0, 1, nI w, A, B, by omega, rfl, rfl, rfl, .inl rfl⟩
  obtain ⟨b, e, r1, r2, A', B', rfl⟩ := run
  refine ⟨b, sq', dy', A', B', e1, ?_, ?_⟩
  · unfold mX6_least mX6_least_b5
    exact r1
  · unfold mX10_bestWeight mX10_bestWeight_b16
    exact r2
theorem m_best {n q w : Nat} {y mo f g wi s r wr ki : Nat → Int32} {z0 : Int32} {g0 : Nat → Int32} {z1 : Int32} {g1 : Nat → Int32} {z2 : Int32} {g2 : Nat → Int32} {z3 : Int32} {g3 : Nat → Int32} {cs fr te as ho nu : Nat → Int32} (h : s_rel n q w y mo f g wi s r wr ki z0 g0 z1 g1 z2 g2 z3 g3 cs fr te as ho nu) (ws wd ta tw ts td : Nat → Int32) (A B : Int64) (p : Int32) : ∃ o a1 a2 a3 a4 a5 a6 A' B', mX9_best (nI q) (nI n) y r wr ki 11 ws wd ta tw 64 ts td p = some (o, a1, a2, a3, a4, a5, a6) ∧ mX10_best (nI n) (nI q) (nI w) A B y mo g wi s r wr cs fr te as ho nu p = some (o, nI q, nI w, A', B') := by
  unfold mX9_best mX10_best
  rw [m_isEnd]
  simp only [Option.bind_some, xb_d]
  by_cases c0 : p = 0
  · subst c0
    obtain ⟨b, all', wet', sq', dy', A', B', e1, e2⟩ := m_bestKeys h ta tw ts td A B
    rw [if_pos rfl, if_neg (not_not_intro (by decide)), if_pos rfl, e1, e2]
    exact ⟨_, _, _, _, _, _, _, _, _, rfl, rfl⟩
  rw [if_neg c0]
  by_cases c1 : p = 1
  · subst c1
    obtain ⟨b, sq', dy', A', B', e1, e2, e3⟩ := m_bestWeight h ws wd A B
    rw [if_pos rfl, if_neg (not_not_intro (by decide)), if_neg (by decide), e1, e3]
    simp only [Option.bind_some]
    rw [e2]
    exact ⟨_, _, _, _, _, _, _, _, _, rfl, rfl⟩
  · have hp : ¬ (0 ≤ p ∧ p ≤ 1) := fun z => by
      obtain ⟨t, ht, rfl⟩ := n_rng (m := 1) (by omega) z
      have : t = 0 ∨ t = 1 := by omega
      rcases this with rfl | rfl
      · exact c0 rfl
      · exact c1 rfl
    rw [if_neg c1, if_pos hp]
    exact ⟨_, _, _, _, _, _, _, _, _, rfl, rfl⟩
