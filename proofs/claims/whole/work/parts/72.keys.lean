/-! pure facts: days counted for all sets of keys at once -/
theorem s_kb : ∀ b, b < 6 → ∀ k, k < 64 → (k ||| 2 ^ b < 64 ∧ (k &&& 2 ^ b = 0 → k < k ||| 2 ^ b) ∧ ¬ (k ||| 2 ^ b) &&& 2 ^ b = 0) := by decide +kernel
def s_up (b : Nat) (F : Nat → Nat) (j : Nat) : Nat := if j &&& 2 ^ b = 0 then F j + F (j ||| 2 ^ b) else F j
def s_ups (F : Nat → Nat) : Nat → Nat → Nat | 0 => F | b + 1 => s_up b (s_ups F b)
/-- one pass over the sets of keys -/
theorem m_sup1 {b : Nat} (hb : b < 6) (F : Nat → Nat) (a : Nat → Int32) (ha : ∀ j, j < 64 → a j = nI (F j)) : ∃ a', mX4_addSupersets_b14 64 a (nI b) (nI (2 ^ b)) 0 = some (.inr (nI (b + 1), a')) ∧ ∀ j, j < 64 → a' j = nI (s_up b F j) := by
  unfold mX4_addSupersets_b14
  have p2 : ∀ b, b < 6 → 2 ^ b < 64 := by decide +kernel
  obtain ⟨c, r1, a', r2, r3⟩ := x_run (s := fun q : Int32 × (Nat → Int32) => mX4_addSupersets_s14 64 (nI b) (nI (2 ^ b)) q.1 q.2) (fun m q => ∃ k a', k ≤ 64 ∧ m = 64 - k ∧ q = (nI k, a') ∧ ∀ j, j < 64 → a' j = nI (if j < k then s_up b F j else F j)) (fun c => ∃ a', c = .inr (nI (b + 1), a') ∧ ∀ j, j < 64 → a' j = nI (s_up b F j)) (by
    rintro m q ⟨k, a', hk, rfl, rfl, hj⟩
    by_cases h64 : k = 64
    · subst h64
      refine .inl ⟨_, ?_, a', rfl, fun j h => by rw [hj j h, if_pos h]⟩
      try dsimp only
      unfold mX4_addSupersets_s14
      rw [if_pos (by decide), nI_1]
    have hk' : k < 64 := by omega
    obtain ⟨q1, q2, q3⟩ := s_kb b hb k hk'
    have andl : k &&& 2 ^ b ≤ k := Nat.and_le_left
    have i0 : (nI k &&& nI (2 ^ b) = 0) ↔ k &&& 2 ^ b = 0 := by
      rw [nx_and]
      exact n_eqI (b := 0) (by omega) (by omega)
    by_cases c0 : k &&& 2 ^ b = 0
    · refine .inr ⟨64 - (k + 1), (nI (k + 1), upd a' k (nI (s_up b F k))), by omega, ?_, k + 1, _, by omega, rfl, rfl, ?_⟩
      · try dsimp only
        unfold mX4_addSupersets_s14 mX4_addSupersets_b44
        rw [if_neg (show ¬ (64 : Int32) ≤ nI k from nI_ge (b := 64) hk' (by omega)), if_pos (i0.mpr c0), n_at (by omega) a' hk']
        simp only [Option.bind_some]
        rw [fa_or, n_at (by omega) a' q1]
        simp only [Option.bind_some]
        rw [n_put (by omega) a' hk', hj k hk', hj _ q1, if_neg (by omega), if_neg (by have := q2 c0; omega), nI_add, nI_1]
        unfold s_up
        rw [if_pos c0]
        rfl
      · intro j h
        by_cases e : j = k
        · subst e
          rw [pk_us, if_pos (by omega)]
        · rw [pk_un e, hj j h]
          by_cases l : j < k
          · rw [if_pos l, if_pos (by omega)]
          · rw [if_neg l, if_neg (by omega)]
    · refine .inr ⟨64 - (k + 1), (nI (k + 1), a'), by omega, ?_, k + 1, _, by omega, rfl, rfl, ?_⟩
      · try dsimp only
        unfold mX4_addSupersets_s14 mX4_addSupersets_b44
        rw [if_neg (show ¬ (64 : Int32) ≤ nI k from nI_ge (b := 64) hk' (by omega)), if_neg (fun z => c0 (i0.mp z)), nI_1]
      · intro j h
        rw [hj j h]
        by_cases e : j = k
        · subst e
          rw [if_neg (by omega), if_pos (by omega)]
          unfold s_up
          rw [if_neg c0]
        · by_cases l : j < k
          · rw [if_pos l, if_pos (by omega)]
          · rw [if_neg l, if_neg (by omega)]) 64 (0, a) ⟨0, a, by omega, rfl, rfl, fun j h => by rw [if_neg (by omega)]; exact ha j h⟩
  exact ⟨a', by rw [r1, r2], r3⟩
theorem m_sups (F : Nat → Nat) (a : Nat → Int32) (ha : ∀ j, j < 64 → a j = nI (F j)) : ∃ a', mX4_addSupersets 64 a = some a' ∧ ∀ j, j < 64 → a' j = nI (s_ups F 6 j) := by
  unfold mX4_addSupersets mX4_addSupersets_b2
  exact x_run (s := fun q : Int32 × (Nat → Int32) => mX4_addSupersets_s2 64 q.1 q.2) (fun m q => ∃ b a', b ≤ 6 ∧ m = 6 - b ∧ q = (nI b, a') ∧ ∀ j, j < 64 → a' j = nI (s_ups F b j)) (fun c => ∀ j, j < 64 → c j = nI (s_ups F 6 j)) (by
    rintro m q ⟨b, a', hb, rfl, rfl, hj⟩
    by_cases h6 : b = 6
    · subst h6
      refine .inl ⟨a', ?_, hj⟩
      try dsimp only
      unfold mX4_addSupersets_s2
      rw [if_pos (by decide)]
    have hb' : b < 6 := by omega
    obtain ⟨a2, e1, e2⟩ := m_sup1 hb' (s_ups F b) a' hj
    refine .inr ⟨6 - (b + 1), (nI (b + 1), a2), by omega, ?_, b + 1, a2, by omega, rfl, rfl, e2⟩
    try dsimp only
    unfold mX4_addSupersets_s2
    rw [if_neg (show ¬ (6 : Int32) ≤ nI b from nI_ge (b := 6) hb' (by omega)), s_shl1 b hb', e1]) 6 (0, a) ⟨0, a, by omega, rfl, rfl, ha⟩
/-- a holds the keys k as far as bit b, and is k above -/
def s_P (b a k : Nat) : Bool := decide ((a &&& k) % 2 ^ b = k % 2 ^ b ∧ a / 2 ^ b = k / 2 ^ b)
def s_i (b : Bool) : Nat := if b = true then 1 else 0
theorem s_P0 : ∀ a, a < 64 → ∀ k, k < 64 → s_P 0 a k = decide (a = k) := by decide +kernel
theorem s_P6 : ∀ a, a < 64 → ∀ k, k < 64 → s_P 6 a k = decide (a &&& k = k) := by decide +kernel
theorem s_Pb : ∀ b, b < 6 → ∀ a, a < 64 → ∀ k, k < 64 → s_i (s_P (b + 1) a k) = if k &&& 2 ^ b = 0 then s_i (s_P b a k) + s_i (s_P b a (k ||| 2 ^ b)) else s_i (s_P b a k) := by decide +kernel
/-- weights of the days whose keys are k, after the passes over the first b bits -/
theorem s_ups_sum (wt al : Nat → Nat) (n : Nat) (hal : ∀ o, o < n → al o < 64) : ∀ b, b ≤ 6 → ∀ k, k < 64 → s_ups (fun k => fb_sm (fun o => wt o * s_i (s_P 0 (al o) k)) n) b k = fb_sm (fun o => wt o * s_i (s_P b (al o) k)) n := by
  intro b
  induction b with
  | zero => intro _ k _; rfl
  | succ b ih =>
    intro hb k hk
    have ih' := ih (by omega)
    show s_up b (s_ups _ b) k = _
    unfold s_up
    have q := s_kb b (by omega) k hk
    by_cases c : k &&& 2 ^ b = 0
    · rw [if_pos c, ih' k hk, ih' _ q.1, ← fb_sm_add]
      refine fb_sm_cong (fun o ho => ?_)
      rw [s_Pb b (by omega) (al o) (hal o ho) k hk, if_pos c, Nat.mul_add]
    · rw [if_neg c, ih' k hk]
      refine fb_sm_cong (fun o ho => ?_)
      rw [s_Pb b (by omega) (al o) (hal o ho) k hk, if_neg c]
theorem s_ct_sm (p : Nat → Bool) : ∀ n, fb_ct p n = fb_sm (fun k => s_i (p k)) n
  | 0 => rfl
  | n + 1 => by
    rw [fb_ct_succ, fb_sm_succ, s_ct_sm p n]
    rfl
/-- the class's two counts by all keys -/
theorem m_countByKeys (y mo f g wi s r ki : Nat → Int32) (hb : s_bk y mo f g wi s r) {n : Nat} (hn : n ≤ 60) (hk : s_ks y mo g wi s r ki n) {d : Nat} (hd : d < n) (all wet : Nat → Int32) : ∃ all' wet', mX4_countByKeys all wet (nI n) y r ki (nI d) = some (all', wet') ∧ ∀ k, k < 64 → all' k = nI (s_cn y mo g wi s r k d false n) ∧ wet' k = nI (s_cn y mo g wi s r k d true n) := by
  -- the keys by which d and o are alike
  have kd : ∀ o, o < 60 → ∀ k, k < 6 → s_kd (s_key y mo g wi s r k o) ≤ 15 := fun o ho k h => s_kd_le (m_key y mo f g wi s r hb h ho).2.1
  have all64 : ∀ o, o < n → s_al (fun k => s_kd (s_key y mo g wi s r k d)) (fun k => s_kd (s_key y mo g wi s r k o)) < 64 := fun o _ => s_al_lt _ _
  have fin : ∀ (a w : Nat → Int32), (∀ j, j < 64 → a j = 0 ∧ w j = 0) → ∃ a' w', mX4_countByKeys_b34 a w (nI n) y r ki (nI d) 0 = some (a', w') ∧ ∀ k, k < 64 → a' k = nI (s_cn y mo g wi s r k d false n) ∧ w' k = nI (s_cn y mo g wi s r k d true n) := by
    intro a w haw
    unfold mX4_countByKeys_b34
    obtain ⟨c, r1, r2⟩ := x_run (s := fun q : Int32 × (Nat → Int32) × (Nat → Int32) => mX4_countByKeys_s34 (nI n) y r ki (nI d) q.1 q.2.1 q.2.2) (fun m q => ∃ o a w, o ≤ n ∧ m = n - o ∧ q = (nI o, a, w) ∧ ∀ j, j < 64 → a j = nI (fb_sm (fun o => s_i (s_b (¬ y d = y o)) * s_i (s_P 0 (s_al (fun k => s_kd (s_key y mo g wi s r k d)) (fun k => s_kd (s_key y mo g wi s r k o))) j)) o) ∧ w j = nI (fb_sm (fun o => (s_i (s_b (¬ y d = y o)) * s_i (s_b (r o = 1))) * s_i (s_P 0 (s_al (fun k => s_kd (s_key y mo g wi s r k d)) (fun k => s_kd (s_key y mo g wi s r k o))) j)) o)) (fun c => ∀ k, k < 64 → c.1 k = nI (s_cn y mo g wi s r k d false n) ∧ c.2 k = nI (s_cn y mo g wi s r k d true n)) (by
      rintro m q ⟨o, a, w, ho, rfl, rfl, hj⟩
      by_cases hon : o = n
      · subst hon
        obtain ⟨a1, e1, e2⟩ := m_sups _ a (fun j h => (hj j h).1)
        obtain ⟨w1, e3, e4⟩ := m_sups _ w (fun j h => (hj j h).2)
        refine .inl ⟨(a1, w1), ?_, fun k h => ⟨?_, ?_⟩⟩
        · try dsimp only
          unfold mX4_countByKeys_s34
          rw [if_pos (nI_le (Nat.le_refl o) (by omega)), e1]
          simp only [Option.bind_some]
          rw [e3]
          rfl
        · refine (e2 k h).trans ?_
          rw [s_ups_sum _ _ o all64 6 (Nat.le_refl 6) k h]
          unfold s_cn
          rw [s_ct_sm]
          congr 1
          refine fb_sm_cong (fun z hz => ?_)
          rw [s_P6 _ (all64 z hz) k h]
          by_cases c : y d = y z
          · rw [s_b_f (not_not_intro c), s_b_f (fun q => q.1.1 c)]
            show 0 * _ = 0
            rw [Nat.zero_mul]
          · rw [s_b_t c]
            show 1 * _ = _
            rw [Nat.one_mul]
            congr 1
            rw [s_b_d]
            refine s_b_iff ((s_sim_al y mo f g wi s r hb h (by omega) (by omega) c).trans ⟨fun q => ⟨q, fun q => absurd q (by decide)⟩, fun q => q.1⟩)
        · refine (e4 k h).trans ?_
          rw [s_ups_sum _ _ o all64 6 (Nat.le_refl 6) k h]
          unfold s_cn
          rw [s_ct_sm]
          congr 1
          refine fb_sm_cong (fun z hz => ?_)
          rw [s_P6 _ (all64 z hz) k h]
          by_cases c : y d = y z
          · rw [s_b_f (not_not_intro c), s_b_f (P := s_sim y mo g wi s r k d z ∧ (true = true → r z = 1)) (fun q => q.1.1 c)]
            show 0 * _ * _ = 0
            rw [Nat.zero_mul, Nat.zero_mul]
          · rw [s_b_t c]
            by_cases c1 : r z = 1
            · rw [s_b_t c1]
              show 1 * 1 * _ = _
              simp only [Nat.one_mul]
              congr 1
              rw [s_b_d]
              refine s_b_iff ((s_sim_al y mo f g wi s r hb h (by omega) (by omega) c).trans ⟨fun q => ⟨q, fun _ => c1⟩, fun q => q.1⟩)
            · rw [s_b_f c1, s_b_f (fun q => c1 (q.2 rfl))]
              show 1 * 0 * _ = 0
              rw [Nat.mul_zero, Nat.zero_mul]
      have ho' : o < n := by omega
      by_cases c : y d = y o
      · refine .inr ⟨n - (o + 1), (nI (o + 1), a, w), by omega, ?_, o + 1, a, w, by omega, rfl, rfl, fun j h => ?_⟩
        · try dsimp only
          unfold mX4_countByKeys_s34 mX4_countByKeys_b103 mX0_inOtherYears
          rw [if_neg (nI_ge ho' (by omega)), n_at (by omega) y (i := d) (by omega), n_at (by omega) y (i := o) (by omega)]
          simp only [Option.bind_some]
          rw [if_pos c]
          simp only [Option.bind_some]
          rw [if_pos xb_f, nI_1]
        · rw [fb_sm_succ, fb_sm_succ, s_b_f (not_not_intro c)]
          have z0 : ∀ v, s_i false * v = 0 := fun v => Nat.zero_mul v
          rw [z0, z0, Nat.zero_mul, Nat.add_zero, Nat.add_zero]
          exact hj j h
      · obtain ⟨ra, rb⟩ := m_rain hb (d := o) (by omega)
        have al := m_alike _ _ (kd d (by omega)) (kd o (by omega)) ki (by omega) (by omega) (hk d hd) (hk o ho')
        have l64 := all64 o ho'
        refine .inr ⟨n - (o + 1), (nI (o + 1), upd a (s_al (fun k => s_kd (s_key y mo g wi s r k d)) (fun k => s_kd (s_key y mo g wi s r k o))) (a (s_al (fun k => s_kd (s_key y mo g wi s r k d)) (fun k => s_kd (s_key y mo g wi s r k o))) + 1), upd w (s_al (fun k => s_kd (s_key y mo g wi s r k d)) (fun k => s_kd (s_key y mo g wi s r k o))) (w (s_al (fun k => s_kd (s_key y mo g wi s r k d)) (fun k => s_kd (s_key y mo g wi s r k o))) + r o)), by omega, ?_, o + 1, _, _, by omega, rfl, rfl, fun j h => ?_⟩
        · try dsimp only
          unfold mX4_countByKeys_s34 mX4_countByKeys_b103 mX0_inOtherYears
          rw [if_neg (nI_ge ho' (by omega)), n_at (by omega) y (i := d) (by omega), n_at (by omega) y (i := o) (by omega)]
          simp only [Option.bind_some]
          rw [if_neg c]
          simp only [Option.bind_some]
          rw [if_neg xb_n, al]
          simp only [Option.bind_some]
          rw [n_at (by omega) a l64]
          simp only [Option.bind_some]
          rw [n_put (by omega) a l64]
          simp only [Option.bind_some]
          rw [n_at (by omega) w l64]
          simp only [Option.bind_some]
          rw [ra]
          simp only [Option.bind_some]
          rw [n_put (by omega) w l64]
          simp only [Option.bind_some]
          rw [nI_1]
        · rw [fb_sm_succ, fb_sm_succ, s_b_t c, s_P0 _ l64 j h]
          by_cases e : j = s_al (fun k => s_kd (s_key y mo g wi s r k d)) (fun k => s_kd (s_key y mo g wi s r k o))
          · rw [← e, pk_us, pk_us, (hj j h).1, (hj j h).2, decide_eq_true rfl]
            refine ⟨?_, ?_⟩
            · rw [nI_1]
              rfl
            · rcases rb with q | q
              · rw [q, s_b_f (by decide), Int32.add_zero]
                rfl
              · rw [q, s_b_t rfl, nI_1]
                rfl
          · rw [pk_un e, pk_un e, decide_eq_false (fun q => e q.symm)]
            have z0 : ∀ v, v * s_i false = 0 := fun v => Nat.mul_zero v
            rw [z0, z0, Nat.add_zero, Nat.add_zero]
            exact hj j h) n (0, a, w) ⟨0, a, w, by omega, rfl, rfl, fun j h => haw j h⟩
    exact ⟨c.1, c.2, r1, r2⟩
  unfold mX4_countByKeys mX4_countByKeys_b2
  obtain ⟨c, r1, r2⟩ := x_run (s := fun q : Int32 × (Nat → Int32) × (Nat → Int32) => mX4_countByKeys_s2 (nI n) y r ki (nI d) q.1 q.2.1 q.2.2) (fun m q => ∃ k a w, k ≤ 64 ∧ m = 64 - k ∧ q = (nI k, a, w) ∧ ∀ j, j < k → a j = 0 ∧ w j = 0) (fun c => ∀ k, k < 64 → c.1 k = nI (s_cn y mo g wi s r k d false n) ∧ c.2 k = nI (s_cn y mo g wi s r k d true n)) (by
    rintro m q ⟨k, a, w, hk1, rfl, rfl, hj⟩
    by_cases h64 : k = 64
    · subst h64
      obtain ⟨a', w', e1, e2⟩ := fin a w hj
      refine .inl ⟨(a', w'), ?_, e2⟩
      try dsimp only
      unfold mX4_countByKeys_s2
      rw [if_pos (by decide), e1]
      rfl
    have hk' : k < 64 := by omega
    refine .inr ⟨64 - (k + 1), (nI (k + 1), upd a k 0, upd w k 0), by omega, ?_, k + 1, _, _, by omega, rfl, rfl, fun j h => ?_⟩
    · try dsimp only
      unfold mX4_countByKeys_s2
      rw [if_neg (show ¬ (64 : Int32) ≤ nI k from nI_ge (b := 64) hk' (by omega)), n_put (by omega) a hk']
      simp only [Option.bind_some]
      rw [n_put (by omega) w hk']
      simp only [Option.bind_some]
      rw [nI_1]
    · by_cases e : j = k
      · subst e
        exact ⟨pk_us, pk_us⟩
      · rw [pk_un e, pk_un e]
        exact hj j (by omega)) 64 (0, all, wet) ⟨0, all, wet, by omega, rfl, rfl, fun j h => absurd h (Nat.not_lt_zero j)⟩
  exact ⟨c.1, c.2, r1, r2⟩
