/-! pure facts: the engraver's words; the low -/
theorem m_rightBy {y mo f g wi s r : Nat → Int32} (hb : s_bk y mo f g wi s r) {n : Nat} (hn : n ≤ 60) {h : Nat} (hh : h ≤ 40) : ∃ o, mX0_countRight (nI n) f r (nI h) = some o ∧ mX10_rightBy (nI n) g r (nI h) = some o := by
  obtain ⟨a, b, r1, r2, r3⟩ := x_pair (s1 := fun z : Int32 × Int32 => mX0_countRight_s4 (nI n) f r (nI h) z.1 z.2) (s2 := fun z : Int32 × Int32 => mX10_rightBy_s4 (nI n) g r (nI h) z.1 z.2) (fun m x z => ∃ k e, k ≤ n ∧ m = n - k ∧ x = (e, nI k) ∧ z = (e, nI k)) (fun c d => c = d) (by
    rintro m x z ⟨k, e, hk, rfl, rfl, rfl⟩
    by_cases hkn : k = n
    · subst hkn
      refine .inl ⟨e, e, ?_, ?_, rfl⟩
      · try dsimp only
        unfold mX0_countRight_s4
        rw [if_pos (nI_le (Nat.le_refl k) (by omega))]
      · try dsimp only
        unfold mX10_rightBy_s4
        rw [if_pos (nI_le (Nat.le_refl k) (by omega))]
    have hk' : k < n := by omega
    obtain ⟨ra1, ra2⟩ := m_rain hb (d := k) (by omega)
    have xk : x_in (nI k) 60 := n_xin (by omega) (by omega)
    have ck : (nI k).toNatClampNeg = k := nI_clamp (by omega)
    have n10 : ¬ (1 : Int32) = 0 := by decide
    have n01 : ¬ (0 : Int32) = 1 := by decide
    rcases hb.1 k (by omega) with ⟨g1, f1⟩ | ⟨g1, g2, f1⟩
    · -- no press
      have gn : g k < 0 := by rw [i_lt, Int32.toInt_zero]; omega
      have b67 : ∀ v, mX10_rightBy_b68 (nI n) g r (nI h) e (nI k) v = some (.inr (e, nI (k + 1))) := by
        intro v
        unfold mX10_rightBy_b68 mX10_rightBy_b89 mX10_rightBy_b90
        rw [x_ny xk, ck, if_pos gn, Int32.add_zero, nI_1]
      refine .inr ⟨n - (k + 1), (e, nI (k + 1)), (e, nI (k + 1)), by omega, ?_, ?_, k + 1, e, by omega, rfl, rfl, rfl⟩
      · try dsimp only
        unfold mX0_countRight_s4 mX0_countRight_b47
        rw [if_neg (nI_ge hk' (by omega)), n_at (by omega) f (i := k) (by omega)]
        simp only [Option.bind_some]
        rw [if_pos f1, nI_1]
      · try dsimp only
        unfold mX10_rightBy_s4 mX10_rightBy_b67
        rw [if_neg (nI_ge hk' (by omega))]
        simp only [x_ny xk, ck]
        rw [b67, b67, ite_self, ite_self, ite_self, ite_self]
    · have gp : ¬ g k < 0 := by rw [i_lt, Int32.toInt_zero]; omega
      have f6 : ¬ f k = -6 := fun q => by rw [f1, i_eq, show (-6 : Int32).toInt = -6 by decide] at q; omega
      have b68 : ∀ v : Int32, mX10_rightBy_b68 (nI n) g r (nI h) e (nI k) v = some (.inr (if v = 0 then e else e + 1, nI (k + 1))) := by
        intro v
        unfold mX10_rightBy_b68 mX10_rightBy_b89 mX10_rightBy_b90
        rw [x_ny xk, ck, if_neg gp, nI_1, Int32.add_zero]
        by_cases hv : v = 0
        · rw [if_pos hv, if_pos hv]
        · rw [if_neg hv, if_neg hv]
      by_cases c1 : 40 ≤ g k + nI h
      · by_cases c2 : g k + nI h < 60
        · refine .inr ⟨n - (k + 1), (e, nI (k + 1)), (e, nI (k + 1)), by omega, ?_, ?_, k + 1, e, by omega, rfl, rfl, rfl⟩
          · try dsimp only
            unfold mX0_countRight_s4 mX0_countRight_b47 mX0_meant
            rw [if_neg (nI_ge hk' (by omega)), n_at (by omega) f (i := k) (by omega)]
            simp only [Option.bind_some]
            rw [if_neg f6, f1, if_pos c1, if_pos c2, ra1]
            simp only [Option.bind_some]
            have : ¬ (-6 : Int32) = r k := by rcases ra2 with q | q <;> rw [q] <;> decide
            rw [if_neg this, nI_1]
          · try dsimp only
            unfold mX10_rightBy_s4 mX10_rightBy_b67
            rw [if_neg (nI_ge hk' (by omega))]
            simp only [x_ny xk, ck]
            rw [if_pos c1, if_pos c2, b68, if_pos rfl]
        · rcases ra2 with q | q
          · refine .inr ⟨n - (k + 1), (e + 1, nI (k + 1)), (e + 1, nI (k + 1)), by omega, ?_, ?_, k + 1, e + 1, by omega, rfl, rfl, rfl⟩
            · try dsimp only
              unfold mX0_countRight_s4 mX0_countRight_b47 mX0_meant
              rw [if_neg (nI_ge hk' (by omega)), n_at (by omega) f (i := k) (by omega)]
              simp only [Option.bind_some]
              rw [if_neg f6, f1, if_pos c1, if_neg c2, ra1]
              simp only [Option.bind_some]
              rw [if_pos q.symm, nI_1]
            · try dsimp only
              unfold mX10_rightBy_s4
              rw [if_neg (nI_ge hk' (by omega))]
              simp only [x_ny xk, ck]
              rw [if_pos c1, if_neg c2, if_pos q, b68, if_neg n10]
          · refine .inr ⟨n - (k + 1), (e, nI (k + 1)), (e, nI (k + 1)), by omega, ?_, ?_, k + 1, e, by omega, rfl, rfl, rfl⟩
            · try dsimp only
              unfold mX0_countRight_s4 mX0_countRight_b47 mX0_meant
              rw [if_neg (nI_ge hk' (by omega)), n_at (by omega) f (i := k) (by omega)]
              simp only [Option.bind_some]
              rw [if_neg f6, f1, if_pos c1, if_neg c2, ra1]
              simp only [Option.bind_some]
              rw [if_neg (by rw [q]; exact n01), nI_1]
            · try dsimp only
              unfold mX10_rightBy_s4 mX10_rightBy_b67
              rw [if_neg (nI_ge hk' (by omega))]
              simp only [x_ny xk, ck]
              rw [if_pos c1, if_neg c2, if_neg (by rw [q]; exact n10), b68, if_pos rfl]
      · rcases ra2 with q | q
        · refine .inr ⟨n - (k + 1), (e, nI (k + 1)), (e, nI (k + 1)), by omega, ?_, ?_, k + 1, e, by omega, rfl, rfl, rfl⟩
          · try dsimp only
            unfold mX0_countRight_s4 mX0_countRight_b47 mX0_meant
            rw [if_neg (nI_ge hk' (by omega)), n_at (by omega) f (i := k) (by omega)]
            simp only [Option.bind_some]
            rw [if_neg f6, f1, if_neg c1, ra1]
            simp only [Option.bind_some]
            rw [if_neg (by rw [q]; exact n10), nI_1]
          · try dsimp only
            unfold mX10_rightBy_s4
            rw [if_neg (nI_ge hk' (by omega))]
            simp only [x_ny xk, ck]
            rw [if_neg c1, if_neg (by rw [q]; exact n01), b68, if_pos rfl]
        · refine .inr ⟨n - (k + 1), (e + 1, nI (k + 1)), (e + 1, nI (k + 1)), by omega, ?_, ?_, k + 1, e + 1, by omega, rfl, rfl, rfl⟩
          · try dsimp only
            unfold mX0_countRight_s4 mX0_countRight_b47 mX0_meant
            rw [if_neg (nI_ge hk' (by omega)), n_at (by omega) f (i := k) (by omega)]
            simp only [Option.bind_some]
            rw [if_neg f6, f1, if_neg c1, ra1]
            simp only [Option.bind_some]
            rw [if_pos q.symm, nI_1]
          · try dsimp only
            unfold mX10_rightBy_s4
            rw [if_neg (nI_ge hk' (by omega))]
            simp only [x_ny xk, ck]
            rw [if_neg c1, if_pos q, b68, if_neg n10]) n (0, 0) (0, 0) ⟨0, 0, by omega, rfl, rfl, rfl⟩
  refine ⟨a, ?_, ?_⟩
  · unfold mX0_countRight mX0_countRight_b4
    exact r1
  · unfold mX10_rightBy mX10_rightBy_b4
    rw [r3]
    exact r2
theorem m_right {y mo f g wi s r : Nat → Int32} (hb : s_bk y mo f g wi s r) {n : Nat} (hn : n ≤ 60) (p : Int32) : ∃ o, mX9_right (nI n) f r p = some o ∧ mX10_right (nI n) g r p = some o := by
  unfold mX9_right mX10_right
  rw [m_within p 0 40, show mX10_in p.toInt64 0 40 = some (decide (0 ≤ p ∧ p ≤ 40)) from m_in p 0 40]
  simp only [Option.bind_some, xb_d]
  by_cases h1 : 0 ≤ p ∧ p ≤ 40
  · rw [if_neg (not_not_intro h1), if_neg (not_not_intro h1)]
    obtain ⟨h, hh, rfl⟩ := n_rng (m := 40) (by omega) h1
    obtain ⟨o, e1, e2⟩ := m_rightBy hb hn hh
    rw [e1, e2]
    exact ⟨_, rfl, rfl⟩
  · rw [if_pos h1, if_pos h1]
    exact ⟨_, rfl, rfl⟩
theorem m_engraved {y mo f g wi s r : Nat → Int32} (hb : s_bk y mo f g wi s r) {n : Nat} (hn : n ≤ 60) (p : Int32) : ∃ o, mX9_engraved (nI n) f r p = some o ∧ mX10_engraved (nI n) g r p = some o := by
  unfold mX9_engraved mX10_engraved
  rw [m_within p 0 1, m_isEnd]
  simp only [Option.bind_some, xb_d]
  by_cases h1 : 0 ≤ p ∧ p ≤ 1
  · rw [if_neg (not_not_intro h1), if_neg (not_not_intro h1)]
    obtain ⟨o0, z1, z2⟩ := m_rightBy hb hn (h := 0) (by omega)
    rw [show (0 : Int32) = nI 0 from rfl, z1]
    simp only [Option.bind_some]
    obtain ⟨a, b, r1, r2, r3⟩ := x_pair (s1 := fun z : Int32 × Int32 × Int32 => mX9_engraved_s29 (nI n) f r p z.1 z.2.1 z.2.2) (s2 := fun z : Int32 × Int32 => mX10_engraved_s14 (nI n) g r p z.1 z.2) (fun m x z => ∃ k b o, k ≤ 41 ∧ m = 41 - k ∧ b ≤ 40 ∧ x = (nI b, o, nI k) ∧ z = (nI b, nI k) ∧ mX10_rightBy (nI n) g r (nI b) = some o) (fun c d => c = d) (by
      rintro m x z ⟨k, b, o, hk, rfl, hbb, rfl, rfl, ho⟩
      by_cases hk4 : k = 41
      · subst hk4
        by_cases p0 : p = 0
        · refine .inl ⟨nI b, nI b, ?_, ?_, rfl⟩
          · try dsimp only
            unfold mX9_engraved_s29
            rw [if_pos (by decide), if_pos p0]
          · try dsimp only
            unfold mX10_engraved_s14
            rw [if_pos (by decide), if_pos p0]
        · refine .inl ⟨o, o, ?_, ?_, rfl⟩
          · try dsimp only
            unfold mX9_engraved_s29
            rw [if_pos (by decide), if_neg p0]
          · try dsimp only
            unfold mX10_engraved_s14
            rw [if_pos (by decide), if_neg p0, ho]
            rfl
      have n40 : ¬ (40 : Int32) < nI k := nI_nlt (a := 40) (show k ≤ 40 by omega) (by omega)
      obtain ⟨o2, e1, e2⟩ := m_rightBy hb hn (h := k) (by omega)
      by_cases c : o2 ≤ o
      · refine .inr ⟨41 - (k + 1), (nI b, o, nI (k + 1)), (nI b, nI (k + 1)), by omega, ?_, ?_, k + 1, b, o, by omega, rfl, hbb, rfl, rfl, ho⟩
        · try dsimp only
          unfold mX9_engraved_s29 mX9_engraved_b62
          rw [if_neg n40, e1]
          simp only [Option.bind_some]
          rw [if_pos c, nI_1]
        · try dsimp only
          unfold mX10_engraved_s14 mX10_engraved_b38
          rw [if_neg n40, e2, ho]
          simp only [Option.bind_some]
          rw [if_pos c, nI_1]
      · refine .inr ⟨41 - (k + 1), (nI k, o2, nI (k + 1)), (nI k, nI (k + 1)), by omega, ?_, ?_, k + 1, k, o2, by omega, rfl, by omega, rfl, rfl, e2⟩
        · try dsimp only
          unfold mX9_engraved_s29 mX9_engraved_b62
          rw [if_neg n40, e1]
          simp only [Option.bind_some]
          rw [if_neg c, nI_1]
        · try dsimp only
          unfold mX10_engraved_s14 mX10_engraved_b38
          rw [if_neg n40, e2, ho]
          simp only [Option.bind_some]
          rw [if_neg c, nI_1]) 40 (nI 0, o0, 1) (nI 0, 1) ⟨1, 0, o0, by omega, rfl, by omega, rfl, rfl, z2⟩
    unfold mX9_engraved_b29 mX10_engraved_b14
    rw [r1, r2, r3]
    exact ⟨_, rfl, rfl⟩
  · rw [if_pos h1, if_pos h1]
    exact ⟨_, rfl, rfl⟩
def s_D (a b : Nat) : Nat := if a < b then b - a else a - b
theorem m_abs {a b : Nat} (ha : a < 1073741824) (hb : b < 1073741824) : (if 0 ≤ nI a - nI b then nI a - nI b else 0 - (nI a - nI b)) = nI (s_D a b) := by
  unfold s_D
  by_cases c : a < b
  · have : nI a - nI b < 0 := pk_sneg (by omega) c
    rw [if_neg (by rw [i_le]; rw [i_lt] at this; omega), if_pos c, Int32.zero_sub, Int32.neg_sub]
    exact pk_sub (by omega)
  · rw [pk_sub (show b ≤ a by omega), if_pos (nI_pos' (by omega)), if_neg c]
theorem m_apart {a b : Nat} (ha : a < 1073741824) (hb : b < 1073741824) : mX10_apart (nI a) (nI b) = some (nI (s_D a b)) := by
  unfold mX10_apart s_D
  by_cases c : a < b
  · rw [if_neg (nI_ge c (by omega)), if_pos c, pk_sub (by omega)]
  · rw [if_pos (nI_le (by omega) (by omega)), if_neg c, pk_sub (by omega)]
theorem m_eighth0 : ∀ a, a < 17 → ∀ b, b < 17 → mX2_eighth (nI a - nI 8) (nI b - nI 8) = mX10_towards (nI a - nI 8) (nI b - nI 8) ∧ (mX10_towards (nI a - nI 8) (nI b - nI 8)).isSome = true := by decide +kernel
theorem m_shift {a b : Nat} (ha : a ≤ 8) (hb : b ≤ 8) : nI a - nI b = nI (a + 8 - b) - nI 8 := by
  rw [← pk_sub (show b ≤ a + 8 by omega), ← nI_add, Int32.sub_sub, Int32.add_comm (nI b), ← Int32.sub_sub, Int32.add_sub_cancel]
theorem m_eighth {a b c d : Nat} (ha : a ≤ 8) (hb : b ≤ 8) (hc : c ≤ 8) (hd : d ≤ 8) : ∃ o, mX2_eighth (nI a - nI b) (nI c - nI d) = some o ∧ mX10_towards (nI a - nI b) (nI c - nI d) = some o := by
  rw [m_shift ha hb, m_shift hc hd]
  obtain ⟨e1, e2⟩ := m_eighth0 (a + 8 - b) (by omega) (c + 8 - d) (by omega)
  obtain ⟨o, ho⟩ := Option.isSome_iff_exists.mp e2
  exact ⟨o, e1.trans ho, ho⟩
/-- the looks at the low: z of them -/
def s_cht (z : Nat) (xs ys ps ws : Nat → Int32) : Prop := z ≤ 4 ∧ ∀ j, j < 4 → (∃ a, a ≤ 8 ∧ xs j = nI a) ∧ (∃ a, a ≤ 8 ∧ ys j = nI a) ∧ (∃ a, a ≤ 99 ∧ ps j = nI a) ∧ (∃ a, a ≤ 7 ∧ ws j = nI a)
theorem m_fit1 {z : Nat} {xs ys ps ws : Nat → Int32} (hc : s_cht z xs ys ps ws) {i x y d ca : Nat} (hi : i < z) (hx : x ≤ 8) (hy : y ≤ 8) (hd : d ≤ 9) (hca : ca ≤ 20) : ∃ t : Bool, mX2_fitsAll_s3 (nI z) xs ys ps ws (nI x) (nI y) (nI d) (nI ca) (nI i) = some (if t = true then .inr (nI (i + 1)) else .inl false) ∧ mX10_fits (nI ca) xs ys ps ws (nI i) (nI x) (nI y) (nI d) = some t := by
  have hz := hc.1
  obtain ⟨⟨X, X1, X2⟩, ⟨Y, Y1, Y2⟩, ⟨P, P1, P2⟩, ⟨W, W1, W2⟩⟩ := hc.2 i (by omega)
  have xi : x_in (nI i) 4 := n_xin (by omega) (by omega)
  have ci : (nI i).toNatClampNeg = i := nI_clamp (by omega)
  have D1 : s_D x X ≤ 8 := by unfold s_D; split <;> omega
  have D2 : s_D y Y ≤ 8 := by unfold s_D; split <;> omega
  obtain ⟨F, hF, F1, F2⟩ : ∃ F, F ≤ 8 ∧ (if nI (s_D x X) < nI (s_D y Y) then nI (s_D y Y) else nI (s_D x X)) = nI F ∧ (if s_D y Y ≤ s_D x X then s_D x X else s_D y Y) = F := by
    refine ⟨if s_D y Y ≤ s_D x X then s_D x X else s_D y Y, ?_, ?_, rfl⟩
    · split <;> omega
    · by_cases c : s_D y Y ≤ s_D x X
      · rw [if_pos c, if_neg (nI_nlt c (by omega))]
      · rw [if_neg c, if_pos (nI_lt (by omega) (by omega))]
  have m10 : (10 : Int32) * nI d = nI (10 * d) := pk_mul 10 d
  have m8 : (8 : Int32) * nI F = nI (8 * F) := pk_mul 8 F
  have less1 : (if 0 < nI (10 * d) - nI (8 * F) then nI (10 * d) - nI (8 * F) else 0) = nI (10 * d - 8 * F) := by
    by_cases c : 8 * F < 10 * d
    · rw [pk_sub (by omega), if_pos (by rw [show (0 : Int32) = nI 0 from rfl]; exact nI_lt (by omega) (by omega))]
    · rw [show 10 * d - 8 * F = 0 by omega]
      by_cases c2 : 10 * d = 8 * F
      · rw [c2, pk_sub (Nat.le_refl _), Nat.sub_self, if_neg (by decide)]
        rfl
      · have : nI (10 * d) - nI (8 * F) < 0 := pk_sneg (by omega) (by omega)
        rw [if_neg (by rw [i_lt]; rw [i_lt] at this; omega)]
        rfl
  have p90 : (90 : Int32) - nI (10 * d - 8 * F) = nI (90 - (10 * d - 8 * F)) := pk_sub (a := 90) (by omega)
  have w8 : (nI W + 2) - (nI W + 2) / 8 * 8 = nI ((W + 2) % 8) := by
    rw [show nI W + 2 = nI (W + 2) from nI_add W 2]
    exact pk_rem (d := 8) (by omega) (by omega) (by omega)
  obtain ⟨o, q1, q2⟩ := m_eighth hx X1 hy Y1
  have cls : ∀ v, (if nI ca < nI (s_D (90 - (10 * d - 8 * F)) P) then (some (.inl false)) else if o = nI ((W + 2) % 8) then (some (.inr (nI (i + 1)))) else (some (.inl false))) = v → mX2_fitsAll_s3 (nI z) xs ys ps ws (nI x) (nI y) (nI d) (nI ca) (nI i) = v := by
    intro v hv
    unfold mX2_fitsAll_s3 mX2_fitsAll_b97
    rw [if_neg (nI_ge hi (by omega)), n_at (by omega) xs (i := i) (by omega), n_at (by omega) ys (i := i) (by omega), n_at (by omega) ps (i := i) (by omega), n_at (by omega) ws (i := i) (by omega)]
    simp only [Option.bind_some]
    rw [X2, Y2, P2, W2, m_abs (a := x) (b := X) (by omega) (by omega), m_abs (a := y) (b := Y) (by omega) (by omega), F1, m10, m8, less1, p90, m_abs (a := 90 - (10 * d - 8 * F)) (b := P) (by omega) (by omega), q1, w8]
    simp only [Option.bind_some]
    rw [if_pos trivial, if_neg (show ¬ (1 : Int32) = 0 by decide), nI_1]
    exact hv
  have ref : mX10_fits (nI ca) xs ys ps ws (nI i) (nI x) (nI y) (nI d) = (if nI ca < nI (s_D (90 - (10 * d - 8 * F)) P) then (some false) else if o = nI ((W + 2) % 8) then (some true) else (some false)) := by
    have b90 : ∀ t, 90 - t = nI (90 - (10 * d - 8 * F)) → mX10_fits_b90 (nI ca) xs ys ps ws (nI i) (nI x - nI X) (nI y - nI Y) 90 t = (if nI ca < nI (s_D (90 - (10 * d - 8 * F)) P) then (some false) else if o = nI ((W + 2) % 8) then (some true) else (some false)) := by
      intro t ht
      unfold mX10_fits_b90
      simp only [x_ny xi, ci, P2, W2]
      rw [ht, m_apart (by omega) (by omega)]
      simp only [Option.bind_some]
      rw [q2]
      simp only [Option.bind_some]
      rw [w8]
    have b62 : ∀ t, t = nI F → mX10_fits_b62 (nI ca) xs ys ps ws (nI i) (nI d) (nI x - nI X) (nI y - nI Y) t = (if nI ca < nI (s_D (90 - (10 * d - 8 * F)) P) then (some false) else if o = nI ((W + 2) % 8) then (some true) else (some false)) := by
      rintro t rfl
      unfold mX10_fits_b62
      rw [m10, m8]
      by_cases c : 8 * F ≤ 10 * d
      · rw [pk_sub c, if_pos (nI_pos' (by omega))]
        exact b90 _ p90
      · have : nI (10 * d) - nI (8 * F) < 0 := pk_sneg (by omega) (by omega)
        rw [if_neg (by rw [i_le]; rw [i_lt] at this; omega)]
        refine b90 0 ?_
        rw [show 10 * d - 8 * F = 0 by omega]
        decide
    unfold mX10_fits
    simp only [x_ny xi, ci, X2, Y2]
    rw [m_apart (by omega) (by omega), m_apart (by omega) (by omega)]
    simp only [Option.bind_some]
    by_cases c : s_D y Y ≤ s_D x X
    · rw [if_pos (nI_le c (by omega))]
      exact b62 _ (by rw [← F2, if_pos c])
    · rw [if_neg (nI_ge (by omega) (by omega))]
      exact b62 _ (by rw [← F2, if_neg c])
  by_cases c1 : nI ca < nI (s_D (90 - (10 * d - 8 * F)) P)
  · exact ⟨false, cls _ (by rw [if_pos c1]; rfl), by rw [ref, if_pos c1]⟩
  · by_cases c2 : o = nI ((W + 2) % 8)
    · exact ⟨true, cls _ (by rw [if_neg c1, if_pos c2]; rfl), by rw [ref, if_neg c1, if_pos c2]⟩
    · exact ⟨false, cls _ (by rw [if_neg c1, if_neg c2]; rfl), by rw [ref, if_neg c1, if_neg c2]⟩
theorem m_waysAt {z : Nat} {xs ys ps ws : Nat → Int32} (hc : s_cht z xs ys ps ws) {x y ca : Nat} (hx : x ≤ 8) (hy : y ≤ 8) (hca : ca ≤ 20) : ∃ c, c ≤ 9 ∧ mX2_waysAt (nI z) xs ys ps ws (nI x) (nI y) (nI ca) = some (nI c) ∧ mX10_waysAt (nI ca) (nI z) xs ys ps ws (nI x) (nI y) = some (nI c) := by
  have hz := hc.1
  -- one depth: both say whether all looks fit
  have depth : ∀ d, d ≤ 9 → ∃ t : Bool, mX2_fitsAll (nI z) xs ys ps ws (nI x) (nI y) (nI d) (nI ca) = some t ∧ ∀ c, mX10_waysAt_b18 (nI ca) (nI z) xs ys ps ws (nI x) (nI y) (nI c) (nI d) 1 0 = some (.inr (nI (if t = true then c + 1 else c), nI (d + 1))) := by
    intro d hd
    have fin0 : ∀ c i, mX10_waysAt_b18 (nI ca) (nI z) xs ys ps ws (nI x) (nI y) (nI c) (nI d) 0 i = some (.inr (nI c, nI (d + 1))) := by
      intro c i
      unfold mX10_waysAt_b18
      refine x_loop_inl ?_
      try dsimp only
      unfold mX10_waysAt_s18 mX10_waysAt_b50 mX10_waysAt_b61
      rw [if_pos (show (0 : Int32) = 0 from rfl), if_pos (show (0 : Int32) = 0 from rfl), ite_self, Int32.add_zero, nI_1]
      rfl
    have go : ∀ m i, z - i ≤ m → i ≤ z → ∃ t : Bool, mX2_fitsAll_b3 (nI z) xs ys ps ws (nI x) (nI y) (nI d) (nI ca) (nI i) = some t ∧ ∀ c, mX10_waysAt_b18 (nI ca) (nI z) xs ys ps ws (nI x) (nI y) (nI c) (nI d) 1 (nI i) = some (.inr (nI (if t = true then c + 1 else c), nI (d + 1))) := by
      intro m
      induction m with
      | zero =>
        intro i h1 h2
        have e : i = z := by omega
        subst e
        refine ⟨true, ?_, fun c => ?_⟩
        · unfold mX2_fitsAll_b3
          refine x_loop_inl ?_
          try dsimp only
          unfold mX2_fitsAll_s3
          rw [if_pos (nI_le (Nat.le_refl i) (by omega))]
        · unfold mX10_waysAt_b18
          refine x_loop_inl ?_
          try dsimp only
          unfold mX10_waysAt_s18 mX10_waysAt_b50 mX10_waysAt_b61
          rw [if_pos (nI_le (Nat.le_refl i) (by omega)), if_neg (show ¬ (1 : Int32) = 0 by decide), nI_1, nI_1]
          rfl
      | succ m ih =>
        intro i h1 h2
        by_cases hiz : i = z
        · exact ih i (by omega) h2
        obtain ⟨t, e1, e2⟩ := m_fit1 hc (i := i) (by omega) hx hy hd hca
        have step : ∀ c, mX10_waysAt_b18 (nI ca) (nI z) xs ys ps ws (nI x) (nI y) (nI c) (nI d) 1 (nI i) = mX10_waysAt_b18 (nI ca) (nI z) xs ys ps ws (nI x) (nI y) (nI c) (nI d) (xb t) (nI (i + 1)) := by
          intro c
          unfold mX10_waysAt_b18
          refine x_loop_inr ?_
          try dsimp only
          unfold mX10_waysAt_s18
          rw [if_neg (nI_ge (by omega) (by omega)), if_neg (show ¬ (1 : Int32) = 0 by decide), e2]
          simp only [Option.bind_some]
          rw [nI_1]
        cases t with
        | false =>
          refine ⟨false, ?_, fun c => ?_⟩
          · unfold mX2_fitsAll_b3
            exact x_loop_inl e1
          · rw [step]
            exact fin0 c _
        | true =>
          obtain ⟨t, g1, g2⟩ := ih (i + 1) (by omega) (by omega)
          refine ⟨t, ?_, fun c => ?_⟩
          · unfold mX2_fitsAll_b3 at g1 ⊢
            exact (x_loop_inr e1).trans g1
          · rw [step]
            exact g2 c
    obtain ⟨t, g1, g2⟩ := go z 0 (by omega) (by omega)
    exact ⟨t, g1, g2⟩
  obtain ⟨a, b, r1, r2, c, hc9, rfl, rfl⟩ := x_pair (s1 := fun q : Int32 × Int32 => mX2_waysAt_s6 (nI z) xs ys ps ws (nI x) (nI y) (nI ca) q.1 q.2) (s2 := fun q : Int32 × Int32 => mX10_waysAt_s5 (nI ca) (nI z) xs ys ps ws (nI x) (nI y) q.1 q.2) (fun m u v => ∃ d c, d ≤ 10 ∧ c < d ∧ m = 10 - d ∧ u = (nI c, nI d) ∧ v = (nI c, nI d)) (fun a b => ∃ c, c ≤ 9 ∧ a = nI c ∧ b = nI c) (by
    rintro m u v ⟨d, c, hd, hcd, rfl, rfl, rfl⟩
    by_cases h10 : d = 10
    · subst h10
      refine .inl ⟨nI c, nI c, ?_, ?_, c, by omega, rfl, rfl⟩
      · try dsimp only
        unfold mX2_waysAt_s6
        rw [if_pos (by decide)]
      · try dsimp only
        unfold mX10_waysAt_s5
        rw [if_pos (by decide)]
    have n9 : ¬ (9 : Int32) < nI d := nI_nlt (a := 9) (show d ≤ 9 by omega) (by omega)
    obtain ⟨t, g1, g2⟩ := depth d (by omega)
    refine .inr ⟨10 - (d + 1), (nI (if t = true then c + 1 else c), nI (d + 1)), (nI (if t = true then c + 1 else c), nI (d + 1)), by omega, ?_, ?_, d + 1, _, by omega, by split <;> omega, rfl, rfl, rfl⟩
    · try dsimp only
      unfold mX2_waysAt_s6 mX2_waysAt_b28
      rw [if_neg n9, g1]
      simp only [Option.bind_some]
      cases t with
      | false => rw [if_pos xb_f, nI_1]; rfl
      | true => rw [if_neg xb_n, nI_1, nI_1]; rfl
    · try dsimp only
      unfold mX10_waysAt_s5
      rw [if_neg n9, g2]) 9 (0, 1) (0, 1) ⟨1, 0, by omega, by omega, rfl, rfl, rfl⟩
  refine ⟨c, hc9, ?_, ?_⟩
  · unfold mX2_waysAt mX2_waysAt_b6
    exact r1
  · unfold mX10_waysAt mX10_waysAt_b5
    exact r2
theorem m_allWays {z : Nat} {xs ys ps ws : Nat → Int32} (hc : s_cht z xs ys ps ws) {ca : Nat} (hca : ca ≤ 20) : ∃ c, c ≤ 10000 ∧ mX2_allWays (nI z) xs ys ps ws (nI ca) = some (nI c) ∧ mX10_allWays (nI ca) (nI z) xs ys ps ws = some (nI c) := by
  obtain ⟨a, b, r1, r2, c, hc9, rfl, rfl⟩ := x_pair (s1 := fun q : Int32 × Int32 => mX2_allWays_s4 (nI z) xs ys ps ws (nI ca) q.1 q.2) (s2 := fun q : Int32 × Int32 => mX10_allWays_s4 (nI ca) (nI z) xs ys ps ws q.1 q.2) (fun m u v => ∃ x c, x ≤ 9 ∧ c ≤ 81 * x ∧ m = 9 - x ∧ u = (nI c, nI x) ∧ v = (nI c, nI x)) (fun a b => ∃ c, c ≤ 10000 ∧ a = nI c ∧ b = nI c) (by
    rintro m u v ⟨x, c, hx, hcx, rfl, rfl, rfl⟩
    by_cases h9 : x = 9
    · subst h9
      refine .inl ⟨nI c, nI c, ?_, ?_, c, by omega, rfl, rfl⟩
      · try dsimp only
        unfold mX2_allWays_s4
        rw [if_pos (by decide)]
      · try dsimp only
        unfold mX10_allWays_s4
        rw [if_pos (by decide)]
    have n9 : ¬ (9 : Int32) ≤ nI x := nI_ge (b := 9) (show x < 9 by omega) (by omega)
    obtain ⟨a, b, q1, q2, c2, hc2, rfl, rfl⟩ := x_pair (s1 := fun q : Int32 × Int32 => mX2_allWays_s13 (nI z) xs ys ps ws (nI ca) (nI x) q.1 q.2) (s2 := fun q : Int32 × Int32 => mX10_allWays_s12 (nI ca) (nI z) xs ys ps ws (nI x) q.1 q.2) (fun m u v => ∃ y c, y ≤ 9 ∧ c ≤ 81 * x + 9 * y ∧ m = 9 - y ∧ u = (nI c, nI y) ∧ v = (nI c, nI y)) (fun a b => ∃ c, c ≤ 81 * (x + 1) ∧ a = .inr (nI c, nI (x + 1)) ∧ b = .inr (nI c, nI (x + 1))) (by
      rintro m u v ⟨y, c, hy, hcy, rfl, rfl, rfl⟩
      by_cases h9 : y = 9
      · subst h9
        refine .inl ⟨_, _, ?_, ?_, c, by omega, rfl, rfl⟩
        · try dsimp only
          unfold mX2_allWays_s13
          rw [if_pos (by decide), nI_1]
        · try dsimp only
          unfold mX10_allWays_s12
          rw [if_pos (by decide), nI_1]
      have n9 : ¬ (9 : Int32) ≤ nI y := nI_ge (b := 9) (show y < 9 by omega) (by omega)
      obtain ⟨w, hw, w1, w2⟩ := m_waysAt hc (x := x) (y := y) (by omega) (by omega) hca
      refine .inr ⟨9 - (y + 1), (nI (c + w), nI (y + 1)), (nI (c + w), nI (y + 1)), by omega, ?_, ?_, y + 1, c + w, by omega, by omega, rfl, rfl, rfl⟩
      · try dsimp only
        unfold mX2_allWays_s13
        rw [if_neg n9, w1]
        simp only [Option.bind_some]
        rw [nI_add, nI_1]
      · try dsimp only
        unfold mX10_allWays_s12
        rw [if_neg n9, w2]
        simp only [Option.bind_some]
        rw [nI_add, nI_1]) 9 (nI c, 0) (nI c, 0) ⟨0, c, by omega, by omega, rfl, rfl, rfl⟩
    refine .inr ⟨9 - (x + 1), (nI c2, nI (x + 1)), (nI c2, nI (x + 1)), by omega, ?_, ?_, x + 1, c2, by omega, hc2, rfl, rfl, rfl⟩
    · try dsimp only
      unfold mX2_allWays_s4 mX2_allWays_b13
      rw [if_neg n9]
      exact q1
    · try dsimp only
      unfold mX10_allWays_s4 mX10_allWays_b12
      rw [if_neg n9]
      exact q2) 9 (0, 0) (0, 0) ⟨0, 0, by omega, by omega, rfl, rfl, rfl⟩
  refine ⟨c, hc9, ?_, ?_⟩
  · unfold mX2_allWays mX2_allWays_b4
    exact r1
  · unfold mX10_allWays mX10_allWays_b4
    exact r2
theorem m_may {z : Nat} {xs ys ps ws : Nat → Int32} (hc : s_cht z xs ys ps ws) {ca : Nat} (hca : ca ≤ 20) (p v : Int32) : ∃ o, mX9_may (nI ca) (nI z) xs ys ps ws p v = some o ∧ mX10_may (nI ca) (nI z) xs ys ps ws p v = some o := by
  unfold mX9_may mX10_may
  by_cases c1 : p = -1
  · obtain ⟨c, -, e1, e2⟩ := m_allWays hc hca
    rw [if_pos c1, if_pos c1, e1, e2]
    exact ⟨_, rfl, rfl⟩
  rw [if_neg c1, if_neg c1, m_isPlace, show mX10_in p.toInt64 0 8 = some (decide (0 ≤ p ∧ p ≤ 8)) from m_in p 0 8, show mX10_in v.toInt64 0 8 = some (decide (0 ≤ v ∧ v ≤ 8)) from m_in v 0 8]
  simp only [Option.bind_some, xb_d]
  by_cases h1 : 0 ≤ p ∧ p ≤ 8
  · rw [if_neg (not_not_intro h1)]
    by_cases h2 : 0 ≤ v ∧ v ≤ 8
    · rw [if_neg (not_not_intro (And.intro h1 h2)), if_neg (not_not_intro h2)]
      obtain ⟨x, hx, rfl⟩ := n_rng (m := 8) (by omega) h1
      obtain ⟨y, hy, rfl⟩ := n_rng (m := 8) (by omega) h2
      obtain ⟨w, hw, w1, w2⟩ := m_waysAt hc hx hy hca
      rw [w1, w2]
      exact ⟨_, rfl, rfl⟩
    · rw [if_pos (fun q : (0 ≤ p ∧ p ≤ 8) ∧ (0 ≤ v ∧ v ≤ 8) => h2 q.2), if_pos h2]
      exact ⟨_, rfl, rfl⟩
  · rw [if_pos (fun q : (0 ≤ p ∧ p ≤ 8) ∧ (0 ≤ v ∧ v ≤ 8) => h1 q.1), if_pos h1]
    exact ⟨_, rfl, rfl⟩
theorem m_low {z : Nat} {xs ys ps ws : Nat → Int32} (hc : s_cht z xs ys ps ws) {ca : Nat} (hca : ca ≤ 20) (p v w : Int32) : ∃ o, mX9_low (nI ca) (nI z) xs ys ps ws p v w = some o ∧ mX10_low (nI ca) (nI z) xs ys ps ws p v w = some o := by
  unfold mX9_low mX10_low
  rw [m_isPlace, m_within w 0 1, m_isEnd, show mX10_in p.toInt64 0 8 = some (decide (0 ≤ p ∧ p ≤ 8)) from m_in p 0 8, show mX10_in v.toInt64 0 8 = some (decide (0 ≤ v ∧ v ≤ 8)) from m_in v 0 8]
  simp only [Option.bind_some, xb_d]
  by_cases h1 : 0 ≤ p ∧ p ≤ 8
  · rw [if_neg (not_not_intro h1)]
    by_cases h2 : 0 ≤ v ∧ v ≤ 8
    · rw [if_neg (not_not_intro (And.intro h1 h2)), if_neg (not_not_intro h2)]
      by_cases h3 : 0 ≤ w ∧ w ≤ 1
      · rw [if_neg (not_not_intro h3), if_neg (not_not_intro h3)]
        obtain ⟨x, hx, rfl⟩ := n_rng (m := 8) (by omega) h1
        obtain ⟨y, hy, rfl⟩ := n_rng (m := 8) (by omega) h2
        obtain ⟨k, hk, w1, w2⟩ := m_waysAt hc hx hy hca
        obtain ⟨c, hcl, e1, e2⟩ := m_allWays hc hca
        rw [e1, e2]
        simp only [Option.bind_some]
        by_cases c0 : c = 0
        · subst c0
          rw [if_pos (show nI 0 ≤ 0 by decide), if_pos (show nI 0 = 0 from rfl)]
          exact ⟨_, rfl, rfl⟩
        · rw [if_neg (nI_nle (by omega) (by omega)), if_neg (nI_ne0 (by omega) (by omega)), w1, w2]
          simp only [Option.bind_some]
          obtain ⟨o, f1, f2⟩ := m_frac (nI k).toInt64 (nI c).toInt64 (by
            rw [nI_l (by omega)]
            intro e
            have := (lN_eq (a := c) (b := 0) (by omega) (by omega)).mp e
            omega) w
          rw [f1, f2]
          exact ⟨_, rfl, rfl⟩
      · rw [if_pos h3, if_pos h3]
        exact ⟨_, rfl, rfl⟩
    · rw [if_pos (fun q : (0 ≤ p ∧ p ≤ 8) ∧ (0 ≤ v ∧ v ≤ 8) => h2 q.2), if_pos h2]
      exact ⟨_, rfl, rfl⟩
  · rw [if_pos (fun q : (0 ≤ p ∧ p ≤ 8) ∧ (0 ≤ v ∧ v ≤ 8) => h1 q.1), if_pos h1]
    exact ⟨_, rfl, rfl⟩
