/-! pure facts: counts of days that are alike; the book's odds; such -/
/-- how many of the first n days are alike to d by the keys q; w: the wet ones alone -/
noncomputable def s_cn (y mo g wi s r : Nat → Int32) (q d : Nat) (w : Bool) (n : Nat) : Nat := fb_ct (fun o => s_b (s_sim y mo g wi s r q d o ∧ (w = true → r o = 1))) n
theorem s_cn_le (y mo g wi s r : Nat → Int32) (q d : Nat) (w : Bool) (n : Nat) : s_cn y mo g wi s r q d w n ≤ n := fb_ct_le _ n
theorem s_cn_yes {y mo g wi s r : Nat → Int32} {q d : Nat} {w : Bool} {n : Nat} (h : s_sim y mo g wi s r q d n ∧ (w = true → r n = 1)) : s_cn y mo g wi s r q d w (n + 1) = s_cn y mo g wi s r q d w n + 1 := by
  unfold s_cn
  rw [fb_ct_succ, s_b_t h, if_pos rfl]
theorem s_cn_no {y mo g wi s r : Nat → Int32} {q d : Nat} {w : Bool} {n : Nat} (h : ¬ (s_sim y mo g wi s r q d n ∧ (w = true → r n = 1))) : s_cn y mo g wi s r q d w (n + 1) = s_cn y mo g wi s r q d w n := by
  unfold s_cn
  rw [fb_ct_succ, s_b_f h, if_neg (by decide), Nat.add_zero]
theorem s_cn_mono (y mo g wi s r : Nat → Int32) (q d : Nat) : ∀ n, s_cn y mo g wi s r q d true n ≤ s_cn y mo g wi s r q d false n := fun n => fb_ct_sub (fun k _ h => s_b_t ⟨(s_b_of h).1, fun z => absurd z (by decide)⟩)
theorem m_countLike (y mo f g wi s r ki : Nat → Int32) (hb : s_bk y mo f g wi s r) {n : Nat} (hn : n ≤ 60) (hk : s_ks y mo g wi s r ki n) {q d : Nat} (hq : q < 64) (hd : d < n) (w : Bool) : mX0_countLike (nI n) y r ki (nI d) (nI q) (xb w) = some (nI (s_cn y mo g wi s r q d w n)) := by
  unfold mX0_countLike mX0_countLike_b6
  obtain ⟨c, h1, h2⟩ := x_run (s := fun z : Int32 × Int32 => mX0_countLike_s6 (nI n) y r ki (nI d) (nI q) (xb w) z.1 z.2) (fun m z => ∃ k, k ≤ n ∧ m = n - k ∧ z = (nI (s_cn y mo g wi s r q d w k), nI k)) (fun c => c = nI (s_cn y mo g wi s r q d w n)) (by
    rintro m z ⟨k, hk2, rfl, rfl⟩
    by_cases h6 : k = n
    · subst h6
      refine .inl ⟨_, ?_, rfl⟩
      show mX0_countLike_s6 _ _ _ _ _ _ _ _ _ = _
      unfold mX0_countLike_s6
      rw [if_pos (nI_le (Nat.le_refl k) (by omega))]
    have hkn : k < n := by omega
    refine .inr ⟨n - (k + 1), _, by omega, ?_, k + 1, by omega, rfl, rfl⟩
    show mX0_countLike_s6 _ _ _ _ _ _ _ _ _ = _
    unfold mX0_countLike_s6 mX0_countLike_b39 mX0_rainOf
    rw [if_neg (nI_ge hkn (by omega)), n_at (by omega) r (i := k) (by omega)]
    simp only [Option.bind_some]
    obtain ⟨-, -, -, -, ⟨ra, r1, r2⟩⟩ := hb.2 k (by omega)
    have hr : r k < xb w ↔ ¬ (w = true → r k = 1) := by
      have : ra = 0 ∨ ra = 1 := by omega
      rcases this with rfl | rfl <;> rw [r2] <;> cases w <;> decide
    by_cases c1 : r k < xb w
    · rw [if_pos c1, s_cn_no (fun h => hr.mp c1 h.2), nI_1]
    · have c1' : w = true → r k = 1 := Classical.byContradiction (fun h => c1 (hr.mpr h))
      rw [if_neg c1, m_areLike y mo f g wi s r ki hb hn hk hq hd hkn]
      simp only [Option.bind_some]
      by_cases c2 : s_sim y mo g wi s r q d k
      · rw [s_b_t c2, if_neg xb_n, s_cn_yes ⟨c2, c1'⟩, nI_1, nI_1]
      · rw [s_b_f c2, if_pos xb_f, s_cn_no (fun h => c2 h.1), nI_1]) n (0, 0) ⟨0, by omega, rfl, rfl⟩
  rw [← h2]
  exact h1
theorem m_suchMany (y mo f g wi s r : Nat → Int32) (hb : s_bk y mo f g wi s r) {n : Nat} (hn : n ≤ 60) {q d : Nat} (hq : q < 64) (hd : d < n) (w : Bool) : mX10_suchMany (nI n) (nI q) y mo g wi s r (nI d) (xb w) = some (nI (s_cn y mo g wi s r q d w n)) := by
  unfold mX10_suchMany mX10_suchMany_b5
  obtain ⟨c, h1, h2⟩ := x_run (s := fun z : Int32 × Int32 => mX10_suchMany_s5 (nI n) (nI q) y mo g wi s r (nI d) (xb w) z.1 z.2) (fun m z => ∃ k, k ≤ n ∧ m = n - k ∧ z = (nI (s_cn y mo g wi s r q d w k), nI k)) (fun c => c = nI (s_cn y mo g wi s r q d w n)) (by
    rintro m z ⟨k, hk2, rfl, rfl⟩
    by_cases h6 : k = n
    · subst h6
      refine .inl ⟨_, ?_, rfl⟩
      show mX10_suchMany_s5 _ _ _ _ _ _ _ _ _ _ _ _ = _
      unfold mX10_suchMany_s5
      rw [if_pos (nI_le (Nat.le_refl k) (by omega))]
    have hkn : k < n := by omega
    refine .inr ⟨n - (k + 1), _, by omega, ?_, k + 1, by omega, rfl, rfl⟩
    show mX10_suchMany_s5 _ _ _ _ _ _ _ _ _ _ _ _ = _
    unfold mX10_suchMany_s5 mX10_suchMany_b44 mX10_suchMany_b40 mX10_suchMany_b45
    rw [if_neg (nI_ge hkn (by omega)), m_isSuch y mo f g wi s r hb hq (by omega) (by omega)]
    simp only [Option.bind_some]
    by_cases c2 : s_sim y mo g wi s r q d k
    · rw [s_b_t c2, if_neg xb_n]
      cases w with
      | false =>
        rw [if_pos xb_f, s_cn_yes ⟨c2, fun z => absurd z (by decide)⟩, nI_1, nI_1]
      | true =>
        rw [if_neg xb_n, x_ny (n_xin (by omega) (by omega)), nI_clamp (by omega)]
        by_cases c3 : r k = 1
        · rw [if_pos c3, s_cn_yes ⟨c2, fun _ => c3⟩, nI_1, nI_1]
        · rw [if_neg c3, s_cn_no (fun h => c3 (h.2 rfl)), nI_1, Int32.add_zero]
    · rw [s_b_f c2, if_pos xb_f, s_cn_no (fun h => c2 h.1), nI_1, Int32.add_zero]) n (0, 0) ⟨0, by omega, rfl, rfl⟩
  rw [← h2]
  exact h1
theorem m_share (s c : Int32) (hc : 0 ≤ c.toInt) : mX9_thousandths s c = mX10_share s c ∧ ∃ o, mX10_share s c = some o := by
  unfold mX9_thousandths mX10_share
  by_cases z : c = 0
  · rw [if_pos z, if_pos (by rw [i_le, z]; exact Int.le_refl _)]
    exact ⟨rfl, _, rfl⟩
  · have hn : ¬ c ≤ 0 := fun h => z (by rw [i_eq, Int32.toInt_zero]; rw [i_le, Int32.toInt_zero] at h; omega)
    rw [if_neg z, if_neg hn]
    unfold x_need
    rw [if_pos z]
    exact ⟨rfl, _, rfl⟩
/-- thousandths -/
def s_th (W A : Nat) : Int32 := if A = 0 then -6 else nI (1000 * W / A)
theorem m_sh (W A : Nat) (hW : W ≤ 60) (hA : A ≤ 60) : mX9_thousandths (nI W) (nI A) = some (s_th W A) ∧ mX10_share (nI W) (nI A) = some (s_th W A) := by
  have e : mX10_share (nI W) (nI A) = some (s_th W A) := by
    unfold mX10_share s_th
    have m1 : (1000 : Int32) * nI W = nI (1000 * W) := pk_mul 1000 W
    by_cases h : A = 0
    · subst h
      rw [if_pos (show nI 0 = 0 from rfl), if_pos rfl]
    · have h0 : ¬ nI A = 0 := nI_ne0 (by omega) (by omega)
      rw [if_neg h0, if_neg h, x_ny h0, m1, pk_div (by omega) (by omega) (by omega)]
  exact ⟨(m_share (nI W) (nI A) (by rw [show (nI A).toInt = A from nI_toInt (by omega)]; omega)).1.trans e, e⟩
theorem s_th_or (W A : Nat) (hW : W ≤ A) (hA : A ≤ 60) : s_or 1000 (s_th W A) := by
  unfold s_th
  by_cases h : A = 0
  · rw [if_pos h]; exact .inl rfl
  · rw [if_neg h]
    refine .inr ⟨_, ?_, rfl⟩
    calc 1000 * W / A ≤ 1000 * A / A := Nat.div_le_div_right (Nat.mul_le_mul_left _ hW)
      _ = 1000 := Nat.mul_div_cancel _ (by omega)
/-- the book's odds of the day d by the keys q -/
noncomputable def s_bo (y mo g wi s r : Nat → Int32) (q d n : Nat) : Int32 := s_th (s_cn y mo g wi s r q d true n) (s_cn y mo g wi s r q d false n)
theorem s_bo_or (y mo g wi s r : Nat → Int32) (q d n : Nat) (hn : n ≤ 60) : s_or 1000 (s_bo y mo g wi s r q d n) := s_th_or _ _ (s_cn_mono y mo g wi s r q d n) (Nat.le_trans (s_cn_le y mo g wi s r q d false n) hn)
theorem m_bookOf (y mo f g wi s r : Nat → Int32) (hb : s_bk y mo f g wi s r) {n : Nat} (hn : n ≤ 60) {q d : Nat} (hq : q < 64) (hd : d < n) : mX10_bookOf (nI n) (nI q) y mo g wi s r (nI d) = some (s_bo y mo g wi s r q d n) := by
  unfold mX10_bookOf
  have e1 := m_suchMany y mo f g wi s r hb hn hq hd true
  have e0 := m_suchMany y mo f g wi s r hb hn hq hd false
  have a1 := s_cn_le y mo g wi s r q d true n
  have a0 := s_cn_le y mo g wi s r q d false n
  rw [show xb true = 1 from rfl] at e1
  rw [xb_f] at e0
  rw [e1]
  simp only [Option.bind_some]
  rw [e0]
  simp only [Option.bind_some]
  rw [(m_sh _ _ (by omega) (by omega)).2]
  rfl
theorem m_likeOdds (y mo f g wi s r ki : Nat → Int32) (hb : s_bk y mo f g wi s r) {n : Nat} (hn : n ≤ 60) (hk : s_ks y mo g wi s r ki n) {q d : Nat} (hq : q < 64) (hd : d < n) : mX0_likeOdds (nI n) y r ki (nI d) (nI q) = some (s_bo y mo g wi s r q d n) := by
  unfold mX0_likeOdds mX0_likeOdds_b8
  have a1 := s_cn_le y mo g wi s r q d true n
  have a0 := s_cn_le y mo g wi s r q d false n
  obtain ⟨c, h1, h2⟩ := x_run (s := fun z : Int32 × Int32 × Int32 => mX0_likeOdds_s8 (nI n) y r ki (nI d) (nI q) z.1 z.2.1 z.2.2) (fun m z => ∃ k, k ≤ n ∧ m = n - k ∧ z = (nI (s_cn y mo g wi s r q d false k), nI (s_cn y mo g wi s r q d true k), nI k)) (fun c => c = s_bo y mo g wi s r q d n) (by
    rintro m z ⟨k, hk2, rfl, rfl⟩
    by_cases h6 : k = n
    · subst h6
      refine .inl ⟨_, ?_, rfl⟩
      show mX0_likeOdds_s8 _ _ _ _ _ _ _ _ _ = _
      unfold mX0_likeOdds_s8
      rw [if_pos (nI_le (Nat.le_refl k) (by omega)), (m_sh _ _ (by omega) (by omega)).1]
      rfl
    have hkn : k < n := by omega
    refine .inr ⟨n - (k + 1), _, by omega, ?_, k + 1, by omega, rfl, rfl⟩
    show mX0_likeOdds_s8 _ _ _ _ _ _ _ _ _ = _
    unfold mX0_likeOdds_s8 mX0_likeOdds_b42 mX0_rainOf
    rw [if_neg (nI_ge hkn (by omega)), m_areLike y mo f g wi s r ki hb hn hk hq hd hkn]
    simp only [Option.bind_some]
    by_cases c2 : s_sim y mo g wi s r q d k
    · rw [s_b_t c2, if_neg xb_n, n_at (by omega) r (i := k) (by omega), s_cn_yes (w := false) ⟨c2, fun z => absurd z (by decide)⟩]
      simp only [Option.bind_some]
      obtain ⟨-, -, -, -, ⟨ra, r1, r2⟩⟩ := hb.2 k (by omega)
      have : ra = 0 ∨ ra = 1 := by omega
      rcases this with rfl | rfl
      · rw [s_cn_no (w := true) (fun h => by have := h.2 rfl; rw [r2] at this; exact absurd this (by decide)), r2, nI_1, nI_1, show nI 0 = 0 from rfl, Int32.add_zero]
      · rw [s_cn_yes (w := true) ⟨c2, fun _ => r2⟩, r2, nI_1, nI_1, nI_add]
    · rw [s_b_f c2, if_pos xb_f, s_cn_no (w := false) (fun h => c2 h.1), s_cn_no (w := true) (fun h => c2 h.1), nI_1]) n (0, 0, 0) ⟨0, by omega, rfl, rfl⟩
  rw [← h2]
  exact h1
theorem m_such (y mo f g wi s r ki : Nat → Int32) (hb : s_bk y mo f g wi s r) {n : Nat} (hn : n ≤ 60) (hk : s_ks y mo g wi s r ki n) {q : Nat} (hq : q < 64) (p v : Int32) : ∃ o, mX9_such (nI q) (nI n) y r ki p v = some o ∧ mX10_such (nI n) (nI q) y mo g wi s r p v = some o := by
  have hnI : (nI n).toInt = n := nI_toInt (by omega)
  unfold mX9_such mX10_such mX10_isEnd
  rw [m_has, m_isDay (nI n) p (by omega), m_within, show mX10_in v.toInt64 0 1 = some (decide (0 ≤ v ∧ v ≤ 1)) from m_in v 0 1]
  simp only [Option.bind_some, xb_d]
  by_cases h1 : 0 ≤ p.toInt ∧ p.toInt < (nI n).toInt
  · rw [if_neg (not_not_intro h1), if_neg (not_not_intro h1)]
    obtain ⟨d, hd, rfl⟩ := n_of3 (n := n) h1.1 (by omega)
    by_cases h2 : 0 ≤ v ∧ v ≤ 1
    · rw [if_neg (not_not_intro h2), if_neg (not_not_intro h2)]
      have hv : v = xb false ∨ v = xb true := by
        have a := h2.1
        have b := h2.2
        rw [i_le, Int32.toInt_zero] at a
        rw [i_le, show (1 : Int32).toInt = 1 from by decide] at b
        obtain ⟨k, hk1, rfl⟩ := n_of2 (n := 1) a (by omega)
        have : k = 0 ∨ k = 1 := by omega
        rcases this with rfl | rfl
        · exact .inl rfl
        · exact .inr rfl
      have e : ∀ w : Bool, mX10_such_b29 (nI n) (nI q) y mo g wi s r (nI d) (xb w) = some (nI (s_cn y mo g wi s r q d w n)) := by
        intro w
        unfold mX10_such_b29
        rw [m_suchMany y mo f g wi s r hb hn hq hd w]
        rfl
      rcases hv with rfl | rfl
      · rw [m_countLike y mo f g wi s r ki hb hn hk hq hd false, if_neg (by decide)]
        exact ⟨_, rfl, e false⟩
      · rw [m_countLike y mo f g wi s r ki hb hn hk hq hd true, if_pos (by decide)]
        exact ⟨_, rfl, e true⟩
    · rw [if_pos h2, if_pos h2]
      exact ⟨_, rfl, rfl⟩
  · rw [if_pos h1, if_pos h1]
    exact ⟨_, rfl, rfl⟩
