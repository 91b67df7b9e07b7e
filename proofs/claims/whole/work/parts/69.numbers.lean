/-! pure facts: fractions in lowest terms; how many ways to choose -/
theorem l_rem (x y : Int64) : (x - x / y * y).toInt = x.toInt.tmod y.toInt := by
  rw [Int64.toInt_sub, Int64.toInt_mul, Int64.toInt_div, Int.bmod_mul_bmod, Int.sub_bmod_bmod, Int.mul_comm, ← Int.tmod_def]
  have h1 := Int64.toInt_lt y
  have h2 := Int64.le_toInt y
  have h3 := Int64.toInt_lt x
  have h4 := Int64.le_toInt x
  have e : (x.toInt.tmod y.toInt).natAbs = x.toInt.natAbs % y.toInt.natAbs := Int.natAbs_tmod _ _
  rcases Nat.eq_zero_or_pos y.toInt.natAbs with z | z
  · rw [z, Nat.mod_zero] at e
    have : y.toInt = 0 := Int.natAbs_eq_zero.mp z
    rw [this, Int.tmod_zero]
    exact fb_bmodL (by omega) (by omega)
  · have := Nat.mod_lt x.toInt.natAbs z
    exact fb_bmodL (by omega) (by omega)
theorem l_rem_lt (x y : Int64) (h : ¬ y = 0) : (x - x / y * y).toInt.natAbs < y.toInt.natAbs ∧ (y.toInt.natAbs ≤ x.toInt.natAbs → 2 * (x - x / y * y).toInt.natAbs < x.toInt.natAbs) := by
  have z : 0 < y.toInt.natAbs := by
    rcases Nat.eq_zero_or_pos y.toInt.natAbs with z | z
    · exact absurd (Int64.toInt_inj.mp (by rw [Int.natAbs_eq_zero.mp z, Int64.toInt_zero])) h
    · exact z
  rw [l_rem, Int.natAbs_tmod]
  have h1 := Nat.mod_lt x.toInt.natAbs z
  refine ⟨h1, fun h2 => ?_⟩
  have h3 := Nat.div_add_mod x.toInt.natAbs y.toInt.natAbs
  have h4 : 1 ≤ x.toInt.natAbs / y.toInt.natAbs := Nat.div_pos h2 z
  have h5 : y.toInt.natAbs * 1 ≤ y.toInt.natAbs * (x.toInt.natAbs / y.toInt.natAbs) := Nat.mul_le_mul_left _ h4
  omega
theorem m_frac (a b : Int64) (hb : ¬ b = 0) (p : Int32) : ∃ o, mX9_fraction a b p = some o ∧ mX10_lowest a b p = some o := by
  have z0 : ∀ v : Int64, (lg_cmp v 0 = 0) ↔ v = 0 := fun v => lg_cmp_eq v 0
  have run := x_pair (s1 := fun q : Int64 × Int64 × Int32 => mX9_commonDivisor_s3 q.1 q.2.1 q.2.2) (s2 := fun q : Int64 × Int64 => mX10_lowest_s6 a b p q.1 q.2) (fun m u v => ∃ x y : Int64, ∃ i : Nat, u = (x, y, nI i) ∧ v = (x, y) ∧ ¬ x = 0 ∧ i + m ≤ 150 ∧ y.toInt.natAbs ≤ x.toInt.natAbs ∧ x.toInt.natAbs * y.toInt.natAbs < 2 ^ m) (fun c d => ¬ c = 0 ∧ d = (if p = 0 then a / c else b / c)) (by
    rintro m u v ⟨x, y, i, rfl, rfl, hx, hi, hyx, hm⟩
    have c200 : ¬ (200 : Int32) ≤ nI i := nI_ge (b := 200) (show i < 200 by omega) (by omega)
    by_cases hy : y = 0
    · refine .inl ⟨x, if p = 0 then a / x else b / x, ?_, ?_, hx, rfl⟩
      · try dsimp only
        unfold mX9_commonDivisor_s3
        rw [if_neg c200, if_pos ((z0 y).mpr hy)]
      · try dsimp only
        unfold mX10_lowest_s6
        rw [if_pos ((z0 y).mpr hy)]
        by_cases hp : p = 0
        · rw [if_pos hp, if_pos hp, x_ny hx]
        · rw [if_neg hp, if_neg hp, x_ny hx]
    · have l1 := l_rem_lt x y hy
      have hp0 : 0 < y.toInt.natAbs := by
        rcases Nat.eq_zero_or_pos y.toInt.natAbs with z | z
        · exact absurd (Int64.toInt_inj.mp (by rw [Int.natAbs_eq_zero.mp z, Int64.toInt_zero])) hy
        · exact z
      have m0 : ¬ m = 0 := by
        intro e
        rw [e] at hm
        have := Nat.mul_le_mul (show 1 ≤ x.toInt.natAbs by omega) hp0
        omega
      obtain ⟨k, rfl⟩ : ∃ k, m = k + 1 := ⟨m - 1, by omega⟩
      refine .inr ⟨k, (y, x - x / y * y, nI (i + 1)), (y, x - x / y * y), by omega, ?_, ?_, y, x - x / y * y, i + 1, rfl, rfl, hy, by omega, by omega, ?_⟩
      · try dsimp only
        unfold mX9_commonDivisor_s3
        rw [if_neg c200, if_neg (fun z => hy ((z0 y).mp z)), x_ny hy, nI_1]
      · try dsimp only
        unfold mX10_lowest_s6
        rw [if_neg (fun z => hy ((z0 y).mp z)), x_ny hy]
      · have l2 := l1.2 hyx
        have l3 : y.toInt.natAbs * (2 * (x - x / y * y).toInt.natAbs) ≤ y.toInt.natAbs * x.toInt.natAbs := Nat.mul_le_mul_left _ (Nat.le_of_lt l2)
        rw [Nat.mul_comm x.toInt.natAbs, Nat.pow_succ] at hm
        rw [Nat.mul_left_comm] at l3
        omega)
  -- the first step
  have l1 := l_rem_lt a b hb
  have hB : b.toInt.natAbs ≤ 2 ^ 63 := by
    have h1 := Int64.toInt_lt b
    have h2 := Int64.le_toInt b
    omega
  have hp0 : 0 < b.toInt.natAbs := by omega
  have st : b.toInt.natAbs * (a - a / b * b).toInt.natAbs < 2 ^ 127 := by
    have h3 : b.toInt.natAbs * (a - a / b * b).toInt.natAbs ≤ b.toInt.natAbs * b.toInt.natAbs := Nat.mul_le_mul_left _ (Nat.le_of_lt l1.1)
    have h4 : b.toInt.natAbs * b.toInt.natAbs ≤ 2 ^ 63 * 2 ^ 63 := Nat.mul_le_mul hB hB
    omega
  obtain ⟨c, d, r1, r2, r3, r4⟩ := run 127 (b, a - a / b * b, nI 1) (b, a - a / b * b) ⟨b, _, 1, rfl, rfl, hb, by omega, Nat.le_of_lt l1.1, st⟩
  have e1 : mX9_commonDivisor a b = some c := by
    unfold mX9_commonDivisor mX9_commonDivisor_b3
    refine (x_loop_inr ?_).trans r1
    try dsimp only
    unfold mX9_commonDivisor_s3
    rw [if_neg (by decide), if_neg (fun z => hb ((z0 b).mp z)), x_ny hb]
    rfl
  have e2 : mX10_lowest a b p = some d := by
    unfold mX10_lowest mX10_lowest_b6
    refine (x_loop_inr ?_).trans r2
    try dsimp only
    unfold mX10_lowest_s6
    rw [if_neg (fun z => hb ((z0 b).mp z)), x_ny hb]
  refine ⟨d, ?_, e2⟩
  unfold mX9_fraction
  rw [e1]
  simp only [Option.bind_some]
  rw [if_neg (fun z => r3 ((z0 c).mp z)), r4]
  by_cases hp : p = 0
  · rw [if_pos hp, if_pos hp, x_ny r3]
  · rw [if_neg hp, if_neg hp, x_ny r3]
def s_ch : Nat → Nat → Nat
  | _, 0 => 1
  | 0, _ + 1 => 0
  | n + 1, k + 1 => s_ch n k + s_ch n (k + 1)
theorem s_ch_0 (n : Nat) : s_ch n 0 = 1 := by cases n <;> rfl
theorem s_ch_ss (n k : Nat) : s_ch (n + 1) (k + 1) = s_ch n k + s_ch n (k + 1) := rfl
theorem s_ch_big : ∀ n k, n < k → s_ch n k = 0
  | 0, k + 1, _ => rfl
  | n + 1, k + 1, h => by rw [s_ch_ss, s_ch_big n k (by omega), s_ch_big n (k + 1) (by omega)]
theorem s_ch_self : ∀ n, s_ch n n = 1
  | 0 => rfl
  | n + 1 => by rw [s_ch_ss, s_ch_self n, s_ch_big n (n + 1) (by omega)]
theorem s_ch_pos : ∀ n k, k ≤ n → 0 < s_ch n k
  | n, 0, _ => by rw [s_ch_0]; omega
  | n + 1, k + 1, h => by
    have := s_ch_pos n k (by omega)
    rw [s_ch_ss]
    omega
theorem s_ch_abs : ∀ n k, (k + 1) * s_ch (n + 1) (k + 1) = (n + 1) * s_ch n k
  | 0, 0 => rfl
  | 0, k + 1 => by rw [s_ch_big 1 (k + 2) (by omega), s_ch_big 0 (k + 1) (by omega), Nat.mul_zero, Nat.mul_zero]
  | n + 1, 0 => by
    have h := s_ch_abs n 0
    rw [s_ch_0] at h ⊢
    rw [s_ch_ss, s_ch_0]
    omega
  | n + 1, k + 1 => by
    have h1 := s_ch_abs n k
    have h2 := s_ch_abs n (k + 1)
    have e0 := s_ch_ss n k
    rw [s_ch_ss (n + 1) (k + 1), Nat.mul_add, h2]
    have e1 : (k + 1 + 1) * s_ch (n + 1) (k + 1) = (k + 1) * s_ch (n + 1) (k + 1) + s_ch (n + 1) (k + 1) := Nat.succ_mul _ _
    have e2 : (n + 1 + 1) * s_ch (n + 1) (k + 1) = (n + 1) * s_ch (n + 1) (k + 1) + s_ch (n + 1) (k + 1) := Nat.succ_mul _ _
    have e3 : (n + 1) * s_ch (n + 1) (k + 1) = (n + 1) * s_ch n k + (n + 1) * s_ch n (k + 1) := by rw [e0, Nat.mul_add]
    omega
theorem s_ch_sym : ∀ n k, k ≤ n → s_ch n k = s_ch n (n - k)
  | n, 0, _ => by rw [s_ch_0, Nat.sub_zero, s_ch_self]
  | n + 1, k + 1, h => by
    rcases Nat.lt_or_ge k n with q | q
    · have h1 := s_ch_sym n k (by omega)
      have h2 := s_ch_sym n (k + 1) (by omega)
      rw [show n + 1 - (k + 1) = (n - (k + 1)) + 1 by omega, s_ch_ss, s_ch_ss, h1, h2, show n - (k + 1) + 1 = n - k by omega, Nat.add_comm]
    · have : k = n := by omega
      subst this
      rw [Nat.sub_self, s_ch_0, s_ch_self]
theorem s_ch_up (n k : Nat) : s_ch n k ≤ s_ch (n + 1) k := by
  cases k with
  | zero => rw [s_ch_0, s_ch_0]; omega
  | succ k => rw [s_ch_ss]; omega
theorem s_ch_mono (k : Nat) {n m : Nat} (h : n ≤ m) : s_ch n k ≤ s_ch m k := by
  induction m with
  | zero => have : n = 0 := by omega
            rw [this]; exact Nat.le_refl _
  | succ m ih =>
    by_cases e : n = m + 1
    · rw [e]; exact Nat.le_refl _
    · exact Nat.le_trans (ih (by omega)) (s_ch_up m k)
def s_row : Nat → List Nat
  | 0 => [1]
  | n + 1 => List.zipWith (· + ·) (0 :: s_row n) (s_row n ++ [0])
theorem s_row_len : ∀ n, (s_row n).length = n + 1
  | 0 => rfl
  | n + 1 => by
    show (List.zipWith _ _ _).length = _
    rw [List.length_zipWith, List.length_cons, List.length_append, s_row_len n]
    simp
theorem s_row_get : ∀ n k, (s_row n).getD k 0 = s_ch n k
  | 0, 0 => rfl
  | 0, k + 1 => rfl
  | n + 1, k => by
    have hl := s_row_len n
    rcases Nat.lt_or_ge k (n + 2) with hk | hk
    · have e : (s_row (n + 1)).getD k 0 = (0 :: s_row n).getD k 0 + (s_row n ++ [0]).getD k 0 := by
        show (List.zipWith (· + ·) (0 :: s_row n) (s_row n ++ [0])).getD k 0 = _
        rw [List.getD_eq_getElem?_getD, List.getD_eq_getElem?_getD, List.getD_eq_getElem?_getD, List.getElem?_zipWith]
        rw [List.getElem?_eq_getElem (l := 0 :: s_row n) (by simp [hl]; omega), List.getElem?_eq_getElem (l := s_row n ++ [0]) (by simp [hl]; omega)]
        rfl
      have e2 : (s_row n ++ [0]).getD k 0 = s_ch n k := by
        rcases Nat.lt_or_ge k (n + 1) with q | q
        · rw [← s_row_get n k, List.getD_eq_getElem?_getD, List.getD_eq_getElem?_getD, List.getElem?_append_left (by omega)]
        · have : k = n + 1 := by omega
          subst this
          rw [s_ch_big n (n + 1) (by omega), List.getD_eq_getElem?_getD, List.getElem?_append_right (by omega), hl, Nat.sub_self]
          rfl
      rw [e, e2]
      cases k with
      | zero => rw [s_ch_0, s_ch_0]; rfl
      | succ k =>
        rw [s_ch_ss]
        show (s_row n).getD k 0 + _ = _
        rw [s_row_get n k]
    · rw [s_ch_big (n + 1) k (by omega), List.getD_eq_getElem?_getD, List.getElem?_eq_none (by rw [s_row_len]; omega)]
      rfl
theorem s_row59 : (s_row 59).all (fun v => decide (v < 60000000000000000)) = true := by decide +kernel
theorem s_ch59 (k : Nat) : s_ch 59 k < 60000000000000000 := by
  rw [← s_row_get, List.getD_eq_getElem?_getD]
  rcases Nat.lt_or_ge k (s_row 59).length with h | h
  · rw [List.getElem?_eq_getElem h]
    exact of_decide_eq_true (List.all_eq_true.mp s_row59 _ (List.getElem_mem h))
  · rw [List.getElem?_eq_none h]
    show 0 < _
    omega
/-- the products on the way fit into a long -/
theorem s_ch_prod {n k : Nat} (hn : n ≤ 60) : k * s_ch n k < 9223372036854775808 := by
  cases k with
  | zero => rw [Nat.zero_mul]; omega
  | succ k =>
    cases n with
    | zero => rw [s_ch_big 0 (k + 1) (by omega), Nat.mul_zero]; omega
    | succ n =>
      rw [s_ch_abs]
      have h1 := s_ch_mono k (n := n) (m := 59) (by omega)
      have h2 := s_ch59 k
      have h3 : (n + 1) * s_ch n k ≤ 60 * s_ch n k := Nat.mul_le_mul_right _ hn
      omega
theorem s_ch_lt {n k : Nat} (hn : n ≤ 60) : s_ch n k < 9223372036854775808 := by
  cases k with
  | zero => rw [s_ch_0]; omega
  | succ k =>
    have h := s_ch_prod (n := n) (k := k + 1) hn
    have : 1 * s_ch n (k + 1) ≤ (k + 1) * s_ch n (k + 1) := Nat.mul_le_mul_right _ (by omega)
    omega
/-- one step: i of m + i -/
theorem s_ch_step {m i : Nat} (h0 : 0 < i) (h : m + i ≤ 60) : lN (s_ch (m + i - 1) (i - 1)) * (nI (m + i)).toInt64 / (nI i).toInt64 = lN (s_ch (m + i) i) := by
  obtain ⟨j, rfl⟩ : ∃ j, i = j + 1 := ⟨i - 1, by omega⟩
  rw [show m + (j + 1) - 1 = m + j by omega, show j + 1 - 1 = j by omega, nI_l (by omega), nI_l (by omega), lN_mul, Nat.mul_comm (s_ch (m + j) j)]
  have e : (m + (j + 1)) * s_ch (m + j) j = (j + 1) * s_ch (m + (j + 1)) (j + 1) := (s_ch_abs (m + j) j).symm
  rw [e]
  have b := s_ch_prod (n := m + (j + 1)) (k := j + 1) h
  rw [pk_lDiv (by omega) (by omega) (by omega), Nat.mul_div_cancel_left _ (by omega)]
theorem s_chn {i : Nat} (h0 : 0 < i) (h : i ≤ 61) : ¬ (nI i).toInt64 = 0 := by
  rw [nI_l (by omega)]
  intro e
  have := (lN_eq (a := i) (b := 0) (by omega) (by omega)).mp e
  omega
theorem m_choose9 {n k : Nat} (hn : n ≤ 60) (hk : k ≤ 60) : mX9_choose (nI n) (nI k) = some (lN (s_ch n k)) := by
  unfold mX9_choose
  rw [if_neg (nI_pos (by omega))]
  by_cases hkn : k ≤ n
  · rw [if_pos (nI_le hkn (by omega))]
    unfold mX9_choose_b16
    obtain ⟨c, r1, r2⟩ := x_run (s := fun q : Int64 × Int32 => mX9_choose_s16 (nI n) (nI k) q.1 q.2) (fun m q => ∃ i, 0 < i ∧ i ≤ k + 1 ∧ m = k + 1 - i ∧ q = (lN (s_ch (n - k + i - 1) (i - 1)), nI i)) (fun c => c = lN (s_ch n k)) (by
      rintro m q ⟨i, h0, hi, rfl, rfl⟩
      by_cases e : i = k + 1
      · subst e
        refine .inl ⟨_, ?_, rfl⟩
        try dsimp only
        unfold mX9_choose_s16
        rw [if_pos (nI_lt (by omega) (by omega)), show n - k + (k + 1) - 1 = n by omega, show k + 1 - 1 = k by omega]
      · refine .inr ⟨k + 1 - (i + 1), _, by omega, ?_, i + 1, by omega, by omega, rfl, rfl⟩
        try dsimp only
        unfold mX9_choose_s16
        rw [if_neg (nI_nlt (by omega) (by omega)), x_ny (s_chn h0 (by omega)), pk_sub hkn, nI_add, s_ch_step h0 (by omega), nI_1, show n - k + (i + 1) - 1 = n - k + i by omega, show i + 1 - 1 = i by omega]) k (1, 1) ⟨1, by omega, by omega, by omega, by rw [show 1 - 1 = 0 from rfl, s_ch_0]; rfl⟩
    rw [← r2]
    exact r1
  · rw [if_neg (nI_ge (by omega) (by omega)), s_ch_big n k (by omega)]
    rfl
theorem m_choose10 {n k : Nat} (hn : n ≤ 60) (hk : k ≤ 60) : mX10_choose (nI n) (nI k) = some (lN (s_ch n k)) := by
  unfold mX10_choose mX10_choose_b27
  rw [if_neg (nI_pos (by omega))]
  by_cases hkn : k ≤ n
  · rw [if_pos (nI_le hkn (by omega)), pk_sub hkn]
    have loop : ∀ t, t ≤ n → mX10_choose_b32 (nI n) 1 (nI t) 1 = some (lN (s_ch n t)) := by
      intro k hkn
      unfold mX10_choose_b32
      obtain ⟨c, r1, r2⟩ := x_run (s := fun q : Int64 × Int32 => mX10_choose_s32 (nI n) (nI k) q.1 q.2) (fun m q => ∃ i, 0 < i ∧ i ≤ k + 1 ∧ m = k + 1 - i ∧ q = (lN (s_ch (n - k + i - 1) (i - 1)), nI i)) (fun c => c = lN (s_ch n k)) (by
        rintro m q ⟨i, h0, hi, rfl, rfl⟩
        by_cases e : i = k + 1
        · subst e
          refine .inl ⟨_, ?_, rfl⟩
          try dsimp only
          unfold mX10_choose_s32
          rw [if_pos (nI_lt (by omega) (by omega)), show n - k + (k + 1) - 1 = n by omega, show k + 1 - 1 = k by omega]
        · refine .inr ⟨k + 1 - (i + 1), _, by omega, ?_, i + 1, by omega, by omega, rfl, rfl⟩
          try dsimp only
          unfold mX10_choose_s32
          rw [if_neg (nI_nlt (by omega) (by omega)), x_ny (s_chn h0 (by omega)), pk_sub hkn, nI_add, s_ch_step h0 (by omega), nI_1, show n - k + (i + 1) - 1 = n - k + i by omega, show i + 1 - 1 = i by omega]) k (1, 1) ⟨1, by omega, by omega, by omega, by rw [show 1 - 1 = 0 from rfl, s_ch_0]; rfl⟩
      rw [← r2]
      exact r1
    by_cases c : n - k ≤ k
    · rw [if_pos (nI_le c (by omega)), loop (n - k) (by omega), ← s_ch_sym n k hkn]
    · rw [if_neg (nI_ge (by omega) (by omega)), loop k hkn]
  · rw [if_neg (nI_ge (by omega) (by omega)), s_ch_big n k (by omega)]
    rfl
/-- the ways in which as many marked ones, or more, are taken -/
theorem m_lots {all marked taken both : Nat} (ha : all ≤ 60) (hm : marked ≤ all) (ht : taken ≤ all) (hb : both ≤ taken) (hbm : both ≤ marked) (p : Int32) : ∃ u o, mX5_luckyWays (nI all) (nI taken) (nI both) (nI marked) = some u ∧ mX5_ways (nI all) (nI taken) = some (lN (s_ch all taken)) ∧ mX9_fraction u (lN (s_ch all taken)) p = some o ∧ mX10_lotOf (nI all) (nI marked) (nI taken) (nI both) p = some o := by
  have nz : ¬ lN (s_ch all taken) = 0 := fun e => by
    have h1 := s_ch_pos all taken ht
    have h2 := s_ch_lt (n := all) (k := taken) ha
    have := (pk_lEQ (a := s_ch all taken) (b := 0) (by omega) (by omega)).mp e
    omega
  have e60 : all - marked ≤ 60 := by omega
  have mini : (if nI marked < nI taken then nI marked else nI taken) = nI (if marked < taken then marked else taken) := by
    by_cases c : marked < taken
    · rw [if_pos (nI_lt c (by omega)), if_pos c]
    · rw [if_neg (nI_nlt (by omega) (by omega)), if_neg c]
  have mn : (if marked < taken then marked else taken) ≤ taken ∧ (if marked < taken then marked else taken) ≤ marked ∧ both ≤ (if marked < taken then marked else taken) ∧ (taken ≤ (if marked < taken then marked else taken) ∨ marked ≤ (if marked < taken then marked else taken)) := by
    by_cases c : marked < taken
    · rw [if_pos c]; omega
    · rw [if_neg c]; omega
  have hl : mX5_luckyWays (nI all) (nI taken) (nI both) (nI marked) = some (lN (fb_sm (fun t => s_ch marked (both + t) * s_ch (all - marked) (taken - (both + t))) ((if marked < taken then marked else taken) + 1 - both))) := by
    unfold mX5_luckyWays mX5_luckyWays_b7
    obtain ⟨c, r1, r2⟩ := x_run (s := fun q : Int64 × Int32 => mX5_luckyWays_s7 (nI all) (nI taken) (nI both) (nI marked) q.1 q.2) (fun m q => ∃ j, both + j ≤ (if marked < taken then marked else taken) + 1 ∧ m = (if marked < taken then marked else taken) + 1 - (both + j) ∧ q = (lN (fb_sm (fun t => s_ch marked (both + t) * s_ch (all - marked) (taken - (both + t))) j), nI (both + j))) (fun c => c = lN (fb_sm (fun t => s_ch marked (both + t) * s_ch (all - marked) (taken - (both + t))) ((if marked < taken then marked else taken) + 1 - both))) (by
      rintro m q ⟨j, hj, rfl, rfl⟩
      by_cases e : both + j = (if marked < taken then marked else taken) + 1
      · refine .inl ⟨_, ?_, rfl⟩
        try dsimp only
        unfold mX5_luckyWays_s7
        rw [mini, if_pos (nI_lt (by omega) (by omega)), show (if marked < taken then marked else taken) + 1 - both = j by omega]
      · refine .inr ⟨(if marked < taken then marked else taken) + 1 - (both + (j + 1)), _, by omega, ?_, j + 1, by omega, rfl, rfl⟩
        try dsimp only
        unfold mX5_luckyWays_s7
        rw [mini, if_neg (nI_nlt (by omega) (by omega)), m_choose9 (by omega) (by omega), pk_sub hm, pk_sub (by omega), m_choose9 e60 (by omega)]
        simp only [Option.bind_some]
        rw [lN_mul, lN_add, nI_1]
        rfl) ((if marked < taken then marked else taken) + 1 - both) (0, nI both) ⟨0, by omega, by omega, rfl⟩
    rw [← r2]
    exact r1
  obtain ⟨o, f1, f2⟩ := m_frac (lN (fb_sm (fun t => s_ch marked (both + t) * s_ch (all - marked) (taken - (both + t))) ((if marked < taken then marked else taken) + 1 - both))) (lN (s_ch all taken)) nz p
  refine ⟨_, o, hl, by unfold mX5_ways; rw [m_choose9 ha (by omega)]; rfl, f1, ?_⟩
  have longer : fb_sm (fun t => s_ch marked (both + t) * s_ch (all - marked) (taken - (both + t))) (taken + 1 - both) = fb_sm (fun t => s_ch marked (both + t) * s_ch (all - marked) (taken - (both + t))) ((if marked < taken then marked else taken) + 1 - both) := by
    have gen : ∀ d, fb_sm (fun t => s_ch marked (both + t) * s_ch (all - marked) (taken - (both + t))) (marked + 1 - both + d) = fb_sm (fun t => s_ch marked (both + t) * s_ch (all - marked) (taken - (both + t))) (marked + 1 - both) := by
      intro d
      induction d with
      | zero => rfl
      | succ d ih =>
        rw [show marked + 1 - both + (d + 1) = (marked + 1 - both + d) + 1 by omega, fb_sm_succ, ih, s_ch_big marked (both + (marked + 1 - both + d)) (by omega), Nat.zero_mul, Nat.add_zero]
    by_cases c : marked < taken
    · rw [if_pos c]
      have := gen (taken - marked)
      rw [show marked + 1 - both + (taken - marked) = taken + 1 - both by omega] at this
      exact this
    · rw [if_neg c]
  unfold mX10_lotOf mX10_lotOf_b6
  obtain ⟨c, r1, r2⟩ := x_run (s := fun q : Int64 × Int32 => mX10_lotOf_s6 (nI all) (nI marked) (nI taken) p q.1 q.2) (fun m q => ∃ j, both + j ≤ taken + 1 ∧ m = taken + 1 - (both + j) ∧ q = (lN (fb_sm (fun t => s_ch marked (both + t) * s_ch (all - marked) (taken - (both + t))) j), nI (both + j))) (fun c => c = o) (by
    rintro m q ⟨j, hj, rfl, rfl⟩
    by_cases e : both + j = taken + 1
    · refine .inl ⟨o, ?_, rfl⟩
      try dsimp only
      unfold mX10_lotOf_s6
      rw [if_pos (nI_lt (by omega) (by omega)), m_choose10 ha (by omega)]
      simp only [Option.bind_some]
      rw [show j = taken + 1 - both by omega, longer, f2]
      rfl
    · refine .inr ⟨taken + 1 - (both + (j + 1)), _, by omega, ?_, j + 1, by omega, rfl, rfl⟩
      try dsimp only
      unfold mX10_lotOf_s6
      rw [if_neg (nI_nlt (by omega) (by omega)), m_choose10 (by omega) (by omega), pk_sub hm, pk_sub (by omega), m_choose10 e60 (by omega)]
      simp only [Option.bind_some]
      rw [lN_mul, lN_add, nI_1]
      rfl) (taken + 1 - both) (0, nI both) ⟨0, by omega, by omega, rfl⟩
  rw [← r2]
  exact r1
