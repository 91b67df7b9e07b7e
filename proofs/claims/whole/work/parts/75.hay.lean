/-! pure facts: when to cut hay -/
theorem s_ten : ∀ j, j < 10 → mX9_atT2 (nI j) = some (nI (10 ^ j)) := by decide +kernel
theorem s_ten_le : ∀ j, j < 10 → 10 ^ j ≤ 1000000000 ∧ 0 < 10 ^ j := by decide
/-- whether a telling of hay is one -/
def s_told (o n d k g l c : Int32) : Prop := (1 ≤ n ∧ n ≤ 9) ∧ (0 ≤ d ∧ d ≤ n) ∧ (1 ≤ k ∧ k ≤ 3) ∧ (0 ≤ g ∧ g ≤ 999) ∧ (0 ≤ l ∧ l ≤ 999) ∧ (0 ≤ c ∧ c ≤ 99) ∧ 0 ≤ o ∧ o < nI (10 ^ n.toNatClampNeg)
theorem n_19 {n : Int32} (h : 1 ≤ n ∧ n ≤ 9) : ∃ m, 0 < m ∧ m ≤ 9 ∧ n = nI m := by
  have a := h.1
  have b := h.2
  rw [i_le, show (1 : Int32).toInt = 1 by decide] at a
  rw [i_le, show (9 : Int32).toInt = 9 by decide] at b
  obtain ⟨m, h1, h2⟩ := n_of2 (v := n) (n := 9) (by omega) (by omega)
  refine ⟨m, ?_, h1, h2⟩
  rcases Nat.eq_zero_or_pos m with z | z
  · rw [h2, z, show (nI 0).toInt = 0 by decide] at a
    omega
  · exact z
theorem m_isHay10 (o n d k g l c : Int32) : mX10_isHay o n d k g l c = some (s_b (s_told o n d k g l c)) := by
  unfold mX10_isHay
  rw [show mX10_in n.toInt64 1 9 = some (decide (1 ≤ n ∧ n ≤ 9)) from m_in n 1 9, m_in01 d n _ rfl, show mX10_in k.toInt64 1 3 = some (decide (1 ≤ k ∧ k ≤ 3)) from m_in k 1 3, show mX10_in g.toInt64 0 999 = some (decide (0 ≤ g ∧ g ≤ 999)) from m_in g 0 999, show mX10_in l.toInt64 0 999 = some (decide (0 ≤ l ∧ l ≤ 999)) from m_in l 0 999, show mX10_in c.toInt64 0 99 = some (decide (0 ≤ c ∧ c ≤ 99)) from m_in c 0 99]
  simp only [Option.bind_some, xb_d]
  by_cases h1 : 1 ≤ n ∧ n ≤ 9
  · rw [if_neg (not_not_intro h1)]
    by_cases h2 : 0 ≤ d ∧ d ≤ n
    · rw [if_neg (not_not_intro h2)]
      by_cases h3 : 1 ≤ k ∧ k ≤ 3
      · rw [if_neg (not_not_intro h3)]
        by_cases h4 : 0 ≤ g ∧ g ≤ 999
        · rw [if_neg (not_not_intro h4)]
          by_cases h5 : 0 ≤ l ∧ l ≤ 999
          · rw [if_neg (not_not_intro h5)]
            by_cases h6 : 0 ≤ c ∧ c ≤ 99
            · rw [if_neg (not_not_intro h6)]
              obtain ⟨m, m0, m9, rfl⟩ := n_19 h1
              have cm : (nI m).toNatClampNeg = m := nI_clamp (by omega)
              have tl := s_ten_le m (by omega)
              unfold mX10_isHay_b82
              obtain ⟨b, r1, r2⟩ := x_run (s := fun q : Int32 × Int32 => mX10_isHay_s82 o (nI m) q.1 q.2) (fun w q => ∃ i, i ≤ m ∧ w = m - i ∧ q = (nI (10 ^ i), nI i)) (fun b => b = s_b (s_told o (nI m) d k g l c)) (by
                rintro w q ⟨i, hi, rfl, rfl⟩
                by_cases him : i = m
                · subst him
                  refine .inl ⟨_, ?_, rfl⟩
                  try dsimp only
                  unfold mX10_isHay_s82
                  rw [if_pos (nI_le (Nat.le_refl i) (by omega)), n_pred tl.2, m_in01 o (nI (10 ^ i - 1)) _ rfl]
                  simp only [Option.bind_some]
                  congr 2
                  rw [s_b_d]
                  apply s_b_iff
                  unfold s_told
                  rw [cm]
                  have e : (o ≤ nI (10 ^ i - 1)) ↔ o < nI (10 ^ i) := by
                    rw [i_le, i_lt, show (nI (10 ^ i - 1)).toInt = ((10 ^ i - 1 : Nat) : Int) from nI_toInt (by omega), show (nI (10 ^ i)).toInt = ((10 ^ i : Nat) : Int) from nI_toInt (by omega)]
                    omega
                  constructor
                  · intro q
                    exact ⟨h1, h2, h3, h4, h5, h6, q.1, e.mp q.2⟩
                  · intro q
                    exact ⟨q.2.2.2.2.2.2.1, e.mpr q.2.2.2.2.2.2.2⟩
                · refine .inr ⟨m - (i + 1), (nI (10 ^ (i + 1)), nI (i + 1)), by omega, ?_, i + 1, by omega, rfl, rfl⟩
                  try dsimp only
                  unfold mX10_isHay_s82
                  rw [if_neg (nI_ge (by omega) (by omega)), nI_1, show nI (10 ^ i) * 10 = nI (10 ^ i * 10) from pk_mul _ 10, Nat.pow_succ]) m (1, 0) ⟨0, by omega, rfl, rfl⟩
              rw [← r2]
              exact r1
            · rw [if_pos h6, s_b_f (fun q => h6 q.2.2.2.2.2.1)]
          · rw [if_pos h5, s_b_f (fun q => h5 q.2.2.2.2.1)]
        · rw [if_pos h4, s_b_f (fun q => h4 q.2.2.2.1)]
      · rw [if_pos h3, s_b_f (fun q => h3 q.2.2.1)]
    · rw [if_pos h2, s_b_f (fun q => h2 q.2.1)]
  · rw [if_pos h1, s_b_f (fun q => h1 q.1)]
theorem m_isHay9 (o n d k g l c : Int32) : ∃ b : Bool, mX3_isAsTold o n k g l c = some b ∧ (b && s_b (0 ≤ d ∧ d ≤ n)) = s_b (s_told o n d k g l c) := by
  have b42 : ∀ t : Int32, (t = 0 ∨ t = 1) → mX3_isAsTold_b42 o n k g l c t = some (s_b (t = 1 ∧ (1 ≤ k ∧ k ≤ 3) ∧ (0 ≤ g ∧ g ≤ 999) ∧ (0 ≤ l ∧ l ≤ 999) ∧ (0 ≤ c ∧ c ≤ 99))) := by
    intro t ht
    unfold mX3_isAsTold_b42 mX3_isAsTold_b88 mX3_isAsTold_b89
    rw [m_within g 0 999, m_within l 0 999, m_within c 0 99, m_within k 1 3]
    simp only [Option.bind_some, xb_d]
    by_cases h4 : 0 ≤ g ∧ g ≤ 999
    · rw [if_neg (not_not_intro h4)]
      by_cases h5 : 0 ≤ l ∧ l ≤ 999
      · rw [if_neg (not_not_intro h5)]
        by_cases h6 : 0 ≤ c ∧ c ≤ 99
        · rw [if_neg (not_not_intro h6)]
          rcases ht with rfl | rfl
          · rw [if_pos rfl, s_b_f (fun q => absurd q.1 (by decide))]
          · rw [if_neg (by decide), if_neg (by decide)]
            by_cases h3 : 1 ≤ k ∧ k ≤ 3
            · rw [if_neg (not_not_intro h3), s_b_t ⟨rfl, h3, h4, h5, h6⟩]
            · rw [if_pos h3, s_b_f (fun q => h3 q.2.1)]
        · rw [if_pos h6, s_b_f (fun q => h6 q.2.2.2.2), if_pos trivial, ite_self]
      · rw [if_pos h5, s_b_f (fun q => h5 q.2.2.2.1), if_pos trivial, ite_self]
    · rw [if_pos h4, s_b_f (fun q => h4 q.2.2.1), if_pos trivial, ite_self]
  have fin : ∀ t : Int32, ∀ ht : t = 0 ∨ t = 1, (t = 1 ↔ (1 ≤ n ∧ n ≤ 9) ∧ 0 ≤ o ∧ o < nI (10 ^ n.toNatClampNeg)) → (s_b (t = 1 ∧ (1 ≤ k ∧ k ≤ 3) ∧ (0 ≤ g ∧ g ≤ 999) ∧ (0 ≤ l ∧ l ≤ 999) ∧ (0 ≤ c ∧ c ≤ 99)) && s_b (0 ≤ d ∧ d ≤ n)) = s_b (s_told o n d k g l c) := by
    intro t _ ht
    by_cases h : s_told o n d k g l c
    · rw [s_b_t h, s_b_t h.2.1, s_b_t ⟨ht.mpr ⟨h.1, h.2.2.2.2.2.2⟩, h.2.2.1, h.2.2.2.1, h.2.2.2.2.1, h.2.2.2.2.2.1⟩]
      rfl
    · rw [s_b_f h]
      by_cases q : t = 1 ∧ (1 ≤ k ∧ k ≤ 3) ∧ (0 ≤ g ∧ g ≤ 999) ∧ (0 ≤ l ∧ l ≤ 999) ∧ (0 ≤ c ∧ c ≤ 99)
      · have : ¬ (0 ≤ d ∧ d ≤ n) := fun z => h ⟨(ht.mp q.1).1, z, q.2.1, q.2.2.1, q.2.2.2.1, q.2.2.2.2, (ht.mp q.1).2⟩
        rw [s_b_t q, s_b_f this]
        rfl
      · rw [s_b_f q]
        rfl
  unfold mX3_isAsTold mX3_isAsTold_b41
  rw [m_within n 1 9]
  simp only [Option.bind_some, xb_d]
  by_cases h1 : 1 ≤ n ∧ n ≤ 9
  · rw [if_neg (not_not_intro h1)]
    obtain ⟨m, m0, m9, rfl⟩ := n_19 h1
    have cm : (nI m).toNatClampNeg = m := nI_clamp (by omega)
    by_cases h2 : o < 0
    · rw [if_pos h2, b42 0 (.inl rfl)]
      refine ⟨_, rfl, fin 0 (.inl rfl) ⟨fun q => absurd q (by decide), fun q => ?_⟩⟩
      have := q.2.1
      rw [i_le] at this
      rw [i_lt] at h2
      omega
    · rw [if_neg h2, s_ten m (by omega)]
      simp only [Option.bind_some]
      by_cases h3 : nI (10 ^ m) ≤ o
      · rw [if_pos h3, b42 0 (.inl rfl)]
        refine ⟨_, rfl, fin 0 (.inl rfl) ⟨fun q => absurd q (by decide), fun q => ?_⟩⟩
        have := q.2.2
        rw [cm, i_lt] at this
        rw [i_le] at h3
        omega
      · rw [if_neg h3, b42 1 (.inr rfl)]
        refine ⟨_, rfl, fin 1 (.inr rfl) ⟨fun _ => ⟨h1, ?_, ?_⟩, fun _ => rfl⟩⟩
        · rw [i_le]; rw [i_lt] at h2; omega
        · rw [cm, i_lt]; rw [i_le] at h3; omega
  · rw [if_pos h1, b42 0 (.inl rfl)]
    exact ⟨_, rfl, fin 0 (.inl rfl) ⟨fun q => absurd q (by decide), fun q => absurd q.1 h1⟩⟩
/-- the dryness of day d of n -/
def s_dry (O n d : Nat) : Nat := 1000 - 100 * (O / 10 ^ (n - 1 - d) % 10)
theorem s_dry_le (O n d : Nat) : s_dry O n d ≤ 1000 := Nat.sub_le _ _
/-- dryness over k days from d on -/
def s_dk (O n d : Nat) : Nat → Nat | 0 => 1000 | k + 1 => s_dk O n d k * s_dry O n (d + k) / 1000
theorem s_dk_le (O n d : Nat) : ∀ k, s_dk O n d k ≤ 1000
  | 0 => Nat.le_refl _
  | k + 1 => by
    have h1 := s_dk_le O n d k
    have h2 := s_dry_le O n (d + k)
    have h3 := Nat.mul_le_mul h1 h2
    show s_dk O n d k * s_dry O n (d + k) / 1000 ≤ 1000
    omega
/-- what cutting on day d is worth -/
def s_cut (O n k : Nat) (g l : Int32) (d : Nat) : Int32 := (g + l) * nI (s_dk O n d k) - 1000 * l
/-- what is worth at j days ahead of the end -/
def s_val (O n k : Nat) (g l c : Int32) : Nat → Int32
  | 0 => 0
  | j + 1 => if n - (j + 1) + k ≤ n then (if (if 0 < s_val O n k g l c j - 1000 * c then s_val O n k g l c j - 1000 * c else 0) < s_cut O n k g l (n - (j + 1)) then s_cut O n k g l (n - (j + 1)) else (if 0 < s_val O n k g l c j - 1000 * c then s_val O n k g l c j - 1000 * c else 0)) else (if 0 < s_val O n k g l c j - 1000 * c then s_val O n k g l c j - 1000 * c else 0)
theorem m_tenths {O n d : Nat} (hn : n ≤ 9) (hd : d < n) (hO : O < 2147483648) : mX3_tenthsOf (nI O) (nI n) (nI d) = some (nI (O / 10 ^ (n - 1 - d) % 10)) := by
  have tl := s_ten_le (n - 1 - d) (by omega)
  have dl : O / 10 ^ (n - 1 - d) ≤ O := Nat.div_le_self _ _
  unfold mX3_tenthsOf
  rw [n_pred (by omega), pk_sub (by omega), s_ten (n - 1 - d) (by omega)]
  simp only [Option.bind_some]
  rw [if_neg (nI_nle tl.2 (by omega)), x_ny (nI_ne0 tl.2 (by omega)), pk_div hO tl.2 (by omega)]
  congr 1
  exact pk_rem (d := 10) (by omega) (by omega) (by omega)
theorem m_cut {O n k d : Nat} (g l : Int32) (hn : n ≤ 9) (hk : k ≤ 3) (hd : d + k ≤ n) (hO : O < 2147483648) : mX3_valueOfCutting (nI O) (nI n) (nI k) g l (nI d) = some (s_cut O n k g l d) := by
  unfold mX3_valueOfCutting mX3_valueOfCutting_b6
  obtain ⟨b, r1, r2⟩ := x_run (s := fun q : Int32 × Int32 => mX3_valueOfCutting_s6 (nI O) (nI n) (nI k) g l (nI d) q.1 q.2) (fun w q => ∃ i, i ≤ k ∧ w = k - i ∧ q = (nI (s_dk O n d i), nI (d + i))) (fun b => b = s_cut O n k g l d) (by
    rintro w q ⟨i, hi, rfl, rfl⟩
    by_cases hik : i = k
    · subst hik
      refine .inl ⟨_, ?_, rfl⟩
      try dsimp only
      unfold mX3_valueOfCutting_s6
      rw [nI_add, if_pos (nI_le (Nat.le_refl _) (by omega))]
      rfl
    · refine .inr ⟨k - (i + 1), (nI (s_dk O n d (i + 1)), nI (d + (i + 1))), by omega, ?_, i + 1, by omega, rfl, rfl⟩
      have h1 := s_dk_le O n d i
      have h2 := s_dry_le O n (d + i)
      have h3 := Nat.mul_le_mul h1 h2
      try dsimp only
      unfold mX3_valueOfCutting_s6
      rw [nI_add, if_neg (nI_ge (by omega) (by omega)), m_tenths hn (by omega) hO]
      simp only [Option.bind_some]
      rw [show (100 : Int32) * nI (O / 10 ^ (n - 1 - (d + i)) % 10) = nI (100 * (O / 10 ^ (n - 1 - (d + i)) % 10)) from pk_mul 100 _, show (1000 : Int32) - nI (100 * (O / 10 ^ (n - 1 - (d + i)) % 10)) = nI (s_dry O n (d + i)) from pk_sub (a := 1000) (by omega), pk_mul, show nI (s_dk O n d i * s_dry O n (d + i)) / 1000 = nI (s_dk O n d i * s_dry O n (d + i) / 1000) from pk_div (d := 1000) (by omega) (by omega) (by omega), nI_1]
      rfl) k (1000, nI d) ⟨0, by omega, rfl, rfl⟩
  rw [← r2]
  exact r1
theorem m_canCut {n k d : Nat} (hn : n ≤ 9) (hk : k ≤ 3) (hd : d ≤ n) : mX3_canCut (nI n) (nI k) (nI d) = some (decide (d + k ≤ n)) := by
  unfold mX3_canCut
  rw [nI_add]
  by_cases c : d + k ≤ n
  · rw [if_neg (nI_nlt c (by omega)), decide_eq_true c]
  · rw [if_pos (nI_lt (by omega) (by omega)), decide_eq_false c]
theorem n_dn (d : Nat) : nI d - 1 + (-1) = nI d - 1 - 1 := (Int32.sub_eq_add_neg _ _).symm
theorem n_dlt {D : Nat} (h : D < 2147483648) : nI D - 1 < nI D := by
  rcases Nat.eq_zero_or_pos D with z | z
  · rw [z]; decide
  · rw [n_pred z]
    exact nI_lt (by omega) (by omega)
theorem m_valueFrom {O n k D : Nat} (g l c : Int32) (hn : n ≤ 9) (hk : k ≤ 3) (hD : D ≤ n) (hO : O < 2147483648) : mX3_valueFrom (nI O) (nI n) (nI k) g l c (nI D) = some (s_val O n k g l c (n - D)) := by
  unfold mX3_valueFrom mX3_valueFrom_b9
  obtain ⟨b, r1, r2⟩ := x_run (s := fun q : Int32 × Int32 => mX3_valueFrom_s9 (nI O) (nI n) (nI k) g l c (nI D) q.1 q.2) (fun w q => ∃ d, D ≤ d ∧ d ≤ n ∧ w = d - D ∧ q = (s_val O n k g l c (n - d), nI d - 1)) (fun b => b = s_val O n k g l c (n - D)) (by
    rintro w q ⟨d, h1, h2, rfl, rfl⟩
    by_cases hdD : d = D
    · subst hdD
      refine .inl ⟨_, ?_, rfl⟩
      try dsimp only
      unfold mX3_valueFrom_s9
      rw [if_pos (n_dlt (by omega))]
    · obtain ⟨e, rfl⟩ : ∃ e, d = e + 1 := ⟨d - 1, by omega⟩
      have ev : s_val O n k g l c (n - e) = (if e + k ≤ n then (if (if 0 < s_val O n k g l c (n - (e + 1)) - 1000 * c then s_val O n k g l c (n - (e + 1)) - 1000 * c else 0) < s_cut O n k g l e then s_cut O n k g l e else (if 0 < s_val O n k g l c (n - (e + 1)) - 1000 * c then s_val O n k g l c (n - (e + 1)) - 1000 * c else 0)) else (if 0 < s_val O n k g l c (n - (e + 1)) - 1000 * c then s_val O n k g l c (n - (e + 1)) - 1000 * c else 0)) := by
        rw [show n - e = (n - (e + 1)) + 1 by omega]
        show (if n - (n - (e + 1) + 1) + k ≤ n then _ else _) = _
        rw [show n - (n - (e + 1) + 1) = e by omega]
      refine .inr ⟨e - D, (s_val O n k g l c (n - e), nI e - 1), by omega, ?_, e, by omega, by omega, rfl, rfl⟩
      try dsimp only
      unfold mX3_valueFrom_s9 mX3_valueFrom_b47
      rw [n_dn, nI_pred, if_neg (nI_nlt (by omega) (by omega)), m_canCut hn hk (by omega), ev]
      simp only [Option.bind_some, xb_d]
      by_cases cc : e + k ≤ n
      · rw [if_neg (not_not_intro cc), m_cut g l hn hk cc hO, if_pos cc]
        rfl
      · rw [if_pos cc, if_neg cc]) (n - D) (0, nI n - 1) ⟨n, hD, Nat.le_refl n, rfl, by rw [Nat.sub_self]; rfl⟩
  rw [← r2]
  exact r1
/-- what to do at j days ahead of the end -/
def s_cho (O n k : Nat) (g l c : Int32) : Nat → Int32
  | 0 => 0
  | j + 1 => if s_val O n k g l c (j + 1) = 0 then 0 else if n - (j + 1) + k ≤ n ∧ s_val O n k g l c (j + 1) = s_cut O n k g l (n - (j + 1)) then 1 else 2
theorem m_choiceOn {O n k D : Nat} (g l c : Int32) (hn : n ≤ 9) (hk : k ≤ 3) (hD : D ≤ n) (hO : O < 2147483648) : mX3_choiceOn (nI O) (nI n) (nI k) g l c (nI D) = some (s_cho O n k g l c (n - D)) := by
  unfold mX3_choiceOn
  rw [m_valueFrom g l c hn hk hD hO]
  simp only [Option.bind_some]
  by_cases e : D = n
  · subst e
    rw [Nat.sub_self]
    exact if_pos rfl
  · rw [show n - D = (n - (D + 1)) + 1 by omega]
    show _ = some (if s_val O n k g l c (n - (D + 1) + 1) = 0 then 0 else if n - (n - (D + 1) + 1) + k ≤ n ∧ s_val O n k g l c (n - (D + 1) + 1) = s_cut O n k g l (n - (n - (D + 1) + 1)) then 1 else 2)
    rw [show n - (n - (D + 1) + 1) = D by omega]
    by_cases c0 : s_val O n k g l c (n - (D + 1) + 1) = 0
    · rw [if_pos c0, if_pos c0]
    · rw [if_neg c0, if_neg c0, m_canCut hn hk hD]
      simp only [Option.bind_some, xb_d]
      by_cases cc : D + k ≤ n
      · rw [if_neg (not_not_intro cc), m_cut g l hn hk cc hO]
        simp only [Option.bind_some]
        by_cases ce : s_val O n k g l c (n - (D + 1) + 1) = s_cut O n k g l D
        · rw [if_pos ce, if_pos ⟨cc, ce⟩]
        · rw [if_neg ce, if_neg (fun q => ce q.2)]
      · rw [if_pos cc, if_neg (fun q => cc q.1)]
/-- the reference's best and deed are the class's -/
theorem i_best (w c : Int32) (cc : Prop) [Decidable cc] : (if w ≤ (if cc then (if c ≤ 0 then 0 else c) else 0) then (if cc then (if c ≤ 0 then 0 else c) else 0) else w) = (if cc then (if (if 0 < w then w else 0) < c then c else (if 0 < w then w else 0)) else (if 0 < w then w else 0)) := by
  have z0 : (0 : Int32).toInt = 0 := Int32.toInt_zero
  by_cases h : cc
  · simp only [if_pos h]
    by_cases h1 : c ≤ 0
    · rw [if_pos h1]
      by_cases h2 : w ≤ 0
      · have h3 : ¬ 0 < w := by rw [i_lt]; rw [i_le] at h2; omega
        have h4 : ¬ 0 < c := by rw [i_lt]; rw [i_le] at h1; omega
        rw [if_pos h2, if_neg h3, if_neg h4]
      · have h3 : 0 < w := by rw [i_lt]; rw [i_le] at h2; omega
        have h4 : ¬ w < c := by rw [i_lt]; rw [i_le] at h1; rw [i_lt] at h3; omega
        rw [if_neg h2, if_pos h3, if_neg h4]
    · rw [if_neg h1]
      have h0 : 0 < c := by rw [i_lt]; rw [i_le] at h1; omega
      by_cases h2 : w ≤ c
      · rw [if_pos h2]
        by_cases h3 : 0 < w
        · rw [if_pos h3]
          by_cases h4 : w < c
          · rw [if_pos h4]
          · rw [if_neg h4, i_eq]; rw [i_lt] at h4; rw [i_le] at h2; omega
        · rw [if_neg h3, if_pos h0]
      · rw [if_neg h2]
        have h3 : 0 < w := by rw [i_lt]; rw [i_lt] at h0; rw [i_le] at h2; omega
        have h4 : ¬ w < c := by rw [i_lt]; rw [i_le] at h2; omega
        rw [if_pos h3, if_neg h4]
  · simp only [if_neg h]
    by_cases h2 : w ≤ 0
    · have h3 : ¬ 0 < w := by rw [i_lt]; rw [i_le] at h2; omega
      rw [if_pos h2, if_neg h3]
    · have h3 : 0 < w := by rw [i_lt]; rw [i_le] at h2; omega
      rw [if_neg h2, if_pos h3]
theorem i_deed (w c : Int32) (cc : Prop) [Decidable cc] : (if w ≤ (if cc then (if c ≤ 0 then 0 else c) else 0) then (if cc then (if c ≤ 0 then (0 : Int32) else 1) else 0) else 2) = (if (if w ≤ (if cc then (if c ≤ 0 then 0 else c) else 0) then (if cc then (if c ≤ 0 then 0 else c) else 0) else w) = 0 then 0 else if cc ∧ (if w ≤ (if cc then (if c ≤ 0 then 0 else c) else 0) then (if cc then (if c ≤ 0 then 0 else c) else 0) else w) = c then 1 else 2) := by
  have z0 : (0 : Int32).toInt = 0 := Int32.toInt_zero
  by_cases h : cc
  · simp only [if_pos h]
    by_cases h1 : c ≤ 0
    · rw [if_pos h1, if_pos h1]
      by_cases h2 : w ≤ 0
      · rw [if_pos h2, if_pos h2, if_pos rfl]
      · have h5 : ¬ w = 0 := fun q => h2 (by rw [q]; decide)
        have h6 : ¬ w = c := fun q => h2 (by rw [q]; exact h1)
        rw [if_neg h2, if_neg h2, if_neg h5, if_neg (fun q : cc ∧ w = c => h6 q.2)]
    · rw [if_neg h1, if_neg h1]
      have h0 : ¬ c = 0 := fun q => h1 (by rw [q]; decide)
      by_cases h2 : w ≤ c
      · rw [if_pos h2, if_pos h2, if_neg h0, if_pos ⟨h, rfl⟩]
      · have h5 : ¬ w = 0 := fun q => by rw [q] at h2; rw [i_le] at h1 h2; omega
        have h6 : ¬ w = c := fun q => h2 (by rw [q, i_le]; omega)
        rw [if_neg h2, if_neg h2, if_neg h5, if_neg (fun q : cc ∧ w = c => h6 q.2)]
  · simp only [if_neg h]
    by_cases h2 : w ≤ 0
    · rw [if_pos h2, if_pos h2, if_pos rfl]
    · have h5 : ¬ w = 0 := fun q => h2 (by rw [q]; decide)
      rw [if_neg h2, if_neg h2, if_neg h5, if_neg (fun q : cc ∧ w = c => h q.1)]
theorem m_findHay {O n k : Nat} (g l c : Int32) (dr va do_ : Nat → Int32) (h0 : 0 < n) (hn : n ≤ 9) (hk1 : 0 < k) (hk : k ≤ 3) (hO : O < 2147483648) : ∃ dr' va' do', mX10_findHay dr va do_ (nI O) (nI n) (nI k) g l c = some (dr', va', do') ∧ ∀ j, j ≤ n → va' j = s_val O n k g l c (n - j) ∧ do' j = s_cho O n k g l c (n - j) := by
  -- the last loop
  have back : ∀ dr : Nat → Int32, (∀ j, j < n → dr j = nI (s_dry O n j)) → ∃ va' do', mX10_findHay_b64 dr (upd va n 0) (upd do_ n 0) (nI n) (nI k) g l c (nI n - 1) = some (dr, va', do') ∧ ∀ j, j ≤ n → va' j = s_val O n k g l c (n - j) ∧ do' j = s_cho O n k g l c (n - j) := by
    intro dr hdr
    unfold mX10_findHay_b64
    obtain ⟨b, r1, va', do', r2, r3⟩ := x_run (s := fun q : Int32 × (Nat → Int32) × (Nat → Int32) => mX10_findHay_s64 dr (nI n) (nI k) g l c q.1 q.2.1 q.2.2) (fun w q => ∃ i v d, i ≤ n ∧ w = i ∧ q = (nI i - 1, v, d) ∧ ∀ j, i ≤ j → j ≤ n → v j = s_val O n k g l c (n - j) ∧ d j = s_cho O n k g l c (n - j)) (fun b => ∃ va' do', b = (dr, va', do') ∧ ∀ j, j ≤ n → va' j = s_val O n k g l c (n - j) ∧ do' j = s_cho O n k g l c (n - j)) (by
      rintro i q ⟨i0, v, d, hi, rfl, rfl, hvd⟩
      rcases Nat.eq_zero_or_pos i with z | z
      · subst z
        refine .inl ⟨(dr, v, d), ?_, v, d, rfl, fun j hj => hvd j (by omega) hj⟩
        try dsimp only
        unfold mX10_findHay_s64
        rw [if_pos (show nI 0 - 1 < 0 by decide)]
      obtain ⟨e, rfl⟩ : ∃ e, i = e + 1 := ⟨i - 1, by omega⟩
      have x10 : x_in (nI e) 10 := n_xin (by omega) (by omega)
      have ce : (nI e).toNatClampNeg = e := nI_clamp (by omega)
      have ce1 : (nI (e + 1)).toNatClampNeg = e + 1 := nI_clamp (by omega)
      have hv1 := (hvd (e + 1) (by omega) (by omega)).1
      -- the wait
      have b177 : ∀ best does : Int32, mX10_findHay_b177 dr v d (nI n) (nI k) g l c (nI e) best does = some (.inr (nI e - 1, upd v e (if s_val O n k g l c (n - (e + 1)) - 1000 * c ≤ best then best else s_val O n k g l c (n - (e + 1)) - 1000 * c), upd d e (if s_val O n k g l c (n - (e + 1)) - 1000 * c ≤ best then does else 2))) := by
        intro best does
        unfold mX10_findHay_b177 mX10_findHay_b208 mX10_findHay_b224
        rw [nI_1, x_ny (n_xin (by omega) (by omega)), ce1, hv1]
        simp only [x_ny x10, ce, ← Int32.sub_eq_add_neg]
        by_cases q : s_val O n k g l c (n - (e + 1)) - 1000 * c ≤ best
        · simp only [if_pos q]
        · simp only [if_neg q]
      have main : mX10_findHay_s64 dr (nI n) (nI k) g l c (nI (e + 1) - 1) v d = some (.inr (nI e - 1, upd v e (if s_val O n k g l c (n - (e + 1)) - 1000 * c ≤ (if e + k ≤ n then (if s_cut O n k g l e ≤ 0 then 0 else s_cut O n k g l e) else 0) then (if e + k ≤ n then (if s_cut O n k g l e ≤ 0 then 0 else s_cut O n k g l e) else 0) else s_val O n k g l c (n - (e + 1)) - 1000 * c), upd d e (if s_val O n k g l c (n - (e + 1)) - 1000 * c ≤ (if e + k ≤ n then (if s_cut O n k g l e ≤ 0 then 0 else s_cut O n k g l e) else 0) then (if e + k ≤ n then (if s_cut O n k g l e ≤ 0 then 0 else 1) else 0) else 2))) := by
        unfold mX10_findHay_s64
        rw [nI_pred, if_neg (nI_pos (by omega)), nI_add]
        by_cases cc : e + k ≤ n
        · rw [if_neg (nI_nlt cc (by omega)), x_ny (n_xin (by omega) (by omega)), ce, hdr e (by omega), nI_1]
          simp only [if_pos cc]
          unfold mX10_findHay_b98
          obtain ⟨b, r1, r2⟩ := x_run (s := fun q : Int32 × Int32 => mX10_findHay_s98 dr v d (nI n) (nI k) g l c (nI e) 0 0 q.1 q.2) (fun w q => ∃ i, 0 < i ∧ i ≤ k ∧ w = k - i ∧ q = (nI (s_dk O n e i), nI (e + i))) (fun b => some b = mX10_findHay_b177 dr v d (nI n) (nI k) g l c (nI e) (if s_cut O n k g l e ≤ 0 then 0 else s_cut O n k g l e) (if s_cut O n k g l e ≤ 0 then 0 else 1)) (by
            rintro w q ⟨i, hi0, hik, rfl, rfl⟩
            by_cases e1 : i = k
            · subst e1
              refine .inl ⟨_, ?_, (b177 _ _).symm⟩
              try dsimp only
              unfold mX10_findHay_s98 mX10_findHay_b159 mX10_findHay_b175
              rw [nI_add, if_pos (nI_le (Nat.le_refl _) (by omega))]
              show (if s_cut O n i g l e ≤ 0 then x_up (if s_cut O n i g l e ≤ 0 then mX10_findHay_b177 dr v d (nI n) (nI i) g l c (nI e) 0 0 else mX10_findHay_b177 dr v d (nI n) (nI i) g l c (nI e) (s_cut O n i g l e) 0) else x_up (if s_cut O n i g l e ≤ 0 then mX10_findHay_b177 dr v d (nI n) (nI i) g l c (nI e) 0 1 else mX10_findHay_b177 dr v d (nI n) (nI i) g l c (nI e) (s_cut O n i g l e) 1)) = _
              by_cases q : s_cut O n i g l e ≤ 0
              · rw [if_pos q, if_pos q, if_pos q, if_pos q, b177]
                rfl
              · rw [if_neg q, if_neg q, if_neg q, if_neg q, b177]
                rfl
            · have h1 := s_dk_le O n e i
              have h2 := s_dry_le O n (e + i)
              have h3 := Nat.mul_le_mul h1 h2
              refine .inr ⟨k - (i + 1), (nI (s_dk O n e (i + 1)), nI (e + (i + 1))), by omega, ?_, i + 1, by omega, by omega, rfl, rfl⟩
              try dsimp only
              unfold mX10_findHay_s98
              rw [nI_add, if_neg (nI_ge (by omega) (by omega)), x_ny (n_xin (by omega) (by omega)), nI_clamp (by omega), hdr (e + i) (by omega), pk_mul, show nI (s_dk O n e i * s_dry O n (e + i)) / 1000 = nI (s_dk O n e i * s_dry O n (e + i) / 1000) from pk_div (d := 1000) (by omega) (by omega) (by omega), nI_1]
              rfl) (k - 1) (nI (s_dry O n e), nI (e + 1)) ⟨1, by omega, by omega, rfl, by
                have : s_dk O n e 1 = s_dry O n e := by
                  show 1000 * s_dry O n (e + 0) / 1000 = _
                  rw [Nat.add_zero, Nat.mul_div_cancel_left _ (by omega)]
                rw [this]⟩
          rw [r1, r2, b177]
        · rw [if_pos (nI_lt (by omega) (by omega)), b177]
          simp only [if_neg cc]
      refine .inr ⟨e, _, by omega, main, e, _, _, by omega, rfl, rfl, fun j h1 h2 => ?_⟩
      by_cases hje : j = e
      · subst hje
        rw [pk_us, pk_us]
        have ev : s_val O n k g l c (n - j) = (if j + k ≤ n then (if (if 0 < s_val O n k g l c (n - (j + 1)) - 1000 * c then s_val O n k g l c (n - (j + 1)) - 1000 * c else 0) < s_cut O n k g l j then s_cut O n k g l j else (if 0 < s_val O n k g l c (n - (j + 1)) - 1000 * c then s_val O n k g l c (n - (j + 1)) - 1000 * c else 0)) else (if 0 < s_val O n k g l c (n - (j + 1)) - 1000 * c then s_val O n k g l c (n - (j + 1)) - 1000 * c else 0)) := by
          rw [show n - j = (n - (j + 1)) + 1 by omega]
          show (if n - (n - (j + 1) + 1) + k ≤ n then _ else _) = _
          rw [show n - (n - (j + 1) + 1) = j by omega]
        have ec : s_cho O n k g l c (n - j) = (if s_val O n k g l c (n - j) = 0 then 0 else if j + k ≤ n ∧ s_val O n k g l c (n - j) = s_cut O n k g l j then 1 else 2) := by
          rw [show n - j = (n - (j + 1)) + 1 by omega]
          show (if s_val O n k g l c (n - (j + 1) + 1) = 0 then 0 else if n - (n - (j + 1) + 1) + k ≤ n ∧ s_val O n k g l c (n - (j + 1) + 1) = s_cut O n k g l (n - (n - (j + 1) + 1)) then 1 else 2) = _
          rw [show n - (n - (j + 1) + 1) = j by omega]
        have e1 := i_best (s_val O n k g l c (n - (j + 1)) - 1000 * c) (s_cut O n k g l j) (j + k ≤ n)
        refine ⟨e1.trans ev.symm, ?_⟩
        rw [i_deed, ec, ev, e1]
      · rw [pk_un hje, pk_un hje]
        exact hvd j (by omega) h2) n (nI n - 1, upd va n 0, upd do_ n 0) ⟨n, _, _, Nat.le_refl n, rfl, rfl, fun j h1 h2 => by
          have : j = n := by omega
          subst this
          rw [pk_us, pk_us, Nat.sub_self]
          exact ⟨rfl, rfl⟩⟩
    exact ⟨va', do', by rw [r1, r2], r3⟩
  unfold mX10_findHay mX10_findHay_b8
  obtain ⟨b, r1, dr', va', do', r2, r3⟩ := x_run (s := fun q : Int32 × Int32 × (Nat → Int32) => mX10_findHay_s8 va do_ (nI n) (nI k) g l c q.1 q.2.1 q.2.2) (fun w q => ∃ i d, i ≤ n ∧ w = i ∧ q = (nI (O / 10 ^ (n - i)), nI i - 1, d) ∧ ∀ j, i ≤ j → j < n → d j = nI (s_dry O n j)) (fun b => ∃ dr' va' do', b = (dr', va', do') ∧ ∀ j, j ≤ n → va' j = s_val O n k g l c (n - j) ∧ do' j = s_cho O n k g l c (n - j)) (by
    rintro i q ⟨i0, d, hi, rfl, rfl, hd⟩
    rcases Nat.eq_zero_or_pos i with z | z
    · subst z
      obtain ⟨va', do', e1, e2⟩ := back d (fun j hj => hd j (by omega) hj)
      refine .inl ⟨(d, va', do'), ?_, d, va', do', rfl, e2⟩
      try dsimp only
      unfold mX10_findHay_s8
      have xn : x_in (nI n) 10 := n_xin (by omega) (by omega)
      rw [if_pos (show nI 0 - 1 < 0 by decide), x_ny xn, x_ny xn, nI_clamp (by omega), e1]
      rfl
    obtain ⟨e, rfl⟩ : ∃ e, i = e + 1 := ⟨i - 1, by omega⟩
    have dl : O / 10 ^ (n - (e + 1)) ≤ O := Nat.div_le_self _ _
    have pw : 10 ^ (n - e) = 10 ^ (n - (e + 1)) * 10 := by rw [show n - e = (n - (e + 1)) + 1 by omega, Nat.pow_succ]
    refine .inr ⟨e, (nI (O / 10 ^ (n - e)), nI e - 1, upd d e (nI (s_dry O n e))), by omega, ?_, e, _, by omega, rfl, rfl, fun j h1 h2 => ?_⟩
    · try dsimp only
      unfold mX10_findHay_s8
      rw [nI_pred, if_neg (nI_pos (by omega)), x_ny (n_xin (by omega) (by omega)), nI_clamp (by omega), ← Int32.sub_eq_add_neg]
      have d10 : nI (O / 10 ^ (n - (e + 1))) / 10 = nI (O / 10 ^ (n - e)) := by
        rw [pw, ← Nat.div_div_eq_div_mul]
        exact pk_div (d := 10) (by omega) (by omega) (by omega)
      have r10 : nI (O / 10 ^ (n - (e + 1))) - nI (O / 10 ^ (n - (e + 1))) / 10 * 10 = nI (O / 10 ^ (n - (e + 1)) % 10) := pk_rem (d := 10) (by omega) (by omega) (by omega)
      rw [r10, d10, show (100 : Int32) * nI (O / 10 ^ (n - (e + 1)) % 10) = nI (100 * (O / 10 ^ (n - (e + 1)) % 10)) from pk_mul 100 _, show (1000 : Int32) - nI (100 * (O / 10 ^ (n - (e + 1)) % 10)) = nI (1000 - 100 * (O / 10 ^ (n - (e + 1)) % 10)) from pk_sub (a := 1000) (by omega)]
      unfold s_dry
      rw [show n - 1 - e = n - (e + 1) by omega]
    · by_cases hje : j = e
      · subst hje
        exact pk_us
      · rw [pk_un hje]
        exact hd j (by omega) h2) n (nI O, nI n - 1, dr) ⟨n, dr, Nat.le_refl n, rfl, by rw [Nat.sub_self, Nat.pow_zero, Nat.div_one], fun j h1 h2 => by omega⟩
  exact ⟨dr', va', do', by rw [r1, r2], r3⟩
theorem m_hayBoth (o n d k g l c : Int32) (dr va do_ : Nat → Int32) : (∃ a dr' va' do', mX9_hay o n d k g l c = some a ∧ mX10_hay dr va do_ o n d k g l c = some (a, dr', va', do')) ∧ ∃ a dr' va' do', mX9_does o n d k g l c = some a ∧ mX10_does dr va do_ o n d k g l c = some (a, dr', va', do') := by
  unfold mX9_hay mX9_does mX10_hay mX10_does
  obtain ⟨b, e1, e2⟩ := m_isHay9 o n d k g l c
  rw [e1, m_isHay10, m_within d 0 n]
  simp only [Option.bind_some, xb_d]
  by_cases h : s_told o n d k g l c
  · have hd := h.2.1
    have bt : b = true := by
      cases b with
      | true => rfl
      | false => rw [s_b_t h, Bool.false_and] at e2; exact absurd e2 (by decide)
    rw [bt, s_b_t h, if_neg xb_n, if_neg xb_n, if_neg (not_not_intro hd), if_neg xb_n, if_neg xb_n, if_neg (not_not_intro hd)]
    obtain ⟨N, N0, N9, rfl⟩ := n_19 h.1
    have tl := s_ten_le N (by omega)
    obtain ⟨D, hD, rfl⟩ := n_rng (m := N) (by omega) h.2.1
    obtain ⟨K, K0, K3, rfl⟩ : ∃ K, 0 < K ∧ K ≤ 3 ∧ k = nI K := by
      have a := h.2.2.1.1
      have b := h.2.2.1.2
      rw [i_le, show (1 : Int32).toInt = 1 by decide] at a
      rw [i_le, show (3 : Int32).toInt = 3 by decide] at b
      obtain ⟨m, h1, h2⟩ := n_of2 (v := k) (n := 3) (by omega) (by omega)
      refine ⟨m, ?_, h1, h2⟩
      rcases Nat.eq_zero_or_pos m with z | z
      · rw [h2, z, show (nI 0).toInt = 0 by decide] at a
        omega
      · exact z
    obtain ⟨O, hO, rfl⟩ : ∃ O, O < 2147483648 ∧ o = nI O := by
      have a := h.2.2.2.2.2.2.1
      rw [i_le, Int32.toInt_zero] at a
      have := Int32.toInt_lt o
      exact ⟨o.toInt.toNat, by omega, n_of a⟩
    obtain ⟨dr', va', do', f1, f2⟩ := m_findHay g l c dr va do_ N0 N9 K0 K3 hO
    have xD : x_in (nI D) 10 := n_xin (by omega) (by omega)
    have cD : (nI D).toNatClampNeg = D := nI_clamp (by omega)
    rw [f1, m_valueFrom g l c N9 K3 hD hO, m_choiceOn g l c N9 K3 hD hO]
    simp only [Option.bind_some]
    rw [x_ny xD, x_ny xD, cD, (f2 D hD).1, (f2 D hD).2]
    exact ⟨⟨_, _, _, _, rfl, rfl⟩, ⟨_, _, _, _, rfl, rfl⟩⟩
  · rw [s_b_f h, if_pos xb_f, if_pos xb_f]
    by_cases hb : b = true
    · have hd : ¬ (0 ≤ d ∧ d ≤ n) := fun z => by
        rw [hb, s_b_t z, s_b_f h] at e2
        exact absurd e2 (by decide)
      rw [hb, if_neg xb_n, if_neg xb_n, if_pos hd, if_pos hd]
      exact ⟨⟨_, _, _, _, rfl, rfl⟩, ⟨_, _, _, _, rfl, rfl⟩⟩
    · have : b = false := by cases b with | true => exact absurd rfl hb | false => rfl
      rw [this, if_pos xb_f, if_pos xb_f]
      exact ⟨⟨_, _, _, _, rfl, rfl⟩, ⟨_, _, _, _, rfl, rfl⟩⟩
