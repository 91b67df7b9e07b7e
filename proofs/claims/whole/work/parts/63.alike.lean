/-! pure facts: kinds packed, days alike -/
noncomputable def s_b (P : Prop) : Bool := @decide P (Classical.propDecidable P)
theorem s_b_t {P : Prop} (h : P) : s_b P = true := @decide_eq_true P (Classical.propDecidable P) h
theorem s_b_f {P : Prop} (h : ¬ P) : s_b P = false := @decide_eq_false P (Classical.propDecidable P) h
theorem s_b_of {P : Prop} (h : s_b P = true) : P := @of_decide_eq_true P (Classical.propDecidable P) h
theorem s_b_nof {P : Prop} (h : s_b P = false) : ¬ P := @of_decide_eq_false P (Classical.propDecidable P) h
theorem s_b_d (P : Prop) [Decidable P] : decide P = s_b P := by
  by_cases h : P
  · rw [decide_eq_true h, s_b_t h]
  · rw [decide_eq_false h, s_b_f h]
theorem s_b_iff {P Q : Prop} (h : P ↔ Q) : s_b P = s_b Q := by
  by_cases q : P
  · rw [s_b_t q, s_b_t (h.mp q)]
  · rw [s_b_f q, s_b_f (fun z => q (h.mpr z))]
def s_pk (K : Nat → Nat) : Nat := K 0 + K 1 * 16 + K 2 * 256 + K 3 * 4096 + K 4 * 65536 + K 5 * 1048576
theorem s_kd_le {v : Int32} (h : s_or 14 v) : s_kd v ≤ 15 := by
  unfold s_kd
  rcases h with h | ⟨n, h1, h2⟩
  · rw [if_pos h]; omega
  · rw [if_neg (by rw [h2]; exact n_ne6 n (by omega)), h2, nI_clamp (by omega)]; omega
theorem s_kd_inj {v w : Int32} (h : s_or 14 v) (h' : s_or 14 w) : (s_kd v = s_kd w ∧ ¬ s_kd v = 15) ↔ (¬ v = -6 ∧ v = w) := by
  have e6 : s_kd (-6) = 15 := by decide
  have en : ∀ n, n ≤ 14 → s_kd (nI n) = n := fun n hn => by
    unfold s_kd
    rw [if_neg (n_ne6 n (by omega)), nI_clamp (by omega)]
  rcases h with h | ⟨n, h1, h2⟩
  · rw [h, e6]
    exact ⟨fun q => absurd rfl q.2, fun q => absurd rfl q.1⟩
  · rcases h' with h' | ⟨m, h3, h4⟩
    · rw [h', e6, h2, en n h1]
      exact ⟨fun q => by omega, fun q => absurd q.2 q.1⟩
    · rw [h2, h4, en n h1, en m h3, n_eqI (by omega) (by omega)]
      exact ⟨fun q => ⟨n_ne6 n (by omega), q.1⟩, fun q => ⟨q.2, by omega⟩⟩
theorem s_sh4 : ∀ k, k < 6 → (((4 : Int32) * nI k &&& 31).toBitVec.smod 32).toNat = 4 * k := by decide +kernel
theorem m_kindsOf (y mo f g wi s r : Nat → Int32) (hb : s_bk y mo f g wi s r) {d : Nat} (hd : d < 60) : mX0_kindsOf y mo f wi s r (nI d) = some (nI (s_pk (fun k => s_kd (s_key y mo g wi s r k d)))) := by
  have kl : ∀ k, k < 6 → s_kd (s_key y mo g wi s r k d) ≤ 15 := fun k hk => s_kd_le (m_key y mo f g wi s r hb hk hd).2.1
  have st : ∀ k A p, k < 6 → 2 ^ (4 * k) = p → p ≤ 1048576 → A < p → mX0_kindsOf_s4 y mo f wi s r (nI d) (nI A) (nI k) = some (.inr (nI (A + p * s_kd (s_key y mo g wi s r k d)), nI (k + 1))) := by
    intro k A p hk hp hp2 hA
    obtain ⟨-, h2, o, h3, h4, h5⟩ := m_key y mo f g wi s r hb hk hd
    unfold mX0_kindsOf_s4
    rw [if_neg (show ¬ (6 : Int32) ≤ nI k from nI_ge (b := 6) hk (by omega)), h3]
    simp only [Option.bind_some]
    rw [h4]
    simp only [Option.bind_some]
    rw [h5]
    simp only [Option.bind_some]
    have b : s_kd (s_key y mo g wi s r k d) * 2 ^ (4 * k) < 2 ^ 32 := by
      rw [hp]
      have := Nat.mul_le_mul (kl k hk) hp2
      omega
    have e1 : nI (s_kd (s_key y mo g wi s r k d)) <<< ((4 * nI k) &&& 31) = nI (s_kd (s_key y mo g wi s r k d) * 2 ^ (4 * k)) := pk_shlN _ (4 * k) (s_sh4 k hk) b
    have e2 : nI (2 ^ (4 * k) * s_kd (s_key y mo g wi s r k d)) ||| nI A = nI (2 ^ (4 * k) * s_kd (s_key y mo g wi s r k d) + A) := fa_or_sum _ (by rw [hp]; exact hA)
    have e3 : nI A ||| nI (s_kd (s_key y mo g wi s r k d)) <<< ((4 * nI k) &&& 31) = nI (A + p * s_kd (s_key y mo g wi s r k d)) := by
      rw [e1, fa_or, Nat.or_comm, ← fa_or, Nat.mul_comm, e2, hp, Nat.add_comm]
    rw [e3, nI_1]
  have k0 := kl 0 (by omega)
  have k1 := kl 1 (by omega)
  have k2 := kl 2 (by omega)
  have k3 := kl 3 (by omega)
  have k4 := kl 4 (by omega)
  have k5 := kl 5 (by omega)
  unfold mX0_kindsOf mX0_kindsOf_b4
  refine (x_loop_inr (st 0 0 1 (by omega) rfl (by omega) (by omega))).trans ?_
  refine (x_loop_inr (st 1 _ 16 (by omega) rfl (by omega) (by omega))).trans ?_
  refine (x_loop_inr (st 2 _ 256 (by omega) rfl (by omega) (by omega))).trans ?_
  refine (x_loop_inr (st 3 _ 4096 (by omega) rfl (by omega) (by omega))).trans ?_
  refine (x_loop_inr (st 4 _ 65536 (by omega) rfl (by omega) (by omega))).trans ?_
  refine (x_loop_inr (st 5 _ 1048576 (by omega) rfl (by omega) (by omega))).trans ?_
  refine (x_loop_inl (r := _) (show mX0_kindsOf_s4 y mo f wi s r (nI d) _ (nI 6) = some (.inl _) from by
    unfold mX0_kindsOf_s4
    exact if_pos (show (6 : Int32) ≤ nI 6 by decide))).trans ?_
  exact congrArg (fun v => some (nI v)) (by unfold s_pk; dsimp only; omega)
/-- the kinds of the first n days -/
def s_ks (y mo g wi s r ki : Nat → Int32) (n : Nat) : Prop := ∀ j, j < n → ki j = nI (s_pk (fun k => s_kd (s_key y mo g wi s r k j)))
theorem s_nib (K : Nat → Nat) (hK : ∀ k, k < 6 → K k ≤ 15) {k : Nat} (hk : k < 6) : s_pk K / 2 ^ (4 * k) % 16 = K k := by
  have k0 := hK 0 (by omega)
  have k1 := hK 1 (by omega)
  have k2 := hK 2 (by omega)
  have k3 := hK 3 (by omega)
  have k4 := hK 4 (by omega)
  have k5 := hK 5 (by omega)
  unfold s_pk
  have kc : k = 0 ∨ k = 1 ∨ k = 2 ∨ k = 3 ∨ k = 4 ∨ k = 5 := by omega
  rcases kc with rfl | rfl | rfl | rfl | rfl | rfl
  · rw [show 2 ^ (4 * 0) = 1 from rfl]; omega
  · rw [show 2 ^ (4 * 1) = 16 from rfl]; omega
  · rw [show 2 ^ (4 * 2) = 256 from rfl]; omega
  · rw [show 2 ^ (4 * 3) = 4096 from rfl]; omega
  · rw [show 2 ^ (4 * 4) = 65536 from rfl]; omega
  · rw [show 2 ^ (4 * 5) = 1048576 from rfl]; omega
theorem s_pk_lt (K : Nat → Nat) (hK : ∀ k, k < 6 → K k ≤ 15) : s_pk K < 16777216 := by
  have k0 := hK 0 (by omega)
  have k1 := hK 1 (by omega)
  have k2 := hK 2 (by omega)
  have k3 := hK 3 (by omega)
  have k4 := hK 4 (by omega)
  have k5 := hK 5 (by omega)
  unfold s_pk
  omega
theorem s_x16 : ∀ a, a < 16 → ∀ b, b < 16 → (a ^^^ b = 0 ↔ a = b) := by decide +kernel
/-- whether two days are alike by the key k: 1 or 0 -/
def s_ab (K L : Nat → Nat) (k : Nat) : Nat := if K k = L k ∧ ¬ K k = 15 then 1 else 0
theorem s_ab_le (K L : Nat → Nat) (k : Nat) : s_ab K L k ≤ 1 := by
  unfold s_ab
  split <;> omega
def s_al (K L : Nat → Nat) : Nat := s_ab K L 0 + s_ab K L 1 * 2 + s_ab K L 2 * 4 + s_ab K L 3 * 8 + s_ab K L 4 * 16 + s_ab K L 5 * 32
theorem s_al_lt (K L : Nat → Nat) : s_al K L < 64 := by
  have k0 := s_ab_le K L 0
  have k1 := s_ab_le K L 1
  have k2 := s_ab_le K L 2
  have k3 := s_ab_le K L 3
  have k4 := s_ab_le K L 4
  have k5 := s_ab_le K L 5
  unfold s_al
  omega
theorem s_al_bit (K L : Nat → Nat) {k : Nat} (hk : k < 6) : s_al K L / 2 ^ k % 2 = s_ab K L k := by
  have k0 := s_ab_le K L 0
  have k1 := s_ab_le K L 1
  have k2 := s_ab_le K L 2
  have k3 := s_ab_le K L 3
  have k4 := s_ab_le K L 4
  have k5 := s_ab_le K L 5
  unfold s_al
  have kc : k = 0 ∨ k = 1 ∨ k = 2 ∨ k = 3 ∨ k = 4 ∨ k = 5 := by omega
  rcases kc with rfl | rfl | rfl | rfl | rfl | rfl
  · rw [show 2 ^ 0 = 1 from rfl]; omega
  · rw [show 2 ^ 1 = 2 from rfl]; omega
  · rw [show 2 ^ 2 = 4 from rfl]; omega
  · rw [show 2 ^ 3 = 8 from rfl]; omega
  · rw [show 2 ^ 4 = 16 from rfl]; omega
  · rw [show 2 ^ 5 = 32 from rfl]; omega
theorem s_sub : ∀ a, a < 64 → ∀ q, q < 64 → (a &&& q = q ↔ ∀ k, k < 6 → q / 2 ^ k % 2 = 1 → a / 2 ^ k % 2 = 1) := by decide +kernel
theorem s_shl1 : ∀ k, k < 6 → (1 : Int32) <<< (nI k &&& 31) = nI (2 ^ k) := by decide +kernel
theorem m_alike (K L : Nat → Nat) (hK : ∀ k, k < 6 → K k ≤ 15) (hL : ∀ k, k < 6 → L k ≤ 15) (ki : Nat → Int32) {d o : Nat} (hd : d < 60) (ho : o < 60) (h1 : ki d = nI (s_pk K)) (h2 : ki o = nI (s_pk L)) : mX0_alikeKeys ki (nI d) (nI o) = some (nI (s_al K L)) := by
  have lk := s_pk_lt K hK
  have ll := s_pk_lt L hL
  have xl : s_pk K ^^^ s_pk L < 2 ^ 24 := Nat.xor_lt_two_pow lk ll
  have st : ∀ k A p, k < 6 → 2 ^ k = p → p ≤ 32 → A < p → mX0_alikeKeys_s27 ki (nI (s_pk K)) (nI (s_pk K) ^^^ nI (s_pk L)) (nI A) (nI k) = some (.inr (nI (A + p * s_ab K L k), nI (k + 1))) := by
    intro k A p hk hp hp2 hA
    unfold mX0_alikeKeys_s27 mX0_alikeKeys_b72
    rw [if_neg (show ¬ (6 : Int32) ≤ nI k from nI_ge (b := 6) hk (by omega)), nx_xor]
    rw [pk_shrN (n := s_pk K ^^^ s_pk L) (by omega) _ (4 * k) (s_sh4 k hk), pk_shrN (n := s_pk K) (by omega) _ (4 * k) (s_sh4 k hk)]
    have d1 : (s_pk K ^^^ s_pk L) / 2 ^ (4 * k) ≤ s_pk K ^^^ s_pk L := Nat.div_le_self _ _
    have d2 : s_pk K / 2 ^ (4 * k) ≤ s_pk K := Nat.div_le_self _ _
    rw [pk_andN (n := (s_pk K ^^^ s_pk L) / 2 ^ (4 * k)) (by omega) 4 (by decide), pk_andN (n := s_pk K / 2 ^ (4 * k)) (by omega) 4 (by decide)]
    rw [Nat.xor_div_two_pow, Nat.xor_mod_two_pow, show 2 ^ 4 = 16 from rfl, s_nib K hK hk, s_nib L hL hk]
    have x1 : nI (K k ^^^ L k) = 0 ↔ K k = L k := by
      rw [← s_x16 (K k) (by have := hK k hk; omega) (L k) (by have := hL k hk; omega)]
      have : K k ^^^ L k < 2 ^ 4 := Nat.xor_lt_two_pow (by have := hK k hk; omega) (by have := hL k hk; omega)
      exact n_eqI (a := K k ^^^ L k) (b := 0) (by omega) (by omega)
    have x2 : nI (K k) = 15 ↔ K k = 15 := n_eqI (a := K k) (b := 15) (by have := hK k hk; omega) (by omega)
    unfold s_ab
    by_cases c1 : K k = L k
    · rw [if_pos (x1.mpr c1)]
      by_cases c2 : K k = 15
      · rw [if_pos (x2.mpr c2), if_neg (fun q => q.2 c2), Nat.mul_zero, Nat.add_zero, nI_1]
      · rw [if_neg (fun q => c2 (x2.mp q)), if_pos ⟨c1, c2⟩, Nat.mul_one, nI_1, s_shl1 k hk, fa_or, Nat.or_comm, ← fa_or]
        have e2 : nI (2 ^ k * 1) ||| nI A = nI (2 ^ k * 1 + A) := fa_or_sum _ (by rw [hp]; exact hA)
        rw [Nat.mul_one] at e2
        rw [e2, hp, Nat.add_comm]
    · rw [if_neg (fun q => c1 (x1.mp q)), if_neg (fun q => c1 q.1), Nat.mul_zero, Nat.add_zero, nI_1]
  have k0 := s_ab_le K L 0
  have k1 := s_ab_le K L 1
  have k2 := s_ab_le K L 2
  have k3 := s_ab_le K L 3
  have k4 := s_ab_le K L 4
  have k5 := s_ab_le K L 5
  unfold mX0_alikeKeys
  rw [n_at (by omega) ki hd, n_at (by omega) ki ho, h1, h2]
  simp only [Option.bind_some]
  unfold mX0_alikeKeys_b27
  refine (x_loop_inr (st 0 0 1 (by omega) rfl (by omega) (by omega))).trans ?_
  refine (x_loop_inr (st 1 _ 2 (by omega) rfl (by omega) (by omega))).trans ?_
  refine (x_loop_inr (st 2 _ 4 (by omega) rfl (by omega) (by omega))).trans ?_
  refine (x_loop_inr (st 3 _ 8 (by omega) rfl (by omega) (by omega))).trans ?_
  refine (x_loop_inr (st 4 _ 16 (by omega) rfl (by omega) (by omega))).trans ?_
  refine (x_loop_inr (st 5 _ 32 (by omega) rfl (by omega) (by omega))).trans ?_
  refine (x_loop_inl (r := _) (show mX0_alikeKeys_s27 ki (nI (s_pk K)) (nI (s_pk K) ^^^ nI (s_pk L)) _ (nI 6) = some (.inl _) from by
    unfold mX0_alikeKeys_s27
    exact if_pos (show (6 : Int32) ≤ nI 6 by decide))).trans ?_
  exact congrArg (fun v => some (nI v)) (by unfold s_al; omega)
/-- the days d and o are alike by the keys q, in other years -/
def s_sim (y mo g wi s r : Nat → Int32) (q d o : Nat) : Prop := ¬ y d = y o ∧ ∀ i, i < 6 → q / 2 ^ i % 2 = 1 → ¬ s_key y mo g wi s r i d = -6 ∧ s_key y mo g wi s r i d = s_key y mo g wi s r i o
theorem s_sim_al (y mo f g wi s r : Nat → Int32) (hb : s_bk y mo f g wi s r) {q d o : Nat} (hq : q < 64) (hd : d < 60) (ho : o < 60) (c : ¬ y d = y o) : (s_al (fun k => s_kd (s_key y mo g wi s r k d)) (fun k => s_kd (s_key y mo g wi s r k o)) &&& q = q) ↔ s_sim y mo g wi s r q d o := by
  have ll := s_al_lt (fun k => s_kd (s_key y mo g wi s r k d)) (fun k => s_kd (s_key y mo g wi s r k o))
  rw [s_sub _ ll q hq]
  constructor
  · intro h
    refine ⟨c, fun i hi hqi => ?_⟩
    have h1 := h i hi hqi
    rw [s_al_bit _ _ hi] at h1
    unfold s_ab at h1
    have h2 : s_kd (s_key y mo g wi s r i d) = s_kd (s_key y mo g wi s r i o) ∧ ¬ s_kd (s_key y mo g wi s r i d) = 15 := by
      by_cases z : s_kd (s_key y mo g wi s r i d) = s_kd (s_key y mo g wi s r i o) ∧ ¬ s_kd (s_key y mo g wi s r i d) = 15
      · exact z
      · rw [if_neg z] at h1; omega
    exact (s_kd_inj (m_key y mo f g wi s r hb hi hd).2.1 (m_key y mo f g wi s r hb hi ho).2.1).mp h2
  · intro h i hi hqi
    have h2 := (s_kd_inj (m_key y mo f g wi s r hb hi hd).2.1 (m_key y mo f g wi s r hb hi ho).2.1).mpr (h.2 i hi hqi)
    rw [s_al_bit _ _ hi]
    unfold s_ab
    exact if_pos h2
theorem m_areLike (y mo f g wi s r ki : Nat → Int32) (hb : s_bk y mo f g wi s r) {n : Nat} (hn : n ≤ 60) (hk : s_ks y mo g wi s r ki n) {q d o : Nat} (hq : q < 64) (hd : d < n) (ho : o < n) : mX0_areLike y ki (nI d) (nI o) (nI q) = some (s_b (s_sim y mo g wi s r q d o)) := by
  unfold mX0_areLike mX0_inOtherYears
  rw [n_at (by omega) y (i := d) (by omega), n_at (by omega) y (i := o) (by omega)]
  simp only [Option.bind_some]
  by_cases c : y d = y o
  · rw [if_pos c, s_b_f (fun h => h.1 c)]
    simp only [Option.bind_some]
    rw [if_pos xb_f]
  · rw [if_neg c]
    simp only [Option.bind_some]
    have kd : ∀ k, k < 6 → s_kd (s_key y mo g wi s r k d) ≤ 15 := fun k h => s_kd_le (m_key y mo f g wi s r hb h (by omega)).2.1
    have ko : ∀ k, k < 6 → s_kd (s_key y mo g wi s r k o) ≤ 15 := fun k h => s_kd_le (m_key y mo f g wi s r hb h (by omega)).2.1
    rw [if_neg xb_n, m_alike _ _ kd ko ki (by omega) (by omega) (hk d hd) (hk o ho)]
    simp only [Option.bind_some]
    have lt : s_al (fun k => s_kd (s_key y mo g wi s r k d)) (fun k => s_kd (s_key y mo g wi s r k o)) &&& q ≤ q := Nat.and_le_right
    have iff : (nI (s_al (fun k => s_kd (s_key y mo g wi s r k d)) (fun k => s_kd (s_key y mo g wi s r k o))) &&& nI q = nI q) ↔ s_sim y mo g wi s r q d o := by
      rw [nx_and, n_eqI (by omega) (by omega)]
      exact s_sim_al y mo f g wi s r hb hq (by omega) (by omega) c
    by_cases z : s_sim y mo g wi s r q d o
    · rw [if_pos (iff.mpr z), s_b_t z]
    · rw [if_neg (fun h => z (iff.mp h)), s_b_f z]
theorem m_isSuch (y mo f g wi s r : Nat → Int32) (hb : s_bk y mo f g wi s r) {q d o : Nat} (hq : q < 64) (hd : d < 60) (ho : o < 60) : mX10_isSuch (nI q) y mo g wi s r (nI d) (nI o) = some (s_b (s_sim y mo g wi s r q d o)) := by
  have key : ∀ v : Bool, v = s_b (¬ y d = y o) → mX10_isSuch_b20 (nI q) y mo g wi s r (nI d) (nI o) (xb v) = some (s_b (s_sim y mo g wi s r q d o)) := by
    intro v hv
    unfold mX10_isSuch_b20 mX10_isSuch_b24
    have run := x_run (s := fun z : Int32 × Int32 => mX10_isSuch_s24 (nI q) y mo g wi s r (nI d) (nI o) z.1 z.2) (fun n z => ∃ k, k ≤ 6 ∧ n = 6 - k ∧ z = (xb (s_b (¬ y d = y o ∧ ∀ i, i < k → q / 2 ^ i % 2 = 1 → ¬ s_key y mo g wi s r i d = -6 ∧ s_key y mo g wi s r i d = s_key y mo g wi s r i o)), nI k)) (fun c => c = s_b (s_sim y mo g wi s r q d o)) (by
      rintro n z ⟨k, hk, rfl, rfl⟩
      have e1 : ∀ b : Bool, decide (xb b = 1) = b := by intro b; cases b <;> decide
      have e2 : ∀ b : Bool, xb b = 0 ∨ xb b = 1 := by intro b; cases b <;> decide
      by_cases h6 : k = 6
      · subst h6
        refine .inl ⟨_, ?_, rfl⟩
        show mX10_isSuch_s24 _ _ _ _ _ _ _ _ _ _ _ = _
        unfold mX10_isSuch_s24
        rw [if_pos (show (6 : Int32) ≤ nI 6 by decide), x_ny (e2 _), e1]
        rfl
      have hk6 : k < 6 := by omega
      by_cases h0 : ¬ y d = y o ∧ ∀ i, i < k → q / 2 ^ i % 2 = 1 → ¬ s_key y mo g wi s r i d = -6 ∧ s_key y mo g wi s r i d = s_key y mo g wi s r i o
      · refine .inr ⟨6 - (k + 1), _, by omega, ?_, k + 1, by omega, rfl, rfl⟩
        show mX10_isSuch_s24 _ _ _ _ _ _ _ _ _ _ _ = _
        unfold mX10_isSuch_s24 mX10_isSuch_b80 mX10_isSuch_b81 mX10_isSuch_b82
        rw [s_b_t h0, if_neg (show ¬ (6 : Int32) ≤ nI k from nI_ge (b := 6) hk6 (by omega)), if_neg xb_n]
        have dl : q / 2 ^ k ≤ q := Nat.div_le_self _ _
        rw [pk_shrN (n := q) (by omega) _ k (s_l k (by omega)), pk_andN (n := q / 2 ^ k) (by omega) 1 (by decide)]
        have bi : nI (q / 2 ^ k % 2 ^ 1) = 1 ↔ q / 2 ^ k % 2 = 1 := n_eqI (a := q / 2 ^ k % 2 ^ 1) (b := 1) (by omega) (by omega)
        have nx : ∀ P : Prop, (P ↔ (q / 2 ^ k % 2 = 1 → ¬ s_key y mo g wi s r k d = -6 ∧ s_key y mo g wi s r k d = s_key y mo g wi s r k o)) → s_b (¬ y d = y o ∧ ∀ i, i < k + 1 → q / 2 ^ i % 2 = 1 → ¬ s_key y mo g wi s r i d = -6 ∧ s_key y mo g wi s r i d = s_key y mo g wi s r i o) = s_b P := by
          intro P hP
          apply s_b_iff
          rw [hP]
          constructor
          · intro h; exact h.2 k (by omega)
          · intro h
            refine ⟨h0.1, fun i hi => ?_⟩
            by_cases e : i = k
            · rw [e]; exact h
            · exact h0.2 i (by omega)
        by_cases c1 : q / 2 ^ k % 2 = 1
        · rw [if_pos (bi.mpr c1), (m_key y mo f g wi s r hb hk6 hd).1]
          simp only [Option.bind_some]
          by_cases c2 : s_key y mo g wi s r k d = -6
          · rw [if_pos c2, nx False ⟨fun h => h.elim, fun h => (h c1).1 c2⟩, s_b_f (fun h => h), nI_1]
            rfl
          · rw [if_neg c2, (m_key y mo f g wi s r hb hk6 ho).1]
            simp only [Option.bind_some]
            by_cases c3 : s_key y mo g wi s r k d = s_key y mo g wi s r k o
            · rw [if_pos c3, nx True ⟨fun _ _ => ⟨c2, c3⟩, fun _ => trivial⟩, s_b_t trivial, nI_1]
              rfl
            · rw [if_neg c3, nx False ⟨fun h => h.elim, fun h => c3 (h c1).2⟩, s_b_f (fun h => h), nI_1]
              rfl
        · rw [if_neg (fun h => c1 (bi.mp h)), nx True ⟨fun _ h => absurd h c1, fun _ => trivial⟩, s_b_t trivial, nI_1]
      · refine .inl ⟨_, ?_, rfl⟩
        show mX10_isSuch_s24 _ _ _ _ _ _ _ _ _ _ _ = _
        unfold mX10_isSuch_s24
        rw [s_b_f h0, if_neg (show ¬ (6 : Int32) ≤ nI k from nI_ge (b := 6) hk6 (by omega)), if_pos xb_f, x_ny (e2 false), e1]
        rw [s_b_f (P := s_sim y mo g wi s r q d o) (fun h => h0 ⟨h.1, fun i hi => h.2 i (by omega)⟩)]) 6 (xb v, 0) ⟨0, by omega, rfl, by
          rw [hv]
          have : s_b (¬ y d = y o) = s_b (¬ y d = y o ∧ ∀ i, i < 0 → q / 2 ^ i % 2 = 1 → ¬ s_key y mo g wi s r i d = -6 ∧ s_key y mo g wi s r i d = s_key y mo g wi s r i o) := s_b_iff ⟨fun h => ⟨h, fun i hi => absurd hi (Nat.not_lt_zero i)⟩, fun h => h.1⟩
          rw [this]
          rfl⟩
    obtain ⟨c, h1, h2⟩ := run
    rw [← h2]
    exact h1
  unfold mX10_isSuch
  rw [x_ny (n_xin hd (by omega)), x_ny (n_xin ho (by omega)), nI_clamp (by omega), nI_clamp (by omega)]
  by_cases c : y d = y o
  · rw [if_pos c]
    exact key false (s_b_f (fun h => h c)).symm
  · rw [if_neg c]
    exact key true (s_b_t c).symm
