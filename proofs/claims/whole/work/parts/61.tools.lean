/-! tools: loops by a measure, alone and two side by side; reading and writing at nI i -/
theorem x_run {α γ : Type} {s : α → Option (γ ⊕ α)} (R : Nat → α → Prop) (Q : γ → Prop) (h : ∀ n a, R n a → (∃ c, s a = some (.inl c) ∧ Q c) ∨ (∃ k a', k < n ∧ s a = some (.inr a') ∧ R k a')) : ∀ n a, R n a → ∃ c, x_loop s a = some c ∧ Q c := by
  intro n
  induction n using Nat.strongRecOn with
  | _ n ih =>
    intro a ha
    rcases h n a ha with ⟨c, h1, h2⟩ | ⟨k, a', hk, h1, h2⟩
    · exact ⟨c, x_loop_inl h1, h2⟩
    · obtain ⟨c, e, q⟩ := ih k hk a' h2
      exact ⟨c, (x_loop_inr h1).trans e, q⟩
theorem x_pair {α β γ δ : Type} {s1 : α → Option (γ ⊕ α)} {s2 : β → Option (δ ⊕ β)} (R : Nat → α → β → Prop) (Q : γ → δ → Prop) (h : ∀ n a b, R n a b → (∃ c d, s1 a = some (.inl c) ∧ s2 b = some (.inl d) ∧ Q c d) ∨ (∃ k a' b', k < n ∧ s1 a = some (.inr a') ∧ s2 b = some (.inr b') ∧ R k a' b')) : ∀ n a b, R n a b → ∃ c d, x_loop s1 a = some c ∧ x_loop s2 b = some d ∧ Q c d := by
  intro n
  induction n using Nat.strongRecOn with
  | _ n ih =>
    intro a b hab
    rcases h n a b hab with ⟨c, d, h1, h2, h3⟩ | ⟨k, a', b', hk, h1, h2, h3⟩
    · exact ⟨c, d, x_loop_inl h1, x_loop_inl h2, h3⟩
    · obtain ⟨c, d, e, f, q⟩ := ih k hk a' b' h3
      exact ⟨c, d, (x_loop_inr h1).trans e, (x_loop_inr h2).trans f, q⟩
theorem x_ny {α : Type} {P : Prop} [Decidable P] (h : P) {x : Option α} : x_need P x = x := by
  unfold x_need
  rw [if_pos h]
theorem n_xin {i N : Nat} (hi : i < N) (hN : N < 2147483648) : x_in (nI i) N := nI_in hi hN
theorem n_at {N : Nat} (hN : N < 2147483648) (f : Nat → Int32) {i : Nat} (hi : i < N) : mX9_at N f (nI i) = some (f i) := by
  unfold mX9_at
  rw [if_neg (nI_pos (by omega)), if_neg (show ¬ Int32.ofNat N ≤ nI i from nI_ge hi (by omega)), x_ny (n_xin hi hN), nI_clamp (by omega)]
theorem n_put {N : Nat} (hN : N < 2147483648) (f : Nat → Int32) {i : Nat} (hi : i < N) (v : Int32) : mX9_put N f (nI i) v = some (upd f i v) := by
  unfold mX9_put
  rw [if_neg (nI_pos (by omega)), if_neg (show ¬ Int32.ofNat N ≤ nI i from nI_ge hi (by omega)), x_ny (n_xin hi hN), nI_clamp (by omega)]
theorem n_out {N : Nat} (f : Nat → Int32) {i : Nat} (hi : N ≤ i) (hN : i < 2147483648) : mX9_at N f (nI i) = some (-6) := by
  unfold mX9_at
  rw [if_neg (nI_pos (by omega)), if_pos (show Int32.ofNat N ≤ nI i from nI_le hi (by omega))]
theorem n_of {v : Int32} (h0 : 0 ≤ v.toInt) : v = nI v.toInt.toNat := by
  obtain ⟨j, hj, e⟩ := nI_of (x := v) (by rw [i_lt, Int32.toInt_zero]; omega)
  rw [e, nI_toInt hj]
  rfl
theorem n_of2 {v : Int32} {n : Nat} (h0 : 0 ≤ v.toInt) (h1 : v.toInt ≤ n) : ∃ j : Nat, j ≤ n ∧ v = nI j := ⟨v.toInt.toNat, by omega, n_of h0⟩
theorem n_of3 {v : Int32} {n : Nat} (h0 : 0 ≤ v.toInt) (h1 : v.toInt < n) : ∃ j : Nat, j < n ∧ v = nI j := ⟨v.toInt.toNat, by omega, n_of h0⟩
theorem n_pred {n : Nat} (h : 0 < n) : nI n - 1 = nI (n - 1) := by
  obtain ⟨k, rfl⟩ : ∃ k, n = k + 1 := ⟨n - 1, by omega⟩
  exact nI_pred k
theorem n_m1 : (nI 0 - 1).toInt = -1 := by decide
theorem n_leI {a b : Nat} (ha : a < 2147483648) (hb : b < 2147483648) : nI a ≤ nI b ↔ a ≤ b := nI_leI ha hb
theorem n_ltI {a b : Nat} (ha : a < 2147483648) (hb : b < 2147483648) : nI a < nI b ↔ a < b := nI_ltI ha hb
theorem n_eqI {a b : Nat} (ha : a < 2147483648) (hb : b < 2147483648) : nI a = nI b ↔ a = b := nI_eq ha hb
theorem n_ne6 (n : Nat) (h : n < 2147483648) : ¬ nI n = -6 := fun e => by
  have h1 : (nI n).toInt = n := nI_toInt h
  rw [e] at h1
  have h2 : (-6 : Int32).toInt = -6 := by decide
  omega
/-- -6, or a number up to m -/
def s_or (m : Nat) (v : Int32) : Prop := v = -6 ∨ ∃ n, n ≤ m ∧ v = nI n
theorem s_or_ge {m : Nat} (hm : m < 2147483648) {v : Int32} (h : s_or m v) : (v < 0 ↔ v = -6) ∧ (0 ≤ v ↔ ¬ v = -6) := by
  rcases h with h | ⟨n, h1, h2⟩
  · rw [h]
    decide
  · have h3 : (nI n).toInt = n := nI_toInt (by omega)
    have h4 := n_ne6 n (by omega)
    rw [h2, i_lt, i_le, h3, Int32.toInt_zero]
    exact ⟨⟨fun h => by omega, fun h => absurd h h4⟩, ⟨fun _ => h4, fun _ => by omega⟩⟩
theorem xb_n : ¬ xb true = 0 := by decide
