/-! pure facts: keys and kinds of days, days that are alike -/
/-- the ranges of the book's arrays: y mo g wi s r; f the class's presses -/
def s_bk (y mo f g wi s r : Nat → Int32) : Prop := xp f g ∧ ∀ j, j < 60 → (∃ a, a ≤ 9 ∧ y j = nI a) ∧ (∃ a, a ≤ 11 ∧ mo j = nI a) ∧ (∃ a, a ≤ 7 ∧ wi j = nI a) ∧ (∃ a, a ≤ 3 ∧ s j = nI a) ∧ (∃ a, a ≤ 1 ∧ r j = nI a)
/-- what a look is: -6 or a small number -/
theorem m_looks (y mo f g wi s r : Nat → Int32) (hb : s_bk y mo f g wi s r) {d w : Nat} (hd : d < 60) (hw : w ≤ 8) : ∃ o, mX0_lookOf y mo f wi s r (nI d) (nI w) = some o ∧ mX10_lookOf y mo g wi s r (nI d) (nI w) = some o ∧ s_or 99 o ∧ (w = 1 → s_or 7 o) ∧ (w = 2 → s_or 3 o) ∧ (w = 3 → s_or 11 o) ∧ (w = 4 → s_or 1 o) := by
  have hdi : (nI d).toInt = d := nI_toInt (by omega)
  have hwi : (nI w).toInt = w := nI_toInt (by omega)
  obtain ⟨e1, o, e2⟩ := m_lookOf y mo f g wi s r (nI d) (nI w) hb.1 (by omega) (by omega) (by omega)
  refine ⟨o, e1.trans e2, e2, ?_⟩
  obtain ⟨⟨ya, y1, y2⟩, ⟨ma, mo1, mo2⟩, ⟨wa, w1, w2⟩, ⟨sa, s1, s2⟩, ⟨ra, r1, r2⟩⟩ := hb.2 d hd
  have cl : (nI d).toNatClampNeg = d := nI_clamp (by omega)
  have pw : ∀ j, j < 60 → mX9_at 60 f (nI j) = some (f j) := fun j hj => n_at (by omega) f hj
  have pf : ∀ j, j < 60 → s_or 99 (f j) := fun j hj => by
    rcases hb.1 j hj with ⟨a, b⟩ | ⟨a, b, c⟩
    · exact .inl b
    · exact .inr ⟨(g j).toInt.toNat, by omega, by rw [c]; exact n_of a⟩
  have pr : ∀ a b, s_or 99 a → s_or 99 b → ∀ q, mX0_rise a b = some q → s_or 99 q := by
    intro a b ha hb q hq
    unfold mX0_rise at hq
    by_cases z1 : a = -6
    · rw [if_pos z1] at hq; cases hq; exact .inl rfl
    rw [if_neg z1] at hq
    by_cases z2 : b = -6
    · rw [if_pos z2] at hq; cases hq; exact .inl rfl
    rw [if_neg z2] at hq
    rcases ha with ha | ⟨n, hn, rfl⟩
    · exact absurd ha z1
    rcases hb with hb | ⟨k, hk, rfl⟩
    · exact absurd hb z2
    by_cases z3 : 0 < nI k - nI n
    · rw [if_pos z3] at hq
      cases hq
      have : n ≤ k := by
        rcases Nat.lt_or_ge k n with h | h
        · have := pk_sneg (a := k) (b := n) (by omega) h
          rw [i_lt] at this z3
          omega
        · exact h
      exact .inr ⟨k - n, by omega, pk_sub this⟩
    · rw [if_neg z3] at hq
      cases hq
      exact .inr ⟨0, by omega, rfl⟩
  have e3 := e1.trans e2
  have ad : ∀ q : Nat → Int32, mX9_at 60 q (nI d) = some (q d) := fun q => n_at (by omega) q hd
  have am : ∀ q : Nat → Int32, mX9_at 60 q (nI d - 1) = some (if d = 0 then -6 else q (d - 1)) := fun q => by
    by_cases hz : d = 0
    · rw [if_pos hz, hz, m_at 60 q _ (by decide), if_neg (by rw [n_m1]; omega)]
    · rw [if_neg hz, n_pred (by omega), n_at (by omega) q (by omega)]
  have amf : s_or 99 (if d = 0 then -6 else f (d - 1)) := by
    by_cases hz : d = 0
    · rw [if_pos hz]; exact .inl rfl
    · rw [if_neg hz]; exact pf _ (by omega)
  unfold mX0_lookOf at e3
  have wc : w = 0 ∨ w = 1 ∨ w = 2 ∨ w = 3 ∨ w = 4 ∨ w = 5 ∨ w = 6 ∨ w = 7 ∨ w = 8 := by omega
  rcases wc with rfl | rfl | rfl | rfl | rfl | rfl | rfl | rfl | rfl
  · rw [if_pos (show nI 0 = 0 from rfl), ad] at e3
    cases e3
    exact ⟨pf d hd, by omega, by omega, by omega, by omega⟩
  · rw [if_neg (by decide), if_pos (show nI 1 = 1 from rfl), ad] at e3
    cases e3
    rw [w2]
    exact ⟨.inr ⟨wa, by omega, rfl⟩, fun _ => .inr ⟨wa, by omega, rfl⟩, by omega, by omega, by omega⟩
  · rw [if_neg (by decide), if_neg (by decide), if_pos (show nI 2 = 2 from rfl), ad] at e3
    cases e3
    rw [s2]
    exact ⟨.inr ⟨sa, by omega, rfl⟩, by omega, fun _ => .inr ⟨sa, by omega, rfl⟩, by omega, by omega⟩
  · rw [if_neg (by decide), if_neg (by decide), if_neg (by decide), if_pos (show nI 3 = 3 from rfl), ad] at e3
    cases e3
    rw [mo2]
    exact ⟨.inr ⟨ma, by omega, rfl⟩, by omega, by omega, fun _ => .inr ⟨ma, by omega, rfl⟩, by omega⟩
  · rw [if_neg (by decide), if_neg (by decide), if_neg (by decide), if_neg (by decide), if_pos (show nI 4 = 4 from rfl), am] at e3
    cases e3
    have q1 : s_or 1 (if d = 0 then -6 else r (d - 1)) := by
      by_cases hz : d = 0
      · rw [if_pos hz]; exact .inl rfl
      · rw [if_neg hz]
        obtain ⟨_, _, _, _, ⟨ra', r1', r2'⟩⟩ := hb.2 (d - 1) (by omega)
        exact .inr ⟨ra', r1', r2'⟩
    refine ⟨?_, by omega, by omega, by omega, fun _ => q1⟩
    rcases q1 with h | ⟨n, h1, h2⟩
    · exact .inl h
    · exact .inr ⟨n, by omega, h2⟩
  · rw [if_neg (by decide), if_neg (by decide), if_neg (by decide), if_neg (by decide), if_neg (by decide), if_pos (show nI 5 = 5 from rfl), ad, am] at e3
    simp only [Option.bind_some] at e3
    obtain ⟨q, hq1, hq2⟩ := x_bind e3
    cases hq2
    exact ⟨pr _ _ (pf d hd) amf _ hq1, by omega, by omega, by omega, by omega⟩
  · rw [if_neg (by decide), if_neg (by decide), if_neg (by decide), if_neg (by decide), if_neg (by decide), if_neg (by decide), if_pos (show nI 6 = 6 from rfl), ad, am] at e3
    simp only [Option.bind_some] at e3
    obtain ⟨q, hq1, hq2⟩ := x_bind e3
    cases hq2
    exact ⟨pr _ _ amf (pf d hd) _ hq1, by omega, by omega, by omega, by omega⟩
  · rw [if_neg (by decide), if_neg (by decide), if_neg (by decide), if_neg (by decide), if_neg (by decide), if_neg (by decide), if_neg (by decide), if_pos (show nI 7 = 7 from rfl), ad] at e3
    cases e3
    rw [y2]
    exact ⟨.inr ⟨ya, by omega, rfl⟩, by omega, by omega, by omega, by omega⟩
  · rw [if_neg (by decide), if_neg (by decide), if_neg (by decide), if_neg (by decide), if_neg (by decide), if_neg (by decide), if_neg (by decide), if_neg (by decide), if_pos (show nI 8 = 8 from rfl), ad] at e3
    cases e3
    rw [r2]
    exact ⟨.inr ⟨ra, by omega, rfl⟩, by omega, by omega, by omega, by omega⟩
/-- the key k of the day d, as the reference tells it -/
noncomputable def s_key (y mo g wi s r : Nat → Int32) (k d : Nat) : Int32 := (mX10_keyOf y mo g wi s r (nI k) (nI d)).getD 0
/-- a kind is a key with 15 for -6 -/
def s_kd (v : Int32) : Nat := if v = -6 then 15 else v.toNatClampNeg
/-- which look a key asks -/
def s_lk : Nat → Nat | 0 => 0 | 1 => 5 | 2 => 1 | 3 => 2 | 4 => 3 | _ => 4
theorem m_key (y mo f g wi s r : Nat → Int32) (hb : s_bk y mo f g wi s r) {k d : Nat} (hk : k < 6) (hd : d < 60) : mX10_keyOf y mo g wi s r (nI k) (nI d) = some (s_key y mo g wi s r k d) ∧ s_or 14 (s_key y mo g wi s r k d) ∧ ∃ o, mX9_atT0 (nI k) = some (nI (s_lk k)) ∧ mX0_lookOf y mo f wi s r (nI d) (nI (s_lk k)) = some o ∧ mX0_kindOf (nI k) o = some (nI (s_kd (s_key y mo g wi s r k d))) := by
  suffices h : ∃ q o, mX10_keyOf y mo g wi s r (nI k) (nI d) = some q ∧ s_or 14 q ∧ mX9_atT0 (nI k) = some (nI (s_lk k)) ∧ mX0_lookOf y mo f wi s r (nI d) (nI (s_lk k)) = some o ∧ mX0_kindOf (nI k) o = some (nI (s_kd q)) by
    obtain ⟨q, o, h1, h2, h3, h4, h5⟩ := h
    have e : s_key y mo g wi s r k d = q := by unfold s_key; rw [h1]; rfl
    rw [e]
    exact ⟨h1, h2, o, h3, h4, h5⟩
  have tb : ∀ j, j < 6 → mX9_atT0 (nI j) = some (nI (s_lk j)) := by
    intro j hj
    unfold mX9_atT0
    rw [if_neg (nI_pos (by omega)), if_neg (show ¬ (6 : Int32) ≤ nI j from nI_ge (b := 6) hj (by omega)), x_ny (n_xin hj (by omega)), nI_clamp (by omega)]
    have : j = 0 ∨ j = 1 ∨ j = 2 ∨ j = 3 ∨ j = 4 ∨ j = 5 := by omega
    rcases this with rfl | rfl | rfl | rfl | rfl | rfl <;> rfl
  have lkl : s_lk k ≤ 8 := by
    have : k = 0 ∨ k = 1 ∨ k = 2 ∨ k = 3 ∨ k = 4 ∨ k = 5 := by omega
    rcases this with rfl | rfl | rfl | rfl | rfl | rfl <;> decide
  obtain ⟨o, l1, l2, l3, l4, l5, l6, l7⟩ := m_looks y mo f g wi s r hb hd lkl
  have k6 : s_kd (-6) = 15 := by decide
  have kn : ∀ n, n < 2147483648 → s_kd (nI n) = n := fun n hn => by
    unfold s_kd
    rw [if_neg (n_ne6 n hn), nI_clamp hn]
  have dv : ∀ a b : Nat, a ≤ 99 → 0 < b → b < 2147483648 → nI a / nI b = nI (a / b) := fun a b h1 h2 h3 => pk_div (by omega) h2 (by omega)
  have kc : k = 0 ∨ k = 1 ∨ k = 2 ∨ k = 3 ∨ k = 4 ∨ k = 5 := by omega
  -- the two functions at a look o
  have main : ∀ q, (∃ z, mX10_keyOf_b47 y mo g wi s r (nI k) (nI d) (nI (s_lk k)) = some z ∧ z = q) → s_or 14 q → mX0_kindOf (nI k) o = some (nI (s_kd q)) → ∃ q o, mX10_keyOf y mo g wi s r (nI k) (nI d) = some q ∧ s_or 14 q ∧ mX9_atT0 (nI k) = some (nI (s_lk k)) ∧ mX0_lookOf y mo f wi s r (nI d) (nI (s_lk k)) = some o ∧ mX0_kindOf (nI k) o = some (nI (s_kd q)) := by
    rintro q ⟨z, hz, rfl⟩ h14 hkd
    refine ⟨z, o, ?_, h14, tb k hk, l1, hkd⟩
    unfold mX10_keyOf
    rcases kc with rfl | rfl | rfl | rfl | rfl | rfl
    · rw [if_pos (show nI 0 = 0 from rfl)]; exact hz
    · rw [if_neg (by decide), if_pos (show nI 1 = 1 from rfl)]; exact hz
    · rw [if_neg (by decide), if_neg (by decide), if_pos (show nI 2 = 2 from rfl)]; exact hz
    · rw [if_neg (by decide), if_neg (by decide), if_neg (by decide), if_pos (show nI 3 = 3 from rfl)]; exact hz
    · rw [if_neg (by decide), if_neg (by decide), if_neg (by decide), if_neg (by decide), if_pos (show nI 4 = 4 from rfl)]; exact hz
    · rw [if_neg (by decide), if_neg (by decide), if_neg (by decide), if_neg (by decide), if_neg (by decide)]; exact hz
  have b47 : ∀ z, (if o = (-6) then (some (-6 : Int32)) else (if nI k = 0 then (some (o / 20)) else (if nI k = 1 then (if o = 0 then (some 0) else (if 5 ≤ o then (some 2) else (some 1))) else (if nI k = 2 then (some (o / 2)) else (if nI k = 3 then (some o) else (if nI k = 4 then (some (o / 3)) else (some o))))))) = some z → mX10_keyOf_b47 y mo g wi s r (nI k) (nI d) (nI (s_lk k)) = some z := by
    intro z hz
    unfold mX10_keyOf_b47
    rw [l2]
    exact hz
  by_cases o6 : o = -6
  · exact main (-6) ⟨-6, b47 _ (by rw [if_pos o6]), rfl⟩ (.inl rfl) (by unfold mX0_kindOf; rw [if_pos o6, k6]; rfl)
  have on : ∃ n, n ≤ 99 ∧ o = nI n := l3.resolve_left o6
  obtain ⟨n, hn, rfl⟩ := on
  have nl : ∀ m, s_or m (nI n) → m < 2147483648 → n ≤ m := by
    rintro m (h | ⟨j, h1, h2⟩) hm
    · exact absurd h o6
    · rw [n_eqI (by omega) (by omega)] at h2
      omega
  rcases kc with rfl | rfl | rfl | rfl | rfl | rfl
  · refine main (nI (n / 20)) ⟨_, b47 (nI n / 20) (by rw [if_neg o6]; rfl), dv n 20 hn (by omega) (by omega)⟩ (.inr ⟨_, by omega, rfl⟩) ?_
    rw [kn _ (by omega)]
    unfold mX0_kindOf
    rw [if_neg o6, if_pos (show nI 0 = 0 from rfl)]
    exact congrArg some (dv n 20 hn (by omega) (by omega))
  · by_cases n0 : n = 0
    · subst n0
      refine main (nI 0) ⟨0, b47 0 rfl, rfl⟩ (.inr ⟨0, by omega, rfl⟩) rfl
    · have z0 : ¬ nI n = 0 := nI_ne0 (by omega) (by omega)
      by_cases n5 : 5 ≤ n
      · have z5 : (5 : Int32) ≤ nI n := nI_le n5 (by omega)
        refine main (nI 2) ⟨2, b47 2 (by rw [if_neg o6, if_neg (by decide), if_pos (show nI 1 = 1 from rfl), if_neg z0, if_pos z5]), rfl⟩ (.inr ⟨2, by omega, rfl⟩) ?_
        unfold mX0_kindOf
        rw [if_neg o6, if_neg (by decide), if_pos (show nI 1 = 1 from rfl), if_neg z0, if_pos z5, kn _ (by omega)]
        rfl
      · have z5 : ¬ (5 : Int32) ≤ nI n := nI_ge (b := 5) (by omega) (by omega)
        refine main (nI 1) ⟨1, b47 1 (by rw [if_neg o6, if_neg (by decide), if_pos (show nI 1 = 1 from rfl), if_neg z0, if_neg z5]), rfl⟩ (.inr ⟨1, by omega, rfl⟩) ?_
        unfold mX0_kindOf
        rw [if_neg o6, if_neg (by decide), if_pos (show nI 1 = 1 from rfl), if_neg z0, if_neg z5, kn _ (by omega)]
        rfl
  · refine main (nI (n / 2)) ⟨_, b47 (nI n / 2) (by rw [if_neg o6]; rfl), dv n 2 hn (by omega) (by omega)⟩ (.inr ⟨_, by have := nl 7 (l4 rfl) (by omega); omega, rfl⟩) ?_
    rw [kn _ (by omega)]
    unfold mX0_kindOf
    rw [if_neg o6, if_neg (by decide), if_neg (by decide), if_pos (show nI 2 = 2 from rfl)]
    exact congrArg some (dv n 2 hn (by omega) (by omega))
  · refine main (nI n) ⟨_, b47 (nI n) (by rw [if_neg o6]; rfl), rfl⟩ (.inr ⟨n, by have := nl 3 (l5 rfl) (by omega); omega, rfl⟩) ?_
    rw [kn _ (by omega)]
    unfold mX0_kindOf
    rw [if_neg o6, if_neg (by decide), if_neg (by decide), if_neg (by decide), if_pos (show nI 3 = 3 from rfl)]
  · refine main (nI (n / 3)) ⟨_, b47 (nI n / 3) (by rw [if_neg o6]; rfl), dv n 3 hn (by omega) (by omega)⟩ (.inr ⟨_, by have := nl 11 (l6 rfl) (by omega); omega, rfl⟩) ?_
    rw [kn _ (by omega)]
    unfold mX0_kindOf
    rw [if_neg o6, if_neg (by decide), if_neg (by decide), if_neg (by decide), if_neg (by decide), if_pos (show nI 4 = 4 from rfl)]
    exact congrArg some (dv n 3 hn (by omega) (by omega))
  · refine main (nI n) ⟨_, b47 (nI n) (by rw [if_neg o6]; rfl), rfl⟩ (.inr ⟨n, by have := nl 1 (l7 rfl) (by omega); omega, rfl⟩) ?_
    rw [kn _ (by omega)]
    unfold mX0_kindOf
    rw [if_neg o6, if_neg (by decide), if_neg (by decide), if_neg (by decide), if_neg (by decide), if_neg (by decide)]
