/-! pure facts: a saying is made, on both sides -/
theorem m_saying {z0 z1 z2 z3 : Int32} {g0 g1 g2 g3 cs fr te as ho nu : Nat → Int32} (y0 : s_sy 0 z0 g0 cs fr te as ho nu) (y1 : s_sy 1 z1 g1 cs fr te as ho nu) (y2 : s_sy 2 z2 g2 cs fr te as ho nu) (y3 : s_sy 3 z3 g3 cs fr te as ho nu) {m : Nat} {sg : Nat → Int32} {c : Nat → Nat} (ht : s_txt m sg c) (p : Int32) : ∃ o a0 b0 a1 b1 a2 b2 a3 b3 m' cs' fr' te' as' ho' nu', mX9_saying z0 g0 z1 g1 z2 g2 z3 g3 (nI m) sg p = some (o, a0, b0, a1, b1, a2, b2, a3, b3, nI m') ∧ mX10_saying (nI m) sg cs fr te as ho nu p = some (o, nI m', cs', fr', te', as', ho', nu') ∧ m' ≤ m ∧ s_sy 0 a0 b0 cs' fr' te' as' ho' nu' ∧ s_sy 1 a1 b1 cs' fr' te' as' ho' nu' ∧ s_sy 2 a2 b2 cs' fr' te' as' ho' nu' ∧ s_sy 3 a3 b3 cs' fr' te' as' ho' nu' := by
  have hm := ht.1
  have cong : ∀ sg' : Nat → Int32, (∀ j, j < 50 → sg' j = sg j) → s_txt m sg' c := fun sg' h => ⟨hm, fun j hj => by rw [h j (by omega)]; exact ht.2 j hj⟩
  unfold mX9_saying mX10_saying
  rw [show mX10_in p.toInt64 0 3 = some (decide (0 ≤ p ∧ p ≤ 3)) from m_in p 0 3]
  simp only [Option.bind_some, xb_d]
  rcases m_4 p with ⟨k, hk, rfl, hp⟩ | ⟨h0, h1, h2, h3, hp, hN⟩
  · rw [if_neg (not_not_intro hp)]
    -- is the pad without fault?
    have cond : (m = 0 ∨ s_S c m = 7) ∧ (∀ {α : Type} (a b : Option α), (if nI m ≤ 0 then a else (mX8_firstFault (nI m) sg).bind (fun r => if r = -6 then a else b)) = a) ∧ (∀ {α : Type} (a b : Option α), (if nI m ≤ 0 then a else (mX10_fault (nI m) sg).bind (fun r => if r < 0 then a else b)) = a) ∨ (∀ {α : Type} (a b : Option α), (if nI m ≤ 0 then a else (mX8_firstFault (nI m) sg).bind (fun r => if r = -6 then a else b)) = b) ∧ (∀ {α : Type} (a b : Option α), (if nI m ≤ 0 then a else (mX10_fault (nI m) sg).bind (fun r => if r < 0 then a else b)) = b) := by
      by_cases m0 : m = 0
      · have z : nI m ≤ 0 := by rw [m0]; decide
        exact .inl ⟨.inl m0, fun a b => by rw [if_pos z], fun a b => by rw [if_pos z]⟩
      · have z : ¬ nI m ≤ 0 := nI_nle (by omega) (by omega)
        obtain ⟨o, f1, f2, f3⟩ := m_fault m sg c ht
        rcases f3 with ⟨o6, s7⟩ | ⟨o0, ol, o6⟩
        · refine .inl ⟨.inr s7, fun a b => ?_, fun a b => ?_⟩
          · rw [if_neg z, f1]
            simp only [Option.bind_some]
            rw [if_pos o6]
          · rw [if_neg z, f2]
            simp only [Option.bind_some]
            rw [o6, if_pos (by decide)]
        · refine .inr ⟨fun a b => ?_, fun a b => ?_⟩
          · rw [if_neg z, f1]
            simp only [Option.bind_some]
            rw [if_neg o6]
          · rw [if_neg z, f2]
            simp only [Option.bind_some]
            rw [if_neg ol]
    have kc : k = 0 ∨ k = 1 ∨ k = 2 ∨ k = 3 := by omega
    rcases cond with ⟨c7, i1, i2⟩ | ⟨i1, i2⟩
    · obtain ⟨fr', te', as', ho', nu', r1, r2, r3, r4⟩ := m_sayRef hk ht c7 cs fr te as ho nu
      rw [i2, r1]
      have keep : ∀ k' z gg, k' < 4 → ¬ k' = k → s_sy k' z gg cs fr te as ho nu → s_sy k' z gg (upd cs k (nI (s_M c m))) fr' te' as' ho' nu' := fun k' z gg hk' hne h => s_sy_keep h (pk_un hne) (fun x h1 h2 => r3 x (by omega)) (fun x h1 h2 => r4 x (by omega))
      rcases kc with rfl | rfl | rfl | rfl
      · rw [if_pos (show nI 0 = 0 from rfl)]
        obtain ⟨sg', tk, ts⟩ := m_take8 z0 g0 m sg
        unfold mX7_sayingAtK0
        simp only [Option.bind_some]
        rw [i1, tk]
        simp only [Option.bind_some]
        rw [m_countCases m sg' c (cong sg' ts) c7]
        exact ⟨_, nI m, sg', z1, g1, z2, g2, z3, g3, 0, _, _, _, _, _, _, rfl, rfl, Nat.zero_le m, ⟨m, c, rfl, cong sg' ts, r2⟩, keep 1 _ _ (by omega) (by omega) y1, keep 2 _ _ (by omega) (by omega) y2, keep 3 _ _ (by omega) (by omega) y3⟩
      · rw [if_neg (show ¬ nI 1 = 0 by decide), if_pos (show nI 1 = 1 from rfl)]
        obtain ⟨sg', tk, ts⟩ := m_take8 z1 g1 m sg
        unfold mX7_sayingAtK1
        simp only [Option.bind_some]
        rw [i1, tk]
        simp only [Option.bind_some]
        rw [m_countCases m sg' c (cong sg' ts) c7]
        exact ⟨_, z0, g0, nI m, sg', z2, g2, z3, g3, 0, _, _, _, _, _, _, rfl, rfl, Nat.zero_le m, keep 0 _ _ (by omega) (by omega) y0, ⟨m, c, rfl, cong sg' ts, r2⟩, keep 2 _ _ (by omega) (by omega) y2, keep 3 _ _ (by omega) (by omega) y3⟩
      · rw [if_neg (show ¬ nI 2 = 0 by decide), if_neg (show ¬ nI 2 = 1 by decide), if_pos (show nI 2 = 2 from rfl)]
        obtain ⟨sg', tk, ts⟩ := m_take8 z2 g2 m sg
        unfold mX7_sayingAtK2
        simp only [Option.bind_some]
        rw [i1, tk]
        simp only [Option.bind_some]
        rw [m_countCases m sg' c (cong sg' ts) c7]
        exact ⟨_, z0, g0, z1, g1, nI m, sg', z3, g3, 0, _, _, _, _, _, _, rfl, rfl, Nat.zero_le m, keep 0 _ _ (by omega) (by omega) y0, keep 1 _ _ (by omega) (by omega) y1, ⟨m, c, rfl, cong sg' ts, r2⟩, keep 3 _ _ (by omega) (by omega) y3⟩
      · rw [if_neg (show ¬ nI 3 = 0 by decide), if_neg (show ¬ nI 3 = 1 by decide), if_neg (show ¬ nI 3 = 2 by decide), if_pos (show nI 3 = 3 from rfl)]
        obtain ⟨sg', tk, ts⟩ := m_take8 z3 g3 m sg
        unfold mX7_sayingAtK3
        simp only [Option.bind_some]
        rw [i1, tk]
        simp only [Option.bind_some]
        rw [m_countCases m sg' c (cong sg' ts) c7]
        exact ⟨_, z0, g0, z1, g1, z2, g2, nI m, sg', 0, _, _, _, _, _, _, rfl, rfl, Nat.zero_le m, keep 0 _ _ (by omega) (by omega) y0, keep 1 _ _ (by omega) (by omega) y1, keep 2 _ _ (by omega) (by omega) y2, ⟨m, c, rfl, cong sg' ts, r2⟩⟩
    · rw [i2]
      rcases kc with rfl | rfl | rfl | rfl
      · rw [if_pos (show nI 0 = 0 from rfl)]
        unfold mX7_sayingAtK0
        simp only [Option.bind_some]
        rw [i1]
        exact ⟨_, z0, g0, z1, g1, z2, g2, z3, g3, m, cs, fr, te, as, ho, nu, rfl, rfl, Nat.le_refl m, y0, y1, y2, y3⟩
      · rw [if_neg (show ¬ nI 1 = 0 by decide), if_pos (show nI 1 = 1 from rfl)]
        unfold mX7_sayingAtK1
        simp only [Option.bind_some]
        rw [i1]
        exact ⟨_, z0, g0, z1, g1, z2, g2, z3, g3, m, cs, fr, te, as, ho, nu, rfl, rfl, Nat.le_refl m, y0, y1, y2, y3⟩
      · rw [if_neg (show ¬ nI 2 = 0 by decide), if_neg (show ¬ nI 2 = 1 by decide), if_pos (show nI 2 = 2 from rfl)]
        unfold mX7_sayingAtK2
        simp only [Option.bind_some]
        rw [i1]
        exact ⟨_, z0, g0, z1, g1, z2, g2, z3, g3, m, cs, fr, te, as, ho, nu, rfl, rfl, Nat.le_refl m, y0, y1, y2, y3⟩
      · rw [if_neg (show ¬ nI 3 = 0 by decide), if_neg (show ¬ nI 3 = 1 by decide), if_neg (show ¬ nI 3 = 2 by decide), if_pos (show nI 3 = 3 from rfl)]
        unfold mX7_sayingAtK3
        simp only [Option.bind_some]
        rw [i1]
        exact ⟨_, z0, g0, z1, g1, z2, g2, z3, g3, m, cs, fr, te, as, ho, nu, rfl, rfl, Nat.le_refl m, y0, y1, y2, y3⟩
  · rw [if_pos hp, if_neg h0, if_neg h1, if_neg h2, if_neg h3, hN]
    exact ⟨_, z0, g0, z1, g1, z2, g2, z3, g3, m, cs, fr, te, as, ho, nu, rfl, rfl, Nat.le_refl m, y0, y1, y2, y3⟩
