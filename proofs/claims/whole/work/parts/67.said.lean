/-! pure facts: what a saying says of a day -/
/-- the odds that end the case in which one stands -/
theorem s_end {n : Nat} {c : Nat → Nat} (hc : ∀ j, j < n → c j < 127) (h7 : s_S c n = 7) : ∀ m i, n - i ≤ m → i < n → ¬ s_S c i = 7 → ∃ e, i ≤ e ∧ e < n ∧ s_S c (e + 1) = 7 ∧ s_M c e = s_M c i := by
  intro m
  induction m with
  | zero => intro i h1 h2; omega
  | succ m ih =>
    intro i h1 h2 h3
    by_cases h4 : s_S c (i + 1) = 7
    · exact ⟨i, Nat.le_refl i, h2, h4, rfl⟩
    · have h5 : ¬ i + 1 = n := fun e => h4 (e ▸ h7)
      obtain ⟨e, a, b, d, f⟩ := ih (i + 1) (by omega) (by omega) h4
      exact ⟨e, by omega, b, d, by rw [f, s_Mn h4]⟩
theorem m_oddsBy : ∀ c, c < 127 → (c = 120 ∨ s_dig c = true) → mX8_oddsBy (nI c) = some (s_tell c) := by decide +kernel
theorem m_said {k : Nat} (hk : k < 4) {n : Nat} {sg : Nat → Int32} {c : Nat → Nat} (h : s_txt n sg c) {cs fr te as ho nu : Nat → Int32} (hp : s_par k n c cs fr te as ho nu) (y mo f g wi s r : Nat → Int32) (hb : s_bk y mo f g wi s r) {d : Nat} (hd : d < 60) : ∃ o, mX8_oddsTold (nI n) sg y mo f wi s r (nI d) = some o ∧ mX10_saidOf y mo g wi s r cs fr te as ho nu (nI k) (nI d) = some o ∧ s_or 1000 o := by
  have hn := h.1
  have hc : ∀ j, j < n → c j < 127 := fun j hj => (h.2 j hj).2
  obtain ⟨P0, P1, P2, P3, P4⟩ := hp
  have m15 : (15 : Int32) * nI k = nI (15 * k) := pk_mul 15 k
  have m14 : (14 : Int32) * nI k = nI (14 * k) := pk_mul 14 k
  have ck : (nI k).toNatClampNeg = k := nI_clamp (by omega)
  unfold mX8_oddsTold mX10_saidOf
  -- the end of the reference's cases
  have refEnd : ∀ m, s_M c n ≤ m → m ≤ 14 → mX10_saidOf_b2 y mo g wi s r cs fr te as ho nu (nI k) (nI d) (nI m) = some (-6) := by
    intro m hm hm2
    unfold mX10_saidOf_b2
    refine x_loop_inl ?_
    show mX10_saidOf_s2 _ _ _ _ _ _ _ _ _ _ _ _ _ _ _ = _
    unfold mX10_saidOf_s2
    rw [x_ny (n_xin hk (by omega)), ck, P1, if_pos (nI_le hm (by omega))]
  rcases P0 with rfl | h7
  · refine ⟨-6, ?_, refEnd 0 (by show 0 ≤ 0; omega) (by omega), .inl rfl⟩
    unfold mX8_oddsTold_b5
    refine x_loop_inl ?_
    show mX8_oddsTold_s5 _ _ _ _ _ _ _ _ _ _ _ = _
    unfold mX8_oddsTold_s5
    rw [if_pos (by decide)]
  -- the case of a place, where its tests begin
  have MN : 4 * s_M c n ≤ n + 1 := by
    have := (s_TM hc h7 n (Nat.le_refl n)).2
    omega
  -- the reference goes into a case
  have refIn : ∀ i, i < n → s_S c i = 0 → mX10_saidOf_b2 y mo g wi s r cs fr te as ho nu (nI k) (nI d) (nI (s_M c i)) = (match mX10_saidOf_b28 y mo g wi s r cs fr te as ho nu (nI k) (nI d) (nI (s_M c i)) 1 (nI (s_T c i)) with | none => none | some (.inl o) => some o | some (.inr v) => mX10_saidOf_b2 y mo g wi s r cs fr te as ho nu (nI k) (nI d) v) := by
    intro i hi h0
    obtain ⟨e, a1, a2, a3, a4⟩ := s_end hc h7 (n - i) i (Nat.le_refl _) hi (by omega)
    have lt : s_M c i < s_M c n := by
      rw [← a4]
      exact s_Mlt a3 a2
    have fri : fr (15 * k + s_M c i) = nI (s_T c i) := by
      cases i with
      | zero => exact P2
      | succ j =>
        have b := s_go hc h7 (i := j) (by omega)
        have b2 := (s_f4 _ b.1 _ (hc j (by omega))).resolve_left b.2.2.2
        rw [← b.2.2.1] at b2
        have j7 := b2.2.2.2.mp h0
        cases j with
        | zero => exact absurd j7 (by show ¬ 0 = 7; omega)
        | succ l =>
          have q := (P3 l (by omega) j7).1
          have e1 : s_M c (l + 1 + 1) = s_M c l + 1 := by rw [s_Mn (by omega), s_M7 j7]
          have e2 : s_T c (l + 1 + 1) = s_T c l := by rw [s_Tn (by omega), s_Tn (by omega)]
          rw [e1, e2]
          exact q
    have st : mX10_saidOf_s2 y mo g wi s r cs fr te as ho nu (nI k) (nI d) (nI (s_M c i)) = mX10_saidOf_b28 y mo g wi s r cs fr te as ho nu (nI k) (nI d) (nI (s_M c i)) 1 (nI (s_T c i)) := by
      unfold mX10_saidOf_s2
      rw [x_ny (n_xin hk (by omega)), ck, P1, if_neg (nI_ge lt (by omega)), m15, nI_add, x_ny (n_xin (by omega) (by omega)), nI_clamp (by omega), fri]
    cases hq : mX10_saidOf_b28 y mo g wi s r cs fr te as ho nu (nI k) (nI d) (nI (s_M c i)) 1 (nI (s_T c i)) with
    | none =>
      show mX10_saidOf_b2 _ _ _ _ _ _ _ _ _ _ _ _ _ _ _ = none
      unfold mX10_saidOf_b2
      cases hz : x_loop (fun q : Int32 => mX10_saidOf_s2 y mo g wi s r cs fr te as ho nu (nI k) (nI d) q) (nI (s_M c i)) with
      | none => rfl
      | some o =>
        obtain ⟨m, hm⟩ := x_loop_iff.mp hz
        cases m with
        | zero => simp [x_fuel] at hm
        | succ m =>
          rw [x_fuel, st, hq] at hm
          simp at hm
    | some z =>
      cases z with
      | inl o =>
        show mX10_saidOf_b2 _ _ _ _ _ _ _ _ _ _ _ _ _ _ _ = some o
        unfold mX10_saidOf_b2
        exact x_loop_inl (st.trans hq)
      | inr v =>
        show mX10_saidOf_b2 _ _ _ _ _ _ _ _ _ _ _ _ _ _ _ = mX10_saidOf_b2 _ _ _ _ _ _ _ _ _ _ _ _ _ _ _
        unfold mX10_saidOf_b2
        exact x_loop_inr (st.trans hq)
  -- what the two do from place i on
  have main : ∀ m i, n - i ≤ m → i ≤ n → ∃ o, s_or 1000 o ∧ ((s_S c i = 6 ∨ s_S c i = 7) → mX8_oddsTold_b5 (nI n) sg y mo f wi s r (nI d) 1 (nI i) = some o ∧ mX10_saidOf_b2 y mo g wi s r cs fr te as ho nu (nI k) (nI d) (nI (s_M c i + if s_S c i = 6 then 1 else 0)) = some o) ∧ (¬ s_S c i = 6 → ¬ s_S c i = 7 → ∀ b : Bool, (s_S c i = 0 → b = true) → ∃ o, s_or 1000 o ∧ mX8_oddsTold_b5 (nI n) sg y mo f wi s r (nI d) (xb b) (nI i) = some o ∧ (match mX10_saidOf_b28 y mo g wi s r cs fr te as ho nu (nI k) (nI d) (nI (s_M c i)) (xb b) (nI (s_T c i)) with | none => none | some (.inl o) => some o | some (.inr v) => mX10_saidOf_b2 y mo g wi s r cs fr te as ho nu (nI k) (nI d) v) = some o) := by
    intro m
    induction m with
    | zero =>
      intro i h1 h2
      have e : i = n := by omega
      subst e
      refine ⟨-6, .inl rfl, fun _ => ⟨?_, ?_⟩, fun _ z => absurd h7 z⟩
      · unfold mX8_oddsTold_b5
        refine x_loop_inl ?_
        show mX8_oddsTold_s5 _ _ _ _ _ _ _ _ _ _ _ = _
        unfold mX8_oddsTold_s5
        rw [if_pos (nI_le (Nat.le_refl i) (by omega))]
      · exact refEnd _ (by omega) (by rw [h7]; rw [if_neg (by decide)]; omega)
    | succ m ih =>
      intro i h1 h2
      by_cases hin : i = n
      · exact ih i (by omega) h2
      have hin' : i < n := by omega
      obtain ⟨g1, g2, g3, g4⟩ := s_go hc h7 hin'
      obtain ⟨e1, e2⟩ := h.2 i hin'
      have F3 := (s_f3 _ g1 _ e2).resolve_left g4
      have F4 := (s_f4 _ g1 _ e2).resolve_left g4
      have F5 := (s_f5 _ g1 _ e2).resolve_left g4
      rw [← g3] at F3 F4 F5
      have i58 : nI (c i) = 58 ↔ c i = 58 := n_eqI (a := c i) (b := 58) (by omega) (by omega)
      obtain ⟨o1, w1, w2, w3⟩ := ih (i + 1) (by omega) (by omega)
      -- the class goes by a sign that is neither a letter nor a colon
      have pass : ∀ v3 : Int32, ¬ s_S c (i + 1) = 2 → ¬ s_S c (i + 1) = 6 → mX8_oddsTold_b5 (nI n) sg y mo f wi s r (nI d) v3 (nI i) = mX8_oddsTold_b5 (nI n) sg y mo f wi s r (nI d) v3 (nI (i + 1)) := by
        intro v3 n2 n6
        unfold mX8_oddsTold_b5
        refine x_loop_inr ?_
        show mX8_oddsTold_s5 _ _ _ _ _ _ _ _ _ _ _ = _
        unfold mX8_oddsTold_s5 mX8_oddsTold_b102
        have nl : ¬ s_let (c i) < 9 := fun z => n2 (F3.2.2.2.mp z)
        rw [if_neg (nI_ge hin' (by omega)), n_at (by omega) sg (i := i) (by omega), e1]
        simp only [Option.bind_some]
        rw [if_neg (fun z => n6 (F3.2.2.1.mp (i58.mp z))), m_isLetter e2, decide_eq_false nl]
        simp only [Option.bind_some]
        rw [if_pos xb_f, nI_1]
      by_cases q6 : s_S c i = 6
      · have s7 := F3.2.1.mpr q6
        obtain ⟨a, b⟩ := w2 (.inr s7)
        refine ⟨o1, w1, fun _ => ⟨?_, ?_⟩, fun z => absurd q6 z⟩
        · rw [pass 1 (by omega) (by omega)]; exact a
        · rw [if_neg (by omega), s_M7 s7, Nat.add_zero] at b
          rw [if_pos q6]
          exact b
      by_cases q7 : s_S c i = 7
      · have s0 := F4.2.2.2.mpr q7
        obtain ⟨o2, v1, v2, v3⟩ := w3 (by omega) (by omega) true (fun _ => rfl)
        have nn : ¬ i + 1 = n := fun e => by rw [e, h7] at s0; exact absurd s0 (by decide)
        refine ⟨o2, v1, fun _ => ⟨?_, ?_⟩, fun _ z => absurd q7 z⟩
        · rw [pass 1 (by omega) (by omega)]; exact v2
        · rw [if_neg q6, Nat.add_zero, ← s_Mn (c := c) (j := i) (by omega), refIn (i + 1) (by omega) s0]
          exact v3
      refine ⟨o1, w1, fun z => z.elim (fun z => absurd z q6) (fun z => absurd z q7), fun _ _ b hb0 => ?_⟩
      -- within a case
      obtain ⟨e, a1, a2, a3, a4⟩ := s_end hc h7 (n - i) i (Nat.le_refl _) hin' q7
      have MI : s_M c i < s_M c n := by
        rw [← a4]
        exact s_Mlt a3 a2
      have fre : fr (15 * k + (s_M c i + 1)) = nI (s_T c e) := by
        rw [← a4]
        exact (P3 e a2 a3).1
      obtain ⟨t1, t2⟩ := s_TM hc h7 i (by omega)
      have A3 := s_A_le (s_S c i)
      have te1 := (s_TM hc h7 e (by omega)).1
      have A3e := s_A_le (s_S c e)
      have ix15 : (15 : Int32) * nI k + nI (s_M c i) + 1 = nI (15 * k + (s_M c i + 1)) := by
        rw [m15, nI_add, nI_1, Nat.add_assoc]
      by_cases q2 : s_S c (i + 1) = 2
      · -- a test
        have lt9 := F3.2.2.2.mpr q2
        have l6 := s_let_9 _ lt9
        have n58 : ¬ c i = 58 := fun z => by have := F3.2.2.1.mp z; omega
        have fw := s_fwd hc h7 hin' q2
        obtain ⟨p1, p2, p3⟩ := P4 i hin' q2
        have ne' : ¬ i = e := fun z => by rw [← z] at a3; omega
        have Tlt : s_T c i < s_T c e := s_Tlt q2 (by omega)
        have T14 : 4 * s_T c i ≤ i := by
          rcases F5.1 q2 with z | z
          · rw [z] at t1; exact t1
          · rw [z] at t1; exact t1
        obtain ⟨o, l1, l2, l3, -⟩ := m_looks y mo f g wi s r hb hd (w := s_let (c i)) (by omega)
        -- does the test hold
        have dg2 : 48 ≤ c (i + 2) ∧ c (i + 2) ≤ 57 := by
          obtain ⟨b1, b2, b3, b4⟩ := s_go hc h7 (i := i + 2) (by omega)
          have b5 := (s_f5 _ b1 _ (hc (i + 2) (by omega))).resolve_left b4
          rw [← b3] at b5
          exact s_dig_of (b5.2.1 fw.2.2.1)
        have test : ∃ t : Bool, mX8_testFits sg o (nI (i + 1)) = some t ∧ mX10_holds y mo g wi s r as ho nu (nI (14 * k + s_T c i)) (nI d) = some t := by
          have x1 := (h.2 (i + 1) (by omega))
          have x2 := (h.2 (i + 2) (by omega))
          have x3 := (h.2 (i + 3) (by omega))
          have hin56 : x_in (nI (14 * k + s_T c i)) 56 := n_xin (by omega) (by omega)
          have nle : s_num c i ≤ 99 := by
            unfold s_num
            by_cases dd : s_dig (c (i + 3)) = false
            · rw [if_pos dd]; omega
            · rw [if_neg dd]
              have : s_dig (c (i + 3)) = true := by cases hz : s_dig (c (i + 3)) with | false => exact absurd hz dd | true => rfl
              have := s_dig_of this
              omega
          have isd : mX9_isDigit (nI (c (i + 3))) = some (s_dig (c (i + 3))) := by
            unfold mX9_isDigit
            rw [m_within]
            simp only [Option.bind_some]
            congr 1
            unfold s_dig
            rw [decide_eq_decide, show ((48 : Int32) ≤ nI (c (i + 3)) ↔ 48 ≤ c (i + 3)) from n_leI (a := 48) (by omega) (by omega), show (nI (c (i + 3)) ≤ (57 : Int32) ↔ c (i + 3) ≤ 57) from n_leI (b := 57) (by omega) (by omega)]
          have hold : mX10_holds y mo g wi s r as ho nu (nI (14 * k + s_T c i)) (nI d) = (if o = (-6) then (some false) else (if nI (c (i + 1)) = 60 then (if nI (s_num c i) ≤ o then (some false) else (some true)) else (if nI (c (i + 1)) = 62 then (if o ≤ nI (s_num c i) then (some false) else (some true)) else (if o = nI (s_num c i) then (some true) else (some false))))) := by
            have cl56 : (nI (14 * k + s_T c i)).toNatClampNeg = 14 * k + s_T c i := nI_clamp (by omega)
            unfold mX10_holds
            simp only [x_ny hin56, cl56, p1, p2, p3, l2, Option.bind_some]
          have fit : mX8_testFits sg o (nI (i + 1)) = (if o = (-6) then (some false) else (if nI (c (i + 1)) = 60 then (if nI (s_num c i) ≤ o then (some false) else (some true)) else (if nI (c (i + 1)) = 62 then (if o ≤ nI (s_num c i) then (some false) else (some true)) else (if o = nI (s_num c i) then (some true) else (some false))))) := by
            unfold mX8_testFits mX8_testFits_b53
            by_cases o6 : o = -6
            · rw [if_pos o6, if_pos o6]
            rw [if_neg o6, if_neg o6, nI_1, show nI (i + 1) + 2 = nI (i + 3) from nI_add (i + 1) 2, n_at (by omega) sg (i := i + 1 + 1) (by omega), n_at (by omega) sg (i := i + 3) (by omega), n_at (by omega) sg (i := i + 1) (by omega), x2.1, x3.1, x1.1]
            simp only [Option.bind_some]
            rw [isd]
            simp only [Option.bind_some]
            have e48 : nI (c (i + 2)) - 48 = nI (c (i + 2) - 48) := pk_sub dg2.1
            by_cases dd : s_dig (c (i + 3)) = false
            · have en : s_num c i = c (i + 2) - 48 := by unfold s_num; rw [if_pos dd]
              rw [if_pos (by rw [dd]; rfl), e48, en]
            · have dt : s_dig (c (i + 3)) = true := by cases hz : s_dig (c (i + 3)) with | false => exact absurd hz dd | true => rfl
              have dg3 := s_dig_of dt
              have en : s_num c i = 10 * (c (i + 2) - 48) + (c (i + 3) - 48) := by unfold s_num; rw [if_neg dd]
              have ee : (10 : Int32) * nI (c (i + 2) - 48) + nI (c (i + 3)) - 48 = nI (10 * (c (i + 2) - 48) + (c (i + 3) - 48)) := by
                rw [show (10 : Int32) * nI (c (i + 2) - 48) = nI (10 * (c (i + 2) - 48)) from pk_mul 10 _, nI_add]
                have := pk_sub (a := 10 * (c (i + 2) - 48) + c (i + 3)) (b := 48) (by omega)
                rw [show 10 * (c (i + 2) - 48) + (c (i + 3) - 48) = 10 * (c (i + 2) - 48) + c (i + 3) - 48 by omega]
                exact this
              rw [if_neg (by rw [dt]; exact xb_n), e48, ee, en]
          by_cases o6 : o = -6
          · exact ⟨false, by rw [fit, if_pos o6], by rw [hold, if_pos o6]⟩
          rw [fit, hold]
          rw [if_neg o6]
          by_cases r1 : nI (c (i + 1)) = 60
          · rw [if_pos r1]
            by_cases r2 : nI (s_num c i) ≤ o
            · rw [if_pos r2]; exact ⟨false, rfl, rfl⟩
            · rw [if_neg r2]; exact ⟨true, rfl, rfl⟩
          rw [if_neg r1]
          by_cases r2 : nI (c (i + 1)) = 62
          · rw [if_pos r2]
            by_cases r3 : o ≤ nI (s_num c i)
            · rw [if_pos r3]; exact ⟨false, rfl, rfl⟩
            · rw [if_neg r3]; exact ⟨true, rfl, rfl⟩
          rw [if_neg r2]
          by_cases r3 : o = nI (s_num c i)
          · rw [if_pos r3]; exact ⟨true, rfl, rfl⟩
          · rw [if_neg r3]; exact ⟨false, rfl, rfl⟩
        obtain ⟨t, tf, th⟩ := test
        -- both steps
        have cls : mX8_oddsTold_b5 (nI n) sg y mo f wi s r (nI d) (xb b) (nI i) = mX8_oddsTold_b5 (nI n) sg y mo f wi s r (nI d) (xb (b && t)) (nI (i + 1)) := by
          unfold mX8_oddsTold_b5
          refine x_loop_inr ?_
          show mX8_oddsTold_s5 _ _ _ _ _ _ _ _ _ _ _ = _
          unfold mX8_oddsTold_s5 mX8_oddsTold_b100 mX8_oddsTold_b101 mX8_oddsTold_b102
          rw [if_neg (nI_ge hin' (by omega)), n_at (by omega) sg (i := i) (by omega), e1]
          simp only [Option.bind_some]
          rw [if_neg (fun z => n58 (i58.mp z)), m_isLetter e2, decide_eq_true lt9]
          simp only [Option.bind_some]
          rw [if_neg xb_n, m_letter e2, if_neg (by omega)]
          simp only [Option.bind_some]
          rw [l1]
          simp only [Option.bind_some]
          cases b with
          | false => rw [if_pos xb_f, nI_1]; rfl
          | true =>
            rw [if_neg xb_n, nI_1, tf]
            simp only [Option.bind_some]
            cases t with
            | false => rw [if_pos xb_f]; rfl
            | true => rw [if_neg xb_n]; rfl
        have ref : mX10_saidOf_b28 y mo g wi s r cs fr te as ho nu (nI k) (nI d) (nI (s_M c i)) (xb b) (nI (s_T c i)) = mX10_saidOf_b28 y mo g wi s r cs fr te as ho nu (nI k) (nI d) (nI (s_M c i)) (xb (b && t)) (nI (s_T c i + 1)) := by
          unfold mX10_saidOf_b28
          refine x_loop_inr ?_
          show mX10_saidOf_s28 _ _ _ _ _ _ _ _ _ _ _ _ _ _ _ _ _ = _
          unfold mX10_saidOf_s28 mX10_saidOf_b70 mX10_saidOf_b71
          rw [ix15, x_ny (n_xin (by omega) (by omega)), nI_clamp (by omega), fre, if_neg (nI_ge Tlt (by omega)), m14, nI_add]
          cases b with
          | false => rw [if_pos xb_f, nI_1]; rfl
          | true =>
            rw [if_neg xb_n, th]
            simp only [Option.bind_some]
            cases t with
            | false => rw [if_pos xb_f, nI_1]; rfl
            | true => rw [if_neg xb_n, nI_1]; rfl
        rw [cls, ref, ← s_T2 q2, ← s_Mn (c := c) (j := i) (by omega)]
        exact w3 (by omega) (by omega) (b && t) (fun z => by omega)
      by_cases q6' : s_S c (i + 1) = 6
      · -- a colon: the case ends
        have n58 : c i = 58 := F3.2.2.1.mpr q6'
        have nn : ¬ i + 1 = n := fun z => by rw [z, h7] at q6'; exact absurd q6' (by decide)
        have s7 : s_S c (i + 2) = 7 := by
          obtain ⟨b1, b2, b3, b4⟩ := s_go hc h7 (i := i + 1) (by omega)
          have b5 := (s_f3 _ b1 _ (hc (i + 1) (by omega))).resolve_left b4
          rw [← b3] at b5
          exact b5.2.1.mpr q6'
        obtain ⟨r1, r2⟩ := P3 (i + 1) (by omega) s7
        have M1 : s_M c (i + 1) = s_M c i := s_Mn (by omega)
        have T1 : s_T c (i + 1) = s_T c i := s_Tn q2
        rw [M1, T1] at r1
        rw [M1] at r2
        have tc : c (i + 1) = 120 ∨ s_dig (c (i + 1)) = true := by
          obtain ⟨b1, b2, b3, b4⟩ := s_go hc h7 (i := i + 1) (by omega)
          have b5 := (s_f5 _ b1 _ (hc (i + 1) (by omega))).resolve_left b4
          rw [← b3] at b5
          exact b5.2.2 s7
        have ob := m_oddsBy _ (hc (i + 1) (by omega)) tc
        have sor : s_or 1000 (s_tell (c (i + 1))) := by
          unfold s_tell
          by_cases z : c (i + 1) = 120
          · rw [if_pos z]; exact .inr ⟨1000, by omega, rfl⟩
          · rw [if_neg z]
            have := s_dig_of (tc.resolve_left z)
            exact .inr ⟨_, by omega, rfl⟩
        cases b with
        | true =>
          refine ⟨s_tell (c (i + 1)), sor, ?_, ?_⟩
          · unfold mX8_oddsTold_b5
            refine x_loop_inl ?_
            show mX8_oddsTold_s5 _ _ _ _ _ _ _ _ _ _ _ = _
            unfold mX8_oddsTold_s5
            rw [if_neg (nI_ge hin' (by omega)), n_at (by omega) sg (i := i) (by omega), e1]
            simp only [Option.bind_some]
            rw [if_pos (i58.mpr n58), if_neg xb_n, nI_1, n_at (by omega) sg (i := i + 1) (by omega), (h.2 (i + 1) (by omega)).1]
            simp only [Option.bind_some]
            rw [ob]
            rfl
          · have : mX10_saidOf_b28 y mo g wi s r cs fr te as ho nu (nI k) (nI d) (nI (s_M c i)) (xb true) (nI (s_T c i)) = some (.inl (s_tell (c (i + 1)))) := by
              unfold mX10_saidOf_b28
              refine x_loop_inl ?_
              show mX10_saidOf_s28 _ _ _ _ _ _ _ _ _ _ _ _ _ _ _ _ _ = _
              unfold mX10_saidOf_s28
              rw [ix15, x_ny (n_xin (by omega) (by omega)), nI_clamp (by omega), r1, if_pos (nI_le (Nat.le_refl _) (by omega)), if_neg xb_n, m14, nI_add, x_ny (n_xin (by omega) (by omega)), nI_clamp (by omega), r2]
            rw [this]
        | false =>
          obtain ⟨a, bb⟩ := w2 (.inl q6')
          refine ⟨o1, w1, ?_, ?_⟩
          · have : mX8_oddsTold_b5 (nI n) sg y mo f wi s r (nI d) (xb false) (nI i) = mX8_oddsTold_b5 (nI n) sg y mo f wi s r (nI d) 1 (nI (i + 1)) := by
              unfold mX8_oddsTold_b5
              refine x_loop_inr ?_
              show mX8_oddsTold_s5 _ _ _ _ _ _ _ _ _ _ _ = _
              unfold mX8_oddsTold_s5 mX8_oddsTold_b102
              rw [if_neg (nI_ge hin' (by omega)), n_at (by omega) sg (i := i) (by omega), e1]
              simp only [Option.bind_some]
              rw [if_pos (i58.mpr n58), if_pos xb_f, nI_1]
            rw [this]
            exact a
          · have : mX10_saidOf_b28 y mo g wi s r cs fr te as ho nu (nI k) (nI d) (nI (s_M c i)) (xb false) (nI (s_T c i)) = some (.inr (nI (s_M c i + 1))) := by
              unfold mX10_saidOf_b28
              refine x_loop_inl ?_
              show mX10_saidOf_s28 _ _ _ _ _ _ _ _ _ _ _ _ _ _ _ _ _ = _
              unfold mX10_saidOf_s28
              rw [ix15, x_ny (n_xin (by omega) (by omega)), nI_clamp (by omega), r1, if_pos (nI_le (Nat.le_refl _) (by omega)), if_pos xb_f, nI_1]
            rw [this]
            rw [if_pos q6', M1] at bb
            exact bb
      · -- another sign
        rw [pass (xb b) q2 q6', ← s_Tn q2, ← s_Mn (c := c) (j := i) (fun z => q6 (F3.2.1.mp z))]
        refine w3 q6' (fun z => q6 (F3.2.1.mp z)) b (fun z => ?_)
        exact absurd (F4.2.2.2.mp z) q7
  obtain ⟨-, -, -, w3⟩ := main n 0 (by omega) (by omega)
  obtain ⟨o, v1, v2, v3⟩ := w3 (by show ¬ 0 = 6; omega) (by show ¬ 0 = 7; omega) true (fun _ => rfl)
  refine ⟨o, v2, ?_, v1⟩
  have n0 : 0 < n := by
    rcases Nat.eq_zero_or_pos n with z | z
    · rw [z] at h7; exact absurd (show 0 = 7 from h7) (by decide)
    · exact z
  have := refIn 0 n0 rfl
  rw [show (0 : Int32) = nI (s_M c 0) from rfl, this]
  exact v3
