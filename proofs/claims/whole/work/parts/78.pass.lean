/-! pure facts: the reference's images, slot by slot -/
theorem x_loop_up {σ τ : Type} {step : σ → Option (τ ⊕ σ)} {z : σ} {X : Option τ} (h : step z = x_up X) : x_loop step z = X := by
  cases X with
  | some v => exact x_loop_inl h
  | none =>
    cases hz : x_loop step z with
    | none => rfl
    | some o =>
      obtain ⟨m, hm⟩ := x_loop_iff.mp hz
      cases m with
      | zero => simp [x_fuel] at hm
      | succ m =>
        rw [x_fuel, h] at hm
        simp [x_up] at hm
/-- the keep behind x slots -/
def s_K (B : Nat) (V kp : Nat → Int32) (x : Nat) : Nat → Int32 := fun z => if B ≤ z ∧ z < B + x then V (z - B) else kp z
theorem s_K_0 (B : Nat) (V kp : Nat → Int32) : s_K B V kp 0 = kp := by
  funext z
  unfold s_K
  exact if_neg (by omega)
theorem s_K_at (B : Nat) (V kp : Nat → Int32) (x : Nat) : s_K B V kp x (B + x) = kp (B + x) := by
  unfold s_K
  exact if_neg (by omega)
theorem s_K_up (B : Nat) (V kp : Nat → Int32) (x : Nat) : upd (s_K B V kp x) (B + x) (V x) = s_K B V kp (x + 1) := by
  funext z
  by_cases e : z = B + x
  · subst e
    rw [pk_us]
    unfold s_K
    rw [if_pos (by omega), show B + x - B = x by omega]
  · rw [pk_un e]
    unfold s_K
    by_cases q : B ≤ z ∧ z < B + x
    · rw [if_pos q, if_pos (by omega)]
    · rw [if_neg q, if_neg (by omega)]
/-- an array of the reference behind k rounds of a loop over it -/
def s_G (V a : Nat → Int32) (off c d k : Nat) : Nat → Int32 := fun j => if j < k then V (off + c * j + d) else a j
theorem s_G_0 (V a : Nat → Int32) (off c d : Nat) : s_G V a off c d 0 = a := by
  funext j
  unfold s_G
  exact if_neg (by omega)
theorem s_G_at (V a : Nat → Int32) (off c d k : Nat) : s_G V a off c d k k = a k := by
  unfold s_G
  exact if_neg (by omega)
theorem s_G_up (V a : Nat → Int32) (off c d k : Nat) : upd (s_G V a off c d k) k (V (off + c * k + d)) = s_G V a off c d (k + 1) := by
  funext j
  by_cases e : j = k
  · subst e
    rw [pk_us]
    unfold s_G
    rw [if_pos (by omega)]
  · rw [pk_un e]
    unfold s_G
    by_cases q : j < k
    · rw [if_pos q, if_pos (by omega)]
    · rw [if_neg q, if_neg (by omega)]
/-- slot x is to hold V x: the value to be written has it, or the keep has it -/
def s_ok (B : Nat) (w : Int32) (V kp : Nat → Int32) (v : Int32) (x : Nat) : Prop := (w = 1 ∧ v = V x) ∨ (w = 0 ∧ kp (B + x) = V x)
theorem m_pass {B : Nat} {w : Int32} {V kp : Nat → Int32} {v : Int32} {x : Nat} (hB : B ≤ 868) (hx : x < 732) (h : s_ok B w V kp v x) : mX10_pass (nI (B + x)) w (s_K B V kp x) v = some (V x, nI (B + (x + 1)), s_K B V kp (x + 1)) := by
  have xi : x_in (nI (B + x)) 1600 := n_xin (by omega) (by omega)
  have ci : (nI (B + x)).toNatClampNeg = B + x := nI_clamp (by omega)
  unfold mX10_pass mX10_pass_b20
  rcases h with ⟨rfl, rfl⟩ | ⟨rfl, hv⟩
  · rw [if_neg (show ¬ (1 : Int32) = 0 by decide)]
    simp only [x_ny xi, ci]
    rw [s_K_up, nI_1, Nat.add_assoc]
  · rw [if_pos (show (0 : Int32) = 0 from rfl)]
    simp only [x_ny xi, ci]
    rw [s_K_at, hv, s_K_up, nI_1, Nat.add_assoc]
theorem m_p98 {B : Nat} {w : Int32} {V kp : Nat → Int32} {mi ne st da ke we ca gl : Int32} {y mo g wi s r wr cs fr te as ho nu gx gy gp gw : Nat → Int32} (hB : B ≤ 868) (h_y : ∀ j, j < 60 → s_ok B w V kp (y j) (8 + 7 * j + 0)) (h_mo : ∀ j, j < 60 → s_ok B w V kp (mo j) (8 + 7 * j + 1)) (h_g : ∀ j, j < 60 → s_ok B w V kp (g j) (8 + 7 * j + 2)) (h_wi : ∀ j, j < 60 → s_ok B w V kp (wi j) (8 + 7 * j + 3)) (h_s : ∀ j, j < 60 → s_ok B w V kp (s j) (8 + 7 * j + 4)) (h_r : ∀ j, j < 60 → s_ok B w V kp (r j) (8 + 7 * j + 5)) (h_wr : ∀ j, j < 60 → s_ok B w V kp (wr j) (8 + 7 * j + 6)) : ∀ m k, 60 - k ≤ m → k ≤ 60 → mX10_passAll_b98 mi ne st da ke we ca gl (nI (B + (8 + 7 * k))) w (s_G V y 8 7 0 k) (s_G V mo 8 7 1 k) (s_G V g 8 7 2 k) (s_G V wi 8 7 3 k) (s_G V s 8 7 4 k) (s_G V r 8 7 5 k) (s_G V wr 8 7 6 k) cs fr te as ho nu gx gy gp gw (s_K B V kp (8 + 7 * k)) (nI k) = mX10_passAll_b224 mi ne st da ke we ca gl (nI (B + 428)) w (s_G V y 8 7 0 60) (s_G V mo 8 7 1 60) (s_G V g 8 7 2 60) (s_G V wi 8 7 3 60) (s_G V s 8 7 4 60) (s_G V r 8 7 5 60) (s_G V wr 8 7 6 60) cs fr te as ho nu gx gy gp gw (s_K B V kp 428) 0 := by
  intro m
  induction m with
  | zero =>
    intro k h1 h2
    have e : k = 60 := by omega
    subst e
    rw [show 8 + 7 * 60 = 428 from rfl]
    unfold mX10_passAll_b98
    refine x_loop_up ?_
    try dsimp only
    unfold mX10_passAll_s98
    rw [if_pos (by decide)]
  | succ m ih =>
    intro k h1 h2
    by_cases hk : k = 60
    · exact ih k (by omega) h2
    have hk' : k < 60 := by omega
    have xk : x_in (nI k) 60 := n_xin (by omega) (by omega)
    have ck : (nI k).toNatClampNeg = k := nI_clamp (by omega)
    have p0 : mX10_pass (nI (B + (8 + 7 * k))) w (s_K B V kp (8 + 7 * k)) (y k) = some (V (8 + 7 * k + 0), nI (B + (8 + 7 * k + 1)), s_K B V kp (8 + 7 * k + 1)) := m_pass (x := 8 + 7 * k + 0) hB (by omega) (h_y k hk')
    have p1 : mX10_pass (nI (B + (8 + 7 * k + 1))) w (s_K B V kp (8 + 7 * k + 1)) (mo k) = some (V (8 + 7 * k + 1), nI (B + (8 + 7 * k + 2)), s_K B V kp (8 + 7 * k + 2)) := m_pass (x := 8 + 7 * k + 1) hB (by omega) (h_mo k hk')
    have p2 : mX10_pass (nI (B + (8 + 7 * k + 2))) w (s_K B V kp (8 + 7 * k + 2)) (g k) = some (V (8 + 7 * k + 2), nI (B + (8 + 7 * k + 3)), s_K B V kp (8 + 7 * k + 3)) := m_pass (x := 8 + 7 * k + 2) hB (by omega) (h_g k hk')
    have p3 : mX10_pass (nI (B + (8 + 7 * k + 3))) w (s_K B V kp (8 + 7 * k + 3)) (wi k) = some (V (8 + 7 * k + 3), nI (B + (8 + 7 * k + 4)), s_K B V kp (8 + 7 * k + 4)) := m_pass (x := 8 + 7 * k + 3) hB (by omega) (h_wi k hk')
    have p4 : mX10_pass (nI (B + (8 + 7 * k + 4))) w (s_K B V kp (8 + 7 * k + 4)) (s k) = some (V (8 + 7 * k + 4), nI (B + (8 + 7 * k + 5)), s_K B V kp (8 + 7 * k + 5)) := m_pass (x := 8 + 7 * k + 4) hB (by omega) (h_s k hk')
    have p5 : mX10_pass (nI (B + (8 + 7 * k + 5))) w (s_K B V kp (8 + 7 * k + 5)) (r k) = some (V (8 + 7 * k + 5), nI (B + (8 + 7 * k + 6)), s_K B V kp (8 + 7 * k + 6)) := m_pass (x := 8 + 7 * k + 5) hB (by omega) (h_r k hk')
    have p6 : mX10_pass (nI (B + (8 + 7 * k + 6))) w (s_K B V kp (8 + 7 * k + 6)) (wr k) = some (V (8 + 7 * k + 6), nI (B + (8 + 7 * k + 7)), s_K B V kp (8 + 7 * k + 7)) := m_pass (x := 8 + 7 * k + 6) hB (by omega) (h_wr k hk')
    have nx : 8 + 7 * (k + 1) = 8 + 7 * k + 7 := by omega
    refine Eq.trans ?_ (ih (k + 1) (by omega) (by omega))
    unfold mX10_passAll_b98
    refine x_loop_inr ?_
    try dsimp only
    unfold mX10_passAll_s98
    rw [if_neg (show ¬ (60 : Int32) ≤ nI k from nI_ge (b := 60) hk' (by omega))]
    simp only [x_ny xk, ck, s_G_at, p0, p1, p2, p3, p4, p5, p6, Option.bind_some]
    rw [nI_1, nx, s_G_up, s_G_up, s_G_up, s_G_up, s_G_up, s_G_up, s_G_up]
theorem m_p224 {B : Nat} {w : Int32} {V kp : Nat → Int32} {mi ne st da ke we ca gl : Int32} {y mo g wi s r wr cs fr te as ho nu gx gy gp gw : Nat → Int32} (hB : B ≤ 868) (h_cs : ∀ j, j < 4 → s_ok B w V kp (cs j) (428 + 1 * j + 0)) : ∀ m k, 4 - k ≤ m → k ≤ 4 → mX10_passAll_b224 mi ne st da ke we ca gl (nI (B + (428 + 1 * k))) w y mo g wi s r wr (s_G V cs 428 1 0 k) fr te as ho nu gx gy gp gw (s_K B V kp (428 + 1 * k)) (nI k) = mX10_passAll_b253 mi ne st da ke we ca gl (nI (B + 432)) w y mo g wi s r wr (s_G V cs 428 1 0 4) fr te as ho nu gx gy gp gw (s_K B V kp 432) 0 := by
  intro m
  induction m with
  | zero =>
    intro k h1 h2
    have e : k = 4 := by omega
    subst e
    rw [show 428 + 1 * 4 = 432 from rfl]
    unfold mX10_passAll_b224
    refine x_loop_up ?_
    try dsimp only
    unfold mX10_passAll_s224
    rw [if_pos (by decide)]
  | succ m ih =>
    intro k h1 h2
    by_cases hk : k = 4
    · exact ih k (by omega) h2
    have hk' : k < 4 := by omega
    have xk : x_in (nI k) 4 := n_xin (by omega) (by omega)
    have ck : (nI k).toNatClampNeg = k := nI_clamp (by omega)
    have p0 : mX10_pass (nI (B + (428 + 1 * k))) w (s_K B V kp (428 + 1 * k)) (cs k) = some (V (428 + 1 * k + 0), nI (B + (428 + 1 * k + 1)), s_K B V kp (428 + 1 * k + 1)) := m_pass (x := 428 + 1 * k + 0) hB (by omega) (h_cs k hk')
    have nx : 428 + 1 * (k + 1) = 428 + 1 * k + 1 := by omega
    refine Eq.trans ?_ (ih (k + 1) (by omega) (by omega))
    unfold mX10_passAll_b224
    refine x_loop_inr ?_
    try dsimp only
    unfold mX10_passAll_s224
    rw [if_neg (show ¬ (4 : Int32) ≤ nI k from nI_ge (b := 4) hk' (by omega))]
    simp only [x_ny xk, ck, s_G_at, p0, Option.bind_some]
    rw [nI_1, nx, s_G_up]
theorem m_p253 {B : Nat} {w : Int32} {V kp : Nat → Int32} {mi ne st da ke we ca gl : Int32} {y mo g wi s r wr cs fr te as ho nu gx gy gp gw : Nat → Int32} (hB : B ≤ 868) (h_fr : ∀ j, j < 60 → s_ok B w V kp (fr j) (432 + 1 * j + 0)) : ∀ m k, 60 - k ≤ m → k ≤ 60 → mX10_passAll_b253 mi ne st da ke we ca gl (nI (B + (432 + 1 * k))) w y mo g wi s r wr cs (s_G V fr 432 1 0 k) te as ho nu gx gy gp gw (s_K B V kp (432 + 1 * k)) (nI k) = mX10_passAll_b283 mi ne st da ke we ca gl (nI (B + 492)) w y mo g wi s r wr cs (s_G V fr 432 1 0 60) te as ho nu gx gy gp gw (s_K B V kp 492) 0 := by
  intro m
  induction m with
  | zero =>
    intro k h1 h2
    have e : k = 60 := by omega
    subst e
    rw [show 432 + 1 * 60 = 492 from rfl]
    unfold mX10_passAll_b253
    refine x_loop_up ?_
    try dsimp only
    unfold mX10_passAll_s253
    rw [if_pos (by decide)]
  | succ m ih =>
    intro k h1 h2
    by_cases hk : k = 60
    · exact ih k (by omega) h2
    have hk' : k < 60 := by omega
    have xk : x_in (nI k) 60 := n_xin (by omega) (by omega)
    have ck : (nI k).toNatClampNeg = k := nI_clamp (by omega)
    have p0 : mX10_pass (nI (B + (432 + 1 * k))) w (s_K B V kp (432 + 1 * k)) (fr k) = some (V (432 + 1 * k + 0), nI (B + (432 + 1 * k + 1)), s_K B V kp (432 + 1 * k + 1)) := m_pass (x := 432 + 1 * k + 0) hB (by omega) (h_fr k hk')
    have nx : 432 + 1 * (k + 1) = 432 + 1 * k + 1 := by omega
    refine Eq.trans ?_ (ih (k + 1) (by omega) (by omega))
    unfold mX10_passAll_b253
    refine x_loop_inr ?_
    try dsimp only
    unfold mX10_passAll_s253
    rw [if_neg (show ¬ (60 : Int32) ≤ nI k from nI_ge (b := 60) hk' (by omega))]
    simp only [x_ny xk, ck, s_G_at, p0, Option.bind_some]
    rw [nI_1, nx, s_G_up]
theorem m_p283 {B : Nat} {w : Int32} {V kp : Nat → Int32} {mi ne st da ke we ca gl : Int32} {y mo g wi s r wr cs fr te as ho nu gx gy gp gw : Nat → Int32} (hB : B ≤ 868) (h_te : ∀ j, j < 56 → s_ok B w V kp (te j) (492 + 4 * j + 0)) (h_as : ∀ j, j < 56 → s_ok B w V kp (as j) (492 + 4 * j + 1)) (h_ho : ∀ j, j < 56 → s_ok B w V kp (ho j) (492 + 4 * j + 2)) (h_nu : ∀ j, j < 56 → s_ok B w V kp (nu j) (492 + 4 * j + 3)) : ∀ m k, 56 - k ≤ m → k ≤ 56 → mX10_passAll_b283 mi ne st da ke we ca gl (nI (B + (492 + 4 * k))) w y mo g wi s r wr cs fr (s_G V te 492 4 0 k) (s_G V as 492 4 1 k) (s_G V ho 492 4 2 k) (s_G V nu 492 4 3 k) gx gy gp gw (s_K B V kp (492 + 4 * k)) (nI k) = mX10_passAll_b361 mi ne st da ke we ca gl (nI (B + 716)) w y mo g wi s r wr cs fr (s_G V te 492 4 0 56) (s_G V as 492 4 1 56) (s_G V ho 492 4 2 56) (s_G V nu 492 4 3 56) gx gy gp gw (s_K B V kp 716) 0 := by
  intro m
  induction m with
  | zero =>
    intro k h1 h2
    have e : k = 56 := by omega
    subst e
    rw [show 492 + 4 * 56 = 716 from rfl]
    unfold mX10_passAll_b283
    refine x_loop_up ?_
    try dsimp only
    unfold mX10_passAll_s283
    rw [if_pos (by decide)]
  | succ m ih =>
    intro k h1 h2
    by_cases hk : k = 56
    · exact ih k (by omega) h2
    have hk' : k < 56 := by omega
    have xk : x_in (nI k) 56 := n_xin (by omega) (by omega)
    have ck : (nI k).toNatClampNeg = k := nI_clamp (by omega)
    have p0 : mX10_pass (nI (B + (492 + 4 * k))) w (s_K B V kp (492 + 4 * k)) (te k) = some (V (492 + 4 * k + 0), nI (B + (492 + 4 * k + 1)), s_K B V kp (492 + 4 * k + 1)) := m_pass (x := 492 + 4 * k + 0) hB (by omega) (h_te k hk')
    have p1 : mX10_pass (nI (B + (492 + 4 * k + 1))) w (s_K B V kp (492 + 4 * k + 1)) (as k) = some (V (492 + 4 * k + 1), nI (B + (492 + 4 * k + 2)), s_K B V kp (492 + 4 * k + 2)) := m_pass (x := 492 + 4 * k + 1) hB (by omega) (h_as k hk')
    have p2 : mX10_pass (nI (B + (492 + 4 * k + 2))) w (s_K B V kp (492 + 4 * k + 2)) (ho k) = some (V (492 + 4 * k + 2), nI (B + (492 + 4 * k + 3)), s_K B V kp (492 + 4 * k + 3)) := m_pass (x := 492 + 4 * k + 2) hB (by omega) (h_ho k hk')
    have p3 : mX10_pass (nI (B + (492 + 4 * k + 3))) w (s_K B V kp (492 + 4 * k + 3)) (nu k) = some (V (492 + 4 * k + 3), nI (B + (492 + 4 * k + 4)), s_K B V kp (492 + 4 * k + 4)) := m_pass (x := 492 + 4 * k + 3) hB (by omega) (h_nu k hk')
    have nx : 492 + 4 * (k + 1) = 492 + 4 * k + 4 := by omega
    refine Eq.trans ?_ (ih (k + 1) (by omega) (by omega))
    unfold mX10_passAll_b283
    refine x_loop_inr ?_
    try dsimp only
    unfold mX10_passAll_s283
    rw [if_neg (show ¬ (56 : Int32) ≤ nI k from nI_ge (b := 56) hk' (by omega))]
    simp only [x_ny xk, ck, s_G_at, p0, p1, p2, p3, Option.bind_some]
    rw [nI_1, nx, s_G_up, s_G_up, s_G_up, s_G_up]
theorem m_p361 {B : Nat} {w : Int32} {V kp : Nat → Int32} {mi ne st da ke we ca gl : Int32} {y mo g wi s r wr cs fr te as ho nu gx gy gp gw : Nat → Int32} (hB : B ≤ 868) (h_gx : ∀ j, j < 4 → s_ok B w V kp (gx j) (716 + 4 * j + 0)) (h_gy : ∀ j, j < 4 → s_ok B w V kp (gy j) (716 + 4 * j + 1)) (h_gp : ∀ j, j < 4 → s_ok B w V kp (gp j) (716 + 4 * j + 2)) (h_gw : ∀ j, j < 4 → s_ok B w V kp (gw j) (716 + 4 * j + 3)) : ∀ m k, 4 - k ≤ m → k ≤ 4 → mX10_passAll_b361 mi ne st da ke we ca gl (nI (B + (716 + 4 * k))) w y mo g wi s r wr cs fr te as ho nu (s_G V gx 716 4 0 k) (s_G V gy 716 4 1 k) (s_G V gp 716 4 2 k) (s_G V gw 716 4 3 k) (s_K B V kp (716 + 4 * k)) (nI k) = some (mi, ne, st, da, ke, we, ca, gl, nI (B + 732), y, mo, g, wi, s, r, wr, cs, fr, te, as, ho, nu, (s_G V gx 716 4 0 4), (s_G V gy 716 4 1 4), (s_G V gp 716 4 2 4), (s_G V gw 716 4 3 4), s_K B V kp 732) := by
  intro m
  induction m with
  | zero =>
    intro k h1 h2
    have e : k = 4 := by omega
    subst e
    rw [show 716 + 4 * 4 = 732 from rfl]
    unfold mX10_passAll_b361
    refine x_loop_inl ?_
    try dsimp only
    unfold mX10_passAll_s361
    rw [if_pos (by decide)]
  | succ m ih =>
    intro k h1 h2
    by_cases hk : k = 4
    · exact ih k (by omega) h2
    have hk' : k < 4 := by omega
    have xk : x_in (nI k) 4 := n_xin (by omega) (by omega)
    have ck : (nI k).toNatClampNeg = k := nI_clamp (by omega)
    have p0 : mX10_pass (nI (B + (716 + 4 * k))) w (s_K B V kp (716 + 4 * k)) (gx k) = some (V (716 + 4 * k + 0), nI (B + (716 + 4 * k + 1)), s_K B V kp (716 + 4 * k + 1)) := m_pass (x := 716 + 4 * k + 0) hB (by omega) (h_gx k hk')
    have p1 : mX10_pass (nI (B + (716 + 4 * k + 1))) w (s_K B V kp (716 + 4 * k + 1)) (gy k) = some (V (716 + 4 * k + 1), nI (B + (716 + 4 * k + 2)), s_K B V kp (716 + 4 * k + 2)) := m_pass (x := 716 + 4 * k + 1) hB (by omega) (h_gy k hk')
    have p2 : mX10_pass (nI (B + (716 + 4 * k + 2))) w (s_K B V kp (716 + 4 * k + 2)) (gp k) = some (V (716 + 4 * k + 2), nI (B + (716 + 4 * k + 3)), s_K B V kp (716 + 4 * k + 3)) := m_pass (x := 716 + 4 * k + 2) hB (by omega) (h_gp k hk')
    have p3 : mX10_pass (nI (B + (716 + 4 * k + 3))) w (s_K B V kp (716 + 4 * k + 3)) (gw k) = some (V (716 + 4 * k + 3), nI (B + (716 + 4 * k + 4)), s_K B V kp (716 + 4 * k + 4)) := m_pass (x := 716 + 4 * k + 3) hB (by omega) (h_gw k hk')
    have nx : 716 + 4 * (k + 1) = 716 + 4 * k + 4 := by omega
    refine Eq.trans ?_ (ih (k + 1) (by omega) (by omega))
    unfold mX10_passAll_b361
    refine x_loop_inr ?_
    try dsimp only
    unfold mX10_passAll_s361
    rw [if_neg (show ¬ (4 : Int32) ≤ nI k from nI_ge (b := 4) hk' (by omega))]
    simp only [x_ny xk, ck, s_G_at, p0, p1, p2, p3, Option.bind_some]
    rw [nI_1, nx, s_G_up, s_G_up, s_G_up, s_G_up]
theorem m_passAll {B : Nat} {w : Int32} {V kp : Nat → Int32} {mi ne st da ke we ca gl : Int32} {y mo g wi s r wr cs fr te as ho nu gx gy gp gw : Nat → Int32} (hB : B ≤ 868) (h_mi : s_ok B w V kp mi 0) (h_ne : s_ok B w V kp ne 1) (h_st : s_ok B w V kp st 2) (h_da : s_ok B w V kp da 3) (h_ke : s_ok B w V kp ke 4) (h_we : s_ok B w V kp we 5) (h_ca : s_ok B w V kp ca 6) (h_gl : s_ok B w V kp gl 7) (h_y : ∀ j, j < 60 → s_ok B w V kp (y j) (8 + 7 * j + 0)) (h_mo : ∀ j, j < 60 → s_ok B w V kp (mo j) (8 + 7 * j + 1)) (h_g : ∀ j, j < 60 → s_ok B w V kp (g j) (8 + 7 * j + 2)) (h_wi : ∀ j, j < 60 → s_ok B w V kp (wi j) (8 + 7 * j + 3)) (h_s : ∀ j, j < 60 → s_ok B w V kp (s j) (8 + 7 * j + 4)) (h_r : ∀ j, j < 60 → s_ok B w V kp (r j) (8 + 7 * j + 5)) (h_wr : ∀ j, j < 60 → s_ok B w V kp (wr j) (8 + 7 * j + 6)) (h_cs : ∀ j, j < 4 → s_ok B w V kp (cs j) (428 + 1 * j + 0)) (h_fr : ∀ j, j < 60 → s_ok B w V kp (fr j) (432 + 1 * j + 0)) (h_te : ∀ j, j < 56 → s_ok B w V kp (te j) (492 + 4 * j + 0)) (h_as : ∀ j, j < 56 → s_ok B w V kp (as j) (492 + 4 * j + 1)) (h_ho : ∀ j, j < 56 → s_ok B w V kp (ho j) (492 + 4 * j + 2)) (h_nu : ∀ j, j < 56 → s_ok B w V kp (nu j) (492 + 4 * j + 3)) (h_gx : ∀ j, j < 4 → s_ok B w V kp (gx j) (716 + 4 * j + 0)) (h_gy : ∀ j, j < 4 → s_ok B w V kp (gy j) (716 + 4 * j + 1)) (h_gp : ∀ j, j < 4 → s_ok B w V kp (gp j) (716 + 4 * j + 2)) (h_gw : ∀ j, j < 4 → s_ok B w V kp (gw j) (716 + 4 * j + 3)) : mX10_passAll mi ne st da ke we ca gl (nI B) w y mo g wi s r wr cs fr te as ho nu gx gy gp gw kp = some (V 0, V 1, V 2, V 3, V 4, V 5, V 6, V 7, nI (B + 732), s_G V y 8 7 0 60, s_G V mo 8 7 1 60, s_G V g 8 7 2 60, s_G V wi 8 7 3 60, s_G V s 8 7 4 60, s_G V r 8 7 5 60, s_G V wr 8 7 6 60, s_G V cs 428 1 0 4, s_G V fr 432 1 0 60, s_G V te 492 4 0 56, s_G V as 492 4 1 56, s_G V ho 492 4 2 56, s_G V nu 492 4 3 56, s_G V gx 716 4 0 4, s_G V gy 716 4 1 4, s_G V gp 716 4 2 4, s_G V gw 716 4 3 4, s_K B V kp 732) := by
  have q0 : mX10_pass (nI B) w kp mi = some (V 0, nI (B + 1), s_K B V kp 1) := by
    have z := m_pass (x := 0) hB (by omega) h_mi
    rw [s_K_0] at z
    exact z
  have q1 : mX10_pass (nI (B + 1)) w (s_K B V kp 1) ne = some (V 1, nI (B + 2), s_K B V kp 2) := m_pass hB (by omega) h_ne
  have q2 : mX10_pass (nI (B + 2)) w (s_K B V kp 2) st = some (V 2, nI (B + 3), s_K B V kp 3) := m_pass hB (by omega) h_st
  have q3 : mX10_pass (nI (B + 3)) w (s_K B V kp 3) da = some (V 3, nI (B + 4), s_K B V kp 4) := m_pass hB (by omega) h_da
  have q4 : mX10_pass (nI (B + 4)) w (s_K B V kp 4) ke = some (V 4, nI (B + 5), s_K B V kp 5) := m_pass hB (by omega) h_ke
  have q5 : mX10_pass (nI (B + 5)) w (s_K B V kp 5) we = some (V 5, nI (B + 6), s_K B V kp 6) := m_pass hB (by omega) h_we
  have q6 : mX10_pass (nI (B + 6)) w (s_K B V kp 6) ca = some (V 6, nI (B + 7), s_K B V kp 7) := m_pass hB (by omega) h_ca
  have q7 : mX10_pass (nI (B + 7)) w (s_K B V kp 7) gl = some (V 7, nI (B + 8), s_K B V kp 8) := m_pass hB (by omega) h_gl
  unfold mX10_passAll
  simp only [q0, q1, q2, q3, q4, q5, q6, q7, Option.bind_some]
  have l98 := m_p98 (mi := V 0) (ne := V 1) (st := V 2) (da := V 3) (ke := V 4) (we := V 5) (ca := V 6) (gl := V 7) (cs := cs) (fr := fr) (te := te) (as := as) (ho := ho) (nu := nu) (gx := gx) (gy := gy) (gp := gp) (gw := gw) hB h_y h_mo h_g h_wi h_s h_r h_wr 60 0 (by omega) (by omega)
  simp only [s_G_0, Nat.mul_zero, Nat.add_zero] at l98
  have l224 := m_p224 (mi := V 0) (ne := V 1) (st := V 2) (da := V 3) (ke := V 4) (we := V 5) (ca := V 6) (gl := V 7) (y := (s_G V y 8 7 0 60)) (mo := (s_G V mo 8 7 1 60)) (g := (s_G V g 8 7 2 60)) (wi := (s_G V wi 8 7 3 60)) (s := (s_G V s 8 7 4 60)) (r := (s_G V r 8 7 5 60)) (wr := (s_G V wr 8 7 6 60)) (fr := fr) (te := te) (as := as) (ho := ho) (nu := nu) (gx := gx) (gy := gy) (gp := gp) (gw := gw) hB h_cs 4 0 (by omega) (by omega)
  simp only [s_G_0, Nat.mul_zero, Nat.add_zero] at l224
  have l253 := m_p253 (mi := V 0) (ne := V 1) (st := V 2) (da := V 3) (ke := V 4) (we := V 5) (ca := V 6) (gl := V 7) (y := (s_G V y 8 7 0 60)) (mo := (s_G V mo 8 7 1 60)) (g := (s_G V g 8 7 2 60)) (wi := (s_G V wi 8 7 3 60)) (s := (s_G V s 8 7 4 60)) (r := (s_G V r 8 7 5 60)) (wr := (s_G V wr 8 7 6 60)) (cs := (s_G V cs 428 1 0 4)) (te := te) (as := as) (ho := ho) (nu := nu) (gx := gx) (gy := gy) (gp := gp) (gw := gw) hB h_fr 60 0 (by omega) (by omega)
  simp only [s_G_0, Nat.mul_zero, Nat.add_zero] at l253
  have l283 := m_p283 (mi := V 0) (ne := V 1) (st := V 2) (da := V 3) (ke := V 4) (we := V 5) (ca := V 6) (gl := V 7) (y := (s_G V y 8 7 0 60)) (mo := (s_G V mo 8 7 1 60)) (g := (s_G V g 8 7 2 60)) (wi := (s_G V wi 8 7 3 60)) (s := (s_G V s 8 7 4 60)) (r := (s_G V r 8 7 5 60)) (wr := (s_G V wr 8 7 6 60)) (cs := (s_G V cs 428 1 0 4)) (fr := (s_G V fr 432 1 0 60)) (gx := gx) (gy := gy) (gp := gp) (gw := gw) hB h_te h_as h_ho h_nu 56 0 (by omega) (by omega)
  simp only [s_G_0, Nat.mul_zero, Nat.add_zero] at l283
  have l361 := m_p361 (mi := V 0) (ne := V 1) (st := V 2) (da := V 3) (ke := V 4) (we := V 5) (ca := V 6) (gl := V 7) (y := (s_G V y 8 7 0 60)) (mo := (s_G V mo 8 7 1 60)) (g := (s_G V g 8 7 2 60)) (wi := (s_G V wi 8 7 3 60)) (s := (s_G V s 8 7 4 60)) (r := (s_G V r 8 7 5 60)) (wr := (s_G V wr 8 7 6 60)) (cs := (s_G V cs 428 1 0 4)) (fr := (s_G V fr 432 1 0 60)) (te := (s_G V te 492 4 0 56)) (as := (s_G V as 492 4 1 56)) (ho := (s_G V ho 492 4 2 56)) (nu := (s_G V nu 492 4 3 56)) hB h_gx h_gy h_gp h_gw 4 0 (by omega) (by omega)
  simp only [s_G_0, Nat.mul_zero, Nat.add_zero] at l361
  refine Eq.trans (Eq.trans (Eq.trans (Eq.trans ?_ l224) l253) l283) l361
  exact l98
