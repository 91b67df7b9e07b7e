/-! laid by program out of the bytecode: for each method its function (m..) and its contract (k..) -/
noncomputable def mX9_copy (n_a0 : Nat) (a0 : Nat → Int32) (n_a1 : Nat) (a1 : Nat → Int32)  : Option ((Nat → Int32)) :=
  x_need (¬ (if (Int32.ofNat n_a1) < (Int32.ofNat n_a0) then (Int32.ofNat n_a1) else (Int32.ofNat n_a0)) < 0 ∧ Int32.toNatClampNeg 0 + Int32.toNatClampNeg ((if (Int32.ofNat n_a1) < (Int32.ofNat n_a0) then (Int32.ofNat n_a1) else (Int32.ofNat n_a0))) ≤ n_a0 ∧ Int32.toNatClampNeg 0 + Int32.toNatClampNeg ((if (Int32.ofNat n_a1) < (Int32.ofNat n_a0) then (Int32.ofNat n_a1) else (Int32.ofNat n_a0))) ≤ n_a1) (some ((va_cpy a0 a1 (Int32.toNatClampNeg 0) (Int32.toNatClampNeg 0) (Int32.toNatClampNeg ((if (Int32.ofNat n_a1) < (Int32.ofNat n_a0) then (Int32.ofNat n_a1) else (Int32.ofNat n_a0)))))))
set_option maxHeartbeats 4000000 in
set_option maxRecDepth 100000 in
theorem kX9_copy (l : Launch) (G : xG) (H0 : Heap) {q_a0 n_a0 q_a1 n_a1 : Nat} {a0 : Nat → Int32} {a1 : Nat → Int32} (w0 : va_W) (hw0 : w0 = [(q_a0, .inl (xy G 0, n_a0, .inl a0)), (q_a1, .inl (xy G 0, n_a1, .inl a1))]) (hP : va_P (xD G) vwCl w0 H0) (hD : va_D (fun _ => True) w0) {out : (Nat → Int32)} (h : mX9_copy n_a0 a0 n_a1 a1 = some out) : Met l yX9_copy wsX9_copy ({ frames := 1, cells := 0, slots := 0, locals := 40 }) (xPcw G (va_A w0 H0.size) H0 [.ref q_a0, .ref q_a1]) (xRv G (va_A w0 H0.size) [(q_a0, .inl (xy G 0, n_a0, .inl a0)), (q_a1, .inl (xy G 0, n_a1, .inl out))]) 0 0 (va_A w0 H0.size) := by
  refine x_metw (y := yX9_copy) (ws := wsX9_copy) (rm := { frames := 1, cells := 0, slots := 0, locals := 40 }) (G := G) (H0 := H0) (w0 := w0) (av := [.ref q_a0, .ref q_a1]) (mc := 0) (ms := 0) (Qc := (fun A => (xRv G A [(q_a0, .inl (xy G 0, n_a0, .inl a0)), (q_a1, .inl (xy G 0, n_a1, .inl out))]))) (by decide) rfl (Nat.le_of_ble_eq_true rfl) hP hD ?_
  clear hP hD
  intro p e s m below meth c ls A H locs hA hAt hnm hl hP hD hS
  subst hw0
  obtain ⟨hx, hb, hr, hlk, hml, hown, hts, hE⟩ := hAt
  have hown : s.vm.findClass RX9 = some m.cls := hown
  have hl : lv_has ls 2 [(0, .ref q_a0), (1, .ref q_a1)] := hl
  have ho : out = out := rfl
  unfold mX9_copy at h
  refine lv_aload_n hx hb dX9_copy_0 rfl (lv_at hl 0 rfl) ?_
  refine lv_ifnull hx hb dX9_copy_1 ?_
  refine lv_aload_n hx hb dX9_copy_4 rfl (lv_at hl 1 rfl) ?_
  refine lv_ifnull hx hb dX9_copy_5 ?_
  refine lv_aload_n hx hb dX9_copy_8 rfl (lv_at hl 0 rfl) ?_
  refine lv_iconst (v := 0) hx hb dX9_copy_9 (by decide) ?_
  refine lv_aload_n hx hb dX9_copy_10 rfl (lv_at hl 1 rfl) ?_
  refine lv_iconst (v := 0) hx hb dX9_copy_11 (by decide) ?_
  refine lv_aload_n hx hb dX9_copy_12 rfl (lv_at hl 0 rfl) ?_
  refine va_alen (D := xD G) (v := (Int32.ofNat n_a0)) hx hb hE.1 hP 0 0 rfl rfl rfl dX9_copy_13 ?_
  refine lv_aload_n hx hb dX9_copy_14 rfl (lv_at hl 1 rfl) ?_
  refine va_alen (D := xD G) (v := (Int32.ofNat n_a1)) hx hb hE.1 hP 1 0 rfl rfl rfl dX9_copy_15 ?_
  refine va_mmin hx hb (hml.trans hl.1.symm) hown (hts (.methodLink RX9 248 Lib.Math.min.name) (List.mem_of_getElem? (i := 1) rfl)) (hts (.static Lib.Math.min.name) (List.mem_of_getElem? (i := 2) rfl)) (hts (.initialized "java/lang/Math") (List.mem_of_getElem? (i := 3) rfl)) (hts (.code Lib.Math.min.name Lib.Math.min.code 2 (some .int)) (List.mem_of_getElem? (i := 4) rfl)) (Nat.le_of_ble_eq_true rfl) (Nat.le_of_ble_eq_true rfl) (Nat.le_of_ble_eq_true rfl) (Nat.le_of_ble_eq_true rfl) dX9_copy_16 ?_
  obtain ⟨⟨hg1, hg2, hg3⟩, h⟩ := x_needs h
  refine va_copyi (D := xD G) hx hb (hml.trans hl.1.symm) hown (hts (.methodLink RX9 253 arraycopyName) (List.mem_of_getElem? (i := 5) rfl)) (hts (.native arraycopyName) (List.mem_of_getElem? (i := 6) rfl)) (hts (.static arraycopyName) (List.mem_of_getElem? (i := 7) rfl)) (hts (.initialized "java/lang/System") (List.mem_of_getElem? (i := 8) rfl)) hE.1 hP hD hS 0 1 0 0 rfl rfl rfl rfl rfl (by decide) (by decide) hg1 hg2 hg3 (fun _ _ => rfl) (Nat.le_of_ble_eq_true rfl) (Nat.le_of_ble_eq_true rfl) dX9_copy_19 (fun H locs hP hD hS => ?_)
  have hP : va_P (xD G) vwCl [(q_a0, .inl (xy G 0, n_a0, .inl a0)), (q_a1, .inl (xy G 0, n_a1, .inl (va_cpy a0 a1 (Int32.toNatClampNeg 0) (Int32.toNatClampNeg 0) (Int32.toNatClampNeg ((if (Int32.ofNat n_a1) < (Int32.ofNat n_a0) then (Int32.ofNat n_a1) else (Int32.ofNat n_a0)))))))] H := hP
  have hD : va_D A [(q_a0, .inl (xy G 0, n_a0, .inl a0)), (q_a1, .inl (xy G 0, n_a1, .inl (va_cpy a0 a1 (Int32.toNatClampNeg 0) (Int32.toNatClampNeg 0) (Int32.toNatClampNeg ((if (Int32.ofNat n_a1) < (Int32.ofNat n_a0) then (Int32.ofNat n_a1) else (Int32.ofNat n_a0)))))))] := hD
  have hq : (va_cpy a0 a1 (Int32.toNatClampNeg 0) (Int32.toNatClampNeg 0) (Int32.toNatClampNeg ((if (Int32.ofNat n_a1) < (Int32.ofNat n_a0) then (Int32.ofNat n_a1) else (Int32.ofNat n_a0))))) = out := by cases h; exact ho
  subst hq
  have hP : va_P (xD G) vwCl [(q_a0, .inl (xy G 0, n_a0, .inl a0)), (q_a1, .inl (xy G 0, n_a1, .inl (va_cpy a0 a1 (Int32.toNatClampNeg 0) (Int32.toNatClampNeg 0) (Int32.toNatClampNeg ((if (Int32.ofNat n_a1) < (Int32.ofNat n_a0) then (Int32.ofNat n_a1) else (Int32.ofNat n_a0)))))))] H := hP
  have hD : va_D A [(q_a0, .inl (xy G 0, n_a0, .inl a0)), (q_a1, .inl (xy G 0, n_a1, .inl (va_cpy a0 a1 (Int32.toNatClampNeg 0) (Int32.toNatClampNeg 0) (Int32.toNatClampNeg ((if (Int32.ofNat n_a1) < (Int32.ofNat n_a0) then (Int32.ofNat n_a1) else (Int32.ofNat n_a0)))))))] := hD
  exact x_vretw hx hb hr hlk hP hD hS dX9_copy_22
noncomputable def mX9_put (n_a0 : Nat) (a0 : Nat → Int32) (p1 : Int32) (p2 : Int32) : Option ((Nat → Int32)) :=
  if p1 < 0 then (some a0) else (if (Int32.ofNat n_a0) ≤ p1 then (some a0) else (x_need (x_in p1 n_a0) (some ((upd a0 (Int32.toNatClampNeg p1) p2)))))
set_option maxHeartbeats 4000000 in
set_option maxRecDepth 100000 in
theorem kX9_put (l : Launch) (G : xG) (H0 : Heap) {q_a0 n_a0 : Nat} {a0 : Nat → Int32} {p1 : Int32} {p2 : Int32} (w0 : va_W) (hw0 : w0 = [(q_a0, .inl (xy G 0, n_a0, .inl a0))]) (hP : va_P (xD G) vwCl w0 H0) (hD : va_D (fun _ => True) w0) {out : (Nat → Int32)} (h : mX9_put n_a0 a0 p1 p2 = some out) : Met l yX9_put wsX9_put ({ frames := 0, cells := 0, slots := 0, locals := 0 }) (xPcw G (va_A w0 H0.size) H0 [.ref q_a0, .int p1, .int p2]) (xRv G (va_A w0 H0.size) [(q_a0, .inl (xy G 0, n_a0, .inl out))]) 0 0 (va_A w0 H0.size) := by
  refine x_metw (y := yX9_put) (ws := wsX9_put) (rm := { frames := 0, cells := 0, slots := 0, locals := 0 }) (G := G) (H0 := H0) (w0 := w0) (av := [.ref q_a0, .int p1, .int p2]) (mc := 0) (ms := 0) (Qc := (fun A => (xRv G A [(q_a0, .inl (xy G 0, n_a0, .inl out))]))) (by decide) rfl (Nat.le_of_ble_eq_true rfl) hP hD ?_
  clear hP hD
  intro p e s m below meth c ls A H locs hA hAt hnm hl hP hD hS
  subst hw0
  obtain ⟨hx, hb, hr, hlk, hml, hown, hts, hE⟩ := hAt
  have hown : s.vm.findClass RX9 = some m.cls := hown
  have hl : lv_has ls 3 [(0, .ref q_a0), (1, .int p1), (2, .int p2)] := hl
  have ho : out = out := rfl
  unfold mX9_put at h
  refine lv_aload_n hx hb dX9_put_0 rfl (lv_at hl 0 rfl) ?_
  refine lv_ifnull hx hb dX9_put_1 ?_
  refine lv_iload_n hx hb dX9_put_4 rfl (lv_at hl 1 rfl) ?_
  refine lv_if_lt (tgt := 18) hx hb dX9_put_5 (by decide) (fun hc501 => ?_) (fun hc501 => ?_)
  · replace h := (if_pos hc501).symm.trans h
    have hq : a0 = out := by cases h; exact ho
    subst hq
    have hP : va_P (xD G) vwCl [(q_a0, .inl (xy G 0, n_a0, .inl a0))] H := hP
    have hD : va_D A [(q_a0, .inl (xy G 0, n_a0, .inl a0))] := hD
    exact x_vretw hx hb hr hlk hP hD hS dX9_put_18
  · replace h := (if_neg hc501).symm.trans h
    refine lv_iload_n hx hb dX9_put_8 rfl (lv_at hl 1 rfl) ?_
    refine lv_aload_n hx hb dX9_put_9 rfl (lv_at hl 0 rfl) ?_
    refine va_alen (D := xD G) (v := (Int32.ofNat n_a0)) hx hb hE.1 hP 0 0 rfl rfl rfl dX9_put_10 ?_
    refine lv_icmp_ge (tgt := 18) hx hb dX9_put_11 (by decide) (fun hc502 => ?_) (fun hc502 => ?_)
    · replace h := (if_pos hc502).symm.trans h
      have hq : a0 = out := by cases h; exact ho
      subst hq
      have hP : va_P (xD G) vwCl [(q_a0, .inl (xy G 0, n_a0, .inl a0))] H := hP
      have hD : va_D A [(q_a0, .inl (xy G 0, n_a0, .inl a0))] := hD
      exact x_vretw hx hb hr hlk hP hD hS dX9_put_18
    · replace h := (if_neg hc502).symm.trans h
      refine lv_aload_n hx hb dX9_put_14 rfl (lv_at hl 0 rfl) ?_
      refine lv_iload_n hx hb dX9_put_15 rfl (lv_at hl 1 rfl) ?_
      refine lv_iload_n hx hb dX9_put_16 rfl (lv_at hl 2 rfl) ?_
      obtain ⟨hi503, h⟩ := x_needs h
      refine va_iast (D := xD G) hx hb hE.1 hP hD hS 0 0 rfl rfl hi503 dX9_put_17 (fun H locs hP hD hS => ?_)
      have hP : va_P (xD G) vwCl [(q_a0, .inl (xy G 0, n_a0, .inl (upd a0 (Int32.toNatClampNeg p1) p2)))] H := hP
      have hD : va_D A [(q_a0, .inl (xy G 0, n_a0, .inl (upd a0 (Int32.toNatClampNeg p1) p2)))] := hD
      have hq : (upd a0 (Int32.toNatClampNeg p1) p2) = out := by cases h; exact ho
      subst hq
      have hP : va_P (xD G) vwCl [(q_a0, .inl (xy G 0, n_a0, .inl (upd a0 (Int32.toNatClampNeg p1) p2)))] H := hP
      have hD : va_D A [(q_a0, .inl (xy G 0, n_a0, .inl (upd a0 (Int32.toNatClampNeg p1) p2)))] := hD
      exact x_vretw hx hb hr hlk hP hD hS dX9_put_18
noncomputable def mX9_at (n_a0 : Nat) (a0 : Nat → Int32) (p1 : Int32) : Option (Int32) :=
  if p1 < 0 then (some ((-6))) else (if (Int32.ofNat n_a0) ≤ p1 then (some ((-6))) else (x_need (x_in p1 n_a0) (some ((a0 (Int32.toNatClampNeg p1))))))
set_option maxHeartbeats 4000000 in
set_option maxRecDepth 100000 in
theorem kX9_at (l : Launch) (G : xG) (H0 : Heap) {q_a0 n_a0 : Nat} {a0 : Nat → Int32} {p1 : Int32} (hP : va_P (xD G) vwCl [(q_a0, .inl (xy G 0, n_a0, .inl a0))] H0) {out : Int32} (h : mX9_at n_a0 a0 p1 = some out) : Met l yX9_at wsX9_at ({ frames := 0, cells := 0, slots := 0, locals := 0 }) (xPc G H0 [.ref q_a0, .int p1]) (xQi H0 (out)) 0 0 xN := by
  refine x_met (by decide) rfl (Nat.le_of_ble_eq_true rfl) ?_
  intro p e s m below meth c ls hH hA hl
  obtain ⟨hx, hb, hr, hlk, hml, hown, hts, hE⟩ := hA
  subst hH
  have hown : s.vm.findClass RX9 = some m.cls := hown
  have hl : lv_has ls 2 [(0, .ref q_a0), (1, .int p1)] := hl
  have hS : va_S xN s.heap s.heap [] := va_S.rf
  have ho : out = out := rfl
  unfold mX9_at at h
  refine lv_aload_n hx hb dX9_at_0 rfl (lv_at hl 0 rfl) ?_
  refine lv_ifnull hx hb dX9_at_1 ?_
  refine lv_iload_n hx hb dX9_at_4 rfl (lv_at hl 1 rfl) ?_
  refine lv_if_lt (tgt := 20) hx hb dX9_at_5 (by decide) (fun hc501 => ?_) (fun hc501 => ?_)
  · replace h := (if_pos hc501).symm.trans h
    refine lv_bipush (v := (-6)) hx hb dX9_at_20 (by decide) ?_
    have hq : (-6) = out := by cases h; exact ho
    subst hq
    exact x_iret hx hb hr hlk rfl rfl dX9_at_22
  · replace h := (if_neg hc501).symm.trans h
    refine lv_iload_n hx hb dX9_at_8 rfl (lv_at hl 1 rfl) ?_
    refine lv_aload_n hx hb dX9_at_9 rfl (lv_at hl 0 rfl) ?_
    refine va_alen (D := xD G) (v := (Int32.ofNat n_a0)) hx hb hE.1 hP 0 0 rfl rfl rfl dX9_at_10 ?_
    refine lv_icmp_ge (tgt := 20) hx hb dX9_at_11 (by decide) (fun hc502 => ?_) (fun hc502 => ?_)
    · replace h := (if_pos hc502).symm.trans h
      refine lv_bipush (v := (-6)) hx hb dX9_at_20 (by decide) ?_
      have hq : (-6) = out := by cases h; exact ho
      subst hq
      exact x_iret hx hb hr hlk rfl rfl dX9_at_22
    · replace h := (if_neg hc502).symm.trans h
      refine lv_aload_n hx hb dX9_at_14 rfl (lv_at hl 0 rfl) ?_
      refine lv_iload_n hx hb dX9_at_15 rfl (lv_at hl 1 rfl) ?_
      obtain ⟨hi503, h⟩ := x_needs h
      refine va_iald (D := xD G) hx hb hE.1 hP 0 0 rfl rfl hi503 dX9_at_16 ?_
      refine lv_goto (tgt := 22) hx hb dX9_at_17 (by decide) ?_
      have hq : (a0 (Int32.toNatClampNeg p1)) = out := by cases h; exact ho
      subst hq
      exact x_iret hx hb hr hlk rfl rfl dX9_at_22
noncomputable def mX9_atT0  (p1 : Int32) : Option (Int32) :=
  if p1 < 0 then (some ((-6))) else (if 6 ≤ p1 then (some ((-6))) else (x_need (x_in p1 6) (some ((xKL (Int32.toNatClampNeg p1))))))
set_option maxHeartbeats 4000000 in
set_option maxRecDepth 100000 in
theorem kX9_atT0 (l : Launch) (G : xG) (H0 : Heap) {p1 : Int32} {out : Int32} (h : mX9_atT0 p1 = some out) : Met l yX9_at wsX9_at ({ frames := 0, cells := 0, slots := 0, locals := 0 }) (xPc G H0 [.ref (xa G 0), .int p1]) (xQi H0 (out)) 0 0 xN := by
  refine x_met (by decide) rfl (Nat.le_of_ble_eq_true rfl) ?_
  intro p e s m below meth c ls hH hA hl
  obtain ⟨hx, hb, hr, hlk, hml, hown, hts, hE⟩ := hA
  subst hH
  have hown : s.vm.findClass RX9 = some m.cls := hown
  have hl : lv_has ls 2 [(0, .ref (xa G 0)), (1, .int p1)] := hl
  have hS : va_S xN s.heap s.heap [] := va_S.rf
  have ho : out = out := rfl
  unfold mX9_atT0 at h
  refine lv_aload_n hx hb dX9_at_0 rfl (lv_at hl 0 rfl) ?_
  refine lv_ifnull hx hb dX9_at_1 ?_
  refine lv_iload_n hx hb dX9_at_4 rfl (lv_at hl 1 rfl) ?_
  refine lv_if_lt (tgt := 20) hx hb dX9_at_5 (by decide) (fun hc501 => ?_) (fun hc501 => ?_)
  · replace h := (if_pos hc501).symm.trans h
    refine lv_bipush (v := (-6)) hx hb dX9_at_20 (by decide) ?_
    have hq : (-6) = out := by cases h; exact ho
    subst hq
    exact x_iret hx hb hr hlk rfl rfl dX9_at_22
  · replace h := (if_neg hc501).symm.trans h
    refine lv_iload_n hx hb dX9_at_8 rfl (lv_at hl 1 rfl) ?_
    refine lv_aload_n hx hb dX9_at_9 rfl (lv_at hl 0 rfl) ?_
    refine va_tlen hx hb hE.t0.2 hS (v := 6) rfl dX9_at_10 ?_
    refine lv_icmp_ge (tgt := 20) hx hb dX9_at_11 (by decide) (fun hc502 => ?_) (fun hc502 => ?_)
    · replace h := (if_pos hc502).symm.trans h
      refine lv_bipush (v := (-6)) hx hb dX9_at_20 (by decide) ?_
      have hq : (-6) = out := by cases h; exact ho
      subst hq
      exact x_iret hx hb hr hlk rfl rfl dX9_at_22
    · replace h := (if_neg hc502).symm.trans h
      refine lv_aload_n hx hb dX9_at_14 rfl (lv_at hl 0 rfl) ?_
      refine lv_iload_n hx hb dX9_at_15 rfl (lv_at hl 1 rfl) ?_
      obtain ⟨hi503, h⟩ := x_needs h
      refine va_ti hx hb hE.t0.2 hS hi503 (v := .int (xKL (Int32.toNatClampNeg p1))) rfl dX9_at_16 ?_
      refine lv_goto (tgt := 22) hx hb dX9_at_17 (by decide) ?_
      have hq : (xKL (Int32.toNatClampNeg p1)) = out := by cases h; exact ho
      subst hq
      exact x_iret hx hb hr hlk rfl rfl dX9_at_22
noncomputable def mX9_atT1  (p1 : Int32) : Option (Int32) :=
  if p1 < 0 then (some ((-6))) else (if 9 ≤ p1 then (some ((-6))) else (x_need (x_in p1 9) (some ((xEI (Int32.toNatClampNeg p1))))))
set_option maxHeartbeats 4000000 in
set_option maxRecDepth 100000 in
theorem kX9_atT1 (l : Launch) (G : xG) (H0 : Heap) {p1 : Int32} {out : Int32} (h : mX9_atT1 p1 = some out) : Met l yX9_at wsX9_at ({ frames := 0, cells := 0, slots := 0, locals := 0 }) (xPc G H0 [.ref (xa G 1), .int p1]) (xQi H0 (out)) 0 0 xN := by
  refine x_met (by decide) rfl (Nat.le_of_ble_eq_true rfl) ?_
  intro p e s m below meth c ls hH hA hl
  obtain ⟨hx, hb, hr, hlk, hml, hown, hts, hE⟩ := hA
  subst hH
  have hown : s.vm.findClass RX9 = some m.cls := hown
  have hl : lv_has ls 2 [(0, .ref (xa G 1)), (1, .int p1)] := hl
  have hS : va_S xN s.heap s.heap [] := va_S.rf
  have ho : out = out := rfl
  unfold mX9_atT1 at h
  refine lv_aload_n hx hb dX9_at_0 rfl (lv_at hl 0 rfl) ?_
  refine lv_ifnull hx hb dX9_at_1 ?_
  refine lv_iload_n hx hb dX9_at_4 rfl (lv_at hl 1 rfl) ?_
  refine lv_if_lt (tgt := 20) hx hb dX9_at_5 (by decide) (fun hc501 => ?_) (fun hc501 => ?_)
  · replace h := (if_pos hc501).symm.trans h
    refine lv_bipush (v := (-6)) hx hb dX9_at_20 (by decide) ?_
    have hq : (-6) = out := by cases h; exact ho
    subst hq
    exact x_iret hx hb hr hlk rfl rfl dX9_at_22
  · replace h := (if_neg hc501).symm.trans h
    refine lv_iload_n hx hb dX9_at_8 rfl (lv_at hl 1 rfl) ?_
    refine lv_aload_n hx hb dX9_at_9 rfl (lv_at hl 0 rfl) ?_
    refine va_tlen hx hb hE.t1.2 hS (v := 9) rfl dX9_at_10 ?_
    refine lv_icmp_ge (tgt := 20) hx hb dX9_at_11 (by decide) (fun hc502 => ?_) (fun hc502 => ?_)
    · replace h := (if_pos hc502).symm.trans h
      refine lv_bipush (v := (-6)) hx hb dX9_at_20 (by decide) ?_
      have hq : (-6) = out := by cases h; exact ho
      subst hq
      exact x_iret hx hb hr hlk rfl rfl dX9_at_22
    · replace h := (if_neg hc502).symm.trans h
      refine lv_aload_n hx hb dX9_at_14 rfl (lv_at hl 0 rfl) ?_
      refine lv_iload_n hx hb dX9_at_15 rfl (lv_at hl 1 rfl) ?_
      obtain ⟨hi503, h⟩ := x_needs h
      refine va_ti hx hb hE.t1.2 hS hi503 (v := .int (xEI (Int32.toNatClampNeg p1))) rfl dX9_at_16 ?_
      refine lv_goto (tgt := 22) hx hb dX9_at_17 (by decide) ?_
      have hq : (xEI (Int32.toNatClampNeg p1)) = out := by cases h; exact ho
      subst hq
      exact x_iret hx hb hr hlk rfl rfl dX9_at_22
noncomputable def mX9_atT2  (p1 : Int32) : Option (Int32) :=
  if p1 < 0 then (some ((-6))) else (if 10 ≤ p1 then (some ((-6))) else (x_need (x_in p1 10) (some ((xTE (Int32.toNatClampNeg p1))))))
set_option maxHeartbeats 4000000 in
set_option maxRecDepth 100000 in
theorem kX9_atT2 (l : Launch) (G : xG) (H0 : Heap) {p1 : Int32} {out : Int32} (h : mX9_atT2 p1 = some out) : Met l yX9_at wsX9_at ({ frames := 0, cells := 0, slots := 0, locals := 0 }) (xPc G H0 [.ref (xa G 2), .int p1]) (xQi H0 (out)) 0 0 xN := by
  refine x_met (by decide) rfl (Nat.le_of_ble_eq_true rfl) ?_
  intro p e s m below meth c ls hH hA hl
  obtain ⟨hx, hb, hr, hlk, hml, hown, hts, hE⟩ := hA
  subst hH
  have hown : s.vm.findClass RX9 = some m.cls := hown
  have hl : lv_has ls 2 [(0, .ref (xa G 2)), (1, .int p1)] := hl
  have hS : va_S xN s.heap s.heap [] := va_S.rf
  have ho : out = out := rfl
  unfold mX9_atT2 at h
  refine lv_aload_n hx hb dX9_at_0 rfl (lv_at hl 0 rfl) ?_
  refine lv_ifnull hx hb dX9_at_1 ?_
  refine lv_iload_n hx hb dX9_at_4 rfl (lv_at hl 1 rfl) ?_
  refine lv_if_lt (tgt := 20) hx hb dX9_at_5 (by decide) (fun hc501 => ?_) (fun hc501 => ?_)
  · replace h := (if_pos hc501).symm.trans h
    refine lv_bipush (v := (-6)) hx hb dX9_at_20 (by decide) ?_
    have hq : (-6) = out := by cases h; exact ho
    subst hq
    exact x_iret hx hb hr hlk rfl rfl dX9_at_22
  · replace h := (if_neg hc501).symm.trans h
    refine lv_iload_n hx hb dX9_at_8 rfl (lv_at hl 1 rfl) ?_
    refine lv_aload_n hx hb dX9_at_9 rfl (lv_at hl 0 rfl) ?_
    refine va_tlen hx hb hE.t2.2 hS (v := 10) rfl dX9_at_10 ?_
    refine lv_icmp_ge (tgt := 20) hx hb dX9_at_11 (by decide) (fun hc502 => ?_) (fun hc502 => ?_)
    · replace h := (if_pos hc502).symm.trans h
      refine lv_bipush (v := (-6)) hx hb dX9_at_20 (by decide) ?_
      have hq : (-6) = out := by cases h; exact ho
      subst hq
      exact x_iret hx hb hr hlk rfl rfl dX9_at_22
    · replace h := (if_neg hc502).symm.trans h
      refine lv_aload_n hx hb dX9_at_14 rfl (lv_at hl 0 rfl) ?_
      refine lv_iload_n hx hb dX9_at_15 rfl (lv_at hl 1 rfl) ?_
      obtain ⟨hi503, h⟩ := x_needs h
      refine va_ti hx hb hE.t2.2 hS hi503 (v := .int (xTE (Int32.toNatClampNeg p1))) rfl dX9_at_16 ?_
      refine lv_goto (tgt := 22) hx hb dX9_at_17 (by decide) ?_
      have hq : (xTE (Int32.toNatClampNeg p1)) = out := by cases h; exact ho
      subst hq
      exact x_iret hx hb hr hlk rfl rfl dX9_at_22
noncomputable def mX9_thousandths  (p0 : Int32) (p1 : Int32) : Option (Int32) :=
  if p1 ≤ 0 then (some ((-6))) else (x_need (¬ p1 = 0) (some (((1000 * p0) / p1))))
set_option maxHeartbeats 4000000 in
set_option maxRecDepth 100000 in
theorem kX9_thousandths (l : Launch) (G : xG) (H0 : Heap) {p0 : Int32} {p1 : Int32} {out : Int32} (h : mX9_thousandths p0 p1 = some out) : Met l yX9_thousandths wsX9_thousandths ({ frames := 0, cells := 0, slots := 0, locals := 0 }) (xPc G H0 [.int p0, .int p1]) (xQi H0 (out)) 0 0 xN := by
  refine x_met (by decide) rfl (Nat.le_of_ble_eq_true rfl) ?_
  intro p e s m below meth c ls hH hA hl
  obtain ⟨hx, hb, hr, hlk, hml, hown, hts, hE⟩ := hA
  subst hH
  have hown : s.vm.findClass RX9 = some m.cls := hown
  have hl : lv_has ls 2 [(0, .int p0), (1, .int p1)] := hl
  have hS : va_S xN s.heap s.heap [] := va_S.rf
  have ho : out = out := rfl
  unfold mX9_thousandths at h
  refine lv_iload_n hx hb dX9_thousandths_0 rfl (lv_at hl 1 rfl) ?_
  refine lv_if_le (tgt := 14) hx hb dX9_thousandths_1 (by decide) (fun hc501 => ?_) (fun hc501 => ?_)
  · replace h := (if_pos hc501).symm.trans h
    refine lv_bipush (v := (-6)) hx hb dX9_thousandths_14 (by decide) ?_
    have hq : (-6) = out := by cases h; exact ho
    subst hq
    exact x_iret hx hb hr hlk rfl rfl dX9_thousandths_16
  · replace h := (if_neg hc501).symm.trans h
    refine lv_sipush (v := 1000) hx hb dX9_thousandths_4 (by decide) ?_
    refine lv_iload_n hx hb dX9_thousandths_7 rfl (lv_at hl 0 rfl) ?_
    refine lv_imul hx hb dX9_thousandths_8 ?_
    refine lv_iload_n hx hb dX9_thousandths_9 rfl (lv_at hl 1 rfl) ?_
    obtain ⟨hz502, h⟩ := x_needs h
    refine lv_idiv hx hb dX9_thousandths_10 hz502 ?_
    refine lv_goto (tgt := 16) hx hb dX9_thousandths_11 (by decide) ?_
    have hq : ((1000 * p0) / p1) = out := by cases h; exact ho
    subst hq
    exact x_iret hx hb hr hlk rfl rfl dX9_thousandths_16
noncomputable def mX9_within  (p0 : Int32) (p1 : Int32) (p2 : Int32) : Option (Bool) :=
  if p0 < p1 then (some false) else (if p2 < p0 then (some false) else (some true))
set_option maxHeartbeats 4000000 in
set_option maxRecDepth 100000 in
theorem kX9_within (l : Launch) (G : xG) (H0 : Heap) {p0 : Int32} {p1 : Int32} {p2 : Int32} {out : Bool} (h : mX9_within p0 p1 p2 = some out) : Met l yX9_within wsX9_within ({ frames := 0, cells := 0, slots := 0, locals := 0 }) (xPc G H0 [.int p0, .int p1, .int p2]) (xQi H0 (xb out)) 0 0 xN := by
  refine x_met (by decide) rfl (Nat.le_of_ble_eq_true rfl) ?_
  intro p e s m below meth c ls hH hA hl
  obtain ⟨hx, hb, hr, hlk, hml, hown, hts, hE⟩ := hA
  subst hH
  have hown : s.vm.findClass RX9 = some m.cls := hown
  have hl : lv_has ls 3 [(0, .int p0), (1, .int p1), (2, .int p2)] := hl
  have hS : va_S xN s.heap s.heap [] := va_S.rf
  have ho : out = out := rfl
  unfold mX9_within at h
  refine lv_iload_n hx hb dX9_within_0 rfl (lv_at hl 0 rfl) ?_
  refine lv_iload_n hx hb dX9_within_1 rfl (lv_at hl 1 rfl) ?_
  refine lv_icmp_lt (tgt := 14) hx hb dX9_within_2 (by decide) (fun hc501 => ?_) (fun hc501 => ?_)
  · replace h := (if_pos hc501).symm.trans h
    refine lv_iconst (v := 0) hx hb dX9_within_14 (by decide) ?_
    have hq : false = out := by cases h; exact ho
    subst hq
    exact x_zret (b := false) hx hb hr hlk rfl rfl rfl dX9_within_15
  · replace h := (if_neg hc501).symm.trans h
    refine lv_iload_n hx hb dX9_within_5 rfl (lv_at hl 0 rfl) ?_
    refine lv_iload_n hx hb dX9_within_6 rfl (lv_at hl 2 rfl) ?_
    refine lv_icmp_gt (tgt := 14) hx hb dX9_within_7 (by decide) (fun hc502 => ?_) (fun hc502 => ?_)
    · replace h := (if_pos hc502).symm.trans h
      refine lv_iconst (v := 0) hx hb dX9_within_14 (by decide) ?_
      have hq : false = out := by cases h; exact ho
      subst hq
      exact x_zret (b := false) hx hb hr hlk rfl rfl rfl dX9_within_15
    · replace h := (if_neg hc502).symm.trans h
      refine lv_iconst (v := 1) hx hb dX9_within_10 (by decide) ?_
      refine lv_goto (tgt := 15) hx hb dX9_within_11 (by decide) ?_
      have hq : true = out := by cases h; exact ho
      subst hq
      exact x_zret (b := true) hx hb hr hlk rfl rfl rfl dX9_within_15
noncomputable def mX9_choose_s16  (v0 : Int32) (v1 : Int32) (v2 : Int64) (v4 : Int32) : Option (((Int64) ⊕ (Int64 × Int32))) :=
  if v1 < v4 then (some (.inl v2)) else (x_need (¬ (Int32.toInt64 v4) = 0) (some (.inr (((v2 * (Int32.toInt64 (((v0 - v1) + v4)))) / (Int32.toInt64 v4)), (v4 + 1)))))
noncomputable def mX9_choose_b16  (v0 : Int32) (v1 : Int32) (v2 : Int64) (v4 : Int32) : Option (Int64) :=
  x_loop (fun q : Int64 × Int32 => mX9_choose_s16  v0 v1 (q.1) (q.2)) (v2, v4)
noncomputable def mX9_choose  (p0 : Int32) (p1 : Int32) : Option (Int64) :=
  if p1 < 0 then (some 0) else (if p1 ≤ p0 then (mX9_choose_b16 p0 p1 1 1) else (some 0))
set_option maxHeartbeats 4000000 in
set_option maxRecDepth 100000 in
theorem kX9_choose (l : Launch) (G : xG) (H0 : Heap) {p0 : Int32} {p1 : Int32} {out : Int64} (h : mX9_choose p0 p1 = some out) : Met l yX9_choose wsX9_choose ({ frames := 0, cells := 0, slots := 0, locals := 0 }) (xPc G H0 [.int p0, .int p1]) (xQl H0 (out)) 0 0 xN := by
  refine x_met (by decide) rfl (Nat.le_of_ble_eq_true rfl) ?_
  intro p e s m below meth c ls hH hA hl
  obtain ⟨hx, hb, hr, hlk, hml, hown, hts, hE⟩ := hA
  subst hH
  have hown : s.vm.findClass RX9 = some m.cls := hown
  have hl : lv_has ls 5 [(0, .int p0), (1, .int p1)] := hl
  have hS : va_S xN s.heap s.heap [] := va_S.rf
  have ho : out = out := rfl
  have J16 : ∀ (v0 : Int32) (v1 : Int32) (v2 : Int64) (v4 : Int32) (ls : Array Slot), lv_has ls 5 [(0, .int v0), (1, .int v1), (2, .long v2), (4, .int v4)] → ∀ o : Int64, mX9_choose_b16  v0 v1 v2 v4 = some o → (fun z => z = out) o → xW p l e ({ frames := 0, cells := 0, slots := 0, locals := 0 }) s m [.int p0, .int p1] below meth c (xQl s.heap (out)) (F0 m 16 ls []) := by
    intro v0 v1 v2 v4 ls hl o h ho
    unfold mX9_choose_b16 at h
    refine x_loop_walk (K := (fun z => z = out)) (motive := fun q : Int64 × Int32 => ∀ ls : Array Slot, lv_has ls 5 [(0, .int (v0)), (1, .int (v1)), (2, .long (q.1)), (4, .int (q.2))] → xW p l e ({ frames := 0, cells := 0, slots := 0, locals := 0 }) s m [.int p0, .int p1] below meth c (xQl s.heap (out)) (F0 m 16 ls [])) ?_ h ho ls hl
    intro K1 e1 i1 q o h ho
    obtain ⟨v2, v4⟩ := q
    intro ls hl
    have hl : lv_has ls 5 [(0, .int v0), (1, .int v1), (2, .long v2), (4, .int v4)] := hl
    replace h : mX9_choose_s16  v0 v1 v2 v4 = some o := h
    unfold mX9_choose_s16 at h
    refine lv_iload hx hb dX9_choose_16 (lv_at hl 3 rfl) ?_
    refine lv_iload_n hx hb dX9_choose_18 rfl (lv_at hl 1 rfl) ?_
    refine lv_icmp_gt (tgt := 42) hx hb dX9_choose_19 (by decide) (fun hc101 => ?_) (fun hc101 => ?_)
    · replace h := (if_pos hc101).symm.trans h
      refine lv_lload_n hx hb dX9_choose_42 rfl (lv_at hl 2 rfl) ?_
      have hq : v2 = out := by cases h; exact (e1 _ ho)
      subst hq
      exact x_lret hx hb hr hlk rfl rfl dX9_choose_43
    · replace h := (if_neg hc101).symm.trans h
      refine lv_lload_n hx hb dX9_choose_22 rfl (lv_at hl 2 rfl) ?_
      refine lv_iload_n hx hb dX9_choose_23 rfl (lv_at hl 0 rfl) ?_
      refine lv_iload_n hx hb dX9_choose_24 rfl (lv_at hl 1 rfl) ?_
      refine lv_isub hx hb dX9_choose_25 ?_
      refine lv_iload hx hb dX9_choose_26 (lv_at hl 3 rfl) ?_
      refine lv_iadd hx hb dX9_choose_28 ?_
      refine lv_i2l (v := (Int32.toInt64 (((v0 - v1) + v4)))) hx hb dX9_choose_29 rfl ?_
      refine lv_lmul hx hb dX9_choose_30 ?_
      refine lv_iload hx hb dX9_choose_31 (lv_at hl 3 rfl) ?_
      refine lv_i2l (v := (Int32.toInt64 v4)) hx hb dX9_choose_33 rfl ?_
      obtain ⟨hz102, h⟩ := x_needs h
      refine lv_ldiv hx hb dX9_choose_34 hz102 ?_
      refine lv_lstore_n (lv' := [(2, .long ((v2 * (Int32.toInt64 (((v0 - v1) + v4)))) / (Int32.toInt64 v4))), (0, .int v0), (1, .int v1), (4, .int v4)]) hx hb dX9_choose_35 rfl hl (by decide) rfl (fun ls hl => ?_)
      refine lv_iinc (v := (v4 + 1)) (lv' := [(4, .int (v4 + 1)), (2, .long ((v2 * (Int32.toInt64 (((v0 - v1) + v4)))) / (Int32.toInt64 v4))), (0, .int v0), (1, .int v1)]) hx hb dX9_choose_36 hl (k := 3) rfl rfl (by decide) rfl (fun ls hl => ?_)
      refine lv_goto (tgt := 16) hx hb dX9_choose_39 (by decide) ?_
      exact i1 (((v2 * (Int32.toInt64 (((v0 - v1) + v4)))) / (Int32.toInt64 v4)), (v4 + 1)) (by cases h; exact ho) ls (lv_sub hl [2, 3, 1, 0] rfl)
  unfold mX9_choose at h
  refine lv_iload_n hx hb dX9_choose_0 rfl (lv_at hl 1 rfl) ?_
  refine lv_if_lt (tgt := 9) hx hb dX9_choose_1 (by decide) (fun hc501 => ?_) (fun hc501 => ?_)
  · replace h := (if_pos hc501).symm.trans h
    refine lv_lconst (v := 0) hx hb dX9_choose_9 (by decide) ?_
    have hq : 0 = out := by cases h; exact ho
    subst hq
    exact x_lret hx hb hr hlk rfl rfl dX9_choose_10
  · replace h := (if_neg hc501).symm.trans h
    refine lv_iload_n hx hb dX9_choose_4 rfl (lv_at hl 1 rfl) ?_
    refine lv_iload_n hx hb dX9_choose_5 rfl (lv_at hl 0 rfl) ?_
    refine lv_icmp_le (tgt := 11) hx hb dX9_choose_6 (by decide) (fun hc502 => ?_) (fun hc502 => ?_)
    · replace h := (if_pos hc502).symm.trans h
      refine lv_lconst (v := 1) hx hb dX9_choose_11 (by decide) ?_
      refine lv_lstore_n (lv' := [(2, .long 1), (0, .int p0), (1, .int p1)]) hx hb dX9_choose_12 rfl hl (by decide) rfl (fun ls hl => ?_)
      refine lv_iconst (v := 1) hx hb dX9_choose_13 (by decide) ?_
      refine lv_istore (lv' := [(4, .int 1), (2, .long 1), (0, .int p0), (1, .int p1)]) hx hb dX9_choose_14 hl (by decide) rfl (fun ls hl => ?_)
      exact J16 p0 p1 1 1 ls (lv_sub hl [2, 3, 1, 0] rfl) _ h ho
    · replace h := (if_neg hc502).symm.trans h
      refine lv_lconst (v := 0) hx hb dX9_choose_9 (by decide) ?_
      have hq : 0 = out := by cases h; exact ho
      subst hq
      exact x_lret hx hb hr hlk rfl rfl dX9_choose_10
noncomputable def mX9_isDigit  (p0 : Int32) : Option (Bool) :=
  (mX9_within p0 48 57).bind (fun r501 => some r501)
set_option maxHeartbeats 4000000 in
set_option maxRecDepth 100000 in
theorem kX9_isDigit (l : Launch) (G : xG) (H0 : Heap) {p0 : Int32} {out : Bool} (h : mX9_isDigit p0 = some out) : Met l yX9_isDigit wsX9_isDigit ({ frames := 1, cells := 0, slots := 0, locals := 22 }) (xPc G H0 [.int p0]) (xQi H0 (xb out)) 0 0 xN := by
  refine x_met (by decide) rfl (Nat.le_of_ble_eq_true rfl) ?_
  intro p e s m below meth c ls hH hA hl
  obtain ⟨hx, hb, hr, hlk, hml, hown, hts, hE⟩ := hA
  subst hH
  have hown : s.vm.findClass RX9 = some m.cls := hown
  have hl : lv_has ls 1 [(0, .int p0)] := hl
  have hS : va_S xN s.heap s.heap [] := va_S.rf
  have ho : out = out := rfl
  unfold mX9_isDigit at h
  refine lv_iload_n hx hb dX9_isDigit_0 rfl (lv_at hl 0 rfl) ?_
  refine lv_bipush (v := 48) hx hb dX9_isDigit_1 (by decide) ?_
  refine lv_bipush (v := 57) hx hb dX9_isDigit_3 (by decide) ?_
  obtain ⟨r501, hr501, h⟩ := x_bind h
  refine x_calli (va_runS (As := [.int p0, .int 48, .int 57]) (rest := []) ⟨hx, hb, hml, hown, hts⟩ (kX9_within l G s.heap hr501) (va_cwS 3 hts gX9_isDigit_X9_within rfl rfl rfl (by decide +kernel) ⟨Nat.le_of_ble_eq_true rfl, Nat.le_of_ble_eq_true rfl⟩) (x_preS hE hS) rfl rfl hl.1 rfl (lv_room (Nat.le_of_ble_eq_true rfl)) dX9_isDigit_5 ⟨Nat.le_of_ble_eq_true rfl, Nat.le_of_ble_eq_true rfl⟩) ?_
  have hq : r501 = out := by cases h; exact ho
  subst hq
  exact x_zret (b := r501) hx hb hr hlk rfl rfl rfl dX9_isDigit_8
noncomputable def mX9_isTeller  (p0 : Int32) : Option (Bool) :=
  (mX9_within p0 0 8).bind (fun r501 => some r501)
set_option maxHeartbeats 4000000 in
set_option maxRecDepth 100000 in
theorem kX9_isTeller (l : Launch) (G : xG) (H0 : Heap) {p0 : Int32} {out : Bool} (h : mX9_isTeller p0 = some out) : Met l yX9_isTeller wsX9_isTeller ({ frames := 1, cells := 0, slots := 0, locals := 22 }) (xPc G H0 [.int p0]) (xQi H0 (xb out)) 0 0 xN := by
  refine x_met (by decide) rfl (Nat.le_of_ble_eq_true rfl) ?_
  intro p e s m below meth c ls hH hA hl
  obtain ⟨hx, hb, hr, hlk, hml, hown, hts, hE⟩ := hA
  subst hH
  have hown : s.vm.findClass RX9 = some m.cls := hown
  have hl : lv_has ls 1 [(0, .int p0)] := hl
  have hS : va_S xN s.heap s.heap [] := va_S.rf
  have ho : out = out := rfl
  unfold mX9_isTeller at h
  refine lv_iload_n hx hb dX9_isTeller_0 rfl (lv_at hl 0 rfl) ?_
  refine lv_iconst (v := 0) hx hb dX9_isTeller_1 (by decide) ?_
  refine lv_bipush (v := 8) hx hb dX9_isTeller_2 (by decide) ?_
  obtain ⟨r501, hr501, h⟩ := x_bind h
  refine x_calli (va_runS (As := [.int p0, .int 0, .int 8]) (rest := []) ⟨hx, hb, hml, hown, hts⟩ (kX9_within l G s.heap hr501) (va_cwS 3 hts gX9_isTeller_X9_within rfl rfl rfl (by decide +kernel) ⟨Nat.le_of_ble_eq_true rfl, Nat.le_of_ble_eq_true rfl⟩) (x_preS hE hS) rfl rfl hl.1 rfl (lv_room (Nat.le_of_ble_eq_true rfl)) dX9_isTeller_4 ⟨Nat.le_of_ble_eq_true rfl, Nat.le_of_ble_eq_true rfl⟩) ?_
  have hq : r501 = out := by cases h; exact ho
  subst hq
  exact x_zret (b := r501) hx hb hr hlk rfl rfl rfl dX9_isTeller_7
noncomputable def mX9_commonDivisor_s3   (v0 : Int64) (v2 : Int64) (v4 : Int32) : Option (((Int64) ⊕ (Int64 × Int64 × Int32))) :=
  if 200 ≤ v4 then (some (.inl v0)) else (if (lg_cmp v2 0) = 0 then (some (.inl v0)) else (x_need (¬ v2 = 0) (some (.inr (v2, (v0 - v0 / v2 * v2), (v4 + 1))))))
noncomputable def mX9_commonDivisor_b3  (v0 : Int64) (v2 : Int64) (v4 : Int32) : Option (Int64) :=
  x_loop (fun q : Int64 × Int64 × Int32 => mX9_commonDivisor_s3  (q.1) (q.2.1) (q.2.2)) (v0, v2, v4)
noncomputable def mX9_commonDivisor  (p0 : Int64) (p1 : Int64) : Option (Int64) :=
  mX9_commonDivisor_b3 p0 p1 0
set_option maxHeartbeats 4000000 in
set_option maxRecDepth 100000 in
theorem kX9_commonDivisor (l : Launch) (G : xG) (H0 : Heap) {p0 : Int64} {p1 : Int64} {out : Int64} (h : mX9_commonDivisor p0 p1 = some out) : Met l yX9_commonDivisor wsX9_commonDivisor ({ frames := 0, cells := 0, slots := 0, locals := 0 }) (xPc G H0 [.long p0, .long p1]) (xQl H0 (out)) 0 0 xN := by
  refine x_met (by decide) rfl (Nat.le_of_ble_eq_true rfl) ?_
  intro p e s m below meth c ls hH hA hl
  obtain ⟨hx, hb, hr, hlk, hml, hown, hts, hE⟩ := hA
  subst hH
  have hown : s.vm.findClass RX9 = some m.cls := hown
  have hl : lv_has ls 7 [(0, .long p0), (2, .long p1)] := hl
  have hS : va_S xN s.heap s.heap [] := va_S.rf
  have ho : out = out := rfl
  have J3 : ∀ (v0 : Int64) (v2 : Int64) (v4 : Int32) (ls : Array Slot), lv_has ls 7 [(0, .long v0), (2, .long v2), (4, .int v4)] → ∀ o : Int64, mX9_commonDivisor_b3  v0 v2 v4 = some o → (fun z => z = out) o → xW p l e ({ frames := 0, cells := 0, slots := 0, locals := 0 }) s m [.long p0, .long p1] below meth c (xQl s.heap (out)) (F0 m 3 ls []) := by
    intro v0 v2 v4 ls hl o h ho
    unfold mX9_commonDivisor_b3 at h
    refine x_loop_walk (K := (fun z => z = out)) (motive := fun q : Int64 × Int64 × Int32 => ∀ ls : Array Slot, lv_has ls 7 [(0, .long (q.1)), (2, .long (q.2.1)), (4, .int (q.2.2))] → xW p l e ({ frames := 0, cells := 0, slots := 0, locals := 0 }) s m [.long p0, .long p1] below meth c (xQl s.heap (out)) (F0 m 3 ls [])) ?_ h ho ls hl
    intro K1 e1 i1 q o h ho
    obtain ⟨v0, v2, v4⟩ := q
    intro ls hl
    have hl : lv_has ls 7 [(0, .long v0), (2, .long v2), (4, .int v4)] := hl
    replace h : mX9_commonDivisor_s3  v0 v2 v4 = some o := h
    unfold mX9_commonDivisor_s3 at h
    refine lv_iload hx hb dX9_commonDivisor_3 (lv_at hl 2 rfl) ?_
    refine lv_sipush (v := 200) hx hb dX9_commonDivisor_5 (by decide) ?_
    refine lv_icmp_ge (tgt := 33) hx hb dX9_commonDivisor_8 (by decide) (fun hc101 => ?_) (fun hc101 => ?_)
    · replace h := (if_pos hc101).symm.trans h
      refine lv_lload_n hx hb dX9_commonDivisor_33 rfl (lv_at hl 0 rfl) ?_
      have hq : v0 = out := by cases h; exact (e1 _ ho)
      subst hq
      exact x_lret hx hb hr hlk rfl rfl dX9_commonDivisor_34
    · replace h := (if_neg hc101).symm.trans h
      refine lv_lload_n hx hb dX9_commonDivisor_11 rfl (lv_at hl 1 rfl) ?_
      refine lv_lconst (v := 0) hx hb dX9_commonDivisor_12 (by decide) ?_
      refine W.lcmp hx hb dX9_commonDivisor_13 ?_
      refine lv_if_eq (tgt := 33) hx hb dX9_commonDivisor_14 (by decide) (fun hc102 => ?_) (fun hc102 => ?_)
      · replace h := (if_pos hc102).symm.trans h
        refine lv_lload_n hx hb dX9_commonDivisor_33 rfl (lv_at hl 0 rfl) ?_
        have hq : v0 = out := by cases h; exact (e1 _ ho)
        subst hq
        exact x_lret hx hb hr hlk rfl rfl dX9_commonDivisor_34
      · replace h := (if_neg hc102).symm.trans h
        refine lv_lload_n hx hb dX9_commonDivisor_17 rfl (lv_at hl 0 rfl) ?_
        refine lv_lload_n hx hb dX9_commonDivisor_18 rfl (lv_at hl 1 rfl) ?_
        obtain ⟨hz103, h⟩ := x_needs h
        refine lv_lrem hx hb dX9_commonDivisor_19 hz103 ?_
        refine lv_lstore (lv' := [(5, .long (v0 - v0 / v2 * v2)), (0, .long v0), (2, .long v2), (4, .int v4)]) hx hb dX9_commonDivisor_20 hl (by decide) rfl (fun ls hl => ?_)
        refine lv_lload_n hx hb dX9_commonDivisor_22 rfl (lv_at hl 2 rfl) ?_
        refine lv_lstore_n (lv' := [(0, .long v2), (5, .long (v0 - v0 / v2 * v2)), (2, .long v2), (4, .int v4)]) hx hb dX9_commonDivisor_23 rfl hl (by decide) rfl (fun ls hl => ?_)
        refine lv_lload hx hb dX9_commonDivisor_24 (lv_at hl 1 rfl) ?_
        refine lv_lstore_n (lv' := [(2, .long (v0 - v0 / v2 * v2)), (0, .long v2), (5, .long (v0 - v0 / v2 * v2)), (4, .int v4)]) hx hb dX9_commonDivisor_26 rfl hl (by decide) rfl (fun ls hl => ?_)
        refine lv_iinc (v := (v4 + 1)) (lv' := [(4, .int (v4 + 1)), (2, .long (v0 - v0 / v2 * v2)), (0, .long v2), (5, .long (v0 - v0 / v2 * v2))]) hx hb dX9_commonDivisor_27 hl (k := 3) rfl rfl (by decide) rfl (fun ls hl => ?_)
        refine lv_goto (tgt := 3) hx hb dX9_commonDivisor_30 (by decide) ?_
        exact i1 (v2, (v0 - v0 / v2 * v2), (v4 + 1)) (by cases h; exact ho) ls (lv_sub hl [2, 1, 0] rfl)
  unfold mX9_commonDivisor at h
  refine lv_iconst (v := 0) hx hb dX9_commonDivisor_0 (by decide) ?_
  refine lv_istore (lv' := [(4, .int 0), (0, .long p0), (2, .long p1)]) hx hb dX9_commonDivisor_1 hl (by decide) rfl (fun ls hl => ?_)
  exact J3 p0 p1 0 ls (lv_sub hl [1, 2, 0] rfl) _ h ho
noncomputable def mX9_fraction  (p0 : Int64) (p1 : Int64) (p2 : Int32) : Option (Int64) :=
  (mX9_commonDivisor p0 p1).bind (fun r501 => if (lg_cmp r501 0) = 0 then (some 0) else (if p2 = 0 then (x_need (¬ r501 = 0) (some ((p0 / r501)))) else (x_need (¬ r501 = 0) (some ((p1 / r501))))))
set_option maxHeartbeats 4000000 in
set_option maxRecDepth 100000 in
theorem kX9_fraction (l : Launch) (G : xG) (H0 : Heap) {p0 : Int64} {p1 : Int64} {p2 : Int32} {out : Int64} (h : mX9_fraction p0 p1 p2 = some out) : Met l yX9_fraction wsX9_fraction ({ frames := 1, cells := 0, slots := 0, locals := 26 }) (xPc G H0 [.long p0, .long p1, .int p2]) (xQl H0 (out)) 0 0 xN := by
  refine x_met (by decide) rfl (Nat.le_of_ble_eq_true rfl) ?_
  intro p e s m below meth c ls hH hA hl
  obtain ⟨hx, hb, hr, hlk, hml, hown, hts, hE⟩ := hA
  subst hH
  have hown : s.vm.findClass RX9 = some m.cls := hown
  have hl : lv_has ls 7 [(0, .long p0), (2, .long p1), (4, .int p2)] := hl
  have hS : va_S xN s.heap s.heap [] := va_S.rf
  have ho : out = out := rfl
  unfold mX9_fraction at h
  refine lv_lload_n hx hb dX9_fraction_0 rfl (lv_at hl 0 rfl) ?_
  refine lv_lload_n hx hb dX9_fraction_1 rfl (lv_at hl 1 rfl) ?_
  obtain ⟨r501, hr501, h⟩ := x_bind h
  refine x_calll (va_runS (As := [.long p0, .long p1]) (rest := []) ⟨hx, hb, hml, hown, hts⟩ (kX9_commonDivisor l G s.heap hr501) (va_cwS 2 hts gX9_fraction_X9_commonDivisor rfl rfl rfl (by decide +kernel) ⟨Nat.le_of_ble_eq_true rfl, Nat.le_of_ble_eq_true rfl⟩) (x_preS hE hS) rfl rfl hl.1 rfl (lv_room (Nat.le_of_ble_eq_true rfl)) dX9_fraction_2 ⟨Nat.le_of_ble_eq_true rfl, Nat.le_of_ble_eq_true rfl⟩) ?_
  refine lv_lstore (lv' := [(5, .long r501), (0, .long p0), (2, .long p1), (4, .int p2)]) hx hb dX9_fraction_5 hl (by decide) rfl (fun ls hl => ?_)
  refine lv_lload hx hb dX9_fraction_7 (lv_at hl 0 rfl) ?_
  refine lv_lconst (v := 0) hx hb dX9_fraction_9 (by decide) ?_
  refine W.lcmp hx hb dX9_fraction_10 ?_
  refine lv_if_ne (tgt := 16) hx hb dX9_fraction_11 (by decide) (fun hc502 => ?_) (fun hc502 => ?_)
  · replace h := (if_neg hc502).symm.trans h
    refine lv_iload hx hb dX9_fraction_16 (lv_at hl 3 rfl) ?_
    refine lv_if_ne (tgt := 25) hx hb dX9_fraction_18 (by decide) (fun hc503 => ?_) (fun hc503 => ?_)
    · replace h := (if_neg hc503).symm.trans h
      refine lv_lload_n hx hb dX9_fraction_25 rfl (lv_at hl 2 rfl) ?_
      refine lv_lload hx hb dX9_fraction_26 (lv_at hl 0 rfl) ?_
      obtain ⟨hz504, h⟩ := x_needs h
      refine lv_ldiv hx hb dX9_fraction_28 hz504 ?_
      have hq : (p1 / r501) = out := by cases h; exact ho
      subst hq
      exact x_lret hx hb hr hlk rfl rfl dX9_fraction_29
    · replace h := (if_pos hc503).symm.trans h
      refine lv_lload_n hx hb dX9_fraction_21 rfl (lv_at hl 1 rfl) ?_
      refine lv_goto (tgt := 26) hx hb dX9_fraction_22 (by decide) ?_
      refine lv_lload hx hb dX9_fraction_26 (lv_at hl 0 rfl) ?_
      obtain ⟨hz505, h⟩ := x_needs h
      refine lv_ldiv hx hb dX9_fraction_28 hz505 ?_
      have hq : (p0 / r501) = out := by cases h; exact ho
      subst hq
      exact x_lret hx hb hr hlk rfl rfl dX9_fraction_29
  · replace h := (if_pos hc502).symm.trans h
    refine lv_lconst (v := 0) hx hb dX9_fraction_14 (by decide) ?_
    have hq : 0 = out := by cases h; exact ho
    subst hq
    exact x_lret hx hb hr hlk rfl rfl dX9_fraction_15
noncomputable def mX9_isPlace  (p0 : Int32) (p1 : Int32) : Option (Bool) :=
  (mX9_within p0 0 8).bind (fun r501 => if (xb r501) = 0 then (some false) else ((mX9_within p1 0 8).bind (fun r503 => if (xb r503) = 0 then (some false) else (some true))))
set_option maxHeartbeats 4000000 in
set_option maxRecDepth 100000 in
theorem kX9_isPlace (l : Launch) (G : xG) (H0 : Heap) {p0 : Int32} {p1 : Int32} {out : Bool} (h : mX9_isPlace p0 p1 = some out) : Met l yX9_isPlace wsX9_isPlace ({ frames := 1, cells := 0, slots := 0, locals := 22 }) (xPc G H0 [.int p0, .int p1]) (xQi H0 (xb out)) 0 0 xN := by
  refine x_met (by decide) rfl (Nat.le_of_ble_eq_true rfl) ?_
  intro p e s m below meth c ls hH hA hl
  obtain ⟨hx, hb, hr, hlk, hml, hown, hts, hE⟩ := hA
  subst hH
  have hown : s.vm.findClass RX9 = some m.cls := hown
  have hl : lv_has ls 2 [(0, .int p0), (1, .int p1)] := hl
  have hS : va_S xN s.heap s.heap [] := va_S.rf
  have ho : out = out := rfl
  unfold mX9_isPlace at h
  refine lv_iload_n hx hb dX9_isPlace_0 rfl (lv_at hl 0 rfl) ?_
  refine lv_iconst (v := 0) hx hb dX9_isPlace_1 (by decide) ?_
  refine lv_bipush (v := 8) hx hb dX9_isPlace_2 (by decide) ?_
  obtain ⟨r501, hr501, h⟩ := x_bind h
  refine x_calli (va_runS (As := [.int p0, .int 0, .int 8]) (rest := []) ⟨hx, hb, hml, hown, hts⟩ (kX9_within l G s.heap hr501) (va_cwS 3 hts gX9_isPlace_X9_within rfl rfl rfl (by decide +kernel) ⟨Nat.le_of_ble_eq_true rfl, Nat.le_of_ble_eq_true rfl⟩) (x_preS hE hS) rfl rfl hl.1 rfl (lv_room (Nat.le_of_ble_eq_true rfl)) dX9_isPlace_4 ⟨Nat.le_of_ble_eq_true rfl, Nat.le_of_ble_eq_true rfl⟩) ?_
  refine lv_if_eq (tgt := 24) hx hb dX9_isPlace_7 (by decide) (fun hc502 => ?_) (fun hc502 => ?_)
  · replace h := (if_pos hc502).symm.trans h
    refine lv_iconst (v := 0) hx hb dX9_isPlace_24 (by decide) ?_
    have hq : false = out := by cases h; exact ho
    subst hq
    exact x_zret (b := false) hx hb hr hlk rfl rfl rfl dX9_isPlace_25
  · replace h := (if_neg hc502).symm.trans h
    refine lv_iload_n hx hb dX9_isPlace_10 rfl (lv_at hl 1 rfl) ?_
    refine lv_iconst (v := 0) hx hb dX9_isPlace_11 (by decide) ?_
    refine lv_bipush (v := 8) hx hb dX9_isPlace_12 (by decide) ?_
    obtain ⟨r503, hr503, h⟩ := x_bind h
    refine x_calli (va_runS (As := [.int p1, .int 0, .int 8]) (rest := []) ⟨hx, hb, hml, hown, hts⟩ (kX9_within l G s.heap hr503) (va_cwS 3 hts gX9_isPlace_X9_within rfl rfl rfl (by decide +kernel) ⟨Nat.le_of_ble_eq_true rfl, Nat.le_of_ble_eq_true rfl⟩) (x_preS hE hS) rfl rfl hl.1 rfl (lv_room (Nat.le_of_ble_eq_true rfl)) dX9_isPlace_14 ⟨Nat.le_of_ble_eq_true rfl, Nat.le_of_ble_eq_true rfl⟩) ?_
    refine lv_if_eq (tgt := 24) hx hb dX9_isPlace_17 (by decide) (fun hc504 => ?_) (fun hc504 => ?_)
    · replace h := (if_pos hc504).symm.trans h
      refine lv_iconst (v := 0) hx hb dX9_isPlace_24 (by decide) ?_
      have hq : false = out := by cases h; exact ho
      subst hq
      exact x_zret (b := false) hx hb hr hlk rfl rfl rfl dX9_isPlace_25
    · replace h := (if_neg hc504).symm.trans h
      refine lv_iconst (v := 1) hx hb dX9_isPlace_20 (by decide) ?_
      refine lv_goto (tgt := 25) hx hb dX9_isPlace_21 (by decide) ?_
      have hq : true = out := by cases h; exact ho
      subst hq
      exact x_zret (b := true) hx hb hr hlk rfl rfl rfl dX9_isPlace_25
