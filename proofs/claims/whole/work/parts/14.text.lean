/-! laid by program out of the bytecode: for each method its function (m..) and its contract (k..) -/
noncomputable def mX8_take (size : Int32) (signs : Nat → Int32) (a0_size : Int32) (a0_signs : Nat → Int32)  : Option (Int32 × (Nat → Int32)) :=
  (mX9_copy 50 a0_signs 50 signs).bind (fun r501 => some (a0_size, r501))
set_option maxHeartbeats 4000000 in
set_option maxRecDepth 100000 in
theorem kX8_take (l : Launch) (G : xG) (H0 : Heap) {q_this q_signs q_a0 q_a0_signs : Nat} {size : Int32} {signs : Nat → Int32} {a0_size : Int32} {a0_signs : Nat → Int32} (w0 : va_W) (hw0 : w0 = [(q_this, .inr (8, [.int size, .ref q_signs])), (q_signs, .inl (xy G 0, 50, .inl signs)), (q_a0, .inr (8, [.int a0_size, .ref q_a0_signs])), (q_a0_signs, .inl (xy G 0, 50, .inl a0_signs))]) (hP : va_P (xD G) vwCl w0 H0) (hD : va_D (fun _ => True) w0) {out : Int32 × (Nat → Int32)} (h : mX8_take size signs a0_size a0_signs = some out) : Met l yX8_take wsX8_take ({ frames := 2, cells := 0, slots := 0, locals := 61 }) (xPcw G (va_A w0 H0.size) H0 [.ref q_this, .ref q_a0]) (xRv G (va_A w0 H0.size) [(q_this, .inr (8, [.int out.1, .ref q_signs])), (q_signs, .inl (xy G 0, 50, .inl out.2)), (q_a0, .inr (8, [.int a0_size, .ref q_a0_signs])), (q_a0_signs, .inl (xy G 0, 50, .inl a0_signs))]) 0 0 (va_A w0 H0.size) := by
  refine x_metw (y := yX8_take) (ws := wsX8_take) (rm := { frames := 2, cells := 0, slots := 0, locals := 61 }) (G := G) (H0 := H0) (w0 := w0) (av := [.ref q_this, .ref q_a0]) (mc := 0) (ms := 0) (Qc := (fun A => (xRv G A [(q_this, .inr (8, [.int out.1, .ref q_signs])), (q_signs, .inl (xy G 0, 50, .inl out.2)), (q_a0, .inr (8, [.int a0_size, .ref q_a0_signs])), (q_a0_signs, .inl (xy G 0, 50, .inl a0_signs))]))) (by decide) rfl (Nat.le_of_ble_eq_true rfl) hP hD ?_
  clear hP hD
  intro p e s m below meth c ls A H locs hA hAt hnm hl hP hD hS
  subst hw0
  obtain ⟨hx, hb, hr, hlk, hml, hown, hts, hE⟩ := hAt
  have hown : s.vm.findClass RX8 = some m.cls := hown
  have hl : lv_has ls 2 [(0, .ref q_this), (1, .ref q_a0)] := hl
  have ho : out = out := rfl
  unfold mX8_take at h
  refine lv_aload_n hx hb dX8_take_0 rfl (lv_at hl 0 rfl) ?_
  refine lv_aload_n hx hb dX8_take_1 rfl (lv_at hl 1 rfl) ?_
  refine va_get (D := xD G) (ci := 8) (v := .int a0_size) (C := RX8) (T := TX8) (N := 2) hx hb hts (fun w9 h9 => (List.mem_cons_of_mem _ (List.mem_append_right _ h9))) hown hE.1 hP 2 rfl rfl 0 (by decide) (hts (.fieldLink RX8 15 "FallingGlass$Text" "size" "I") (List.mem_of_getElem? (i := 1) rfl)) (fun _ h9 => h9) rfl dX8_take_2 ?_
  refine va_put (D := xD G) (ci := 8) (v := .int a0_size) (ty := .int) (C := RX8) (T := TX8) (N := 2) hx hb hts (fun w9 h9 => (List.mem_cons_of_mem _ (List.mem_append_right _ h9))) tyX8 tyX8_ok nmX8 hown hE.1 hP hD hS 0 rfl rfl 0 (by decide) (hts (.fieldLink RX8 15 "FallingGlass$Text" "size" "I") (List.mem_of_getElem? (i := 1) rfl)) (fun _ h9 => h9) rfl (by decide +kernel) rfl rfl (Nat.le_of_ble_eq_true rfl) dX8_take_5 (fun H locs hP hD hS => ?_)
  have hP : va_P (xD G) vwCl [(q_this, .inr (8, [.int a0_size, .ref q_signs])), (q_signs, .inl (xy G 0, 50, .inl signs)), (q_a0, .inr (8, [.int a0_size, .ref q_a0_signs])), (q_a0_signs, .inl (xy G 0, 50, .inl a0_signs))] H := hP
  have hD : va_D A [(q_this, .inr (8, [.int a0_size, .ref q_signs])), (q_signs, .inl (xy G 0, 50, .inl signs)), (q_a0, .inr (8, [.int a0_size, .ref q_a0_signs])), (q_a0_signs, .inl (xy G 0, 50, .inl a0_signs))] := hD
  refine lv_aload_n hx hb dX8_take_8 rfl (lv_at hl 1 rfl) ?_
  refine va_get (D := xD G) (ci := 8) (v := .ref q_a0_signs) (C := RX8) (T := TX8) (N := 2) hx hb hts (fun w9 h9 => (List.mem_cons_of_mem _ (List.mem_append_right _ h9))) hown hE.1 hP 2 rfl rfl 1 (by decide) (hts (.fieldLink RX8 9 "FallingGlass$Text" "signs" "[I") (List.mem_of_getElem? (i := 2) rfl)) (fun _ h9 => h9) rfl dX8_take_9 ?_
  refine lv_aload_n hx hb dX8_take_12 rfl (lv_at hl 0 rfl) ?_
  refine va_get (D := xD G) (ci := 8) (v := .ref q_signs) (C := RX8) (T := TX8) (N := 2) hx hb hts (fun w9 h9 => (List.mem_cons_of_mem _ (List.mem_append_right _ h9))) hown hE.1 hP 0 rfl rfl 1 (by decide) (hts (.fieldLink RX8 9 "FallingGlass$Text" "signs" "[I") (List.mem_of_getElem? (i := 2) rfl)) (fun _ h9 => h9) rfl dX8_take_13 ?_
  obtain ⟨r501, hr501, h⟩ := x_bind h
  have hPr501 : va_P (xD G) vwCl [(q_a0_signs, .inl (xy G 0, 50, .inl a0_signs)), (q_signs, .inl (xy G 0, 50, .inl signs))] H := hP.sub [3, 1] rfl
  have hDr501 : va_D A [(q_a0_signs, .inl (xy G 0, 50, .inl a0_signs)), (q_signs, .inl (xy G 0, 50, .inl signs))] := hD.sub [3, 1] (by decide) rfl
  have hFr501 := va_free (wc := [(q_a0_signs, .inl (xy G 0, 50, .inl a0_signs)), (q_signs, .inl (xy G 0, 50, .inl signs))]) hD hS hA [3, 1] rfl
  refine x_callwv (wc := [(q_a0_signs, .inl (xy G 0, 50, .inl a0_signs)), (q_signs, .inl (xy G 0, 50, .inl signs))]) (w1 := [(q_a0_signs, .inl (xy G 0, 50, .inl a0_signs)), (q_signs, .inl (xy G 0, 50, .inl r501))]) (ws' := [(q_this, .inr (8, [.int a0_size, .ref q_signs])), (q_signs, .inl (xy G 0, 50, .inl r501)), (q_a0, .inr (8, [.int a0_size, .ref q_a0_signs])), (q_a0_signs, .inl (xy G 0, 50, .inl a0_signs))]) (va_runSN (As := [.ref q_a0_signs, .ref q_signs]) (rest := []) ⟨hx, hb, hml, hown, hts⟩ (kX9_copy l G H [(q_a0_signs, .inl (xy G 0, 50, .inl a0_signs)), (q_signs, .inl (xy G 0, 50, .inl signs))] rfl hPr501 (hDr501.weaken (fun _ _ _ _ => trivial)) hr501) ⟨va_cnB 2 hts gX8_take_X9_copy_n19 rfl rfl rfl (hE.nm 24 rfl) (hts (.initialized RX9) (List.mem_of_getElem? (i := 4) rfl)) (by decide +kernel) ⟨Nat.le_of_ble_eq_true rfl, Nat.le_of_ble_eq_true rfl⟩, (hts (.static yX9_copy) (List.mem_of_getElem? (i := 3) rfl)), trivial⟩ (x_preSw hE hS hFr501) rfl rfl hl.1 rfl (lv_room (Nat.le_of_ble_eq_true rfl)) dX8_take_16 ⟨Nat.le_of_ble_eq_true rfl, Nat.le_of_ble_eq_true rfl⟩) hP hD hS hFr501 [3, 1] [none, some 1, none, some 0] (n := 4) (by decide) rfl rfl rfl (fun H locs hP hD hS => ?_)
  have hq : (a0_size, r501) = out := by cases h; exact ho
  subst hq
  have hP : va_P (xD G) vwCl [(q_this, .inr (8, [.int a0_size, .ref q_signs])), (q_signs, .inl (xy G 0, 50, .inl r501)), (q_a0, .inr (8, [.int a0_size, .ref q_a0_signs])), (q_a0_signs, .inl (xy G 0, 50, .inl a0_signs))] H := hP
  have hD : va_D A [(q_this, .inr (8, [.int a0_size, .ref q_signs])), (q_signs, .inl (xy G 0, 50, .inl r501)), (q_a0, .inr (8, [.int a0_size, .ref q_a0_signs])), (q_a0_signs, .inl (xy G 0, 50, .inl a0_signs))] := hD
  exact x_vretw hx hb hr hlk hP hD hS dX8_take_19
noncomputable def mX8_oddsBy  (p0 : Int32) : Option (Int32) :=
  if p0 = 120 then (some 1000) else (some ((((p0 - 48) * 1000) / 10)))
set_option maxHeartbeats 4000000 in
set_option maxRecDepth 100000 in
theorem kX8_oddsBy (l : Launch) (G : xG) (H0 : Heap) {p0 : Int32} {out : Int32} (h : mX8_oddsBy p0 = some out) : Met l yX8_oddsBy wsX8_oddsBy ({ frames := 0, cells := 0, slots := 0, locals := 0 }) (xPc G H0 [.int p0]) (xQi H0 (out)) 0 0 xN := by
  refine x_met (by decide) rfl (Nat.le_of_ble_eq_true rfl) ?_
  intro p e s m below meth c ls hH hA hl
  obtain ⟨hx, hb, hr, hlk, hml, hown, hts, hE⟩ := hA
  subst hH
  have hown : s.vm.findClass RX8 = some m.cls := hown
  have hl : lv_has ls 1 [(0, .int p0)] := hl
  have hS : va_S xN s.heap s.heap [] := va_S.rf
  have ho : out = out := rfl
  unfold mX8_oddsBy at h
  refine lv_iload_n hx hb dX8_oddsBy_0 rfl (lv_at hl 0 rfl) ?_
  refine lv_bipush (v := 120) hx hb dX8_oddsBy_1 (by decide) ?_
  refine lv_icmp_ne (tgt := 12) hx hb dX8_oddsBy_3 (by decide) (fun hc501 => ?_) (fun hc501 => ?_)
  · replace h := (if_neg hc501).symm.trans h
    refine lv_iload_n hx hb dX8_oddsBy_12 rfl (lv_at hl 0 rfl) ?_
    refine lv_bipush (v := 48) hx hb dX8_oddsBy_13 (by decide) ?_
    refine lv_isub hx hb dX8_oddsBy_15 ?_
    refine lv_sipush (v := 1000) hx hb dX8_oddsBy_16 (by decide) ?_
    refine lv_imul hx hb dX8_oddsBy_19 ?_
    refine lv_bipush (v := 10) hx hb dX8_oddsBy_20 (by decide) ?_
    refine lv_idiv hx hb dX8_oddsBy_22 (by decide) ?_
    have hq : (((p0 - 48) * 1000) / 10) = out := by cases h; exact ho
    subst hq
    exact x_iret hx hb hr hlk rfl rfl dX8_oddsBy_23
  · replace h := (if_pos hc501).symm.trans h
    refine lv_sipush (v := 1000) hx hb dX8_oddsBy_6 (by decide) ?_
    refine lv_goto (tgt := 23) hx hb dX8_oddsBy_9 (by decide) ?_
    have hq : 1000 = out := by cases h; exact ho
    subst hq
    exact x_iret hx hb hr hlk rfl rfl dX8_oddsBy_23
noncomputable def mX8_isLetter  (p0 : Int32) : Option (Bool) :=
  (mJ0_indexOf_0f7a4S ((((Int32.toUInt32 p0) % 65536).toInt32))).bind (fun r501 => if r501 < 0 then (some false) else (some true))
set_option maxHeartbeats 4000000 in
set_option maxRecDepth 100000 in
theorem kX8_isLetter (l : Launch) (G : xG) (H0 : Heap) {p0 : Int32} {out : Bool} (h : mX8_isLetter p0 = some out) : Met l yX8_isLetter wsX8_isLetter ({ frames := 4, cells := 0, slots := 0, locals := 91 }) (xPc G H0 [.int p0]) (xQi H0 (xb out)) 0 0 xN := by
  refine x_met (by decide) rfl (Nat.le_of_ble_eq_true rfl) ?_
  intro p e s m below meth c ls hH hA hl
  obtain ⟨hx, hb, hr, hlk, hml, hown, hts, hE⟩ := hA
  subst hH
  have hown : s.vm.findClass RX8 = some m.cls := hown
  have hl : lv_has ls 1 [(0, .int p0)] := hl
  have hS : va_S xN s.heap s.heap [] := va_S.rf
  have ho : out = out := rfl
  unfold mX8_isLetter at h
  refine va_ldcS hx hb hown hE.sr dX8_isLetter_0 ?_
  refine lv_iload_n hx hb dX8_isLetter_2 rfl (lv_at hl 0 rfl) ?_
  refine lv_i2c (v := ((Int32.toUInt32 p0) % 65536).toInt32) hx hb dX8_isLetter_3 rfl ?_
  obtain ⟨r501, hr501, h⟩ := x_bind h
  refine x_calli (va_runV (As := [.int (((Int32.toUInt32 p0) % 65536).toInt32)]) (rest := []) ⟨hx, hb, hml, hown, hts⟩ (kJ0_indexOf_0f7a4S l G s.heap hr501) (cwV 1 hts gX8_isLetter_J0_indexOf_0f7a4 rfl rfl rfl (by decide +kernel) ⟨Nat.le_of_ble_eq_true rfl, Nat.le_of_ble_eq_true rfl⟩) (x_preVs hE hS) rfl rfl hl.1 rfl (lv_room (Nat.le_of_ble_eq_true rfl)) dX8_isLetter_4 ⟨Nat.le_of_ble_eq_true rfl, Nat.le_of_ble_eq_true rfl⟩) ?_
  refine lv_if_lt (tgt := 14) hx hb dX8_isLetter_7 (by decide) (fun hc502 => ?_) (fun hc502 => ?_)
  · replace h := (if_pos hc502).symm.trans h
    refine lv_iconst (v := 0) hx hb dX8_isLetter_14 (by decide) ?_
    have hq : false = out := by cases h; exact ho
    subst hq
    exact x_zret (b := false) hx hb hr hlk rfl rfl rfl dX8_isLetter_15
  · replace h := (if_neg hc502).symm.trans h
    refine lv_iconst (v := 1) hx hb dX8_isLetter_10 (by decide) ?_
    refine lv_goto (tgt := 15) hx hb dX8_isLetter_11 (by decide) ?_
    have hq : true = out := by cases h; exact ho
    subst hq
    exact x_zret (b := true) hx hb hr hlk rfl rfl rfl dX8_isLetter_15
noncomputable def mX8_testFits_b53 (signs : Nat → Int32) (v1 : Int32) (v2 : Int32) (v3 : Int32) : Option (Bool) :=
  (mX9_at 50 signs v2).bind (fun r101 => if r101 = 60 then (if v3 ≤ v1 then (some false) else (some true)) else (if r101 = 62 then (if v1 ≤ v3 then (some false) else (some true)) else (if v1 = v3 then (some true) else (some false))))
noncomputable def mX8_testFits (signs : Nat → Int32) (p0 : Int32) (p1 : Int32) : Option (Bool) :=
  if p0 = (-6) then (some false) else ((mX9_at 50 signs ((p1 + 1))).bind (fun r502 => (mX9_at 50 signs ((p1 + 2))).bind (fun r503 => (mX9_isDigit r503).bind (fun r504 => if (xb r504) = 0 then (mX8_testFits_b53 signs p0 p1 ((r502 - 48))) else (mX8_testFits_b53 signs p0 p1 ((((10 * (r502 - 48)) + r503) - 48)))))))
set_option maxHeartbeats 4000000 in
set_option maxRecDepth 100000 in
theorem kX8_testFits (l : Launch) (G : xG) (H0 : Heap) {q_this q_signs : Nat} {size : Int32} {signs : Nat → Int32} {p0 : Int32} {p1 : Int32} (hP : va_P (xD G) vwCl [(q_this, .inr (8, [.int size, .ref q_signs])), (q_signs, .inl (xy G 0, 50, .inl signs))] H0) {out : Bool} (h : mX8_testFits signs p0 p1 = some out) : Met l yX8_testFits wsX8_testFits ({ frames := 2, cells := 0, slots := 0, locals := 42 }) (xPc G H0 [.ref q_this, .int p0, .int p1]) (xQi H0 (xb out)) 0 0 xN := by
  refine x_met (by decide) rfl (Nat.le_of_ble_eq_true rfl) ?_
  intro p e s m below meth c ls hH hA hl
  obtain ⟨hx, hb, hr, hlk, hml, hown, hts, hE⟩ := hA
  subst hH
  have hown : s.vm.findClass RX8 = some m.cls := hown
  have hl : lv_has ls 5 [(0, .ref q_this), (1, .int p0), (2, .int p1)] := hl
  have hS : va_S xN s.heap s.heap [] := va_S.rf
  have ho : out = out := rfl
  have J53 : ∀ (v1 : Int32) (v2 : Int32) (v3 : Int32) (ls : Array Slot), lv_has ls 5 [(0, .ref q_this), (1, .int v1), (2, .int v2), (3, .int v3)] → ∀ o : Bool, mX8_testFits_b53 signs v1 v2 v3 = some o → (fun z => z = out) o → xW p l e ({ frames := 2, cells := 0, slots := 0, locals := 42 }) s m [.ref q_this, .int p0, .int p1] below meth c (xQi s.heap (xb out)) (F0 m 53 ls []) := by
    intro v1 v2 v3 ls hl o h ho
    unfold mX8_testFits_b53 at h
    refine lv_aload_n hx hb dX8_testFits_53 rfl (lv_at hl 0 rfl) ?_
    refine va_get (D := xD G) (ci := 8) (v := .ref q_signs) (C := RX8) (T := TX8) (N := 2) hx hb hts (fun w9 h9 => (List.mem_cons_of_mem _ (List.mem_append_right _ h9))) hown hE.1 hP 0 rfl rfl 1 (by decide) (hts (.fieldLink RX8 9 "FallingGlass$Text" "signs" "[I") (List.mem_of_getElem? (i := 1) rfl)) (fun _ h9 => h9) rfl dX8_testFits_54 ?_
    refine lv_iload_n hx hb dX8_testFits_57 rfl (lv_at hl 2 rfl) ?_
    obtain ⟨r101, hr101, h⟩ := x_bind h
    have hPr101 : va_P (xD G) vwCl [(q_signs, .inl (xy G 0, 50, .inl signs))] s.heap := hP.sub [1] rfl
    refine x_calli (va_runSN (As := [.ref q_signs, .int v2]) (rest := []) ⟨hx, hb, hml, hown, hts⟩ (kX9_at l G s.heap hPr101 hr101) ⟨va_cnB 2 hts gX8_testFits_X9_at_n27 rfl rfl rfl (hE.nm 26 rfl) (hts (.initialized RX9) (List.mem_of_getElem? (i := 3) rfl)) (by decide +kernel) ⟨Nat.le_of_ble_eq_true rfl, Nat.le_of_ble_eq_true rfl⟩, (hts (.static yX9_at) (List.mem_of_getElem? (i := 2) rfl)), trivial⟩ (x_preS hE hS) rfl rfl hl.1 rfl (lv_room (Nat.le_of_ble_eq_true rfl)) dX8_testFits_58 ⟨Nat.le_of_ble_eq_true rfl, Nat.le_of_ble_eq_true rfl⟩) ?_
    by_cases hk102_0 : r101 = 60
    · replace h := (if_pos hk102_0).symm.trans h
      refine lv_lookup (off := 27) (tgt := 88) hx hb dX8_testFits_61 (by decide) (by rw [hk102_0] <;> rfl) (by decide) ?_
      refine lv_iload_n hx hb dX8_testFits_88 rfl (lv_at hl 1 rfl) ?_
      refine lv_iload_n hx hb dX8_testFits_89 rfl (lv_at hl 3 rfl) ?_
      refine lv_icmp_ge (tgt := 97) hx hb dX8_testFits_90 (by decide) (fun hc103 => ?_) (fun hc103 => ?_)
      · replace h := (if_pos hc103).symm.trans h
        refine lv_iconst (v := 0) hx hb dX8_testFits_97 (by decide) ?_
        have hq : false = out := by cases h; exact ho
        subst hq
        exact x_zret (b := false) hx hb hr hlk rfl rfl rfl dX8_testFits_98
      · replace h := (if_neg hc103).symm.trans h
        refine lv_iconst (v := 1) hx hb dX8_testFits_93 (by decide) ?_
        refine lv_goto (tgt := 98) hx hb dX8_testFits_94 (by decide) ?_
        have hq : true = out := by cases h; exact ho
        subst hq
        exact x_zret (b := true) hx hb hr hlk rfl rfl rfl dX8_testFits_98
    · replace h := (if_neg hk102_0).symm.trans h
      by_cases hk102_1 : r101 = 62
      · replace h := (if_pos hk102_1).symm.trans h
        refine lv_lookup (off := 38) (tgt := 99) hx hb dX8_testFits_61 (by decide) (by rw [hk102_1] <;> rfl) (by decide) ?_
        refine lv_iload_n hx hb dX8_testFits_99 rfl (lv_at hl 1 rfl) ?_
        refine lv_iload_n hx hb dX8_testFits_100 rfl (lv_at hl 3 rfl) ?_
        refine lv_icmp_le (tgt := 108) hx hb dX8_testFits_101 (by decide) (fun hc104 => ?_) (fun hc104 => ?_)
        · replace h := (if_pos hc104).symm.trans h
          refine lv_iconst (v := 0) hx hb dX8_testFits_108 (by decide) ?_
          have hq : false = out := by cases h; exact ho
          subst hq
          exact x_zret (b := false) hx hb hr hlk rfl rfl rfl dX8_testFits_109
        · replace h := (if_neg hc104).symm.trans h
          refine lv_iconst (v := 1) hx hb dX8_testFits_104 (by decide) ?_
          refine lv_goto (tgt := 109) hx hb dX8_testFits_105 (by decide) ?_
          have hq : true = out := by cases h; exact ho
          subst hq
          exact x_zret (b := true) hx hb hr hlk rfl rfl rfl dX8_testFits_109
      · replace h := (if_neg hk102_1).symm.trans h
        refine lv_lookup (off := 49) (tgt := 110) hx hb dX8_testFits_61 (by decide) (by show Op.lookupswitch.offset (_ :: _) _ _ = _; rw [lv_osw hk102_0 (by decide), lv_osw hk102_1 (by decide)] <;> rfl) (by decide) ?_
        refine lv_iload_n hx hb dX8_testFits_110 rfl (lv_at hl 1 rfl) ?_
        refine lv_iload_n hx hb dX8_testFits_111 rfl (lv_at hl 3 rfl) ?_
        refine lv_icmp_ne (tgt := 119) hx hb dX8_testFits_112 (by decide) (fun hc105 => ?_) (fun hc105 => ?_)
        · replace h := (if_neg hc105).symm.trans h
          refine lv_iconst (v := 0) hx hb dX8_testFits_119 (by decide) ?_
          have hq : false = out := by cases h; exact ho
          subst hq
          exact x_zret (b := false) hx hb hr hlk rfl rfl rfl dX8_testFits_120
        · replace h := (if_pos hc105).symm.trans h
          refine lv_iconst (v := 1) hx hb dX8_testFits_115 (by decide) ?_
          refine lv_goto (tgt := 120) hx hb dX8_testFits_116 (by decide) ?_
          have hq : true = out := by cases h; exact ho
          subst hq
          exact x_zret (b := true) hx hb hr hlk rfl rfl rfl dX8_testFits_120
  unfold mX8_testFits at h
  refine lv_iload_n hx hb dX8_testFits_0 rfl (lv_at hl 1 rfl) ?_
  refine lv_bipush (v := (-6)) hx hb dX8_testFits_1 (by decide) ?_
  refine lv_icmp_ne (tgt := 8) hx hb dX8_testFits_3 (by decide) (fun hc501 => ?_) (fun hc501 => ?_)
  · replace h := (if_neg hc501).symm.trans h
    refine lv_aload_n hx hb dX8_testFits_8 rfl (lv_at hl 0 rfl) ?_
    refine va_get (D := xD G) (ci := 8) (v := .ref q_signs) (C := RX8) (T := TX8) (N := 2) hx hb hts (fun w9 h9 => (List.mem_cons_of_mem _ (List.mem_append_right _ h9))) hown hE.1 hP 0 rfl rfl 1 (by decide) (hts (.fieldLink RX8 9 "FallingGlass$Text" "signs" "[I") (List.mem_of_getElem? (i := 1) rfl)) (fun _ h9 => h9) rfl dX8_testFits_9 ?_
    refine lv_iload_n hx hb dX8_testFits_12 rfl (lv_at hl 2 rfl) ?_
    refine lv_iconst (v := 1) hx hb dX8_testFits_13 (by decide) ?_
    refine lv_iadd hx hb dX8_testFits_14 ?_
    obtain ⟨r502, hr502, h⟩ := x_bind h
    have hPr502 : va_P (xD G) vwCl [(q_signs, .inl (xy G 0, 50, .inl signs))] s.heap := hP.sub [1] rfl
    refine x_calli (va_runSN (As := [.ref q_signs, .int (p1 + 1)]) (rest := []) ⟨hx, hb, hml, hown, hts⟩ (kX9_at l G s.heap hPr502 hr502) ⟨va_cnB 2 hts gX8_testFits_X9_at_n27 rfl rfl rfl (hE.nm 26 rfl) (hts (.initialized RX9) (List.mem_of_getElem? (i := 3) rfl)) (by decide +kernel) ⟨Nat.le_of_ble_eq_true rfl, Nat.le_of_ble_eq_true rfl⟩, (hts (.static yX9_at) (List.mem_of_getElem? (i := 2) rfl)), trivial⟩ (x_preS hE hS) rfl rfl hl.1 rfl (lv_room (Nat.le_of_ble_eq_true rfl)) dX8_testFits_15 ⟨Nat.le_of_ble_eq_true rfl, Nat.le_of_ble_eq_true rfl⟩) ?_
    refine lv_bipush (v := 48) hx hb dX8_testFits_18 (by decide) ?_
    refine lv_isub hx hb dX8_testFits_20 ?_
    refine lv_istore_n (lv' := [(3, .int (r502 - 48)), (0, .ref q_this), (1, .int p0), (2, .int p1)]) hx hb dX8_testFits_21 rfl hl (by decide) rfl (fun ls hl => ?_)
    refine lv_aload_n hx hb dX8_testFits_22 rfl (lv_at hl 1 rfl) ?_
    refine va_get (D := xD G) (ci := 8) (v := .ref q_signs) (C := RX8) (T := TX8) (N := 2) hx hb hts (fun w9 h9 => (List.mem_cons_of_mem _ (List.mem_append_right _ h9))) hown hE.1 hP 0 rfl rfl 1 (by decide) (hts (.fieldLink RX8 9 "FallingGlass$Text" "signs" "[I") (List.mem_of_getElem? (i := 1) rfl)) (fun _ h9 => h9) rfl dX8_testFits_23 ?_
    refine lv_iload_n hx hb dX8_testFits_26 rfl (lv_at hl 3 rfl) ?_
    refine lv_iconst (v := 2) hx hb dX8_testFits_27 (by decide) ?_
    refine lv_iadd hx hb dX8_testFits_28 ?_
    obtain ⟨r503, hr503, h⟩ := x_bind h
    have hPr503 : va_P (xD G) vwCl [(q_signs, .inl (xy G 0, 50, .inl signs))] s.heap := hP.sub [1] rfl
    refine x_calli (va_runSN (As := [.ref q_signs, .int (p1 + 2)]) (rest := []) ⟨hx, hb, hml, hown, hts⟩ (kX9_at l G s.heap hPr503 hr503) ⟨va_cnB 2 hts gX8_testFits_X9_at_n27 rfl rfl rfl (hE.nm 26 rfl) (hts (.initialized RX9) (List.mem_of_getElem? (i := 3) rfl)) (by decide +kernel) ⟨Nat.le_of_ble_eq_true rfl, Nat.le_of_ble_eq_true rfl⟩, (hts (.static yX9_at) (List.mem_of_getElem? (i := 2) rfl)), trivial⟩ (x_preS hE hS) rfl rfl hl.1 rfl (lv_room (Nat.le_of_ble_eq_true rfl)) dX8_testFits_29 ⟨Nat.le_of_ble_eq_true rfl, Nat.le_of_ble_eq_true rfl⟩) ?_
    refine lv_istore (lv' := [(4, .int r503), (3, .int (r502 - 48)), (0, .ref q_this), (1, .int p0), (2, .int p1)]) hx hb dX8_testFits_32 hl (by decide) rfl (fun ls hl => ?_)
    refine lv_iload hx hb dX8_testFits_34 (lv_at hl 0 rfl) ?_
    obtain ⟨r504, hr504, h⟩ := x_bind h
    refine x_calli (va_runSN (As := [.int r503]) (rest := []) ⟨hx, hb, hml, hown, hts⟩ (kX9_isDigit l G s.heap hr504) ⟨va_cnB 1 hts gX8_testFits_X9_isDigit_n39 rfl rfl rfl (hE.nm 27 rfl) (hts (.initialized RX9) (List.mem_of_getElem? (i := 3) rfl)) (by decide +kernel) ⟨Nat.le_of_ble_eq_true rfl, Nat.le_of_ble_eq_true rfl⟩, (hts (.static yX9_isDigit) (List.mem_of_getElem? (i := 5) rfl)), trivial⟩ (x_preS hE hS) rfl rfl hl.1 rfl (lv_room (Nat.le_of_ble_eq_true rfl)) dX8_testFits_36 ⟨Nat.le_of_ble_eq_true rfl, Nat.le_of_ble_eq_true rfl⟩) ?_
    refine lv_if_eq (tgt := 53) hx hb dX8_testFits_39 (by decide) (fun hc505 => ?_) (fun hc505 => ?_)
    · replace h := (if_pos hc505).symm.trans h
      exact J53 p0 p1 ((r502 - 48)) ls (lv_sub hl [2, 3, 4, 1] rfl) _ h ho
    · replace h := (if_neg hc505).symm.trans h
      refine lv_bipush (v := 10) hx hb dX8_testFits_42 (by decide) ?_
      refine lv_iload_n hx hb dX8_testFits_44 rfl (lv_at hl 1 rfl) ?_
      refine lv_imul hx hb dX8_testFits_45 ?_
      refine lv_iload hx hb dX8_testFits_46 (lv_at hl 0 rfl) ?_
      refine lv_iadd hx hb dX8_testFits_48 ?_
      refine lv_bipush (v := 48) hx hb dX8_testFits_49 (by decide) ?_
      refine lv_isub hx hb dX8_testFits_51 ?_
      refine lv_istore_n (lv' := [(3, .int (((10 * (r502 - 48)) + r503) - 48)), (4, .int r503), (0, .ref q_this), (1, .int p0), (2, .int p1)]) hx hb dX8_testFits_52 rfl hl (by decide) rfl (fun ls hl => ?_)
      exact J53 p0 p1 ((((10 * (r502 - 48)) + r503) - 48)) ls (lv_sub hl [2, 3, 4, 0] rfl) _ h ho
  · replace h := (if_pos hc501).symm.trans h
    refine lv_iconst (v := 0) hx hb dX8_testFits_6 (by decide) ?_
    have hq : false = out := by cases h; exact ho
    subst hq
    exact x_zret (b := false) hx hb hr hlk rfl rfl rfl dX8_testFits_7
noncomputable def mX8_oddsTold_b102 (size : Int32) (signs : Nat → Int32) (a0_years : Nat → Int32) (a0_months : Nat → Int32) (a0_presses : Nat → Int32) (a0_winds : Nat → Int32) (a0_skies : Nat → Int32) (a0_rains : Nat → Int32) (v2 : Int32) (v3 : Int32) (v4 : Int32) : Option (((Int32) ⊕ (Int32 × Int32))) :=
  some (.inr (v3, (v4 + 1)))
noncomputable def mX8_oddsTold_b101 (size : Int32) (signs : Nat → Int32) (a0_years : Nat → Int32) (a0_months : Nat → Int32) (a0_presses : Nat → Int32) (a0_winds : Nat → Int32) (a0_skies : Nat → Int32) (a0_rains : Nat → Int32) (v2 : Int32) (v4 : Int32) (t0 : Int32) : Option (((Int32) ⊕ (Int32 × Int32))) :=
  mX8_oddsTold_b102 size signs a0_years a0_months a0_presses a0_winds a0_skies a0_rains v2 t0 v4
noncomputable def mX8_oddsTold_b100 (size : Int32) (signs : Nat → Int32) (a0_years : Nat → Int32) (a0_months : Nat → Int32) (a0_presses : Nat → Int32) (a0_winds : Nat → Int32) (a0_skies : Nat → Int32) (a0_rains : Nat → Int32) (v2 : Int32) (v4 : Int32) : Option (((Int32) ⊕ (Int32 × Int32))) :=
  mX8_oddsTold_b101 size signs a0_years a0_months a0_presses a0_winds a0_skies a0_rains v2 v4 0
noncomputable def mX8_oddsTold_s5 (size : Int32) (signs : Nat → Int32) (a0_years : Nat → Int32) (a0_months : Nat → Int32) (a0_presses : Nat → Int32) (a0_winds : Nat → Int32) (a0_skies : Nat → Int32) (a0_rains : Nat → Int32) (v2 : Int32) (v3 : Int32) (v4 : Int32) : Option (((Int32) ⊕ (Int32 × Int32))) :=
  if size ≤ v4 then (some (.inl ((-6)))) else ((mX9_at 50 signs v4).bind (fun r402 => if r402 = 58 then (if v3 = 0 then (mX8_oddsTold_b102 size signs a0_years a0_months a0_presses a0_winds a0_skies a0_rains v2 1 v4) else ((mX9_at 50 signs ((v4 + 1))).bind (fun r412 => (mX8_oddsBy r412).bind (fun r413 => some (.inl r413))))) else ((mX8_isLetter r402).bind (fun r404 => if (xb r404) = 0 then (mX8_oddsTold_b102 size signs a0_years a0_months a0_presses a0_winds a0_skies a0_rains v2 v3 v4) else ((mJ0_indexOf_0f7a4S ((((Int32.toUInt32 r402) % 65536).toInt32))).bind (fun r406 => (mX0_lookOf a0_years a0_months a0_presses a0_winds a0_skies a0_rains v2 r406).bind (fun r407 => if v3 = 0 then (mX8_oddsTold_b100 size signs a0_years a0_months a0_presses a0_winds a0_skies a0_rains v2 v4) else ((mX8_testFits signs r407 ((v4 + 1))).bind (fun r409 => if (xb r409) = 0 then (mX8_oddsTold_b100 size signs a0_years a0_months a0_presses a0_winds a0_skies a0_rains v2 v4) else (mX8_oddsTold_b101 size signs a0_years a0_months a0_presses a0_winds a0_skies a0_rains v2 v4 1))))))))))
noncomputable def mX8_oddsTold_b5 (size : Int32) (signs : Nat → Int32) (a0_years : Nat → Int32) (a0_months : Nat → Int32) (a0_presses : Nat → Int32) (a0_winds : Nat → Int32) (a0_skies : Nat → Int32) (a0_rains : Nat → Int32) (v2 : Int32) (v3 : Int32) (v4 : Int32) : Option (Int32) :=
  x_loop (fun q : Int32 × Int32 => mX8_oddsTold_s5 size signs a0_years a0_months a0_presses a0_winds a0_skies a0_rains v2 (q.1) (q.2)) (v3, v4)
noncomputable def mX8_oddsTold (size : Int32) (signs : Nat → Int32) (a0_years : Nat → Int32) (a0_months : Nat → Int32) (a0_presses : Nat → Int32) (a0_winds : Nat → Int32) (a0_skies : Nat → Int32) (a0_rains : Nat → Int32) (p1 : Int32) : Option (Int32) :=
  mX8_oddsTold_b5 size signs a0_years a0_months a0_presses a0_winds a0_skies a0_rains p1 1 0
set_option maxHeartbeats 4000000 in
set_option maxRecDepth 100000 in
theorem kX8_oddsTold (l : Launch) (G : xG) (H0 : Heap) {q_this q_signs q_a0 q_a0_years q_a0_months q_a0_presses q_a0_winds q_a0_skies q_a0_rains q_a0_wires q_a0_kinds : Nat} {size : Int32} {signs : Nat → Int32} {a0_days : Int32} {a0_years : Nat → Int32} {a0_months : Nat → Int32} {a0_presses : Nat → Int32} {a0_winds : Nat → Int32} {a0_skies : Nat → Int32} {a0_rains : Nat → Int32} {p1 : Int32} (hP : va_P (xD G) vwCl [(q_this, .inr (8, [.int size, .ref q_signs])), (q_signs, .inl (xy G 0, 50, .inl signs)), (q_a0, .inr (0, [.int a0_days, .ref q_a0_years, .ref q_a0_months, .ref q_a0_presses, .ref q_a0_winds, .ref q_a0_skies, .ref q_a0_rains, .ref q_a0_wires, .ref q_a0_kinds])), (q_a0_years, .inl (xy G 0, 60, .inl a0_years)), (q_a0_months, .inl (xy G 0, 60, .inl a0_months)), (q_a0_presses, .inl (xy G 0, 60, .inl a0_presses)), (q_a0_winds, .inl (xy G 0, 60, .inl a0_winds)), (q_a0_skies, .inl (xy G 0, 60, .inl a0_skies)), (q_a0_rains, .inl (xy G 0, 60, .inl a0_rains))] H0) {out : Int32} (h : mX8_oddsTold size signs a0_years a0_months a0_presses a0_winds a0_skies a0_rains p1 = some out) : Met l yX8_oddsTold wsX8_oddsTold ({ frames := 5, cells := 0, slots := 0, locals := 111 }) (xPc G H0 [.ref q_this, .ref q_a0, .int p1]) (xQi H0 (out)) 0 0 xN := by
  refine x_met (by decide) rfl (Nat.le_of_ble_eq_true rfl) ?_
  intro p e s m below meth c ls hH hA hl
  obtain ⟨hx, hb, hr, hlk, hml, hown, hts, hE⟩ := hA
  subst hH
  have hown : s.vm.findClass RX8 = some m.cls := hown
  have hl : lv_has ls 7 [(0, .ref q_this), (1, .ref q_a0), (2, .int p1)] := hl
  have hS : va_S xN s.heap s.heap [] := va_S.rf
  have ho : out = out := rfl
  have J5 : ∀ (v2 : Int32) (v3 : Int32) (v4 : Int32) (ls : Array Slot), lv_has ls 7 [(0, .ref q_this), (1, .ref q_a0), (2, .int v2), (3, .int v3), (4, .int v4)] → ∀ o : Int32, mX8_oddsTold_b5 size signs a0_years a0_months a0_presses a0_winds a0_skies a0_rains v2 v3 v4 = some o → (fun z => z = out) o → xW p l e ({ frames := 5, cells := 0, slots := 0, locals := 111 }) s m [.ref q_this, .ref q_a0, .int p1] below meth c (xQi s.heap (out)) (F0 m 5 ls []) := by
    intro v2 v3 v4 ls hl o h ho
    unfold mX8_oddsTold_b5 at h
    refine x_loop_walk (K := (fun z => z = out)) (motive := fun q : Int32 × Int32 => ∀ ls : Array Slot, lv_has ls 7 [(0, .ref q_this), (1, .ref q_a0), (2, .int (v2)), (3, .int (q.1)), (4, .int (q.2))] → xW p l e ({ frames := 5, cells := 0, slots := 0, locals := 111 }) s m [.ref q_this, .ref q_a0, .int p1] below meth c (xQi s.heap (out)) (F0 m 5 ls [])) ?_ h ho ls hl
    intro K1 e1 i1 q o h ho
    obtain ⟨v3, v4⟩ := q
    intro ls hl
    have hl : lv_has ls 7 [(0, .ref q_this), (1, .ref q_a0), (2, .int v2), (3, .int v3), (4, .int v4)] := hl
    replace h : mX8_oddsTold_s5 size signs a0_years a0_months a0_presses a0_winds a0_skies a0_rains v2 v3 v4 = some o := h
    unfold mX8_oddsTold_s5 at h
    have J102 : ∀ (v3 : Int32) (v4 : Int32) (ls : Array Slot), lv_has ls 7 [(0, .ref q_this), (1, .ref q_a0), (2, .int v2), (3, .int v3), (4, .int v4)] → ∀ o : ((Int32) ⊕ (Int32 × Int32)), mX8_oddsTold_b102 size signs a0_years a0_months a0_presses a0_winds a0_skies a0_rains v2 v3 v4 = some o → K1 o → xW p l e ({ frames := 5, cells := 0, slots := 0, locals := 111 }) s m [.ref q_this, .ref q_a0, .int p1] below meth c (xQi s.heap (out)) (F0 m 102 ls []) := by
      intro v3 v4 ls hl o h ho
      unfold mX8_oddsTold_b102 at h
      refine lv_iinc (v := (v4 + 1)) (lv' := [(4, .int (v4 + 1)), (0, .ref q_this), (1, .ref q_a0), (2, .int v2), (3, .int v3)]) hx hb dX8_oddsTold_102 hl (k := 4) rfl rfl (by decide) rfl (fun ls hl => ?_)
      refine lv_goto (tgt := 5) hx hb dX8_oddsTold_105 (by decide) ?_
      exact i1 (v3, (v4 + 1)) (by cases h; exact ho) ls (lv_sub hl [1, 2, 3, 4, 0] rfl)
    have J101 : ∀ (v4 : Int32) (t0 : Int32) (ls : Array Slot), lv_has ls 7 [(0, .ref q_this), (1, .ref q_a0), (2, .int v2), (4, .int v4)] → ∀ o : ((Int32) ⊕ (Int32 × Int32)), mX8_oddsTold_b101 size signs a0_years a0_months a0_presses a0_winds a0_skies a0_rains v2 v4 t0 = some o → K1 o → xW p l e ({ frames := 5, cells := 0, slots := 0, locals := 111 }) s m [.ref q_this, .ref q_a0, .int p1] below meth c (xQi s.heap (out)) (F0 m 101 ls [.int t0]) := by
      intro v4 t0 ls hl o h ho
      unfold mX8_oddsTold_b101 at h
      refine lv_istore_n (lv' := [(3, .int t0), (0, .ref q_this), (1, .ref q_a0), (2, .int v2), (4, .int v4)]) hx hb dX8_oddsTold_101 rfl hl (by decide) rfl (fun ls hl => ?_)
      exact J102 t0 v4 ls (lv_sub hl [1, 2, 3, 0, 4] rfl) _ h ho
    have J100 : ∀ (v4 : Int32) (ls : Array Slot), lv_has ls 7 [(0, .ref q_this), (1, .ref q_a0), (2, .int v2), (4, .int v4)] → ∀ o : ((Int32) ⊕ (Int32 × Int32)), mX8_oddsTold_b100 size signs a0_years a0_months a0_presses a0_winds a0_skies a0_rains v2 v4 = some o → K1 o → xW p l e ({ frames := 5, cells := 0, slots := 0, locals := 111 }) s m [.ref q_this, .ref q_a0, .int p1] below meth c (xQi s.heap (out)) (F0 m 100 ls []) := by
      intro v4 ls hl o h ho
      unfold mX8_oddsTold_b100 at h
      refine lv_iconst (v := 0) hx hb dX8_oddsTold_100 (by decide) ?_
      exact J101 v4 0 ls (lv_sub hl [0, 1, 2, 3] rfl) _ h ho
    refine lv_iload hx hb dX8_oddsTold_5 (lv_at hl 4 rfl) ?_
    refine lv_aload_n hx hb dX8_oddsTold_7 rfl (lv_at hl 0 rfl) ?_
    refine va_get (D := xD G) (ci := 8) (v := .int size) (C := RX8) (T := TX8) (N := 2) hx hb hts (fun w9 h9 => (List.mem_cons_of_mem _ (List.mem_append_left _ (List.mem_append_right _ h9)))) hown hE.1 hP 0 rfl rfl 0 (by decide) (hts (.fieldLink RX8 15 "FallingGlass$Text" "size" "I") (List.mem_of_getElem? (i := 1) rfl)) (fun _ h9 => h9) rfl dX8_oddsTold_8 ?_
    refine lv_icmp_ge (tgt := 108) hx hb dX8_oddsTold_11 (by decide) (fun hc401 => ?_) (fun hc401 => ?_)
    · replace h := (if_pos hc401).symm.trans h
      refine lv_bipush (v := (-6)) hx hb dX8_oddsTold_108 (by decide) ?_
      have hq : (-6) = out := by cases h; exact (e1 _ ho)
      subst hq
      exact x_iret hx hb hr hlk rfl rfl dX8_oddsTold_110
    · replace h := (if_neg hc401).symm.trans h
      refine lv_aload_n hx hb dX8_oddsTold_14 rfl (lv_at hl 0 rfl) ?_
      refine va_get (D := xD G) (ci := 8) (v := .ref q_signs) (C := RX8) (T := TX8) (N := 2) hx hb hts (fun w9 h9 => (List.mem_cons_of_mem _ (List.mem_append_left _ (List.mem_append_right _ h9)))) hown hE.1 hP 0 rfl rfl 1 (by decide) (hts (.fieldLink RX8 9 "FallingGlass$Text" "signs" "[I") (List.mem_of_getElem? (i := 2) rfl)) (fun _ h9 => h9) rfl dX8_oddsTold_15 ?_
      refine lv_iload hx hb dX8_oddsTold_18 (lv_at hl 4 rfl) ?_
      obtain ⟨r402, hr402, h⟩ := x_bind h
      have hPr402 : va_P (xD G) vwCl [(q_signs, .inl (xy G 0, 50, .inl signs))] s.heap := hP.sub [1] rfl
      refine x_calli (va_runSN (As := [.ref q_signs, .int v4]) (rest := []) ⟨hx, hb, hml, hown, hts⟩ (kX9_at l G s.heap hPr402 hr402) ⟨va_cnB 2 hts gX8_oddsTold_X9_at_n27 rfl rfl rfl (hE.nm 26 rfl) (hts (.initialized RX9) (List.mem_of_getElem? (i := 4) rfl)) (by decide +kernel) ⟨Nat.le_of_ble_eq_true rfl, Nat.le_of_ble_eq_true rfl⟩, (hts (.static yX9_at) (List.mem_of_getElem? (i := 3) rfl)), trivial⟩ (x_preS hE hS) rfl rfl hl.1 rfl (lv_room (Nat.le_of_ble_eq_true rfl)) dX8_oddsTold_20 ⟨Nat.le_of_ble_eq_true rfl, Nat.le_of_ble_eq_true rfl⟩) ?_
      refine lv_istore (lv' := [(5, .int r402), (0, .ref q_this), (1, .ref q_a0), (2, .int v2), (3, .int v3), (4, .int v4)]) hx hb dX8_oddsTold_23 hl (by decide) rfl (fun ls hl => ?_)
      refine lv_iload hx hb dX8_oddsTold_25 (lv_at hl 0 rfl) ?_
      refine lv_bipush (v := 58) hx hb dX8_oddsTold_27 (by decide) ?_
      refine lv_icmp_ne (tgt := 56) hx hb dX8_oddsTold_29 (by decide) (fun hc403 => ?_) (fun hc403 => ?_)
      · replace h := (if_neg hc403).symm.trans h
        refine lv_iload hx hb dX8_oddsTold_56 (lv_at hl 0 rfl) ?_
        obtain ⟨r404, hr404, h⟩ := x_bind h
        refine x_calli (va_runS (As := [.int r402]) (rest := []) ⟨hx, hb, hml, hown, hts⟩ (kX8_isLetter l G s.heap hr404) (va_cwS 1 hts gX8_oddsTold_X8_isLetter rfl rfl rfl (by decide +kernel) ⟨Nat.le_of_ble_eq_true rfl, Nat.le_of_ble_eq_true rfl⟩) (x_preS hE hS) rfl rfl hl.1 rfl (lv_room (Nat.le_of_ble_eq_true rfl)) dX8_oddsTold_58 ⟨Nat.le_of_ble_eq_true rfl, Nat.le_of_ble_eq_true rfl⟩) ?_
        refine lv_if_eq (tgt := 102) hx hb dX8_oddsTold_61 (by decide) (fun hc405 => ?_) (fun hc405 => ?_)
        · replace h := (if_pos hc405).symm.trans h
          exact J102 v3 v4 ls (lv_sub hl [1, 2, 3, 4, 5] rfl) _ h ho
        · replace h := (if_neg hc405).symm.trans h
          refine lv_aload_n hx hb dX8_oddsTold_64 rfl (lv_at hl 2 rfl) ?_
          refine lv_iload_n hx hb dX8_oddsTold_65 rfl (lv_at hl 3 rfl) ?_
          refine va_ldcS hx hb hown hE.sr dX8_oddsTold_66 ?_
          refine lv_iload hx hb dX8_oddsTold_68 (lv_at hl 0 rfl) ?_
          refine lv_i2c (v := ((Int32.toUInt32 r402) % 65536).toInt32) hx hb dX8_oddsTold_70 rfl ?_
          obtain ⟨r406, hr406, h⟩ := x_bind h
          refine x_calli (va_runV (As := [.int (((Int32.toUInt32 r402) % 65536).toInt32)]) (rest := [.int v2, .ref q_a0]) ⟨hx, hb, hml, hown, hts⟩ (kJ0_indexOf_0f7a4S l G s.heap hr406) (cwV 1 hts gX8_oddsTold_J0_indexOf_0f7a4 rfl rfl rfl (by decide +kernel) ⟨Nat.le_of_ble_eq_true rfl, Nat.le_of_ble_eq_true rfl⟩) (x_preVs hE hS) rfl rfl hl.1 rfl (lv_room (Nat.le_of_ble_eq_true rfl)) dX8_oddsTold_71 ⟨Nat.le_of_ble_eq_true rfl, Nat.le_of_ble_eq_true rfl⟩) ?_
          obtain ⟨r407, hr407, h⟩ := x_bind h
          have hPr407 : va_P (xD G) vwCl [(q_a0, .inr (0, [.int a0_days, .ref q_a0_years, .ref q_a0_months, .ref q_a0_presses, .ref q_a0_winds, .ref q_a0_skies, .ref q_a0_rains, .ref q_a0_wires, .ref q_a0_kinds])), (q_a0_years, .inl (xy G 0, 60, .inl a0_years)), (q_a0_months, .inl (xy G 0, 60, .inl a0_months)), (q_a0_presses, .inl (xy G 0, 60, .inl a0_presses)), (q_a0_winds, .inl (xy G 0, 60, .inl a0_winds)), (q_a0_skies, .inl (xy G 0, 60, .inl a0_skies)), (q_a0_rains, .inl (xy G 0, 60, .inl a0_rains))] s.heap := hP.sub [2, 3, 4, 5, 6, 7, 8] rfl
          refine x_calli (va_runV (As := [.int v2, .int r406]) (rest := []) ⟨hx, hb, hml, hown, hts⟩ (kX0_lookOf l G s.heap hPr407 hr407) (cwV 2 hts gX8_oddsTold_X0_lookOf rfl rfl rfl (by decide +kernel) ⟨Nat.le_of_ble_eq_true rfl, Nat.le_of_ble_eq_true rfl⟩) (x_preV hE hS hP (ci := 0) (q0 := 2) rfl rfl) rfl rfl hl.1 rfl (lv_room (Nat.le_of_ble_eq_true rfl)) dX8_oddsTold_74 ⟨Nat.le_of_ble_eq_true rfl, Nat.le_of_ble_eq_true rfl⟩) ?_
          refine lv_istore (lv' := [(6, .int r407), (5, .int r402), (0, .ref q_this), (1, .ref q_a0), (2, .int v2), (3, .int v3), (4, .int v4)]) hx hb dX8_oddsTold_77 hl (by decide) rfl (fun ls hl => ?_)
          refine lv_iload_n hx hb dX8_oddsTold_79 rfl (lv_at hl 5 rfl) ?_
          refine lv_if_eq (tgt := 100) hx hb dX8_oddsTold_80 (by decide) (fun hc408 => ?_) (fun hc408 => ?_)
          · replace h := (if_pos hc408).symm.trans h
            exact J100 v4 ls (lv_sub hl [2, 3, 4, 6] rfl) _ h ho
          · replace h := (if_neg hc408).symm.trans h
            refine lv_aload_n hx hb dX8_oddsTold_83 rfl (lv_at hl 2 rfl) ?_
            refine lv_iload hx hb dX8_oddsTold_84 (lv_at hl 0 rfl) ?_
            refine lv_iload hx hb dX8_oddsTold_86 (lv_at hl 6 rfl) ?_
            refine lv_iconst (v := 1) hx hb dX8_oddsTold_88 (by decide) ?_
            refine lv_iadd hx hb dX8_oddsTold_89 ?_
            obtain ⟨r409, hr409, h⟩ := x_bind h
            have hPr409 : va_P (xD G) vwCl [(q_this, .inr (8, [.int size, .ref q_signs])), (q_signs, .inl (xy G 0, 50, .inl signs))] s.heap := hP.sub [0, 1] rfl
            refine x_calli (va_runV (As := [.int r407, .int (v4 + 1)]) (rest := []) ⟨hx, hb, hml, hown, hts⟩ (kX8_testFits l G s.heap hPr409 hr409) (cwV 2 hts gX8_oddsTold_X8_testFits rfl rfl rfl (by decide +kernel) ⟨Nat.le_of_ble_eq_true rfl, Nat.le_of_ble_eq_true rfl⟩) (x_preV hE hS hP (ci := 8) (q0 := 0) rfl rfl) rfl rfl hl.1 rfl (lv_room (Nat.le_of_ble_eq_true rfl)) dX8_oddsTold_90 ⟨Nat.le_of_ble_eq_true rfl, Nat.le_of_ble_eq_true rfl⟩) ?_
            refine lv_if_eq (tgt := 100) hx hb dX8_oddsTold_93 (by decide) (fun hc410 => ?_) (fun hc410 => ?_)
            · replace h := (if_pos hc410).symm.trans h
              exact J100 v4 ls (lv_sub hl [2, 3, 4, 6] rfl) _ h ho
            · replace h := (if_neg hc410).symm.trans h
              refine lv_iconst (v := 1) hx hb dX8_oddsTold_96 (by decide) ?_
              refine lv_goto (tgt := 101) hx hb dX8_oddsTold_97 (by decide) ?_
              exact J101 v4 1 ls (lv_sub hl [2, 3, 4, 6] rfl) _ h ho
      · replace h := (if_pos hc403).symm.trans h
        refine lv_iload_n hx hb dX8_oddsTold_32 rfl (lv_at hl 4 rfl) ?_
        refine lv_if_eq (tgt := 51) hx hb dX8_oddsTold_33 (by decide) (fun hc411 => ?_) (fun hc411 => ?_)
        · replace h := (if_pos hc411).symm.trans h
          refine lv_iconst (v := 1) hx hb dX8_oddsTold_51 (by decide) ?_
          refine lv_istore_n (lv' := [(3, .int 1), (5, .int r402), (0, .ref q_this), (1, .ref q_a0), (2, .int v2), (4, .int v4)]) hx hb dX8_oddsTold_52 rfl hl (by decide) rfl (fun ls hl => ?_)
          refine lv_goto (tgt := 102) hx hb dX8_oddsTold_53 (by decide) ?_
          exact J102 1 v4 ls (lv_sub hl [2, 3, 4, 0, 5] rfl) _ h ho
        · replace h := (if_neg hc411).symm.trans h
          refine lv_aload_n hx hb dX8_oddsTold_36 rfl (lv_at hl 1 rfl) ?_
          refine va_get (D := xD G) (ci := 8) (v := .ref q_signs) (C := RX8) (T := TX8) (N := 2) hx hb hts (fun w9 h9 => (List.mem_cons_of_mem _ (List.mem_append_left _ (List.mem_append_right _ h9)))) hown hE.1 hP 0 rfl rfl 1 (by decide) (hts (.fieldLink RX8 9 "FallingGlass$Text" "signs" "[I") (List.mem_of_getElem? (i := 2) rfl)) (fun _ h9 => h9) rfl dX8_oddsTold_37 ?_
          refine lv_iload hx hb dX8_oddsTold_40 (lv_at hl 5 rfl) ?_
          refine lv_iconst (v := 1) hx hb dX8_oddsTold_42 (by decide) ?_
          refine lv_iadd hx hb dX8_oddsTold_43 ?_
          obtain ⟨r412, hr412, h⟩ := x_bind h
          have hPr412 : va_P (xD G) vwCl [(q_signs, .inl (xy G 0, 50, .inl signs))] s.heap := hP.sub [1] rfl
          refine x_calli (va_runSN (As := [.ref q_signs, .int (v4 + 1)]) (rest := []) ⟨hx, hb, hml, hown, hts⟩ (kX9_at l G s.heap hPr412 hr412) ⟨va_cnB 2 hts gX8_oddsTold_X9_at_n27 rfl rfl rfl (hE.nm 26 rfl) (hts (.initialized RX9) (List.mem_of_getElem? (i := 4) rfl)) (by decide +kernel) ⟨Nat.le_of_ble_eq_true rfl, Nat.le_of_ble_eq_true rfl⟩, (hts (.static yX9_at) (List.mem_of_getElem? (i := 3) rfl)), trivial⟩ (x_preS hE hS) rfl rfl hl.1 rfl (lv_room (Nat.le_of_ble_eq_true rfl)) dX8_oddsTold_44 ⟨Nat.le_of_ble_eq_true rfl, Nat.le_of_ble_eq_true rfl⟩) ?_
          obtain ⟨r413, hr413, h⟩ := x_bind h
          refine x_calli (va_runS (As := [.int r412]) (rest := []) ⟨hx, hb, hml, hown, hts⟩ (kX8_oddsBy l G s.heap hr413) (va_cwS 1 hts gX8_oddsTold_X8_oddsBy rfl rfl rfl (by decide +kernel) ⟨Nat.le_of_ble_eq_true rfl, Nat.le_of_ble_eq_true rfl⟩) (x_preS hE hS) rfl rfl hl.1 rfl (lv_room (Nat.le_of_ble_eq_true rfl)) dX8_oddsTold_47 ⟨Nat.le_of_ble_eq_true rfl, Nat.le_of_ble_eq_true rfl⟩) ?_
          have hq : r413 = out := by cases h; exact (e1 _ ho)
          subst hq
          exact x_iret hx hb hr hlk rfl rfl dX8_oddsTold_50
  unfold mX8_oddsTold at h
  refine lv_iconst (v := 1) hx hb dX8_oddsTold_0 (by decide) ?_
  refine lv_istore_n (lv' := [(3, .int 1), (0, .ref q_this), (1, .ref q_a0), (2, .int p1)]) hx hb dX8_oddsTold_1 rfl hl (by decide) rfl (fun ls hl => ?_)
  refine lv_iconst (v := 0) hx hb dX8_oddsTold_2 (by decide) ?_
  refine lv_istore (lv' := [(4, .int 0), (3, .int 1), (0, .ref q_this), (1, .ref q_a0), (2, .int p1)]) hx hb dX8_oddsTold_3 hl (by decide) rfl (fun ls hl => ?_)
  exact J5 p1 1 0 ls (lv_sub hl [2, 3, 4, 1, 0] rfl) _ h ho
noncomputable def mX8_add (size : Int32) (signs : Nat → Int32) (p0 : Int32) : Option (Int32 × Int32 × (Nat → Int32)) :=
  if size < 50 then ((mX9_put 50 signs size p0).bind (fun r502 => some ((size + 1), (size + 1), r502))) else (some ((-4), size, signs))
set_option maxHeartbeats 4000000 in
set_option maxRecDepth 100000 in
theorem kX8_add (l : Launch) (G : xG) (H0 : Heap) {q_this q_signs : Nat} {size : Int32} {signs : Nat → Int32} {p0 : Int32} (w0 : va_W) (hw0 : w0 = [(q_this, .inr (8, [.int size, .ref q_signs])), (q_signs, .inl (xy G 0, 50, .inl signs))]) (hP : va_P (xD G) vwCl w0 H0) (hD : va_D (fun _ => True) w0) {out : Int32 × Int32 × (Nat → Int32)} (h : mX8_add size signs p0 = some out) : Met l yX8_add wsX8_add ({ frames := 1, cells := 0, slots := 0, locals := 22 }) (xPcw G (va_A w0 H0.size) H0 [.ref q_this, .int p0]) (xRi G (va_A w0 H0.size) [(q_this, .inr (8, [.int out.2.1, .ref q_signs])), (q_signs, .inl (xy G 0, 50, .inl out.2.2))] (out.1)) 0 0 (va_A w0 H0.size) := by
  refine x_metw (y := yX8_add) (ws := wsX8_add) (rm := { frames := 1, cells := 0, slots := 0, locals := 22 }) (G := G) (H0 := H0) (w0 := w0) (av := [.ref q_this, .int p0]) (mc := 0) (ms := 0) (Qc := (fun A => (xRi G A [(q_this, .inr (8, [.int out.2.1, .ref q_signs])), (q_signs, .inl (xy G 0, 50, .inl out.2.2))] (out.1)))) (by decide) rfl (Nat.le_of_ble_eq_true rfl) hP hD ?_
  clear hP hD
  intro p e s m below meth c ls A H locs hA hAt hnm hl hP hD hS
  subst hw0
  obtain ⟨hx, hb, hr, hlk, hml, hown, hts, hE⟩ := hAt
  have hown : s.vm.findClass RX8 = some m.cls := hown
  have hl : lv_has ls 2 [(0, .ref q_this), (1, .int p0)] := hl
  have ho : out = out := rfl
  unfold mX8_add at h
  refine lv_aload_n hx hb dX8_add_0 rfl (lv_at hl 0 rfl) ?_
  refine va_get (D := xD G) (ci := 8) (v := .int size) (C := RX8) (T := TX8) (N := 2) hx hb hts (fun w9 h9 => (List.mem_cons_of_mem _ (List.mem_append_right _ h9))) hown hE.1 hP 0 rfl rfl 0 (by decide) (hts (.fieldLink RX8 15 "FallingGlass$Text" "size" "I") (List.mem_of_getElem? (i := 1) rfl)) (fun _ h9 => h9) rfl dX8_add_1 ?_
  refine lv_bipush (v := 50) hx hb dX8_add_4 (by decide) ?_
  refine lv_icmp_lt (tgt := 12) hx hb dX8_add_6 (by decide) (fun hc501 => ?_) (fun hc501 => ?_)
  · replace h := (if_pos hc501).symm.trans h
    refine lv_aload_n hx hb dX8_add_12 rfl (lv_at hl 0 rfl) ?_
    refine va_get (D := xD G) (ci := 8) (v := .ref q_signs) (C := RX8) (T := TX8) (N := 2) hx hb hts (fun w9 h9 => (List.mem_cons_of_mem _ (List.mem_append_right _ h9))) hown hE.1 hP 0 rfl rfl 1 (by decide) (hts (.fieldLink RX8 9 "FallingGlass$Text" "signs" "[I") (List.mem_of_getElem? (i := 2) rfl)) (fun _ h9 => h9) rfl dX8_add_13 ?_
    refine lv_aload_n hx hb dX8_add_16 rfl (lv_at hl 0 rfl) ?_
    refine va_get (D := xD G) (ci := 8) (v := .int size) (C := RX8) (T := TX8) (N := 2) hx hb hts (fun w9 h9 => (List.mem_cons_of_mem _ (List.mem_append_right _ h9))) hown hE.1 hP 0 rfl rfl 0 (by decide) (hts (.fieldLink RX8 15 "FallingGlass$Text" "size" "I") (List.mem_of_getElem? (i := 1) rfl)) (fun _ h9 => h9) rfl dX8_add_17 ?_
    refine lv_iload_n hx hb dX8_add_20 rfl (lv_at hl 1 rfl) ?_
    obtain ⟨r502, hr502, h⟩ := x_bind h
    have hPr502 : va_P (xD G) vwCl [(q_signs, .inl (xy G 0, 50, .inl signs))] H := hP.sub [1] rfl
    have hDr502 : va_D A [(q_signs, .inl (xy G 0, 50, .inl signs))] := hD.sub [1] (by decide) rfl
    have hFr502 := va_free (wc := [(q_signs, .inl (xy G 0, 50, .inl signs))]) hD hS hA [1] rfl
    refine x_callwv (wc := [(q_signs, .inl (xy G 0, 50, .inl signs))]) (w1 := [(q_signs, .inl (xy G 0, 50, .inl r502))]) (ws' := [(q_this, .inr (8, [.int size, .ref q_signs])), (q_signs, .inl (xy G 0, 50, .inl r502))]) (va_runSN (As := [.ref q_signs, .int size, .int p0]) (rest := []) ⟨hx, hb, hml, hown, hts⟩ (kX9_put l G H [(q_signs, .inl (xy G 0, 50, .inl signs))] rfl hPr502 (hDr502.weaken (fun _ _ _ _ => trivial)) hr502) ⟨va_cnB 3 hts gX8_add_X9_put_n23 rfl rfl rfl (hE.nm 25 rfl) (hts (.initialized RX9) (List.mem_of_getElem? (i := 4) rfl)) (by decide +kernel) ⟨Nat.le_of_ble_eq_true rfl, Nat.le_of_ble_eq_true rfl⟩, (hts (.static yX9_put) (List.mem_of_getElem? (i := 3) rfl)), trivial⟩ (x_preSw hE hS hFr502) rfl rfl hl.1 rfl (lv_room (Nat.le_of_ble_eq_true rfl)) dX8_add_21 ⟨Nat.le_of_ble_eq_true rfl, Nat.le_of_ble_eq_true rfl⟩) hP hD hS hFr502 [1] [none, some 0] (n := 2) (by decide) rfl rfl rfl (fun H locs hP hD hS => ?_)
    refine lv_aload_n hx hb dX8_add_24 rfl (lv_at hl 0 rfl) ?_
    refine lv_dup hx hb dX8_add_25 rfl ?_
    refine va_get (D := xD G) (ci := 8) (v := .int size) (C := RX8) (T := TX8) (N := 2) hx hb hts (fun w9 h9 => (List.mem_cons_of_mem _ (List.mem_append_right _ h9))) hown hE.1 hP 0 rfl rfl 0 (by decide) (hts (.fieldLink RX8 15 "FallingGlass$Text" "size" "I") (List.mem_of_getElem? (i := 1) rfl)) (fun _ h9 => h9) rfl dX8_add_26 ?_
    refine lv_iconst (v := 1) hx hb dX8_add_29 (by decide) ?_
    refine lv_iadd hx hb dX8_add_30 ?_
    refine va_put (D := xD G) (ci := 8) (v := .int (size + 1)) (ty := .int) (C := RX8) (T := TX8) (N := 2) hx hb hts (fun w9 h9 => (List.mem_cons_of_mem _ (List.mem_append_right _ h9))) tyX8 tyX8_ok nmX8 hown hE.1 hP hD hS 0 rfl rfl 0 (by decide) (hts (.fieldLink RX8 15 "FallingGlass$Text" "size" "I") (List.mem_of_getElem? (i := 1) rfl)) (fun _ h9 => h9) rfl (by decide +kernel) rfl rfl (Nat.le_of_ble_eq_true rfl) dX8_add_31 (fun H locs hP hD hS => ?_)
    have hP : va_P (xD G) vwCl [(q_this, .inr (8, [.int (size + 1), .ref q_signs])), (q_signs, .inl (xy G 0, 50, .inl r502))] H := hP
    have hD : va_D A [(q_this, .inr (8, [.int (size + 1), .ref q_signs])), (q_signs, .inl (xy G 0, 50, .inl r502))] := hD
    refine lv_aload_n hx hb dX8_add_34 rfl (lv_at hl 0 rfl) ?_
    refine va_get (D := xD G) (ci := 8) (v := .int (size + 1)) (C := RX8) (T := TX8) (N := 2) hx hb hts (fun w9 h9 => (List.mem_cons_of_mem _ (List.mem_append_right _ h9))) hown hE.1 hP 0 rfl rfl 0 (by decide) (hts (.fieldLink RX8 15 "FallingGlass$Text" "size" "I") (List.mem_of_getElem? (i := 1) rfl)) (fun _ h9 => h9) rfl dX8_add_35 ?_
    have hq : ((size + 1), (size + 1), r502) = out := by cases h; exact ho
    subst hq
    have hP : va_P (xD G) vwCl [(q_this, .inr (8, [.int (size + 1), .ref q_signs])), (q_signs, .inl (xy G 0, 50, .inl r502))] H := hP
    have hD : va_D A [(q_this, .inr (8, [.int (size + 1), .ref q_signs])), (q_signs, .inl (xy G 0, 50, .inl r502))] := hD
    exact x_iretw hx hb hr hlk hP hD hS rfl dX8_add_38
  · replace h := (if_neg hc501).symm.trans h
    refine lv_bipush (v := (-4)) hx hb dX8_add_9 (by decide) ?_
    have hq : ((-4), size, signs) = out := by cases h; exact ho
    subst hq
    have hP : va_P (xD G) vwCl [(q_this, .inr (8, [.int size, .ref q_signs])), (q_signs, .inl (xy G 0, 50, .inl signs))] H := hP
    have hD : va_D A [(q_this, .inr (8, [.int size, .ref q_signs])), (q_signs, .inl (xy G 0, 50, .inl signs))] := hD
    exact x_iretw hx hb hr hlk hP hD hS rfl dX8_add_11
noncomputable def mX8_erase (size : Int32)  : Option (Int32 × Int32) :=
  some (size, 0)
set_option maxHeartbeats 4000000 in
set_option maxRecDepth 100000 in
theorem kX8_erase (l : Launch) (G : xG) (H0 : Heap) {q_this q_signs : Nat} {size : Int32} (w0 : va_W) (hw0 : w0 = [(q_this, .inr (8, [.int size, .ref q_signs]))]) (hP : va_P (xD G) vwCl w0 H0) (hD : va_D (fun _ => True) w0) {out : Int32 × Int32} (h : mX8_erase size = some out) : Met l yX8_erase wsX8_erase ({ frames := 0, cells := 0, slots := 0, locals := 0 }) (xPcw G (va_A w0 H0.size) H0 [.ref q_this]) (xRi G (va_A w0 H0.size) [(q_this, .inr (8, [.int out.2, .ref q_signs]))] (out.1)) 0 0 (va_A w0 H0.size) := by
  refine x_metw (y := yX8_erase) (ws := wsX8_erase) (rm := { frames := 0, cells := 0, slots := 0, locals := 0 }) (G := G) (H0 := H0) (w0 := w0) (av := [.ref q_this]) (mc := 0) (ms := 0) (Qc := (fun A => (xRi G A [(q_this, .inr (8, [.int out.2, .ref q_signs]))] (out.1)))) (by decide) rfl (Nat.le_of_ble_eq_true rfl) hP hD ?_
  clear hP hD
  intro p e s m below meth c ls A H locs hA hAt hnm hl hP hD hS
  subst hw0
  obtain ⟨hx, hb, hr, hlk, hml, hown, hts, hE⟩ := hAt
  have hown : s.vm.findClass RX8 = some m.cls := hown
  have hl : lv_has ls 2 [(0, .ref q_this)] := hl
  have ho : out = out := rfl
  unfold mX8_erase at h
  refine lv_aload_n hx hb dX8_erase_0 rfl (lv_at hl 0 rfl) ?_
  refine va_get (D := xD G) (ci := 8) (v := .int size) (C := RX8) (T := TX8) (N := 2) hx hb hts (fun w9 h9 => (List.mem_cons_of_mem _ (List.mem_append_right _ h9))) hown hE.1 hP 0 rfl rfl 0 (by decide) (hts (.fieldLink RX8 15 "FallingGlass$Text" "size" "I") (List.mem_of_getElem? (i := 1) rfl)) (fun _ h9 => h9) rfl dX8_erase_1 ?_
  refine lv_istore_n (lv' := [(1, .int size), (0, .ref q_this)]) hx hb dX8_erase_4 rfl hl (by decide) rfl (fun ls hl => ?_)
  refine lv_aload_n hx hb dX8_erase_5 rfl (lv_at hl 1 rfl) ?_
  refine lv_iconst (v := 0) hx hb dX8_erase_6 (by decide) ?_
  refine va_put (D := xD G) (ci := 8) (v := .int 0) (ty := .int) (C := RX8) (T := TX8) (N := 2) hx hb hts (fun w9 h9 => (List.mem_cons_of_mem _ (List.mem_append_right _ h9))) tyX8 tyX8_ok nmX8 hown hE.1 hP hD hS 0 rfl rfl 0 (by decide) (hts (.fieldLink RX8 15 "FallingGlass$Text" "size" "I") (List.mem_of_getElem? (i := 1) rfl)) (fun _ h9 => h9) rfl (by decide +kernel) rfl rfl (Nat.le_of_ble_eq_true rfl) dX8_erase_7 (fun H locs hP hD hS => ?_)
  have hP : va_P (xD G) vwCl [(q_this, .inr (8, [.int 0, .ref q_signs]))] H := hP
  have hD : va_D A [(q_this, .inr (8, [.int 0, .ref q_signs]))] := hD
  refine lv_iload_n hx hb dX8_erase_10 rfl (lv_at hl 0 rfl) ?_
  have hq : (size, 0) = out := by cases h; exact ho
  subst hq
  have hP : va_P (xD G) vwCl [(q_this, .inr (8, [.int 0, .ref q_signs]))] H := hP
  have hD : va_D A [(q_this, .inr (8, [.int 0, .ref q_signs]))] := hD
  exact x_iretw hx hb hr hlk hP hD hS rfl dX8_erase_11
noncomputable def mX8_placeBehindNumber  (p0 : Int32) : Option (Int32) :=
  if p0 = 38 then (some 1) else (if p0 = 58 then (some 7) else (some ((-6))))
set_option maxHeartbeats 4000000 in
set_option maxRecDepth 100000 in
theorem kX8_placeBehindNumber (l : Launch) (G : xG) (H0 : Heap) {p0 : Int32} {out : Int32} (h : mX8_placeBehindNumber p0 = some out) : Met l yX8_placeBehindNumber wsX8_placeBehindNumber ({ frames := 0, cells := 0, slots := 0, locals := 0 }) (xPc G H0 [.int p0]) (xQi H0 (out)) 0 0 xN := by
  refine x_met (by decide) rfl (Nat.le_of_ble_eq_true rfl) ?_
  intro p e s m below meth c ls hH hA hl
  obtain ⟨hx, hb, hr, hlk, hml, hown, hts, hE⟩ := hA
  subst hH
  have hown : s.vm.findClass RX8 = some m.cls := hown
  have hl : lv_has ls 1 [(0, .int p0)] := hl
  have hS : va_S xN s.heap s.heap [] := va_S.rf
  have ho : out = out := rfl
  unfold mX8_placeBehindNumber at h
  refine lv_iload_n hx hb dX8_placeBehindNumber_0 rfl (lv_at hl 0 rfl) ?_
  refine lv_bipush (v := 38) hx hb dX8_placeBehindNumber_1 (by decide) ?_
  refine lv_icmp_ne (tgt := 10) hx hb dX8_placeBehindNumber_3 (by decide) (fun hc501 => ?_) (fun hc501 => ?_)
  · replace h := (if_neg hc501).symm.trans h
    refine lv_iload_n hx hb dX8_placeBehindNumber_10 rfl (lv_at hl 0 rfl) ?_
    refine lv_bipush (v := 58) hx hb dX8_placeBehindNumber_11 (by decide) ?_
    refine lv_icmp_ne (tgt := 21) hx hb dX8_placeBehindNumber_13 (by decide) (fun hc502 => ?_) (fun hc502 => ?_)
    · replace h := (if_neg hc502).symm.trans h
      refine lv_bipush (v := (-6)) hx hb dX8_placeBehindNumber_21 (by decide) ?_
      have hq : (-6) = out := by cases h; exact ho
      subst hq
      exact x_iret hx hb hr hlk rfl rfl dX8_placeBehindNumber_23
    · replace h := (if_pos hc502).symm.trans h
      refine lv_bipush (v := 7) hx hb dX8_placeBehindNumber_16 (by decide) ?_
      refine lv_goto (tgt := 23) hx hb dX8_placeBehindNumber_18 (by decide) ?_
      have hq : 7 = out := by cases h; exact ho
      subst hq
      exact x_iret hx hb hr hlk rfl rfl dX8_placeBehindNumber_23
  · replace h := (if_pos hc501).symm.trans h
    refine lv_iconst (v := 1) hx hb dX8_placeBehindNumber_6 (by decide) ?_
    refine lv_goto (tgt := 23) hx hb dX8_placeBehindNumber_7 (by decide) ?_
    have hq : 1 = out := by cases h; exact ho
    subst hq
    exact x_iret hx hb hr hlk rfl rfl dX8_placeBehindNumber_23
noncomputable def mX8_placeBehind  (p0 : Int32) (p1 : Int32) : Option (Int32) :=
  if p0 = 0 then (if p1 = 42 then (some 6) else ((mX8_isLetter p1).bind (fun r503 => if (xb r503) = 0 then (some ((-6))) else (some 2)))) else (if p0 = 1 then ((mX8_isLetter p1).bind (fun r505 => if (xb r505) = 0 then (some ((-6))) else (some 2))) else (if p0 = 2 then (if p1 = 60 then (some 3) else (if p1 = 62 then (some 3) else (if p1 = 61 then (some 3) else (some ((-6)))))) else (if p0 = 3 then ((mX9_isDigit p1).bind (fun r510 => if (xb r510) = 0 then (some ((-6))) else (some 4))) else (if p0 = 4 then ((mX9_isDigit p1).bind (fun r512 => if (xb r512) = 0 then ((mX8_placeBehindNumber p1).bind (fun r514 => some r514)) else (some 5))) else (if p0 = 5 then ((mX8_placeBehindNumber p1).bind (fun r515 => some r515)) else (if p0 = 6 then (if p1 = 58 then (some 7) else (some ((-6)))) else (if p0 = 7 then ((mX9_isDigit p1).bind (fun r517 => if (xb r517) = 0 then (if p1 = 120 then (some 8) else (some ((-6)))) else (some 8))) else (if p0 = 8 then (if p1 = 59 then (some 0) else (some ((-6)))) else (some ((-6)))))))))))
set_option maxHeartbeats 4000000 in
set_option maxRecDepth 100000 in
theorem kX8_placeBehind (l : Launch) (G : xG) (H0 : Heap) {p0 : Int32} {p1 : Int32} {out : Int32} (h : mX8_placeBehind p0 p1 = some out) : Met l yX8_placeBehind wsX8_placeBehind ({ frames := 5, cells := 0, slots := 0, locals := 111 }) (xPc G H0 [.int p0, .int p1]) (xQi H0 (out)) 0 0 xN := by
  refine x_met (by decide) rfl (Nat.le_of_ble_eq_true rfl) ?_
  intro p e s m below meth c ls hH hA hl
  obtain ⟨hx, hb, hr, hlk, hml, hown, hts, hE⟩ := hA
  subst hH
  have hown : s.vm.findClass RX8 = some m.cls := hown
  have hl : lv_has ls 2 [(0, .int p0), (1, .int p1)] := hl
  have hS : va_S xN s.heap s.heap [] := va_S.rf
  have ho : out = out := rfl
  unfold mX8_placeBehind at h
  refine lv_iload_n hx hb dX8_placeBehind_0 rfl (lv_at hl 0 rfl) ?_
  by_cases hk501_0 : p0 = 0
  · replace h := (if_pos hk501_0).symm.trans h
    refine lv_tableIn (tgt := 52) hx hb dX8_placeBehind_1 (by rw [hk501_0]; decide) (by rw [hk501_0]; decide) (by rw [hk501_0]; rfl) (by decide) ?_
    refine lv_iload_n hx hb dX8_placeBehind_52 rfl (lv_at hl 1 rfl) ?_
    refine lv_bipush (v := 42) hx hb dX8_placeBehind_53 (by decide) ?_
    refine lv_icmp_ne (tgt := 63) hx hb dX8_placeBehind_55 (by decide) (fun hc502 => ?_) (fun hc502 => ?_)
    · replace h := (if_neg hc502).symm.trans h
      refine lv_iload_n hx hb dX8_placeBehind_63 rfl (lv_at hl 1 rfl) ?_
      obtain ⟨r503, hr503, h⟩ := x_bind h
      refine x_calli (va_runS (As := [.int p1]) (rest := []) ⟨hx, hb, hml, hown, hts⟩ (kX8_isLetter l G s.heap hr503) (va_cwS 1 hts gX8_placeBehind_X8_isLetter rfl rfl rfl (by decide +kernel) ⟨Nat.le_of_ble_eq_true rfl, Nat.le_of_ble_eq_true rfl⟩) (x_preS hE hS) rfl rfl hl.1 rfl (lv_room (Nat.le_of_ble_eq_true rfl)) dX8_placeBehind_64 ⟨Nat.le_of_ble_eq_true rfl, Nat.le_of_ble_eq_true rfl⟩) ?_
      refine lv_if_eq (tgt := 74) hx hb dX8_placeBehind_67 (by decide) (fun hc504 => ?_) (fun hc504 => ?_)
      · replace h := (if_pos hc504).symm.trans h
        refine lv_bipush (v := (-6)) hx hb dX8_placeBehind_74 (by decide) ?_
        have hq : (-6) = out := by cases h; exact ho
        subst hq
        exact x_iret hx hb hr hlk rfl rfl dX8_placeBehind_76
      · replace h := (if_neg hc504).symm.trans h
        refine lv_iconst (v := 2) hx hb dX8_placeBehind_70 (by decide) ?_
        refine lv_goto (tgt := 76) hx hb dX8_placeBehind_71 (by decide) ?_
        have hq : 2 = out := by cases h; exact ho
        subst hq
        exact x_iret hx hb hr hlk rfl rfl dX8_placeBehind_76
    · replace h := (if_pos hc502).symm.trans h
      refine lv_bipush (v := 6) hx hb dX8_placeBehind_58 (by decide) ?_
      refine lv_goto (tgt := 76) hx hb dX8_placeBehind_60 (by decide) ?_
      have hq : 6 = out := by cases h; exact ho
      subst hq
      exact x_iret hx hb hr hlk rfl rfl dX8_placeBehind_76
  · replace h := (if_neg hk501_0).symm.trans h
    by_cases hk501_1 : p0 = 1
    · replace h := (if_pos hk501_1).symm.trans h
      refine lv_tableIn (tgt := 77) hx hb dX8_placeBehind_1 (by rw [hk501_1]; decide) (by rw [hk501_1]; decide) (by rw [hk501_1]; rfl) (by decide) ?_
      refine lv_iload_n hx hb dX8_placeBehind_77 rfl (lv_at hl 1 rfl) ?_
      obtain ⟨r505, hr505, h⟩ := x_bind h
      refine x_calli (va_runS (As := [.int p1]) (rest := []) ⟨hx, hb, hml, hown, hts⟩ (kX8_isLetter l G s.heap hr505) (va_cwS 1 hts gX8_placeBehind_X8_isLetter rfl rfl rfl (by decide +kernel) ⟨Nat.le_of_ble_eq_true rfl, Nat.le_of_ble_eq_true rfl⟩) (x_preS hE hS) rfl rfl hl.1 rfl (lv_room (Nat.le_of_ble_eq_true rfl)) dX8_placeBehind_78 ⟨Nat.le_of_ble_eq_true rfl, Nat.le_of_ble_eq_true rfl⟩) ?_
      refine lv_if_eq (tgt := 88) hx hb dX8_placeBehind_81 (by decide) (fun hc506 => ?_) (fun hc506 => ?_)
      · replace h := (if_pos hc506).symm.trans h
        refine lv_bipush (v := (-6)) hx hb dX8_placeBehind_88 (by decide) ?_
        have hq : (-6) = out := by cases h; exact ho
        subst hq
        exact x_iret hx hb hr hlk rfl rfl dX8_placeBehind_90
      · replace h := (if_neg hc506).symm.trans h
        refine lv_iconst (v := 2) hx hb dX8_placeBehind_84 (by decide) ?_
        refine lv_goto (tgt := 90) hx hb dX8_placeBehind_85 (by decide) ?_
        have hq : 2 = out := by cases h; exact ho
        subst hq
        exact x_iret hx hb hr hlk rfl rfl dX8_placeBehind_90
    · replace h := (if_neg hk501_1).symm.trans h
      by_cases hk501_2 : p0 = 2
      · replace h := (if_pos hk501_2).symm.trans h
        refine lv_tableIn (tgt := 91) hx hb dX8_placeBehind_1 (by rw [hk501_2]; decide) (by rw [hk501_2]; decide) (by rw [hk501_2]; rfl) (by decide) ?_
        refine lv_iload_n hx hb dX8_placeBehind_91 rfl (lv_at hl 1 rfl) ?_
        refine lv_bipush (v := 60) hx hb dX8_placeBehind_92 (by decide) ?_
        refine lv_icmp_eq (tgt := 109) hx hb dX8_placeBehind_94 (by decide) (fun hc507 => ?_) (fun hc507 => ?_)
        · replace h := (if_pos hc507).symm.trans h
          refine lv_iconst (v := 3) hx hb dX8_placeBehind_109 (by decide) ?_
          refine lv_goto (tgt := 115) hx hb dX8_placeBehind_110 (by decide) ?_
          have hq : 3 = out := by cases h; exact ho
          subst hq
          exact x_iret hx hb hr hlk rfl rfl dX8_placeBehind_115
        · replace h := (if_neg hc507).symm.trans h
          refine lv_iload_n hx hb dX8_placeBehind_97 rfl (lv_at hl 1 rfl) ?_
          refine lv_bipush (v := 62) hx hb dX8_placeBehind_98 (by decide) ?_
          refine lv_icmp_eq (tgt := 109) hx hb dX8_placeBehind_100 (by decide) (fun hc508 => ?_) (fun hc508 => ?_)
          · replace h := (if_pos hc508).symm.trans h
            refine lv_iconst (v := 3) hx hb dX8_placeBehind_109 (by decide) ?_
            refine lv_goto (tgt := 115) hx hb dX8_placeBehind_110 (by decide) ?_
            have hq : 3 = out := by cases h; exact ho
            subst hq
            exact x_iret hx hb hr hlk rfl rfl dX8_placeBehind_115
          · replace h := (if_neg hc508).symm.trans h
            refine lv_iload_n hx hb dX8_placeBehind_103 rfl (lv_at hl 1 rfl) ?_
            refine lv_bipush (v := 61) hx hb dX8_placeBehind_104 (by decide) ?_
            refine lv_icmp_ne (tgt := 113) hx hb dX8_placeBehind_106 (by decide) (fun hc509 => ?_) (fun hc509 => ?_)
            · replace h := (if_neg hc509).symm.trans h
              refine lv_bipush (v := (-6)) hx hb dX8_placeBehind_113 (by decide) ?_
              have hq : (-6) = out := by cases h; exact ho
              subst hq
              exact x_iret hx hb hr hlk rfl rfl dX8_placeBehind_115
            · replace h := (if_pos hc509).symm.trans h
              refine lv_iconst (v := 3) hx hb dX8_placeBehind_109 (by decide) ?_
              refine lv_goto (tgt := 115) hx hb dX8_placeBehind_110 (by decide) ?_
              have hq : 3 = out := by cases h; exact ho
              subst hq
              exact x_iret hx hb hr hlk rfl rfl dX8_placeBehind_115
      · replace h := (if_neg hk501_2).symm.trans h
        by_cases hk501_3 : p0 = 3
        · replace h := (if_pos hk501_3).symm.trans h
          refine lv_tableIn (tgt := 116) hx hb dX8_placeBehind_1 (by rw [hk501_3]; decide) (by rw [hk501_3]; decide) (by rw [hk501_3]; rfl) (by decide) ?_
          refine lv_iload_n hx hb dX8_placeBehind_116 rfl (lv_at hl 1 rfl) ?_
          obtain ⟨r510, hr510, h⟩ := x_bind h
          refine x_calli (va_runSN (As := [.int p1]) (rest := []) ⟨hx, hb, hml, hown, hts⟩ (kX9_isDigit l G s.heap hr510) ⟨va_cnB 1 hts gX8_placeBehind_X9_isDigit_n39 rfl rfl rfl (hE.nm 27 rfl) (hts (.initialized RX9) (List.mem_of_getElem? (i := 95) rfl)) (by decide +kernel) ⟨Nat.le_of_ble_eq_true rfl, Nat.le_of_ble_eq_true rfl⟩, (hts (.static yX9_isDigit) (List.mem_of_getElem? (i := 94) rfl)), trivial⟩ (x_preS hE hS) rfl rfl hl.1 rfl (lv_room (Nat.le_of_ble_eq_true rfl)) dX8_placeBehind_117 ⟨Nat.le_of_ble_eq_true rfl, Nat.le_of_ble_eq_true rfl⟩) ?_
          refine lv_if_eq (tgt := 127) hx hb dX8_placeBehind_120 (by decide) (fun hc511 => ?_) (fun hc511 => ?_)
          · replace h := (if_pos hc511).symm.trans h
            refine lv_bipush (v := (-6)) hx hb dX8_placeBehind_127 (by decide) ?_
            have hq : (-6) = out := by cases h; exact ho
            subst hq
            exact x_iret hx hb hr hlk rfl rfl dX8_placeBehind_129
          · replace h := (if_neg hc511).symm.trans h
            refine lv_iconst (v := 4) hx hb dX8_placeBehind_123 (by decide) ?_
            refine lv_goto (tgt := 129) hx hb dX8_placeBehind_124 (by decide) ?_
            have hq : 4 = out := by cases h; exact ho
            subst hq
            exact x_iret hx hb hr hlk rfl rfl dX8_placeBehind_129
        · replace h := (if_neg hk501_3).symm.trans h
          by_cases hk501_4 : p0 = 4
          · replace h := (if_pos hk501_4).symm.trans h
            refine lv_tableIn (tgt := 130) hx hb dX8_placeBehind_1 (by rw [hk501_4]; decide) (by rw [hk501_4]; decide) (by rw [hk501_4]; rfl) (by decide) ?_
            refine lv_iload_n hx hb dX8_placeBehind_130 rfl (lv_at hl 1 rfl) ?_
            obtain ⟨r512, hr512, h⟩ := x_bind h
            refine x_calli (va_runSN (As := [.int p1]) (rest := []) ⟨hx, hb, hml, hown, hts⟩ (kX9_isDigit l G s.heap hr512) ⟨va_cnB 1 hts gX8_placeBehind_X9_isDigit_n39 rfl rfl rfl (hE.nm 27 rfl) (hts (.initialized RX9) (List.mem_of_getElem? (i := 95) rfl)) (by decide +kernel) ⟨Nat.le_of_ble_eq_true rfl, Nat.le_of_ble_eq_true rfl⟩, (hts (.static yX9_isDigit) (List.mem_of_getElem? (i := 94) rfl)), trivial⟩ (x_preS hE hS) rfl rfl hl.1 rfl (lv_room (Nat.le_of_ble_eq_true rfl)) dX8_placeBehind_131 ⟨Nat.le_of_ble_eq_true rfl, Nat.le_of_ble_eq_true rfl⟩) ?_
            refine lv_if_eq (tgt := 141) hx hb dX8_placeBehind_134 (by decide) (fun hc513 => ?_) (fun hc513 => ?_)
            · replace h := (if_pos hc513).symm.trans h
              refine lv_iload_n hx hb dX8_placeBehind_141 rfl (lv_at hl 1 rfl) ?_
              obtain ⟨r514, hr514, h⟩ := x_bind h
              refine x_calli (va_runS (As := [.int p1]) (rest := []) ⟨hx, hb, hml, hown, hts⟩ (kX8_placeBehindNumber l G s.heap hr514) (va_cwS 1 hts gX8_placeBehind_X8_placeBehindNumber rfl rfl rfl (by decide +kernel) ⟨Nat.le_of_ble_eq_true rfl, Nat.le_of_ble_eq_true rfl⟩) (x_preS hE hS) rfl rfl hl.1 rfl (lv_room (Nat.le_of_ble_eq_true rfl)) dX8_placeBehind_142 ⟨Nat.le_of_ble_eq_true rfl, Nat.le_of_ble_eq_true rfl⟩) ?_
              have hq : r514 = out := by cases h; exact ho
              subst hq
              exact x_iret hx hb hr hlk rfl rfl dX8_placeBehind_145
            · replace h := (if_neg hc513).symm.trans h
              refine lv_iconst (v := 5) hx hb dX8_placeBehind_137 (by decide) ?_
              refine lv_goto (tgt := 145) hx hb dX8_placeBehind_138 (by decide) ?_
              have hq : 5 = out := by cases h; exact ho
              subst hq
              exact x_iret hx hb hr hlk rfl rfl dX8_placeBehind_145
          · replace h := (if_neg hk501_4).symm.trans h
            by_cases hk501_5 : p0 = 5
            · replace h := (if_pos hk501_5).symm.trans h
              refine lv_tableIn (tgt := 146) hx hb dX8_placeBehind_1 (by rw [hk501_5]; decide) (by rw [hk501_5]; decide) (by rw [hk501_5]; rfl) (by decide) ?_
              refine lv_iload_n hx hb dX8_placeBehind_146 rfl (lv_at hl 1 rfl) ?_
              obtain ⟨r515, hr515, h⟩ := x_bind h
              refine x_calli (va_runS (As := [.int p1]) (rest := []) ⟨hx, hb, hml, hown, hts⟩ (kX8_placeBehindNumber l G s.heap hr515) (va_cwS 1 hts gX8_placeBehind_X8_placeBehindNumber rfl rfl rfl (by decide +kernel) ⟨Nat.le_of_ble_eq_true rfl, Nat.le_of_ble_eq_true rfl⟩) (x_preS hE hS) rfl rfl hl.1 rfl (lv_room (Nat.le_of_ble_eq_true rfl)) dX8_placeBehind_147 ⟨Nat.le_of_ble_eq_true rfl, Nat.le_of_ble_eq_true rfl⟩) ?_
              have hq : r515 = out := by cases h; exact ho
              subst hq
              exact x_iret hx hb hr hlk rfl rfl dX8_placeBehind_150
            · replace h := (if_neg hk501_5).symm.trans h
              by_cases hk501_6 : p0 = 6
              · replace h := (if_pos hk501_6).symm.trans h
                refine lv_tableIn (tgt := 151) hx hb dX8_placeBehind_1 (by rw [hk501_6]; decide) (by rw [hk501_6]; decide) (by rw [hk501_6]; rfl) (by decide) ?_
                refine lv_iload_n hx hb dX8_placeBehind_151 rfl (lv_at hl 1 rfl) ?_
                refine lv_bipush (v := 58) hx hb dX8_placeBehind_152 (by decide) ?_
                refine lv_icmp_ne (tgt := 162) hx hb dX8_placeBehind_154 (by decide) (fun hc516 => ?_) (fun hc516 => ?_)
                · replace h := (if_neg hc516).symm.trans h
                  refine lv_bipush (v := (-6)) hx hb dX8_placeBehind_162 (by decide) ?_
                  have hq : (-6) = out := by cases h; exact ho
                  subst hq
                  exact x_iret hx hb hr hlk rfl rfl dX8_placeBehind_164
                · replace h := (if_pos hc516).symm.trans h
                  refine lv_bipush (v := 7) hx hb dX8_placeBehind_157 (by decide) ?_
                  refine lv_goto (tgt := 164) hx hb dX8_placeBehind_159 (by decide) ?_
                  have hq : 7 = out := by cases h; exact ho
                  subst hq
                  exact x_iret hx hb hr hlk rfl rfl dX8_placeBehind_164
              · replace h := (if_neg hk501_6).symm.trans h
                by_cases hk501_7 : p0 = 7
                · replace h := (if_pos hk501_7).symm.trans h
                  refine lv_tableIn (tgt := 165) hx hb dX8_placeBehind_1 (by rw [hk501_7]; decide) (by rw [hk501_7]; decide) (by rw [hk501_7]; rfl) (by decide) ?_
                  refine lv_iload_n hx hb dX8_placeBehind_165 rfl (lv_at hl 1 rfl) ?_
                  obtain ⟨r517, hr517, h⟩ := x_bind h
                  refine x_calli (va_runSN (As := [.int p1]) (rest := []) ⟨hx, hb, hml, hown, hts⟩ (kX9_isDigit l G s.heap hr517) ⟨va_cnB 1 hts gX8_placeBehind_X9_isDigit_n39 rfl rfl rfl (hE.nm 27 rfl) (hts (.initialized RX9) (List.mem_of_getElem? (i := 95) rfl)) (by decide +kernel) ⟨Nat.le_of_ble_eq_true rfl, Nat.le_of_ble_eq_true rfl⟩, (hts (.static yX9_isDigit) (List.mem_of_getElem? (i := 94) rfl)), trivial⟩ (x_preS hE hS) rfl rfl hl.1 rfl (lv_room (Nat.le_of_ble_eq_true rfl)) dX8_placeBehind_166 ⟨Nat.le_of_ble_eq_true rfl, Nat.le_of_ble_eq_true rfl⟩) ?_
                  refine lv_if_ne (tgt := 178) hx hb dX8_placeBehind_169 (by decide) (fun hc518 => ?_) (fun hc518 => ?_)
                  · replace h := (if_neg hc518).symm.trans h
                    refine lv_bipush (v := 8) hx hb dX8_placeBehind_178 (by decide) ?_
                    refine lv_goto (tgt := 185) hx hb dX8_placeBehind_180 (by decide) ?_
                    have hq : 8 = out := by cases h; exact ho
                    subst hq
                    exact x_iret hx hb hr hlk rfl rfl dX8_placeBehind_185
                  · replace h := (if_pos hc518).symm.trans h
                    refine lv_iload_n hx hb dX8_placeBehind_172 rfl (lv_at hl 1 rfl) ?_
                    refine lv_bipush (v := 120) hx hb dX8_placeBehind_173 (by decide) ?_
                    refine lv_icmp_ne (tgt := 183) hx hb dX8_placeBehind_175 (by decide) (fun hc519 => ?_) (fun hc519 => ?_)
                    · replace h := (if_neg hc519).symm.trans h
                      refine lv_bipush (v := (-6)) hx hb dX8_placeBehind_183 (by decide) ?_
                      have hq : (-6) = out := by cases h; exact ho
                      subst hq
                      exact x_iret hx hb hr hlk rfl rfl dX8_placeBehind_185
                    · replace h := (if_pos hc519).symm.trans h
                      refine lv_bipush (v := 8) hx hb dX8_placeBehind_178 (by decide) ?_
                      refine lv_goto (tgt := 185) hx hb dX8_placeBehind_180 (by decide) ?_
                      have hq : 8 = out := by cases h; exact ho
                      subst hq
                      exact x_iret hx hb hr hlk rfl rfl dX8_placeBehind_185
                · replace h := (if_neg hk501_7).symm.trans h
                  by_cases hk501_8 : p0 = 8
                  · replace h := (if_pos hk501_8).symm.trans h
                    refine lv_tableIn (tgt := 186) hx hb dX8_placeBehind_1 (by rw [hk501_8]; decide) (by rw [hk501_8]; decide) (by rw [hk501_8]; rfl) (by decide) ?_
                    refine lv_iload_n hx hb dX8_placeBehind_186 rfl (lv_at hl 1 rfl) ?_
                    refine lv_bipush (v := 59) hx hb dX8_placeBehind_187 (by decide) ?_
                    refine lv_icmp_ne (tgt := 196) hx hb dX8_placeBehind_189 (by decide) (fun hc520 => ?_) (fun hc520 => ?_)
                    · replace h := (if_neg hc520).symm.trans h
                      refine lv_bipush (v := (-6)) hx hb dX8_placeBehind_196 (by decide) ?_
                      have hq : (-6) = out := by cases h; exact ho
                      subst hq
                      exact x_iret hx hb hr hlk rfl rfl dX8_placeBehind_198
                    · replace h := (if_pos hc520).symm.trans h
                      refine lv_iconst (v := 0) hx hb dX8_placeBehind_192 (by decide) ?_
                      refine lv_goto (tgt := 198) hx hb dX8_placeBehind_193 (by decide) ?_
                      have hq : 0 = out := by cases h; exact ho
                      subst hq
                      exact x_iret hx hb hr hlk rfl rfl dX8_placeBehind_198
                  · replace h := (if_neg hk501_8).symm.trans h
                    refine lv_tableOut (tgt := 199) hx hb dX8_placeBehind_1 (by have hk501_0T := lv_neT hk501_0 (a := 0) (by decide); have hk501_1T := lv_neT hk501_1 (a := 1) (by decide); have hk501_2T := lv_neT hk501_2 (a := 2) (by decide); have hk501_3T := lv_neT hk501_3 (a := 3) (by decide); have hk501_4T := lv_neT hk501_4 (a := 4) (by decide); have hk501_5T := lv_neT hk501_5 (a := 5) (by decide); have hk501_6T := lv_neT hk501_6 (a := 6) (by decide); have hk501_7T := lv_neT hk501_7 (a := 7) (by decide); have hk501_8T := lv_neT hk501_8 (a := 8) (by decide); omega) (by decide) ?_
                    refine lv_bipush (v := (-6)) hx hb dX8_placeBehind_199 (by decide) ?_
                    have hq : (-6) = out := by cases h; exact ho
                    subst hq
                    exact x_iret hx hb hr hlk rfl rfl dX8_placeBehind_201
noncomputable def mX8_firstFault_s4 (size : Int32) (signs : Nat → Int32)  (v1 : Int32) (v2 : Int32) : Option (((Int32) ⊕ (Int32 × Int32))) :=
  if size ≤ v2 then (if v1 = 8 then (some (.inl ((-6)))) else (some (.inl size))) else ((mX9_at 50 signs v2).bind (fun r103 => (mX8_placeBehind v1 r103).bind (fun r104 => if r104 = (-6) then (some (.inl v2)) else (some (.inr (r104, (v2 + 1)))))))
noncomputable def mX8_firstFault_b4 (size : Int32) (signs : Nat → Int32) (v1 : Int32) (v2 : Int32) : Option (Int32) :=
  x_loop (fun q : Int32 × Int32 => mX8_firstFault_s4 size signs (q.1) (q.2)) (v1, v2)
noncomputable def mX8_firstFault (size : Int32) (signs : Nat → Int32)  : Option (Int32) :=
  mX8_firstFault_b4 size signs 0 0
set_option maxHeartbeats 4000000 in
set_option maxRecDepth 100000 in
theorem kX8_firstFault (l : Launch) (G : xG) (H0 : Heap) {q_this q_signs : Nat} {size : Int32} {signs : Nat → Int32} (hP : va_P (xD G) vwCl [(q_this, .inr (8, [.int size, .ref q_signs])), (q_signs, .inl (xy G 0, 50, .inl signs))] H0) {out : Int32} (h : mX8_firstFault size signs = some out) : Met l yX8_firstFault wsX8_firstFault ({ frames := 6, cells := 0, slots := 0, locals := 132 }) (xPc G H0 [.ref q_this]) (xQi H0 (out)) 0 0 xN := by
  refine x_met (by decide) rfl (Nat.le_of_ble_eq_true rfl) ?_
  intro p e s m below meth c ls hH hA hl
  obtain ⟨hx, hb, hr, hlk, hml, hown, hts, hE⟩ := hA
  subst hH
  have hown : s.vm.findClass RX8 = some m.cls := hown
  have hl : lv_has ls 3 [(0, .ref q_this)] := hl
  have hS : va_S xN s.heap s.heap [] := va_S.rf
  have ho : out = out := rfl
  have J4 : ∀ (v1 : Int32) (v2 : Int32) (ls : Array Slot), lv_has ls 3 [(0, .ref q_this), (1, .int v1), (2, .int v2)] → ∀ o : Int32, mX8_firstFault_b4 size signs v1 v2 = some o → (fun z => z = out) o → xW p l e ({ frames := 6, cells := 0, slots := 0, locals := 132 }) s m [.ref q_this] below meth c (xQi s.heap (out)) (F0 m 4 ls []) := by
    intro v1 v2 ls hl o h ho
    unfold mX8_firstFault_b4 at h
    refine x_loop_walk (K := (fun z => z = out)) (motive := fun q : Int32 × Int32 => ∀ ls : Array Slot, lv_has ls 3 [(0, .ref q_this), (1, .int (q.1)), (2, .int (q.2))] → xW p l e ({ frames := 6, cells := 0, slots := 0, locals := 132 }) s m [.ref q_this] below meth c (xQi s.heap (out)) (F0 m 4 ls [])) ?_ h ho ls hl
    intro K1 e1 i1 q o h ho
    obtain ⟨v1, v2⟩ := q
    intro ls hl
    have hl : lv_has ls 3 [(0, .ref q_this), (1, .int v1), (2, .int v2)] := hl
    replace h : mX8_firstFault_s4 size signs v1 v2 = some o := h
    unfold mX8_firstFault_s4 at h
    refine lv_iload_n hx hb dX8_firstFault_4 rfl (lv_at hl 2 rfl) ?_
    refine lv_aload_n hx hb dX8_firstFault_5 rfl (lv_at hl 0 rfl) ?_
    refine va_get (D := xD G) (ci := 8) (v := .int size) (C := RX8) (T := TX8) (N := 2) hx hb hts (fun w9 h9 => (List.mem_cons_of_mem _ (List.mem_append_right _ h9))) hown hE.1 hP 0 rfl rfl 0 (by decide) (hts (.fieldLink RX8 15 "FallingGlass$Text" "size" "I") (List.mem_of_getElem? (i := 1) rfl)) (fun _ h9 => h9) rfl dX8_firstFault_6 ?_
    refine lv_icmp_ge (tgt := 39) hx hb dX8_firstFault_9 (by decide) (fun hc101 => ?_) (fun hc101 => ?_)
    · replace h := (if_pos hc101).symm.trans h
      refine lv_iload_n hx hb dX8_firstFault_39 rfl (lv_at hl 1 rfl) ?_
      refine lv_bipush (v := 8) hx hb dX8_firstFault_40 (by decide) ?_
      refine lv_icmp_ne (tgt := 50) hx hb dX8_firstFault_42 (by decide) (fun hc102 => ?_) (fun hc102 => ?_)
      · replace h := (if_neg hc102).symm.trans h
        refine lv_aload_n hx hb dX8_firstFault_50 rfl (lv_at hl 0 rfl) ?_
        refine va_get (D := xD G) (ci := 8) (v := .int size) (C := RX8) (T := TX8) (N := 2) hx hb hts (fun w9 h9 => (List.mem_cons_of_mem _ (List.mem_append_right _ h9))) hown hE.1 hP 0 rfl rfl 0 (by decide) (hts (.fieldLink RX8 15 "FallingGlass$Text" "size" "I") (List.mem_of_getElem? (i := 1) rfl)) (fun _ h9 => h9) rfl dX8_firstFault_51 ?_
        have hq : size = out := by cases h; exact (e1 _ ho)
        subst hq
        exact x_iret hx hb hr hlk rfl rfl dX8_firstFault_54
      · replace h := (if_pos hc102).symm.trans h
        refine lv_bipush (v := (-6)) hx hb dX8_firstFault_45 (by decide) ?_
        refine lv_goto (tgt := 54) hx hb dX8_firstFault_47 (by decide) ?_
        have hq : (-6) = out := by cases h; exact (e1 _ ho)
        subst hq
        exact x_iret hx hb hr hlk rfl rfl dX8_firstFault_54
    · replace h := (if_neg hc101).symm.trans h
      refine lv_iload_n hx hb dX8_firstFault_12 rfl (lv_at hl 1 rfl) ?_
      refine lv_aload_n hx hb dX8_firstFault_13 rfl (lv_at hl 0 rfl) ?_
      refine va_get (D := xD G) (ci := 8) (v := .ref q_signs) (C := RX8) (T := TX8) (N := 2) hx hb hts (fun w9 h9 => (List.mem_cons_of_mem _ (List.mem_append_right _ h9))) hown hE.1 hP 0 rfl rfl 1 (by decide) (hts (.fieldLink RX8 9 "FallingGlass$Text" "signs" "[I") (List.mem_of_getElem? (i := 2) rfl)) (fun _ h9 => h9) rfl dX8_firstFault_14 ?_
      refine lv_iload_n hx hb dX8_firstFault_17 rfl (lv_at hl 2 rfl) ?_
      obtain ⟨r103, hr103, h⟩ := x_bind h
      have hPr103 : va_P (xD G) vwCl [(q_signs, .inl (xy G 0, 50, .inl signs))] s.heap := hP.sub [1] rfl
      refine x_calli (va_runSN (As := [.ref q_signs, .int v2]) (rest := [.int v1]) ⟨hx, hb, hml, hown, hts⟩ (kX9_at l G s.heap hPr103 hr103) ⟨va_cnB 2 hts gX8_firstFault_X9_at_n27 rfl rfl rfl (hE.nm 26 rfl) (hts (.initialized RX9) (List.mem_of_getElem? (i := 4) rfl)) (by decide +kernel) ⟨Nat.le_of_ble_eq_true rfl, Nat.le_of_ble_eq_true rfl⟩, (hts (.static yX9_at) (List.mem_of_getElem? (i := 3) rfl)), trivial⟩ (x_preS hE hS) rfl rfl hl.1 rfl (lv_room (Nat.le_of_ble_eq_true rfl)) dX8_firstFault_18 ⟨Nat.le_of_ble_eq_true rfl, Nat.le_of_ble_eq_true rfl⟩) ?_
      obtain ⟨r104, hr104, h⟩ := x_bind h
      refine x_calli (va_runS (As := [.int v1, .int r103]) (rest := []) ⟨hx, hb, hml, hown, hts⟩ (kX8_placeBehind l G s.heap hr104) (va_cwS 2 hts gX8_firstFault_X8_placeBehind rfl rfl rfl (by decide +kernel) ⟨Nat.le_of_ble_eq_true rfl, Nat.le_of_ble_eq_true rfl⟩) (x_preS hE hS) rfl rfl hl.1 rfl (lv_room (Nat.le_of_ble_eq_true rfl)) dX8_firstFault_21 ⟨Nat.le_of_ble_eq_true rfl, Nat.le_of_ble_eq_true rfl⟩) ?_
      refine lv_istore_n (lv' := [(1, .int r104), (0, .ref q_this), (2, .int v2)]) hx hb dX8_firstFault_24 rfl hl (by decide) rfl (fun ls hl => ?_)
      refine lv_iload_n hx hb dX8_firstFault_25 rfl (lv_at hl 0 rfl) ?_
      refine lv_bipush (v := (-6)) hx hb dX8_firstFault_26 (by decide) ?_
      refine lv_icmp_ne (tgt := 33) hx hb dX8_firstFault_28 (by decide) (fun hc105 => ?_) (fun hc105 => ?_)
      · replace h := (if_neg hc105).symm.trans h
        refine lv_iinc (v := (v2 + 1)) (lv' := [(2, .int (v2 + 1)), (1, .int r104), (0, .ref q_this)]) hx hb dX8_firstFault_33 hl (k := 2) rfl rfl (by decide) rfl (fun ls hl => ?_)
        refine lv_goto (tgt := 4) hx hb dX8_firstFault_36 (by decide) ?_
        exact i1 (r104, (v2 + 1)) (by cases h; exact ho) ls (lv_sub hl [2, 1, 0] rfl)
      · replace h := (if_pos hc105).symm.trans h
        refine lv_iload_n hx hb dX8_firstFault_31 rfl (lv_at hl 2 rfl) ?_
        have hq : v2 = out := by cases h; exact (e1 _ ho)
        subst hq
        exact x_iret hx hb hr hlk rfl rfl dX8_firstFault_32
  unfold mX8_firstFault at h
  refine lv_iconst (v := 0) hx hb dX8_firstFault_0 (by decide) ?_
  refine lv_istore_n (lv' := [(1, .int 0), (0, .ref q_this)]) hx hb dX8_firstFault_1 rfl hl (by decide) rfl (fun ls hl => ?_)
  refine lv_iconst (v := 0) hx hb dX8_firstFault_2 (by decide) ?_
  refine lv_istore_n (lv' := [(2, .int 0), (1, .int 0), (0, .ref q_this)]) hx hb dX8_firstFault_3 rfl hl (by decide) rfl (fun ls hl => ?_)
  exact J4 0 0 ls (lv_sub hl [2, 1, 0] rfl) _ h ho
noncomputable def mX8_countCases_b39 (size : Int32) (signs : Nat → Int32) (v1 : Int32) (v2 : Int32) : Option (((Int32) ⊕ (Int32 × Int32))) :=
  some (.inr (v1, (v2 + 1)))
noncomputable def mX8_countCases_s15 (size : Int32) (signs : Nat → Int32)  (v1 : Int32) (v2 : Int32) : Option (((Int32) ⊕ (Int32 × Int32))) :=
  if size ≤ v2 then (some (.inl v1)) else ((mX9_at 50 signs v2).bind (fun r202 => if r202 = 59 then (mX8_countCases_b39 size signs ((v1 + 1)) v2) else (mX8_countCases_b39 size signs v1 v2)))
noncomputable def mX8_countCases_b15 (size : Int32) (signs : Nat → Int32) (v1 : Int32) (v2 : Int32) : Option (Int32) :=
  x_loop (fun q : Int32 × Int32 => mX8_countCases_s15 size signs (q.1) (q.2)) (v1, v2)
noncomputable def mX8_countCases_b12 (size : Int32) (signs : Nat → Int32) (t0 : Int32) : Option (Int32) :=
  mX8_countCases_b15 size signs t0 0
noncomputable def mX8_countCases (size : Int32) (signs : Nat → Int32)  : Option (Int32) :=
  if size ≤ 0 then (mX8_countCases_b12 size signs 0) else (mX8_countCases_b12 size signs 1)
set_option maxHeartbeats 4000000 in
set_option maxRecDepth 100000 in
theorem kX8_countCases (l : Launch) (G : xG) (H0 : Heap) {q_this q_signs : Nat} {size : Int32} {signs : Nat → Int32} (hP : va_P (xD G) vwCl [(q_this, .inr (8, [.int size, .ref q_signs])), (q_signs, .inl (xy G 0, 50, .inl signs))] H0) {out : Int32} (h : mX8_countCases size signs = some out) : Met l yX8_countCases wsX8_countCases ({ frames := 1, cells := 0, slots := 0, locals := 21 }) (xPc G H0 [.ref q_this]) (xQi H0 (out)) 0 0 xN := by
  refine x_met (by decide) rfl (Nat.le_of_ble_eq_true rfl) ?_
  intro p e s m below meth c ls hH hA hl
  obtain ⟨hx, hb, hr, hlk, hml, hown, hts, hE⟩ := hA
  subst hH
  have hown : s.vm.findClass RX8 = some m.cls := hown
  have hl : lv_has ls 3 [(0, .ref q_this)] := hl
  have hS : va_S xN s.heap s.heap [] := va_S.rf
  have ho : out = out := rfl
  have J15 : ∀ (v1 : Int32) (v2 : Int32) (ls : Array Slot), lv_has ls 3 [(0, .ref q_this), (1, .int v1), (2, .int v2)] → ∀ o : Int32, mX8_countCases_b15 size signs v1 v2 = some o → (fun z => z = out) o → xW p l e ({ frames := 1, cells := 0, slots := 0, locals := 21 }) s m [.ref q_this] below meth c (xQi s.heap (out)) (F0 m 15 ls []) := by
    intro v1 v2 ls hl o h ho
    unfold mX8_countCases_b15 at h
    refine x_loop_walk (K := (fun z => z = out)) (motive := fun q : Int32 × Int32 => ∀ ls : Array Slot, lv_has ls 3 [(0, .ref q_this), (1, .int (q.1)), (2, .int (q.2))] → xW p l e ({ frames := 1, cells := 0, slots := 0, locals := 21 }) s m [.ref q_this] below meth c (xQi s.heap (out)) (F0 m 15 ls [])) ?_ h ho ls hl
    intro K1 e1 i1 q o h ho
    obtain ⟨v1, v2⟩ := q
    intro ls hl
    have hl : lv_has ls 3 [(0, .ref q_this), (1, .int v1), (2, .int v2)] := hl
    replace h : mX8_countCases_s15 size signs v1 v2 = some o := h
    unfold mX8_countCases_s15 at h
    have J39 : ∀ (v1 : Int32) (v2 : Int32) (ls : Array Slot), lv_has ls 3 [(0, .ref q_this), (1, .int v1), (2, .int v2)] → ∀ o : ((Int32) ⊕ (Int32 × Int32)), mX8_countCases_b39 size signs v1 v2 = some o → K1 o → xW p l e ({ frames := 1, cells := 0, slots := 0, locals := 21 }) s m [.ref q_this] below meth c (xQi s.heap (out)) (F0 m 39 ls []) := by
      intro v1 v2 ls hl o h ho
      unfold mX8_countCases_b39 at h
      refine lv_iinc (v := (v2 + 1)) (lv' := [(2, .int (v2 + 1)), (0, .ref q_this), (1, .int v1)]) hx hb dX8_countCases_39 hl (k := 2) rfl rfl (by decide) rfl (fun ls hl => ?_)
      refine lv_goto (tgt := 15) hx hb dX8_countCases_42 (by decide) ?_
      exact i1 (v1, (v2 + 1)) (by cases h; exact ho) ls (lv_sub hl [1, 2, 0] rfl)
    refine lv_iload_n hx hb dX8_countCases_15 rfl (lv_at hl 2 rfl) ?_
    refine lv_aload_n hx hb dX8_countCases_16 rfl (lv_at hl 0 rfl) ?_
    refine va_get (D := xD G) (ci := 8) (v := .int size) (C := RX8) (T := TX8) (N := 2) hx hb hts (fun w9 h9 => (List.mem_cons_of_mem _ (List.mem_append_right _ h9))) hown hE.1 hP 0 rfl rfl 0 (by decide) (hts (.fieldLink RX8 15 "FallingGlass$Text" "size" "I") (List.mem_of_getElem? (i := 1) rfl)) (fun _ h9 => h9) rfl dX8_countCases_17 ?_
    refine lv_icmp_ge (tgt := 45) hx hb dX8_countCases_20 (by decide) (fun hc201 => ?_) (fun hc201 => ?_)
    · replace h := (if_pos hc201).symm.trans h
      refine lv_iload_n hx hb dX8_countCases_45 rfl (lv_at hl 1 rfl) ?_
      have hq : v1 = out := by cases h; exact (e1 _ ho)
      subst hq
      exact x_iret hx hb hr hlk rfl rfl dX8_countCases_46
    · replace h := (if_neg hc201).symm.trans h
      refine lv_aload_n hx hb dX8_countCases_23 rfl (lv_at hl 0 rfl) ?_
      refine va_get (D := xD G) (ci := 8) (v := .ref q_signs) (C := RX8) (T := TX8) (N := 2) hx hb hts (fun w9 h9 => (List.mem_cons_of_mem _ (List.mem_append_right _ h9))) hown hE.1 hP 0 rfl rfl 1 (by decide) (hts (.fieldLink RX8 9 "FallingGlass$Text" "signs" "[I") (List.mem_of_getElem? (i := 2) rfl)) (fun _ h9 => h9) rfl dX8_countCases_24 ?_
      refine lv_iload_n hx hb dX8_countCases_27 rfl (lv_at hl 2 rfl) ?_
      obtain ⟨r202, hr202, h⟩ := x_bind h
      have hPr202 : va_P (xD G) vwCl [(q_signs, .inl (xy G 0, 50, .inl signs))] s.heap := hP.sub [1] rfl
      refine x_calli (va_runSN (As := [.ref q_signs, .int v2]) (rest := []) ⟨hx, hb, hml, hown, hts⟩ (kX9_at l G s.heap hPr202 hr202) ⟨va_cnB 2 hts gX8_countCases_X9_at_n27 rfl rfl rfl (hE.nm 26 rfl) (hts (.initialized RX9) (List.mem_of_getElem? (i := 4) rfl)) (by decide +kernel) ⟨Nat.le_of_ble_eq_true rfl, Nat.le_of_ble_eq_true rfl⟩, (hts (.static yX9_at) (List.mem_of_getElem? (i := 3) rfl)), trivial⟩ (x_preS hE hS) rfl rfl hl.1 rfl (lv_room (Nat.le_of_ble_eq_true rfl)) dX8_countCases_28 ⟨Nat.le_of_ble_eq_true rfl, Nat.le_of_ble_eq_true rfl⟩) ?_
      refine lv_bipush (v := 59) hx hb dX8_countCases_31 (by decide) ?_
      refine lv_icmp_ne (tgt := 39) hx hb dX8_countCases_33 (by decide) (fun hc203 => ?_) (fun hc203 => ?_)
      · replace h := (if_neg hc203).symm.trans h
        exact J39 v1 v2 ls (lv_sub hl [0, 1, 2] rfl) _ h ho
      · replace h := (if_pos hc203).symm.trans h
        refine lv_iinc (v := (v1 + 1)) (lv' := [(1, .int (v1 + 1)), (0, .ref q_this), (2, .int v2)]) hx hb dX8_countCases_36 hl (k := 1) rfl rfl (by decide) rfl (fun ls hl => ?_)
        exact J39 ((v1 + 1)) v2 ls (lv_sub hl [1, 0, 2] rfl) _ h ho
  have J12 : ∀ (t0 : Int32) (ls : Array Slot), lv_has ls 3 [(0, .ref q_this)] → ∀ o : Int32, mX8_countCases_b12 size signs t0 = some o → (fun z => z = out) o → xW p l e ({ frames := 1, cells := 0, slots := 0, locals := 21 }) s m [.ref q_this] below meth c (xQi s.heap (out)) (F0 m 12 ls [.int t0]) := by
    intro t0 ls hl o h ho
    unfold mX8_countCases_b12 at h
    refine lv_istore_n (lv' := [(1, .int t0), (0, .ref q_this)]) hx hb dX8_countCases_12 rfl hl (by decide) rfl (fun ls hl => ?_)
    refine lv_iconst (v := 0) hx hb dX8_countCases_13 (by decide) ?_
    refine lv_istore_n (lv' := [(2, .int 0), (1, .int t0), (0, .ref q_this)]) hx hb dX8_countCases_14 rfl hl (by decide) rfl (fun ls hl => ?_)
    exact J15 t0 0 ls (lv_sub hl [2, 1, 0] rfl) _ h ho
  unfold mX8_countCases at h
  refine lv_aload_n hx hb dX8_countCases_0 rfl (lv_at hl 0 rfl) ?_
  refine va_get (D := xD G) (ci := 8) (v := .int size) (C := RX8) (T := TX8) (N := 2) hx hb hts (fun w9 h9 => (List.mem_cons_of_mem _ (List.mem_append_right _ h9))) hown hE.1 hP 0 rfl rfl 0 (by decide) (hts (.fieldLink RX8 15 "FallingGlass$Text" "size" "I") (List.mem_of_getElem? (i := 1) rfl)) (fun _ h9 => h9) rfl dX8_countCases_1 ?_
  refine lv_if_le (tgt := 11) hx hb dX8_countCases_4 (by decide) (fun hc501 => ?_) (fun hc501 => ?_)
  · replace h := (if_pos hc501).symm.trans h
    refine lv_iconst (v := 0) hx hb dX8_countCases_11 (by decide) ?_
    exact J12 0 ls (lv_sub hl [0] rfl) _ h ho
  · replace h := (if_neg hc501).symm.trans h
    refine lv_iconst (v := 1) hx hb dX8_countCases_7 (by decide) ?_
    refine lv_goto (tgt := 12) hx hb dX8_countCases_8 (by decide) ?_
    exact J12 1 ls (lv_sub hl [0] rfl) _ h ho
