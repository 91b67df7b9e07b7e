/-! laid by program out of the bytecode: for each method its function (m..) and its contract (k..) -/
noncomputable def mX10_isDay (days : Int32) (p0 : Int32) : Option (Bool) :=
  (mX10_in ((Int32.toInt64 p0)) 0 ((Int32.toInt64 ((days - 1))))).bind (fun r501 => some r501)
set_option maxHeartbeats 4000000 in
set_option maxRecDepth 100000 in
theorem kX10_isDay (l : Launch) (G : xG) (H0 : Heap) {q_this q_years q_months q_presses q_winds q_skies q_rains q_wires q_signs q_cases q_caseFrom q_caseTells q_testAsks q_testHow q_testNumber q_glassX q_glassY q_glassPress q_glassWind q_dry q_value q_doing q_kept q_isKept : Nat} {mind : Int32} {needle : Int32} {stick : Int32} {days : Int32} {signMany : Int32} {keys : Int32} {weight : Int32} {care : Int32} {scoreSum : Int64} {scoreDays : Int64} {triedSpoken : Int32} {triedRain : Int32} {triedTaken : Int32} {triedBoth : Int32} {glasses : Int32} {keptAt : Int32} {isWriting : Int32} {p0 : Int32} (hP : va_P (xD G) vwCl [(q_this, .inr (10, [.int mind, .int needle, .int stick, .ref q_years, .ref q_months, .ref q_presses, .ref q_winds, .ref q_skies, .ref q_rains, .ref q_wires, .int days, .ref q_signs, .int signMany, .ref q_cases, .ref q_caseFrom, .ref q_caseTells, .ref q_testAsks, .ref q_testHow, .ref q_testNumber, .int keys, .int weight, .int care, .long scoreSum, .long scoreDays, .int triedSpoken, .int triedRain, .int triedTaken, .int triedBoth, .ref q_glassX, .ref q_glassY, .ref q_glassPress, .ref q_glassWind, .int glasses, .ref q_dry, .ref q_value, .ref q_doing, .ref q_kept, .ref q_isKept, .int keptAt, .int isWriting]))] H0) {out : Bool} (h : mX10_isDay days p0 = some out) : Met l yX10_isDay wsX10_isDay ({ frames := 1, cells := 0, slots := 0, locals := 25 }) (xPc G H0 [.ref q_this, .int p0]) (xQi H0 (xb out)) 0 0 xN := by
  refine x_met (by decide) rfl (Nat.le_of_ble_eq_true rfl) ?_
  intro p e s m below meth c ls hH hA hl
  obtain ⟨hx, hb, hr, hlk, hml, hown, hts, hE⟩ := hA
  subst hH
  have hown : s.vm.findClass RX10 = some m.cls := hown
  have hl : lv_has ls 2 [(0, .ref q_this), (1, .int p0)] := hl
  have hS : va_S xN s.heap s.heap [] := va_S.rf
  have ho : out = out := rfl
  unfold mX10_isDay at h
  refine lv_iload_n hx hb dX10_isDay_0 rfl (lv_at hl 1 rfl) ?_
  refine lv_i2l (v := (Int32.toInt64 p0)) hx hb dX10_isDay_1 rfl ?_
  refine lv_lconst (v := 0) hx hb dX10_isDay_2 (by decide) ?_
  refine lv_aload_n hx hb dX10_isDay_3 rfl (lv_at hl 0 rfl) ?_
  refine va_get (D := xD G) (ci := 10) (v := .int days) (C := RX10) (T := TX10) (N := 40) hx hb hts (fun w9 h9 => (List.mem_cons_of_mem _ (List.mem_append_right _ h9))) hown hE.1 hP 0 rfl rfl 10 (by decide) (hts (.fieldLink RX10 111 "FallingGlassModel" "days" "I") (List.mem_of_getElem? (i := 1) rfl)) (fun _ h9 => h9) rfl dX10_isDay_4 ?_
  refine lv_iconst (v := 1) hx hb dX10_isDay_7 (by decide) ?_
  refine lv_isub hx hb dX10_isDay_8 ?_
  refine lv_i2l (v := (Int32.toInt64 ((days - 1)))) hx hb dX10_isDay_9 rfl ?_
  obtain ⟨r501, hr501, h⟩ := x_bind h
  refine x_calli (va_runS (As := [.long (Int32.toInt64 p0), .long 0, .long (Int32.toInt64 ((days - 1)))]) (rest := []) ⟨hx, hb, hml, hown, hts⟩ (kX10_in l G s.heap hr501) (va_cwS 3 hts gX10_isDay_X10_in rfl rfl rfl (by decide +kernel) ⟨Nat.le_of_ble_eq_true rfl, Nat.le_of_ble_eq_true rfl⟩) (x_preS hE hS) rfl rfl hl.1 rfl (lv_room (Nat.le_of_ble_eq_true rfl)) dX10_isDay_10 ⟨Nat.le_of_ble_eq_true rfl, Nat.le_of_ble_eq_true rfl⟩) ?_
  have hq : r501 = out := by cases h; exact ho
  subst hq
  exact x_zret (b := r501) hx hb hr hlk rfl rfl rfl dX10_isDay_13
noncomputable def mX10_day (days : Int32) (years : Nat → Int32) (months : Nat → Int32) (presses : Nat → Int32) (winds : Nat → Int32) (skies : Nat → Int32) (rains : Nat → Int32) (wires : Nat → Int32) (p0 : Int32) (p1 : Int32) (p2 : Int32) (p3 : Int32) (p4 : Int32) (p5 : Int32) : Option (Int32 × Int32 × (Nat → Int32) × (Nat → Int32) × (Nat → Int32) × (Nat → Int32) × (Nat → Int32) × (Nat → Int32) × (Nat → Int32)) :=
  (mX10_in ((Int32.toInt64 p0)) 0 9).bind (fun r501 => if (xb r501) = 0 then (some ((-2), days, years, months, presses, winds, skies, rains, wires)) else ((mX10_in ((Int32.toInt64 p1)) 0 11).bind (fun r503 => if (xb r503) = 0 then (some ((-2), days, years, months, presses, winds, skies, rains, wires)) else ((mX10_in ((Int32.toInt64 p2)) ((-1)) 99).bind (fun r505 => if (xb r505) = 0 then (some ((-2), days, years, months, presses, winds, skies, rains, wires)) else ((mX10_in ((Int32.toInt64 p3)) 0 7).bind (fun r507 => if (xb r507) = 0 then (some ((-2), days, years, months, presses, winds, skies, rains, wires)) else ((mX10_in ((Int32.toInt64 p4)) 0 3).bind (fun r509 => if (xb r509) = 0 then (some ((-2), days, years, months, presses, winds, skies, rains, wires)) else ((mX10_isEnd p5).bind (fun r511 => if (xb r511) = 0 then (some ((-2), days, years, months, presses, winds, skies, rains, wires)) else (if days = 60 then (some ((-4), days, years, months, presses, winds, skies, rains, wires)) else (x_need (x_in days 60) (x_need (x_in days 60) (x_need (x_in days 60) (x_need (x_in days 60) (x_need (x_in days 60) (x_need (x_in days 60) (x_need (x_in days 60) (some (((days + 1) - 1), (days + 1), (upd years (Int32.toNatClampNeg days) p0), (upd months (Int32.toNatClampNeg days) p1), (upd presses (Int32.toNatClampNeg days) p2), (upd winds (Int32.toNatClampNeg days) p3), (upd skies (Int32.toNatClampNeg days) p4), (upd rains (Int32.toNatClampNeg days) p5), (upd wires (Int32.toNatClampNeg days) ((-6))))))))))))))))))))))))
set_option maxHeartbeats 4000000 in
set_option maxRecDepth 100000 in
theorem kX10_day (l : Launch) (G : xG) (H0 : Heap) {q_this q_years q_months q_presses q_winds q_skies q_rains q_wires q_signs q_cases q_caseFrom q_caseTells q_testAsks q_testHow q_testNumber q_glassX q_glassY q_glassPress q_glassWind q_dry q_value q_doing q_kept q_isKept : Nat} {mind : Int32} {needle : Int32} {stick : Int32} {days : Int32} {signMany : Int32} {keys : Int32} {weight : Int32} {care : Int32} {scoreSum : Int64} {scoreDays : Int64} {triedSpoken : Int32} {triedRain : Int32} {triedTaken : Int32} {triedBoth : Int32} {glasses : Int32} {keptAt : Int32} {isWriting : Int32} {years : Nat → Int32} {months : Nat → Int32} {presses : Nat → Int32} {winds : Nat → Int32} {skies : Nat → Int32} {rains : Nat → Int32} {wires : Nat → Int32} {p0 : Int32} {p1 : Int32} {p2 : Int32} {p3 : Int32} {p4 : Int32} {p5 : Int32} (w0 : va_W) (hw0 : w0 = [(q_this, .inr (10, [.int mind, .int needle, .int stick, .ref q_years, .ref q_months, .ref q_presses, .ref q_winds, .ref q_skies, .ref q_rains, .ref q_wires, .int days, .ref q_signs, .int signMany, .ref q_cases, .ref q_caseFrom, .ref q_caseTells, .ref q_testAsks, .ref q_testHow, .ref q_testNumber, .int keys, .int weight, .int care, .long scoreSum, .long scoreDays, .int triedSpoken, .int triedRain, .int triedTaken, .int triedBoth, .ref q_glassX, .ref q_glassY, .ref q_glassPress, .ref q_glassWind, .int glasses, .ref q_dry, .ref q_value, .ref q_doing, .ref q_kept, .ref q_isKept, .int keptAt, .int isWriting])), (q_years, .inl (xy G 0, 60, .inl years)), (q_months, .inl (xy G 0, 60, .inl months)), (q_presses, .inl (xy G 0, 60, .inl presses)), (q_winds, .inl (xy G 0, 60, .inl winds)), (q_skies, .inl (xy G 0, 60, .inl skies)), (q_rains, .inl (xy G 0, 60, .inl rains)), (q_wires, .inl (xy G 0, 60, .inl wires))]) (hP : va_P (xD G) vwCl w0 H0) (hD : va_D (fun _ => True) w0) {out : Int32 × Int32 × (Nat → Int32) × (Nat → Int32) × (Nat → Int32) × (Nat → Int32) × (Nat → Int32) × (Nat → Int32) × (Nat → Int32)} (h : mX10_day days years months presses winds skies rains wires p0 p1 p2 p3 p4 p5 = some out) : Met l yX10_day wsX10_day ({ frames := 2, cells := 0, slots := 0, locals := 45 }) (xPcw G (va_A w0 H0.size) H0 [.ref q_this, .int p0, .int p1, .int p2, .int p3, .int p4, .int p5]) (xRi G (va_A w0 H0.size) [(q_this, .inr (10, [.int mind, .int needle, .int stick, .ref q_years, .ref q_months, .ref q_presses, .ref q_winds, .ref q_skies, .ref q_rains, .ref q_wires, .int out.2.1, .ref q_signs, .int signMany, .ref q_cases, .ref q_caseFrom, .ref q_caseTells, .ref q_testAsks, .ref q_testHow, .ref q_testNumber, .int keys, .int weight, .int care, .long scoreSum, .long scoreDays, .int triedSpoken, .int triedRain, .int triedTaken, .int triedBoth, .ref q_glassX, .ref q_glassY, .ref q_glassPress, .ref q_glassWind, .int glasses, .ref q_dry, .ref q_value, .ref q_doing, .ref q_kept, .ref q_isKept, .int keptAt, .int isWriting])), (q_years, .inl (xy G 0, 60, .inl out.2.2.1)), (q_months, .inl (xy G 0, 60, .inl out.2.2.2.1)), (q_presses, .inl (xy G 0, 60, .inl out.2.2.2.2.1)), (q_winds, .inl (xy G 0, 60, .inl out.2.2.2.2.2.1)), (q_skies, .inl (xy G 0, 60, .inl out.2.2.2.2.2.2.1)), (q_rains, .inl (xy G 0, 60, .inl out.2.2.2.2.2.2.2.1)), (q_wires, .inl (xy G 0, 60, .inl out.2.2.2.2.2.2.2.2))] (out.1)) 0 0 (va_A w0 H0.size) := by
  refine x_metw (y := yX10_day) (ws := wsX10_day) (rm := { frames := 2, cells := 0, slots := 0, locals := 45 }) (G := G) (H0 := H0) (w0 := w0) (av := [.ref q_this, .int p0, .int p1, .int p2, .int p3, .int p4, .int p5]) (mc := 0) (ms := 0) (Qc := (fun A => (xRi G A [(q_this, .inr (10, [.int mind, .int needle, .int stick, .ref q_years, .ref q_months, .ref q_presses, .ref q_winds, .ref q_skies, .ref q_rains, .ref q_wires, .int out.2.1, .ref q_signs, .int signMany, .ref q_cases, .ref q_caseFrom, .ref q_caseTells, .ref q_testAsks, .ref q_testHow, .ref q_testNumber, .int keys, .int weight, .int care, .long scoreSum, .long scoreDays, .int triedSpoken, .int triedRain, .int triedTaken, .int triedBoth, .ref q_glassX, .ref q_glassY, .ref q_glassPress, .ref q_glassWind, .int glasses, .ref q_dry, .ref q_value, .ref q_doing, .ref q_kept, .ref q_isKept, .int keptAt, .int isWriting])), (q_years, .inl (xy G 0, 60, .inl out.2.2.1)), (q_months, .inl (xy G 0, 60, .inl out.2.2.2.1)), (q_presses, .inl (xy G 0, 60, .inl out.2.2.2.2.1)), (q_winds, .inl (xy G 0, 60, .inl out.2.2.2.2.2.1)), (q_skies, .inl (xy G 0, 60, .inl out.2.2.2.2.2.2.1)), (q_rains, .inl (xy G 0, 60, .inl out.2.2.2.2.2.2.2.1)), (q_wires, .inl (xy G 0, 60, .inl out.2.2.2.2.2.2.2.2))] (out.1)))) (by decide) rfl (Nat.le_of_ble_eq_true rfl) hP hD ?_
  clear hP hD
  intro p e s m below meth c ls A H locs hA hAt hnm hl hP hD hS
  subst hw0
  obtain ⟨hx, hb, hr, hlk, hml, hown, hts, hE⟩ := hAt
  have hown : s.vm.findClass RX10 = some m.cls := hown
  have hl : lv_has ls 7 [(0, .ref q_this), (1, .int p0), (2, .int p1), (3, .int p2), (4, .int p3), (5, .int p4), (6, .int p5)] := hl
  have ho : out = out := rfl
  unfold mX10_day at h
  refine lv_iload_n hx hb dX10_day_0 rfl (lv_at hl 1 rfl) ?_
  refine lv_i2l (v := (Int32.toInt64 p0)) hx hb dX10_day_1 rfl ?_
  refine lv_lconst (v := 0) hx hb dX10_day_2 (by decide) ?_
  refine lv_ldc2 (v := 9) hx hb hown (hts (.constantLong RX10 109 (9)) (List.mem_of_getElem? (i := 1) rfl)) dX10_day_3 ?_
  obtain ⟨r501, hr501, h⟩ := x_bind h
  refine x_calli (va_runS (As := [.long (Int32.toInt64 p0), .long 0, .long 9]) (rest := []) ⟨hx, hb, hml, hown, hts⟩ (kX10_in l G H hr501) (va_cwS 3 hts gX10_day_X10_in rfl rfl rfl (by decide +kernel) ⟨Nat.le_of_ble_eq_true rfl, Nat.le_of_ble_eq_true rfl⟩) (x_preS hE hS) rfl rfl hl.1 rfl (lv_room (Nat.le_of_ble_eq_true rfl)) dX10_day_6 ⟨Nat.le_of_ble_eq_true rfl, Nat.le_of_ble_eq_true rfl⟩) ?_
  refine lv_if_eq (tgt := 72) hx hb dX10_day_9 (by decide) (fun hc502 => ?_) (fun hc502 => ?_)
  · replace h := (if_pos hc502).symm.trans h
    refine lv_bipush (v := (-2)) hx hb dX10_day_72 (by decide) ?_
    have hq : ((-2), days, years, months, presses, winds, skies, rains, wires) = out := by cases h; exact ho
    subst hq
    have hP : va_P (xD G) vwCl [(q_this, .inr (10, [.int mind, .int needle, .int stick, .ref q_years, .ref q_months, .ref q_presses, .ref q_winds, .ref q_skies, .ref q_rains, .ref q_wires, .int days, .ref q_signs, .int signMany, .ref q_cases, .ref q_caseFrom, .ref q_caseTells, .ref q_testAsks, .ref q_testHow, .ref q_testNumber, .int keys, .int weight, .int care, .long scoreSum, .long scoreDays, .int triedSpoken, .int triedRain, .int triedTaken, .int triedBoth, .ref q_glassX, .ref q_glassY, .ref q_glassPress, .ref q_glassWind, .int glasses, .ref q_dry, .ref q_value, .ref q_doing, .ref q_kept, .ref q_isKept, .int keptAt, .int isWriting])), (q_years, .inl (xy G 0, 60, .inl years)), (q_months, .inl (xy G 0, 60, .inl months)), (q_presses, .inl (xy G 0, 60, .inl presses)), (q_winds, .inl (xy G 0, 60, .inl winds)), (q_skies, .inl (xy G 0, 60, .inl skies)), (q_rains, .inl (xy G 0, 60, .inl rains)), (q_wires, .inl (xy G 0, 60, .inl wires))] H := hP
    have hD : va_D A [(q_this, .inr (10, [.int mind, .int needle, .int stick, .ref q_years, .ref q_months, .ref q_presses, .ref q_winds, .ref q_skies, .ref q_rains, .ref q_wires, .int days, .ref q_signs, .int signMany, .ref q_cases, .ref q_caseFrom, .ref q_caseTells, .ref q_testAsks, .ref q_testHow, .ref q_testNumber, .int keys, .int weight, .int care, .long scoreSum, .long scoreDays, .int triedSpoken, .int triedRain, .int triedTaken, .int triedBoth, .ref q_glassX, .ref q_glassY, .ref q_glassPress, .ref q_glassWind, .int glasses, .ref q_dry, .ref q_value, .ref q_doing, .ref q_kept, .ref q_isKept, .int keptAt, .int isWriting])), (q_years, .inl (xy G 0, 60, .inl years)), (q_months, .inl (xy G 0, 60, .inl months)), (q_presses, .inl (xy G 0, 60, .inl presses)), (q_winds, .inl (xy G 0, 60, .inl winds)), (q_skies, .inl (xy G 0, 60, .inl skies)), (q_rains, .inl (xy G 0, 60, .inl rains)), (q_wires, .inl (xy G 0, 60, .inl wires))] := hD
    exact x_iretw hx hb hr hlk hP hD hS rfl dX10_day_74
  · replace h := (if_neg hc502).symm.trans h
    refine lv_iload_n hx hb dX10_day_12 rfl (lv_at hl 2 rfl) ?_
    refine lv_i2l (v := (Int32.toInt64 p1)) hx hb dX10_day_13 rfl ?_
    refine lv_lconst (v := 0) hx hb dX10_day_14 (by decide) ?_
    refine lv_ldc2 (v := 11) hx hb hown (hts (.constantLong RX10 114 (11)) (List.mem_of_getElem? (i := 2) rfl)) dX10_day_15 ?_
    obtain ⟨r503, hr503, h⟩ := x_bind h
    refine x_calli (va_runS (As := [.long (Int32.toInt64 p1), .long 0, .long 11]) (rest := []) ⟨hx, hb, hml, hown, hts⟩ (kX10_in l G H hr503) (va_cwS 3 hts gX10_day_X10_in rfl rfl rfl (by decide +kernel) ⟨Nat.le_of_ble_eq_true rfl, Nat.le_of_ble_eq_true rfl⟩) (x_preS hE hS) rfl rfl hl.1 rfl (lv_room (Nat.le_of_ble_eq_true rfl)) dX10_day_18 ⟨Nat.le_of_ble_eq_true rfl, Nat.le_of_ble_eq_true rfl⟩) ?_
    refine lv_if_eq (tgt := 72) hx hb dX10_day_21 (by decide) (fun hc504 => ?_) (fun hc504 => ?_)
    · replace h := (if_pos hc504).symm.trans h
      refine lv_bipush (v := (-2)) hx hb dX10_day_72 (by decide) ?_
      have hq : ((-2), days, years, months, presses, winds, skies, rains, wires) = out := by cases h; exact ho
      subst hq
      have hP : va_P (xD G) vwCl [(q_this, .inr (10, [.int mind, .int needle, .int stick, .ref q_years, .ref q_months, .ref q_presses, .ref q_winds, .ref q_skies, .ref q_rains, .ref q_wires, .int days, .ref q_signs, .int signMany, .ref q_cases, .ref q_caseFrom, .ref q_caseTells, .ref q_testAsks, .ref q_testHow, .ref q_testNumber, .int keys, .int weight, .int care, .long scoreSum, .long scoreDays, .int triedSpoken, .int triedRain, .int triedTaken, .int triedBoth, .ref q_glassX, .ref q_glassY, .ref q_glassPress, .ref q_glassWind, .int glasses, .ref q_dry, .ref q_value, .ref q_doing, .ref q_kept, .ref q_isKept, .int keptAt, .int isWriting])), (q_years, .inl (xy G 0, 60, .inl years)), (q_months, .inl (xy G 0, 60, .inl months)), (q_presses, .inl (xy G 0, 60, .inl presses)), (q_winds, .inl (xy G 0, 60, .inl winds)), (q_skies, .inl (xy G 0, 60, .inl skies)), (q_rains, .inl (xy G 0, 60, .inl rains)), (q_wires, .inl (xy G 0, 60, .inl wires))] H := hP
      have hD : va_D A [(q_this, .inr (10, [.int mind, .int needle, .int stick, .ref q_years, .ref q_months, .ref q_presses, .ref q_winds, .ref q_skies, .ref q_rains, .ref q_wires, .int days, .ref q_signs, .int signMany, .ref q_cases, .ref q_caseFrom, .ref q_caseTells, .ref q_testAsks, .ref q_testHow, .ref q_testNumber, .int keys, .int weight, .int care, .long scoreSum, .long scoreDays, .int triedSpoken, .int triedRain, .int triedTaken, .int triedBoth, .ref q_glassX, .ref q_glassY, .ref q_glassPress, .ref q_glassWind, .int glasses, .ref q_dry, .ref q_value, .ref q_doing, .ref q_kept, .ref q_isKept, .int keptAt, .int isWriting])), (q_years, .inl (xy G 0, 60, .inl years)), (q_months, .inl (xy G 0, 60, .inl months)), (q_presses, .inl (xy G 0, 60, .inl presses)), (q_winds, .inl (xy G 0, 60, .inl winds)), (q_skies, .inl (xy G 0, 60, .inl skies)), (q_rains, .inl (xy G 0, 60, .inl rains)), (q_wires, .inl (xy G 0, 60, .inl wires))] := hD
      exact x_iretw hx hb hr hlk hP hD hS rfl dX10_day_74
    · replace h := (if_neg hc504).symm.trans h
      refine lv_iload_n hx hb dX10_day_24 rfl (lv_at hl 3 rfl) ?_
      refine lv_i2l (v := (Int32.toInt64 p2)) hx hb dX10_day_25 rfl ?_
      refine lv_ldc2 (v := (-1)) hx hb hown (hts (.constantLong RX10 116 (-1)) (List.mem_of_getElem? (i := 3) rfl)) dX10_day_26 ?_
      refine lv_ldc2 (v := 99) hx hb hown (hts (.constantLong RX10 103 (99)) (List.mem_of_getElem? (i := 4) rfl)) dX10_day_29 ?_
      obtain ⟨r505, hr505, h⟩ := x_bind h
      refine x_calli (va_runS (As := [.long (Int32.toInt64 p2), .long (-1), .long 99]) (rest := []) ⟨hx, hb, hml, hown, hts⟩ (kX10_in l G H hr505) (va_cwS 3 hts gX10_day_X10_in rfl rfl rfl (by decide +kernel) ⟨Nat.le_of_ble_eq_true rfl, Nat.le_of_ble_eq_true rfl⟩) (x_preS hE hS) rfl rfl hl.1 rfl (lv_room (Nat.le_of_ble_eq_true rfl)) dX10_day_32 ⟨Nat.le_of_ble_eq_true rfl, Nat.le_of_ble_eq_true rfl⟩) ?_
      refine lv_if_eq (tgt := 72) hx hb dX10_day_35 (by decide) (fun hc506 => ?_) (fun hc506 => ?_)
      · replace h := (if_pos hc506).symm.trans h
        refine lv_bipush (v := (-2)) hx hb dX10_day_72 (by decide) ?_
        have hq : ((-2), days, years, months, presses, winds, skies, rains, wires) = out := by cases h; exact ho
        subst hq
        have hP : va_P (xD G) vwCl [(q_this, .inr (10, [.int mind, .int needle, .int stick, .ref q_years, .ref q_months, .ref q_presses, .ref q_winds, .ref q_skies, .ref q_rains, .ref q_wires, .int days, .ref q_signs, .int signMany, .ref q_cases, .ref q_caseFrom, .ref q_caseTells, .ref q_testAsks, .ref q_testHow, .ref q_testNumber, .int keys, .int weight, .int care, .long scoreSum, .long scoreDays, .int triedSpoken, .int triedRain, .int triedTaken, .int triedBoth, .ref q_glassX, .ref q_glassY, .ref q_glassPress, .ref q_glassWind, .int glasses, .ref q_dry, .ref q_value, .ref q_doing, .ref q_kept, .ref q_isKept, .int keptAt, .int isWriting])), (q_years, .inl (xy G 0, 60, .inl years)), (q_months, .inl (xy G 0, 60, .inl months)), (q_presses, .inl (xy G 0, 60, .inl presses)), (q_winds, .inl (xy G 0, 60, .inl winds)), (q_skies, .inl (xy G 0, 60, .inl skies)), (q_rains, .inl (xy G 0, 60, .inl rains)), (q_wires, .inl (xy G 0, 60, .inl wires))] H := hP
        have hD : va_D A [(q_this, .inr (10, [.int mind, .int needle, .int stick, .ref q_years, .ref q_months, .ref q_presses, .ref q_winds, .ref q_skies, .ref q_rains, .ref q_wires, .int days, .ref q_signs, .int signMany, .ref q_cases, .ref q_caseFrom, .ref q_caseTells, .ref q_testAsks, .ref q_testHow, .ref q_testNumber, .int keys, .int weight, .int care, .long scoreSum, .long scoreDays, .int triedSpoken, .int triedRain, .int triedTaken, .int triedBoth, .ref q_glassX, .ref q_glassY, .ref q_glassPress, .ref q_glassWind, .int glasses, .ref q_dry, .ref q_value, .ref q_doing, .ref q_kept, .ref q_isKept, .int keptAt, .int isWriting])), (q_years, .inl (xy G 0, 60, .inl years)), (q_months, .inl (xy G 0, 60, .inl months)), (q_presses, .inl (xy G 0, 60, .inl presses)), (q_winds, .inl (xy G 0, 60, .inl winds)), (q_skies, .inl (xy G 0, 60, .inl skies)), (q_rains, .inl (xy G 0, 60, .inl rains)), (q_wires, .inl (xy G 0, 60, .inl wires))] := hD
        exact x_iretw hx hb hr hlk hP hD hS rfl dX10_day_74
      · replace h := (if_neg hc506).symm.trans h
        refine lv_iload hx hb dX10_day_38 (lv_at hl 4 rfl) ?_
        refine lv_i2l (v := (Int32.toInt64 p3)) hx hb dX10_day_40 rfl ?_
        refine lv_lconst (v := 0) hx hb dX10_day_41 (by decide) ?_
        refine lv_ldc2 (v := 7) hx hb hown (hts (.constantLong RX10 118 (7)) (List.mem_of_getElem? (i := 5) rfl)) dX10_day_42 ?_
        obtain ⟨r507, hr507, h⟩ := x_bind h
        refine x_calli (va_runS (As := [.long (Int32.toInt64 p3), .long 0, .long 7]) (rest := []) ⟨hx, hb, hml, hown, hts⟩ (kX10_in l G H hr507) (va_cwS 3 hts gX10_day_X10_in rfl rfl rfl (by decide +kernel) ⟨Nat.le_of_ble_eq_true rfl, Nat.le_of_ble_eq_true rfl⟩) (x_preS hE hS) rfl rfl hl.1 rfl (lv_room (Nat.le_of_ble_eq_true rfl)) dX10_day_45 ⟨Nat.le_of_ble_eq_true rfl, Nat.le_of_ble_eq_true rfl⟩) ?_
        refine lv_if_eq (tgt := 72) hx hb dX10_day_48 (by decide) (fun hc508 => ?_) (fun hc508 => ?_)
        · replace h := (if_pos hc508).symm.trans h
          refine lv_bipush (v := (-2)) hx hb dX10_day_72 (by decide) ?_
          have hq : ((-2), days, years, months, presses, winds, skies, rains, wires) = out := by cases h; exact ho
          subst hq
          have hP : va_P (xD G) vwCl [(q_this, .inr (10, [.int mind, .int needle, .int stick, .ref q_years, .ref q_months, .ref q_presses, .ref q_winds, .ref q_skies, .ref q_rains, .ref q_wires, .int days, .ref q_signs, .int signMany, .ref q_cases, .ref q_caseFrom, .ref q_caseTells, .ref q_testAsks, .ref q_testHow, .ref q_testNumber, .int keys, .int weight, .int care, .long scoreSum, .long scoreDays, .int triedSpoken, .int triedRain, .int triedTaken, .int triedBoth, .ref q_glassX, .ref q_glassY, .ref q_glassPress, .ref q_glassWind, .int glasses, .ref q_dry, .ref q_value, .ref q_doing, .ref q_kept, .ref q_isKept, .int keptAt, .int isWriting])), (q_years, .inl (xy G 0, 60, .inl years)), (q_months, .inl (xy G 0, 60, .inl months)), (q_presses, .inl (xy G 0, 60, .inl presses)), (q_winds, .inl (xy G 0, 60, .inl winds)), (q_skies, .inl (xy G 0, 60, .inl skies)), (q_rains, .inl (xy G 0, 60, .inl rains)), (q_wires, .inl (xy G 0, 60, .inl wires))] H := hP
          have hD : va_D A [(q_this, .inr (10, [.int mind, .int needle, .int stick, .ref q_years, .ref q_months, .ref q_presses, .ref q_winds, .ref q_skies, .ref q_rains, .ref q_wires, .int days, .ref q_signs, .int signMany, .ref q_cases, .ref q_caseFrom, .ref q_caseTells, .ref q_testAsks, .ref q_testHow, .ref q_testNumber, .int keys, .int weight, .int care, .long scoreSum, .long scoreDays, .int triedSpoken, .int triedRain, .int triedTaken, .int triedBoth, .ref q_glassX, .ref q_glassY, .ref q_glassPress, .ref q_glassWind, .int glasses, .ref q_dry, .ref q_value, .ref q_doing, .ref q_kept, .ref q_isKept, .int keptAt, .int isWriting])), (q_years, .inl (xy G 0, 60, .inl years)), (q_months, .inl (xy G 0, 60, .inl months)), (q_presses, .inl (xy G 0, 60, .inl presses)), (q_winds, .inl (xy G 0, 60, .inl winds)), (q_skies, .inl (xy G 0, 60, .inl skies)), (q_rains, .inl (xy G 0, 60, .inl rains)), (q_wires, .inl (xy G 0, 60, .inl wires))] := hD
          exact x_iretw hx hb hr hlk hP hD hS rfl dX10_day_74
        · replace h := (if_neg hc508).symm.trans h
          refine lv_iload hx hb dX10_day_51 (lv_at hl 5 rfl) ?_
          refine lv_i2l (v := (Int32.toInt64 p4)) hx hb dX10_day_53 rfl ?_
          refine lv_lconst (v := 0) hx hb dX10_day_54 (by decide) ?_
          refine lv_ldc2 (v := 3) hx hb hown (hts (.constantLong RX10 120 (3)) (List.mem_of_getElem? (i := 6) rfl)) dX10_day_55 ?_
          obtain ⟨r509, hr509, h⟩ := x_bind h
          refine x_calli (va_runS (As := [.long (Int32.toInt64 p4), .long 0, .long 3]) (rest := []) ⟨hx, hb, hml, hown, hts⟩ (kX10_in l G H hr509) (va_cwS 3 hts gX10_day_X10_in rfl rfl rfl (by decide +kernel) ⟨Nat.le_of_ble_eq_true rfl, Nat.le_of_ble_eq_true rfl⟩) (x_preS hE hS) rfl rfl hl.1 rfl (lv_room (Nat.le_of_ble_eq_true rfl)) dX10_day_58 ⟨Nat.le_of_ble_eq_true rfl, Nat.le_of_ble_eq_true rfl⟩) ?_
          refine lv_if_eq (tgt := 72) hx hb dX10_day_61 (by decide) (fun hc510 => ?_) (fun hc510 => ?_)
          · replace h := (if_pos hc510).symm.trans h
            refine lv_bipush (v := (-2)) hx hb dX10_day_72 (by decide) ?_
            have hq : ((-2), days, years, months, presses, winds, skies, rains, wires) = out := by cases h; exact ho
            subst hq
            have hP : va_P (xD G) vwCl [(q_this, .inr (10, [.int mind, .int needle, .int stick, .ref q_years, .ref q_months, .ref q_presses, .ref q_winds, .ref q_skies, .ref q_rains, .ref q_wires, .int days, .ref q_signs, .int signMany, .ref q_cases, .ref q_caseFrom, .ref q_caseTells, .ref q_testAsks, .ref q_testHow, .ref q_testNumber, .int keys, .int weight, .int care, .long scoreSum, .long scoreDays, .int triedSpoken, .int triedRain, .int triedTaken, .int triedBoth, .ref q_glassX, .ref q_glassY, .ref q_glassPress, .ref q_glassWind, .int glasses, .ref q_dry, .ref q_value, .ref q_doing, .ref q_kept, .ref q_isKept, .int keptAt, .int isWriting])), (q_years, .inl (xy G 0, 60, .inl years)), (q_months, .inl (xy G 0, 60, .inl months)), (q_presses, .inl (xy G 0, 60, .inl presses)), (q_winds, .inl (xy G 0, 60, .inl winds)), (q_skies, .inl (xy G 0, 60, .inl skies)), (q_rains, .inl (xy G 0, 60, .inl rains)), (q_wires, .inl (xy G 0, 60, .inl wires))] H := hP
            have hD : va_D A [(q_this, .inr (10, [.int mind, .int needle, .int stick, .ref q_years, .ref q_months, .ref q_presses, .ref q_winds, .ref q_skies, .ref q_rains, .ref q_wires, .int days, .ref q_signs, .int signMany, .ref q_cases, .ref q_caseFrom, .ref q_caseTells, .ref q_testAsks, .ref q_testHow, .ref q_testNumber, .int keys, .int weight, .int care, .long scoreSum, .long scoreDays, .int triedSpoken, .int triedRain, .int triedTaken, .int triedBoth, .ref q_glassX, .ref q_glassY, .ref q_glassPress, .ref q_glassWind, .int glasses, .ref q_dry, .ref q_value, .ref q_doing, .ref q_kept, .ref q_isKept, .int keptAt, .int isWriting])), (q_years, .inl (xy G 0, 60, .inl years)), (q_months, .inl (xy G 0, 60, .inl months)), (q_presses, .inl (xy G 0, 60, .inl presses)), (q_winds, .inl (xy G 0, 60, .inl winds)), (q_skies, .inl (xy G 0, 60, .inl skies)), (q_rains, .inl (xy G 0, 60, .inl rains)), (q_wires, .inl (xy G 0, 60, .inl wires))] := hD
            exact x_iretw hx hb hr hlk hP hD hS rfl dX10_day_74
          · replace h := (if_neg hc510).symm.trans h
            refine lv_iload hx hb dX10_day_64 (lv_at hl 6 rfl) ?_
            obtain ⟨r511, hr511, h⟩ := x_bind h
            refine x_calli (va_runS (As := [.int p5]) (rest := []) ⟨hx, hb, hml, hown, hts⟩ (kX10_isEnd l G H hr511) (va_cwS 1 hts gX10_day_X10_isEnd rfl rfl rfl (by decide +kernel) ⟨Nat.le_of_ble_eq_true rfl, Nat.le_of_ble_eq_true rfl⟩) (x_preS hE hS) rfl rfl hl.1 rfl (lv_room (Nat.le_of_ble_eq_true rfl)) dX10_day_66 ⟨Nat.le_of_ble_eq_true rfl, Nat.le_of_ble_eq_true rfl⟩) ?_
            refine lv_if_ne (tgt := 75) hx hb dX10_day_69 (by decide) (fun hc512 => ?_) (fun hc512 => ?_)
            · replace h := (if_neg hc512).symm.trans h
              refine lv_aload_n hx hb dX10_day_75 rfl (lv_at hl 0 rfl) ?_
              refine va_get (D := xD G) (ci := 10) (v := .int days) (C := RX10) (T := TX10) (N := 40) hx hb hts (fun w9 h9 => (List.mem_cons_of_mem _ (List.mem_append_right _ h9))) hown hE.1 hP 0 rfl rfl 10 (by decide) (hts (.fieldLink RX10 111 "FallingGlassModel" "days" "I") (List.mem_of_getElem? (i := 7) rfl)) (fun _ h9 => h9) rfl dX10_day_76 ?_
              refine lv_bipush (v := 60) hx hb dX10_day_79 (by decide) ?_
              refine lv_icmp_ne (tgt := 87) hx hb dX10_day_81 (by decide) (fun hc513 => ?_) (fun hc513 => ?_)
              · replace h := (if_neg hc513).symm.trans h
                refine lv_aload_n hx hb dX10_day_87 rfl (lv_at hl 0 rfl) ?_
                refine va_get (D := xD G) (ci := 10) (v := .ref q_years) (C := RX10) (T := TX10) (N := 40) hx hb hts (fun w9 h9 => (List.mem_cons_of_mem _ (List.mem_append_right _ h9))) hown hE.1 hP 0 rfl rfl 3 (by decide) (hts (.fieldLink RX10 7 "FallingGlassModel" "years" "[I") (List.mem_of_getElem? (i := 8) rfl)) (fun _ h9 => h9) rfl dX10_day_88 ?_
                refine lv_aload_n hx hb dX10_day_91 rfl (lv_at hl 0 rfl) ?_
                refine va_get (D := xD G) (ci := 10) (v := .int days) (C := RX10) (T := TX10) (N := 40) hx hb hts (fun w9 h9 => (List.mem_cons_of_mem _ (List.mem_append_right _ h9))) hown hE.1 hP 0 rfl rfl 10 (by decide) (hts (.fieldLink RX10 111 "FallingGlassModel" "days" "I") (List.mem_of_getElem? (i := 7) rfl)) (fun _ h9 => h9) rfl dX10_day_92 ?_
                refine lv_iload_n hx hb dX10_day_95 rfl (lv_at hl 1 rfl) ?_
                obtain ⟨hi514, h⟩ := x_needs h
                refine va_iast (D := xD G) hx hb hE.1 hP hD hS 1 0 rfl rfl hi514 dX10_day_96 (fun H locs hP hD hS => ?_)
                have hP : va_P (xD G) vwCl [(q_this, .inr (10, [.int mind, .int needle, .int stick, .ref q_years, .ref q_months, .ref q_presses, .ref q_winds, .ref q_skies, .ref q_rains, .ref q_wires, .int days, .ref q_signs, .int signMany, .ref q_cases, .ref q_caseFrom, .ref q_caseTells, .ref q_testAsks, .ref q_testHow, .ref q_testNumber, .int keys, .int weight, .int care, .long scoreSum, .long scoreDays, .int triedSpoken, .int triedRain, .int triedTaken, .int triedBoth, .ref q_glassX, .ref q_glassY, .ref q_glassPress, .ref q_glassWind, .int glasses, .ref q_dry, .ref q_value, .ref q_doing, .ref q_kept, .ref q_isKept, .int keptAt, .int isWriting])), (q_years, .inl (xy G 0, 60, .inl (upd years (Int32.toNatClampNeg days) p0))), (q_months, .inl (xy G 0, 60, .inl months)), (q_presses, .inl (xy G 0, 60, .inl presses)), (q_winds, .inl (xy G 0, 60, .inl winds)), (q_skies, .inl (xy G 0, 60, .inl skies)), (q_rains, .inl (xy G 0, 60, .inl rains)), (q_wires, .inl (xy G 0, 60, .inl wires))] H := hP
                have hD : va_D A [(q_this, .inr (10, [.int mind, .int needle, .int stick, .ref q_years, .ref q_months, .ref q_presses, .ref q_winds, .ref q_skies, .ref q_rains, .ref q_wires, .int days, .ref q_signs, .int signMany, .ref q_cases, .ref q_caseFrom, .ref q_caseTells, .ref q_testAsks, .ref q_testHow, .ref q_testNumber, .int keys, .int weight, .int care, .long scoreSum, .long scoreDays, .int triedSpoken, .int triedRain, .int triedTaken, .int triedBoth, .ref q_glassX, .ref q_glassY, .ref q_glassPress, .ref q_glassWind, .int glasses, .ref q_dry, .ref q_value, .ref q_doing, .ref q_kept, .ref q_isKept, .int keptAt, .int isWriting])), (q_years, .inl (xy G 0, 60, .inl (upd years (Int32.toNatClampNeg days) p0))), (q_months, .inl (xy G 0, 60, .inl months)), (q_presses, .inl (xy G 0, 60, .inl presses)), (q_winds, .inl (xy G 0, 60, .inl winds)), (q_skies, .inl (xy G 0, 60, .inl skies)), (q_rains, .inl (xy G 0, 60, .inl rains)), (q_wires, .inl (xy G 0, 60, .inl wires))] := hD
                refine lv_aload_n hx hb dX10_day_97 rfl (lv_at hl 0 rfl) ?_
                refine va_get (D := xD G) (ci := 10) (v := .ref q_months) (C := RX10) (T := TX10) (N := 40) hx hb hts (fun w9 h9 => (List.mem_cons_of_mem _ (List.mem_append_right _ h9))) hown hE.1 hP 0 rfl rfl 4 (by decide) (hts (.fieldLink RX10 13 "FallingGlassModel" "months" "[I") (List.mem_of_getElem? (i := 9) rfl)) (fun _ h9 => h9) rfl dX10_day_98 ?_
                refine lv_aload_n hx hb dX10_day_101 rfl (lv_at hl 0 rfl) ?_
                refine va_get (D := xD G) (ci := 10) (v := .int days) (C := RX10) (T := TX10) (N := 40) hx hb hts (fun w9 h9 => (List.mem_cons_of_mem _ (List.mem_append_right _ h9))) hown hE.1 hP 0 rfl rfl 10 (by decide) (hts (.fieldLink RX10 111 "FallingGlassModel" "days" "I") (List.mem_of_getElem? (i := 7) rfl)) (fun _ h9 => h9) rfl dX10_day_102 ?_
                refine lv_iload_n hx hb dX10_day_105 rfl (lv_at hl 2 rfl) ?_
                obtain ⟨hi515, h⟩ := x_needs h
                refine va_iast (D := xD G) hx hb hE.1 hP hD hS 2 0 rfl rfl hi515 dX10_day_106 (fun H locs hP hD hS => ?_)
                have hP : va_P (xD G) vwCl [(q_this, .inr (10, [.int mind, .int needle, .int stick, .ref q_years, .ref q_months, .ref q_presses, .ref q_winds, .ref q_skies, .ref q_rains, .ref q_wires, .int days, .ref q_signs, .int signMany, .ref q_cases, .ref q_caseFrom, .ref q_caseTells, .ref q_testAsks, .ref q_testHow, .ref q_testNumber, .int keys, .int weight, .int care, .long scoreSum, .long scoreDays, .int triedSpoken, .int triedRain, .int triedTaken, .int triedBoth, .ref q_glassX, .ref q_glassY, .ref q_glassPress, .ref q_glassWind, .int glasses, .ref q_dry, .ref q_value, .ref q_doing, .ref q_kept, .ref q_isKept, .int keptAt, .int isWriting])), (q_years, .inl (xy G 0, 60, .inl (upd years (Int32.toNatClampNeg days) p0))), (q_months, .inl (xy G 0, 60, .inl (upd months (Int32.toNatClampNeg days) p1))), (q_presses, .inl (xy G 0, 60, .inl presses)), (q_winds, .inl (xy G 0, 60, .inl winds)), (q_skies, .inl (xy G 0, 60, .inl skies)), (q_rains, .inl (xy G 0, 60, .inl rains)), (q_wires, .inl (xy G 0, 60, .inl wires))] H := hP
                have hD : va_D A [(q_this, .inr (10, [.int mind, .int needle, .int stick, .ref q_years, .ref q_months, .ref q_presses, .ref q_winds, .ref q_skies, .ref q_rains, .ref q_wires, .int days, .ref q_signs, .int signMany, .ref q_cases, .ref q_caseFrom, .ref q_caseTells, .ref q_testAsks, .ref q_testHow, .ref q_testNumber, .int keys, .int weight, .int care, .long scoreSum, .long scoreDays, .int triedSpoken, .int triedRain, .int triedTaken, .int triedBoth, .ref q_glassX, .ref q_glassY, .ref q_glassPress, .ref q_glassWind, .int glasses, .ref q_dry, .ref q_value, .ref q_doing, .ref q_kept, .ref q_isKept, .int keptAt, .int isWriting])), (q_years, .inl (xy G 0, 60, .inl (upd years (Int32.toNatClampNeg days) p0))), (q_months, .inl (xy G 0, 60, .inl (upd months (Int32.toNatClampNeg days) p1))), (q_presses, .inl (xy G 0, 60, .inl presses)), (q_winds, .inl (xy G 0, 60, .inl winds)), (q_skies, .inl (xy G 0, 60, .inl skies)), (q_rains, .inl (xy G 0, 60, .inl rains)), (q_wires, .inl (xy G 0, 60, .inl wires))] := hD
                refine lv_aload_n hx hb dX10_day_107 rfl (lv_at hl 0 rfl) ?_
                refine va_get (D := xD G) (ci := 10) (v := .ref q_presses) (C := RX10) (T := TX10) (N := 40) hx hb hts (fun w9 h9 => (List.mem_cons_of_mem _ (List.mem_append_right _ h9))) hown hE.1 hP 0 rfl rfl 5 (by decide) (hts (.fieldLink RX10 16 "FallingGlassModel" "presses" "[I") (List.mem_of_getElem? (i := 10) rfl)) (fun _ h9 => h9) rfl dX10_day_108 ?_
                refine lv_aload_n hx hb dX10_day_111 rfl (lv_at hl 0 rfl) ?_
                refine va_get (D := xD G) (ci := 10) (v := .int days) (C := RX10) (T := TX10) (N := 40) hx hb hts (fun w9 h9 => (List.mem_cons_of_mem _ (List.mem_append_right _ h9))) hown hE.1 hP 0 rfl rfl 10 (by decide) (hts (.fieldLink RX10 111 "FallingGlassModel" "days" "I") (List.mem_of_getElem? (i := 7) rfl)) (fun _ h9 => h9) rfl dX10_day_112 ?_
                refine lv_iload_n hx hb dX10_day_115 rfl (lv_at hl 3 rfl) ?_
                obtain ⟨hi516, h⟩ := x_needs h
                refine va_iast (D := xD G) hx hb hE.1 hP hD hS 3 0 rfl rfl hi516 dX10_day_116 (fun H locs hP hD hS => ?_)
                have hP : va_P (xD G) vwCl [(q_this, .inr (10, [.int mind, .int needle, .int stick, .ref q_years, .ref q_months, .ref q_presses, .ref q_winds, .ref q_skies, .ref q_rains, .ref q_wires, .int days, .ref q_signs, .int signMany, .ref q_cases, .ref q_caseFrom, .ref q_caseTells, .ref q_testAsks, .ref q_testHow, .ref q_testNumber, .int keys, .int weight, .int care, .long scoreSum, .long scoreDays, .int triedSpoken, .int triedRain, .int triedTaken, .int triedBoth, .ref q_glassX, .ref q_glassY, .ref q_glassPress, .ref q_glassWind, .int glasses, .ref q_dry, .ref q_value, .ref q_doing, .ref q_kept, .ref q_isKept, .int keptAt, .int isWriting])), (q_years, .inl (xy G 0, 60, .inl (upd years (Int32.toNatClampNeg days) p0))), (q_months, .inl (xy G 0, 60, .inl (upd months (Int32.toNatClampNeg days) p1))), (q_presses, .inl (xy G 0, 60, .inl (upd presses (Int32.toNatClampNeg days) p2))), (q_winds, .inl (xy G 0, 60, .inl winds)), (q_skies, .inl (xy G 0, 60, .inl skies)), (q_rains, .inl (xy G 0, 60, .inl rains)), (q_wires, .inl (xy G 0, 60, .inl wires))] H := hP
                have hD : va_D A [(q_this, .inr (10, [.int mind, .int needle, .int stick, .ref q_years, .ref q_months, .ref q_presses, .ref q_winds, .ref q_skies, .ref q_rains, .ref q_wires, .int days, .ref q_signs, .int signMany, .ref q_cases, .ref q_caseFrom, .ref q_caseTells, .ref q_testAsks, .ref q_testHow, .ref q_testNumber, .int keys, .int weight, .int care, .long scoreSum, .long scoreDays, .int triedSpoken, .int triedRain, .int triedTaken, .int triedBoth, .ref q_glassX, .ref q_glassY, .ref q_glassPress, .ref q_glassWind, .int glasses, .ref q_dry, .ref q_value, .ref q_doing, .ref q_kept, .ref q_isKept, .int keptAt, .int isWriting])), (q_years, .inl (xy G 0, 60, .inl (upd years (Int32.toNatClampNeg days) p0))), (q_months, .inl (xy G 0, 60, .inl (upd months (Int32.toNatClampNeg days) p1))), (q_presses, .inl (xy G 0, 60, .inl (upd presses (Int32.toNatClampNeg days) p2))), (q_winds, .inl (xy G 0, 60, .inl winds)), (q_skies, .inl (xy G 0, 60, .inl skies)), (q_rains, .inl (xy G 0, 60, .inl rains)), (q_wires, .inl (xy G 0, 60, .inl wires))] := hD
                refine lv_aload_n hx hb dX10_day_117 rfl (lv_at hl 0 rfl) ?_
                refine va_get (D := xD G) (ci := 10) (v := .ref q_winds) (C := RX10) (T := TX10) (N := 40) hx hb hts (fun w9 h9 => (List.mem_cons_of_mem _ (List.mem_append_right _ h9))) hown hE.1 hP 0 rfl rfl 6 (by decide) (hts (.fieldLink RX10 19 "FallingGlassModel" "winds" "[I") (List.mem_of_getElem? (i := 11) rfl)) (fun _ h9 => h9) rfl dX10_day_118 ?_
                refine lv_aload_n hx hb dX10_day_121 rfl (lv_at hl 0 rfl) ?_
                refine va_get (D := xD G) (ci := 10) (v := .int days) (C := RX10) (T := TX10) (N := 40) hx hb hts (fun w9 h9 => (List.mem_cons_of_mem _ (List.mem_append_right _ h9))) hown hE.1 hP 0 rfl rfl 10 (by decide) (hts (.fieldLink RX10 111 "FallingGlassModel" "days" "I") (List.mem_of_getElem? (i := 7) rfl)) (fun _ h9 => h9) rfl dX10_day_122 ?_
                refine lv_iload hx hb dX10_day_125 (lv_at hl 4 rfl) ?_
                obtain ⟨hi517, h⟩ := x_needs h
                refine va_iast (D := xD G) hx hb hE.1 hP hD hS 4 0 rfl rfl hi517 dX10_day_127 (fun H locs hP hD hS => ?_)
                have hP : va_P (xD G) vwCl [(q_this, .inr (10, [.int mind, .int needle, .int stick, .ref q_years, .ref q_months, .ref q_presses, .ref q_winds, .ref q_skies, .ref q_rains, .ref q_wires, .int days, .ref q_signs, .int signMany, .ref q_cases, .ref q_caseFrom, .ref q_caseTells, .ref q_testAsks, .ref q_testHow, .ref q_testNumber, .int keys, .int weight, .int care, .long scoreSum, .long scoreDays, .int triedSpoken, .int triedRain, .int triedTaken, .int triedBoth, .ref q_glassX, .ref q_glassY, .ref q_glassPress, .ref q_glassWind, .int glasses, .ref q_dry, .ref q_value, .ref q_doing, .ref q_kept, .ref q_isKept, .int keptAt, .int isWriting])), (q_years, .inl (xy G 0, 60, .inl (upd years (Int32.toNatClampNeg days) p0))), (q_months, .inl (xy G 0, 60, .inl (upd months (Int32.toNatClampNeg days) p1))), (q_presses, .inl (xy G 0, 60, .inl (upd presses (Int32.toNatClampNeg days) p2))), (q_winds, .inl (xy G 0, 60, .inl (upd winds (Int32.toNatClampNeg days) p3))), (q_skies, .inl (xy G 0, 60, .inl skies)), (q_rains, .inl (xy G 0, 60, .inl rains)), (q_wires, .inl (xy G 0, 60, .inl wires))] H := hP
                have hD : va_D A [(q_this, .inr (10, [.int mind, .int needle, .int stick, .ref q_years, .ref q_months, .ref q_presses, .ref q_winds, .ref q_skies, .ref q_rains, .ref q_wires, .int days, .ref q_signs, .int signMany, .ref q_cases, .ref q_caseFrom, .ref q_caseTells, .ref q_testAsks, .ref q_testHow, .ref q_testNumber, .int keys, .int weight, .int care, .long scoreSum, .long scoreDays, .int triedSpoken, .int triedRain, .int triedTaken, .int triedBoth, .ref q_glassX, .ref q_glassY, .ref q_glassPress, .ref q_glassWind, .int glasses, .ref q_dry, .ref q_value, .ref q_doing, .ref q_kept, .ref q_isKept, .int keptAt, .int isWriting])), (q_years, .inl (xy G 0, 60, .inl (upd years (Int32.toNatClampNeg days) p0))), (q_months, .inl (xy G 0, 60, .inl (upd months (Int32.toNatClampNeg days) p1))), (q_presses, .inl (xy G 0, 60, .inl (upd presses (Int32.toNatClampNeg days) p2))), (q_winds, .inl (xy G 0, 60, .inl (upd winds (Int32.toNatClampNeg days) p3))), (q_skies, .inl (xy G 0, 60, .inl skies)), (q_rains, .inl (xy G 0, 60, .inl rains)), (q_wires, .inl (xy G 0, 60, .inl wires))] := hD
                refine lv_aload_n hx hb dX10_day_128 rfl (lv_at hl 0 rfl) ?_
                refine va_get (D := xD G) (ci := 10) (v := .ref q_skies) (C := RX10) (T := TX10) (N := 40) hx hb hts (fun w9 h9 => (List.mem_cons_of_mem _ (List.mem_append_right _ h9))) hown hE.1 hP 0 rfl rfl 7 (by decide) (hts (.fieldLink RX10 22 "FallingGlassModel" "skies" "[I") (List.mem_of_getElem? (i := 12) rfl)) (fun _ h9 => h9) rfl dX10_day_129 ?_
                refine lv_aload_n hx hb dX10_day_132 rfl (lv_at hl 0 rfl) ?_
                refine va_get (D := xD G) (ci := 10) (v := .int days) (C := RX10) (T := TX10) (N := 40) hx hb hts (fun w9 h9 => (List.mem_cons_of_mem _ (List.mem_append_right _ h9))) hown hE.1 hP 0 rfl rfl 10 (by decide) (hts (.fieldLink RX10 111 "FallingGlassModel" "days" "I") (List.mem_of_getElem? (i := 7) rfl)) (fun _ h9 => h9) rfl dX10_day_133 ?_
                refine lv_iload hx hb dX10_day_136 (lv_at hl 5 rfl) ?_
                obtain ⟨hi518, h⟩ := x_needs h
                refine va_iast (D := xD G) hx hb hE.1 hP hD hS 5 0 rfl rfl hi518 dX10_day_138 (fun H locs hP hD hS => ?_)
                have hP : va_P (xD G) vwCl [(q_this, .inr (10, [.int mind, .int needle, .int stick, .ref q_years, .ref q_months, .ref q_presses, .ref q_winds, .ref q_skies, .ref q_rains, .ref q_wires, .int days, .ref q_signs, .int signMany, .ref q_cases, .ref q_caseFrom, .ref q_caseTells, .ref q_testAsks, .ref q_testHow, .ref q_testNumber, .int keys, .int weight, .int care, .long scoreSum, .long scoreDays, .int triedSpoken, .int triedRain, .int triedTaken, .int triedBoth, .ref q_glassX, .ref q_glassY, .ref q_glassPress, .ref q_glassWind, .int glasses, .ref q_dry, .ref q_value, .ref q_doing, .ref q_kept, .ref q_isKept, .int keptAt, .int isWriting])), (q_years, .inl (xy G 0, 60, .inl (upd years (Int32.toNatClampNeg days) p0))), (q_months, .inl (xy G 0, 60, .inl (upd months (Int32.toNatClampNeg days) p1))), (q_presses, .inl (xy G 0, 60, .inl (upd presses (Int32.toNatClampNeg days) p2))), (q_winds, .inl (xy G 0, 60, .inl (upd winds (Int32.toNatClampNeg days) p3))), (q_skies, .inl (xy G 0, 60, .inl (upd skies (Int32.toNatClampNeg days) p4))), (q_rains, .inl (xy G 0, 60, .inl rains)), (q_wires, .inl (xy G 0, 60, .inl wires))] H := hP
                have hD : va_D A [(q_this, .inr (10, [.int mind, .int needle, .int stick, .ref q_years, .ref q_months, .ref q_presses, .ref q_winds, .ref q_skies, .ref q_rains, .ref q_wires, .int days, .ref q_signs, .int signMany, .ref q_cases, .ref q_caseFrom, .ref q_caseTells, .ref q_testAsks, .ref q_testHow, .ref q_testNumber, .int keys, .int weight, .int care, .long scoreSum, .long scoreDays, .int triedSpoken, .int triedRain, .int triedTaken, .int triedBoth, .ref q_glassX, .ref q_glassY, .ref q_glassPress, .ref q_glassWind, .int glasses, .ref q_dry, .ref q_value, .ref q_doing, .ref q_kept, .ref q_isKept, .int keptAt, .int isWriting])), (q_years, .inl (xy G 0, 60, .inl (upd years (Int32.toNatClampNeg days) p0))), (q_months, .inl (xy G 0, 60, .inl (upd months (Int32.toNatClampNeg days) p1))), (q_presses, .inl (xy G 0, 60, .inl (upd presses (Int32.toNatClampNeg days) p2))), (q_winds, .inl (xy G 0, 60, .inl (upd winds (Int32.toNatClampNeg days) p3))), (q_skies, .inl (xy G 0, 60, .inl (upd skies (Int32.toNatClampNeg days) p4))), (q_rains, .inl (xy G 0, 60, .inl rains)), (q_wires, .inl (xy G 0, 60, .inl wires))] := hD
                refine lv_aload_n hx hb dX10_day_139 rfl (lv_at hl 0 rfl) ?_
                refine va_get (D := xD G) (ci := 10) (v := .ref q_rains) (C := RX10) (T := TX10) (N := 40) hx hb hts (fun w9 h9 => (List.mem_cons_of_mem _ (List.mem_append_right _ h9))) hown hE.1 hP 0 rfl rfl 8 (by decide) (hts (.fieldLink RX10 25 "FallingGlassModel" "rains" "[I") (List.mem_of_getElem? (i := 13) rfl)) (fun _ h9 => h9) rfl dX10_day_140 ?_
                refine lv_aload_n hx hb dX10_day_143 rfl (lv_at hl 0 rfl) ?_
                refine va_get (D := xD G) (ci := 10) (v := .int days) (C := RX10) (T := TX10) (N := 40) hx hb hts (fun w9 h9 => (List.mem_cons_of_mem _ (List.mem_append_right _ h9))) hown hE.1 hP 0 rfl rfl 10 (by decide) (hts (.fieldLink RX10 111 "FallingGlassModel" "days" "I") (List.mem_of_getElem? (i := 7) rfl)) (fun _ h9 => h9) rfl dX10_day_144 ?_
                refine lv_iload hx hb dX10_day_147 (lv_at hl 6 rfl) ?_
                obtain ⟨hi519, h⟩ := x_needs h
                refine va_iast (D := xD G) hx hb hE.1 hP hD hS 6 0 rfl rfl hi519 dX10_day_149 (fun H locs hP hD hS => ?_)
                have hP : va_P (xD G) vwCl [(q_this, .inr (10, [.int mind, .int needle, .int stick, .ref q_years, .ref q_months, .ref q_presses, .ref q_winds, .ref q_skies, .ref q_rains, .ref q_wires, .int days, .ref q_signs, .int signMany, .ref q_cases, .ref q_caseFrom, .ref q_caseTells, .ref q_testAsks, .ref q_testHow, .ref q_testNumber, .int keys, .int weight, .int care, .long scoreSum, .long scoreDays, .int triedSpoken, .int triedRain, .int triedTaken, .int triedBoth, .ref q_glassX, .ref q_glassY, .ref q_glassPress, .ref q_glassWind, .int glasses, .ref q_dry, .ref q_value, .ref q_doing, .ref q_kept, .ref q_isKept, .int keptAt, .int isWriting])), (q_years, .inl (xy G 0, 60, .inl (upd years (Int32.toNatClampNeg days) p0))), (q_months, .inl (xy G 0, 60, .inl (upd months (Int32.toNatClampNeg days) p1))), (q_presses, .inl (xy G 0, 60, .inl (upd presses (Int32.toNatClampNeg days) p2))), (q_winds, .inl (xy G 0, 60, .inl (upd winds (Int32.toNatClampNeg days) p3))), (q_skies, .inl (xy G 0, 60, .inl (upd skies (Int32.toNatClampNeg days) p4))), (q_rains, .inl (xy G 0, 60, .inl (upd rains (Int32.toNatClampNeg days) p5))), (q_wires, .inl (xy G 0, 60, .inl wires))] H := hP
                have hD : va_D A [(q_this, .inr (10, [.int mind, .int needle, .int stick, .ref q_years, .ref q_months, .ref q_presses, .ref q_winds, .ref q_skies, .ref q_rains, .ref q_wires, .int days, .ref q_signs, .int signMany, .ref q_cases, .ref q_caseFrom, .ref q_caseTells, .ref q_testAsks, .ref q_testHow, .ref q_testNumber, .int keys, .int weight, .int care, .long scoreSum, .long scoreDays, .int triedSpoken, .int triedRain, .int triedTaken, .int triedBoth, .ref q_glassX, .ref q_glassY, .ref q_glassPress, .ref q_glassWind, .int glasses, .ref q_dry, .ref q_value, .ref q_doing, .ref q_kept, .ref q_isKept, .int keptAt, .int isWriting])), (q_years, .inl (xy G 0, 60, .inl (upd years (Int32.toNatClampNeg days) p0))), (q_months, .inl (xy G 0, 60, .inl (upd months (Int32.toNatClampNeg days) p1))), (q_presses, .inl (xy G 0, 60, .inl (upd presses (Int32.toNatClampNeg days) p2))), (q_winds, .inl (xy G 0, 60, .inl (upd winds (Int32.toNatClampNeg days) p3))), (q_skies, .inl (xy G 0, 60, .inl (upd skies (Int32.toNatClampNeg days) p4))), (q_rains, .inl (xy G 0, 60, .inl (upd rains (Int32.toNatClampNeg days) p5))), (q_wires, .inl (xy G 0, 60, .inl wires))] := hD
                refine lv_aload_n hx hb dX10_day_150 rfl (lv_at hl 0 rfl) ?_
                refine va_get (D := xD G) (ci := 10) (v := .ref q_wires) (C := RX10) (T := TX10) (N := 40) hx hb hts (fun w9 h9 => (List.mem_cons_of_mem _ (List.mem_append_right _ h9))) hown hE.1 hP 0 rfl rfl 9 (by decide) (hts (.fieldLink RX10 28 "FallingGlassModel" "wires" "[I") (List.mem_of_getElem? (i := 14) rfl)) (fun _ h9 => h9) rfl dX10_day_151 ?_
                refine lv_aload_n hx hb dX10_day_154 rfl (lv_at hl 0 rfl) ?_
                refine va_get (D := xD G) (ci := 10) (v := .int days) (C := RX10) (T := TX10) (N := 40) hx hb hts (fun w9 h9 => (List.mem_cons_of_mem _ (List.mem_append_right _ h9))) hown hE.1 hP 0 rfl rfl 10 (by decide) (hts (.fieldLink RX10 111 "FallingGlassModel" "days" "I") (List.mem_of_getElem? (i := 7) rfl)) (fun _ h9 => h9) rfl dX10_day_155 ?_
                refine lv_bipush (v := (-6)) hx hb dX10_day_158 (by decide) ?_
                obtain ⟨hi520, h⟩ := x_needs h
                refine va_iast (D := xD G) hx hb hE.1 hP hD hS 7 0 rfl rfl hi520 dX10_day_160 (fun H locs hP hD hS => ?_)
                have hP : va_P (xD G) vwCl [(q_this, .inr (10, [.int mind, .int needle, .int stick, .ref q_years, .ref q_months, .ref q_presses, .ref q_winds, .ref q_skies, .ref q_rains, .ref q_wires, .int days, .ref q_signs, .int signMany, .ref q_cases, .ref q_caseFrom, .ref q_caseTells, .ref q_testAsks, .ref q_testHow, .ref q_testNumber, .int keys, .int weight, .int care, .long scoreSum, .long scoreDays, .int triedSpoken, .int triedRain, .int triedTaken, .int triedBoth, .ref q_glassX, .ref q_glassY, .ref q_glassPress, .ref q_glassWind, .int glasses, .ref q_dry, .ref q_value, .ref q_doing, .ref q_kept, .ref q_isKept, .int keptAt, .int isWriting])), (q_years, .inl (xy G 0, 60, .inl (upd years (Int32.toNatClampNeg days) p0))), (q_months, .inl (xy G 0, 60, .inl (upd months (Int32.toNatClampNeg days) p1))), (q_presses, .inl (xy G 0, 60, .inl (upd presses (Int32.toNatClampNeg days) p2))), (q_winds, .inl (xy G 0, 60, .inl (upd winds (Int32.toNatClampNeg days) p3))), (q_skies, .inl (xy G 0, 60, .inl (upd skies (Int32.toNatClampNeg days) p4))), (q_rains, .inl (xy G 0, 60, .inl (upd rains (Int32.toNatClampNeg days) p5))), (q_wires, .inl (xy G 0, 60, .inl (upd wires (Int32.toNatClampNeg days) ((-6)))))] H := hP
                have hD : va_D A [(q_this, .inr (10, [.int mind, .int needle, .int stick, .ref q_years, .ref q_months, .ref q_presses, .ref q_winds, .ref q_skies, .ref q_rains, .ref q_wires, .int days, .ref q_signs, .int signMany, .ref q_cases, .ref q_caseFrom, .ref q_caseTells, .ref q_testAsks, .ref q_testHow, .ref q_testNumber, .int keys, .int weight, .int care, .long scoreSum, .long scoreDays, .int triedSpoken, .int triedRain, .int triedTaken, .int triedBoth, .ref q_glassX, .ref q_glassY, .ref q_glassPress, .ref q_glassWind, .int glasses, .ref q_dry, .ref q_value, .ref q_doing, .ref q_kept, .ref q_isKept, .int keptAt, .int isWriting])), (q_years, .inl (xy G 0, 60, .inl (upd years (Int32.toNatClampNeg days) p0))), (q_months, .inl (xy G 0, 60, .inl (upd months (Int32.toNatClampNeg days) p1))), (q_presses, .inl (xy G 0, 60, .inl (upd presses (Int32.toNatClampNeg days) p2))), (q_winds, .inl (xy G 0, 60, .inl (upd winds (Int32.toNatClampNeg days) p3))), (q_skies, .inl (xy G 0, 60, .inl (upd skies (Int32.toNatClampNeg days) p4))), (q_rains, .inl (xy G 0, 60, .inl (upd rains (Int32.toNatClampNeg days) p5))), (q_wires, .inl (xy G 0, 60, .inl (upd wires (Int32.toNatClampNeg days) ((-6)))))] := hD
                refine lv_aload_n hx hb dX10_day_161 rfl (lv_at hl 0 rfl) ?_
                refine lv_dup hx hb dX10_day_162 rfl ?_
                refine va_get (D := xD G) (ci := 10) (v := .int days) (C := RX10) (T := TX10) (N := 40) hx hb hts (fun w9 h9 => (List.mem_cons_of_mem _ (List.mem_append_right _ h9))) hown hE.1 hP 0 rfl rfl 10 (by decide) (hts (.fieldLink RX10 111 "FallingGlassModel" "days" "I") (List.mem_of_getElem? (i := 7) rfl)) (fun _ h9 => h9) rfl dX10_day_163 ?_
                refine lv_iconst (v := 1) hx hb dX10_day_166 (by decide) ?_
                refine lv_iadd hx hb dX10_day_167 ?_
                refine va_put (D := xD G) (ci := 10) (v := .int (days + 1)) (ty := .int) (C := RX10) (T := TX10) (N := 40) hx hb hts (fun w9 h9 => (List.mem_cons_of_mem _ (List.mem_append_right _ h9))) tyX10 tyX10_ok nmX10 hown hE.1 hP hD hS 0 rfl rfl 10 (by decide) (hts (.fieldLink RX10 111 "FallingGlassModel" "days" "I") (List.mem_of_getElem? (i := 7) rfl)) (fun _ h9 => h9) rfl (by decide +kernel) rfl rfl (Nat.le_of_ble_eq_true rfl) dX10_day_168 (fun H locs hP hD hS => ?_)
                have hP : va_P (xD G) vwCl [(q_this, .inr (10, [.int mind, .int needle, .int stick, .ref q_years, .ref q_months, .ref q_presses, .ref q_winds, .ref q_skies, .ref q_rains, .ref q_wires, .int (days + 1), .ref q_signs, .int signMany, .ref q_cases, .ref q_caseFrom, .ref q_caseTells, .ref q_testAsks, .ref q_testHow, .ref q_testNumber, .int keys, .int weight, .int care, .long scoreSum, .long scoreDays, .int triedSpoken, .int triedRain, .int triedTaken, .int triedBoth, .ref q_glassX, .ref q_glassY, .ref q_glassPress, .ref q_glassWind, .int glasses, .ref q_dry, .ref q_value, .ref q_doing, .ref q_kept, .ref q_isKept, .int keptAt, .int isWriting])), (q_years, .inl (xy G 0, 60, .inl (upd years (Int32.toNatClampNeg days) p0))), (q_months, .inl (xy G 0, 60, .inl (upd months (Int32.toNatClampNeg days) p1))), (q_presses, .inl (xy G 0, 60, .inl (upd presses (Int32.toNatClampNeg days) p2))), (q_winds, .inl (xy G 0, 60, .inl (upd winds (Int32.toNatClampNeg days) p3))), (q_skies, .inl (xy G 0, 60, .inl (upd skies (Int32.toNatClampNeg days) p4))), (q_rains, .inl (xy G 0, 60, .inl (upd rains (Int32.toNatClampNeg days) p5))), (q_wires, .inl (xy G 0, 60, .inl (upd wires (Int32.toNatClampNeg days) ((-6)))))] H := hP
                have hD : va_D A [(q_this, .inr (10, [.int mind, .int needle, .int stick, .ref q_years, .ref q_months, .ref q_presses, .ref q_winds, .ref q_skies, .ref q_rains, .ref q_wires, .int (days + 1), .ref q_signs, .int signMany, .ref q_cases, .ref q_caseFrom, .ref q_caseTells, .ref q_testAsks, .ref q_testHow, .ref q_testNumber, .int keys, .int weight, .int care, .long scoreSum, .long scoreDays, .int triedSpoken, .int triedRain, .int triedTaken, .int triedBoth, .ref q_glassX, .ref q_glassY, .ref q_glassPress, .ref q_glassWind, .int glasses, .ref q_dry, .ref q_value, .ref q_doing, .ref q_kept, .ref q_isKept, .int keptAt, .int isWriting])), (q_years, .inl (xy G 0, 60, .inl (upd years (Int32.toNatClampNeg days) p0))), (q_months, .inl (xy G 0, 60, .inl (upd months (Int32.toNatClampNeg days) p1))), (q_presses, .inl (xy G 0, 60, .inl (upd presses (Int32.toNatClampNeg days) p2))), (q_winds, .inl (xy G 0, 60, .inl (upd winds (Int32.toNatClampNeg days) p3))), (q_skies, .inl (xy G 0, 60, .inl (upd skies (Int32.toNatClampNeg days) p4))), (q_rains, .inl (xy G 0, 60, .inl (upd rains (Int32.toNatClampNeg days) p5))), (q_wires, .inl (xy G 0, 60, .inl (upd wires (Int32.toNatClampNeg days) ((-6)))))] := hD
                refine lv_aload_n hx hb dX10_day_171 rfl (lv_at hl 0 rfl) ?_
                refine va_get (D := xD G) (ci := 10) (v := .int (days + 1)) (C := RX10) (T := TX10) (N := 40) hx hb hts (fun w9 h9 => (List.mem_cons_of_mem _ (List.mem_append_right _ h9))) hown hE.1 hP 0 rfl rfl 10 (by decide) (hts (.fieldLink RX10 111 "FallingGlassModel" "days" "I") (List.mem_of_getElem? (i := 7) rfl)) (fun _ h9 => h9) rfl dX10_day_172 ?_
                refine lv_iconst (v := 1) hx hb dX10_day_175 (by decide) ?_
                refine lv_isub hx hb dX10_day_176 ?_
                have hq : (((days + 1) - 1), (days + 1), (upd years (Int32.toNatClampNeg days) p0), (upd months (Int32.toNatClampNeg days) p1), (upd presses (Int32.toNatClampNeg days) p2), (upd winds (Int32.toNatClampNeg days) p3), (upd skies (Int32.toNatClampNeg days) p4), (upd rains (Int32.toNatClampNeg days) p5), (upd wires (Int32.toNatClampNeg days) ((-6)))) = out := by cases h; exact ho
                subst hq
                have hP : va_P (xD G) vwCl [(q_this, .inr (10, [.int mind, .int needle, .int stick, .ref q_years, .ref q_months, .ref q_presses, .ref q_winds, .ref q_skies, .ref q_rains, .ref q_wires, .int (days + 1), .ref q_signs, .int signMany, .ref q_cases, .ref q_caseFrom, .ref q_caseTells, .ref q_testAsks, .ref q_testHow, .ref q_testNumber, .int keys, .int weight, .int care, .long scoreSum, .long scoreDays, .int triedSpoken, .int triedRain, .int triedTaken, .int triedBoth, .ref q_glassX, .ref q_glassY, .ref q_glassPress, .ref q_glassWind, .int glasses, .ref q_dry, .ref q_value, .ref q_doing, .ref q_kept, .ref q_isKept, .int keptAt, .int isWriting])), (q_years, .inl (xy G 0, 60, .inl (upd years (Int32.toNatClampNeg days) p0))), (q_months, .inl (xy G 0, 60, .inl (upd months (Int32.toNatClampNeg days) p1))), (q_presses, .inl (xy G 0, 60, .inl (upd presses (Int32.toNatClampNeg days) p2))), (q_winds, .inl (xy G 0, 60, .inl (upd winds (Int32.toNatClampNeg days) p3))), (q_skies, .inl (xy G 0, 60, .inl (upd skies (Int32.toNatClampNeg days) p4))), (q_rains, .inl (xy G 0, 60, .inl (upd rains (Int32.toNatClampNeg days) p5))), (q_wires, .inl (xy G 0, 60, .inl (upd wires (Int32.toNatClampNeg days) ((-6)))))] H := hP
                have hD : va_D A [(q_this, .inr (10, [.int mind, .int needle, .int stick, .ref q_years, .ref q_months, .ref q_presses, .ref q_winds, .ref q_skies, .ref q_rains, .ref q_wires, .int (days + 1), .ref q_signs, .int signMany, .ref q_cases, .ref q_caseFrom, .ref q_caseTells, .ref q_testAsks, .ref q_testHow, .ref q_testNumber, .int keys, .int weight, .int care, .long scoreSum, .long scoreDays, .int triedSpoken, .int triedRain, .int triedTaken, .int triedBoth, .ref q_glassX, .ref q_glassY, .ref q_glassPress, .ref q_glassWind, .int glasses, .ref q_dry, .ref q_value, .ref q_doing, .ref q_kept, .ref q_isKept, .int keptAt, .int isWriting])), (q_years, .inl (xy G 0, 60, .inl (upd years (Int32.toNatClampNeg days) p0))), (q_months, .inl (xy G 0, 60, .inl (upd months (Int32.toNatClampNeg days) p1))), (q_presses, .inl (xy G 0, 60, .inl (upd presses (Int32.toNatClampNeg days) p2))), (q_winds, .inl (xy G 0, 60, .inl (upd winds (Int32.toNatClampNeg days) p3))), (q_skies, .inl (xy G 0, 60, .inl (upd skies (Int32.toNatClampNeg days) p4))), (q_rains, .inl (xy G 0, 60, .inl (upd rains (Int32.toNatClampNeg days) p5))), (q_wires, .inl (xy G 0, 60, .inl (upd wires (Int32.toNatClampNeg days) ((-6)))))] := hD
                exact x_iretw hx hb hr hlk hP hD hS rfl dX10_day_177
              · replace h := (if_pos hc513).symm.trans h
                refine lv_bipush (v := (-4)) hx hb dX10_day_84 (by decide) ?_
                have hq : ((-4), days, years, months, presses, winds, skies, rains, wires) = out := by cases h; exact ho
                subst hq
                have hP : va_P (xD G) vwCl [(q_this, .inr (10, [.int mind, .int needle, .int stick, .ref q_years, .ref q_months, .ref q_presses, .ref q_winds, .ref q_skies, .ref q_rains, .ref q_wires, .int days, .ref q_signs, .int signMany, .ref q_cases, .ref q_caseFrom, .ref q_caseTells, .ref q_testAsks, .ref q_testHow, .ref q_testNumber, .int keys, .int weight, .int care, .long scoreSum, .long scoreDays, .int triedSpoken, .int triedRain, .int triedTaken, .int triedBoth, .ref q_glassX, .ref q_glassY, .ref q_glassPress, .ref q_glassWind, .int glasses, .ref q_dry, .ref q_value, .ref q_doing, .ref q_kept, .ref q_isKept, .int keptAt, .int isWriting])), (q_years, .inl (xy G 0, 60, .inl years)), (q_months, .inl (xy G 0, 60, .inl months)), (q_presses, .inl (xy G 0, 60, .inl presses)), (q_winds, .inl (xy G 0, 60, .inl winds)), (q_skies, .inl (xy G 0, 60, .inl skies)), (q_rains, .inl (xy G 0, 60, .inl rains)), (q_wires, .inl (xy G 0, 60, .inl wires))] H := hP
                have hD : va_D A [(q_this, .inr (10, [.int mind, .int needle, .int stick, .ref q_years, .ref q_months, .ref q_presses, .ref q_winds, .ref q_skies, .ref q_rains, .ref q_wires, .int days, .ref q_signs, .int signMany, .ref q_cases, .ref q_caseFrom, .ref q_caseTells, .ref q_testAsks, .ref q_testHow, .ref q_testNumber, .int keys, .int weight, .int care, .long scoreSum, .long scoreDays, .int triedSpoken, .int triedRain, .int triedTaken, .int triedBoth, .ref q_glassX, .ref q_glassY, .ref q_glassPress, .ref q_glassWind, .int glasses, .ref q_dry, .ref q_value, .ref q_doing, .ref q_kept, .ref q_isKept, .int keptAt, .int isWriting])), (q_years, .inl (xy G 0, 60, .inl years)), (q_months, .inl (xy G 0, 60, .inl months)), (q_presses, .inl (xy G 0, 60, .inl presses)), (q_winds, .inl (xy G 0, 60, .inl winds)), (q_skies, .inl (xy G 0, 60, .inl skies)), (q_rains, .inl (xy G 0, 60, .inl rains)), (q_wires, .inl (xy G 0, 60, .inl wires))] := hD
                exact x_iretw hx hb hr hlk hP hD hS rfl dX10_day_86
            · replace h := (if_pos hc512).symm.trans h
              refine lv_bipush (v := (-2)) hx hb dX10_day_72 (by decide) ?_
              have hq : ((-2), days, years, months, presses, winds, skies, rains, wires) = out := by cases h; exact ho
              subst hq
              have hP : va_P (xD G) vwCl [(q_this, .inr (10, [.int mind, .int needle, .int stick, .ref q_years, .ref q_months, .ref q_presses, .ref q_winds, .ref q_skies, .ref q_rains, .ref q_wires, .int days, .ref q_signs, .int signMany, .ref q_cases, .ref q_caseFrom, .ref q_caseTells, .ref q_testAsks, .ref q_testHow, .ref q_testNumber, .int keys, .int weight, .int care, .long scoreSum, .long scoreDays, .int triedSpoken, .int triedRain, .int triedTaken, .int triedBoth, .ref q_glassX, .ref q_glassY, .ref q_glassPress, .ref q_glassWind, .int glasses, .ref q_dry, .ref q_value, .ref q_doing, .ref q_kept, .ref q_isKept, .int keptAt, .int isWriting])), (q_years, .inl (xy G 0, 60, .inl years)), (q_months, .inl (xy G 0, 60, .inl months)), (q_presses, .inl (xy G 0, 60, .inl presses)), (q_winds, .inl (xy G 0, 60, .inl winds)), (q_skies, .inl (xy G 0, 60, .inl skies)), (q_rains, .inl (xy G 0, 60, .inl rains)), (q_wires, .inl (xy G 0, 60, .inl wires))] H := hP
              have hD : va_D A [(q_this, .inr (10, [.int mind, .int needle, .int stick, .ref q_years, .ref q_months, .ref q_presses, .ref q_winds, .ref q_skies, .ref q_rains, .ref q_wires, .int days, .ref q_signs, .int signMany, .ref q_cases, .ref q_caseFrom, .ref q_caseTells, .ref q_testAsks, .ref q_testHow, .ref q_testNumber, .int keys, .int weight, .int care, .long scoreSum, .long scoreDays, .int triedSpoken, .int triedRain, .int triedTaken, .int triedBoth, .ref q_glassX, .ref q_glassY, .ref q_glassPress, .ref q_glassWind, .int glasses, .ref q_dry, .ref q_value, .ref q_doing, .ref q_kept, .ref q_isKept, .int keptAt, .int isWriting])), (q_years, .inl (xy G 0, 60, .inl years)), (q_months, .inl (xy G 0, 60, .inl months)), (q_presses, .inl (xy G 0, 60, .inl presses)), (q_winds, .inl (xy G 0, 60, .inl winds)), (q_skies, .inl (xy G 0, 60, .inl skies)), (q_rains, .inl (xy G 0, 60, .inl rains)), (q_wires, .inl (xy G 0, 60, .inl wires))] := hD
              exact x_iretw hx hb hr hlk hP hD hS rfl dX10_day_74
noncomputable def mX10_tear (days : Int32)  : Option (Int32 × Int32) :=
  if days = 0 then (some ((-5), days)) else (some ((days - 1), (days - 1)))
set_option maxHeartbeats 4000000 in
set_option maxRecDepth 100000 in
theorem kX10_tear (l : Launch) (G : xG) (H0 : Heap) {q_this q_years q_months q_presses q_winds q_skies q_rains q_wires q_signs q_cases q_caseFrom q_caseTells q_testAsks q_testHow q_testNumber q_glassX q_glassY q_glassPress q_glassWind q_dry q_value q_doing q_kept q_isKept : Nat} {mind : Int32} {needle : Int32} {stick : Int32} {days : Int32} {signMany : Int32} {keys : Int32} {weight : Int32} {care : Int32} {scoreSum : Int64} {scoreDays : Int64} {triedSpoken : Int32} {triedRain : Int32} {triedTaken : Int32} {triedBoth : Int32} {glasses : Int32} {keptAt : Int32} {isWriting : Int32} (w0 : va_W) (hw0 : w0 = [(q_this, .inr (10, [.int mind, .int needle, .int stick, .ref q_years, .ref q_months, .ref q_presses, .ref q_winds, .ref q_skies, .ref q_rains, .ref q_wires, .int days, .ref q_signs, .int signMany, .ref q_cases, .ref q_caseFrom, .ref q_caseTells, .ref q_testAsks, .ref q_testHow, .ref q_testNumber, .int keys, .int weight, .int care, .long scoreSum, .long scoreDays, .int triedSpoken, .int triedRain, .int triedTaken, .int triedBoth, .ref q_glassX, .ref q_glassY, .ref q_glassPress, .ref q_glassWind, .int glasses, .ref q_dry, .ref q_value, .ref q_doing, .ref q_kept, .ref q_isKept, .int keptAt, .int isWriting]))]) (hP : va_P (xD G) vwCl w0 H0) (hD : va_D (fun _ => True) w0) {out : Int32 × Int32} (h : mX10_tear days = some out) : Met l yX10_tear wsX10_tear ({ frames := 0, cells := 0, slots := 0, locals := 0 }) (xPcw G (va_A w0 H0.size) H0 [.ref q_this]) (xRi G (va_A w0 H0.size) [(q_this, .inr (10, [.int mind, .int needle, .int stick, .ref q_years, .ref q_months, .ref q_presses, .ref q_winds, .ref q_skies, .ref q_rains, .ref q_wires, .int out.2, .ref q_signs, .int signMany, .ref q_cases, .ref q_caseFrom, .ref q_caseTells, .ref q_testAsks, .ref q_testHow, .ref q_testNumber, .int keys, .int weight, .int care, .long scoreSum, .long scoreDays, .int triedSpoken, .int triedRain, .int triedTaken, .int triedBoth, .ref q_glassX, .ref q_glassY, .ref q_glassPress, .ref q_glassWind, .int glasses, .ref q_dry, .ref q_value, .ref q_doing, .ref q_kept, .ref q_isKept, .int keptAt, .int isWriting]))] (out.1)) 0 0 (va_A w0 H0.size) := by
  refine x_metw (y := yX10_tear) (ws := wsX10_tear) (rm := { frames := 0, cells := 0, slots := 0, locals := 0 }) (G := G) (H0 := H0) (w0 := w0) (av := [.ref q_this]) (mc := 0) (ms := 0) (Qc := (fun A => (xRi G A [(q_this, .inr (10, [.int mind, .int needle, .int stick, .ref q_years, .ref q_months, .ref q_presses, .ref q_winds, .ref q_skies, .ref q_rains, .ref q_wires, .int out.2, .ref q_signs, .int signMany, .ref q_cases, .ref q_caseFrom, .ref q_caseTells, .ref q_testAsks, .ref q_testHow, .ref q_testNumber, .int keys, .int weight, .int care, .long scoreSum, .long scoreDays, .int triedSpoken, .int triedRain, .int triedTaken, .int triedBoth, .ref q_glassX, .ref q_glassY, .ref q_glassPress, .ref q_glassWind, .int glasses, .ref q_dry, .ref q_value, .ref q_doing, .ref q_kept, .ref q_isKept, .int keptAt, .int isWriting]))] (out.1)))) (by decide) rfl (Nat.le_of_ble_eq_true rfl) hP hD ?_
  clear hP hD
  intro p e s m below meth c ls A H locs hA hAt hnm hl hP hD hS
  subst hw0
  obtain ⟨hx, hb, hr, hlk, hml, hown, hts, hE⟩ := hAt
  have hown : s.vm.findClass RX10 = some m.cls := hown
  have hl : lv_has ls 1 [(0, .ref q_this)] := hl
  have ho : out = out := rfl
  unfold mX10_tear at h
  refine lv_aload_n hx hb dX10_tear_0 rfl (lv_at hl 0 rfl) ?_
  refine va_get (D := xD G) (ci := 10) (v := .int days) (C := RX10) (T := TX10) (N := 40) hx hb hts (fun w9 h9 => (List.mem_cons_of_mem _ (List.mem_append_right _ h9))) hown hE.1 hP 0 rfl rfl 10 (by decide) (hts (.fieldLink RX10 111 "FallingGlassModel" "days" "I") (List.mem_of_getElem? (i := 1) rfl)) (fun _ h9 => h9) rfl dX10_tear_1 ?_
  refine lv_if_ne (tgt := 10) hx hb dX10_tear_4 (by decide) (fun hc501 => ?_) (fun hc501 => ?_)
  · replace h := (if_neg hc501).symm.trans h
    refine lv_aload_n hx hb dX10_tear_10 rfl (lv_at hl 0 rfl) ?_
    refine lv_dup hx hb dX10_tear_11 rfl ?_
    refine va_get (D := xD G) (ci := 10) (v := .int days) (C := RX10) (T := TX10) (N := 40) hx hb hts (fun w9 h9 => (List.mem_cons_of_mem _ (List.mem_append_right _ h9))) hown hE.1 hP 0 rfl rfl 10 (by decide) (hts (.fieldLink RX10 111 "FallingGlassModel" "days" "I") (List.mem_of_getElem? (i := 1) rfl)) (fun _ h9 => h9) rfl dX10_tear_12 ?_
    refine lv_iconst (v := 1) hx hb dX10_tear_15 (by decide) ?_
    refine lv_isub hx hb dX10_tear_16 ?_
    refine va_put (D := xD G) (ci := 10) (v := .int (days - 1)) (ty := .int) (C := RX10) (T := TX10) (N := 40) hx hb hts (fun w9 h9 => (List.mem_cons_of_mem _ (List.mem_append_right _ h9))) tyX10 tyX10_ok nmX10 hown hE.1 hP hD hS 0 rfl rfl 10 (by decide) (hts (.fieldLink RX10 111 "FallingGlassModel" "days" "I") (List.mem_of_getElem? (i := 1) rfl)) (fun _ h9 => h9) rfl (by decide +kernel) rfl rfl (Nat.le_of_ble_eq_true rfl) dX10_tear_17 (fun H locs hP hD hS => ?_)
    have hP : va_P (xD G) vwCl [(q_this, .inr (10, [.int mind, .int needle, .int stick, .ref q_years, .ref q_months, .ref q_presses, .ref q_winds, .ref q_skies, .ref q_rains, .ref q_wires, .int (days - 1), .ref q_signs, .int signMany, .ref q_cases, .ref q_caseFrom, .ref q_caseTells, .ref q_testAsks, .ref q_testHow, .ref q_testNumber, .int keys, .int weight, .int care, .long scoreSum, .long scoreDays, .int triedSpoken, .int triedRain, .int triedTaken, .int triedBoth, .ref q_glassX, .ref q_glassY, .ref q_glassPress, .ref q_glassWind, .int glasses, .ref q_dry, .ref q_value, .ref q_doing, .ref q_kept, .ref q_isKept, .int keptAt, .int isWriting]))] H := hP
    have hD : va_D A [(q_this, .inr (10, [.int mind, .int needle, .int stick, .ref q_years, .ref q_months, .ref q_presses, .ref q_winds, .ref q_skies, .ref q_rains, .ref q_wires, .int (days - 1), .ref q_signs, .int signMany, .ref q_cases, .ref q_caseFrom, .ref q_caseTells, .ref q_testAsks, .ref q_testHow, .ref q_testNumber, .int keys, .int weight, .int care, .long scoreSum, .long scoreDays, .int triedSpoken, .int triedRain, .int triedTaken, .int triedBoth, .ref q_glassX, .ref q_glassY, .ref q_glassPress, .ref q_glassWind, .int glasses, .ref q_dry, .ref q_value, .ref q_doing, .ref q_kept, .ref q_isKept, .int keptAt, .int isWriting]))] := hD
    refine lv_aload_n hx hb dX10_tear_20 rfl (lv_at hl 0 rfl) ?_
    refine va_get (D := xD G) (ci := 10) (v := .int (days - 1)) (C := RX10) (T := TX10) (N := 40) hx hb hts (fun w9 h9 => (List.mem_cons_of_mem _ (List.mem_append_right _ h9))) hown hE.1 hP 0 rfl rfl 10 (by decide) (hts (.fieldLink RX10 111 "FallingGlassModel" "days" "I") (List.mem_of_getElem? (i := 1) rfl)) (fun _ h9 => h9) rfl dX10_tear_21 ?_
    have hq : ((days - 1), (days - 1)) = out := by cases h; exact ho
    subst hq
    have hP : va_P (xD G) vwCl [(q_this, .inr (10, [.int mind, .int needle, .int stick, .ref q_years, .ref q_months, .ref q_presses, .ref q_winds, .ref q_skies, .ref q_rains, .ref q_wires, .int (days - 1), .ref q_signs, .int signMany, .ref q_cases, .ref q_caseFrom, .ref q_caseTells, .ref q_testAsks, .ref q_testHow, .ref q_testNumber, .int keys, .int weight, .int care, .long scoreSum, .long scoreDays, .int triedSpoken, .int triedRain, .int triedTaken, .int triedBoth, .ref q_glassX, .ref q_glassY, .ref q_glassPress, .ref q_glassWind, .int glasses, .ref q_dry, .ref q_value, .ref q_doing, .ref q_kept, .ref q_isKept, .int keptAt, .int isWriting]))] H := hP
    have hD : va_D A [(q_this, .inr (10, [.int mind, .int needle, .int stick, .ref q_years, .ref q_months, .ref q_presses, .ref q_winds, .ref q_skies, .ref q_rains, .ref q_wires, .int (days - 1), .ref q_signs, .int signMany, .ref q_cases, .ref q_caseFrom, .ref q_caseTells, .ref q_testAsks, .ref q_testHow, .ref q_testNumber, .int keys, .int weight, .int care, .long scoreSum, .long scoreDays, .int triedSpoken, .int triedRain, .int triedTaken, .int triedBoth, .ref q_glassX, .ref q_glassY, .ref q_glassPress, .ref q_glassWind, .int glasses, .ref q_dry, .ref q_value, .ref q_doing, .ref q_kept, .ref q_isKept, .int keptAt, .int isWriting]))] := hD
    exact x_iretw hx hb hr hlk hP hD hS rfl dX10_tear_24
  · replace h := (if_pos hc501).symm.trans h
    refine lv_bipush (v := (-5)) hx hb dX10_tear_7 (by decide) ?_
    have hq : ((-5), days) = out := by cases h; exact ho
    subst hq
    have hP : va_P (xD G) vwCl [(q_this, .inr (10, [.int mind, .int needle, .int stick, .ref q_years, .ref q_months, .ref q_presses, .ref q_winds, .ref q_skies, .ref q_rains, .ref q_wires, .int days, .ref q_signs, .int signMany, .ref q_cases, .ref q_caseFrom, .ref q_caseTells, .ref q_testAsks, .ref q_testHow, .ref q_testNumber, .int keys, .int weight, .int care, .long scoreSum, .long scoreDays, .int triedSpoken, .int triedRain, .int triedTaken, .int triedBoth, .ref q_glassX, .ref q_glassY, .ref q_glassPress, .ref q_glassWind, .int glasses, .ref q_dry, .ref q_value, .ref q_doing, .ref q_kept, .ref q_isKept, .int keptAt, .int isWriting]))] H := hP
    have hD : va_D A [(q_this, .inr (10, [.int mind, .int needle, .int stick, .ref q_years, .ref q_months, .ref q_presses, .ref q_winds, .ref q_skies, .ref q_rains, .ref q_wires, .int days, .ref q_signs, .int signMany, .ref q_cases, .ref q_caseFrom, .ref q_caseTells, .ref q_testAsks, .ref q_testHow, .ref q_testNumber, .int keys, .int weight, .int care, .long scoreSum, .long scoreDays, .int triedSpoken, .int triedRain, .int triedTaken, .int triedBoth, .ref q_glassX, .ref q_glassY, .ref q_glassPress, .ref q_glassWind, .int glasses, .ref q_dry, .ref q_value, .ref q_doing, .ref q_kept, .ref q_isKept, .int keptAt, .int isWriting]))] := hD
    exact x_iretw hx hb hr hlk hP hD hS rfl dX10_tear_9
noncomputable def mX10_falls (presses : Nat → Int32) (p0 : Int32) : Option (Bool) :=
  if p0 ≤ 0 then (some false) else (x_need (x_in p0 60) (if (presses (Int32.toNatClampNeg p0)) < 0 then (some false) else (x_need (x_in ((p0 - 1)) 60) (if (presses (Int32.toNatClampNeg ((p0 - 1)))) < 0 then (some false) else (some true)))))
set_option maxHeartbeats 4000000 in
set_option maxRecDepth 100000 in
theorem kX10_falls (l : Launch) (G : xG) (H0 : Heap) {q_this q_years q_months q_presses q_winds q_skies q_rains q_wires q_signs q_cases q_caseFrom q_caseTells q_testAsks q_testHow q_testNumber q_glassX q_glassY q_glassPress q_glassWind q_dry q_value q_doing q_kept q_isKept : Nat} {mind : Int32} {needle : Int32} {stick : Int32} {days : Int32} {signMany : Int32} {keys : Int32} {weight : Int32} {care : Int32} {scoreSum : Int64} {scoreDays : Int64} {triedSpoken : Int32} {triedRain : Int32} {triedTaken : Int32} {triedBoth : Int32} {glasses : Int32} {keptAt : Int32} {isWriting : Int32} {presses : Nat → Int32} {p0 : Int32} (hP : va_P (xD G) vwCl [(q_this, .inr (10, [.int mind, .int needle, .int stick, .ref q_years, .ref q_months, .ref q_presses, .ref q_winds, .ref q_skies, .ref q_rains, .ref q_wires, .int days, .ref q_signs, .int signMany, .ref q_cases, .ref q_caseFrom, .ref q_caseTells, .ref q_testAsks, .ref q_testHow, .ref q_testNumber, .int keys, .int weight, .int care, .long scoreSum, .long scoreDays, .int triedSpoken, .int triedRain, .int triedTaken, .int triedBoth, .ref q_glassX, .ref q_glassY, .ref q_glassPress, .ref q_glassWind, .int glasses, .ref q_dry, .ref q_value, .ref q_doing, .ref q_kept, .ref q_isKept, .int keptAt, .int isWriting])), (q_presses, .inl (xy G 0, 60, .inl presses))] H0) {out : Bool} (h : mX10_falls presses p0 = some out) : Met l yX10_falls wsX10_falls ({ frames := 0, cells := 0, slots := 0, locals := 0 }) (xPc G H0 [.ref q_this, .int p0]) (xQi H0 (xb out)) 0 0 xN := by
  refine x_met (by decide) rfl (Nat.le_of_ble_eq_true rfl) ?_
  intro p e s m below meth c ls hH hA hl
  obtain ⟨hx, hb, hr, hlk, hml, hown, hts, hE⟩ := hA
  subst hH
  have hown : s.vm.findClass RX10 = some m.cls := hown
  have hl : lv_has ls 2 [(0, .ref q_this), (1, .int p0)] := hl
  have hS : va_S xN s.heap s.heap [] := va_S.rf
  have ho : out = out := rfl
  unfold mX10_falls at h
  refine lv_iload_n hx hb dX10_falls_0 rfl (lv_at hl 1 rfl) ?_
  refine lv_if_le (tgt := 28) hx hb dX10_falls_1 (by decide) (fun hc501 => ?_) (fun hc501 => ?_)
  · replace h := (if_pos hc501).symm.trans h
    refine lv_iconst (v := 0) hx hb dX10_falls_28 (by decide) ?_
    have hq : false = out := by cases h; exact ho
    subst hq
    exact x_zret (b := false) hx hb hr hlk rfl rfl rfl dX10_falls_29
  · replace h := (if_neg hc501).symm.trans h
    refine lv_aload_n hx hb dX10_falls_4 rfl (lv_at hl 0 rfl) ?_
    refine va_get (D := xD G) (ci := 10) (v := .ref q_presses) (C := RX10) (T := TX10) (N := 40) hx hb hts (fun w9 h9 => (List.mem_cons_of_mem _ (List.mem_append_right _ h9))) hown hE.1 hP 0 rfl rfl 5 (by decide) (hts (.fieldLink RX10 16 "FallingGlassModel" "presses" "[I") (List.mem_of_getElem? (i := 1) rfl)) (fun _ h9 => h9) rfl dX10_falls_5 ?_
    refine lv_iload_n hx hb dX10_falls_8 rfl (lv_at hl 1 rfl) ?_
    obtain ⟨hi502, h⟩ := x_needs h
    refine va_iald (D := xD G) hx hb hE.1 hP 1 0 rfl rfl hi502 dX10_falls_9 ?_
    refine lv_if_lt (tgt := 28) hx hb dX10_falls_10 (by decide) (fun hc503 => ?_) (fun hc503 => ?_)
    · replace h := (if_pos hc503).symm.trans h
      refine lv_iconst (v := 0) hx hb dX10_falls_28 (by decide) ?_
      have hq : false = out := by cases h; exact ho
      subst hq
      exact x_zret (b := false) hx hb hr hlk rfl rfl rfl dX10_falls_29
    · replace h := (if_neg hc503).symm.trans h
      refine lv_aload_n hx hb dX10_falls_13 rfl (lv_at hl 0 rfl) ?_
      refine va_get (D := xD G) (ci := 10) (v := .ref q_presses) (C := RX10) (T := TX10) (N := 40) hx hb hts (fun w9 h9 => (List.mem_cons_of_mem _ (List.mem_append_right _ h9))) hown hE.1 hP 0 rfl rfl 5 (by decide) (hts (.fieldLink RX10 16 "FallingGlassModel" "presses" "[I") (List.mem_of_getElem? (i := 1) rfl)) (fun _ h9 => h9) rfl dX10_falls_14 ?_
      refine lv_iload_n hx hb dX10_falls_17 rfl (lv_at hl 1 rfl) ?_
      refine lv_iconst (v := 1) hx hb dX10_falls_18 (by decide) ?_
      refine lv_isub hx hb dX10_falls_19 ?_
      obtain ⟨hi504, h⟩ := x_needs h
      refine va_iald (D := xD G) hx hb hE.1 hP 1 0 rfl rfl hi504 dX10_falls_20 ?_
      refine lv_if_lt (tgt := 28) hx hb dX10_falls_21 (by decide) (fun hc505 => ?_) (fun hc505 => ?_)
      · replace h := (if_pos hc505).symm.trans h
        refine lv_iconst (v := 0) hx hb dX10_falls_28 (by decide) ?_
        have hq : false = out := by cases h; exact ho
        subst hq
        exact x_zret (b := false) hx hb hr hlk rfl rfl rfl dX10_falls_29
      · replace h := (if_neg hc505).symm.trans h
        refine lv_iconst (v := 1) hx hb dX10_falls_24 (by decide) ?_
        refine lv_goto (tgt := 29) hx hb dX10_falls_25 (by decide) ?_
        have hq : true = out := by cases h; exact ho
        subst hq
        exact x_zret (b := true) hx hb hr hlk rfl rfl rfl dX10_falls_29
noncomputable def mX10_lookOf (years : Nat → Int32) (months : Nat → Int32) (presses : Nat → Int32) (winds : Nat → Int32) (skies : Nat → Int32) (rains : Nat → Int32) (p0 : Int32) (p1 : Int32) : Option (Int32) :=
  if p1 = 0 then (x_need (x_in p0 60) (if 0 ≤ (presses (Int32.toNatClampNeg p0)) then (x_need (x_in p0 60) (some ((presses (Int32.toNatClampNeg p0))))) else (some ((-6))))) else (if p1 = 1 then (x_need (x_in p0 60) (some ((winds (Int32.toNatClampNeg p0))))) else (if p1 = 2 then (x_need (x_in p0 60) (some ((skies (Int32.toNatClampNeg p0))))) else (if p1 = 3 then (x_need (x_in p0 60) (some ((months (Int32.toNatClampNeg p0))))) else (if p1 = 4 then (if p0 = 0 then (some ((-6))) else (x_need (x_in ((p0 - 1)) 60) (some ((rains (Int32.toNatClampNeg ((p0 - 1)))))))) else (if p1 = 5 then ((mX10_falls presses p0).bind (fun r510 => if (xb r510) = 0 then (some ((-6))) else (x_need (x_in p0 60) (x_need (x_in ((p0 - 1)) 60) (if (presses (Int32.toNatClampNeg ((p0 - 1)))) ≤ (presses (Int32.toNatClampNeg p0)) then (some 0) else (x_need (x_in ((p0 - 1)) 60) (x_need (x_in p0 60) (some (((presses (Int32.toNatClampNeg ((p0 - 1)))) - (presses (Int32.toNatClampNeg p0)))))))))))) else (if p1 = 6 then ((mX10_falls presses p0).bind (fun r517 => if (xb r517) = 0 then (some ((-6))) else (x_need (x_in p0 60) (x_need (x_in ((p0 - 1)) 60) (if (presses (Int32.toNatClampNeg p0)) ≤ (presses (Int32.toNatClampNeg ((p0 - 1)))) then (some 0) else (x_need (x_in p0 60) (x_need (x_in ((p0 - 1)) 60) (some (((presses (Int32.toNatClampNeg p0)) - (presses (Int32.toNatClampNeg ((p0 - 1)))))))))))))) else (if p1 = 7 then (x_need (x_in p0 60) (some ((years (Int32.toNatClampNeg p0))))) else (x_need (x_in p0 60) (some ((rains (Int32.toNatClampNeg p0))))))))))))
set_option maxHeartbeats 4000000 in
set_option maxRecDepth 100000 in
theorem kX10_lookOf (l : Launch) (G : xG) (H0 : Heap) {q_this q_years q_months q_presses q_winds q_skies q_rains q_wires q_signs q_cases q_caseFrom q_caseTells q_testAsks q_testHow q_testNumber q_glassX q_glassY q_glassPress q_glassWind q_dry q_value q_doing q_kept q_isKept : Nat} {mind : Int32} {needle : Int32} {stick : Int32} {days : Int32} {signMany : Int32} {keys : Int32} {weight : Int32} {care : Int32} {scoreSum : Int64} {scoreDays : Int64} {triedSpoken : Int32} {triedRain : Int32} {triedTaken : Int32} {triedBoth : Int32} {glasses : Int32} {keptAt : Int32} {isWriting : Int32} {years : Nat → Int32} {months : Nat → Int32} {presses : Nat → Int32} {winds : Nat → Int32} {skies : Nat → Int32} {rains : Nat → Int32} {p0 : Int32} {p1 : Int32} (hP : va_P (xD G) vwCl [(q_this, .inr (10, [.int mind, .int needle, .int stick, .ref q_years, .ref q_months, .ref q_presses, .ref q_winds, .ref q_skies, .ref q_rains, .ref q_wires, .int days, .ref q_signs, .int signMany, .ref q_cases, .ref q_caseFrom, .ref q_caseTells, .ref q_testAsks, .ref q_testHow, .ref q_testNumber, .int keys, .int weight, .int care, .long scoreSum, .long scoreDays, .int triedSpoken, .int triedRain, .int triedTaken, .int triedBoth, .ref q_glassX, .ref q_glassY, .ref q_glassPress, .ref q_glassWind, .int glasses, .ref q_dry, .ref q_value, .ref q_doing, .ref q_kept, .ref q_isKept, .int keptAt, .int isWriting])), (q_years, .inl (xy G 0, 60, .inl years)), (q_months, .inl (xy G 0, 60, .inl months)), (q_presses, .inl (xy G 0, 60, .inl presses)), (q_winds, .inl (xy G 0, 60, .inl winds)), (q_skies, .inl (xy G 0, 60, .inl skies)), (q_rains, .inl (xy G 0, 60, .inl rains))] H0) {out : Int32} (h : mX10_lookOf years months presses winds skies rains p0 p1 = some out) : Met l yX10_lookOf wsX10_lookOf ({ frames := 1, cells := 0, slots := 0, locals := 21 }) (xPc G H0 [.ref q_this, .int p0, .int p1]) (xQi H0 (out)) 0 0 xN := by
  refine x_met (by decide) rfl (Nat.le_of_ble_eq_true rfl) ?_
  intro p e s m below meth c ls hH hA hl
  obtain ⟨hx, hb, hr, hlk, hml, hown, hts, hE⟩ := hA
  subst hH
  have hown : s.vm.findClass RX10 = some m.cls := hown
  have hl : lv_has ls 3 [(0, .ref q_this), (1, .int p0), (2, .int p1)] := hl
  have hS : va_S xN s.heap s.heap [] := va_S.rf
  have ho : out = out := rfl
  unfold mX10_lookOf at h
  refine lv_iload_n hx hb dX10_lookOf_0 rfl (lv_at hl 2 rfl) ?_
  by_cases hk501_0 : p1 = 0
  · replace h := (if_pos hk501_0).symm.trans h
    refine lv_tableIn (tgt := 48) hx hb dX10_lookOf_1 (by rw [hk501_0]; decide) (by rw [hk501_0]; decide) (by rw [hk501_0]; rfl) (by decide) ?_
    refine lv_aload_n hx hb dX10_lookOf_48 rfl (lv_at hl 0 rfl) ?_
    refine va_get (D := xD G) (ci := 10) (v := .ref q_presses) (C := RX10) (T := TX10) (N := 40) hx hb hts (fun w9 h9 => (List.mem_cons_of_mem _ (List.mem_append_right _ h9))) hown hE.1 hP 0 rfl rfl 5 (by decide) (hts (.fieldLink RX10 16 "FallingGlassModel" "presses" "[I") (List.mem_of_getElem? (i := 1) rfl)) (fun _ h9 => h9) rfl dX10_lookOf_49 ?_
    refine lv_iload_n hx hb dX10_lookOf_52 rfl (lv_at hl 1 rfl) ?_
    obtain ⟨hi502, h⟩ := x_needs h
    refine va_iald (D := xD G) hx hb hE.1 hP 3 0 rfl rfl hi502 dX10_lookOf_53 ?_
    refine lv_if_ge (tgt := 62) hx hb dX10_lookOf_54 (by decide) (fun hc503 => ?_) (fun hc503 => ?_)
    · replace h := (if_pos hc503).symm.trans h
      refine lv_aload_n hx hb dX10_lookOf_62 rfl (lv_at hl 0 rfl) ?_
      refine va_get (D := xD G) (ci := 10) (v := .ref q_presses) (C := RX10) (T := TX10) (N := 40) hx hb hts (fun w9 h9 => (List.mem_cons_of_mem _ (List.mem_append_right _ h9))) hown hE.1 hP 0 rfl rfl 5 (by decide) (hts (.fieldLink RX10 16 "FallingGlassModel" "presses" "[I") (List.mem_of_getElem? (i := 1) rfl)) (fun _ h9 => h9) rfl dX10_lookOf_63 ?_
      refine lv_iload_n hx hb dX10_lookOf_66 rfl (lv_at hl 1 rfl) ?_
      obtain ⟨hi504, h⟩ := x_needs h
      refine va_iald (D := xD G) hx hb hE.1 hP 3 0 rfl rfl hi504 dX10_lookOf_67 ?_
      have hq : (presses (Int32.toNatClampNeg p0)) = out := by cases h; exact ho
      subst hq
      exact x_iret hx hb hr hlk rfl rfl dX10_lookOf_68
    · replace h := (if_neg hc503).symm.trans h
      refine lv_bipush (v := (-6)) hx hb dX10_lookOf_57 (by decide) ?_
      refine lv_goto (tgt := 68) hx hb dX10_lookOf_59 (by decide) ?_
      have hq : (-6) = out := by cases h; exact ho
      subst hq
      exact x_iret hx hb hr hlk rfl rfl dX10_lookOf_68
  · replace h := (if_neg hk501_0).symm.trans h
    by_cases hk501_1 : p1 = 1
    · replace h := (if_pos hk501_1).symm.trans h
      refine lv_tableIn (tgt := 69) hx hb dX10_lookOf_1 (by rw [hk501_1]; decide) (by rw [hk501_1]; decide) (by rw [hk501_1]; rfl) (by decide) ?_
      refine lv_aload_n hx hb dX10_lookOf_69 rfl (lv_at hl 0 rfl) ?_
      refine va_get (D := xD G) (ci := 10) (v := .ref q_winds) (C := RX10) (T := TX10) (N := 40) hx hb hts (fun w9 h9 => (List.mem_cons_of_mem _ (List.mem_append_right _ h9))) hown hE.1 hP 0 rfl rfl 6 (by decide) (hts (.fieldLink RX10 19 "FallingGlassModel" "winds" "[I") (List.mem_of_getElem? (i := 2) rfl)) (fun _ h9 => h9) rfl dX10_lookOf_70 ?_
      refine lv_iload_n hx hb dX10_lookOf_73 rfl (lv_at hl 1 rfl) ?_
      obtain ⟨hi505, h⟩ := x_needs h
      refine va_iald (D := xD G) hx hb hE.1 hP 4 0 rfl rfl hi505 dX10_lookOf_74 ?_
      have hq : (winds (Int32.toNatClampNeg p0)) = out := by cases h; exact ho
      subst hq
      exact x_iret hx hb hr hlk rfl rfl dX10_lookOf_75
    · replace h := (if_neg hk501_1).symm.trans h
      by_cases hk501_2 : p1 = 2
      · replace h := (if_pos hk501_2).symm.trans h
        refine lv_tableIn (tgt := 76) hx hb dX10_lookOf_1 (by rw [hk501_2]; decide) (by rw [hk501_2]; decide) (by rw [hk501_2]; rfl) (by decide) ?_
        refine lv_aload_n hx hb dX10_lookOf_76 rfl (lv_at hl 0 rfl) ?_
        refine va_get (D := xD G) (ci := 10) (v := .ref q_skies) (C := RX10) (T := TX10) (N := 40) hx hb hts (fun w9 h9 => (List.mem_cons_of_mem _ (List.mem_append_right _ h9))) hown hE.1 hP 0 rfl rfl 7 (by decide) (hts (.fieldLink RX10 22 "FallingGlassModel" "skies" "[I") (List.mem_of_getElem? (i := 3) rfl)) (fun _ h9 => h9) rfl dX10_lookOf_77 ?_
        refine lv_iload_n hx hb dX10_lookOf_80 rfl (lv_at hl 1 rfl) ?_
        obtain ⟨hi506, h⟩ := x_needs h
        refine va_iald (D := xD G) hx hb hE.1 hP 5 0 rfl rfl hi506 dX10_lookOf_81 ?_
        have hq : (skies (Int32.toNatClampNeg p0)) = out := by cases h; exact ho
        subst hq
        exact x_iret hx hb hr hlk rfl rfl dX10_lookOf_82
      · replace h := (if_neg hk501_2).symm.trans h
        by_cases hk501_3 : p1 = 3
        · replace h := (if_pos hk501_3).symm.trans h
          refine lv_tableIn (tgt := 83) hx hb dX10_lookOf_1 (by rw [hk501_3]; decide) (by rw [hk501_3]; decide) (by rw [hk501_3]; rfl) (by decide) ?_
          refine lv_aload_n hx hb dX10_lookOf_83 rfl (lv_at hl 0 rfl) ?_
          refine va_get (D := xD G) (ci := 10) (v := .ref q_months) (C := RX10) (T := TX10) (N := 40) hx hb hts (fun w9 h9 => (List.mem_cons_of_mem _ (List.mem_append_right _ h9))) hown hE.1 hP 0 rfl rfl 4 (by decide) (hts (.fieldLink RX10 13 "FallingGlassModel" "months" "[I") (List.mem_of_getElem? (i := 4) rfl)) (fun _ h9 => h9) rfl dX10_lookOf_84 ?_
          refine lv_iload_n hx hb dX10_lookOf_87 rfl (lv_at hl 1 rfl) ?_
          obtain ⟨hi507, h⟩ := x_needs h
          refine va_iald (D := xD G) hx hb hE.1 hP 2 0 rfl rfl hi507 dX10_lookOf_88 ?_
          have hq : (months (Int32.toNatClampNeg p0)) = out := by cases h; exact ho
          subst hq
          exact x_iret hx hb hr hlk rfl rfl dX10_lookOf_89
        · replace h := (if_neg hk501_3).symm.trans h
          by_cases hk501_4 : p1 = 4
          · replace h := (if_pos hk501_4).symm.trans h
            refine lv_tableIn (tgt := 90) hx hb dX10_lookOf_1 (by rw [hk501_4]; decide) (by rw [hk501_4]; decide) (by rw [hk501_4]; rfl) (by decide) ?_
            refine lv_iload_n hx hb dX10_lookOf_90 rfl (lv_at hl 1 rfl) ?_
            refine lv_if_ne (tgt := 99) hx hb dX10_lookOf_91 (by decide) (fun hc508 => ?_) (fun hc508 => ?_)
            · replace h := (if_neg hc508).symm.trans h
              refine lv_aload_n hx hb dX10_lookOf_99 rfl (lv_at hl 0 rfl) ?_
              refine va_get (D := xD G) (ci := 10) (v := .ref q_rains) (C := RX10) (T := TX10) (N := 40) hx hb hts (fun w9 h9 => (List.mem_cons_of_mem _ (List.mem_append_right _ h9))) hown hE.1 hP 0 rfl rfl 8 (by decide) (hts (.fieldLink RX10 25 "FallingGlassModel" "rains" "[I") (List.mem_of_getElem? (i := 5) rfl)) (fun _ h9 => h9) rfl dX10_lookOf_100 ?_
              refine lv_iload_n hx hb dX10_lookOf_103 rfl (lv_at hl 1 rfl) ?_
              refine lv_iconst (v := 1) hx hb dX10_lookOf_104 (by decide) ?_
              refine lv_isub hx hb dX10_lookOf_105 ?_
              obtain ⟨hi509, h⟩ := x_needs h
              refine va_iald (D := xD G) hx hb hE.1 hP 6 0 rfl rfl hi509 dX10_lookOf_106 ?_
              have hq : (rains (Int32.toNatClampNeg ((p0 - 1)))) = out := by cases h; exact ho
              subst hq
              exact x_iret hx hb hr hlk rfl rfl dX10_lookOf_107
            · replace h := (if_pos hc508).symm.trans h
              refine lv_bipush (v := (-6)) hx hb dX10_lookOf_94 (by decide) ?_
              refine lv_goto (tgt := 107) hx hb dX10_lookOf_96 (by decide) ?_
              have hq : (-6) = out := by cases h; exact ho
              subst hq
              exact x_iret hx hb hr hlk rfl rfl dX10_lookOf_107
          · replace h := (if_neg hk501_4).symm.trans h
            by_cases hk501_5 : p1 = 5
            · replace h := (if_pos hk501_5).symm.trans h
              refine lv_tableIn (tgt := 108) hx hb dX10_lookOf_1 (by rw [hk501_5]; decide) (by rw [hk501_5]; decide) (by rw [hk501_5]; rfl) (by decide) ?_
              refine lv_aload_n hx hb dX10_lookOf_108 rfl (lv_at hl 0 rfl) ?_
              refine lv_iload_n hx hb dX10_lookOf_109 rfl (lv_at hl 1 rfl) ?_
              obtain ⟨r510, hr510, h⟩ := x_bind h
              have hPr510 : va_P (xD G) vwCl [(q_this, .inr (10, [.int mind, .int needle, .int stick, .ref q_years, .ref q_months, .ref q_presses, .ref q_winds, .ref q_skies, .ref q_rains, .ref q_wires, .int days, .ref q_signs, .int signMany, .ref q_cases, .ref q_caseFrom, .ref q_caseTells, .ref q_testAsks, .ref q_testHow, .ref q_testNumber, .int keys, .int weight, .int care, .long scoreSum, .long scoreDays, .int triedSpoken, .int triedRain, .int triedTaken, .int triedBoth, .ref q_glassX, .ref q_glassY, .ref q_glassPress, .ref q_glassWind, .int glasses, .ref q_dry, .ref q_value, .ref q_doing, .ref q_kept, .ref q_isKept, .int keptAt, .int isWriting])), (q_presses, .inl (xy G 0, 60, .inl presses))] s.heap := hP.sub [0, 3] rfl
              refine x_calli (va_runV (As := [.int p0]) (rest := []) ⟨hx, hb, hml, hown, hts⟩ (kX10_falls l G s.heap hPr510 hr510) (cwV 1 hts gX10_lookOf_X10_falls rfl rfl rfl (by decide +kernel) ⟨Nat.le_of_ble_eq_true rfl, Nat.le_of_ble_eq_true rfl⟩) (x_preV hE hS hP (ci := 10) (q0 := 0) rfl rfl) rfl rfl hl.1 rfl (lv_room (Nat.le_of_ble_eq_true rfl)) dX10_lookOf_110 ⟨Nat.le_of_ble_eq_true rfl, Nat.le_of_ble_eq_true rfl⟩) ?_
              refine lv_if_ne (tgt := 121) hx hb dX10_lookOf_113 (by decide) (fun hc511 => ?_) (fun hc511 => ?_)
              · replace h := (if_neg hc511).symm.trans h
                refine lv_aload_n hx hb dX10_lookOf_121 rfl (lv_at hl 0 rfl) ?_
                refine va_get (D := xD G) (ci := 10) (v := .ref q_presses) (C := RX10) (T := TX10) (N := 40) hx hb hts (fun w9 h9 => (List.mem_cons_of_mem _ (List.mem_append_right _ h9))) hown hE.1 hP 0 rfl rfl 5 (by decide) (hts (.fieldLink RX10 16 "FallingGlassModel" "presses" "[I") (List.mem_of_getElem? (i := 1) rfl)) (fun _ h9 => h9) rfl dX10_lookOf_122 ?_
                refine lv_iload_n hx hb dX10_lookOf_125 rfl (lv_at hl 1 rfl) ?_
                obtain ⟨hi512, h⟩ := x_needs h
                refine va_iald (D := xD G) hx hb hE.1 hP 3 0 rfl rfl hi512 dX10_lookOf_126 ?_
                refine lv_aload_n hx hb dX10_lookOf_127 rfl (lv_at hl 0 rfl) ?_
                refine va_get (D := xD G) (ci := 10) (v := .ref q_presses) (C := RX10) (T := TX10) (N := 40) hx hb hts (fun w9 h9 => (List.mem_cons_of_mem _ (List.mem_append_right _ h9))) hown hE.1 hP 0 rfl rfl 5 (by decide) (hts (.fieldLink RX10 16 "FallingGlassModel" "presses" "[I") (List.mem_of_getElem? (i := 1) rfl)) (fun _ h9 => h9) rfl dX10_lookOf_128 ?_
                refine lv_iload_n hx hb dX10_lookOf_131 rfl (lv_at hl 1 rfl) ?_
                refine lv_iconst (v := 1) hx hb dX10_lookOf_132 (by decide) ?_
                refine lv_isub hx hb dX10_lookOf_133 ?_
                obtain ⟨hi513, h⟩ := x_needs h
                refine va_iald (D := xD G) hx hb hE.1 hP 3 0 rfl rfl hi513 dX10_lookOf_134 ?_
                refine lv_icmp_ge (tgt := 156) hx hb dX10_lookOf_135 (by decide) (fun hc514 => ?_) (fun hc514 => ?_)
                · replace h := (if_pos hc514).symm.trans h
                  refine lv_iconst (v := 0) hx hb dX10_lookOf_156 (by decide) ?_
                  have hq : 0 = out := by cases h; exact ho
                  subst hq
                  exact x_iret hx hb hr hlk rfl rfl dX10_lookOf_157
                · replace h := (if_neg hc514).symm.trans h
                  refine lv_aload_n hx hb dX10_lookOf_138 rfl (lv_at hl 0 rfl) ?_
                  refine va_get (D := xD G) (ci := 10) (v := .ref q_presses) (C := RX10) (T := TX10) (N := 40) hx hb hts (fun w9 h9 => (List.mem_cons_of_mem _ (List.mem_append_right _ h9))) hown hE.1 hP 0 rfl rfl 5 (by decide) (hts (.fieldLink RX10 16 "FallingGlassModel" "presses" "[I") (List.mem_of_getElem? (i := 1) rfl)) (fun _ h9 => h9) rfl dX10_lookOf_139 ?_
                  refine lv_iload_n hx hb dX10_lookOf_142 rfl (lv_at hl 1 rfl) ?_
                  refine lv_iconst (v := 1) hx hb dX10_lookOf_143 (by decide) ?_
                  refine lv_isub hx hb dX10_lookOf_144 ?_
                  obtain ⟨hi515, h⟩ := x_needs h
                  refine va_iald (D := xD G) hx hb hE.1 hP 3 0 rfl rfl hi515 dX10_lookOf_145 ?_
                  refine lv_aload_n hx hb dX10_lookOf_146 rfl (lv_at hl 0 rfl) ?_
                  refine va_get (D := xD G) (ci := 10) (v := .ref q_presses) (C := RX10) (T := TX10) (N := 40) hx hb hts (fun w9 h9 => (List.mem_cons_of_mem _ (List.mem_append_right _ h9))) hown hE.1 hP 0 rfl rfl 5 (by decide) (hts (.fieldLink RX10 16 "FallingGlassModel" "presses" "[I") (List.mem_of_getElem? (i := 1) rfl)) (fun _ h9 => h9) rfl dX10_lookOf_147 ?_
                  refine lv_iload_n hx hb dX10_lookOf_150 rfl (lv_at hl 1 rfl) ?_
                  obtain ⟨hi516, h⟩ := x_needs h
                  refine va_iald (D := xD G) hx hb hE.1 hP 3 0 rfl rfl hi516 dX10_lookOf_151 ?_
                  refine lv_isub hx hb dX10_lookOf_152 ?_
                  refine lv_goto (tgt := 157) hx hb dX10_lookOf_153 (by decide) ?_
                  have hq : ((presses (Int32.toNatClampNeg ((p0 - 1)))) - (presses (Int32.toNatClampNeg p0))) = out := by cases h; exact ho
                  subst hq
                  exact x_iret hx hb hr hlk rfl rfl dX10_lookOf_157
              · replace h := (if_pos hc511).symm.trans h
                refine lv_bipush (v := (-6)) hx hb dX10_lookOf_116 (by decide) ?_
                refine lv_goto (tgt := 157) hx hb dX10_lookOf_118 (by decide) ?_
                have hq : (-6) = out := by cases h; exact ho
                subst hq
                exact x_iret hx hb hr hlk rfl rfl dX10_lookOf_157
            · replace h := (if_neg hk501_5).symm.trans h
              by_cases hk501_6 : p1 = 6
              · replace h := (if_pos hk501_6).symm.trans h
                refine lv_tableIn (tgt := 158) hx hb dX10_lookOf_1 (by rw [hk501_6]; decide) (by rw [hk501_6]; decide) (by rw [hk501_6]; rfl) (by decide) ?_
                refine lv_aload_n hx hb dX10_lookOf_158 rfl (lv_at hl 0 rfl) ?_
                refine lv_iload_n hx hb dX10_lookOf_159 rfl (lv_at hl 1 rfl) ?_
                obtain ⟨r517, hr517, h⟩ := x_bind h
                have hPr517 : va_P (xD G) vwCl [(q_this, .inr (10, [.int mind, .int needle, .int stick, .ref q_years, .ref q_months, .ref q_presses, .ref q_winds, .ref q_skies, .ref q_rains, .ref q_wires, .int days, .ref q_signs, .int signMany, .ref q_cases, .ref q_caseFrom, .ref q_caseTells, .ref q_testAsks, .ref q_testHow, .ref q_testNumber, .int keys, .int weight, .int care, .long scoreSum, .long scoreDays, .int triedSpoken, .int triedRain, .int triedTaken, .int triedBoth, .ref q_glassX, .ref q_glassY, .ref q_glassPress, .ref q_glassWind, .int glasses, .ref q_dry, .ref q_value, .ref q_doing, .ref q_kept, .ref q_isKept, .int keptAt, .int isWriting])), (q_presses, .inl (xy G 0, 60, .inl presses))] s.heap := hP.sub [0, 3] rfl
                refine x_calli (va_runV (As := [.int p0]) (rest := []) ⟨hx, hb, hml, hown, hts⟩ (kX10_falls l G s.heap hPr517 hr517) (cwV 1 hts gX10_lookOf_X10_falls rfl rfl rfl (by decide +kernel) ⟨Nat.le_of_ble_eq_true rfl, Nat.le_of_ble_eq_true rfl⟩) (x_preV hE hS hP (ci := 10) (q0 := 0) rfl rfl) rfl rfl hl.1 rfl (lv_room (Nat.le_of_ble_eq_true rfl)) dX10_lookOf_160 ⟨Nat.le_of_ble_eq_true rfl, Nat.le_of_ble_eq_true rfl⟩) ?_
                refine lv_if_ne (tgt := 171) hx hb dX10_lookOf_163 (by decide) (fun hc518 => ?_) (fun hc518 => ?_)
                · replace h := (if_neg hc518).symm.trans h
                  refine lv_aload_n hx hb dX10_lookOf_171 rfl (lv_at hl 0 rfl) ?_
                  refine va_get (D := xD G) (ci := 10) (v := .ref q_presses) (C := RX10) (T := TX10) (N := 40) hx hb hts (fun w9 h9 => (List.mem_cons_of_mem _ (List.mem_append_right _ h9))) hown hE.1 hP 0 rfl rfl 5 (by decide) (hts (.fieldLink RX10 16 "FallingGlassModel" "presses" "[I") (List.mem_of_getElem? (i := 1) rfl)) (fun _ h9 => h9) rfl dX10_lookOf_172 ?_
                  refine lv_iload_n hx hb dX10_lookOf_175 rfl (lv_at hl 1 rfl) ?_
                  obtain ⟨hi519, h⟩ := x_needs h
                  refine va_iald (D := xD G) hx hb hE.1 hP 3 0 rfl rfl hi519 dX10_lookOf_176 ?_
                  refine lv_aload_n hx hb dX10_lookOf_177 rfl (lv_at hl 0 rfl) ?_
                  refine va_get (D := xD G) (ci := 10) (v := .ref q_presses) (C := RX10) (T := TX10) (N := 40) hx hb hts (fun w9 h9 => (List.mem_cons_of_mem _ (List.mem_append_right _ h9))) hown hE.1 hP 0 rfl rfl 5 (by decide) (hts (.fieldLink RX10 16 "FallingGlassModel" "presses" "[I") (List.mem_of_getElem? (i := 1) rfl)) (fun _ h9 => h9) rfl dX10_lookOf_178 ?_
                  refine lv_iload_n hx hb dX10_lookOf_181 rfl (lv_at hl 1 rfl) ?_
                  refine lv_iconst (v := 1) hx hb dX10_lookOf_182 (by decide) ?_
                  refine lv_isub hx hb dX10_lookOf_183 ?_
                  obtain ⟨hi520, h⟩ := x_needs h
                  refine va_iald (D := xD G) hx hb hE.1 hP 3 0 rfl rfl hi520 dX10_lookOf_184 ?_
                  refine lv_icmp_le (tgt := 206) hx hb dX10_lookOf_185 (by decide) (fun hc521 => ?_) (fun hc521 => ?_)
                  · replace h := (if_pos hc521).symm.trans h
                    refine lv_iconst (v := 0) hx hb dX10_lookOf_206 (by decide) ?_
                    have hq : 0 = out := by cases h; exact ho
                    subst hq
                    exact x_iret hx hb hr hlk rfl rfl dX10_lookOf_207
                  · replace h := (if_neg hc521).symm.trans h
                    refine lv_aload_n hx hb dX10_lookOf_188 rfl (lv_at hl 0 rfl) ?_
                    refine va_get (D := xD G) (ci := 10) (v := .ref q_presses) (C := RX10) (T := TX10) (N := 40) hx hb hts (fun w9 h9 => (List.mem_cons_of_mem _ (List.mem_append_right _ h9))) hown hE.1 hP 0 rfl rfl 5 (by decide) (hts (.fieldLink RX10 16 "FallingGlassModel" "presses" "[I") (List.mem_of_getElem? (i := 1) rfl)) (fun _ h9 => h9) rfl dX10_lookOf_189 ?_
                    refine lv_iload_n hx hb dX10_lookOf_192 rfl (lv_at hl 1 rfl) ?_
                    obtain ⟨hi522, h⟩ := x_needs h
                    refine va_iald (D := xD G) hx hb hE.1 hP 3 0 rfl rfl hi522 dX10_lookOf_193 ?_
                    refine lv_aload_n hx hb dX10_lookOf_194 rfl (lv_at hl 0 rfl) ?_
                    refine va_get (D := xD G) (ci := 10) (v := .ref q_presses) (C := RX10) (T := TX10) (N := 40) hx hb hts (fun w9 h9 => (List.mem_cons_of_mem _ (List.mem_append_right _ h9))) hown hE.1 hP 0 rfl rfl 5 (by decide) (hts (.fieldLink RX10 16 "FallingGlassModel" "presses" "[I") (List.mem_of_getElem? (i := 1) rfl)) (fun _ h9 => h9) rfl dX10_lookOf_195 ?_
                    refine lv_iload_n hx hb dX10_lookOf_198 rfl (lv_at hl 1 rfl) ?_
                    refine lv_iconst (v := 1) hx hb dX10_lookOf_199 (by decide) ?_
                    refine lv_isub hx hb dX10_lookOf_200 ?_
                    obtain ⟨hi523, h⟩ := x_needs h
                    refine va_iald (D := xD G) hx hb hE.1 hP 3 0 rfl rfl hi523 dX10_lookOf_201 ?_
                    refine lv_isub hx hb dX10_lookOf_202 ?_
                    refine lv_goto (tgt := 207) hx hb dX10_lookOf_203 (by decide) ?_
                    have hq : ((presses (Int32.toNatClampNeg p0)) - (presses (Int32.toNatClampNeg ((p0 - 1))))) = out := by cases h; exact ho
                    subst hq
                    exact x_iret hx hb hr hlk rfl rfl dX10_lookOf_207
                · replace h := (if_pos hc518).symm.trans h
                  refine lv_bipush (v := (-6)) hx hb dX10_lookOf_166 (by decide) ?_
                  refine lv_goto (tgt := 207) hx hb dX10_lookOf_168 (by decide) ?_
                  have hq : (-6) = out := by cases h; exact ho
                  subst hq
                  exact x_iret hx hb hr hlk rfl rfl dX10_lookOf_207
              · replace h := (if_neg hk501_6).symm.trans h
                by_cases hk501_7 : p1 = 7
                · replace h := (if_pos hk501_7).symm.trans h
                  refine lv_tableIn (tgt := 208) hx hb dX10_lookOf_1 (by rw [hk501_7]; decide) (by rw [hk501_7]; decide) (by rw [hk501_7]; rfl) (by decide) ?_
                  refine lv_aload_n hx hb dX10_lookOf_208 rfl (lv_at hl 0 rfl) ?_
                  refine va_get (D := xD G) (ci := 10) (v := .ref q_years) (C := RX10) (T := TX10) (N := 40) hx hb hts (fun w9 h9 => (List.mem_cons_of_mem _ (List.mem_append_right _ h9))) hown hE.1 hP 0 rfl rfl 3 (by decide) (hts (.fieldLink RX10 7 "FallingGlassModel" "years" "[I") (List.mem_of_getElem? (i := 6) rfl)) (fun _ h9 => h9) rfl dX10_lookOf_209 ?_
                  refine lv_iload_n hx hb dX10_lookOf_212 rfl (lv_at hl 1 rfl) ?_
                  obtain ⟨hi524, h⟩ := x_needs h
                  refine va_iald (D := xD G) hx hb hE.1 hP 1 0 rfl rfl hi524 dX10_lookOf_213 ?_
                  have hq : (years (Int32.toNatClampNeg p0)) = out := by cases h; exact ho
                  subst hq
                  exact x_iret hx hb hr hlk rfl rfl dX10_lookOf_214
                · replace h := (if_neg hk501_7).symm.trans h
                  refine lv_tableOut (tgt := 215) hx hb dX10_lookOf_1 (by have hk501_0T := lv_neT hk501_0 (a := 0) (by decide); have hk501_1T := lv_neT hk501_1 (a := 1) (by decide); have hk501_2T := lv_neT hk501_2 (a := 2) (by decide); have hk501_3T := lv_neT hk501_3 (a := 3) (by decide); have hk501_4T := lv_neT hk501_4 (a := 4) (by decide); have hk501_5T := lv_neT hk501_5 (a := 5) (by decide); have hk501_6T := lv_neT hk501_6 (a := 6) (by decide); have hk501_7T := lv_neT hk501_7 (a := 7) (by decide); omega) (by decide) ?_
                  refine lv_aload_n hx hb dX10_lookOf_215 rfl (lv_at hl 0 rfl) ?_
                  refine va_get (D := xD G) (ci := 10) (v := .ref q_rains) (C := RX10) (T := TX10) (N := 40) hx hb hts (fun w9 h9 => (List.mem_cons_of_mem _ (List.mem_append_right _ h9))) hown hE.1 hP 0 rfl rfl 8 (by decide) (hts (.fieldLink RX10 25 "FallingGlassModel" "rains" "[I") (List.mem_of_getElem? (i := 5) rfl)) (fun _ h9 => h9) rfl dX10_lookOf_216 ?_
                  refine lv_iload_n hx hb dX10_lookOf_219 rfl (lv_at hl 1 rfl) ?_
                  obtain ⟨hi525, h⟩ := x_needs h
                  refine va_iald (D := xD G) hx hb hE.1 hP 6 0 rfl rfl hi525 dX10_lookOf_220 ?_
                  have hq : (rains (Int32.toNatClampNeg p0)) = out := by cases h; exact ho
                  subst hq
                  exact x_iret hx hb hr hlk rfl rfl dX10_lookOf_221
noncomputable def mX10_look (days : Int32) (years : Nat → Int32) (months : Nat → Int32) (presses : Nat → Int32) (winds : Nat → Int32) (skies : Nat → Int32) (rains : Nat → Int32) (p0 : Int32) (p1 : Int32) : Option (Int32) :=
  (mX10_isDay days p0).bind (fun r501 => if (xb r501) = 0 then (some ((-1))) else ((mX10_in ((Int32.toInt64 p1)) 0 8).bind (fun r503 => if (xb r503) = 0 then (some ((-2))) else ((mX10_lookOf years months presses winds skies rains p0 p1).bind (fun r505 => some r505)))))
set_option maxHeartbeats 4000000 in
set_option maxRecDepth 100000 in
theorem kX10_look (l : Launch) (G : xG) (H0 : Heap) {q_this q_years q_months q_presses q_winds q_skies q_rains q_wires q_signs q_cases q_caseFrom q_caseTells q_testAsks q_testHow q_testNumber q_glassX q_glassY q_glassPress q_glassWind q_dry q_value q_doing q_kept q_isKept : Nat} {mind : Int32} {needle : Int32} {stick : Int32} {days : Int32} {signMany : Int32} {keys : Int32} {weight : Int32} {care : Int32} {scoreSum : Int64} {scoreDays : Int64} {triedSpoken : Int32} {triedRain : Int32} {triedTaken : Int32} {triedBoth : Int32} {glasses : Int32} {keptAt : Int32} {isWriting : Int32} {years : Nat → Int32} {months : Nat → Int32} {presses : Nat → Int32} {winds : Nat → Int32} {skies : Nat → Int32} {rains : Nat → Int32} {p0 : Int32} {p1 : Int32} (hP : va_P (xD G) vwCl [(q_this, .inr (10, [.int mind, .int needle, .int stick, .ref q_years, .ref q_months, .ref q_presses, .ref q_winds, .ref q_skies, .ref q_rains, .ref q_wires, .int days, .ref q_signs, .int signMany, .ref q_cases, .ref q_caseFrom, .ref q_caseTells, .ref q_testAsks, .ref q_testHow, .ref q_testNumber, .int keys, .int weight, .int care, .long scoreSum, .long scoreDays, .int triedSpoken, .int triedRain, .int triedTaken, .int triedBoth, .ref q_glassX, .ref q_glassY, .ref q_glassPress, .ref q_glassWind, .int glasses, .ref q_dry, .ref q_value, .ref q_doing, .ref q_kept, .ref q_isKept, .int keptAt, .int isWriting])), (q_years, .inl (xy G 0, 60, .inl years)), (q_months, .inl (xy G 0, 60, .inl months)), (q_presses, .inl (xy G 0, 60, .inl presses)), (q_winds, .inl (xy G 0, 60, .inl winds)), (q_skies, .inl (xy G 0, 60, .inl skies)), (q_rains, .inl (xy G 0, 60, .inl rains))] H0) {out : Int32} (h : mX10_look days years months presses winds skies rains p0 p1 = some out) : Met l yX10_look wsX10_look ({ frames := 2, cells := 0, slots := 0, locals := 46 }) (xPc G H0 [.ref q_this, .int p0, .int p1]) (xQi H0 (out)) 0 0 xN := by
  refine x_met (by decide) rfl (Nat.le_of_ble_eq_true rfl) ?_
  intro p e s m below meth c ls hH hA hl
  obtain ⟨hx, hb, hr, hlk, hml, hown, hts, hE⟩ := hA
  subst hH
  have hown : s.vm.findClass RX10 = some m.cls := hown
  have hl : lv_has ls 3 [(0, .ref q_this), (1, .int p0), (2, .int p1)] := hl
  have hS : va_S xN s.heap s.heap [] := va_S.rf
  have ho : out = out := rfl
  unfold mX10_look at h
  refine lv_aload_n hx hb dX10_look_0 rfl (lv_at hl 0 rfl) ?_
  refine lv_iload_n hx hb dX10_look_1 rfl (lv_at hl 1 rfl) ?_
  obtain ⟨r501, hr501, h⟩ := x_bind h
  have hPr501 : va_P (xD G) vwCl [(q_this, .inr (10, [.int mind, .int needle, .int stick, .ref q_years, .ref q_months, .ref q_presses, .ref q_winds, .ref q_skies, .ref q_rains, .ref q_wires, .int days, .ref q_signs, .int signMany, .ref q_cases, .ref q_caseFrom, .ref q_caseTells, .ref q_testAsks, .ref q_testHow, .ref q_testNumber, .int keys, .int weight, .int care, .long scoreSum, .long scoreDays, .int triedSpoken, .int triedRain, .int triedTaken, .int triedBoth, .ref q_glassX, .ref q_glassY, .ref q_glassPress, .ref q_glassWind, .int glasses, .ref q_dry, .ref q_value, .ref q_doing, .ref q_kept, .ref q_isKept, .int keptAt, .int isWriting]))] s.heap := hP.sub [0] rfl
  refine x_calli (va_runV (As := [.int p0]) (rest := []) ⟨hx, hb, hml, hown, hts⟩ (kX10_isDay l G s.heap hPr501 hr501) (cwV 1 hts gX10_look_X10_isDay rfl rfl rfl (by decide +kernel) ⟨Nat.le_of_ble_eq_true rfl, Nat.le_of_ble_eq_true rfl⟩) (x_preV hE hS hP (ci := 10) (q0 := 0) rfl rfl) rfl rfl hl.1 rfl (lv_room (Nat.le_of_ble_eq_true rfl)) dX10_look_2 ⟨Nat.le_of_ble_eq_true rfl, Nat.le_of_ble_eq_true rfl⟩) ?_
  refine lv_if_ne (tgt := 10) hx hb dX10_look_5 (by decide) (fun hc502 => ?_) (fun hc502 => ?_)
  · replace h := (if_neg hc502).symm.trans h
    refine lv_iload_n hx hb dX10_look_10 rfl (lv_at hl 2 rfl) ?_
    refine lv_i2l (v := (Int32.toInt64 p1)) hx hb dX10_look_11 rfl ?_
    refine lv_lconst (v := 0) hx hb dX10_look_12 (by decide) ?_
    refine lv_ldc2 (v := 8) hx hb hown (hts (.constantLong RX10 132 (8)) (List.mem_of_getElem? (i := 1) rfl)) dX10_look_13 ?_
    obtain ⟨r503, hr503, h⟩ := x_bind h
    refine x_calli (va_runS (As := [.long (Int32.toInt64 p1), .long 0, .long 8]) (rest := []) ⟨hx, hb, hml, hown, hts⟩ (kX10_in l G s.heap hr503) (va_cwS 3 hts gX10_look_X10_in rfl rfl rfl (by decide +kernel) ⟨Nat.le_of_ble_eq_true rfl, Nat.le_of_ble_eq_true rfl⟩) (x_preS hE hS) rfl rfl hl.1 rfl (lv_room (Nat.le_of_ble_eq_true rfl)) dX10_look_16 ⟨Nat.le_of_ble_eq_true rfl, Nat.le_of_ble_eq_true rfl⟩) ?_
    refine lv_if_eq (tgt := 31) hx hb dX10_look_19 (by decide) (fun hc504 => ?_) (fun hc504 => ?_)
    · replace h := (if_pos hc504).symm.trans h
      refine lv_bipush (v := (-2)) hx hb dX10_look_31 (by decide) ?_
      have hq : (-2) = out := by cases h; exact ho
      subst hq
      exact x_iret hx hb hr hlk rfl rfl dX10_look_33
    · replace h := (if_neg hc504).symm.trans h
      refine lv_aload_n hx hb dX10_look_22 rfl (lv_at hl 0 rfl) ?_
      refine lv_iload_n hx hb dX10_look_23 rfl (lv_at hl 1 rfl) ?_
      refine lv_iload_n hx hb dX10_look_24 rfl (lv_at hl 2 rfl) ?_
      obtain ⟨r505, hr505, h⟩ := x_bind h
      have hPr505 : va_P (xD G) vwCl [(q_this, .inr (10, [.int mind, .int needle, .int stick, .ref q_years, .ref q_months, .ref q_presses, .ref q_winds, .ref q_skies, .ref q_rains, .ref q_wires, .int days, .ref q_signs, .int signMany, .ref q_cases, .ref q_caseFrom, .ref q_caseTells, .ref q_testAsks, .ref q_testHow, .ref q_testNumber, .int keys, .int weight, .int care, .long scoreSum, .long scoreDays, .int triedSpoken, .int triedRain, .int triedTaken, .int triedBoth, .ref q_glassX, .ref q_glassY, .ref q_glassPress, .ref q_glassWind, .int glasses, .ref q_dry, .ref q_value, .ref q_doing, .ref q_kept, .ref q_isKept, .int keptAt, .int isWriting])), (q_years, .inl (xy G 0, 60, .inl years)), (q_months, .inl (xy G 0, 60, .inl months)), (q_presses, .inl (xy G 0, 60, .inl presses)), (q_winds, .inl (xy G 0, 60, .inl winds)), (q_skies, .inl (xy G 0, 60, .inl skies)), (q_rains, .inl (xy G 0, 60, .inl rains))] s.heap := hP.sub [0, 1, 2, 3, 4, 5, 6] rfl
      refine x_calli (va_runV (As := [.int p0, .int p1]) (rest := []) ⟨hx, hb, hml, hown, hts⟩ (kX10_lookOf l G s.heap hPr505 hr505) (cwV 2 hts gX10_look_X10_lookOf rfl rfl rfl (by decide +kernel) ⟨Nat.le_of_ble_eq_true rfl, Nat.le_of_ble_eq_true rfl⟩) (x_preV hE hS hP (ci := 10) (q0 := 0) rfl rfl) rfl rfl hl.1 rfl (lv_room (Nat.le_of_ble_eq_true rfl)) dX10_look_25 ⟨Nat.le_of_ble_eq_true rfl, Nat.le_of_ble_eq_true rfl⟩) ?_
      refine lv_goto (tgt := 33) hx hb dX10_look_28 (by decide) ?_
      have hq : r505 = out := by cases h; exact ho
      subst hq
      exact x_iret hx hb hr hlk rfl rfl dX10_look_33
  · replace h := (if_pos hc502).symm.trans h
    refine lv_iconst (v := (-1)) hx hb dX10_look_8 (by decide) ?_
    have hq : (-1) = out := by cases h; exact ho
    subst hq
    exact x_iret hx hb hr hlk rfl rfl dX10_look_9
noncomputable def mX10_say (signMany : Int32) (signs : Nat → Int32) (p0 : Int32) : Option (Int32 × Int32 × (Nat → Int32)) :=
  (mX10_in ((Int32.toInt64 p0)) 33 126).bind (fun r501 => if (xb r501) = 0 then (some ((-2), signMany, signs)) else (if signMany = 50 then (some ((-4), signMany, signs)) else (x_need (x_in signMany 50) (some ((signMany + 1), (signMany + 1), (upd signs (Int32.toNatClampNeg signMany) p0))))))
set_option maxHeartbeats 4000000 in
set_option maxRecDepth 100000 in
theorem kX10_say (l : Launch) (G : xG) (H0 : Heap) {q_this q_years q_months q_presses q_winds q_skies q_rains q_wires q_signs q_cases q_caseFrom q_caseTells q_testAsks q_testHow q_testNumber q_glassX q_glassY q_glassPress q_glassWind q_dry q_value q_doing q_kept q_isKept : Nat} {mind : Int32} {needle : Int32} {stick : Int32} {days : Int32} {signMany : Int32} {keys : Int32} {weight : Int32} {care : Int32} {scoreSum : Int64} {scoreDays : Int64} {triedSpoken : Int32} {triedRain : Int32} {triedTaken : Int32} {triedBoth : Int32} {glasses : Int32} {keptAt : Int32} {isWriting : Int32} {signs : Nat → Int32} {p0 : Int32} (w0 : va_W) (hw0 : w0 = [(q_this, .inr (10, [.int mind, .int needle, .int stick, .ref q_years, .ref q_months, .ref q_presses, .ref q_winds, .ref q_skies, .ref q_rains, .ref q_wires, .int days, .ref q_signs, .int signMany, .ref q_cases, .ref q_caseFrom, .ref q_caseTells, .ref q_testAsks, .ref q_testHow, .ref q_testNumber, .int keys, .int weight, .int care, .long scoreSum, .long scoreDays, .int triedSpoken, .int triedRain, .int triedTaken, .int triedBoth, .ref q_glassX, .ref q_glassY, .ref q_glassPress, .ref q_glassWind, .int glasses, .ref q_dry, .ref q_value, .ref q_doing, .ref q_kept, .ref q_isKept, .int keptAt, .int isWriting])), (q_signs, .inl (xy G 0, 50, .inl signs))]) (hP : va_P (xD G) vwCl w0 H0) (hD : va_D (fun _ => True) w0) {out : Int32 × Int32 × (Nat → Int32)} (h : mX10_say signMany signs p0 = some out) : Met l yX10_say wsX10_say ({ frames := 1, cells := 0, slots := 0, locals := 25 }) (xPcw G (va_A w0 H0.size) H0 [.ref q_this, .int p0]) (xRi G (va_A w0 H0.size) [(q_this, .inr (10, [.int mind, .int needle, .int stick, .ref q_years, .ref q_months, .ref q_presses, .ref q_winds, .ref q_skies, .ref q_rains, .ref q_wires, .int days, .ref q_signs, .int out.2.1, .ref q_cases, .ref q_caseFrom, .ref q_caseTells, .ref q_testAsks, .ref q_testHow, .ref q_testNumber, .int keys, .int weight, .int care, .long scoreSum, .long scoreDays, .int triedSpoken, .int triedRain, .int triedTaken, .int triedBoth, .ref q_glassX, .ref q_glassY, .ref q_glassPress, .ref q_glassWind, .int glasses, .ref q_dry, .ref q_value, .ref q_doing, .ref q_kept, .ref q_isKept, .int keptAt, .int isWriting])), (q_signs, .inl (xy G 0, 50, .inl out.2.2))] (out.1)) 0 0 (va_A w0 H0.size) := by
  refine x_metw (y := yX10_say) (ws := wsX10_say) (rm := { frames := 1, cells := 0, slots := 0, locals := 25 }) (G := G) (H0 := H0) (w0 := w0) (av := [.ref q_this, .int p0]) (mc := 0) (ms := 0) (Qc := (fun A => (xRi G A [(q_this, .inr (10, [.int mind, .int needle, .int stick, .ref q_years, .ref q_months, .ref q_presses, .ref q_winds, .ref q_skies, .ref q_rains, .ref q_wires, .int days, .ref q_signs, .int out.2.1, .ref q_cases, .ref q_caseFrom, .ref q_caseTells, .ref q_testAsks, .ref q_testHow, .ref q_testNumber, .int keys, .int weight, .int care, .long scoreSum, .long scoreDays, .int triedSpoken, .int triedRain, .int triedTaken, .int triedBoth, .ref q_glassX, .ref q_glassY, .ref q_glassPress, .ref q_glassWind, .int glasses, .ref q_dry, .ref q_value, .ref q_doing, .ref q_kept, .ref q_isKept, .int keptAt, .int isWriting])), (q_signs, .inl (xy G 0, 50, .inl out.2.2))] (out.1)))) (by decide) rfl (Nat.le_of_ble_eq_true rfl) hP hD ?_
  clear hP hD
  intro p e s m below meth c ls A H locs hA hAt hnm hl hP hD hS
  subst hw0
  obtain ⟨hx, hb, hr, hlk, hml, hown, hts, hE⟩ := hAt
  have hown : s.vm.findClass RX10 = some m.cls := hown
  have hl : lv_has ls 2 [(0, .ref q_this), (1, .int p0)] := hl
  have ho : out = out := rfl
  unfold mX10_say at h
  refine lv_iload_n hx hb dX10_say_0 rfl (lv_at hl 1 rfl) ?_
  refine lv_i2l (v := (Int32.toInt64 p0)) hx hb dX10_say_1 rfl ?_
  refine lv_ldc2 (v := 33) hx hb hown (hts (.constantLong RX10 137 (33)) (List.mem_of_getElem? (i := 1) rfl)) dX10_say_2 ?_
  refine lv_ldc2 (v := 126) hx hb hown (hts (.constantLong RX10 139 (126)) (List.mem_of_getElem? (i := 2) rfl)) dX10_say_5 ?_
  obtain ⟨r501, hr501, h⟩ := x_bind h
  refine x_calli (va_runS (As := [.long (Int32.toInt64 p0), .long 33, .long 126]) (rest := []) ⟨hx, hb, hml, hown, hts⟩ (kX10_in l G H hr501) (va_cwS 3 hts gX10_say_X10_in rfl rfl rfl (by decide +kernel) ⟨Nat.le_of_ble_eq_true rfl, Nat.le_of_ble_eq_true rfl⟩) (x_preS hE hS) rfl rfl hl.1 rfl (lv_room (Nat.le_of_ble_eq_true rfl)) dX10_say_8 ⟨Nat.le_of_ble_eq_true rfl, Nat.le_of_ble_eq_true rfl⟩) ?_
  refine lv_if_ne (tgt := 17) hx hb dX10_say_11 (by decide) (fun hc502 => ?_) (fun hc502 => ?_)
  · replace h := (if_neg hc502).symm.trans h
    refine lv_aload_n hx hb dX10_say_17 rfl (lv_at hl 0 rfl) ?_
    refine va_get (D := xD G) (ci := 10) (v := .int signMany) (C := RX10) (T := TX10) (N := 40) hx hb hts (fun w9 h9 => (List.mem_cons_of_mem _ (List.mem_append_right _ h9))) hown hE.1 hP 0 rfl rfl 12 (by decide) (hts (.fieldLink RX10 141 "FallingGlassModel" "signMany" "I") (List.mem_of_getElem? (i := 3) rfl)) (fun _ h9 => h9) rfl dX10_say_18 ?_
    refine lv_bipush (v := 50) hx hb dX10_say_21 (by decide) ?_
    refine lv_icmp_ne (tgt := 29) hx hb dX10_say_23 (by decide) (fun hc503 => ?_) (fun hc503 => ?_)
    · replace h := (if_neg hc503).symm.trans h
      refine lv_aload_n hx hb dX10_say_29 rfl (lv_at hl 0 rfl) ?_
      refine va_get (D := xD G) (ci := 10) (v := .ref q_signs) (C := RX10) (T := TX10) (N := 40) hx hb hts (fun w9 h9 => (List.mem_cons_of_mem _ (List.mem_append_right _ h9))) hown hE.1 hP 0 rfl rfl 11 (by decide) (hts (.fieldLink RX10 31 "FallingGlassModel" "signs" "[I") (List.mem_of_getElem? (i := 4) rfl)) (fun _ h9 => h9) rfl dX10_say_30 ?_
      refine lv_aload_n hx hb dX10_say_33 rfl (lv_at hl 0 rfl) ?_
      refine va_get (D := xD G) (ci := 10) (v := .int signMany) (C := RX10) (T := TX10) (N := 40) hx hb hts (fun w9 h9 => (List.mem_cons_of_mem _ (List.mem_append_right _ h9))) hown hE.1 hP 0 rfl rfl 12 (by decide) (hts (.fieldLink RX10 141 "FallingGlassModel" "signMany" "I") (List.mem_of_getElem? (i := 3) rfl)) (fun _ h9 => h9) rfl dX10_say_34 ?_
      refine lv_iload_n hx hb dX10_say_37 rfl (lv_at hl 1 rfl) ?_
      obtain ⟨hi504, h⟩ := x_needs h
      refine va_iast (D := xD G) hx hb hE.1 hP hD hS 1 0 rfl rfl hi504 dX10_say_38 (fun H locs hP hD hS => ?_)
      have hP : va_P (xD G) vwCl [(q_this, .inr (10, [.int mind, .int needle, .int stick, .ref q_years, .ref q_months, .ref q_presses, .ref q_winds, .ref q_skies, .ref q_rains, .ref q_wires, .int days, .ref q_signs, .int signMany, .ref q_cases, .ref q_caseFrom, .ref q_caseTells, .ref q_testAsks, .ref q_testHow, .ref q_testNumber, .int keys, .int weight, .int care, .long scoreSum, .long scoreDays, .int triedSpoken, .int triedRain, .int triedTaken, .int triedBoth, .ref q_glassX, .ref q_glassY, .ref q_glassPress, .ref q_glassWind, .int glasses, .ref q_dry, .ref q_value, .ref q_doing, .ref q_kept, .ref q_isKept, .int keptAt, .int isWriting])), (q_signs, .inl (xy G 0, 50, .inl (upd signs (Int32.toNatClampNeg signMany) p0)))] H := hP
      have hD : va_D A [(q_this, .inr (10, [.int mind, .int needle, .int stick, .ref q_years, .ref q_months, .ref q_presses, .ref q_winds, .ref q_skies, .ref q_rains, .ref q_wires, .int days, .ref q_signs, .int signMany, .ref q_cases, .ref q_caseFrom, .ref q_caseTells, .ref q_testAsks, .ref q_testHow, .ref q_testNumber, .int keys, .int weight, .int care, .long scoreSum, .long scoreDays, .int triedSpoken, .int triedRain, .int triedTaken, .int triedBoth, .ref q_glassX, .ref q_glassY, .ref q_glassPress, .ref q_glassWind, .int glasses, .ref q_dry, .ref q_value, .ref q_doing, .ref q_kept, .ref q_isKept, .int keptAt, .int isWriting])), (q_signs, .inl (xy G 0, 50, .inl (upd signs (Int32.toNatClampNeg signMany) p0)))] := hD
      refine lv_aload_n hx hb dX10_say_39 rfl (lv_at hl 0 rfl) ?_
      refine lv_dup hx hb dX10_say_40 rfl ?_
      refine va_get (D := xD G) (ci := 10) (v := .int signMany) (C := RX10) (T := TX10) (N := 40) hx hb hts (fun w9 h9 => (List.mem_cons_of_mem _ (List.mem_append_right _ h9))) hown hE.1 hP 0 rfl rfl 12 (by decide) (hts (.fieldLink RX10 141 "FallingGlassModel" "signMany" "I") (List.mem_of_getElem? (i := 3) rfl)) (fun _ h9 => h9) rfl dX10_say_41 ?_
      refine lv_iconst (v := 1) hx hb dX10_say_44 (by decide) ?_
      refine lv_iadd hx hb dX10_say_45 ?_
      refine va_put (D := xD G) (ci := 10) (v := .int (signMany + 1)) (ty := .int) (C := RX10) (T := TX10) (N := 40) hx hb hts (fun w9 h9 => (List.mem_cons_of_mem _ (List.mem_append_right _ h9))) tyX10 tyX10_ok nmX10 hown hE.1 hP hD hS 0 rfl rfl 12 (by decide) (hts (.fieldLink RX10 141 "FallingGlassModel" "signMany" "I") (List.mem_of_getElem? (i := 3) rfl)) (fun _ h9 => h9) rfl (by decide +kernel) rfl rfl (Nat.le_of_ble_eq_true rfl) dX10_say_46 (fun H locs hP hD hS => ?_)
      have hP : va_P (xD G) vwCl [(q_this, .inr (10, [.int mind, .int needle, .int stick, .ref q_years, .ref q_months, .ref q_presses, .ref q_winds, .ref q_skies, .ref q_rains, .ref q_wires, .int days, .ref q_signs, .int (signMany + 1), .ref q_cases, .ref q_caseFrom, .ref q_caseTells, .ref q_testAsks, .ref q_testHow, .ref q_testNumber, .int keys, .int weight, .int care, .long scoreSum, .long scoreDays, .int triedSpoken, .int triedRain, .int triedTaken, .int triedBoth, .ref q_glassX, .ref q_glassY, .ref q_glassPress, .ref q_glassWind, .int glasses, .ref q_dry, .ref q_value, .ref q_doing, .ref q_kept, .ref q_isKept, .int keptAt, .int isWriting])), (q_signs, .inl (xy G 0, 50, .inl (upd signs (Int32.toNatClampNeg signMany) p0)))] H := hP
      have hD : va_D A [(q_this, .inr (10, [.int mind, .int needle, .int stick, .ref q_years, .ref q_months, .ref q_presses, .ref q_winds, .ref q_skies, .ref q_rains, .ref q_wires, .int days, .ref q_signs, .int (signMany + 1), .ref q_cases, .ref q_caseFrom, .ref q_caseTells, .ref q_testAsks, .ref q_testHow, .ref q_testNumber, .int keys, .int weight, .int care, .long scoreSum, .long scoreDays, .int triedSpoken, .int triedRain, .int triedTaken, .int triedBoth, .ref q_glassX, .ref q_glassY, .ref q_glassPress, .ref q_glassWind, .int glasses, .ref q_dry, .ref q_value, .ref q_doing, .ref q_kept, .ref q_isKept, .int keptAt, .int isWriting])), (q_signs, .inl (xy G 0, 50, .inl (upd signs (Int32.toNatClampNeg signMany) p0)))] := hD
      refine lv_aload_n hx hb dX10_say_49 rfl (lv_at hl 0 rfl) ?_
      refine va_get (D := xD G) (ci := 10) (v := .int (signMany + 1)) (C := RX10) (T := TX10) (N := 40) hx hb hts (fun w9 h9 => (List.mem_cons_of_mem _ (List.mem_append_right _ h9))) hown hE.1 hP 0 rfl rfl 12 (by decide) (hts (.fieldLink RX10 141 "FallingGlassModel" "signMany" "I") (List.mem_of_getElem? (i := 3) rfl)) (fun _ h9 => h9) rfl dX10_say_50 ?_
      have hq : ((signMany + 1), (signMany + 1), (upd signs (Int32.toNatClampNeg signMany) p0)) = out := by cases h; exact ho
      subst hq
      have hP : va_P (xD G) vwCl [(q_this, .inr (10, [.int mind, .int needle, .int stick, .ref q_years, .ref q_months, .ref q_presses, .ref q_winds, .ref q_skies, .ref q_rains, .ref q_wires, .int days, .ref q_signs, .int (signMany + 1), .ref q_cases, .ref q_caseFrom, .ref q_caseTells, .ref q_testAsks, .ref q_testHow, .ref q_testNumber, .int keys, .int weight, .int care, .long scoreSum, .long scoreDays, .int triedSpoken, .int triedRain, .int triedTaken, .int triedBoth, .ref q_glassX, .ref q_glassY, .ref q_glassPress, .ref q_glassWind, .int glasses, .ref q_dry, .ref q_value, .ref q_doing, .ref q_kept, .ref q_isKept, .int keptAt, .int isWriting])), (q_signs, .inl (xy G 0, 50, .inl (upd signs (Int32.toNatClampNeg signMany) p0)))] H := hP
      have hD : va_D A [(q_this, .inr (10, [.int mind, .int needle, .int stick, .ref q_years, .ref q_months, .ref q_presses, .ref q_winds, .ref q_skies, .ref q_rains, .ref q_wires, .int days, .ref q_signs, .int (signMany + 1), .ref q_cases, .ref q_caseFrom, .ref q_caseTells, .ref q_testAsks, .ref q_testHow, .ref q_testNumber, .int keys, .int weight, .int care, .long scoreSum, .long scoreDays, .int triedSpoken, .int triedRain, .int triedTaken, .int triedBoth, .ref q_glassX, .ref q_glassY, .ref q_glassPress, .ref q_glassWind, .int glasses, .ref q_dry, .ref q_value, .ref q_doing, .ref q_kept, .ref q_isKept, .int keptAt, .int isWriting])), (q_signs, .inl (xy G 0, 50, .inl (upd signs (Int32.toNatClampNeg signMany) p0)))] := hD
      exact x_iretw hx hb hr hlk hP hD hS rfl dX10_say_53
    · replace h := (if_pos hc503).symm.trans h
      refine lv_bipush (v := (-4)) hx hb dX10_say_26 (by decide) ?_
      have hq : ((-4), signMany, signs) = out := by cases h; exact ho
      subst hq
      have hP : va_P (xD G) vwCl [(q_this, .inr (10, [.int mind, .int needle, .int stick, .ref q_years, .ref q_months, .ref q_presses, .ref q_winds, .ref q_skies, .ref q_rains, .ref q_wires, .int days, .ref q_signs, .int signMany, .ref q_cases, .ref q_caseFrom, .ref q_caseTells, .ref q_testAsks, .ref q_testHow, .ref q_testNumber, .int keys, .int weight, .int care, .long scoreSum, .long scoreDays, .int triedSpoken, .int triedRain, .int triedTaken, .int triedBoth, .ref q_glassX, .ref q_glassY, .ref q_glassPress, .ref q_glassWind, .int glasses, .ref q_dry, .ref q_value, .ref q_doing, .ref q_kept, .ref q_isKept, .int keptAt, .int isWriting])), (q_signs, .inl (xy G 0, 50, .inl signs))] H := hP
      have hD : va_D A [(q_this, .inr (10, [.int mind, .int needle, .int stick, .ref q_years, .ref q_months, .ref q_presses, .ref q_winds, .ref q_skies, .ref q_rains, .ref q_wires, .int days, .ref q_signs, .int signMany, .ref q_cases, .ref q_caseFrom, .ref q_caseTells, .ref q_testAsks, .ref q_testHow, .ref q_testNumber, .int keys, .int weight, .int care, .long scoreSum, .long scoreDays, .int triedSpoken, .int triedRain, .int triedTaken, .int triedBoth, .ref q_glassX, .ref q_glassY, .ref q_glassPress, .ref q_glassWind, .int glasses, .ref q_dry, .ref q_value, .ref q_doing, .ref q_kept, .ref q_isKept, .int keptAt, .int isWriting])), (q_signs, .inl (xy G 0, 50, .inl signs))] := hD
      exact x_iretw hx hb hr hlk hP hD hS rfl dX10_say_28
  · replace h := (if_pos hc502).symm.trans h
    refine lv_bipush (v := (-2)) hx hb dX10_say_14 (by decide) ?_
    have hq : ((-2), signMany, signs) = out := by cases h; exact ho
    subst hq
    have hP : va_P (xD G) vwCl [(q_this, .inr (10, [.int mind, .int needle, .int stick, .ref q_years, .ref q_months, .ref q_presses, .ref q_winds, .ref q_skies, .ref q_rains, .ref q_wires, .int days, .ref q_signs, .int signMany, .ref q_cases, .ref q_caseFrom, .ref q_caseTells, .ref q_testAsks, .ref q_testHow, .ref q_testNumber, .int keys, .int weight, .int care, .long scoreSum, .long scoreDays, .int triedSpoken, .int triedRain, .int triedTaken, .int triedBoth, .ref q_glassX, .ref q_glassY, .ref q_glassPress, .ref q_glassWind, .int glasses, .ref q_dry, .ref q_value, .ref q_doing, .ref q_kept, .ref q_isKept, .int keptAt, .int isWriting])), (q_signs, .inl (xy G 0, 50, .inl signs))] H := hP
    have hD : va_D A [(q_this, .inr (10, [.int mind, .int needle, .int stick, .ref q_years, .ref q_months, .ref q_presses, .ref q_winds, .ref q_skies, .ref q_rains, .ref q_wires, .int days, .ref q_signs, .int signMany, .ref q_cases, .ref q_caseFrom, .ref q_caseTells, .ref q_testAsks, .ref q_testHow, .ref q_testNumber, .int keys, .int weight, .int care, .long scoreSum, .long scoreDays, .int triedSpoken, .int triedRain, .int triedTaken, .int triedBoth, .ref q_glassX, .ref q_glassY, .ref q_glassPress, .ref q_glassWind, .int glasses, .ref q_dry, .ref q_value, .ref q_doing, .ref q_kept, .ref q_isKept, .int keptAt, .int isWriting])), (q_signs, .inl (xy G 0, 50, .inl signs))] := hD
    exact x_iretw hx hb hr hlk hP hD hS rfl dX10_say_16
noncomputable def mX10_wipe (signMany : Int32)  : Option (Int32 × Int32) :=
  some (signMany, 0)
set_option maxHeartbeats 4000000 in
set_option maxRecDepth 100000 in
theorem kX10_wipe (l : Launch) (G : xG) (H0 : Heap) {q_this q_years q_months q_presses q_winds q_skies q_rains q_wires q_signs q_cases q_caseFrom q_caseTells q_testAsks q_testHow q_testNumber q_glassX q_glassY q_glassPress q_glassWind q_dry q_value q_doing q_kept q_isKept : Nat} {mind : Int32} {needle : Int32} {stick : Int32} {days : Int32} {signMany : Int32} {keys : Int32} {weight : Int32} {care : Int32} {scoreSum : Int64} {scoreDays : Int64} {triedSpoken : Int32} {triedRain : Int32} {triedTaken : Int32} {triedBoth : Int32} {glasses : Int32} {keptAt : Int32} {isWriting : Int32} (w0 : va_W) (hw0 : w0 = [(q_this, .inr (10, [.int mind, .int needle, .int stick, .ref q_years, .ref q_months, .ref q_presses, .ref q_winds, .ref q_skies, .ref q_rains, .ref q_wires, .int days, .ref q_signs, .int signMany, .ref q_cases, .ref q_caseFrom, .ref q_caseTells, .ref q_testAsks, .ref q_testHow, .ref q_testNumber, .int keys, .int weight, .int care, .long scoreSum, .long scoreDays, .int triedSpoken, .int triedRain, .int triedTaken, .int triedBoth, .ref q_glassX, .ref q_glassY, .ref q_glassPress, .ref q_glassWind, .int glasses, .ref q_dry, .ref q_value, .ref q_doing, .ref q_kept, .ref q_isKept, .int keptAt, .int isWriting]))]) (hP : va_P (xD G) vwCl w0 H0) (hD : va_D (fun _ => True) w0) {out : Int32 × Int32} (h : mX10_wipe signMany = some out) : Met l yX10_wipe wsX10_wipe ({ frames := 0, cells := 0, slots := 0, locals := 0 }) (xPcw G (va_A w0 H0.size) H0 [.ref q_this]) (xRi G (va_A w0 H0.size) [(q_this, .inr (10, [.int mind, .int needle, .int stick, .ref q_years, .ref q_months, .ref q_presses, .ref q_winds, .ref q_skies, .ref q_rains, .ref q_wires, .int days, .ref q_signs, .int out.2, .ref q_cases, .ref q_caseFrom, .ref q_caseTells, .ref q_testAsks, .ref q_testHow, .ref q_testNumber, .int keys, .int weight, .int care, .long scoreSum, .long scoreDays, .int triedSpoken, .int triedRain, .int triedTaken, .int triedBoth, .ref q_glassX, .ref q_glassY, .ref q_glassPress, .ref q_glassWind, .int glasses, .ref q_dry, .ref q_value, .ref q_doing, .ref q_kept, .ref q_isKept, .int keptAt, .int isWriting]))] (out.1)) 0 0 (va_A w0 H0.size) := by
  refine x_metw (y := yX10_wipe) (ws := wsX10_wipe) (rm := { frames := 0, cells := 0, slots := 0, locals := 0 }) (G := G) (H0 := H0) (w0 := w0) (av := [.ref q_this]) (mc := 0) (ms := 0) (Qc := (fun A => (xRi G A [(q_this, .inr (10, [.int mind, .int needle, .int stick, .ref q_years, .ref q_months, .ref q_presses, .ref q_winds, .ref q_skies, .ref q_rains, .ref q_wires, .int days, .ref q_signs, .int out.2, .ref q_cases, .ref q_caseFrom, .ref q_caseTells, .ref q_testAsks, .ref q_testHow, .ref q_testNumber, .int keys, .int weight, .int care, .long scoreSum, .long scoreDays, .int triedSpoken, .int triedRain, .int triedTaken, .int triedBoth, .ref q_glassX, .ref q_glassY, .ref q_glassPress, .ref q_glassWind, .int glasses, .ref q_dry, .ref q_value, .ref q_doing, .ref q_kept, .ref q_isKept, .int keptAt, .int isWriting]))] (out.1)))) (by decide) rfl (Nat.le_of_ble_eq_true rfl) hP hD ?_
  clear hP hD
  intro p e s m below meth c ls A H locs hA hAt hnm hl hP hD hS
  subst hw0
  obtain ⟨hx, hb, hr, hlk, hml, hown, hts, hE⟩ := hAt
  have hown : s.vm.findClass RX10 = some m.cls := hown
  have hl : lv_has ls 2 [(0, .ref q_this)] := hl
  have ho : out = out := rfl
  unfold mX10_wipe at h
  refine lv_aload_n hx hb dX10_wipe_0 rfl (lv_at hl 0 rfl) ?_
  refine va_get (D := xD G) (ci := 10) (v := .int signMany) (C := RX10) (T := TX10) (N := 40) hx hb hts (fun w9 h9 => (List.mem_cons_of_mem _ (List.mem_append_right _ h9))) hown hE.1 hP 0 rfl rfl 12 (by decide) (hts (.fieldLink RX10 141 "FallingGlassModel" "signMany" "I") (List.mem_of_getElem? (i := 1) rfl)) (fun _ h9 => h9) rfl dX10_wipe_1 ?_
  refine lv_istore_n (lv' := [(1, .int signMany), (0, .ref q_this)]) hx hb dX10_wipe_4 rfl hl (by decide) rfl (fun ls hl => ?_)
  refine lv_aload_n hx hb dX10_wipe_5 rfl (lv_at hl 1 rfl) ?_
  refine lv_iconst (v := 0) hx hb dX10_wipe_6 (by decide) ?_
  refine va_put (D := xD G) (ci := 10) (v := .int 0) (ty := .int) (C := RX10) (T := TX10) (N := 40) hx hb hts (fun w9 h9 => (List.mem_cons_of_mem _ (List.mem_append_right _ h9))) tyX10 tyX10_ok nmX10 hown hE.1 hP hD hS 0 rfl rfl 12 (by decide) (hts (.fieldLink RX10 141 "FallingGlassModel" "signMany" "I") (List.mem_of_getElem? (i := 1) rfl)) (fun _ h9 => h9) rfl (by decide +kernel) rfl rfl (Nat.le_of_ble_eq_true rfl) dX10_wipe_7 (fun H locs hP hD hS => ?_)
  have hP : va_P (xD G) vwCl [(q_this, .inr (10, [.int mind, .int needle, .int stick, .ref q_years, .ref q_months, .ref q_presses, .ref q_winds, .ref q_skies, .ref q_rains, .ref q_wires, .int days, .ref q_signs, .int 0, .ref q_cases, .ref q_caseFrom, .ref q_caseTells, .ref q_testAsks, .ref q_testHow, .ref q_testNumber, .int keys, .int weight, .int care, .long scoreSum, .long scoreDays, .int triedSpoken, .int triedRain, .int triedTaken, .int triedBoth, .ref q_glassX, .ref q_glassY, .ref q_glassPress, .ref q_glassWind, .int glasses, .ref q_dry, .ref q_value, .ref q_doing, .ref q_kept, .ref q_isKept, .int keptAt, .int isWriting]))] H := hP
  have hD : va_D A [(q_this, .inr (10, [.int mind, .int needle, .int stick, .ref q_years, .ref q_months, .ref q_presses, .ref q_winds, .ref q_skies, .ref q_rains, .ref q_wires, .int days, .ref q_signs, .int 0, .ref q_cases, .ref q_caseFrom, .ref q_caseTells, .ref q_testAsks, .ref q_testHow, .ref q_testNumber, .int keys, .int weight, .int care, .long scoreSum, .long scoreDays, .int triedSpoken, .int triedRain, .int triedTaken, .int triedBoth, .ref q_glassX, .ref q_glassY, .ref q_glassPress, .ref q_glassWind, .int glasses, .ref q_dry, .ref q_value, .ref q_doing, .ref q_kept, .ref q_isKept, .int keptAt, .int isWriting]))] := hD
  refine lv_iload_n hx hb dX10_wipe_10 rfl (lv_at hl 0 rfl) ?_
  have hq : (signMany, 0) = out := by cases h; exact ho
  subst hq
  have hP : va_P (xD G) vwCl [(q_this, .inr (10, [.int mind, .int needle, .int stick, .ref q_years, .ref q_months, .ref q_presses, .ref q_winds, .ref q_skies, .ref q_rains, .ref q_wires, .int days, .ref q_signs, .int 0, .ref q_cases, .ref q_caseFrom, .ref q_caseTells, .ref q_testAsks, .ref q_testHow, .ref q_testNumber, .int keys, .int weight, .int care, .long scoreSum, .long scoreDays, .int triedSpoken, .int triedRain, .int triedTaken, .int triedBoth, .ref q_glassX, .ref q_glassY, .ref q_glassPress, .ref q_glassWind, .int glasses, .ref q_dry, .ref q_value, .ref q_doing, .ref q_kept, .ref q_isKept, .int keptAt, .int isWriting]))] H := hP
  have hD : va_D A [(q_this, .inr (10, [.int mind, .int needle, .int stick, .ref q_years, .ref q_months, .ref q_presses, .ref q_winds, .ref q_skies, .ref q_rains, .ref q_wires, .int days, .ref q_signs, .int 0, .ref q_cases, .ref q_caseFrom, .ref q_caseTells, .ref q_testAsks, .ref q_testHow, .ref q_testNumber, .int keys, .int weight, .int care, .long scoreSum, .long scoreDays, .int triedSpoken, .int triedRain, .int triedTaken, .int triedBoth, .ref q_glassX, .ref q_glassY, .ref q_glassPress, .ref q_glassWind, .int glasses, .ref q_dry, .ref q_value, .ref q_doing, .ref q_kept, .ref q_isKept, .int keptAt, .int isWriting]))] := hD
  exact x_iretw hx hb hr hlk hP hD hS rfl dX10_wipe_11
