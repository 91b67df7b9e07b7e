/-! laid by program out of the bytecode: for each method its function (m..) and its contract (k..) -/
noncomputable def mX0_take (days : Int32) (years : Nat → Int32) (months : Nat → Int32) (presses : Nat → Int32) (winds : Nat → Int32) (skies : Nat → Int32) (rains : Nat → Int32) (wires : Nat → Int32) (kinds : Nat → Int32) (a0_days : Int32) (a0_years : Nat → Int32) (a0_months : Nat → Int32) (a0_presses : Nat → Int32) (a0_winds : Nat → Int32) (a0_skies : Nat → Int32) (a0_rains : Nat → Int32) (a0_wires : Nat → Int32) (a0_kinds : Nat → Int32)  : Option (Int32 × (Nat → Int32) × (Nat → Int32) × (Nat → Int32) × (Nat → Int32) × (Nat → Int32) × (Nat → Int32) × (Nat → Int32) × (Nat → Int32)) :=
  (mX9_copy 60 a0_years 60 years).bind (fun r501 => (mX9_copy 60 a0_months 60 months).bind (fun r502 => (mX9_copy 60 a0_presses 60 presses).bind (fun r503 => (mX9_copy 60 a0_winds 60 winds).bind (fun r504 => (mX9_copy 60 a0_skies 60 skies).bind (fun r505 => (mX9_copy 60 a0_rains 60 rains).bind (fun r506 => (mX9_copy 60 a0_wires 60 wires).bind (fun r507 => (mX9_copy 60 a0_kinds 60 kinds).bind (fun r508 => some (a0_days, r501, r502, r503, r504, r505, r506, r507, r508)))))))))
set_option maxHeartbeats 4000000 in
set_option maxRecDepth 100000 in
theorem kX0_take (l : Launch) (G : xG) (H0 : Heap) {q_this q_years q_months q_presses q_winds q_skies q_rains q_wires q_kinds q_a0 q_a0_years q_a0_months q_a0_presses q_a0_winds q_a0_skies q_a0_rains q_a0_wires q_a0_kinds : Nat} {days : Int32} {years : Nat → Int32} {months : Nat → Int32} {presses : Nat → Int32} {winds : Nat → Int32} {skies : Nat → Int32} {rains : Nat → Int32} {wires : Nat → Int32} {kinds : Nat → Int32} {a0_days : Int32} {a0_years : Nat → Int32} {a0_months : Nat → Int32} {a0_presses : Nat → Int32} {a0_winds : Nat → Int32} {a0_skies : Nat → Int32} {a0_rains : Nat → Int32} {a0_wires : Nat → Int32} {a0_kinds : Nat → Int32} (w0 : va_W) (hw0 : w0 = [(q_this, .inr (0, [.int days, .ref q_years, .ref q_months, .ref q_presses, .ref q_winds, .ref q_skies, .ref q_rains, .ref q_wires, .ref q_kinds])), (q_years, .inl (xy G 0, 60, .inl years)), (q_months, .inl (xy G 0, 60, .inl months)), (q_presses, .inl (xy G 0, 60, .inl presses)), (q_winds, .inl (xy G 0, 60, .inl winds)), (q_skies, .inl (xy G 0, 60, .inl skies)), (q_rains, .inl (xy G 0, 60, .inl rains)), (q_wires, .inl (xy G 0, 60, .inl wires)), (q_kinds, .inl (xy G 0, 60, .inl kinds)), (q_a0, .inr (0, [.int a0_days, .ref q_a0_years, .ref q_a0_months, .ref q_a0_presses, .ref q_a0_winds, .ref q_a0_skies, .ref q_a0_rains, .ref q_a0_wires, .ref q_a0_kinds])), (q_a0_years, .inl (xy G 0, 60, .inl a0_years)), (q_a0_months, .inl (xy G 0, 60, .inl a0_months)), (q_a0_presses, .inl (xy G 0, 60, .inl a0_presses)), (q_a0_winds, .inl (xy G 0, 60, .inl a0_winds)), (q_a0_skies, .inl (xy G 0, 60, .inl a0_skies)), (q_a0_rains, .inl (xy G 0, 60, .inl a0_rains)), (q_a0_wires, .inl (xy G 0, 60, .inl a0_wires)), (q_a0_kinds, .inl (xy G 0, 60, .inl a0_kinds))]) (hP : va_P (xD G) vwCl w0 H0) (hD : va_D (fun _ => True) w0) {out : Int32 × (Nat → Int32) × (Nat → Int32) × (Nat → Int32) × (Nat → Int32) × (Nat → Int32) × (Nat → Int32) × (Nat → Int32) × (Nat → Int32)} (h : mX0_take days years months presses winds skies rains wires kinds a0_days a0_years a0_months a0_presses a0_winds a0_skies a0_rains a0_wires a0_kinds = some out) : Met l yX0_take wsX0_take ({ frames := 2, cells := 0, slots := 0, locals := 61 }) (xPcw G (va_A w0 H0.size) H0 [.ref q_this, .ref q_a0]) (xRv G (va_A w0 H0.size) [(q_this, .inr (0, [.int out.1, .ref q_years, .ref q_months, .ref q_presses, .ref q_winds, .ref q_skies, .ref q_rains, .ref q_wires, .ref q_kinds])), (q_years, .inl (xy G 0, 60, .inl out.2.1)), (q_months, .inl (xy G 0, 60, .inl out.2.2.1)), (q_presses, .inl (xy G 0, 60, .inl out.2.2.2.1)), (q_winds, .inl (xy G 0, 60, .inl out.2.2.2.2.1)), (q_skies, .inl (xy G 0, 60, .inl out.2.2.2.2.2.1)), (q_rains, .inl (xy G 0, 60, .inl out.2.2.2.2.2.2.1)), (q_wires, .inl (xy G 0, 60, .inl out.2.2.2.2.2.2.2.1)), (q_kinds, .inl (xy G 0, 60, .inl out.2.2.2.2.2.2.2.2)), (q_a0, .inr (0, [.int a0_days, .ref q_a0_years, .ref q_a0_months, .ref q_a0_presses, .ref q_a0_winds, .ref q_a0_skies, .ref q_a0_rains, .ref q_a0_wires, .ref q_a0_kinds])), (q_a0_years, .inl (xy G 0, 60, .inl a0_years)), (q_a0_months, .inl (xy G 0, 60, .inl a0_months)), (q_a0_presses, .inl (xy G 0, 60, .inl a0_presses)), (q_a0_winds, .inl (xy G 0, 60, .inl a0_winds)), (q_a0_skies, .inl (xy G 0, 60, .inl a0_skies)), (q_a0_rains, .inl (xy G 0, 60, .inl a0_rains)), (q_a0_wires, .inl (xy G 0, 60, .inl a0_wires)), (q_a0_kinds, .inl (xy G 0, 60, .inl a0_kinds))]) 0 0 (va_A w0 H0.size) := by
  refine x_metw (y := yX0_take) (ws := wsX0_take) (rm := { frames := 2, cells := 0, slots := 0, locals := 61 }) (G := G) (H0 := H0) (w0 := w0) (av := [.ref q_this, .ref q_a0]) (mc := 0) (ms := 0) (Qc := (fun A => (xRv G A [(q_this, .inr (0, [.int out.1, .ref q_years, .ref q_months, .ref q_presses, .ref q_winds, .ref q_skies, .ref q_rains, .ref q_wires, .ref q_kinds])), (q_years, .inl (xy G 0, 60, .inl out.2.1)), (q_months, .inl (xy G 0, 60, .inl out.2.2.1)), (q_presses, .inl (xy G 0, 60, .inl out.2.2.2.1)), (q_winds, .inl (xy G 0, 60, .inl out.2.2.2.2.1)), (q_skies, .inl (xy G 0, 60, .inl out.2.2.2.2.2.1)), (q_rains, .inl (xy G 0, 60, .inl out.2.2.2.2.2.2.1)), (q_wires, .inl (xy G 0, 60, .inl out.2.2.2.2.2.2.2.1)), (q_kinds, .inl (xy G 0, 60, .inl out.2.2.2.2.2.2.2.2)), (q_a0, .inr (0, [.int a0_days, .ref q_a0_years, .ref q_a0_months, .ref q_a0_presses, .ref q_a0_winds, .ref q_a0_skies, .ref q_a0_rains, .ref q_a0_wires, .ref q_a0_kinds])), (q_a0_years, .inl (xy G 0, 60, .inl a0_years)), (q_a0_months, .inl (xy G 0, 60, .inl a0_months)), (q_a0_presses, .inl (xy G 0, 60, .inl a0_presses)), (q_a0_winds, .inl (xy G 0, 60, .inl a0_winds)), (q_a0_skies, .inl (xy G 0, 60, .inl a0_skies)), (q_a0_rains, .inl (xy G 0, 60, .inl a0_rains)), (q_a0_wires, .inl (xy G 0, 60, .inl a0_wires)), (q_a0_kinds, .inl (xy G 0, 60, .inl a0_kinds))]))) (by decide) rfl (Nat.le_of_ble_eq_true rfl) hP hD ?_
  clear hP hD
  intro p e s m below meth c ls A H locs hA hAt hnm hl hP hD hS
  subst hw0
  obtain ⟨hx, hb, hr, hlk, hml, hown, hts, hE⟩ := hAt
  have hown : s.vm.findClass RX0 = some m.cls := hown
  have hl : lv_has ls 2 [(0, .ref q_this), (1, .ref q_a0)] := hl
  have ho : out = out := rfl
  unfold mX0_take at h
  refine lv_aload_n hx hb dX0_take_0 rfl (lv_at hl 0 rfl) ?_
  refine lv_aload_n hx hb dX0_take_1 rfl (lv_at hl 1 rfl) ?_
  refine va_get (D := xD G) (ci := 0) (v := .int a0_days) (C := RX0) (T := TX0) (N := 9) hx hb hts (fun w9 h9 => (List.mem_cons_of_mem _ (List.mem_append_right _ h9))) hown hE.1 hP 9 rfl rfl 0 (by decide) (hts (.fieldLink RX0 36 "FallingGlass$Book" "days" "I") (List.mem_of_getElem? (i := 1) rfl)) (fun _ h9 => h9) rfl dX0_take_2 ?_
  refine va_put (D := xD G) (ci := 0) (v := .int a0_days) (ty := .int) (C := RX0) (T := TX0) (N := 9) hx hb hts (fun w9 h9 => (List.mem_cons_of_mem _ (List.mem_append_right _ h9))) tyX0 tyX0_ok nmX0 hown hE.1 hP hD hS 0 rfl rfl 0 (by decide) (hts (.fieldLink RX0 36 "FallingGlass$Book" "days" "I") (List.mem_of_getElem? (i := 1) rfl)) (fun _ h9 => h9) rfl (by decide +kernel) rfl rfl (Nat.le_of_ble_eq_true rfl) dX0_take_5 (fun H locs hP hD hS => ?_)
  have hP : va_P (xD G) vwCl [(q_this, .inr (0, [.int a0_days, .ref q_years, .ref q_months, .ref q_presses, .ref q_winds, .ref q_skies, .ref q_rains, .ref q_wires, .ref q_kinds])), (q_years, .inl (xy G 0, 60, .inl years)), (q_months, .inl (xy G 0, 60, .inl months)), (q_presses, .inl (xy G 0, 60, .inl presses)), (q_winds, .inl (xy G 0, 60, .inl winds)), (q_skies, .inl (xy G 0, 60, .inl skies)), (q_rains, .inl (xy G 0, 60, .inl rains)), (q_wires, .inl (xy G 0, 60, .inl wires)), (q_kinds, .inl (xy G 0, 60, .inl kinds)), (q_a0, .inr (0, [.int a0_days, .ref q_a0_years, .ref q_a0_months, .ref q_a0_presses, .ref q_a0_winds, .ref q_a0_skies, .ref q_a0_rains, .ref q_a0_wires, .ref q_a0_kinds])), (q_a0_years, .inl (xy G 0, 60, .inl a0_years)), (q_a0_months, .inl (xy G 0, 60, .inl a0_months)), (q_a0_presses, .inl (xy G 0, 60, .inl a0_presses)), (q_a0_winds, .inl (xy G 0, 60, .inl a0_winds)), (q_a0_skies, .inl (xy G 0, 60, .inl a0_skies)), (q_a0_rains, .inl (xy G 0, 60, .inl a0_rains)), (q_a0_wires, .inl (xy G 0, 60, .inl a0_wires)), (q_a0_kinds, .inl (xy G 0, 60, .inl a0_kinds))] H := hP
  have hD : va_D A [(q_this, .inr (0, [.int a0_days, .ref q_years, .ref q_months, .ref q_presses, .ref q_winds, .ref q_skies, .ref q_rains, .ref q_wires, .ref q_kinds])), (q_years, .inl (xy G 0, 60, .inl years)), (q_months, .inl (xy G 0, 60, .inl months)), (q_presses, .inl (xy G 0, 60, .inl presses)), (q_winds, .inl (xy G 0, 60, .inl winds)), (q_skies, .inl (xy G 0, 60, .inl skies)), (q_rains, .inl (xy G 0, 60, .inl rains)), (q_wires, .inl (xy G 0, 60, .inl wires)), (q_kinds, .inl (xy G 0, 60, .inl kinds)), (q_a0, .inr (0, [.int a0_days, .ref q_a0_years, .ref q_a0_months, .ref q_a0_presses, .ref q_a0_winds, .ref q_a0_skies, .ref q_a0_rains, .ref q_a0_wires, .ref q_a0_kinds])), (q_a0_years, .inl (xy G 0, 60, .inl a0_years)), (q_a0_months, .inl (xy G 0, 60, .inl a0_months)), (q_a0_presses, .inl (xy G 0, 60, .inl a0_presses)), (q_a0_winds, .inl (xy G 0, 60, .inl a0_winds)), (q_a0_skies, .inl (xy G 0, 60, .inl a0_skies)), (q_a0_rains, .inl (xy G 0, 60, .inl a0_rains)), (q_a0_wires, .inl (xy G 0, 60, .inl a0_wires)), (q_a0_kinds, .inl (xy G 0, 60, .inl a0_kinds))] := hD
  refine lv_aload_n hx hb dX0_take_8 rfl (lv_at hl 1 rfl) ?_
  refine va_get (D := xD G) (ci := 0) (v := .ref q_a0_years) (C := RX0) (T := TX0) (N := 9) hx hb hts (fun w9 h9 => (List.mem_cons_of_mem _ (List.mem_append_right _ h9))) hown hE.1 hP 9 rfl rfl 1 (by decide) (hts (.fieldLink RX0 9 "FallingGlass$Book" "years" "[I") (List.mem_of_getElem? (i := 2) rfl)) (fun _ h9 => h9) rfl dX0_take_9 ?_
  refine lv_aload_n hx hb dX0_take_12 rfl (lv_at hl 0 rfl) ?_
  refine va_get (D := xD G) (ci := 0) (v := .ref q_years) (C := RX0) (T := TX0) (N := 9) hx hb hts (fun w9 h9 => (List.mem_cons_of_mem _ (List.mem_append_right _ h9))) hown hE.1 hP 0 rfl rfl 1 (by decide) (hts (.fieldLink RX0 9 "FallingGlass$Book" "years" "[I") (List.mem_of_getElem? (i := 2) rfl)) (fun _ h9 => h9) rfl dX0_take_13 ?_
  obtain ⟨r501, hr501, h⟩ := x_bind h
  have hPr501 : va_P (xD G) vwCl [(q_a0_years, .inl (xy G 0, 60, .inl a0_years)), (q_years, .inl (xy G 0, 60, .inl years))] H := hP.sub [10, 1] rfl
  have hDr501 : va_D A [(q_a0_years, .inl (xy G 0, 60, .inl a0_years)), (q_years, .inl (xy G 0, 60, .inl years))] := hD.sub [10, 1] (by decide) rfl
  have hFr501 := va_free (wc := [(q_a0_years, .inl (xy G 0, 60, .inl a0_years)), (q_years, .inl (xy G 0, 60, .inl years))]) hD hS hA [10, 1] rfl
  refine x_callwv (wc := [(q_a0_years, .inl (xy G 0, 60, .inl a0_years)), (q_years, .inl (xy G 0, 60, .inl years))]) (w1 := [(q_a0_years, .inl (xy G 0, 60, .inl a0_years)), (q_years, .inl (xy G 0, 60, .inl r501))]) (ws' := [(q_this, .inr (0, [.int a0_days, .ref q_years, .ref q_months, .ref q_presses, .ref q_winds, .ref q_skies, .ref q_rains, .ref q_wires, .ref q_kinds])), (q_years, .inl (xy G 0, 60, .inl r501)), (q_months, .inl (xy G 0, 60, .inl months)), (q_presses, .inl (xy G 0, 60, .inl presses)), (q_winds, .inl (xy G 0, 60, .inl winds)), (q_skies, .inl (xy G 0, 60, .inl skies)), (q_rains, .inl (xy G 0, 60, .inl rains)), (q_wires, .inl (xy G 0, 60, .inl wires)), (q_kinds, .inl (xy G 0, 60, .inl kinds)), (q_a0, .inr (0, [.int a0_days, .ref q_a0_years, .ref q_a0_months, .ref q_a0_presses, .ref q_a0_winds, .ref q_a0_skies, .ref q_a0_rains, .ref q_a0_wires, .ref q_a0_kinds])), (q_a0_years, .inl (xy G 0, 60, .inl a0_years)), (q_a0_months, .inl (xy G 0, 60, .inl a0_months)), (q_a0_presses, .inl (xy G 0, 60, .inl a0_presses)), (q_a0_winds, .inl (xy G 0, 60, .inl a0_winds)), (q_a0_skies, .inl (xy G 0, 60, .inl a0_skies)), (q_a0_rains, .inl (xy G 0, 60, .inl a0_rains)), (q_a0_wires, .inl (xy G 0, 60, .inl a0_wires)), (q_a0_kinds, .inl (xy G 0, 60, .inl a0_kinds))]) (va_runSN (As := [.ref q_a0_years, .ref q_years]) (rest := []) ⟨hx, hb, hml, hown, hts⟩ (kX9_copy l G H [(q_a0_years, .inl (xy G 0, 60, .inl a0_years)), (q_years, .inl (xy G 0, 60, .inl years))] rfl hPr501 (hDr501.weaken (fun _ _ _ _ => trivial)) hr501) ⟨va_cnB 2 hts gX0_take_X9_copy_n40 rfl rfl rfl (hE.nm 2 rfl) (hts (.initialized RX9) (List.mem_of_getElem? (i := 11) rfl)) (by decide +kernel) ⟨Nat.le_of_ble_eq_true rfl, Nat.le_of_ble_eq_true rfl⟩, (hts (.static yX9_copy) (List.mem_of_getElem? (i := 10) rfl)), trivial⟩ (x_preSw hE hS hFr501) rfl rfl hl.1 rfl (lv_room (Nat.le_of_ble_eq_true rfl)) dX0_take_16 ⟨Nat.le_of_ble_eq_true rfl, Nat.le_of_ble_eq_true rfl⟩) hP hD hS hFr501 [10, 1] [none, some 1, none, none, none, none, none, none, none, none, some 0, none, none, none, none, none, none, none] (n := 18) (by decide) rfl rfl rfl (fun H locs hP hD hS => ?_)
  refine lv_aload_n hx hb dX0_take_19 rfl (lv_at hl 1 rfl) ?_
  refine va_get (D := xD G) (ci := 0) (v := .ref q_a0_months) (C := RX0) (T := TX0) (N := 9) hx hb hts (fun w9 h9 => (List.mem_cons_of_mem _ (List.mem_append_right _ h9))) hown hE.1 hP 9 rfl rfl 2 (by decide) (hts (.fieldLink RX0 15 "FallingGlass$Book" "months" "[I") (List.mem_of_getElem? (i := 3) rfl)) (fun _ h9 => h9) rfl dX0_take_20 ?_
  refine lv_aload_n hx hb dX0_take_23 rfl (lv_at hl 0 rfl) ?_
  refine va_get (D := xD G) (ci := 0) (v := .ref q_months) (C := RX0) (T := TX0) (N := 9) hx hb hts (fun w9 h9 => (List.mem_cons_of_mem _ (List.mem_append_right _ h9))) hown hE.1 hP 0 rfl rfl 2 (by decide) (hts (.fieldLink RX0 15 "FallingGlass$Book" "months" "[I") (List.mem_of_getElem? (i := 3) rfl)) (fun _ h9 => h9) rfl dX0_take_24 ?_
  obtain ⟨r502, hr502, h⟩ := x_bind h
  have hPr502 : va_P (xD G) vwCl [(q_a0_months, .inl (xy G 0, 60, .inl a0_months)), (q_months, .inl (xy G 0, 60, .inl months))] H := hP.sub [11, 2] rfl
  have hDr502 : va_D A [(q_a0_months, .inl (xy G 0, 60, .inl a0_months)), (q_months, .inl (xy G 0, 60, .inl months))] := hD.sub [11, 2] (by decide) rfl
  have hFr502 := va_free (wc := [(q_a0_months, .inl (xy G 0, 60, .inl a0_months)), (q_months, .inl (xy G 0, 60, .inl months))]) hD hS hA [11, 2] rfl
  refine x_callwv (wc := [(q_a0_months, .inl (xy G 0, 60, .inl a0_months)), (q_months, .inl (xy G 0, 60, .inl months))]) (w1 := [(q_a0_months, .inl (xy G 0, 60, .inl a0_months)), (q_months, .inl (xy G 0, 60, .inl r502))]) (ws' := [(q_this, .inr (0, [.int a0_days, .ref q_years, .ref q_months, .ref q_presses, .ref q_winds, .ref q_skies, .ref q_rains, .ref q_wires, .ref q_kinds])), (q_years, .inl (xy G 0, 60, .inl r501)), (q_months, .inl (xy G 0, 60, .inl r502)), (q_presses, .inl (xy G 0, 60, .inl presses)), (q_winds, .inl (xy G 0, 60, .inl winds)), (q_skies, .inl (xy G 0, 60, .inl skies)), (q_rains, .inl (xy G 0, 60, .inl rains)), (q_wires, .inl (xy G 0, 60, .inl wires)), (q_kinds, .inl (xy G 0, 60, .inl kinds)), (q_a0, .inr (0, [.int a0_days, .ref q_a0_years, .ref q_a0_months, .ref q_a0_presses, .ref q_a0_winds, .ref q_a0_skies, .ref q_a0_rains, .ref q_a0_wires, .ref q_a0_kinds])), (q_a0_years, .inl (xy G 0, 60, .inl a0_years)), (q_a0_months, .inl (xy G 0, 60, .inl a0_months)), (q_a0_presses, .inl (xy G 0, 60, .inl a0_presses)), (q_a0_winds, .inl (xy G 0, 60, .inl a0_winds)), (q_a0_skies, .inl (xy G 0, 60, .inl a0_skies)), (q_a0_rains, .inl (xy G 0, 60, .inl a0_rains)), (q_a0_wires, .inl (xy G 0, 60, .inl a0_wires)), (q_a0_kinds, .inl (xy G 0, 60, .inl a0_kinds))]) (va_runSN (As := [.ref q_a0_months, .ref q_months]) (rest := []) ⟨hx, hb, hml, hown, hts⟩ (kX9_copy l G H [(q_a0_months, .inl (xy G 0, 60, .inl a0_months)), (q_months, .inl (xy G 0, 60, .inl months))] rfl hPr502 (hDr502.weaken (fun _ _ _ _ => trivial)) hr502) ⟨va_cnB 2 hts gX0_take_X9_copy_n40 rfl rfl rfl (hE.nm 2 rfl) (hts (.initialized RX9) (List.mem_of_getElem? (i := 11) rfl)) (by decide +kernel) ⟨Nat.le_of_ble_eq_true rfl, Nat.le_of_ble_eq_true rfl⟩, (hts (.static yX9_copy) (List.mem_of_getElem? (i := 10) rfl)), trivial⟩ (x_preSw hE hS hFr502) rfl rfl hl.1 rfl (lv_room (Nat.le_of_ble_eq_true rfl)) dX0_take_27 ⟨Nat.le_of_ble_eq_true rfl, Nat.le_of_ble_eq_true rfl⟩) hP hD hS hFr502 [11, 2] [none, none, some 1, none, none, none, none, none, none, none, none, some 0, none, none, none, none, none, none] (n := 18) (by decide) rfl rfl rfl (fun H locs hP hD hS => ?_)
  refine lv_aload_n hx hb dX0_take_30 rfl (lv_at hl 1 rfl) ?_
  refine va_get (D := xD G) (ci := 0) (v := .ref q_a0_presses) (C := RX0) (T := TX0) (N := 9) hx hb hts (fun w9 h9 => (List.mem_cons_of_mem _ (List.mem_append_right _ h9))) hown hE.1 hP 9 rfl rfl 3 (by decide) (hts (.fieldLink RX0 18 "FallingGlass$Book" "presses" "[I") (List.mem_of_getElem? (i := 4) rfl)) (fun _ h9 => h9) rfl dX0_take_31 ?_
  refine lv_aload_n hx hb dX0_take_34 rfl (lv_at hl 0 rfl) ?_
  refine va_get (D := xD G) (ci := 0) (v := .ref q_presses) (C := RX0) (T := TX0) (N := 9) hx hb hts (fun w9 h9 => (List.mem_cons_of_mem _ (List.mem_append_right _ h9))) hown hE.1 hP 0 rfl rfl 3 (by decide) (hts (.fieldLink RX0 18 "FallingGlass$Book" "presses" "[I") (List.mem_of_getElem? (i := 4) rfl)) (fun _ h9 => h9) rfl dX0_take_35 ?_
  obtain ⟨r503, hr503, h⟩ := x_bind h
  have hPr503 : va_P (xD G) vwCl [(q_a0_presses, .inl (xy G 0, 60, .inl a0_presses)), (q_presses, .inl (xy G 0, 60, .inl presses))] H := hP.sub [12, 3] rfl
  have hDr503 : va_D A [(q_a0_presses, .inl (xy G 0, 60, .inl a0_presses)), (q_presses, .inl (xy G 0, 60, .inl presses))] := hD.sub [12, 3] (by decide) rfl
  have hFr503 := va_free (wc := [(q_a0_presses, .inl (xy G 0, 60, .inl a0_presses)), (q_presses, .inl (xy G 0, 60, .inl presses))]) hD hS hA [12, 3] rfl
  refine x_callwv (wc := [(q_a0_presses, .inl (xy G 0, 60, .inl a0_presses)), (q_presses, .inl (xy G 0, 60, .inl presses))]) (w1 := [(q_a0_presses, .inl (xy G 0, 60, .inl a0_presses)), (q_presses, .inl (xy G 0, 60, .inl r503))]) (ws' := [(q_this, .inr (0, [.int a0_days, .ref q_years, .ref q_months, .ref q_presses, .ref q_winds, .ref q_skies, .ref q_rains, .ref q_wires, .ref q_kinds])), (q_years, .inl (xy G 0, 60, .inl r501)), (q_months, .inl (xy G 0, 60, .inl r502)), (q_presses, .inl (xy G 0, 60, .inl r503)), (q_winds, .inl (xy G 0, 60, .inl winds)), (q_skies, .inl (xy G 0, 60, .inl skies)), (q_rains, .inl (xy G 0, 60, .inl rains)), (q_wires, .inl (xy G 0, 60, .inl wires)), (q_kinds, .inl (xy G 0, 60, .inl kinds)), (q_a0, .inr (0, [.int a0_days, .ref q_a0_years, .ref q_a0_months, .ref q_a0_presses, .ref q_a0_winds, .ref q_a0_skies, .ref q_a0_rains, .ref q_a0_wires, .ref q_a0_kinds])), (q_a0_years, .inl (xy G 0, 60, .inl a0_years)), (q_a0_months, .inl (xy G 0, 60, .inl a0_months)), (q_a0_presses, .inl (xy G 0, 60, .inl a0_presses)), (q_a0_winds, .inl (xy G 0, 60, .inl a0_winds)), (q_a0_skies, .inl (xy G 0, 60, .inl a0_skies)), (q_a0_rains, .inl (xy G 0, 60, .inl a0_rains)), (q_a0_wires, .inl (xy G 0, 60, .inl a0_wires)), (q_a0_kinds, .inl (xy G 0, 60, .inl a0_kinds))]) (va_runSN (As := [.ref q_a0_presses, .ref q_presses]) (rest := []) ⟨hx, hb, hml, hown, hts⟩ (kX9_copy l G H [(q_a0_presses, .inl (xy G 0, 60, .inl a0_presses)), (q_presses, .inl (xy G 0, 60, .inl presses))] rfl hPr503 (hDr503.weaken (fun _ _ _ _ => trivial)) hr503) ⟨va_cnB 2 hts gX0_take_X9_copy_n40 rfl rfl rfl (hE.nm 2 rfl) (hts (.initialized RX9) (List.mem_of_getElem? (i := 11) rfl)) (by decide +kernel) ⟨Nat.le_of_ble_eq_true rfl, Nat.le_of_ble_eq_true rfl⟩, (hts (.static yX9_copy) (List.mem_of_getElem? (i := 10) rfl)), trivial⟩ (x_preSw hE hS hFr503) rfl rfl hl.1 rfl (lv_room (Nat.le_of_ble_eq_true rfl)) dX0_take_38 ⟨Nat.le_of_ble_eq_true rfl, Nat.le_of_ble_eq_true rfl⟩) hP hD hS hFr503 [12, 3] [none, none, none, some 1, none, none, none, none, none, none, none, none, some 0, none, none, none, none, none] (n := 18) (by decide) rfl rfl rfl (fun H locs hP hD hS => ?_)
  refine lv_aload_n hx hb dX0_take_41 rfl (lv_at hl 1 rfl) ?_
  refine va_get (D := xD G) (ci := 0) (v := .ref q_a0_winds) (C := RX0) (T := TX0) (N := 9) hx hb hts (fun w9 h9 => (List.mem_cons_of_mem _ (List.mem_append_right _ h9))) hown hE.1 hP 9 rfl rfl 4 (by decide) (hts (.fieldLink RX0 21 "FallingGlass$Book" "winds" "[I") (List.mem_of_getElem? (i := 5) rfl)) (fun _ h9 => h9) rfl dX0_take_42 ?_
  refine lv_aload_n hx hb dX0_take_45 rfl (lv_at hl 0 rfl) ?_
  refine va_get (D := xD G) (ci := 0) (v := .ref q_winds) (C := RX0) (T := TX0) (N := 9) hx hb hts (fun w9 h9 => (List.mem_cons_of_mem _ (List.mem_append_right _ h9))) hown hE.1 hP 0 rfl rfl 4 (by decide) (hts (.fieldLink RX0 21 "FallingGlass$Book" "winds" "[I") (List.mem_of_getElem? (i := 5) rfl)) (fun _ h9 => h9) rfl dX0_take_46 ?_
  obtain ⟨r504, hr504, h⟩ := x_bind h
  have hPr504 : va_P (xD G) vwCl [(q_a0_winds, .inl (xy G 0, 60, .inl a0_winds)), (q_winds, .inl (xy G 0, 60, .inl winds))] H := hP.sub [13, 4] rfl
  have hDr504 : va_D A [(q_a0_winds, .inl (xy G 0, 60, .inl a0_winds)), (q_winds, .inl (xy G 0, 60, .inl winds))] := hD.sub [13, 4] (by decide) rfl
  have hFr504 := va_free (wc := [(q_a0_winds, .inl (xy G 0, 60, .inl a0_winds)), (q_winds, .inl (xy G 0, 60, .inl winds))]) hD hS hA [13, 4] rfl
  refine x_callwv (wc := [(q_a0_winds, .inl (xy G 0, 60, .inl a0_winds)), (q_winds, .inl (xy G 0, 60, .inl winds))]) (w1 := [(q_a0_winds, .inl (xy G 0, 60, .inl a0_winds)), (q_winds, .inl (xy G 0, 60, .inl r504))]) (ws' := [(q_this, .inr (0, [.int a0_days, .ref q_years, .ref q_months, .ref q_presses, .ref q_winds, .ref q_skies, .ref q_rains, .ref q_wires, .ref q_kinds])), (q_years, .inl (xy G 0, 60, .inl r501)), (q_months, .inl (xy G 0, 60, .inl r502)), (q_presses, .inl (xy G 0, 60, .inl r503)), (q_winds, .inl (xy G 0, 60, .inl r504)), (q_skies, .inl (xy G 0, 60, .inl skies)), (q_rains, .inl (xy G 0, 60, .inl rains)), (q_wires, .inl (xy G 0, 60, .inl wires)), (q_kinds, .inl (xy G 0, 60, .inl kinds)), (q_a0, .inr (0, [.int a0_days, .ref q_a0_years, .ref q_a0_months, .ref q_a0_presses, .ref q_a0_winds, .ref q_a0_skies, .ref q_a0_rains, .ref q_a0_wires, .ref q_a0_kinds])), (q_a0_years, .inl (xy G 0, 60, .inl a0_years)), (q_a0_months, .inl (xy G 0, 60, .inl a0_months)), (q_a0_presses, .inl (xy G 0, 60, .inl a0_presses)), (q_a0_winds, .inl (xy G 0, 60, .inl a0_winds)), (q_a0_skies, .inl (xy G 0, 60, .inl a0_skies)), (q_a0_rains, .inl (xy G 0, 60, .inl a0_rains)), (q_a0_wires, .inl (xy G 0, 60, .inl a0_wires)), (q_a0_kinds, .inl (xy G 0, 60, .inl a0_kinds))]) (va_runSN (As := [.ref q_a0_winds, .ref q_winds]) (rest := []) ⟨hx, hb, hml, hown, hts⟩ (kX9_copy l G H [(q_a0_winds, .inl (xy G 0, 60, .inl a0_winds)), (q_winds, .inl (xy G 0, 60, .inl winds))] rfl hPr504 (hDr504.weaken (fun _ _ _ _ => trivial)) hr504) ⟨va_cnB 2 hts gX0_take_X9_copy_n40 rfl rfl rfl (hE.nm 2 rfl) (hts (.initialized RX9) (List.mem_of_getElem? (i := 11) rfl)) (by decide +kernel) ⟨Nat.le_of_ble_eq_true rfl, Nat.le_of_ble_eq_true rfl⟩, (hts (.static yX9_copy) (List.mem_of_getElem? (i := 10) rfl)), trivial⟩ (x_preSw hE hS hFr504) rfl rfl hl.1 rfl (lv_room (Nat.le_of_ble_eq_true rfl)) dX0_take_49 ⟨Nat.le_of_ble_eq_true rfl, Nat.le_of_ble_eq_true rfl⟩) hP hD hS hFr504 [13, 4] [none, none, none, none, some 1, none, none, none, none, none, none, none, none, some 0, none, none, none, none] (n := 18) (by decide) rfl rfl rfl (fun H locs hP hD hS => ?_)
  refine lv_aload_n hx hb dX0_take_52 rfl (lv_at hl 1 rfl) ?_
  refine va_get (D := xD G) (ci := 0) (v := .ref q_a0_skies) (C := RX0) (T := TX0) (N := 9) hx hb hts (fun w9 h9 => (List.mem_cons_of_mem _ (List.mem_append_right _ h9))) hown hE.1 hP 9 rfl rfl 5 (by decide) (hts (.fieldLink RX0 24 "FallingGlass$Book" "skies" "[I") (List.mem_of_getElem? (i := 6) rfl)) (fun _ h9 => h9) rfl dX0_take_53 ?_
  refine lv_aload_n hx hb dX0_take_56 rfl (lv_at hl 0 rfl) ?_
  refine va_get (D := xD G) (ci := 0) (v := .ref q_skies) (C := RX0) (T := TX0) (N := 9) hx hb hts (fun w9 h9 => (List.mem_cons_of_mem _ (List.mem_append_right _ h9))) hown hE.1 hP 0 rfl rfl 5 (by decide) (hts (.fieldLink RX0 24 "FallingGlass$Book" "skies" "[I") (List.mem_of_getElem? (i := 6) rfl)) (fun _ h9 => h9) rfl dX0_take_57 ?_
  obtain ⟨r505, hr505, h⟩ := x_bind h
  have hPr505 : va_P (xD G) vwCl [(q_a0_skies, .inl (xy G 0, 60, .inl a0_skies)), (q_skies, .inl (xy G 0, 60, .inl skies))] H := hP.sub [14, 5] rfl
  have hDr505 : va_D A [(q_a0_skies, .inl (xy G 0, 60, .inl a0_skies)), (q_skies, .inl (xy G 0, 60, .inl skies))] := hD.sub [14, 5] (by decide) rfl
  have hFr505 := va_free (wc := [(q_a0_skies, .inl (xy G 0, 60, .inl a0_skies)), (q_skies, .inl (xy G 0, 60, .inl skies))]) hD hS hA [14, 5] rfl
  refine x_callwv (wc := [(q_a0_skies, .inl (xy G 0, 60, .inl a0_skies)), (q_skies, .inl (xy G 0, 60, .inl skies))]) (w1 := [(q_a0_skies, .inl (xy G 0, 60, .inl a0_skies)), (q_skies, .inl (xy G 0, 60, .inl r505))]) (ws' := [(q_this, .inr (0, [.int a0_days, .ref q_years, .ref q_months, .ref q_presses, .ref q_winds, .ref q_skies, .ref q_rains, .ref q_wires, .ref q_kinds])), (q_years, .inl (xy G 0, 60, .inl r501)), (q_months, .inl (xy G 0, 60, .inl r502)), (q_presses, .inl (xy G 0, 60, .inl r503)), (q_winds, .inl (xy G 0, 60, .inl r504)), (q_skies, .inl (xy G 0, 60, .inl r505)), (q_rains, .inl (xy G 0, 60, .inl rains)), (q_wires, .inl (xy G 0, 60, .inl wires)), (q_kinds, .inl (xy G 0, 60, .inl kinds)), (q_a0, .inr (0, [.int a0_days, .ref q_a0_years, .ref q_a0_months, .ref q_a0_presses, .ref q_a0_winds, .ref q_a0_skies, .ref q_a0_rains, .ref q_a0_wires, .ref q_a0_kinds])), (q_a0_years, .inl (xy G 0, 60, .inl a0_years)), (q_a0_months, .inl (xy G 0, 60, .inl a0_months)), (q_a0_presses, .inl (xy G 0, 60, .inl a0_presses)), (q_a0_winds, .inl (xy G 0, 60, .inl a0_winds)), (q_a0_skies, .inl (xy G 0, 60, .inl a0_skies)), (q_a0_rains, .inl (xy G 0, 60, .inl a0_rains)), (q_a0_wires, .inl (xy G 0, 60, .inl a0_wires)), (q_a0_kinds, .inl (xy G 0, 60, .inl a0_kinds))]) (va_runSN (As := [.ref q_a0_skies, .ref q_skies]) (rest := []) ⟨hx, hb, hml, hown, hts⟩ (kX9_copy l G H [(q_a0_skies, .inl (xy G 0, 60, .inl a0_skies)), (q_skies, .inl (xy G 0, 60, .inl skies))] rfl hPr505 (hDr505.weaken (fun _ _ _ _ => trivial)) hr505) ⟨va_cnB 2 hts gX0_take_X9_copy_n40 rfl rfl rfl (hE.nm 2 rfl) (hts (.initialized RX9) (List.mem_of_getElem? (i := 11) rfl)) (by decide +kernel) ⟨Nat.le_of_ble_eq_true rfl, Nat.le_of_ble_eq_true rfl⟩, (hts (.static yX9_copy) (List.mem_of_getElem? (i := 10) rfl)), trivial⟩ (x_preSw hE hS hFr505) rfl rfl hl.1 rfl (lv_room (Nat.le_of_ble_eq_true rfl)) dX0_take_60 ⟨Nat.le_of_ble_eq_true rfl, Nat.le_of_ble_eq_true rfl⟩) hP hD hS hFr505 [14, 5] [none, none, none, none, none, some 1, none, none, none, none, none, none, none, none, some 0, none, none, none] (n := 18) (by decide) rfl rfl rfl (fun H locs hP hD hS => ?_)
  refine lv_aload_n hx hb dX0_take_63 rfl (lv_at hl 1 rfl) ?_
  refine va_get (D := xD G) (ci := 0) (v := .ref q_a0_rains) (C := RX0) (T := TX0) (N := 9) hx hb hts (fun w9 h9 => (List.mem_cons_of_mem _ (List.mem_append_right _ h9))) hown hE.1 hP 9 rfl rfl 6 (by decide) (hts (.fieldLink RX0 27 "FallingGlass$Book" "rains" "[I") (List.mem_of_getElem? (i := 7) rfl)) (fun _ h9 => h9) rfl dX0_take_64 ?_
  refine lv_aload_n hx hb dX0_take_67 rfl (lv_at hl 0 rfl) ?_
  refine va_get (D := xD G) (ci := 0) (v := .ref q_rains) (C := RX0) (T := TX0) (N := 9) hx hb hts (fun w9 h9 => (List.mem_cons_of_mem _ (List.mem_append_right _ h9))) hown hE.1 hP 0 rfl rfl 6 (by decide) (hts (.fieldLink RX0 27 "FallingGlass$Book" "rains" "[I") (List.mem_of_getElem? (i := 7) rfl)) (fun _ h9 => h9) rfl dX0_take_68 ?_
  obtain ⟨r506, hr506, h⟩ := x_bind h
  have hPr506 : va_P (xD G) vwCl [(q_a0_rains, .inl (xy G 0, 60, .inl a0_rains)), (q_rains, .inl (xy G 0, 60, .inl rains))] H := hP.sub [15, 6] rfl
  have hDr506 : va_D A [(q_a0_rains, .inl (xy G 0, 60, .inl a0_rains)), (q_rains, .inl (xy G 0, 60, .inl rains))] := hD.sub [15, 6] (by decide) rfl
  have hFr506 := va_free (wc := [(q_a0_rains, .inl (xy G 0, 60, .inl a0_rains)), (q_rains, .inl (xy G 0, 60, .inl rains))]) hD hS hA [15, 6] rfl
  refine x_callwv (wc := [(q_a0_rains, .inl (xy G 0, 60, .inl a0_rains)), (q_rains, .inl (xy G 0, 60, .inl rains))]) (w1 := [(q_a0_rains, .inl (xy G 0, 60, .inl a0_rains)), (q_rains, .inl (xy G 0, 60, .inl r506))]) (ws' := [(q_this, .inr (0, [.int a0_days, .ref q_years, .ref q_months, .ref q_presses, .ref q_winds, .ref q_skies, .ref q_rains, .ref q_wires, .ref q_kinds])), (q_years, .inl (xy G 0, 60, .inl r501)), (q_months, .inl (xy G 0, 60, .inl r502)), (q_presses, .inl (xy G 0, 60, .inl r503)), (q_winds, .inl (xy G 0, 60, .inl r504)), (q_skies, .inl (xy G 0, 60, .inl r505)), (q_rains, .inl (xy G 0, 60, .inl r506)), (q_wires, .inl (xy G 0, 60, .inl wires)), (q_kinds, .inl (xy G 0, 60, .inl kinds)), (q_a0, .inr (0, [.int a0_days, .ref q_a0_years, .ref q_a0_months, .ref q_a0_presses, .ref q_a0_winds, .ref q_a0_skies, .ref q_a0_rains, .ref q_a0_wires, .ref q_a0_kinds])), (q_a0_years, .inl (xy G 0, 60, .inl a0_years)), (q_a0_months, .inl (xy G 0, 60, .inl a0_months)), (q_a0_presses, .inl (xy G 0, 60, .inl a0_presses)), (q_a0_winds, .inl (xy G 0, 60, .inl a0_winds)), (q_a0_skies, .inl (xy G 0, 60, .inl a0_skies)), (q_a0_rains, .inl (xy G 0, 60, .inl a0_rains)), (q_a0_wires, .inl (xy G 0, 60, .inl a0_wires)), (q_a0_kinds, .inl (xy G 0, 60, .inl a0_kinds))]) (va_runSN (As := [.ref q_a0_rains, .ref q_rains]) (rest := []) ⟨hx, hb, hml, hown, hts⟩ (kX9_copy l G H [(q_a0_rains, .inl (xy G 0, 60, .inl a0_rains)), (q_rains, .inl (xy G 0, 60, .inl rains))] rfl hPr506 (hDr506.weaken (fun _ _ _ _ => trivial)) hr506) ⟨va_cnB 2 hts gX0_take_X9_copy_n40 rfl rfl rfl (hE.nm 2 rfl) (hts (.initialized RX9) (List.mem_of_getElem? (i := 11) rfl)) (by decide +kernel) ⟨Nat.le_of_ble_eq_true rfl, Nat.le_of_ble_eq_true rfl⟩, (hts (.static yX9_copy) (List.mem_of_getElem? (i := 10) rfl)), trivial⟩ (x_preSw hE hS hFr506) rfl rfl hl.1 rfl (lv_room (Nat.le_of_ble_eq_true rfl)) dX0_take_71 ⟨Nat.le_of_ble_eq_true rfl, Nat.le_of_ble_eq_true rfl⟩) hP hD hS hFr506 [15, 6] [none, none, none, none, none, none, some 1, none, none, none, none, none, none, none, none, some 0, none, none] (n := 18) (by decide) rfl rfl rfl (fun H locs hP hD hS => ?_)
  refine lv_aload_n hx hb dX0_take_74 rfl (lv_at hl 1 rfl) ?_
  refine va_get (D := xD G) (ci := 0) (v := .ref q_a0_wires) (C := RX0) (T := TX0) (N := 9) hx hb hts (fun w9 h9 => (List.mem_cons_of_mem _ (List.mem_append_right _ h9))) hown hE.1 hP 9 rfl rfl 7 (by decide) (hts (.fieldLink RX0 30 "FallingGlass$Book" "wires" "[I") (List.mem_of_getElem? (i := 8) rfl)) (fun _ h9 => h9) rfl dX0_take_75 ?_
  refine lv_aload_n hx hb dX0_take_78 rfl (lv_at hl 0 rfl) ?_
  refine va_get (D := xD G) (ci := 0) (v := .ref q_wires) (C := RX0) (T := TX0) (N := 9) hx hb hts (fun w9 h9 => (List.mem_cons_of_mem _ (List.mem_append_right _ h9))) hown hE.1 hP 0 rfl rfl 7 (by decide) (hts (.fieldLink RX0 30 "FallingGlass$Book" "wires" "[I") (List.mem_of_getElem? (i := 8) rfl)) (fun _ h9 => h9) rfl dX0_take_79 ?_
  obtain ⟨r507, hr507, h⟩ := x_bind h
  have hPr507 : va_P (xD G) vwCl [(q_a0_wires, .inl (xy G 0, 60, .inl a0_wires)), (q_wires, .inl (xy G 0, 60, .inl wires))] H := hP.sub [16, 7] rfl
  have hDr507 : va_D A [(q_a0_wires, .inl (xy G 0, 60, .inl a0_wires)), (q_wires, .inl (xy G 0, 60, .inl wires))] := hD.sub [16, 7] (by decide) rfl
  have hFr507 := va_free (wc := [(q_a0_wires, .inl (xy G 0, 60, .inl a0_wires)), (q_wires, .inl (xy G 0, 60, .inl wires))]) hD hS hA [16, 7] rfl
  refine x_callwv (wc := [(q_a0_wires, .inl (xy G 0, 60, .inl a0_wires)), (q_wires, .inl (xy G 0, 60, .inl wires))]) (w1 := [(q_a0_wires, .inl (xy G 0, 60, .inl a0_wires)), (q_wires, .inl (xy G 0, 60, .inl r507))]) (ws' := [(q_this, .inr (0, [.int a0_days, .ref q_years, .ref q_months, .ref q_presses, .ref q_winds, .ref q_skies, .ref q_rains, .ref q_wires, .ref q_kinds])), (q_years, .inl (xy G 0, 60, .inl r501)), (q_months, .inl (xy G 0, 60, .inl r502)), (q_presses, .inl (xy G 0, 60, .inl r503)), (q_winds, .inl (xy G 0, 60, .inl r504)), (q_skies, .inl (xy G 0, 60, .inl r505)), (q_rains, .inl (xy G 0, 60, .inl r506)), (q_wires, .inl (xy G 0, 60, .inl r507)), (q_kinds, .inl (xy G 0, 60, .inl kinds)), (q_a0, .inr (0, [.int a0_days, .ref q_a0_years, .ref q_a0_months, .ref q_a0_presses, .ref q_a0_winds, .ref q_a0_skies, .ref q_a0_rains, .ref q_a0_wires, .ref q_a0_kinds])), (q_a0_years, .inl (xy G 0, 60, .inl a0_years)), (q_a0_months, .inl (xy G 0, 60, .inl a0_months)), (q_a0_presses, .inl (xy G 0, 60, .inl a0_presses)), (q_a0_winds, .inl (xy G 0, 60, .inl a0_winds)), (q_a0_skies, .inl (xy G 0, 60, .inl a0_skies)), (q_a0_rains, .inl (xy G 0, 60, .inl a0_rains)), (q_a0_wires, .inl (xy G 0, 60, .inl a0_wires)), (q_a0_kinds, .inl (xy G 0, 60, .inl a0_kinds))]) (va_runSN (As := [.ref q_a0_wires, .ref q_wires]) (rest := []) ⟨hx, hb, hml, hown, hts⟩ (kX9_copy l G H [(q_a0_wires, .inl (xy G 0, 60, .inl a0_wires)), (q_wires, .inl (xy G 0, 60, .inl wires))] rfl hPr507 (hDr507.weaken (fun _ _ _ _ => trivial)) hr507) ⟨va_cnB 2 hts gX0_take_X9_copy_n40 rfl rfl rfl (hE.nm 2 rfl) (hts (.initialized RX9) (List.mem_of_getElem? (i := 11) rfl)) (by decide +kernel) ⟨Nat.le_of_ble_eq_true rfl, Nat.le_of_ble_eq_true rfl⟩, (hts (.static yX9_copy) (List.mem_of_getElem? (i := 10) rfl)), trivial⟩ (x_preSw hE hS hFr507) rfl rfl hl.1 rfl (lv_room (Nat.le_of_ble_eq_true rfl)) dX0_take_82 ⟨Nat.le_of_ble_eq_true rfl, Nat.le_of_ble_eq_true rfl⟩) hP hD hS hFr507 [16, 7] [none, none, none, none, none, none, none, some 1, none, none, none, none, none, none, none, none, some 0, none] (n := 18) (by decide) rfl rfl rfl (fun H locs hP hD hS => ?_)
  refine lv_aload_n hx hb dX0_take_85 rfl (lv_at hl 1 rfl) ?_
  refine va_get (D := xD G) (ci := 0) (v := .ref q_a0_kinds) (C := RX0) (T := TX0) (N := 9) hx hb hts (fun w9 h9 => (List.mem_cons_of_mem _ (List.mem_append_right _ h9))) hown hE.1 hP 9 rfl rfl 8 (by decide) (hts (.fieldLink RX0 33 "FallingGlass$Book" "kinds" "[I") (List.mem_of_getElem? (i := 9) rfl)) (fun _ h9 => h9) rfl dX0_take_86 ?_
  refine lv_aload_n hx hb dX0_take_89 rfl (lv_at hl 0 rfl) ?_
  refine va_get (D := xD G) (ci := 0) (v := .ref q_kinds) (C := RX0) (T := TX0) (N := 9) hx hb hts (fun w9 h9 => (List.mem_cons_of_mem _ (List.mem_append_right _ h9))) hown hE.1 hP 0 rfl rfl 8 (by decide) (hts (.fieldLink RX0 33 "FallingGlass$Book" "kinds" "[I") (List.mem_of_getElem? (i := 9) rfl)) (fun _ h9 => h9) rfl dX0_take_90 ?_
  obtain ⟨r508, hr508, h⟩ := x_bind h
  have hPr508 : va_P (xD G) vwCl [(q_a0_kinds, .inl (xy G 0, 60, .inl a0_kinds)), (q_kinds, .inl (xy G 0, 60, .inl kinds))] H := hP.sub [17, 8] rfl
  have hDr508 : va_D A [(q_a0_kinds, .inl (xy G 0, 60, .inl a0_kinds)), (q_kinds, .inl (xy G 0, 60, .inl kinds))] := hD.sub [17, 8] (by decide) rfl
  have hFr508 := va_free (wc := [(q_a0_kinds, .inl (xy G 0, 60, .inl a0_kinds)), (q_kinds, .inl (xy G 0, 60, .inl kinds))]) hD hS hA [17, 8] rfl
  refine x_callwv (wc := [(q_a0_kinds, .inl (xy G 0, 60, .inl a0_kinds)), (q_kinds, .inl (xy G 0, 60, .inl kinds))]) (w1 := [(q_a0_kinds, .inl (xy G 0, 60, .inl a0_kinds)), (q_kinds, .inl (xy G 0, 60, .inl r508))]) (ws' := [(q_this, .inr (0, [.int a0_days, .ref q_years, .ref q_months, .ref q_presses, .ref q_winds, .ref q_skies, .ref q_rains, .ref q_wires, .ref q_kinds])), (q_years, .inl (xy G 0, 60, .inl r501)), (q_months, .inl (xy G 0, 60, .inl r502)), (q_presses, .inl (xy G 0, 60, .inl r503)), (q_winds, .inl (xy G 0, 60, .inl r504)), (q_skies, .inl (xy G 0, 60, .inl r505)), (q_rains, .inl (xy G 0, 60, .inl r506)), (q_wires, .inl (xy G 0, 60, .inl r507)), (q_kinds, .inl (xy G 0, 60, .inl r508)), (q_a0, .inr (0, [.int a0_days, .ref q_a0_years, .ref q_a0_months, .ref q_a0_presses, .ref q_a0_winds, .ref q_a0_skies, .ref q_a0_rains, .ref q_a0_wires, .ref q_a0_kinds])), (q_a0_years, .inl (xy G 0, 60, .inl a0_years)), (q_a0_months, .inl (xy G 0, 60, .inl a0_months)), (q_a0_presses, .inl (xy G 0, 60, .inl a0_presses)), (q_a0_winds, .inl (xy G 0, 60, .inl a0_winds)), (q_a0_skies, .inl (xy G 0, 60, .inl a0_skies)), (q_a0_rains, .inl (xy G 0, 60, .inl a0_rains)), (q_a0_wires, .inl (xy G 0, 60, .inl a0_wires)), (q_a0_kinds, .inl (xy G 0, 60, .inl a0_kinds))]) (va_runSN (As := [.ref q_a0_kinds, .ref q_kinds]) (rest := []) ⟨hx, hb, hml, hown, hts⟩ (kX9_copy l G H [(q_a0_kinds, .inl (xy G 0, 60, .inl a0_kinds)), (q_kinds, .inl (xy G 0, 60, .inl kinds))] rfl hPr508 (hDr508.weaken (fun _ _ _ _ => trivial)) hr508) ⟨va_cnB 2 hts gX0_take_X9_copy_n40 rfl rfl rfl (hE.nm 2 rfl) (hts (.initialized RX9) (List.mem_of_getElem? (i := 11) rfl)) (by decide +kernel) ⟨Nat.le_of_ble_eq_true rfl, Nat.le_of_ble_eq_true rfl⟩, (hts (.static yX9_copy) (List.mem_of_getElem? (i := 10) rfl)), trivial⟩ (x_preSw hE hS hFr508) rfl rfl hl.1 rfl (lv_room (Nat.le_of_ble_eq_true rfl)) dX0_take_93 ⟨Nat.le_of_ble_eq_true rfl, Nat.le_of_ble_eq_true rfl⟩) hP hD hS hFr508 [17, 8] [none, none, none, none, none, none, none, none, some 1, none, none, none, none, none, none, none, none, some 0] (n := 18) (by decide) rfl rfl rfl (fun H locs hP hD hS => ?_)
  have hq : (a0_days, r501, r502, r503, r504, r505, r506, r507, r508) = out := by cases h; exact ho
  subst hq
  have hP : va_P (xD G) vwCl [(q_this, .inr (0, [.int a0_days, .ref q_years, .ref q_months, .ref q_presses, .ref q_winds, .ref q_skies, .ref q_rains, .ref q_wires, .ref q_kinds])), (q_years, .inl (xy G 0, 60, .inl r501)), (q_months, .inl (xy G 0, 60, .inl r502)), (q_presses, .inl (xy G 0, 60, .inl r503)), (q_winds, .inl (xy G 0, 60, .inl r504)), (q_skies, .inl (xy G 0, 60, .inl r505)), (q_rains, .inl (xy G 0, 60, .inl r506)), (q_wires, .inl (xy G 0, 60, .inl r507)), (q_kinds, .inl (xy G 0, 60, .inl r508)), (q_a0, .inr (0, [.int a0_days, .ref q_a0_years, .ref q_a0_months, .ref q_a0_presses, .ref q_a0_winds, .ref q_a0_skies, .ref q_a0_rains, .ref q_a0_wires, .ref q_a0_kinds])), (q_a0_years, .inl (xy G 0, 60, .inl a0_years)), (q_a0_months, .inl (xy G 0, 60, .inl a0_months)), (q_a0_presses, .inl (xy G 0, 60, .inl a0_presses)), (q_a0_winds, .inl (xy G 0, 60, .inl a0_winds)), (q_a0_skies, .inl (xy G 0, 60, .inl a0_skies)), (q_a0_rains, .inl (xy G 0, 60, .inl a0_rains)), (q_a0_wires, .inl (xy G 0, 60, .inl a0_wires)), (q_a0_kinds, .inl (xy G 0, 60, .inl a0_kinds))] H := hP
  have hD : va_D A [(q_this, .inr (0, [.int a0_days, .ref q_years, .ref q_months, .ref q_presses, .ref q_winds, .ref q_skies, .ref q_rains, .ref q_wires, .ref q_kinds])), (q_years, .inl (xy G 0, 60, .inl r501)), (q_months, .inl (xy G 0, 60, .inl r502)), (q_presses, .inl (xy G 0, 60, .inl r503)), (q_winds, .inl (xy G 0, 60, .inl r504)), (q_skies, .inl (xy G 0, 60, .inl r505)), (q_rains, .inl (xy G 0, 60, .inl r506)), (q_wires, .inl (xy G 0, 60, .inl r507)), (q_kinds, .inl (xy G 0, 60, .inl r508)), (q_a0, .inr (0, [.int a0_days, .ref q_a0_years, .ref q_a0_months, .ref q_a0_presses, .ref q_a0_winds, .ref q_a0_skies, .ref q_a0_rains, .ref q_a0_wires, .ref q_a0_kinds])), (q_a0_years, .inl (xy G 0, 60, .inl a0_years)), (q_a0_months, .inl (xy G 0, 60, .inl a0_months)), (q_a0_presses, .inl (xy G 0, 60, .inl a0_presses)), (q_a0_winds, .inl (xy G 0, 60, .inl a0_winds)), (q_a0_skies, .inl (xy G 0, 60, .inl a0_skies)), (q_a0_rains, .inl (xy G 0, 60, .inl a0_rains)), (q_a0_wires, .inl (xy G 0, 60, .inl a0_wires)), (q_a0_kinds, .inl (xy G 0, 60, .inl a0_kinds))] := hD
  exact x_vretw hx hb hr hlk hP hD hS dX0_take_96
noncomputable def mX0_has (days : Int32) (p0 : Int32) : Option (Bool) :=
  if p0 < 0 then (some false) else (if days ≤ p0 then (some false) else (some true))
set_option maxHeartbeats 4000000 in
set_option maxRecDepth 100000 in
theorem kX0_has (l : Launch) (G : xG) (H0 : Heap) {q_this q_years q_months q_presses q_winds q_skies q_rains q_wires q_kinds : Nat} {days : Int32} {p0 : Int32} (hP : va_P (xD G) vwCl [(q_this, .inr (0, [.int days, .ref q_years, .ref q_months, .ref q_presses, .ref q_winds, .ref q_skies, .ref q_rains, .ref q_wires, .ref q_kinds]))] H0) {out : Bool} (h : mX0_has days p0 = some out) : Met l yX0_has wsX0_has ({ frames := 0, cells := 0, slots := 0, locals := 0 }) (xPc G H0 [.ref q_this, .int p0]) (xQi H0 (xb out)) 0 0 xN := by
  refine x_met (by decide) rfl (Nat.le_of_ble_eq_true rfl) ?_
  intro p e s m below meth c ls hH hA hl
  obtain ⟨hx, hb, hr, hlk, hml, hown, hts, hE⟩ := hA
  subst hH
  have hown : s.vm.findClass RX0 = some m.cls := hown
  have hl : lv_has ls 2 [(0, .ref q_this), (1, .int p0)] := hl
  have hS : va_S xN s.heap s.heap [] := va_S.rf
  have ho : out = out := rfl
  unfold mX0_has at h
  refine lv_iload_n hx hb dX0_has_0 rfl (lv_at hl 1 rfl) ?_
  refine lv_if_lt (tgt := 16) hx hb dX0_has_1 (by decide) (fun hc501 => ?_) (fun hc501 => ?_)
  · replace h := (if_pos hc501).symm.trans h
    refine lv_iconst (v := 0) hx hb dX0_has_16 (by decide) ?_
    have hq : false = out := by cases h; exact ho
    subst hq
    exact x_zret (b := false) hx hb hr hlk rfl rfl rfl dX0_has_17
  · replace h := (if_neg hc501).symm.trans h
    refine lv_iload_n hx hb dX0_has_4 rfl (lv_at hl 1 rfl) ?_
    refine lv_aload_n hx hb dX0_has_5 rfl (lv_at hl 0 rfl) ?_
    refine va_get (D := xD G) (ci := 0) (v := .int days) (C := RX0) (T := TX0) (N := 9) hx hb hts (fun w9 h9 => (List.mem_cons_of_mem _ (List.mem_append_right _ h9))) hown hE.1 hP 0 rfl rfl 0 (by decide) (hts (.fieldLink RX0 36 "FallingGlass$Book" "days" "I") (List.mem_of_getElem? (i := 1) rfl)) (fun _ h9 => h9) rfl dX0_has_6 ?_
    refine lv_icmp_ge (tgt := 16) hx hb dX0_has_9 (by decide) (fun hc502 => ?_) (fun hc502 => ?_)
    · replace h := (if_pos hc502).symm.trans h
      refine lv_iconst (v := 0) hx hb dX0_has_16 (by decide) ?_
      have hq : false = out := by cases h; exact ho
      subst hq
      exact x_zret (b := false) hx hb hr hlk rfl rfl rfl dX0_has_17
    · replace h := (if_neg hc502).symm.trans h
      refine lv_iconst (v := 1) hx hb dX0_has_12 (by decide) ?_
      refine lv_goto (tgt := 17) hx hb dX0_has_13 (by decide) ?_
      have hq : true = out := by cases h; exact ho
      subst hq
      exact x_zret (b := true) hx hb hr hlk rfl rfl rfl dX0_has_17
noncomputable def mX0_rise  (p0 : Int32) (p1 : Int32) : Option (Int32) :=
  if p0 = (-6) then (some ((-6))) else (if p1 = (-6) then (some ((-6))) else (some ((if 0 < (p1 - p0) then (p1 - p0) else 0))))
set_option maxHeartbeats 4000000 in
set_option maxRecDepth 100000 in
theorem kX0_rise (l : Launch) (G : xG) (H0 : Heap) {p0 : Int32} {p1 : Int32} {out : Int32} (h : mX0_rise p0 p1 = some out) : Met l yX0_rise wsX0_rise ({ frames := 1, cells := 0, slots := 0, locals := 13 }) (xPc G H0 [.int p0, .int p1]) (xQi H0 (out)) 0 0 xN := by
  refine x_met (by decide) rfl (Nat.le_of_ble_eq_true rfl) ?_
  intro p e s m below meth c ls hH hA hl
  obtain ⟨hx, hb, hr, hlk, hml, hown, hts, hE⟩ := hA
  subst hH
  have hown : s.vm.findClass RX0 = some m.cls := hown
  have hl : lv_has ls 2 [(0, .int p0), (1, .int p1)] := hl
  have hS : va_S xN s.heap s.heap [] := va_S.rf
  have ho : out = out := rfl
  unfold mX0_rise at h
  refine lv_iload_n hx hb dX0_rise_0 rfl (lv_at hl 0 rfl) ?_
  refine lv_bipush (v := (-6)) hx hb dX0_rise_1 (by decide) ?_
  refine lv_icmp_eq (tgt := 12) hx hb dX0_rise_3 (by decide) (fun hc501 => ?_) (fun hc501 => ?_)
  · replace h := (if_pos hc501).symm.trans h
    refine lv_bipush (v := (-6)) hx hb dX0_rise_12 (by decide) ?_
    refine lv_goto (tgt := 24) hx hb dX0_rise_14 (by decide) ?_
    have hq : (-6) = out := by cases h; exact ho
    subst hq
    exact x_iret hx hb hr hlk rfl rfl dX0_rise_24
  · replace h := (if_neg hc501).symm.trans h
    refine lv_iload_n hx hb dX0_rise_6 rfl (lv_at hl 1 rfl) ?_
    refine lv_bipush (v := (-6)) hx hb dX0_rise_7 (by decide) ?_
    refine lv_icmp_ne (tgt := 17) hx hb dX0_rise_9 (by decide) (fun hc502 => ?_) (fun hc502 => ?_)
    · replace h := (if_neg hc502).symm.trans h
      refine lv_iconst (v := 0) hx hb dX0_rise_17 (by decide) ?_
      refine lv_iload_n hx hb dX0_rise_18 rfl (lv_at hl 1 rfl) ?_
      refine lv_iload_n hx hb dX0_rise_19 rfl (lv_at hl 0 rfl) ?_
      refine lv_isub hx hb dX0_rise_20 ?_
      refine va_mmax hx hb (hml.trans hl.1.symm) hown (hts (.methodLink RX0 63 Lib.Math.max.name) (List.mem_of_getElem? (i := 1) rfl)) (hts (.static Lib.Math.max.name) (List.mem_of_getElem? (i := 2) rfl)) (hts (.initialized "java/lang/Math") (List.mem_of_getElem? (i := 3) rfl)) (hts (.code Lib.Math.max.name Lib.Math.max.code 2 (some .int)) (List.mem_of_getElem? (i := 4) rfl)) (Nat.le_of_ble_eq_true rfl) (Nat.le_of_ble_eq_true rfl) (Nat.le_of_ble_eq_true rfl) (Nat.le_of_ble_eq_true rfl) dX0_rise_21 ?_
      have hq : (if 0 < (p1 - p0) then (p1 - p0) else 0) = out := by cases h; exact ho
      subst hq
      exact x_iret hx hb hr hlk rfl rfl dX0_rise_24
    · replace h := (if_pos hc502).symm.trans h
      refine lv_bipush (v := (-6)) hx hb dX0_rise_12 (by decide) ?_
      refine lv_goto (tgt := 24) hx hb dX0_rise_14 (by decide) ?_
      have hq : (-6) = out := by cases h; exact ho
      subst hq
      exact x_iret hx hb hr hlk rfl rfl dX0_rise_24
noncomputable def mX0_lookOf (years : Nat → Int32) (months : Nat → Int32) (presses : Nat → Int32) (winds : Nat → Int32) (skies : Nat → Int32) (rains : Nat → Int32) (p0 : Int32) (p1 : Int32) : Option (Int32) :=
  if p1 = 0 then ((mX9_at 60 presses p0).bind (fun r502 => some r502)) else (if p1 = 1 then ((mX9_at 60 winds p0).bind (fun r503 => some r503)) else (if p1 = 2 then ((mX9_at 60 skies p0).bind (fun r504 => some r504)) else (if p1 = 3 then ((mX9_at 60 months p0).bind (fun r505 => some r505)) else (if p1 = 4 then ((mX9_at 60 rains ((p0 - 1))).bind (fun r506 => some r506)) else (if p1 = 5 then ((mX9_at 60 presses p0).bind (fun r507 => (mX9_at 60 presses ((p0 - 1))).bind (fun r508 => (mX0_rise r507 r508).bind (fun r509 => some r509)))) else (if p1 = 6 then ((mX9_at 60 presses ((p0 - 1))).bind (fun r510 => (mX9_at 60 presses p0).bind (fun r511 => (mX0_rise r510 r511).bind (fun r512 => some r512)))) else (if p1 = 7 then ((mX9_at 60 years p0).bind (fun r513 => some r513)) else (if p1 = 8 then ((mX9_at 60 rains p0).bind (fun r514 => some r514)) else (some ((-6)))))))))))
set_option maxHeartbeats 4000000 in
set_option maxRecDepth 100000 in
theorem kX0_lookOf (l : Launch) (G : xG) (H0 : Heap) {q_this q_years q_months q_presses q_winds q_skies q_rains q_wires q_kinds : Nat} {days : Int32} {years : Nat → Int32} {months : Nat → Int32} {presses : Nat → Int32} {winds : Nat → Int32} {skies : Nat → Int32} {rains : Nat → Int32} {p0 : Int32} {p1 : Int32} (hP : va_P (xD G) vwCl [(q_this, .inr (0, [.int days, .ref q_years, .ref q_months, .ref q_presses, .ref q_winds, .ref q_skies, .ref q_rains, .ref q_wires, .ref q_kinds])), (q_years, .inl (xy G 0, 60, .inl years)), (q_months, .inl (xy G 0, 60, .inl months)), (q_presses, .inl (xy G 0, 60, .inl presses)), (q_winds, .inl (xy G 0, 60, .inl winds)), (q_skies, .inl (xy G 0, 60, .inl skies)), (q_rains, .inl (xy G 0, 60, .inl rains))] H0) {out : Int32} (h : mX0_lookOf years months presses winds skies rains p0 p1 = some out) : Met l yX0_lookOf wsX0_lookOf ({ frames := 2, cells := 0, slots := 0, locals := 34 }) (xPc G H0 [.ref q_this, .int p0, .int p1]) (xQi H0 (out)) 0 0 xN := by
  refine x_met (by decide) rfl (Nat.le_of_ble_eq_true rfl) ?_
  intro p e s m below meth c ls hH hA hl
  obtain ⟨hx, hb, hr, hlk, hml, hown, hts, hE⟩ := hA
  subst hH
  have hown : s.vm.findClass RX0 = some m.cls := hown
  have hl : lv_has ls 3 [(0, .ref q_this), (1, .int p0), (2, .int p1)] := hl
  have hS : va_S xN s.heap s.heap [] := va_S.rf
  have ho : out = out := rfl
  unfold mX0_lookOf at h
  refine lv_iload_n hx hb dX0_lookOf_0 rfl (lv_at hl 2 rfl) ?_
  by_cases hk501_0 : p1 = 0
  · replace h := (if_pos hk501_0).symm.trans h
    refine lv_tableIn (tgt := 52) hx hb dX0_lookOf_1 (by rw [hk501_0]; decide) (by rw [hk501_0]; decide) (by rw [hk501_0]; rfl) (by decide) ?_
    refine lv_aload_n hx hb dX0_lookOf_52 rfl (lv_at hl 0 rfl) ?_
    refine va_get (D := xD G) (ci := 0) (v := .ref q_presses) (C := RX0) (T := TX0) (N := 9) hx hb hts (fun w9 h9 => (List.mem_cons_of_mem _ (List.mem_append_right _ h9))) hown hE.1 hP 0 rfl rfl 3 (by decide) (hts (.fieldLink RX0 18 "FallingGlass$Book" "presses" "[I") (List.mem_of_getElem? (i := 1) rfl)) (fun _ h9 => h9) rfl dX0_lookOf_53 ?_
    refine lv_iload_n hx hb dX0_lookOf_56 rfl (lv_at hl 1 rfl) ?_
    obtain ⟨r502, hr502, h⟩ := x_bind h
    have hPr502 : va_P (xD G) vwCl [(q_presses, .inl (xy G 0, 60, .inl presses))] s.heap := hP.sub [3] rfl
    refine x_calli (va_runSN (As := [.ref q_presses, .int p0]) (rest := []) ⟨hx, hb, hml, hown, hts⟩ (kX9_at l G s.heap hPr502 hr502) ⟨va_cnB 2 hts gX0_lookOf_X9_at_n55 rfl rfl rfl (hE.nm 4 rfl) (hts (.initialized RX9) (List.mem_of_getElem? (i := 8) rfl)) (by decide +kernel) ⟨Nat.le_of_ble_eq_true rfl, Nat.le_of_ble_eq_true rfl⟩, (hts (.static yX9_at) (List.mem_of_getElem? (i := 7) rfl)), trivial⟩ (x_preS hE hS) rfl rfl hl.1 rfl (lv_room (Nat.le_of_ble_eq_true rfl)) dX0_lookOf_57 ⟨Nat.le_of_ble_eq_true rfl, Nat.le_of_ble_eq_true rfl⟩) ?_
    have hq : r502 = out := by cases h; exact ho
    subst hq
    exact x_iret hx hb hr hlk rfl rfl dX0_lookOf_60
  · replace h := (if_neg hk501_0).symm.trans h
    by_cases hk501_1 : p1 = 1
    · replace h := (if_pos hk501_1).symm.trans h
      refine lv_tableIn (tgt := 61) hx hb dX0_lookOf_1 (by rw [hk501_1]; decide) (by rw [hk501_1]; decide) (by rw [hk501_1]; rfl) (by decide) ?_
      refine lv_aload_n hx hb dX0_lookOf_61 rfl (lv_at hl 0 rfl) ?_
      refine va_get (D := xD G) (ci := 0) (v := .ref q_winds) (C := RX0) (T := TX0) (N := 9) hx hb hts (fun w9 h9 => (List.mem_cons_of_mem _ (List.mem_append_right _ h9))) hown hE.1 hP 0 rfl rfl 4 (by decide) (hts (.fieldLink RX0 21 "FallingGlass$Book" "winds" "[I") (List.mem_of_getElem? (i := 2) rfl)) (fun _ h9 => h9) rfl dX0_lookOf_62 ?_
      refine lv_iload_n hx hb dX0_lookOf_65 rfl (lv_at hl 1 rfl) ?_
      obtain ⟨r503, hr503, h⟩ := x_bind h
      have hPr503 : va_P (xD G) vwCl [(q_winds, .inl (xy G 0, 60, .inl winds))] s.heap := hP.sub [4] rfl
      refine x_calli (va_runSN (As := [.ref q_winds, .int p0]) (rest := []) ⟨hx, hb, hml, hown, hts⟩ (kX9_at l G s.heap hPr503 hr503) ⟨va_cnB 2 hts gX0_lookOf_X9_at_n55 rfl rfl rfl (hE.nm 4 rfl) (hts (.initialized RX9) (List.mem_of_getElem? (i := 8) rfl)) (by decide +kernel) ⟨Nat.le_of_ble_eq_true rfl, Nat.le_of_ble_eq_true rfl⟩, (hts (.static yX9_at) (List.mem_of_getElem? (i := 7) rfl)), trivial⟩ (x_preS hE hS) rfl rfl hl.1 rfl (lv_room (Nat.le_of_ble_eq_true rfl)) dX0_lookOf_66 ⟨Nat.le_of_ble_eq_true rfl, Nat.le_of_ble_eq_true rfl⟩) ?_
      have hq : r503 = out := by cases h; exact ho
      subst hq
      exact x_iret hx hb hr hlk rfl rfl dX0_lookOf_69
    · replace h := (if_neg hk501_1).symm.trans h
      by_cases hk501_2 : p1 = 2
      · replace h := (if_pos hk501_2).symm.trans h
        refine lv_tableIn (tgt := 70) hx hb dX0_lookOf_1 (by rw [hk501_2]; decide) (by rw [hk501_2]; decide) (by rw [hk501_2]; rfl) (by decide) ?_
        refine lv_aload_n hx hb dX0_lookOf_70 rfl (lv_at hl 0 rfl) ?_
        refine va_get (D := xD G) (ci := 0) (v := .ref q_skies) (C := RX0) (T := TX0) (N := 9) hx hb hts (fun w9 h9 => (List.mem_cons_of_mem _ (List.mem_append_right _ h9))) hown hE.1 hP 0 rfl rfl 5 (by decide) (hts (.fieldLink RX0 24 "FallingGlass$Book" "skies" "[I") (List.mem_of_getElem? (i := 3) rfl)) (fun _ h9 => h9) rfl dX0_lookOf_71 ?_
        refine lv_iload_n hx hb dX0_lookOf_74 rfl (lv_at hl 1 rfl) ?_
        obtain ⟨r504, hr504, h⟩ := x_bind h
        have hPr504 : va_P (xD G) vwCl [(q_skies, .inl (xy G 0, 60, .inl skies))] s.heap := hP.sub [5] rfl
        refine x_calli (va_runSN (As := [.ref q_skies, .int p0]) (rest := []) ⟨hx, hb, hml, hown, hts⟩ (kX9_at l G s.heap hPr504 hr504) ⟨va_cnB 2 hts gX0_lookOf_X9_at_n55 rfl rfl rfl (hE.nm 4 rfl) (hts (.initialized RX9) (List.mem_of_getElem? (i := 8) rfl)) (by decide +kernel) ⟨Nat.le_of_ble_eq_true rfl, Nat.le_of_ble_eq_true rfl⟩, (hts (.static yX9_at) (List.mem_of_getElem? (i := 7) rfl)), trivial⟩ (x_preS hE hS) rfl rfl hl.1 rfl (lv_room (Nat.le_of_ble_eq_true rfl)) dX0_lookOf_75 ⟨Nat.le_of_ble_eq_true rfl, Nat.le_of_ble_eq_true rfl⟩) ?_
        have hq : r504 = out := by cases h; exact ho
        subst hq
        exact x_iret hx hb hr hlk rfl rfl dX0_lookOf_78
      · replace h := (if_neg hk501_2).symm.trans h
        by_cases hk501_3 : p1 = 3
        · replace h := (if_pos hk501_3).symm.trans h
          refine lv_tableIn (tgt := 79) hx hb dX0_lookOf_1 (by rw [hk501_3]; decide) (by rw [hk501_3]; decide) (by rw [hk501_3]; rfl) (by decide) ?_
          refine lv_aload_n hx hb dX0_lookOf_79 rfl (lv_at hl 0 rfl) ?_
          refine va_get (D := xD G) (ci := 0) (v := .ref q_months) (C := RX0) (T := TX0) (N := 9) hx hb hts (fun w9 h9 => (List.mem_cons_of_mem _ (List.mem_append_right _ h9))) hown hE.1 hP 0 rfl rfl 2 (by decide) (hts (.fieldLink RX0 15 "FallingGlass$Book" "months" "[I") (List.mem_of_getElem? (i := 4) rfl)) (fun _ h9 => h9) rfl dX0_lookOf_80 ?_
          refine lv_iload_n hx hb dX0_lookOf_83 rfl (lv_at hl 1 rfl) ?_
          obtain ⟨r505, hr505, h⟩ := x_bind h
          have hPr505 : va_P (xD G) vwCl [(q_months, .inl (xy G 0, 60, .inl months))] s.heap := hP.sub [2] rfl
          refine x_calli (va_runSN (As := [.ref q_months, .int p0]) (rest := []) ⟨hx, hb, hml, hown, hts⟩ (kX9_at l G s.heap hPr505 hr505) ⟨va_cnB 2 hts gX0_lookOf_X9_at_n55 rfl rfl rfl (hE.nm 4 rfl) (hts (.initialized RX9) (List.mem_of_getElem? (i := 8) rfl)) (by decide +kernel) ⟨Nat.le_of_ble_eq_true rfl, Nat.le_of_ble_eq_true rfl⟩, (hts (.static yX9_at) (List.mem_of_getElem? (i := 7) rfl)), trivial⟩ (x_preS hE hS) rfl rfl hl.1 rfl (lv_room (Nat.le_of_ble_eq_true rfl)) dX0_lookOf_84 ⟨Nat.le_of_ble_eq_true rfl, Nat.le_of_ble_eq_true rfl⟩) ?_
          have hq : r505 = out := by cases h; exact ho
          subst hq
          exact x_iret hx hb hr hlk rfl rfl dX0_lookOf_87
        · replace h := (if_neg hk501_3).symm.trans h
          by_cases hk501_4 : p1 = 4
          · replace h := (if_pos hk501_4).symm.trans h
            refine lv_tableIn (tgt := 88) hx hb dX0_lookOf_1 (by rw [hk501_4]; decide) (by rw [hk501_4]; decide) (by rw [hk501_4]; rfl) (by decide) ?_
            refine lv_aload_n hx hb dX0_lookOf_88 rfl (lv_at hl 0 rfl) ?_
            refine va_get (D := xD G) (ci := 0) (v := .ref q_rains) (C := RX0) (T := TX0) (N := 9) hx hb hts (fun w9 h9 => (List.mem_cons_of_mem _ (List.mem_append_right _ h9))) hown hE.1 hP 0 rfl rfl 6 (by decide) (hts (.fieldLink RX0 27 "FallingGlass$Book" "rains" "[I") (List.mem_of_getElem? (i := 5) rfl)) (fun _ h9 => h9) rfl dX0_lookOf_89 ?_
            refine lv_iload_n hx hb dX0_lookOf_92 rfl (lv_at hl 1 rfl) ?_
            refine lv_iconst (v := 1) hx hb dX0_lookOf_93 (by decide) ?_
            refine lv_isub hx hb dX0_lookOf_94 ?_
            obtain ⟨r506, hr506, h⟩ := x_bind h
            have hPr506 : va_P (xD G) vwCl [(q_rains, .inl (xy G 0, 60, .inl rains))] s.heap := hP.sub [6] rfl
            refine x_calli (va_runSN (As := [.ref q_rains, .int (p0 - 1)]) (rest := []) ⟨hx, hb, hml, hown, hts⟩ (kX9_at l G s.heap hPr506 hr506) ⟨va_cnB 2 hts gX0_lookOf_X9_at_n55 rfl rfl rfl (hE.nm 4 rfl) (hts (.initialized RX9) (List.mem_of_getElem? (i := 8) rfl)) (by decide +kernel) ⟨Nat.le_of_ble_eq_true rfl, Nat.le_of_ble_eq_true rfl⟩, (hts (.static yX9_at) (List.mem_of_getElem? (i := 7) rfl)), trivial⟩ (x_preS hE hS) rfl rfl hl.1 rfl (lv_room (Nat.le_of_ble_eq_true rfl)) dX0_lookOf_95 ⟨Nat.le_of_ble_eq_true rfl, Nat.le_of_ble_eq_true rfl⟩) ?_
            have hq : r506 = out := by cases h; exact ho
            subst hq
            exact x_iret hx hb hr hlk rfl rfl dX0_lookOf_98
          · replace h := (if_neg hk501_4).symm.trans h
            by_cases hk501_5 : p1 = 5
            · replace h := (if_pos hk501_5).symm.trans h
              refine lv_tableIn (tgt := 99) hx hb dX0_lookOf_1 (by rw [hk501_5]; decide) (by rw [hk501_5]; decide) (by rw [hk501_5]; rfl) (by decide) ?_
              refine lv_aload_n hx hb dX0_lookOf_99 rfl (lv_at hl 0 rfl) ?_
              refine va_get (D := xD G) (ci := 0) (v := .ref q_presses) (C := RX0) (T := TX0) (N := 9) hx hb hts (fun w9 h9 => (List.mem_cons_of_mem _ (List.mem_append_right _ h9))) hown hE.1 hP 0 rfl rfl 3 (by decide) (hts (.fieldLink RX0 18 "FallingGlass$Book" "presses" "[I") (List.mem_of_getElem? (i := 1) rfl)) (fun _ h9 => h9) rfl dX0_lookOf_100 ?_
              refine lv_iload_n hx hb dX0_lookOf_103 rfl (lv_at hl 1 rfl) ?_
              obtain ⟨r507, hr507, h⟩ := x_bind h
              have hPr507 : va_P (xD G) vwCl [(q_presses, .inl (xy G 0, 60, .inl presses))] s.heap := hP.sub [3] rfl
              refine x_calli (va_runSN (As := [.ref q_presses, .int p0]) (rest := []) ⟨hx, hb, hml, hown, hts⟩ (kX9_at l G s.heap hPr507 hr507) ⟨va_cnB 2 hts gX0_lookOf_X9_at_n55 rfl rfl rfl (hE.nm 4 rfl) (hts (.initialized RX9) (List.mem_of_getElem? (i := 8) rfl)) (by decide +kernel) ⟨Nat.le_of_ble_eq_true rfl, Nat.le_of_ble_eq_true rfl⟩, (hts (.static yX9_at) (List.mem_of_getElem? (i := 7) rfl)), trivial⟩ (x_preS hE hS) rfl rfl hl.1 rfl (lv_room (Nat.le_of_ble_eq_true rfl)) dX0_lookOf_104 ⟨Nat.le_of_ble_eq_true rfl, Nat.le_of_ble_eq_true rfl⟩) ?_
              refine lv_aload_n hx hb dX0_lookOf_107 rfl (lv_at hl 0 rfl) ?_
              refine va_get (D := xD G) (ci := 0) (v := .ref q_presses) (C := RX0) (T := TX0) (N := 9) hx hb hts (fun w9 h9 => (List.mem_cons_of_mem _ (List.mem_append_right _ h9))) hown hE.1 hP 0 rfl rfl 3 (by decide) (hts (.fieldLink RX0 18 "FallingGlass$Book" "presses" "[I") (List.mem_of_getElem? (i := 1) rfl)) (fun _ h9 => h9) rfl dX0_lookOf_108 ?_
              refine lv_iload_n hx hb dX0_lookOf_111 rfl (lv_at hl 1 rfl) ?_
              refine lv_iconst (v := 1) hx hb dX0_lookOf_112 (by decide) ?_
              refine lv_isub hx hb dX0_lookOf_113 ?_
              obtain ⟨r508, hr508, h⟩ := x_bind h
              have hPr508 : va_P (xD G) vwCl [(q_presses, .inl (xy G 0, 60, .inl presses))] s.heap := hP.sub [3] rfl
              refine x_calli (va_runSN (As := [.ref q_presses, .int (p0 - 1)]) (rest := [.int r507]) ⟨hx, hb, hml, hown, hts⟩ (kX9_at l G s.heap hPr508 hr508) ⟨va_cnB 2 hts gX0_lookOf_X9_at_n55 rfl rfl rfl (hE.nm 4 rfl) (hts (.initialized RX9) (List.mem_of_getElem? (i := 8) rfl)) (by decide +kernel) ⟨Nat.le_of_ble_eq_true rfl, Nat.le_of_ble_eq_true rfl⟩, (hts (.static yX9_at) (List.mem_of_getElem? (i := 7) rfl)), trivial⟩ (x_preS hE hS) rfl rfl hl.1 rfl (lv_room (Nat.le_of_ble_eq_true rfl)) dX0_lookOf_114 ⟨Nat.le_of_ble_eq_true rfl, Nat.le_of_ble_eq_true rfl⟩) ?_
              obtain ⟨r509, hr509, h⟩ := x_bind h
              refine x_calli (va_runS (As := [.int r507, .int r508]) (rest := []) ⟨hx, hb, hml, hown, hts⟩ (kX0_rise l G s.heap hr509) (va_cwS 2 hts gX0_lookOf_X0_rise rfl rfl rfl (by decide +kernel) ⟨Nat.le_of_ble_eq_true rfl, Nat.le_of_ble_eq_true rfl⟩) (x_preS hE hS) rfl rfl hl.1 rfl (lv_room (Nat.le_of_ble_eq_true rfl)) dX0_lookOf_117 ⟨Nat.le_of_ble_eq_true rfl, Nat.le_of_ble_eq_true rfl⟩) ?_
              have hq : r509 = out := by cases h; exact ho
              subst hq
              exact x_iret hx hb hr hlk rfl rfl dX0_lookOf_120
            · replace h := (if_neg hk501_5).symm.trans h
              by_cases hk501_6 : p1 = 6
              · replace h := (if_pos hk501_6).symm.trans h
                refine lv_tableIn (tgt := 121) hx hb dX0_lookOf_1 (by rw [hk501_6]; decide) (by rw [hk501_6]; decide) (by rw [hk501_6]; rfl) (by decide) ?_
                refine lv_aload_n hx hb dX0_lookOf_121 rfl (lv_at hl 0 rfl) ?_
                refine va_get (D := xD G) (ci := 0) (v := .ref q_presses) (C := RX0) (T := TX0) (N := 9) hx hb hts (fun w9 h9 => (List.mem_cons_of_mem _ (List.mem_append_right _ h9))) hown hE.1 hP 0 rfl rfl 3 (by decide) (hts (.fieldLink RX0 18 "FallingGlass$Book" "presses" "[I") (List.mem_of_getElem? (i := 1) rfl)) (fun _ h9 => h9) rfl dX0_lookOf_122 ?_
                refine lv_iload_n hx hb dX0_lookOf_125 rfl (lv_at hl 1 rfl) ?_
                refine lv_iconst (v := 1) hx hb dX0_lookOf_126 (by decide) ?_
                refine lv_isub hx hb dX0_lookOf_127 ?_
                obtain ⟨r510, hr510, h⟩ := x_bind h
                have hPr510 : va_P (xD G) vwCl [(q_presses, .inl (xy G 0, 60, .inl presses))] s.heap := hP.sub [3] rfl
                refine x_calli (va_runSN (As := [.ref q_presses, .int (p0 - 1)]) (rest := []) ⟨hx, hb, hml, hown, hts⟩ (kX9_at l G s.heap hPr510 hr510) ⟨va_cnB 2 hts gX0_lookOf_X9_at_n55 rfl rfl rfl (hE.nm 4 rfl) (hts (.initialized RX9) (List.mem_of_getElem? (i := 8) rfl)) (by decide +kernel) ⟨Nat.le_of_ble_eq_true rfl, Nat.le_of_ble_eq_true rfl⟩, (hts (.static yX9_at) (List.mem_of_getElem? (i := 7) rfl)), trivial⟩ (x_preS hE hS) rfl rfl hl.1 rfl (lv_room (Nat.le_of_ble_eq_true rfl)) dX0_lookOf_128 ⟨Nat.le_of_ble_eq_true rfl, Nat.le_of_ble_eq_true rfl⟩) ?_
                refine lv_aload_n hx hb dX0_lookOf_131 rfl (lv_at hl 0 rfl) ?_
                refine va_get (D := xD G) (ci := 0) (v := .ref q_presses) (C := RX0) (T := TX0) (N := 9) hx hb hts (fun w9 h9 => (List.mem_cons_of_mem _ (List.mem_append_right _ h9))) hown hE.1 hP 0 rfl rfl 3 (by decide) (hts (.fieldLink RX0 18 "FallingGlass$Book" "presses" "[I") (List.mem_of_getElem? (i := 1) rfl)) (fun _ h9 => h9) rfl dX0_lookOf_132 ?_
                refine lv_iload_n hx hb dX0_lookOf_135 rfl (lv_at hl 1 rfl) ?_
                obtain ⟨r511, hr511, h⟩ := x_bind h
                have hPr511 : va_P (xD G) vwCl [(q_presses, .inl (xy G 0, 60, .inl presses))] s.heap := hP.sub [3] rfl
                refine x_calli (va_runSN (As := [.ref q_presses, .int p0]) (rest := [.int r510]) ⟨hx, hb, hml, hown, hts⟩ (kX9_at l G s.heap hPr511 hr511) ⟨va_cnB 2 hts gX0_lookOf_X9_at_n55 rfl rfl rfl (hE.nm 4 rfl) (hts (.initialized RX9) (List.mem_of_getElem? (i := 8) rfl)) (by decide +kernel) ⟨Nat.le_of_ble_eq_true rfl, Nat.le_of_ble_eq_true rfl⟩, (hts (.static yX9_at) (List.mem_of_getElem? (i := 7) rfl)), trivial⟩ (x_preS hE hS) rfl rfl hl.1 rfl (lv_room (Nat.le_of_ble_eq_true rfl)) dX0_lookOf_136 ⟨Nat.le_of_ble_eq_true rfl, Nat.le_of_ble_eq_true rfl⟩) ?_
                obtain ⟨r512, hr512, h⟩ := x_bind h
                refine x_calli (va_runS (As := [.int r510, .int r511]) (rest := []) ⟨hx, hb, hml, hown, hts⟩ (kX0_rise l G s.heap hr512) (va_cwS 2 hts gX0_lookOf_X0_rise rfl rfl rfl (by decide +kernel) ⟨Nat.le_of_ble_eq_true rfl, Nat.le_of_ble_eq_true rfl⟩) (x_preS hE hS) rfl rfl hl.1 rfl (lv_room (Nat.le_of_ble_eq_true rfl)) dX0_lookOf_139 ⟨Nat.le_of_ble_eq_true rfl, Nat.le_of_ble_eq_true rfl⟩) ?_
                have hq : r512 = out := by cases h; exact ho
                subst hq
                exact x_iret hx hb hr hlk rfl rfl dX0_lookOf_142
              · replace h := (if_neg hk501_6).symm.trans h
                by_cases hk501_7 : p1 = 7
                · replace h := (if_pos hk501_7).symm.trans h
                  refine lv_tableIn (tgt := 143) hx hb dX0_lookOf_1 (by rw [hk501_7]; decide) (by rw [hk501_7]; decide) (by rw [hk501_7]; rfl) (by decide) ?_
                  refine lv_aload_n hx hb dX0_lookOf_143 rfl (lv_at hl 0 rfl) ?_
                  refine va_get (D := xD G) (ci := 0) (v := .ref q_years) (C := RX0) (T := TX0) (N := 9) hx hb hts (fun w9 h9 => (List.mem_cons_of_mem _ (List.mem_append_right _ h9))) hown hE.1 hP 0 rfl rfl 1 (by decide) (hts (.fieldLink RX0 9 "FallingGlass$Book" "years" "[I") (List.mem_of_getElem? (i := 6) rfl)) (fun _ h9 => h9) rfl dX0_lookOf_144 ?_
                  refine lv_iload_n hx hb dX0_lookOf_147 rfl (lv_at hl 1 rfl) ?_
                  obtain ⟨r513, hr513, h⟩ := x_bind h
                  have hPr513 : va_P (xD G) vwCl [(q_years, .inl (xy G 0, 60, .inl years))] s.heap := hP.sub [1] rfl
                  refine x_calli (va_runSN (As := [.ref q_years, .int p0]) (rest := []) ⟨hx, hb, hml, hown, hts⟩ (kX9_at l G s.heap hPr513 hr513) ⟨va_cnB 2 hts gX0_lookOf_X9_at_n55 rfl rfl rfl (hE.nm 4 rfl) (hts (.initialized RX9) (List.mem_of_getElem? (i := 8) rfl)) (by decide +kernel) ⟨Nat.le_of_ble_eq_true rfl, Nat.le_of_ble_eq_true rfl⟩, (hts (.static yX9_at) (List.mem_of_getElem? (i := 7) rfl)), trivial⟩ (x_preS hE hS) rfl rfl hl.1 rfl (lv_room (Nat.le_of_ble_eq_true rfl)) dX0_lookOf_148 ⟨Nat.le_of_ble_eq_true rfl, Nat.le_of_ble_eq_true rfl⟩) ?_
                  have hq : r513 = out := by cases h; exact ho
                  subst hq
                  exact x_iret hx hb hr hlk rfl rfl dX0_lookOf_151
                · replace h := (if_neg hk501_7).symm.trans h
                  by_cases hk501_8 : p1 = 8
                  · replace h := (if_pos hk501_8).symm.trans h
                    refine lv_tableIn (tgt := 152) hx hb dX0_lookOf_1 (by rw [hk501_8]; decide) (by rw [hk501_8]; decide) (by rw [hk501_8]; rfl) (by decide) ?_
                    refine lv_aload_n hx hb dX0_lookOf_152 rfl (lv_at hl 0 rfl) ?_
                    refine va_get (D := xD G) (ci := 0) (v := .ref q_rains) (C := RX0) (T := TX0) (N := 9) hx hb hts (fun w9 h9 => (List.mem_cons_of_mem _ (List.mem_append_right _ h9))) hown hE.1 hP 0 rfl rfl 6 (by decide) (hts (.fieldLink RX0 27 "FallingGlass$Book" "rains" "[I") (List.mem_of_getElem? (i := 5) rfl)) (fun _ h9 => h9) rfl dX0_lookOf_153 ?_
                    refine lv_iload_n hx hb dX0_lookOf_156 rfl (lv_at hl 1 rfl) ?_
                    obtain ⟨r514, hr514, h⟩ := x_bind h
                    have hPr514 : va_P (xD G) vwCl [(q_rains, .inl (xy G 0, 60, .inl rains))] s.heap := hP.sub [6] rfl
                    refine x_calli (va_runSN (As := [.ref q_rains, .int p0]) (rest := []) ⟨hx, hb, hml, hown, hts⟩ (kX9_at l G s.heap hPr514 hr514) ⟨va_cnB 2 hts gX0_lookOf_X9_at_n55 rfl rfl rfl (hE.nm 4 rfl) (hts (.initialized RX9) (List.mem_of_getElem? (i := 8) rfl)) (by decide +kernel) ⟨Nat.le_of_ble_eq_true rfl, Nat.le_of_ble_eq_true rfl⟩, (hts (.static yX9_at) (List.mem_of_getElem? (i := 7) rfl)), trivial⟩ (x_preS hE hS) rfl rfl hl.1 rfl (lv_room (Nat.le_of_ble_eq_true rfl)) dX0_lookOf_157 ⟨Nat.le_of_ble_eq_true rfl, Nat.le_of_ble_eq_true rfl⟩) ?_
                    have hq : r514 = out := by cases h; exact ho
                    subst hq
                    exact x_iret hx hb hr hlk rfl rfl dX0_lookOf_160
                  · replace h := (if_neg hk501_8).symm.trans h
                    refine lv_tableOut (tgt := 161) hx hb dX0_lookOf_1 (by have hk501_0T := lv_neT hk501_0 (a := 0) (by decide); have hk501_1T := lv_neT hk501_1 (a := 1) (by decide); have hk501_2T := lv_neT hk501_2 (a := 2) (by decide); have hk501_3T := lv_neT hk501_3 (a := 3) (by decide); have hk501_4T := lv_neT hk501_4 (a := 4) (by decide); have hk501_5T := lv_neT hk501_5 (a := 5) (by decide); have hk501_6T := lv_neT hk501_6 (a := 6) (by decide); have hk501_7T := lv_neT hk501_7 (a := 7) (by decide); have hk501_8T := lv_neT hk501_8 (a := 8) (by decide); omega) (by decide) ?_
                    refine lv_bipush (v := (-6)) hx hb dX0_lookOf_161 (by decide) ?_
                    have hq : (-6) = out := by cases h; exact ho
                    subst hq
                    exact x_iret hx hb hr hlk rfl rfl dX0_lookOf_163
noncomputable def mX0_kindOf  (p0 : Int32) (p1 : Int32) : Option (Int32) :=
  if p1 = (-6) then (some 15) else (if p0 = 0 then (some ((p1 / 20))) else (if p0 = 1 then (if p1 = 0 then (some 0) else (if 5 ≤ p1 then (some 2) else (some 1))) else (if p0 = 2 then (some ((p1 / 2))) else (if p0 = 3 then (some p1) else (if p0 = 4 then (some ((p1 / 3))) else (some p1))))))
set_option maxHeartbeats 4000000 in
set_option maxRecDepth 100000 in
theorem kX0_kindOf (l : Launch) (G : xG) (H0 : Heap) {p0 : Int32} {p1 : Int32} {out : Int32} (h : mX0_kindOf p0 p1 = some out) : Met l yX0_kindOf wsX0_kindOf ({ frames := 0, cells := 0, slots := 0, locals := 0 }) (xPc G H0 [.int p0, .int p1]) (xQi H0 (out)) 0 0 xN := by
  refine x_met (by decide) rfl (Nat.le_of_ble_eq_true rfl) ?_
  intro p e s m below meth c ls hH hA hl
  obtain ⟨hx, hb, hr, hlk, hml, hown, hts, hE⟩ := hA
  subst hH
  have hown : s.vm.findClass RX0 = some m.cls := hown
  have hl : lv_has ls 2 [(0, .int p0), (1, .int p1)] := hl
  have hS : va_S xN s.heap s.heap [] := va_S.rf
  have ho : out = out := rfl
  unfold mX0_kindOf at h
  refine lv_iload_n hx hb dX0_kindOf_0 rfl (lv_at hl 1 rfl) ?_
  refine lv_bipush (v := (-6)) hx hb dX0_kindOf_1 (by decide) ?_
  refine lv_icmp_ne (tgt := 9) hx hb dX0_kindOf_3 (by decide) (fun hc501 => ?_) (fun hc501 => ?_)
  · replace h := (if_neg hc501).symm.trans h
    refine lv_iload_n hx hb dX0_kindOf_9 rfl (lv_at hl 0 rfl) ?_
    by_cases hk502_0 : p0 = 0
    · replace h := (if_pos hk502_0).symm.trans h
      refine lv_tableIn (tgt := 44) hx hb dX0_kindOf_10 (by rw [hk502_0]; decide) (by rw [hk502_0]; decide) (by rw [hk502_0]; rfl) (by decide) ?_
      refine lv_iload_n hx hb dX0_kindOf_44 rfl (lv_at hl 1 rfl) ?_
      refine lv_bipush (v := 20) hx hb dX0_kindOf_45 (by decide) ?_
      refine lv_idiv hx hb dX0_kindOf_47 (by decide) ?_
      have hq : (p1 / 20) = out := by cases h; exact ho
      subst hq
      exact x_iret hx hb hr hlk rfl rfl dX0_kindOf_48
    · replace h := (if_neg hk502_0).symm.trans h
      by_cases hk502_1 : p0 = 1
      · replace h := (if_pos hk502_1).symm.trans h
        refine lv_tableIn (tgt := 49) hx hb dX0_kindOf_10 (by rw [hk502_1]; decide) (by rw [hk502_1]; decide) (by rw [hk502_1]; rfl) (by decide) ?_
        refine lv_iload_n hx hb dX0_kindOf_49 rfl (lv_at hl 1 rfl) ?_
        refine lv_if_ne (tgt := 57) hx hb dX0_kindOf_50 (by decide) (fun hc503 => ?_) (fun hc503 => ?_)
        · replace h := (if_neg hc503).symm.trans h
          refine lv_iload_n hx hb dX0_kindOf_57 rfl (lv_at hl 1 rfl) ?_
          refine lv_iconst (v := 5) hx hb dX0_kindOf_58 (by decide) ?_
          refine lv_icmp_ge (tgt := 66) hx hb dX0_kindOf_59 (by decide) (fun hc504 => ?_) (fun hc504 => ?_)
          · replace h := (if_pos hc504).symm.trans h
            refine lv_iconst (v := 2) hx hb dX0_kindOf_66 (by decide) ?_
            have hq : 2 = out := by cases h; exact ho
            subst hq
            exact x_iret hx hb hr hlk rfl rfl dX0_kindOf_67
          · replace h := (if_neg hc504).symm.trans h
            refine lv_iconst (v := 1) hx hb dX0_kindOf_62 (by decide) ?_
            refine lv_goto (tgt := 67) hx hb dX0_kindOf_63 (by decide) ?_
            have hq : 1 = out := by cases h; exact ho
            subst hq
            exact x_iret hx hb hr hlk rfl rfl dX0_kindOf_67
        · replace h := (if_pos hc503).symm.trans h
          refine lv_iconst (v := 0) hx hb dX0_kindOf_53 (by decide) ?_
          refine lv_goto (tgt := 67) hx hb dX0_kindOf_54 (by decide) ?_
          have hq : 0 = out := by cases h; exact ho
          subst hq
          exact x_iret hx hb hr hlk rfl rfl dX0_kindOf_67
      · replace h := (if_neg hk502_1).symm.trans h
        by_cases hk502_2 : p0 = 2
        · replace h := (if_pos hk502_2).symm.trans h
          refine lv_tableIn (tgt := 68) hx hb dX0_kindOf_10 (by rw [hk502_2]; decide) (by rw [hk502_2]; decide) (by rw [hk502_2]; rfl) (by decide) ?_
          refine lv_iload_n hx hb dX0_kindOf_68 rfl (lv_at hl 1 rfl) ?_
          refine lv_iconst (v := 2) hx hb dX0_kindOf_69 (by decide) ?_
          refine lv_idiv hx hb dX0_kindOf_70 (by decide) ?_
          have hq : (p1 / 2) = out := by cases h; exact ho
          subst hq
          exact x_iret hx hb hr hlk rfl rfl dX0_kindOf_71
        · replace h := (if_neg hk502_2).symm.trans h
          by_cases hk502_3 : p0 = 3
          · replace h := (if_pos hk502_3).symm.trans h
            refine lv_tableIn (tgt := 76) hx hb dX0_kindOf_10 (by rw [hk502_3]; decide) (by rw [hk502_3]; decide) (by rw [hk502_3]; rfl) (by decide) ?_
            refine lv_iload_n hx hb dX0_kindOf_76 rfl (lv_at hl 1 rfl) ?_
            have hq : p1 = out := by cases h; exact ho
            subst hq
            exact x_iret hx hb hr hlk rfl rfl dX0_kindOf_77
          · replace h := (if_neg hk502_3).symm.trans h
            by_cases hk502_4 : p0 = 4
            · replace h := (if_pos hk502_4).symm.trans h
              refine lv_tableIn (tgt := 72) hx hb dX0_kindOf_10 (by rw [hk502_4]; decide) (by rw [hk502_4]; decide) (by rw [hk502_4]; rfl) (by decide) ?_
              refine lv_iload_n hx hb dX0_kindOf_72 rfl (lv_at hl 1 rfl) ?_
              refine lv_iconst (v := 3) hx hb dX0_kindOf_73 (by decide) ?_
              refine lv_idiv hx hb dX0_kindOf_74 (by decide) ?_
              have hq : (p1 / 3) = out := by cases h; exact ho
              subst hq
              exact x_iret hx hb hr hlk rfl rfl dX0_kindOf_75
            · replace h := (if_neg hk502_4).symm.trans h
              refine lv_tableOut (tgt := 76) hx hb dX0_kindOf_10 (by have hk502_0T := lv_neT hk502_0 (a := 0) (by decide); have hk502_1T := lv_neT hk502_1 (a := 1) (by decide); have hk502_2T := lv_neT hk502_2 (a := 2) (by decide); have hk502_3T := lv_neT hk502_3 (a := 3) (by decide); have hk502_4T := lv_neT hk502_4 (a := 4) (by decide); omega) (by decide) ?_
              refine lv_iload_n hx hb dX0_kindOf_76 rfl (lv_at hl 1 rfl) ?_
              have hq : p1 = out := by cases h; exact ho
              subst hq
              exact x_iret hx hb hr hlk rfl rfl dX0_kindOf_77
  · replace h := (if_pos hc501).symm.trans h
    refine lv_bipush (v := 15) hx hb dX0_kindOf_6 (by decide) ?_
    have hq : 15 = out := by cases h; exact ho
    subst hq
    exact x_iret hx hb hr hlk rfl rfl dX0_kindOf_8
noncomputable def mX0_kindsOf_s4 (years : Nat → Int32) (months : Nat → Int32) (presses : Nat → Int32) (winds : Nat → Int32) (skies : Nat → Int32) (rains : Nat → Int32) (v1 : Int32) (v2 : Int32) (v3 : Int32) : Option (((Int32) ⊕ (Int32 × Int32))) :=
  if 6 ≤ v3 then (some (.inl v2)) else ((mX9_atT0 v3).bind (fun r102 => (mX0_lookOf years months presses winds skies rains v1 r102).bind (fun r103 => (mX0_kindOf v3 r103).bind (fun r104 => some (.inr ((v2 ||| (r104 <<< ((4 * v3) &&& 31))), (v3 + 1)))))))
noncomputable def mX0_kindsOf_b4 (years : Nat → Int32) (months : Nat → Int32) (presses : Nat → Int32) (winds : Nat → Int32) (skies : Nat → Int32) (rains : Nat → Int32) (v1 : Int32) (v2 : Int32) (v3 : Int32) : Option (Int32) :=
  x_loop (fun q : Int32 × Int32 => mX0_kindsOf_s4 years months presses winds skies rains v1 (q.1) (q.2)) (v2, v3)
noncomputable def mX0_kindsOf (years : Nat → Int32) (months : Nat → Int32) (presses : Nat → Int32) (winds : Nat → Int32) (skies : Nat → Int32) (rains : Nat → Int32) (p0 : Int32) : Option (Int32) :=
  mX0_kindsOf_b4 years months presses winds skies rains p0 0 0
set_option maxHeartbeats 4000000 in
set_option maxRecDepth 100000 in
theorem kX0_kindsOf (l : Launch) (G : xG) (H0 : Heap) {q_this q_years q_months q_presses q_winds q_skies q_rains q_wires q_kinds : Nat} {days : Int32} {years : Nat → Int32} {months : Nat → Int32} {presses : Nat → Int32} {winds : Nat → Int32} {skies : Nat → Int32} {rains : Nat → Int32} {p0 : Int32} (hP : va_P (xD G) vwCl [(q_this, .inr (0, [.int days, .ref q_years, .ref q_months, .ref q_presses, .ref q_winds, .ref q_skies, .ref q_rains, .ref q_wires, .ref q_kinds])), (q_years, .inl (xy G 0, 60, .inl years)), (q_months, .inl (xy G 0, 60, .inl months)), (q_presses, .inl (xy G 0, 60, .inl presses)), (q_winds, .inl (xy G 0, 60, .inl winds)), (q_skies, .inl (xy G 0, 60, .inl skies)), (q_rains, .inl (xy G 0, 60, .inl rains))] H0) {out : Int32} (h : mX0_kindsOf years months presses winds skies rains p0 = some out) : Met l yX0_kindsOf wsX0_kindsOf ({ frames := 3, cells := 0, slots := 0, locals := 56 }) (xPc G H0 [.ref q_this, .int p0]) (xQi H0 (out)) 0 0 xN := by
  refine x_met (by decide) rfl (Nat.le_of_ble_eq_true rfl) ?_
  intro p e s m below meth c ls hH hA hl
  obtain ⟨hx, hb, hr, hlk, hml, hown, hts, hE⟩ := hA
  subst hH
  have hown : s.vm.findClass RX0 = some m.cls := hown
  have hl : lv_has ls 4 [(0, .ref q_this), (1, .int p0)] := hl
  have hS : va_S xN s.heap s.heap [] := va_S.rf
  have ho : out = out := rfl
  have J4 : ∀ (v1 : Int32) (v2 : Int32) (v3 : Int32) (ls : Array Slot), lv_has ls 4 [(0, .ref q_this), (1, .int v1), (2, .int v2), (3, .int v3)] → ∀ o : Int32, mX0_kindsOf_b4 years months presses winds skies rains v1 v2 v3 = some o → (fun z => z = out) o → xW p l e ({ frames := 3, cells := 0, slots := 0, locals := 56 }) s m [.ref q_this, .int p0] below meth c (xQi s.heap (out)) (F0 m 4 ls []) := by
    intro v1 v2 v3 ls hl o h ho
    unfold mX0_kindsOf_b4 at h
    refine x_loop_walk (K := (fun z => z = out)) (motive := fun q : Int32 × Int32 => ∀ ls : Array Slot, lv_has ls 4 [(0, .ref q_this), (1, .int (v1)), (2, .int (q.1)), (3, .int (q.2))] → xW p l e ({ frames := 3, cells := 0, slots := 0, locals := 56 }) s m [.ref q_this, .int p0] below meth c (xQi s.heap (out)) (F0 m 4 ls [])) ?_ h ho ls hl
    intro K1 e1 i1 q o h ho
    obtain ⟨v2, v3⟩ := q
    intro ls hl
    have hl : lv_has ls 4 [(0, .ref q_this), (1, .int v1), (2, .int v2), (3, .int v3)] := hl
    replace h : mX0_kindsOf_s4 years months presses winds skies rains v1 v2 v3 = some o := h
    unfold mX0_kindsOf_s4 at h
    refine lv_iload_n hx hb dX0_kindsOf_4 rfl (lv_at hl 3 rfl) ?_
    refine lv_bipush (v := 6) hx hb dX0_kindsOf_5 (by decide) ?_
    refine lv_icmp_ge (tgt := 39) hx hb dX0_kindsOf_7 (by decide) (fun hc101 => ?_) (fun hc101 => ?_)
    · replace h := (if_pos hc101).symm.trans h
      refine lv_iload_n hx hb dX0_kindsOf_39 rfl (lv_at hl 2 rfl) ?_
      have hq : v2 = out := by cases h; exact (e1 _ ho)
      subst hq
      exact x_iret hx hb hr hlk rfl rfl dX0_kindsOf_40
    · replace h := (if_neg hc101).symm.trans h
      refine lv_iload_n hx hb dX0_kindsOf_10 rfl (lv_at hl 2 rfl) ?_
      refine lv_iload_n hx hb dX0_kindsOf_11 rfl (lv_at hl 3 rfl) ?_
      refine lv_aload_n hx hb dX0_kindsOf_12 rfl (lv_at hl 0 rfl) ?_
      refine lv_iload_n hx hb dX0_kindsOf_13 rfl (lv_at hl 1 rfl) ?_
      refine va_getsN hx hb hE.t0.1 hS hown (va_Nw.use rfl (hE.nf 0 rfl)) (fun _ h9 => h9) dX0_kindsOf_14 ?_
      refine lv_iload_n hx hb dX0_kindsOf_17 rfl (lv_at hl 3 rfl) ?_
      obtain ⟨r102, hr102, h⟩ := x_bind h
      refine x_calli (va_runSN (As := [.ref (xa G 0), .int v3]) (rest := [.int v1, .ref q_this, .int v3, .int v2]) ⟨hx, hb, hml, hown, hts⟩ (kX9_atT0 l G s.heap hr102) ⟨va_cnB 2 hts gX0_kindsOf_X9_at_n55 rfl rfl rfl (hE.nm 4 rfl) (hts (.initialized RX9) (List.mem_of_getElem? (i := 2) rfl)) (by decide +kernel) ⟨Nat.le_of_ble_eq_true rfl, Nat.le_of_ble_eq_true rfl⟩, (hts (.static yX9_at) (List.mem_of_getElem? (i := 1) rfl)), trivial⟩ (x_preS hE hS) rfl rfl hl.1 rfl (lv_room (Nat.le_of_ble_eq_true rfl)) dX0_kindsOf_18 ⟨Nat.le_of_ble_eq_true rfl, Nat.le_of_ble_eq_true rfl⟩) ?_
      obtain ⟨r103, hr103, h⟩ := x_bind h
      have hPr103 : va_P (xD G) vwCl [(q_this, .inr (0, [.int days, .ref q_years, .ref q_months, .ref q_presses, .ref q_winds, .ref q_skies, .ref q_rains, .ref q_wires, .ref q_kinds])), (q_years, .inl (xy G 0, 60, .inl years)), (q_months, .inl (xy G 0, 60, .inl months)), (q_presses, .inl (xy G 0, 60, .inl presses)), (q_winds, .inl (xy G 0, 60, .inl winds)), (q_skies, .inl (xy G 0, 60, .inl skies)), (q_rains, .inl (xy G 0, 60, .inl rains))] s.heap := hP.sub [0, 1, 2, 3, 4, 5, 6] rfl
      refine x_calli (va_runV (As := [.int v1, .int r102]) (rest := [.int v3, .int v2]) ⟨hx, hb, hml, hown, hts⟩ (kX0_lookOf l G s.heap hPr103 hr103) (cwV 2 hts gX0_kindsOf_X0_lookOf rfl rfl rfl (by decide +kernel) ⟨Nat.le_of_ble_eq_true rfl, Nat.le_of_ble_eq_true rfl⟩) (x_preV hE hS hP (ci := 0) (q0 := 0) rfl rfl) rfl rfl hl.1 rfl (lv_room (Nat.le_of_ble_eq_true rfl)) dX0_kindsOf_21 ⟨Nat.le_of_ble_eq_true rfl, Nat.le_of_ble_eq_true rfl⟩) ?_
      obtain ⟨r104, hr104, h⟩ := x_bind h
      refine x_calli (va_runS (As := [.int v3, .int r103]) (rest := [.int v2]) ⟨hx, hb, hml, hown, hts⟩ (kX0_kindOf l G s.heap hr104) (va_cwS 2 hts gX0_kindsOf_X0_kindOf rfl rfl rfl (by decide +kernel) ⟨Nat.le_of_ble_eq_true rfl, Nat.le_of_ble_eq_true rfl⟩) (x_preS hE hS) rfl rfl hl.1 rfl (lv_room (Nat.le_of_ble_eq_true rfl)) dX0_kindsOf_24 ⟨Nat.le_of_ble_eq_true rfl, Nat.le_of_ble_eq_true rfl⟩) ?_
      refine lv_iconst (v := 4) hx hb dX0_kindsOf_27 (by decide) ?_
      refine lv_iload_n hx hb dX0_kindsOf_28 rfl (lv_at hl 3 rfl) ?_
      refine lv_imul hx hb dX0_kindsOf_29 ?_
      refine lv_ishl hx hb dX0_kindsOf_30 ?_
      refine lv_ior hx hb dX0_kindsOf_31 ?_
      refine lv_istore_n (lv' := [(2, .int (v2 ||| (r104 <<< ((4 * v3) &&& 31)))), (0, .ref q_this), (1, .int v1), (3, .int v3)]) hx hb dX0_kindsOf_32 rfl hl (by decide) rfl (fun ls hl => ?_)
      refine lv_iinc (v := (v3 + 1)) (lv' := [(3, .int (v3 + 1)), (2, .int (v2 ||| (r104 <<< ((4 * v3) &&& 31)))), (0, .ref q_this), (1, .int v1)]) hx hb dX0_kindsOf_33 hl (k := 3) rfl rfl (by decide) rfl (fun ls hl => ?_)
      refine lv_goto (tgt := 4) hx hb dX0_kindsOf_36 (by decide) ?_
      exact i1 ((v2 ||| (r104 <<< ((4 * v3) &&& 31))), (v3 + 1)) (by cases h; exact ho) ls (lv_sub hl [2, 3, 1, 0] rfl)
  unfold mX0_kindsOf at h
  refine lv_iconst (v := 0) hx hb dX0_kindsOf_0 (by decide) ?_
  refine lv_istore_n (lv' := [(2, .int 0), (0, .ref q_this), (1, .int p0)]) hx hb dX0_kindsOf_1 rfl hl (by decide) rfl (fun ls hl => ?_)
  refine lv_iconst (v := 0) hx hb dX0_kindsOf_2 (by decide) ?_
  refine lv_istore_n (lv' := [(3, .int 0), (2, .int 0), (0, .ref q_this), (1, .int p0)]) hx hb dX0_kindsOf_3 rfl hl (by decide) rfl (fun ls hl => ?_)
  exact J4 p0 0 0 ls (lv_sub hl [2, 3, 1, 0] rfl) _ h ho
noncomputable def mX0_write_b64 (days : Int32) (years : Nat → Int32) (months : Nat → Int32) (presses : Nat → Int32) (winds : Nat → Int32) (skies : Nat → Int32) (rains : Nat → Int32) (wires : Nat → Int32) (kinds : Nat → Int32) (v4 : Int32) (v5 : Int32) (v6 : Int32) (v7 : Int32) (t1 : Int32) (t2 : Int32) : Option (Int32 × Int32 × (Nat → Int32) × (Nat → Int32) × (Nat → Int32) × (Nat → Int32) × (Nat → Int32) × (Nat → Int32) × (Nat → Int32) × (Nat → Int32)) :=
  (mX9_put 60 presses t1 t2).bind (fun r101 => (mX9_put 60 winds v7 v4).bind (fun r102 => (mX9_put 60 skies v7 v5).bind (fun r103 => (mX9_put 60 rains v7 v6).bind (fun r104 => (mX9_put 60 wires v7 ((-6))).bind (fun r105 => (mX0_kindsOf years months r101 r102 r103 r104 v7).bind (fun r106 => (mX9_put 60 kinds v7 r106).bind (fun r107 => some (v7, days, years, months, r101, r102, r103, r104, r105, r107))))))))
noncomputable def mX0_write (days : Int32) (years : Nat → Int32) (months : Nat → Int32) (presses : Nat → Int32) (winds : Nat → Int32) (skies : Nat → Int32) (rains : Nat → Int32) (wires : Nat → Int32) (kinds : Nat → Int32) (p0 : Int32) (p1 : Int32) (p2 : Int32) (p3 : Int32) (p4 : Int32) (p5 : Int32) : Option (Int32 × Int32 × (Nat → Int32) × (Nat → Int32) × (Nat → Int32) × (Nat → Int32) × (Nat → Int32) × (Nat → Int32) × (Nat → Int32) × (Nat → Int32)) :=
  if days < 60 then ((mX9_put 60 years days p0).bind (fun r502 => (mX9_put 60 months days p1).bind (fun r503 => if 0 ≤ p2 then (mX0_write_b64 ((days + 1)) r502 r503 presses winds skies rains wires kinds p3 p4 p5 days days p2) else (mX0_write_b64 ((days + 1)) r502 r503 presses winds skies rains wires kinds p3 p4 p5 days days ((-6)))))) else (some ((-4), days, years, months, presses, winds, skies, rains, wires, kinds))
set_option maxHeartbeats 4000000 in
set_option maxRecDepth 100000 in
theorem kX0_write (l : Launch) (G : xG) (H0 : Heap) {q_this q_years q_months q_presses q_winds q_skies q_rains q_wires q_kinds : Nat} {days : Int32} {years : Nat → Int32} {months : Nat → Int32} {presses : Nat → Int32} {winds : Nat → Int32} {skies : Nat → Int32} {rains : Nat → Int32} {wires : Nat → Int32} {kinds : Nat → Int32} {p0 : Int32} {p1 : Int32} {p2 : Int32} {p3 : Int32} {p4 : Int32} {p5 : Int32} (w0 : va_W) (hw0 : w0 = [(q_this, .inr (0, [.int days, .ref q_years, .ref q_months, .ref q_presses, .ref q_winds, .ref q_skies, .ref q_rains, .ref q_wires, .ref q_kinds])), (q_years, .inl (xy G 0, 60, .inl years)), (q_months, .inl (xy G 0, 60, .inl months)), (q_presses, .inl (xy G 0, 60, .inl presses)), (q_winds, .inl (xy G 0, 60, .inl winds)), (q_skies, .inl (xy G 0, 60, .inl skies)), (q_rains, .inl (xy G 0, 60, .inl rains)), (q_wires, .inl (xy G 0, 60, .inl wires)), (q_kinds, .inl (xy G 0, 60, .inl kinds))]) (hP : va_P (xD G) vwCl w0 H0) (hD : va_D (fun _ => True) w0) {out : Int32 × Int32 × (Nat → Int32) × (Nat → Int32) × (Nat → Int32) × (Nat → Int32) × (Nat → Int32) × (Nat → Int32) × (Nat → Int32) × (Nat → Int32)} (h : mX0_write days years months presses winds skies rains wires kinds p0 p1 p2 p3 p4 p5 = some out) : Met l yX0_write wsX0_write ({ frames := 4, cells := 0, slots := 0, locals := 79 }) (xPcw G (va_A w0 H0.size) H0 [.ref q_this, .int p0, .int p1, .int p2, .int p3, .int p4, .int p5]) (xRi G (va_A w0 H0.size) [(q_this, .inr (0, [.int out.2.1, .ref q_years, .ref q_months, .ref q_presses, .ref q_winds, .ref q_skies, .ref q_rains, .ref q_wires, .ref q_kinds])), (q_years, .inl (xy G 0, 60, .inl out.2.2.1)), (q_months, .inl (xy G 0, 60, .inl out.2.2.2.1)), (q_presses, .inl (xy G 0, 60, .inl out.2.2.2.2.1)), (q_winds, .inl (xy G 0, 60, .inl out.2.2.2.2.2.1)), (q_skies, .inl (xy G 0, 60, .inl out.2.2.2.2.2.2.1)), (q_rains, .inl (xy G 0, 60, .inl out.2.2.2.2.2.2.2.1)), (q_wires, .inl (xy G 0, 60, .inl out.2.2.2.2.2.2.2.2.1)), (q_kinds, .inl (xy G 0, 60, .inl out.2.2.2.2.2.2.2.2.2))] (out.1)) 0 0 (va_A w0 H0.size) := by
  refine x_metw (y := yX0_write) (ws := wsX0_write) (rm := { frames := 4, cells := 0, slots := 0, locals := 79 }) (G := G) (H0 := H0) (w0 := w0) (av := [.ref q_this, .int p0, .int p1, .int p2, .int p3, .int p4, .int p5]) (mc := 0) (ms := 0) (Qc := (fun A => (xRi G A [(q_this, .inr (0, [.int out.2.1, .ref q_years, .ref q_months, .ref q_presses, .ref q_winds, .ref q_skies, .ref q_rains, .ref q_wires, .ref q_kinds])), (q_years, .inl (xy G 0, 60, .inl out.2.2.1)), (q_months, .inl (xy G 0, 60, .inl out.2.2.2.1)), (q_presses, .inl (xy G 0, 60, .inl out.2.2.2.2.1)), (q_winds, .inl (xy G 0, 60, .inl out.2.2.2.2.2.1)), (q_skies, .inl (xy G 0, 60, .inl out.2.2.2.2.2.2.1)), (q_rains, .inl (xy G 0, 60, .inl out.2.2.2.2.2.2.2.1)), (q_wires, .inl (xy G 0, 60, .inl out.2.2.2.2.2.2.2.2.1)), (q_kinds, .inl (xy G 0, 60, .inl out.2.2.2.2.2.2.2.2.2))] (out.1)))) (by decide) rfl (Nat.le_of_ble_eq_true rfl) hP hD ?_
  clear hP hD
  intro p e s m below meth c ls A H locs hA hAt hnm hl hP hD hS
  subst hw0
  obtain ⟨hx, hb, hr, hlk, hml, hown, hts, hE⟩ := hAt
  have hown : s.vm.findClass RX0 = some m.cls := hown
  have hl : lv_has ls 8 [(0, .ref q_this), (1, .int p0), (2, .int p1), (3, .int p2), (4, .int p3), (5, .int p4), (6, .int p5)] := hl
  have ho : out = out := rfl
  have J64 : ∀ (days : Int32) (years : Nat → Int32) (months : Nat → Int32) (presses : Nat → Int32) (winds : Nat → Int32) (skies : Nat → Int32) (rains : Nat → Int32) (wires : Nat → Int32) (kinds : Nat → Int32) (v4 : Int32) (v5 : Int32) (v6 : Int32) (v7 : Int32) (t1 : Int32) (t2 : Int32) (ls : Array Slot), lv_has ls 8 [(0, .ref q_this), (4, .int v4), (5, .int v5), (6, .int v6), (7, .int v7)] → ∀ o : Int32 × Int32 × (Nat → Int32) × (Nat → Int32) × (Nat → Int32) × (Nat → Int32) × (Nat → Int32) × (Nat → Int32) × (Nat → Int32) × (Nat → Int32), mX0_write_b64 days years months presses winds skies rains wires kinds v4 v5 v6 v7 t1 t2 = some o → (fun z => z = out) o → ∀ (H : Heap) (locs : List Loc), va_P (xD G) vwCl [(q_this, .inr (0, [.int days, .ref q_years, .ref q_months, .ref q_presses, .ref q_winds, .ref q_skies, .ref q_rains, .ref q_wires, .ref q_kinds])), (q_years, .inl (xy G 0, 60, .inl years)), (q_months, .inl (xy G 0, 60, .inl months)), (q_presses, .inl (xy G 0, 60, .inl presses)), (q_winds, .inl (xy G 0, 60, .inl winds)), (q_skies, .inl (xy G 0, 60, .inl skies)), (q_rains, .inl (xy G 0, 60, .inl rains)), (q_wires, .inl (xy G 0, 60, .inl wires)), (q_kinds, .inl (xy G 0, 60, .inl kinds))] H → va_D A [(q_this, .inr (0, [.int days, .ref q_years, .ref q_months, .ref q_presses, .ref q_winds, .ref q_skies, .ref q_rains, .ref q_wires, .ref q_kinds])), (q_years, .inl (xy G 0, 60, .inl years)), (q_months, .inl (xy G 0, 60, .inl months)), (q_presses, .inl (xy G 0, 60, .inl presses)), (q_winds, .inl (xy G 0, 60, .inl winds)), (q_skies, .inl (xy G 0, 60, .inl skies)), (q_rains, .inl (xy G 0, 60, .inl rains)), (q_wires, .inl (xy G 0, 60, .inl wires)), (q_kinds, .inl (xy G 0, 60, .inl kinds))] → va_S A s.heap H locs → xV p l e ({ frames := 4, cells := 0, slots := 0, locals := 79 }) s m [.ref q_this, .int p0, .int p1, .int p2, .int p3, .int p4, .int p5] below meth c H locs 0 0 0 0 A (xRi G A [(q_this, .inr (0, [.int out.2.1, .ref q_years, .ref q_months, .ref q_presses, .ref q_winds, .ref q_skies, .ref q_rains, .ref q_wires, .ref q_kinds])), (q_years, .inl (xy G 0, 60, .inl out.2.2.1)), (q_months, .inl (xy G 0, 60, .inl out.2.2.2.1)), (q_presses, .inl (xy G 0, 60, .inl out.2.2.2.2.1)), (q_winds, .inl (xy G 0, 60, .inl out.2.2.2.2.2.1)), (q_skies, .inl (xy G 0, 60, .inl out.2.2.2.2.2.2.1)), (q_rains, .inl (xy G 0, 60, .inl out.2.2.2.2.2.2.2.1)), (q_wires, .inl (xy G 0, 60, .inl out.2.2.2.2.2.2.2.2.1)), (q_kinds, .inl (xy G 0, 60, .inl out.2.2.2.2.2.2.2.2.2))] (out.1)) (F0 m 64 ls [.int t2, .int t1, .ref q_presses]) := by
    intro days years months presses winds skies rains wires kinds v4 v5 v6 v7 t1 t2 ls hl o h ho H locs hP hD hS
    unfold mX0_write_b64 at h
    obtain ⟨r101, hr101, h⟩ := x_bind h
    have hPr101 : va_P (xD G) vwCl [(q_presses, .inl (xy G 0, 60, .inl presses))] H := hP.sub [3] rfl
    have hDr101 : va_D A [(q_presses, .inl (xy G 0, 60, .inl presses))] := hD.sub [3] (by decide) rfl
    have hFr101 := va_free (wc := [(q_presses, .inl (xy G 0, 60, .inl presses))]) hD hS hA [3] rfl
    refine x_callwv (wc := [(q_presses, .inl (xy G 0, 60, .inl presses))]) (w1 := [(q_presses, .inl (xy G 0, 60, .inl r101))]) (ws' := [(q_this, .inr (0, [.int days, .ref q_years, .ref q_months, .ref q_presses, .ref q_winds, .ref q_skies, .ref q_rains, .ref q_wires, .ref q_kinds])), (q_years, .inl (xy G 0, 60, .inl years)), (q_months, .inl (xy G 0, 60, .inl months)), (q_presses, .inl (xy G 0, 60, .inl r101)), (q_winds, .inl (xy G 0, 60, .inl winds)), (q_skies, .inl (xy G 0, 60, .inl skies)), (q_rains, .inl (xy G 0, 60, .inl rains)), (q_wires, .inl (xy G 0, 60, .inl wires)), (q_kinds, .inl (xy G 0, 60, .inl kinds))]) (va_runSN (As := [.ref q_presses, .int t1, .int t2]) (rest := []) ⟨hx, hb, hml, hown, hts⟩ (kX9_put l G H [(q_presses, .inl (xy G 0, 60, .inl presses))] rfl hPr101 (hDr101.weaken (fun _ _ _ _ => trivial)) hr101) ⟨va_cnB 3 hts gX0_write_X9_put_n44 rfl rfl rfl (hE.nm 3 rfl) (hts (.initialized RX9) (List.mem_of_getElem? (i := 11) rfl)) (by decide +kernel) ⟨Nat.le_of_ble_eq_true rfl, Nat.le_of_ble_eq_true rfl⟩, (hts (.static yX9_put) (List.mem_of_getElem? (i := 10) rfl)), trivial⟩ (x_preSw hE hS hFr101) rfl rfl hl.1 rfl (lv_room (Nat.le_of_ble_eq_true rfl)) dX0_write_64 ⟨Nat.le_of_ble_eq_true rfl, Nat.le_of_ble_eq_true rfl⟩) hP hD hS hFr101 [3] [none, none, none, some 0, none, none, none, none, none] (n := 9) (by decide) rfl rfl rfl (fun H locs hP hD hS => ?_)
    refine lv_aload_n hx hb dX0_write_67 rfl (lv_at hl 0 rfl) ?_
    refine va_get (D := xD G) (ci := 0) (v := .ref q_winds) (C := RX0) (T := TX0) (N := 9) hx hb hts (fun w9 h9 => (List.mem_cons_of_mem _ (List.mem_append_right _ h9))) hown hE.1 hP 0 rfl rfl 4 (by decide) (hts (.fieldLink RX0 21 "FallingGlass$Book" "winds" "[I") (List.mem_of_getElem? (i := 5) rfl)) (fun _ h9 => h9) rfl dX0_write_68 ?_
    refine lv_iload hx hb dX0_write_71 (lv_at hl 4 rfl) ?_
    refine lv_iload hx hb dX0_write_73 (lv_at hl 1 rfl) ?_
    obtain ⟨r102, hr102, h⟩ := x_bind h
    have hPr102 : va_P (xD G) vwCl [(q_winds, .inl (xy G 0, 60, .inl winds))] H := hP.sub [4] rfl
    have hDr102 : va_D A [(q_winds, .inl (xy G 0, 60, .inl winds))] := hD.sub [4] (by decide) rfl
    have hFr102 := va_free (wc := [(q_winds, .inl (xy G 0, 60, .inl winds))]) hD hS hA [4] rfl
    refine x_callwv (wc := [(q_winds, .inl (xy G 0, 60, .inl winds))]) (w1 := [(q_winds, .inl (xy G 0, 60, .inl r102))]) (ws' := [(q_this, .inr (0, [.int days, .ref q_years, .ref q_months, .ref q_presses, .ref q_winds, .ref q_skies, .ref q_rains, .ref q_wires, .ref q_kinds])), (q_years, .inl (xy G 0, 60, .inl years)), (q_months, .inl (xy G 0, 60, .inl months)), (q_presses, .inl (xy G 0, 60, .inl r101)), (q_winds, .inl (xy G 0, 60, .inl r102)), (q_skies, .inl (xy G 0, 60, .inl skies)), (q_rains, .inl (xy G 0, 60, .inl rains)), (q_wires, .inl (xy G 0, 60, .inl wires)), (q_kinds, .inl (xy G 0, 60, .inl kinds))]) (va_runSN (As := [.ref q_winds, .int v7, .int v4]) (rest := []) ⟨hx, hb, hml, hown, hts⟩ (kX9_put l G H [(q_winds, .inl (xy G 0, 60, .inl winds))] rfl hPr102 (hDr102.weaken (fun _ _ _ _ => trivial)) hr102) ⟨va_cnB 3 hts gX0_write_X9_put_n44 rfl rfl rfl (hE.nm 3 rfl) (hts (.initialized RX9) (List.mem_of_getElem? (i := 11) rfl)) (by decide +kernel) ⟨Nat.le_of_ble_eq_true rfl, Nat.le_of_ble_eq_true rfl⟩, (hts (.static yX9_put) (List.mem_of_getElem? (i := 10) rfl)), trivial⟩ (x_preSw hE hS hFr102) rfl rfl hl.1 rfl (lv_room (Nat.le_of_ble_eq_true rfl)) dX0_write_75 ⟨Nat.le_of_ble_eq_true rfl, Nat.le_of_ble_eq_true rfl⟩) hP hD hS hFr102 [4] [none, none, none, none, some 0, none, none, none, none] (n := 9) (by decide) rfl rfl rfl (fun H locs hP hD hS => ?_)
    refine lv_aload_n hx hb dX0_write_78 rfl (lv_at hl 0 rfl) ?_
    refine va_get (D := xD G) (ci := 0) (v := .ref q_skies) (C := RX0) (T := TX0) (N := 9) hx hb hts (fun w9 h9 => (List.mem_cons_of_mem _ (List.mem_append_right _ h9))) hown hE.1 hP 0 rfl rfl 5 (by decide) (hts (.fieldLink RX0 24 "FallingGlass$Book" "skies" "[I") (List.mem_of_getElem? (i := 6) rfl)) (fun _ h9 => h9) rfl dX0_write_79 ?_
    refine lv_iload hx hb dX0_write_82 (lv_at hl 4 rfl) ?_
    refine lv_iload hx hb dX0_write_84 (lv_at hl 2 rfl) ?_
    obtain ⟨r103, hr103, h⟩ := x_bind h
    have hPr103 : va_P (xD G) vwCl [(q_skies, .inl (xy G 0, 60, .inl skies))] H := hP.sub [5] rfl
    have hDr103 : va_D A [(q_skies, .inl (xy G 0, 60, .inl skies))] := hD.sub [5] (by decide) rfl
    have hFr103 := va_free (wc := [(q_skies, .inl (xy G 0, 60, .inl skies))]) hD hS hA [5] rfl
    refine x_callwv (wc := [(q_skies, .inl (xy G 0, 60, .inl skies))]) (w1 := [(q_skies, .inl (xy G 0, 60, .inl r103))]) (ws' := [(q_this, .inr (0, [.int days, .ref q_years, .ref q_months, .ref q_presses, .ref q_winds, .ref q_skies, .ref q_rains, .ref q_wires, .ref q_kinds])), (q_years, .inl (xy G 0, 60, .inl years)), (q_months, .inl (xy G 0, 60, .inl months)), (q_presses, .inl (xy G 0, 60, .inl r101)), (q_winds, .inl (xy G 0, 60, .inl r102)), (q_skies, .inl (xy G 0, 60, .inl r103)), (q_rains, .inl (xy G 0, 60, .inl rains)), (q_wires, .inl (xy G 0, 60, .inl wires)), (q_kinds, .inl (xy G 0, 60, .inl kinds))]) (va_runSN (As := [.ref q_skies, .int v7, .int v5]) (rest := []) ⟨hx, hb, hml, hown, hts⟩ (kX9_put l G H [(q_skies, .inl (xy G 0, 60, .inl skies))] rfl hPr103 (hDr103.weaken (fun _ _ _ _ => trivial)) hr103) ⟨va_cnB 3 hts gX0_write_X9_put_n44 rfl rfl rfl (hE.nm 3 rfl) (hts (.initialized RX9) (List.mem_of_getElem? (i := 11) rfl)) (by decide +kernel) ⟨Nat.le_of_ble_eq_true rfl, Nat.le_of_ble_eq_true rfl⟩, (hts (.static yX9_put) (List.mem_of_getElem? (i := 10) rfl)), trivial⟩ (x_preSw hE hS hFr103) rfl rfl hl.1 rfl (lv_room (Nat.le_of_ble_eq_true rfl)) dX0_write_86 ⟨Nat.le_of_ble_eq_true rfl, Nat.le_of_ble_eq_true rfl⟩) hP hD hS hFr103 [5] [none, none, none, none, none, some 0, none, none, none] (n := 9) (by decide) rfl rfl rfl (fun H locs hP hD hS => ?_)
    refine lv_aload_n hx hb dX0_write_89 rfl (lv_at hl 0 rfl) ?_
    refine va_get (D := xD G) (ci := 0) (v := .ref q_rains) (C := RX0) (T := TX0) (N := 9) hx hb hts (fun w9 h9 => (List.mem_cons_of_mem _ (List.mem_append_right _ h9))) hown hE.1 hP 0 rfl rfl 6 (by decide) (hts (.fieldLink RX0 27 "FallingGlass$Book" "rains" "[I") (List.mem_of_getElem? (i := 7) rfl)) (fun _ h9 => h9) rfl dX0_write_90 ?_
    refine lv_iload hx hb dX0_write_93 (lv_at hl 4 rfl) ?_
    refine lv_iload hx hb dX0_write_95 (lv_at hl 3 rfl) ?_
    obtain ⟨r104, hr104, h⟩ := x_bind h
    have hPr104 : va_P (xD G) vwCl [(q_rains, .inl (xy G 0, 60, .inl rains))] H := hP.sub [6] rfl
    have hDr104 : va_D A [(q_rains, .inl (xy G 0, 60, .inl rains))] := hD.sub [6] (by decide) rfl
    have hFr104 := va_free (wc := [(q_rains, .inl (xy G 0, 60, .inl rains))]) hD hS hA [6] rfl
    refine x_callwv (wc := [(q_rains, .inl (xy G 0, 60, .inl rains))]) (w1 := [(q_rains, .inl (xy G 0, 60, .inl r104))]) (ws' := [(q_this, .inr (0, [.int days, .ref q_years, .ref q_months, .ref q_presses, .ref q_winds, .ref q_skies, .ref q_rains, .ref q_wires, .ref q_kinds])), (q_years, .inl (xy G 0, 60, .inl years)), (q_months, .inl (xy G 0, 60, .inl months)), (q_presses, .inl (xy G 0, 60, .inl r101)), (q_winds, .inl (xy G 0, 60, .inl r102)), (q_skies, .inl (xy G 0, 60, .inl r103)), (q_rains, .inl (xy G 0, 60, .inl r104)), (q_wires, .inl (xy G 0, 60, .inl wires)), (q_kinds, .inl (xy G 0, 60, .inl kinds))]) (va_runSN (As := [.ref q_rains, .int v7, .int v6]) (rest := []) ⟨hx, hb, hml, hown, hts⟩ (kX9_put l G H [(q_rains, .inl (xy G 0, 60, .inl rains))] rfl hPr104 (hDr104.weaken (fun _ _ _ _ => trivial)) hr104) ⟨va_cnB 3 hts gX0_write_X9_put_n44 rfl rfl rfl (hE.nm 3 rfl) (hts (.initialized RX9) (List.mem_of_getElem? (i := 11) rfl)) (by decide +kernel) ⟨Nat.le_of_ble_eq_true rfl, Nat.le_of_ble_eq_true rfl⟩, (hts (.static yX9_put) (List.mem_of_getElem? (i := 10) rfl)), trivial⟩ (x_preSw hE hS hFr104) rfl rfl hl.1 rfl (lv_room (Nat.le_of_ble_eq_true rfl)) dX0_write_97 ⟨Nat.le_of_ble_eq_true rfl, Nat.le_of_ble_eq_true rfl⟩) hP hD hS hFr104 [6] [none, none, none, none, none, none, some 0, none, none] (n := 9) (by decide) rfl rfl rfl (fun H locs hP hD hS => ?_)
    refine lv_aload_n hx hb dX0_write_100 rfl (lv_at hl 0 rfl) ?_
    refine va_get (D := xD G) (ci := 0) (v := .ref q_wires) (C := RX0) (T := TX0) (N := 9) hx hb hts (fun w9 h9 => (List.mem_cons_of_mem _ (List.mem_append_right _ h9))) hown hE.1 hP 0 rfl rfl 7 (by decide) (hts (.fieldLink RX0 30 "FallingGlass$Book" "wires" "[I") (List.mem_of_getElem? (i := 8) rfl)) (fun _ h9 => h9) rfl dX0_write_101 ?_
    refine lv_iload hx hb dX0_write_104 (lv_at hl 4 rfl) ?_
    refine lv_bipush (v := (-6)) hx hb dX0_write_106 (by decide) ?_
    obtain ⟨r105, hr105, h⟩ := x_bind h
    have hPr105 : va_P (xD G) vwCl [(q_wires, .inl (xy G 0, 60, .inl wires))] H := hP.sub [7] rfl
    have hDr105 : va_D A [(q_wires, .inl (xy G 0, 60, .inl wires))] := hD.sub [7] (by decide) rfl
    have hFr105 := va_free (wc := [(q_wires, .inl (xy G 0, 60, .inl wires))]) hD hS hA [7] rfl
    refine x_callwv (wc := [(q_wires, .inl (xy G 0, 60, .inl wires))]) (w1 := [(q_wires, .inl (xy G 0, 60, .inl r105))]) (ws' := [(q_this, .inr (0, [.int days, .ref q_years, .ref q_months, .ref q_presses, .ref q_winds, .ref q_skies, .ref q_rains, .ref q_wires, .ref q_kinds])), (q_years, .inl (xy G 0, 60, .inl years)), (q_months, .inl (xy G 0, 60, .inl months)), (q_presses, .inl (xy G 0, 60, .inl r101)), (q_winds, .inl (xy G 0, 60, .inl r102)), (q_skies, .inl (xy G 0, 60, .inl r103)), (q_rains, .inl (xy G 0, 60, .inl r104)), (q_wires, .inl (xy G 0, 60, .inl r105)), (q_kinds, .inl (xy G 0, 60, .inl kinds))]) (va_runSN (As := [.ref q_wires, .int v7, .int (-6)]) (rest := []) ⟨hx, hb, hml, hown, hts⟩ (kX9_put l G H [(q_wires, .inl (xy G 0, 60, .inl wires))] rfl hPr105 (hDr105.weaken (fun _ _ _ _ => trivial)) hr105) ⟨va_cnB 3 hts gX0_write_X9_put_n44 rfl rfl rfl (hE.nm 3 rfl) (hts (.initialized RX9) (List.mem_of_getElem? (i := 11) rfl)) (by decide +kernel) ⟨Nat.le_of_ble_eq_true rfl, Nat.le_of_ble_eq_true rfl⟩, (hts (.static yX9_put) (List.mem_of_getElem? (i := 10) rfl)), trivial⟩ (x_preSw hE hS hFr105) rfl rfl hl.1 rfl (lv_room (Nat.le_of_ble_eq_true rfl)) dX0_write_108 ⟨Nat.le_of_ble_eq_true rfl, Nat.le_of_ble_eq_true rfl⟩) hP hD hS hFr105 [7] [none, none, none, none, none, none, none, some 0, none] (n := 9) (by decide) rfl rfl rfl (fun H locs hP hD hS => ?_)
    refine lv_aload_n hx hb dX0_write_111 rfl (lv_at hl 0 rfl) ?_
    refine va_get (D := xD G) (ci := 0) (v := .ref q_kinds) (C := RX0) (T := TX0) (N := 9) hx hb hts (fun w9 h9 => (List.mem_cons_of_mem _ (List.mem_append_right _ h9))) hown hE.1 hP 0 rfl rfl 8 (by decide) (hts (.fieldLink RX0 33 "FallingGlass$Book" "kinds" "[I") (List.mem_of_getElem? (i := 9) rfl)) (fun _ h9 => h9) rfl dX0_write_112 ?_
    refine lv_iload hx hb dX0_write_115 (lv_at hl 4 rfl) ?_
    refine lv_aload_n hx hb dX0_write_117 rfl (lv_at hl 0 rfl) ?_
    refine lv_iload hx hb dX0_write_118 (lv_at hl 4 rfl) ?_
    obtain ⟨r106, hr106, h⟩ := x_bind h
    have hPr106 : va_P (xD G) vwCl [(q_this, .inr (0, [.int days, .ref q_years, .ref q_months, .ref q_presses, .ref q_winds, .ref q_skies, .ref q_rains, .ref q_wires, .ref q_kinds])), (q_years, .inl (xy G 0, 60, .inl years)), (q_months, .inl (xy G 0, 60, .inl months)), (q_presses, .inl (xy G 0, 60, .inl r101)), (q_winds, .inl (xy G 0, 60, .inl r102)), (q_skies, .inl (xy G 0, 60, .inl r103)), (q_rains, .inl (xy G 0, 60, .inl r104))] H := hP.sub [0, 1, 2, 3, 4, 5, 6] rfl
    refine x_calli (va_runV (As := [.int v7]) (rest := [.int v7, .ref q_kinds]) ⟨hx, hb, hml, hown, hts⟩ (kX0_kindsOf l G H hPr106 hr106) (cwV 1 hts gX0_write_X0_kindsOf rfl rfl rfl (by decide +kernel) ⟨Nat.le_of_ble_eq_true rfl, Nat.le_of_ble_eq_true rfl⟩) (x_preV hE hS hP (ci := 0) (q0 := 0) rfl rfl) rfl rfl hl.1 rfl (lv_room (Nat.le_of_ble_eq_true rfl)) dX0_write_120 ⟨Nat.le_of_ble_eq_true rfl, Nat.le_of_ble_eq_true rfl⟩) ?_
    obtain ⟨r107, hr107, h⟩ := x_bind h
    have hPr107 : va_P (xD G) vwCl [(q_kinds, .inl (xy G 0, 60, .inl kinds))] H := hP.sub [8] rfl
    have hDr107 : va_D A [(q_kinds, .inl (xy G 0, 60, .inl kinds))] := hD.sub [8] (by decide) rfl
    have hFr107 := va_free (wc := [(q_kinds, .inl (xy G 0, 60, .inl kinds))]) hD hS hA [8] rfl
    refine x_callwv (wc := [(q_kinds, .inl (xy G 0, 60, .inl kinds))]) (w1 := [(q_kinds, .inl (xy G 0, 60, .inl r107))]) (ws' := [(q_this, .inr (0, [.int days, .ref q_years, .ref q_months, .ref q_presses, .ref q_winds, .ref q_skies, .ref q_rains, .ref q_wires, .ref q_kinds])), (q_years, .inl (xy G 0, 60, .inl years)), (q_months, .inl (xy G 0, 60, .inl months)), (q_presses, .inl (xy G 0, 60, .inl r101)), (q_winds, .inl (xy G 0, 60, .inl r102)), (q_skies, .inl (xy G 0, 60, .inl r103)), (q_rains, .inl (xy G 0, 60, .inl r104)), (q_wires, .inl (xy G 0, 60, .inl r105)), (q_kinds, .inl (xy G 0, 60, .inl r107))]) (va_runSN (As := [.ref q_kinds, .int v7, .int r106]) (rest := []) ⟨hx, hb, hml, hown, hts⟩ (kX9_put l G H [(q_kinds, .inl (xy G 0, 60, .inl kinds))] rfl hPr107 (hDr107.weaken (fun _ _ _ _ => trivial)) hr107) ⟨va_cnB 3 hts gX0_write_X9_put_n44 rfl rfl rfl (hE.nm 3 rfl) (hts (.initialized RX9) (List.mem_of_getElem? (i := 11) rfl)) (by decide +kernel) ⟨Nat.le_of_ble_eq_true rfl, Nat.le_of_ble_eq_true rfl⟩, (hts (.static yX9_put) (List.mem_of_getElem? (i := 10) rfl)), trivial⟩ (x_preSw hE hS hFr107) rfl rfl hl.1 rfl (lv_room (Nat.le_of_ble_eq_true rfl)) dX0_write_123 ⟨Nat.le_of_ble_eq_true rfl, Nat.le_of_ble_eq_true rfl⟩) hP hD hS hFr107 [8] [none, none, none, none, none, none, none, none, some 0] (n := 9) (by decide) rfl rfl rfl (fun H locs hP hD hS => ?_)
    refine lv_iload hx hb dX0_write_126 (lv_at hl 4 rfl) ?_
    have hq : (v7, days, years, months, r101, r102, r103, r104, r105, r107) = out := by cases h; exact ho
    subst hq
    have hP : va_P (xD G) vwCl [(q_this, .inr (0, [.int days, .ref q_years, .ref q_months, .ref q_presses, .ref q_winds, .ref q_skies, .ref q_rains, .ref q_wires, .ref q_kinds])), (q_years, .inl (xy G 0, 60, .inl years)), (q_months, .inl (xy G 0, 60, .inl months)), (q_presses, .inl (xy G 0, 60, .inl r101)), (q_winds, .inl (xy G 0, 60, .inl r102)), (q_skies, .inl (xy G 0, 60, .inl r103)), (q_rains, .inl (xy G 0, 60, .inl r104)), (q_wires, .inl (xy G 0, 60, .inl r105)), (q_kinds, .inl (xy G 0, 60, .inl r107))] H := hP
    have hD : va_D A [(q_this, .inr (0, [.int days, .ref q_years, .ref q_months, .ref q_presses, .ref q_winds, .ref q_skies, .ref q_rains, .ref q_wires, .ref q_kinds])), (q_years, .inl (xy G 0, 60, .inl years)), (q_months, .inl (xy G 0, 60, .inl months)), (q_presses, .inl (xy G 0, 60, .inl r101)), (q_winds, .inl (xy G 0, 60, .inl r102)), (q_skies, .inl (xy G 0, 60, .inl r103)), (q_rains, .inl (xy G 0, 60, .inl r104)), (q_wires, .inl (xy G 0, 60, .inl r105)), (q_kinds, .inl (xy G 0, 60, .inl r107))] := hD
    exact x_iretw hx hb hr hlk hP hD hS rfl dX0_write_128
  unfold mX0_write at h
  refine lv_aload_n hx hb dX0_write_0 rfl (lv_at hl 0 rfl) ?_
  refine va_get (D := xD G) (ci := 0) (v := .int days) (C := RX0) (T := TX0) (N := 9) hx hb hts (fun w9 h9 => (List.mem_cons_of_mem _ (List.mem_append_right _ h9))) hown hE.1 hP 0 rfl rfl 0 (by decide) (hts (.fieldLink RX0 36 "FallingGlass$Book" "days" "I") (List.mem_of_getElem? (i := 1) rfl)) (fun _ h9 => h9) rfl dX0_write_1 ?_
  refine lv_bipush (v := 60) hx hb dX0_write_4 (by decide) ?_
  refine lv_icmp_lt (tgt := 12) hx hb dX0_write_6 (by decide) (fun hc501 => ?_) (fun hc501 => ?_)
  · replace h := (if_pos hc501).symm.trans h
    refine lv_aload_n hx hb dX0_write_12 rfl (lv_at hl 0 rfl) ?_
    refine va_get (D := xD G) (ci := 0) (v := .int days) (C := RX0) (T := TX0) (N := 9) hx hb hts (fun w9 h9 => (List.mem_cons_of_mem _ (List.mem_append_right _ h9))) hown hE.1 hP 0 rfl rfl 0 (by decide) (hts (.fieldLink RX0 36 "FallingGlass$Book" "days" "I") (List.mem_of_getElem? (i := 1) rfl)) (fun _ h9 => h9) rfl dX0_write_13 ?_
    refine lv_istore (lv' := [(7, .int days), (0, .ref q_this), (1, .int p0), (2, .int p1), (3, .int p2), (4, .int p3), (5, .int p4), (6, .int p5)]) hx hb dX0_write_16 hl (by decide) rfl (fun ls hl => ?_)
    refine lv_aload_n hx hb dX0_write_18 rfl (lv_at hl 1 rfl) ?_
    refine lv_dup hx hb dX0_write_19 rfl ?_
    refine va_get (D := xD G) (ci := 0) (v := .int days) (C := RX0) (T := TX0) (N := 9) hx hb hts (fun w9 h9 => (List.mem_cons_of_mem _ (List.mem_append_right _ h9))) hown hE.1 hP 0 rfl rfl 0 (by decide) (hts (.fieldLink RX0 36 "FallingGlass$Book" "days" "I") (List.mem_of_getElem? (i := 1) rfl)) (fun _ h9 => h9) rfl dX0_write_20 ?_
    refine lv_iconst (v := 1) hx hb dX0_write_23 (by decide) ?_
    refine lv_iadd hx hb dX0_write_24 ?_
    refine va_put (D := xD G) (ci := 0) (v := .int (days + 1)) (ty := .int) (C := RX0) (T := TX0) (N := 9) hx hb hts (fun w9 h9 => (List.mem_cons_of_mem _ (List.mem_append_right _ h9))) tyX0 tyX0_ok nmX0 hown hE.1 hP hD hS 0 rfl rfl 0 (by decide) (hts (.fieldLink RX0 36 "FallingGlass$Book" "days" "I") (List.mem_of_getElem? (i := 1) rfl)) (fun _ h9 => h9) rfl (by decide +kernel) rfl rfl (Nat.le_of_ble_eq_true rfl) dX0_write_25 (fun H locs hP hD hS => ?_)
    have hP : va_P (xD G) vwCl [(q_this, .inr (0, [.int (days + 1), .ref q_years, .ref q_months, .ref q_presses, .ref q_winds, .ref q_skies, .ref q_rains, .ref q_wires, .ref q_kinds])), (q_years, .inl (xy G 0, 60, .inl years)), (q_months, .inl (xy G 0, 60, .inl months)), (q_presses, .inl (xy G 0, 60, .inl presses)), (q_winds, .inl (xy G 0, 60, .inl winds)), (q_skies, .inl (xy G 0, 60, .inl skies)), (q_rains, .inl (xy G 0, 60, .inl rains)), (q_wires, .inl (xy G 0, 60, .inl wires)), (q_kinds, .inl (xy G 0, 60, .inl kinds))] H := hP
    have hD : va_D A [(q_this, .inr (0, [.int (days + 1), .ref q_years, .ref q_months, .ref q_presses, .ref q_winds, .ref q_skies, .ref q_rains, .ref q_wires, .ref q_kinds])), (q_years, .inl (xy G 0, 60, .inl years)), (q_months, .inl (xy G 0, 60, .inl months)), (q_presses, .inl (xy G 0, 60, .inl presses)), (q_winds, .inl (xy G 0, 60, .inl winds)), (q_skies, .inl (xy G 0, 60, .inl skies)), (q_rains, .inl (xy G 0, 60, .inl rains)), (q_wires, .inl (xy G 0, 60, .inl wires)), (q_kinds, .inl (xy G 0, 60, .inl kinds))] := hD
    refine lv_aload_n hx hb dX0_write_28 rfl (lv_at hl 1 rfl) ?_
    refine va_get (D := xD G) (ci := 0) (v := .ref q_years) (C := RX0) (T := TX0) (N := 9) hx hb hts (fun w9 h9 => (List.mem_cons_of_mem _ (List.mem_append_right _ h9))) hown hE.1 hP 0 rfl rfl 1 (by decide) (hts (.fieldLink RX0 9 "FallingGlass$Book" "years" "[I") (List.mem_of_getElem? (i := 2) rfl)) (fun _ h9 => h9) rfl dX0_write_29 ?_
    refine lv_iload hx hb dX0_write_32 (lv_at hl 0 rfl) ?_
    refine lv_iload_n hx hb dX0_write_34 rfl (lv_at hl 2 rfl) ?_
    obtain ⟨r502, hr502, h⟩ := x_bind h
    have hPr502 : va_P (xD G) vwCl [(q_years, .inl (xy G 0, 60, .inl years))] H := hP.sub [1] rfl
    have hDr502 : va_D A [(q_years, .inl (xy G 0, 60, .inl years))] := hD.sub [1] (by decide) rfl
    have hFr502 := va_free (wc := [(q_years, .inl (xy G 0, 60, .inl years))]) hD hS hA [1] rfl
    refine x_callwv (wc := [(q_years, .inl (xy G 0, 60, .inl years))]) (w1 := [(q_years, .inl (xy G 0, 60, .inl r502))]) (ws' := [(q_this, .inr (0, [.int (days + 1), .ref q_years, .ref q_months, .ref q_presses, .ref q_winds, .ref q_skies, .ref q_rains, .ref q_wires, .ref q_kinds])), (q_years, .inl (xy G 0, 60, .inl r502)), (q_months, .inl (xy G 0, 60, .inl months)), (q_presses, .inl (xy G 0, 60, .inl presses)), (q_winds, .inl (xy G 0, 60, .inl winds)), (q_skies, .inl (xy G 0, 60, .inl skies)), (q_rains, .inl (xy G 0, 60, .inl rains)), (q_wires, .inl (xy G 0, 60, .inl wires)), (q_kinds, .inl (xy G 0, 60, .inl kinds))]) (va_runSN (As := [.ref q_years, .int days, .int p0]) (rest := []) ⟨hx, hb, hml, hown, hts⟩ (kX9_put l G H [(q_years, .inl (xy G 0, 60, .inl years))] rfl hPr502 (hDr502.weaken (fun _ _ _ _ => trivial)) hr502) ⟨va_cnB 3 hts gX0_write_X9_put_n44 rfl rfl rfl (hE.nm 3 rfl) (hts (.initialized RX9) (List.mem_of_getElem? (i := 11) rfl)) (by decide +kernel) ⟨Nat.le_of_ble_eq_true rfl, Nat.le_of_ble_eq_true rfl⟩, (hts (.static yX9_put) (List.mem_of_getElem? (i := 10) rfl)), trivial⟩ (x_preSw hE hS hFr502) rfl rfl hl.1 rfl (lv_room (Nat.le_of_ble_eq_true rfl)) dX0_write_35 ⟨Nat.le_of_ble_eq_true rfl, Nat.le_of_ble_eq_true rfl⟩) hP hD hS hFr502 [1] [none, some 0, none, none, none, none, none, none, none] (n := 9) (by decide) rfl rfl rfl (fun H locs hP hD hS => ?_)
    refine lv_aload_n hx hb dX0_write_38 rfl (lv_at hl 1 rfl) ?_
    refine va_get (D := xD G) (ci := 0) (v := .ref q_months) (C := RX0) (T := TX0) (N := 9) hx hb hts (fun w9 h9 => (List.mem_cons_of_mem _ (List.mem_append_right _ h9))) hown hE.1 hP 0 rfl rfl 2 (by decide) (hts (.fieldLink RX0 15 "FallingGlass$Book" "months" "[I") (List.mem_of_getElem? (i := 3) rfl)) (fun _ h9 => h9) rfl dX0_write_39 ?_
    refine lv_iload hx hb dX0_write_42 (lv_at hl 0 rfl) ?_
    refine lv_iload_n hx hb dX0_write_44 rfl (lv_at hl 3 rfl) ?_
    obtain ⟨r503, hr503, h⟩ := x_bind h
    have hPr503 : va_P (xD G) vwCl [(q_months, .inl (xy G 0, 60, .inl months))] H := hP.sub [2] rfl
    have hDr503 : va_D A [(q_months, .inl (xy G 0, 60, .inl months))] := hD.sub [2] (by decide) rfl
    have hFr503 := va_free (wc := [(q_months, .inl (xy G 0, 60, .inl months))]) hD hS hA [2] rfl
    refine x_callwv (wc := [(q_months, .inl (xy G 0, 60, .inl months))]) (w1 := [(q_months, .inl (xy G 0, 60, .inl r503))]) (ws' := [(q_this, .inr (0, [.int (days + 1), .ref q_years, .ref q_months, .ref q_presses, .ref q_winds, .ref q_skies, .ref q_rains, .ref q_wires, .ref q_kinds])), (q_years, .inl (xy G 0, 60, .inl r502)), (q_months, .inl (xy G 0, 60, .inl r503)), (q_presses, .inl (xy G 0, 60, .inl presses)), (q_winds, .inl (xy G 0, 60, .inl winds)), (q_skies, .inl (xy G 0, 60, .inl skies)), (q_rains, .inl (xy G 0, 60, .inl rains)), (q_wires, .inl (xy G 0, 60, .inl wires)), (q_kinds, .inl (xy G 0, 60, .inl kinds))]) (va_runSN (As := [.ref q_months, .int days, .int p1]) (rest := []) ⟨hx, hb, hml, hown, hts⟩ (kX9_put l G H [(q_months, .inl (xy G 0, 60, .inl months))] rfl hPr503 (hDr503.weaken (fun _ _ _ _ => trivial)) hr503) ⟨va_cnB 3 hts gX0_write_X9_put_n44 rfl rfl rfl (hE.nm 3 rfl) (hts (.initialized RX9) (List.mem_of_getElem? (i := 11) rfl)) (by decide +kernel) ⟨Nat.le_of_ble_eq_true rfl, Nat.le_of_ble_eq_true rfl⟩, (hts (.static yX9_put) (List.mem_of_getElem? (i := 10) rfl)), trivial⟩ (x_preSw hE hS hFr503) rfl rfl hl.1 rfl (lv_room (Nat.le_of_ble_eq_true rfl)) dX0_write_45 ⟨Nat.le_of_ble_eq_true rfl, Nat.le_of_ble_eq_true rfl⟩) hP hD hS hFr503 [2] [none, none, some 0, none, none, none, none, none, none] (n := 9) (by decide) rfl rfl rfl (fun H locs hP hD hS => ?_)
    refine lv_aload_n hx hb dX0_write_48 rfl (lv_at hl 1 rfl) ?_
    refine va_get (D := xD G) (ci := 0) (v := .ref q_presses) (C := RX0) (T := TX0) (N := 9) hx hb hts (fun w9 h9 => (List.mem_cons_of_mem _ (List.mem_append_right _ h9))) hown hE.1 hP 0 rfl rfl 3 (by decide) (hts (.fieldLink RX0 18 "FallingGlass$Book" "presses" "[I") (List.mem_of_getElem? (i := 4) rfl)) (fun _ h9 => h9) rfl dX0_write_49 ?_
    refine lv_iload hx hb dX0_write_52 (lv_at hl 0 rfl) ?_
    refine lv_iload_n hx hb dX0_write_54 rfl (lv_at hl 4 rfl) ?_
    refine lv_if_ge (tgt := 63) hx hb dX0_write_55 (by decide) (fun hc504 => ?_) (fun hc504 => ?_)
    · replace h := (if_pos hc504).symm.trans h
      refine lv_iload_n hx hb dX0_write_63 rfl (lv_at hl 4 rfl) ?_
      have hP : va_P (xD G) vwCl [(q_this, .inr (0, [.int (days + 1), .ref q_years, .ref q_months, .ref q_presses, .ref q_winds, .ref q_skies, .ref q_rains, .ref q_wires, .ref q_kinds])), (q_years, .inl (xy G 0, 60, .inl r502)), (q_months, .inl (xy G 0, 60, .inl r503)), (q_presses, .inl (xy G 0, 60, .inl presses)), (q_winds, .inl (xy G 0, 60, .inl winds)), (q_skies, .inl (xy G 0, 60, .inl skies)), (q_rains, .inl (xy G 0, 60, .inl rains)), (q_wires, .inl (xy G 0, 60, .inl wires)), (q_kinds, .inl (xy G 0, 60, .inl kinds))] H := hP
      exact J64  ((days + 1)) r502 r503 presses winds skies rains wires kinds p3 p4 p5 days days p2 ls (lv_sub hl [1, 5, 6, 7, 0] rfl) _ h ho H locs hP hD hS
    · replace h := (if_neg hc504).symm.trans h
      refine lv_bipush (v := (-6)) hx hb dX0_write_58 (by decide) ?_
      refine lv_goto (tgt := 64) hx hb dX0_write_60 (by decide) ?_
      have hP : va_P (xD G) vwCl [(q_this, .inr (0, [.int (days + 1), .ref q_years, .ref q_months, .ref q_presses, .ref q_winds, .ref q_skies, .ref q_rains, .ref q_wires, .ref q_kinds])), (q_years, .inl (xy G 0, 60, .inl r502)), (q_months, .inl (xy G 0, 60, .inl r503)), (q_presses, .inl (xy G 0, 60, .inl presses)), (q_winds, .inl (xy G 0, 60, .inl winds)), (q_skies, .inl (xy G 0, 60, .inl skies)), (q_rains, .inl (xy G 0, 60, .inl rains)), (q_wires, .inl (xy G 0, 60, .inl wires)), (q_kinds, .inl (xy G 0, 60, .inl kinds))] H := hP
      exact J64  ((days + 1)) r502 r503 presses winds skies rains wires kinds p3 p4 p5 days days ((-6)) ls (lv_sub hl [1, 5, 6, 7, 0] rfl) _ h ho H locs hP hD hS
  · replace h := (if_neg hc501).symm.trans h
    refine lv_bipush (v := (-4)) hx hb dX0_write_9 (by decide) ?_
    have hq : ((-4), days, years, months, presses, winds, skies, rains, wires, kinds) = out := by cases h; exact ho
    subst hq
    have hP : va_P (xD G) vwCl [(q_this, .inr (0, [.int days, .ref q_years, .ref q_months, .ref q_presses, .ref q_winds, .ref q_skies, .ref q_rains, .ref q_wires, .ref q_kinds])), (q_years, .inl (xy G 0, 60, .inl years)), (q_months, .inl (xy G 0, 60, .inl months)), (q_presses, .inl (xy G 0, 60, .inl presses)), (q_winds, .inl (xy G 0, 60, .inl winds)), (q_skies, .inl (xy G 0, 60, .inl skies)), (q_rains, .inl (xy G 0, 60, .inl rains)), (q_wires, .inl (xy G 0, 60, .inl wires)), (q_kinds, .inl (xy G 0, 60, .inl kinds))] H := hP
    have hD : va_D A [(q_this, .inr (0, [.int days, .ref q_years, .ref q_months, .ref q_presses, .ref q_winds, .ref q_skies, .ref q_rains, .ref q_wires, .ref q_kinds])), (q_years, .inl (xy G 0, 60, .inl years)), (q_months, .inl (xy G 0, 60, .inl months)), (q_presses, .inl (xy G 0, 60, .inl presses)), (q_winds, .inl (xy G 0, 60, .inl winds)), (q_skies, .inl (xy G 0, 60, .inl skies)), (q_rains, .inl (xy G 0, 60, .inl rains)), (q_wires, .inl (xy G 0, 60, .inl wires)), (q_kinds, .inl (xy G 0, 60, .inl kinds))] := hD
    exact x_iretw hx hb hr hlk hP hD hS rfl dX0_write_11
noncomputable def mX0_dropLast (days : Int32)  : Option (Int32 × Int32) :=
  if 0 < days then (some ((days - 1), (days - 1))) else (some ((-5), days))
set_option maxHeartbeats 4000000 in
set_option maxRecDepth 100000 in
theorem kX0_dropLast (l : Launch) (G : xG) (H0 : Heap) {q_this q_years q_months q_presses q_winds q_skies q_rains q_wires q_kinds : Nat} {days : Int32} (w0 : va_W) (hw0 : w0 = [(q_this, .inr (0, [.int days, .ref q_years, .ref q_months, .ref q_presses, .ref q_winds, .ref q_skies, .ref q_rains, .ref q_wires, .ref q_kinds]))]) (hP : va_P (xD G) vwCl w0 H0) (hD : va_D (fun _ => True) w0) {out : Int32 × Int32} (h : mX0_dropLast days = some out) : Met l yX0_dropLast wsX0_dropLast ({ frames := 0, cells := 0, slots := 0, locals := 0 }) (xPcw G (va_A w0 H0.size) H0 [.ref q_this]) (xRi G (va_A w0 H0.size) [(q_this, .inr (0, [.int out.2, .ref q_years, .ref q_months, .ref q_presses, .ref q_winds, .ref q_skies, .ref q_rains, .ref q_wires, .ref q_kinds]))] (out.1)) 0 0 (va_A w0 H0.size) := by
  refine x_metw (y := yX0_dropLast) (ws := wsX0_dropLast) (rm := { frames := 0, cells := 0, slots := 0, locals := 0 }) (G := G) (H0 := H0) (w0 := w0) (av := [.ref q_this]) (mc := 0) (ms := 0) (Qc := (fun A => (xRi G A [(q_this, .inr (0, [.int out.2, .ref q_years, .ref q_months, .ref q_presses, .ref q_winds, .ref q_skies, .ref q_rains, .ref q_wires, .ref q_kinds]))] (out.1)))) (by decide) rfl (Nat.le_of_ble_eq_true rfl) hP hD ?_
  clear hP hD
  intro p e s m below meth c ls A H locs hA hAt hnm hl hP hD hS
  subst hw0
  obtain ⟨hx, hb, hr, hlk, hml, hown, hts, hE⟩ := hAt
  have hown : s.vm.findClass RX0 = some m.cls := hown
  have hl : lv_has ls 1 [(0, .ref q_this)] := hl
  have ho : out = out := rfl
  unfold mX0_dropLast at h
  refine lv_aload_n hx hb dX0_dropLast_0 rfl (lv_at hl 0 rfl) ?_
  refine va_get (D := xD G) (ci := 0) (v := .int days) (C := RX0) (T := TX0) (N := 9) hx hb hts (fun w9 h9 => (List.mem_cons_of_mem _ (List.mem_append_right _ h9))) hown hE.1 hP 0 rfl rfl 0 (by decide) (hts (.fieldLink RX0 36 "FallingGlass$Book" "days" "I") (List.mem_of_getElem? (i := 1) rfl)) (fun _ h9 => h9) rfl dX0_dropLast_1 ?_
  refine lv_if_gt (tgt := 10) hx hb dX0_dropLast_4 (by decide) (fun hc501 => ?_) (fun hc501 => ?_)
  · replace h := (if_pos hc501).symm.trans h
    refine lv_aload_n hx hb dX0_dropLast_10 rfl (lv_at hl 0 rfl) ?_
    refine lv_dup hx hb dX0_dropLast_11 rfl ?_
    refine va_get (D := xD G) (ci := 0) (v := .int days) (C := RX0) (T := TX0) (N := 9) hx hb hts (fun w9 h9 => (List.mem_cons_of_mem _ (List.mem_append_right _ h9))) hown hE.1 hP 0 rfl rfl 0 (by decide) (hts (.fieldLink RX0 36 "FallingGlass$Book" "days" "I") (List.mem_of_getElem? (i := 1) rfl)) (fun _ h9 => h9) rfl dX0_dropLast_12 ?_
    refine lv_iconst (v := 1) hx hb dX0_dropLast_15 (by decide) ?_
    refine lv_isub hx hb dX0_dropLast_16 ?_
    refine va_put (D := xD G) (ci := 0) (v := .int (days - 1)) (ty := .int) (C := RX0) (T := TX0) (N := 9) hx hb hts (fun w9 h9 => (List.mem_cons_of_mem _ (List.mem_append_right _ h9))) tyX0 tyX0_ok nmX0 hown hE.1 hP hD hS 0 rfl rfl 0 (by decide) (hts (.fieldLink RX0 36 "FallingGlass$Book" "days" "I") (List.mem_of_getElem? (i := 1) rfl)) (fun _ h9 => h9) rfl (by decide +kernel) rfl rfl (Nat.le_of_ble_eq_true rfl) dX0_dropLast_17 (fun H locs hP hD hS => ?_)
    have hP : va_P (xD G) vwCl [(q_this, .inr (0, [.int (days - 1), .ref q_years, .ref q_months, .ref q_presses, .ref q_winds, .ref q_skies, .ref q_rains, .ref q_wires, .ref q_kinds]))] H := hP
    have hD : va_D A [(q_this, .inr (0, [.int (days - 1), .ref q_years, .ref q_months, .ref q_presses, .ref q_winds, .ref q_skies, .ref q_rains, .ref q_wires, .ref q_kinds]))] := hD
    refine lv_aload_n hx hb dX0_dropLast_20 rfl (lv_at hl 0 rfl) ?_
    refine va_get (D := xD G) (ci := 0) (v := .int (days - 1)) (C := RX0) (T := TX0) (N := 9) hx hb hts (fun w9 h9 => (List.mem_cons_of_mem _ (List.mem_append_right _ h9))) hown hE.1 hP 0 rfl rfl 0 (by decide) (hts (.fieldLink RX0 36 "FallingGlass$Book" "days" "I") (List.mem_of_getElem? (i := 1) rfl)) (fun _ h9 => h9) rfl dX0_dropLast_21 ?_
    have hq : ((days - 1), (days - 1)) = out := by cases h; exact ho
    subst hq
    have hP : va_P (xD G) vwCl [(q_this, .inr (0, [.int (days - 1), .ref q_years, .ref q_months, .ref q_presses, .ref q_winds, .ref q_skies, .ref q_rains, .ref q_wires, .ref q_kinds]))] H := hP
    have hD : va_D A [(q_this, .inr (0, [.int (days - 1), .ref q_years, .ref q_months, .ref q_presses, .ref q_winds, .ref q_skies, .ref q_rains, .ref q_wires, .ref q_kinds]))] := hD
    exact x_iretw hx hb hr hlk hP hD hS rfl dX0_dropLast_24
  · replace h := (if_neg hc501).symm.trans h
    refine lv_bipush (v := (-5)) hx hb dX0_dropLast_7 (by decide) ?_
    have hq : ((-5), days) = out := by cases h; exact ho
    subst hq
    have hP : va_P (xD G) vwCl [(q_this, .inr (0, [.int days, .ref q_years, .ref q_months, .ref q_presses, .ref q_winds, .ref q_skies, .ref q_rains, .ref q_wires, .ref q_kinds]))] H := hP
    have hD : va_D A [(q_this, .inr (0, [.int days, .ref q_years, .ref q_months, .ref q_presses, .ref q_winds, .ref q_skies, .ref q_rains, .ref q_wires, .ref q_kinds]))] := hD
    exact x_iretw hx hb hr hlk hP hD hS rfl dX0_dropLast_9
noncomputable def mX0_wireOf (wires : Nat → Int32) (p0 : Int32) : Option (Int32) :=
  (mX9_at 60 wires p0).bind (fun r501 => some r501)
set_option maxHeartbeats 4000000 in
set_option maxRecDepth 100000 in
theorem kX0_wireOf (l : Launch) (G : xG) (H0 : Heap) {q_this q_years q_months q_presses q_winds q_skies q_rains q_wires q_kinds : Nat} {days : Int32} {wires : Nat → Int32} {p0 : Int32} (hP : va_P (xD G) vwCl [(q_this, .inr (0, [.int days, .ref q_years, .ref q_months, .ref q_presses, .ref q_winds, .ref q_skies, .ref q_rains, .ref q_wires, .ref q_kinds])), (q_wires, .inl (xy G 0, 60, .inl wires))] H0) {out : Int32} (h : mX0_wireOf wires p0 = some out) : Met l yX0_wireOf wsX0_wireOf ({ frames := 1, cells := 0, slots := 0, locals := 21 }) (xPc G H0 [.ref q_this, .int p0]) (xQi H0 (out)) 0 0 xN := by
  refine x_met (by decide) rfl (Nat.le_of_ble_eq_true rfl) ?_
  intro p e s m below meth c ls hH hA hl
  obtain ⟨hx, hb, hr, hlk, hml, hown, hts, hE⟩ := hA
  subst hH
  have hown : s.vm.findClass RX0 = some m.cls := hown
  have hl : lv_has ls 2 [(0, .ref q_this), (1, .int p0)] := hl
  have hS : va_S xN s.heap s.heap [] := va_S.rf
  have ho : out = out := rfl
  unfold mX0_wireOf at h
  refine lv_aload_n hx hb dX0_wireOf_0 rfl (lv_at hl 0 rfl) ?_
  refine va_get (D := xD G) (ci := 0) (v := .ref q_wires) (C := RX0) (T := TX0) (N := 9) hx hb hts (fun w9 h9 => (List.mem_cons_of_mem _ (List.mem_append_right _ h9))) hown hE.1 hP 0 rfl rfl 7 (by decide) (hts (.fieldLink RX0 30 "FallingGlass$Book" "wires" "[I") (List.mem_of_getElem? (i := 1) rfl)) (fun _ h9 => h9) rfl dX0_wireOf_1 ?_
  refine lv_iload_n hx hb dX0_wireOf_4 rfl (lv_at hl 1 rfl) ?_
  obtain ⟨r501, hr501, h⟩ := x_bind h
  have hPr501 : va_P (xD G) vwCl [(q_wires, .inl (xy G 0, 60, .inl wires))] s.heap := hP.sub [1] rfl
  refine x_calli (va_runSN (As := [.ref q_wires, .int p0]) (rest := []) ⟨hx, hb, hml, hown, hts⟩ (kX9_at l G s.heap hPr501 hr501) ⟨va_cnB 2 hts gX0_wireOf_X9_at_n55 rfl rfl rfl (hE.nm 4 rfl) (hts (.initialized RX9) (List.mem_of_getElem? (i := 3) rfl)) (by decide +kernel) ⟨Nat.le_of_ble_eq_true rfl, Nat.le_of_ble_eq_true rfl⟩, (hts (.static yX9_at) (List.mem_of_getElem? (i := 2) rfl)), trivial⟩ (x_preS hE hS) rfl rfl hl.1 rfl (lv_room (Nat.le_of_ble_eq_true rfl)) dX0_wireOf_5 ⟨Nat.le_of_ble_eq_true rfl, Nat.le_of_ble_eq_true rfl⟩) ?_
  have hq : r501 = out := by cases h; exact ho
  subst hq
  exact x_iret hx hb hr hlk rfl rfl dX0_wireOf_8
noncomputable def mX0_hear_b21 (wires : Nat → Int32) (v3 : Int32) (t1 : Int32) (t2 : Int32) : Option (Int32 × (Nat → Int32)) :=
  (mX9_put 60 wires t1 t2).bind (fun r101 => some (v3, r101))
noncomputable def mX0_hear (wires : Nat → Int32) (p0 : Int32) (p1 : Int32) : Option (Int32 × (Nat → Int32)) :=
  (mX0_wireOf wires p0).bind (fun r501 => if 0 ≤ p1 then (mX0_hear_b21 wires r501 p0 p1) else (mX0_hear_b21 wires r501 p0 ((-6))))
set_option maxHeartbeats 4000000 in
set_option maxRecDepth 100000 in
theorem kX0_hear (l : Launch) (G : xG) (H0 : Heap) {q_this q_years q_months q_presses q_winds q_skies q_rains q_wires q_kinds : Nat} {days : Int32} {wires : Nat → Int32} {p0 : Int32} {p1 : Int32} (w0 : va_W) (hw0 : w0 = [(q_this, .inr (0, [.int days, .ref q_years, .ref q_months, .ref q_presses, .ref q_winds, .ref q_skies, .ref q_rains, .ref q_wires, .ref q_kinds])), (q_wires, .inl (xy G 0, 60, .inl wires))]) (hP : va_P (xD G) vwCl w0 H0) (hD : va_D (fun _ => True) w0) {out : Int32 × (Nat → Int32)} (h : mX0_hear wires p0 p1 = some out) : Met l yX0_hear wsX0_hear ({ frames := 2, cells := 0, slots := 0, locals := 42 }) (xPcw G (va_A w0 H0.size) H0 [.ref q_this, .int p0, .int p1]) (xRi G (va_A w0 H0.size) [(q_this, .inr (0, [.int days, .ref q_years, .ref q_months, .ref q_presses, .ref q_winds, .ref q_skies, .ref q_rains, .ref q_wires, .ref q_kinds])), (q_wires, .inl (xy G 0, 60, .inl out.2))] (out.1)) 0 0 (va_A w0 H0.size) := by
  refine x_metw (y := yX0_hear) (ws := wsX0_hear) (rm := { frames := 2, cells := 0, slots := 0, locals := 42 }) (G := G) (H0 := H0) (w0 := w0) (av := [.ref q_this, .int p0, .int p1]) (mc := 0) (ms := 0) (Qc := (fun A => (xRi G A [(q_this, .inr (0, [.int days, .ref q_years, .ref q_months, .ref q_presses, .ref q_winds, .ref q_skies, .ref q_rains, .ref q_wires, .ref q_kinds])), (q_wires, .inl (xy G 0, 60, .inl out.2))] (out.1)))) (by decide) rfl (Nat.le_of_ble_eq_true rfl) hP hD ?_
  clear hP hD
  intro p e s m below meth c ls A H locs hA hAt hnm hl hP hD hS
  subst hw0
  obtain ⟨hx, hb, hr, hlk, hml, hown, hts, hE⟩ := hAt
  have hown : s.vm.findClass RX0 = some m.cls := hown
  have hl : lv_has ls 4 [(0, .ref q_this), (1, .int p0), (2, .int p1)] := hl
  have ho : out = out := rfl
  have J21 : ∀ (wires : Nat → Int32) (v3 : Int32) (t1 : Int32) (t2 : Int32) (ls : Array Slot), lv_has ls 4 [(3, .int v3)] → ∀ o : Int32 × (Nat → Int32), mX0_hear_b21 wires v3 t1 t2 = some o → (fun z => z = out) o → ∀ (H : Heap) (locs : List Loc), va_P (xD G) vwCl [(q_this, .inr (0, [.int days, .ref q_years, .ref q_months, .ref q_presses, .ref q_winds, .ref q_skies, .ref q_rains, .ref q_wires, .ref q_kinds])), (q_wires, .inl (xy G 0, 60, .inl wires))] H → va_D A [(q_this, .inr (0, [.int days, .ref q_years, .ref q_months, .ref q_presses, .ref q_winds, .ref q_skies, .ref q_rains, .ref q_wires, .ref q_kinds])), (q_wires, .inl (xy G 0, 60, .inl wires))] → va_S A s.heap H locs → xV p l e ({ frames := 2, cells := 0, slots := 0, locals := 42 }) s m [.ref q_this, .int p0, .int p1] below meth c H locs 0 0 0 0 A (xRi G A [(q_this, .inr (0, [.int days, .ref q_years, .ref q_months, .ref q_presses, .ref q_winds, .ref q_skies, .ref q_rains, .ref q_wires, .ref q_kinds])), (q_wires, .inl (xy G 0, 60, .inl out.2))] (out.1)) (F0 m 21 ls [.int t2, .int t1, .ref q_wires]) := by
    intro wires v3 t1 t2 ls hl o h ho H locs hP hD hS
    unfold mX0_hear_b21 at h
    obtain ⟨r101, hr101, h⟩ := x_bind h
    have hPr101 : va_P (xD G) vwCl [(q_wires, .inl (xy G 0, 60, .inl wires))] H := hP.sub [1] rfl
    have hDr101 : va_D A [(q_wires, .inl (xy G 0, 60, .inl wires))] := hD.sub [1] (by decide) rfl
    have hFr101 := va_free (wc := [(q_wires, .inl (xy G 0, 60, .inl wires))]) hD hS hA [1] rfl
    refine x_callwv (wc := [(q_wires, .inl (xy G 0, 60, .inl wires))]) (w1 := [(q_wires, .inl (xy G 0, 60, .inl r101))]) (ws' := [(q_this, .inr (0, [.int days, .ref q_years, .ref q_months, .ref q_presses, .ref q_winds, .ref q_skies, .ref q_rains, .ref q_wires, .ref q_kinds])), (q_wires, .inl (xy G 0, 60, .inl r101))]) (va_runSN (As := [.ref q_wires, .int t1, .int t2]) (rest := []) ⟨hx, hb, hml, hown, hts⟩ (kX9_put l G H [(q_wires, .inl (xy G 0, 60, .inl wires))] rfl hPr101 (hDr101.weaken (fun _ _ _ _ => trivial)) hr101) ⟨va_cnB 3 hts gX0_hear_X9_put_n44 rfl rfl rfl (hE.nm 3 rfl) (hts (.initialized RX9) (List.mem_of_getElem? (i := 8) rfl)) (by decide +kernel) ⟨Nat.le_of_ble_eq_true rfl, Nat.le_of_ble_eq_true rfl⟩, (hts (.static yX9_put) (List.mem_of_getElem? (i := 10) rfl)), trivial⟩ (x_preSw hE hS hFr101) rfl rfl hl.1 rfl (lv_room (Nat.le_of_ble_eq_true rfl)) dX0_hear_21 ⟨Nat.le_of_ble_eq_true rfl, Nat.le_of_ble_eq_true rfl⟩) hP hD hS hFr101 [1] [none, some 0] (n := 2) (by decide) rfl rfl rfl (fun H locs hP hD hS => ?_)
    refine lv_iload_n hx hb dX0_hear_24 rfl (lv_at hl 0 rfl) ?_
    have hq : (v3, r101) = out := by cases h; exact ho
    subst hq
    have hP : va_P (xD G) vwCl [(q_this, .inr (0, [.int days, .ref q_years, .ref q_months, .ref q_presses, .ref q_winds, .ref q_skies, .ref q_rains, .ref q_wires, .ref q_kinds])), (q_wires, .inl (xy G 0, 60, .inl r101))] H := hP
    have hD : va_D A [(q_this, .inr (0, [.int days, .ref q_years, .ref q_months, .ref q_presses, .ref q_winds, .ref q_skies, .ref q_rains, .ref q_wires, .ref q_kinds])), (q_wires, .inl (xy G 0, 60, .inl r101))] := hD
    exact x_iretw hx hb hr hlk hP hD hS rfl dX0_hear_25
  unfold mX0_hear at h
  refine lv_aload_n hx hb dX0_hear_0 rfl (lv_at hl 0 rfl) ?_
  refine lv_iload_n hx hb dX0_hear_1 rfl (lv_at hl 1 rfl) ?_
  obtain ⟨r501, hr501, h⟩ := x_bind h
  have hPr501 : va_P (xD G) vwCl [(q_this, .inr (0, [.int days, .ref q_years, .ref q_months, .ref q_presses, .ref q_winds, .ref q_skies, .ref q_rains, .ref q_wires, .ref q_kinds])), (q_wires, .inl (xy G 0, 60, .inl wires))] H := hP.sub [0, 1] rfl
  refine x_calli (va_runV (As := [.int p0]) (rest := []) ⟨hx, hb, hml, hown, hts⟩ (kX0_wireOf l G H hPr501 hr501) (cwV 1 hts gX0_hear_X0_wireOf rfl rfl rfl (by decide +kernel) ⟨Nat.le_of_ble_eq_true rfl, Nat.le_of_ble_eq_true rfl⟩) (x_preV hE hS hP (ci := 0) (q0 := 0) rfl rfl) rfl rfl hl.1 rfl (lv_room (Nat.le_of_ble_eq_true rfl)) dX0_hear_2 ⟨Nat.le_of_ble_eq_true rfl, Nat.le_of_ble_eq_true rfl⟩) ?_
  refine lv_istore_n (lv' := [(3, .int r501), (0, .ref q_this), (1, .int p0), (2, .int p1)]) hx hb dX0_hear_5 rfl hl (by decide) rfl (fun ls hl => ?_)
  refine lv_aload_n hx hb dX0_hear_6 rfl (lv_at hl 1 rfl) ?_
  refine va_get (D := xD G) (ci := 0) (v := .ref q_wires) (C := RX0) (T := TX0) (N := 9) hx hb hts (fun w9 h9 => (List.mem_cons_of_mem _ (List.mem_append_right _ h9))) hown hE.1 hP 0 rfl rfl 7 (by decide) (hts (.fieldLink RX0 30 "FallingGlass$Book" "wires" "[I") (List.mem_of_getElem? (i := 1) rfl)) (fun _ h9 => h9) rfl dX0_hear_7 ?_
  refine lv_iload_n hx hb dX0_hear_10 rfl (lv_at hl 2 rfl) ?_
  refine lv_iload_n hx hb dX0_hear_11 rfl (lv_at hl 3 rfl) ?_
  refine lv_if_ge (tgt := 20) hx hb dX0_hear_12 (by decide) (fun hc502 => ?_) (fun hc502 => ?_)
  · replace h := (if_pos hc502).symm.trans h
    refine lv_iload_n hx hb dX0_hear_20 rfl (lv_at hl 3 rfl) ?_
    have hP : va_P (xD G) vwCl [(q_this, .inr (0, [.int days, .ref q_years, .ref q_months, .ref q_presses, .ref q_winds, .ref q_skies, .ref q_rains, .ref q_wires, .ref q_kinds])), (q_wires, .inl (xy G 0, 60, .inl wires))] H := hP
    exact J21  wires r501 p0 p1 ls (lv_sub hl [0] rfl) _ h ho H locs hP hD hS
  · replace h := (if_neg hc502).symm.trans h
    refine lv_bipush (v := (-6)) hx hb dX0_hear_15 (by decide) ?_
    refine lv_goto (tgt := 21) hx hb dX0_hear_17 (by decide) ?_
    have hP : va_P (xD G) vwCl [(q_this, .inr (0, [.int days, .ref q_years, .ref q_months, .ref q_presses, .ref q_winds, .ref q_skies, .ref q_rains, .ref q_wires, .ref q_kinds])), (q_wires, .inl (xy G 0, 60, .inl wires))] H := hP
    exact J21  wires r501 p0 ((-6)) ls (lv_sub hl [0] rfl) _ h ho H locs hP hD hS
noncomputable def mX0_rainOf (rains : Nat → Int32) (p0 : Int32) : Option (Int32) :=
  (mX9_at 60 rains p0).bind (fun r501 => some r501)
set_option maxHeartbeats 4000000 in
set_option maxRecDepth 100000 in
theorem kX0_rainOf (l : Launch) (G : xG) (H0 : Heap) {q_this q_years q_months q_presses q_winds q_skies q_rains q_wires q_kinds : Nat} {days : Int32} {rains : Nat → Int32} {p0 : Int32} (hP : va_P (xD G) vwCl [(q_this, .inr (0, [.int days, .ref q_years, .ref q_months, .ref q_presses, .ref q_winds, .ref q_skies, .ref q_rains, .ref q_wires, .ref q_kinds])), (q_rains, .inl (xy G 0, 60, .inl rains))] H0) {out : Int32} (h : mX0_rainOf rains p0 = some out) : Met l yX0_rainOf wsX0_rainOf ({ frames := 1, cells := 0, slots := 0, locals := 21 }) (xPc G H0 [.ref q_this, .int p0]) (xQi H0 (out)) 0 0 xN := by
  refine x_met (by decide) rfl (Nat.le_of_ble_eq_true rfl) ?_
  intro p e s m below meth c ls hH hA hl
  obtain ⟨hx, hb, hr, hlk, hml, hown, hts, hE⟩ := hA
  subst hH
  have hown : s.vm.findClass RX0 = some m.cls := hown
  have hl : lv_has ls 2 [(0, .ref q_this), (1, .int p0)] := hl
  have hS : va_S xN s.heap s.heap [] := va_S.rf
  have ho : out = out := rfl
  unfold mX0_rainOf at h
  refine lv_aload_n hx hb dX0_rainOf_0 rfl (lv_at hl 0 rfl) ?_
  refine va_get (D := xD G) (ci := 0) (v := .ref q_rains) (C := RX0) (T := TX0) (N := 9) hx hb hts (fun w9 h9 => (List.mem_cons_of_mem _ (List.mem_append_right _ h9))) hown hE.1 hP 0 rfl rfl 6 (by decide) (hts (.fieldLink RX0 27 "FallingGlass$Book" "rains" "[I") (List.mem_of_getElem? (i := 1) rfl)) (fun _ h9 => h9) rfl dX0_rainOf_1 ?_
  refine lv_iload_n hx hb dX0_rainOf_4 rfl (lv_at hl 1 rfl) ?_
  obtain ⟨r501, hr501, h⟩ := x_bind h
  have hPr501 : va_P (xD G) vwCl [(q_rains, .inl (xy G 0, 60, .inl rains))] s.heap := hP.sub [1] rfl
  refine x_calli (va_runSN (As := [.ref q_rains, .int p0]) (rest := []) ⟨hx, hb, hml, hown, hts⟩ (kX9_at l G s.heap hPr501 hr501) ⟨va_cnB 2 hts gX0_rainOf_X9_at_n55 rfl rfl rfl (hE.nm 4 rfl) (hts (.initialized RX9) (List.mem_of_getElem? (i := 3) rfl)) (by decide +kernel) ⟨Nat.le_of_ble_eq_true rfl, Nat.le_of_ble_eq_true rfl⟩, (hts (.static yX9_at) (List.mem_of_getElem? (i := 2) rfl)), trivial⟩ (x_preS hE hS) rfl rfl hl.1 rfl (lv_room (Nat.le_of_ble_eq_true rfl)) dX0_rainOf_5 ⟨Nat.le_of_ble_eq_true rfl, Nat.le_of_ble_eq_true rfl⟩) ?_
  have hq : r501 = out := by cases h; exact ho
  subst hq
  exact x_iret hx hb hr hlk rfl rfl dX0_rainOf_8
noncomputable def mX0_inOtherYears (years : Nat → Int32) (p0 : Int32) (p1 : Int32) : Option (Bool) :=
  (mX9_at 60 years p0).bind (fun r501 => (mX9_at 60 years p1).bind (fun r502 => if r501 = r502 then (some false) else (some true)))
set_option maxHeartbeats 4000000 in
set_option maxRecDepth 100000 in
theorem kX0_inOtherYears (l : Launch) (G : xG) (H0 : Heap) {q_this q_years q_months q_presses q_winds q_skies q_rains q_wires q_kinds : Nat} {days : Int32} {years : Nat → Int32} {p0 : Int32} {p1 : Int32} (hP : va_P (xD G) vwCl [(q_this, .inr (0, [.int days, .ref q_years, .ref q_months, .ref q_presses, .ref q_winds, .ref q_skies, .ref q_rains, .ref q_wires, .ref q_kinds])), (q_years, .inl (xy G 0, 60, .inl years))] H0) {out : Bool} (h : mX0_inOtherYears years p0 p1 = some out) : Met l yX0_inOtherYears wsX0_inOtherYears ({ frames := 1, cells := 0, slots := 0, locals := 21 }) (xPc G H0 [.ref q_this, .int p0, .int p1]) (xQi H0 (xb out)) 0 0 xN := by
  refine x_met (by decide) rfl (Nat.le_of_ble_eq_true rfl) ?_
  intro p e s m below meth c ls hH hA hl
  obtain ⟨hx, hb, hr, hlk, hml, hown, hts, hE⟩ := hA
  subst hH
  have hown : s.vm.findClass RX0 = some m.cls := hown
  have hl : lv_has ls 3 [(0, .ref q_this), (1, .int p0), (2, .int p1)] := hl
  have hS : va_S xN s.heap s.heap [] := va_S.rf
  have ho : out = out := rfl
  unfold mX0_inOtherYears at h
  refine lv_aload_n hx hb dX0_inOtherYears_0 rfl (lv_at hl 0 rfl) ?_
  refine va_get (D := xD G) (ci := 0) (v := .ref q_years) (C := RX0) (T := TX0) (N := 9) hx hb hts (fun w9 h9 => (List.mem_cons_of_mem _ (List.mem_append_right _ h9))) hown hE.1 hP 0 rfl rfl 1 (by decide) (hts (.fieldLink RX0 9 "FallingGlass$Book" "years" "[I") (List.mem_of_getElem? (i := 1) rfl)) (fun _ h9 => h9) rfl dX0_inOtherYears_1 ?_
  refine lv_iload_n hx hb dX0_inOtherYears_4 rfl (lv_at hl 1 rfl) ?_
  obtain ⟨r501, hr501, h⟩ := x_bind h
  have hPr501 : va_P (xD G) vwCl [(q_years, .inl (xy G 0, 60, .inl years))] s.heap := hP.sub [1] rfl
  refine x_calli (va_runSN (As := [.ref q_years, .int p0]) (rest := []) ⟨hx, hb, hml, hown, hts⟩ (kX9_at l G s.heap hPr501 hr501) ⟨va_cnB 2 hts gX0_inOtherYears_X9_at_n55 rfl rfl rfl (hE.nm 4 rfl) (hts (.initialized RX9) (List.mem_of_getElem? (i := 3) rfl)) (by decide +kernel) ⟨Nat.le_of_ble_eq_true rfl, Nat.le_of_ble_eq_true rfl⟩, (hts (.static yX9_at) (List.mem_of_getElem? (i := 2) rfl)), trivial⟩ (x_preS hE hS) rfl rfl hl.1 rfl (lv_room (Nat.le_of_ble_eq_true rfl)) dX0_inOtherYears_5 ⟨Nat.le_of_ble_eq_true rfl, Nat.le_of_ble_eq_true rfl⟩) ?_
  refine lv_aload_n hx hb dX0_inOtherYears_8 rfl (lv_at hl 0 rfl) ?_
  refine va_get (D := xD G) (ci := 0) (v := .ref q_years) (C := RX0) (T := TX0) (N := 9) hx hb hts (fun w9 h9 => (List.mem_cons_of_mem _ (List.mem_append_right _ h9))) hown hE.1 hP 0 rfl rfl 1 (by decide) (hts (.fieldLink RX0 9 "FallingGlass$Book" "years" "[I") (List.mem_of_getElem? (i := 1) rfl)) (fun _ h9 => h9) rfl dX0_inOtherYears_9 ?_
  refine lv_iload_n hx hb dX0_inOtherYears_12 rfl (lv_at hl 2 rfl) ?_
  obtain ⟨r502, hr502, h⟩ := x_bind h
  have hPr502 : va_P (xD G) vwCl [(q_years, .inl (xy G 0, 60, .inl years))] s.heap := hP.sub [1] rfl
  refine x_calli (va_runSN (As := [.ref q_years, .int p1]) (rest := [.int r501]) ⟨hx, hb, hml, hown, hts⟩ (kX9_at l G s.heap hPr502 hr502) ⟨va_cnB 2 hts gX0_inOtherYears_X9_at_n55 rfl rfl rfl (hE.nm 4 rfl) (hts (.initialized RX9) (List.mem_of_getElem? (i := 3) rfl)) (by decide +kernel) ⟨Nat.le_of_ble_eq_true rfl, Nat.le_of_ble_eq_true rfl⟩, (hts (.static yX9_at) (List.mem_of_getElem? (i := 2) rfl)), trivial⟩ (x_preS hE hS) rfl rfl hl.1 rfl (lv_room (Nat.le_of_ble_eq_true rfl)) dX0_inOtherYears_13 ⟨Nat.le_of_ble_eq_true rfl, Nat.le_of_ble_eq_true rfl⟩) ?_
  refine lv_icmp_eq (tgt := 23) hx hb dX0_inOtherYears_16 (by decide) (fun hc503 => ?_) (fun hc503 => ?_)
  · replace h := (if_pos hc503).symm.trans h
    refine lv_iconst (v := 0) hx hb dX0_inOtherYears_23 (by decide) ?_
    have hq : false = out := by cases h; exact ho
    subst hq
    exact x_zret (b := false) hx hb hr hlk rfl rfl rfl dX0_inOtherYears_24
  · replace h := (if_neg hc503).symm.trans h
    refine lv_iconst (v := 1) hx hb dX0_inOtherYears_19 (by decide) ?_
    refine lv_goto (tgt := 24) hx hb dX0_inOtherYears_20 (by decide) ?_
    have hq : true = out := by cases h; exact ho
    subst hq
    exact x_zret (b := true) hx hb hr hlk rfl rfl rfl dX0_inOtherYears_24
noncomputable def mX0_alikeKeys_b72 (kinds : Nat → Int32) (v3 : Int32) (v4 : Int32) (v5 : Int32) (v6 : Int32) : Option (((Int32) ⊕ (Int32 × Int32))) :=
  some (.inr (v5, (v6 + 1)))
noncomputable def mX0_alikeKeys_s27 (kinds : Nat → Int32) (v3 : Int32) (v4 : Int32) (v5 : Int32) (v6 : Int32) : Option (((Int32) ⊕ (Int32 × Int32))) :=
  if 6 ≤ v6 then (some (.inl v5)) else (if ((v4 >>> ((4 * v6) &&& 31)) &&& 15) = 0 then (if ((v3 >>> ((4 * v6) &&& 31)) &&& 15) = 15 then (mX0_alikeKeys_b72 kinds v3 v4 v5 v6) else (mX0_alikeKeys_b72 kinds v3 v4 ((v5 ||| (1 <<< (v6 &&& 31)))) v6)) else (mX0_alikeKeys_b72 kinds v3 v4 v5 v6))
noncomputable def mX0_alikeKeys_b27 (kinds : Nat → Int32) (v3 : Int32) (v4 : Int32) (v5 : Int32) (v6 : Int32) : Option (Int32) :=
  x_loop (fun q : Int32 × Int32 => mX0_alikeKeys_s27 kinds v3 v4 (q.1) (q.2)) (v5, v6)
noncomputable def mX0_alikeKeys (kinds : Nat → Int32) (p0 : Int32) (p1 : Int32) : Option (Int32) :=
  (mX9_at 60 kinds p0).bind (fun r501 => (mX9_at 60 kinds p1).bind (fun r502 => mX0_alikeKeys_b27 kinds r501 ((r501 ^^^ r502)) 0 0))
set_option maxHeartbeats 4000000 in
set_option maxRecDepth 100000 in
theorem kX0_alikeKeys (l : Launch) (G : xG) (H0 : Heap) {q_this q_years q_months q_presses q_winds q_skies q_rains q_wires q_kinds : Nat} {days : Int32} {kinds : Nat → Int32} {p0 : Int32} {p1 : Int32} (hP : va_P (xD G) vwCl [(q_this, .inr (0, [.int days, .ref q_years, .ref q_months, .ref q_presses, .ref q_winds, .ref q_skies, .ref q_rains, .ref q_wires, .ref q_kinds])), (q_kinds, .inl (xy G 0, 60, .inl kinds))] H0) {out : Int32} (h : mX0_alikeKeys kinds p0 p1 = some out) : Met l yX0_alikeKeys wsX0_alikeKeys ({ frames := 1, cells := 0, slots := 0, locals := 21 }) (xPc G H0 [.ref q_this, .int p0, .int p1]) (xQi H0 (out)) 0 0 xN := by
  refine x_met (by decide) rfl (Nat.le_of_ble_eq_true rfl) ?_
  intro p e s m below meth c ls hH hA hl
  obtain ⟨hx, hb, hr, hlk, hml, hown, hts, hE⟩ := hA
  subst hH
  have hown : s.vm.findClass RX0 = some m.cls := hown
  have hl : lv_has ls 8 [(0, .ref q_this), (1, .int p0), (2, .int p1)] := hl
  have hS : va_S xN s.heap s.heap [] := va_S.rf
  have ho : out = out := rfl
  have J27 : ∀ (v3 : Int32) (v4 : Int32) (v5 : Int32) (v6 : Int32) (ls : Array Slot), lv_has ls 8 [(3, .int v3), (4, .int v4), (5, .int v5), (6, .int v6)] → ∀ o : Int32, mX0_alikeKeys_b27 kinds v3 v4 v5 v6 = some o → (fun z => z = out) o → xW p l e ({ frames := 1, cells := 0, slots := 0, locals := 21 }) s m [.ref q_this, .int p0, .int p1] below meth c (xQi s.heap (out)) (F0 m 27 ls []) := by
    intro v3 v4 v5 v6 ls hl o h ho
    unfold mX0_alikeKeys_b27 at h
    refine x_loop_walk (K := (fun z => z = out)) (motive := fun q : Int32 × Int32 => ∀ ls : Array Slot, lv_has ls 8 [(3, .int (v3)), (4, .int (v4)), (5, .int (q.1)), (6, .int (q.2))] → xW p l e ({ frames := 1, cells := 0, slots := 0, locals := 21 }) s m [.ref q_this, .int p0, .int p1] below meth c (xQi s.heap (out)) (F0 m 27 ls [])) ?_ h ho ls hl
    intro K1 e1 i1 q o h ho
    obtain ⟨v5, v6⟩ := q
    intro ls hl
    have hl : lv_has ls 8 [(3, .int v3), (4, .int v4), (5, .int v5), (6, .int v6)] := hl
    replace h : mX0_alikeKeys_s27 kinds v3 v4 v5 v6 = some o := h
    unfold mX0_alikeKeys_s27 at h
    have J72 : ∀ (v5 : Int32) (v6 : Int32) (ls : Array Slot), lv_has ls 8 [(3, .int v3), (4, .int v4), (5, .int v5), (6, .int v6)] → ∀ o : ((Int32) ⊕ (Int32 × Int32)), mX0_alikeKeys_b72 kinds v3 v4 v5 v6 = some o → K1 o → xW p l e ({ frames := 1, cells := 0, slots := 0, locals := 21 }) s m [.ref q_this, .int p0, .int p1] below meth c (xQi s.heap (out)) (F0 m 72 ls []) := by
      intro v5 v6 ls hl o h ho
      unfold mX0_alikeKeys_b72 at h
      refine lv_iinc (v := (v6 + 1)) (lv' := [(6, .int (v6 + 1)), (3, .int v3), (4, .int v4), (5, .int v5)]) hx hb dX0_alikeKeys_72 hl (k := 3) rfl rfl (by decide) rfl (fun ls hl => ?_)
      refine lv_goto (tgt := 27) hx hb dX0_alikeKeys_75 (by decide) ?_
      exact i1 (v5, (v6 + 1)) (by cases h; exact ho) ls (lv_sub hl [1, 2, 3, 0] rfl)
    refine lv_iload hx hb dX0_alikeKeys_27 (lv_at hl 3 rfl) ?_
    refine lv_bipush (v := 6) hx hb dX0_alikeKeys_29 (by decide) ?_
    refine lv_icmp_ge (tgt := 78) hx hb dX0_alikeKeys_31 (by decide) (fun hc201 => ?_) (fun hc201 => ?_)
    · replace h := (if_pos hc201).symm.trans h
      refine lv_iload hx hb dX0_alikeKeys_78 (lv_at hl 2 rfl) ?_
      have hq : v5 = out := by cases h; exact (e1 _ ho)
      subst hq
      exact x_iret hx hb hr hlk rfl rfl dX0_alikeKeys_80
    · replace h := (if_neg hc201).symm.trans h
      refine lv_iconst (v := 4) hx hb dX0_alikeKeys_34 (by decide) ?_
      refine lv_iload hx hb dX0_alikeKeys_35 (lv_at hl 3 rfl) ?_
      refine lv_imul hx hb dX0_alikeKeys_37 ?_
      refine lv_istore (lv' := [(7, .int (4 * v6)), (3, .int v3), (4, .int v4), (5, .int v5), (6, .int v6)]) hx hb dX0_alikeKeys_38 hl (by decide) rfl (fun ls hl => ?_)
      refine lv_iload hx hb dX0_alikeKeys_40 (lv_at hl 2 rfl) ?_
      refine lv_iload hx hb dX0_alikeKeys_42 (lv_at hl 0 rfl) ?_
      refine lv_ishr hx hb dX0_alikeKeys_44 ?_
      refine lv_bipush (v := 15) hx hb dX0_alikeKeys_45 (by decide) ?_
      refine lv_iand hx hb dX0_alikeKeys_47 ?_
      refine lv_if_ne (tgt := 72) hx hb dX0_alikeKeys_48 (by decide) (fun hc202 => ?_) (fun hc202 => ?_)
      · replace h := (if_neg hc202).symm.trans h
        exact J72 v5 v6 ls (lv_sub hl [1, 2, 3, 4] rfl) _ h ho
      · replace h := (if_pos hc202).symm.trans h
        refine lv_iload_n hx hb dX0_alikeKeys_51 rfl (lv_at hl 1 rfl) ?_
        refine lv_iload hx hb dX0_alikeKeys_52 (lv_at hl 0 rfl) ?_
        refine lv_ishr hx hb dX0_alikeKeys_54 ?_
        refine lv_bipush (v := 15) hx hb dX0_alikeKeys_55 (by decide) ?_
        refine lv_iand hx hb dX0_alikeKeys_57 ?_
        refine lv_bipush (v := 15) hx hb dX0_alikeKeys_58 (by decide) ?_
        refine lv_icmp_eq (tgt := 72) hx hb dX0_alikeKeys_60 (by decide) (fun hc203 => ?_) (fun hc203 => ?_)
        · replace h := (if_pos hc203).symm.trans h
          exact J72 v5 v6 ls (lv_sub hl [1, 2, 3, 4] rfl) _ h ho
        · replace h := (if_neg hc203).symm.trans h
          refine lv_iload hx hb dX0_alikeKeys_63 (lv_at hl 3 rfl) ?_
          refine lv_iconst (v := 1) hx hb dX0_alikeKeys_65 (by decide) ?_
          refine lv_iload hx hb dX0_alikeKeys_66 (lv_at hl 4 rfl) ?_
          refine lv_ishl hx hb dX0_alikeKeys_68 ?_
          refine lv_ior hx hb dX0_alikeKeys_69 ?_
          refine lv_istore (lv' := [(5, .int (v5 ||| (1 <<< (v6 &&& 31)))), (7, .int (4 * v6)), (3, .int v3), (4, .int v4), (6, .int v6)]) hx hb dX0_alikeKeys_70 hl (by decide) rfl (fun ls hl => ?_)
          exact J72 ((v5 ||| (1 <<< (v6 &&& 31)))) v6 ls (lv_sub hl [2, 3, 0, 4] rfl) _ h ho
  unfold mX0_alikeKeys at h
  refine lv_aload_n hx hb dX0_alikeKeys_0 rfl (lv_at hl 0 rfl) ?_
  refine va_get (D := xD G) (ci := 0) (v := .ref q_kinds) (C := RX0) (T := TX0) (N := 9) hx hb hts (fun w9 h9 => (List.mem_cons_of_mem _ (List.mem_append_right _ h9))) hown hE.1 hP 0 rfl rfl 8 (by decide) (hts (.fieldLink RX0 33 "FallingGlass$Book" "kinds" "[I") (List.mem_of_getElem? (i := 1) rfl)) (fun _ h9 => h9) rfl dX0_alikeKeys_1 ?_
  refine lv_iload_n hx hb dX0_alikeKeys_4 rfl (lv_at hl 1 rfl) ?_
  obtain ⟨r501, hr501, h⟩ := x_bind h
  have hPr501 : va_P (xD G) vwCl [(q_kinds, .inl (xy G 0, 60, .inl kinds))] s.heap := hP.sub [1] rfl
  refine x_calli (va_runSN (As := [.ref q_kinds, .int p0]) (rest := []) ⟨hx, hb, hml, hown, hts⟩ (kX9_at l G s.heap hPr501 hr501) ⟨va_cnB 2 hts gX0_alikeKeys_X9_at_n55 rfl rfl rfl (hE.nm 4 rfl) (hts (.initialized RX9) (List.mem_of_getElem? (i := 3) rfl)) (by decide +kernel) ⟨Nat.le_of_ble_eq_true rfl, Nat.le_of_ble_eq_true rfl⟩, (hts (.static yX9_at) (List.mem_of_getElem? (i := 2) rfl)), trivial⟩ (x_preS hE hS) rfl rfl hl.1 rfl (lv_room (Nat.le_of_ble_eq_true rfl)) dX0_alikeKeys_5 ⟨Nat.le_of_ble_eq_true rfl, Nat.le_of_ble_eq_true rfl⟩) ?_
  refine lv_istore_n (lv' := [(3, .int r501), (0, .ref q_this), (1, .int p0), (2, .int p1)]) hx hb dX0_alikeKeys_8 rfl hl (by decide) rfl (fun ls hl => ?_)
  refine lv_iload_n hx hb dX0_alikeKeys_9 rfl (lv_at hl 0 rfl) ?_
  refine lv_aload_n hx hb dX0_alikeKeys_10 rfl (lv_at hl 1 rfl) ?_
  refine va_get (D := xD G) (ci := 0) (v := .ref q_kinds) (C := RX0) (T := TX0) (N := 9) hx hb hts (fun w9 h9 => (List.mem_cons_of_mem _ (List.mem_append_right _ h9))) hown hE.1 hP 0 rfl rfl 8 (by decide) (hts (.fieldLink RX0 33 "FallingGlass$Book" "kinds" "[I") (List.mem_of_getElem? (i := 1) rfl)) (fun _ h9 => h9) rfl dX0_alikeKeys_11 ?_
  refine lv_iload_n hx hb dX0_alikeKeys_14 rfl (lv_at hl 3 rfl) ?_
  obtain ⟨r502, hr502, h⟩ := x_bind h
  have hPr502 : va_P (xD G) vwCl [(q_kinds, .inl (xy G 0, 60, .inl kinds))] s.heap := hP.sub [1] rfl
  refine x_calli (va_runSN (As := [.ref q_kinds, .int p1]) (rest := [.int r501]) ⟨hx, hb, hml, hown, hts⟩ (kX9_at l G s.heap hPr502 hr502) ⟨va_cnB 2 hts gX0_alikeKeys_X9_at_n55 rfl rfl rfl (hE.nm 4 rfl) (hts (.initialized RX9) (List.mem_of_getElem? (i := 3) rfl)) (by decide +kernel) ⟨Nat.le_of_ble_eq_true rfl, Nat.le_of_ble_eq_true rfl⟩, (hts (.static yX9_at) (List.mem_of_getElem? (i := 2) rfl)), trivial⟩ (x_preS hE hS) rfl rfl hl.1 rfl (lv_room (Nat.le_of_ble_eq_true rfl)) dX0_alikeKeys_15 ⟨Nat.le_of_ble_eq_true rfl, Nat.le_of_ble_eq_true rfl⟩) ?_
  refine lv_ixor hx hb dX0_alikeKeys_18 ?_
  refine lv_istore (lv' := [(4, .int (r501 ^^^ r502)), (3, .int r501), (0, .ref q_this), (1, .int p0), (2, .int p1)]) hx hb dX0_alikeKeys_19 hl (by decide) rfl (fun ls hl => ?_)
  refine lv_iconst (v := 0) hx hb dX0_alikeKeys_21 (by decide) ?_
  refine lv_istore (lv' := [(5, .int 0), (4, .int (r501 ^^^ r502)), (3, .int r501), (0, .ref q_this), (1, .int p0), (2, .int p1)]) hx hb dX0_alikeKeys_22 hl (by decide) rfl (fun ls hl => ?_)
  refine lv_iconst (v := 0) hx hb dX0_alikeKeys_24 (by decide) ?_
  refine lv_istore (lv' := [(6, .int 0), (5, .int 0), (4, .int (r501 ^^^ r502)), (3, .int r501), (0, .ref q_this), (1, .int p0), (2, .int p1)]) hx hb dX0_alikeKeys_25 hl (by decide) rfl (fun ls hl => ?_)
  exact J27 r501 ((r501 ^^^ r502)) 0 0 ls (lv_sub hl [3, 2, 1, 0] rfl) _ h ho
noncomputable def mX0_areLike (years : Nat → Int32) (kinds : Nat → Int32) (p0 : Int32) (p1 : Int32) (p2 : Int32) : Option (Bool) :=
  (mX0_inOtherYears years p0 p1).bind (fun r501 => if (xb r501) = 0 then (some false) else ((mX0_alikeKeys kinds p0 p1).bind (fun r503 => if (r503 &&& p2) = p2 then (some true) else (some false))))
set_option maxHeartbeats 4000000 in
set_option maxRecDepth 100000 in
theorem kX0_areLike (l : Launch) (G : xG) (H0 : Heap) {q_this q_years q_months q_presses q_winds q_skies q_rains q_wires q_kinds : Nat} {days : Int32} {years : Nat → Int32} {kinds : Nat → Int32} {p0 : Int32} {p1 : Int32} {p2 : Int32} (hP : va_P (xD G) vwCl [(q_this, .inr (0, [.int days, .ref q_years, .ref q_months, .ref q_presses, .ref q_winds, .ref q_skies, .ref q_rains, .ref q_wires, .ref q_kinds])), (q_years, .inl (xy G 0, 60, .inl years)), (q_kinds, .inl (xy G 0, 60, .inl kinds))] H0) {out : Bool} (h : mX0_areLike years kinds p0 p1 p2 = some out) : Met l yX0_areLike wsX0_areLike ({ frames := 2, cells := 0, slots := 0, locals := 48 }) (xPc G H0 [.ref q_this, .int p0, .int p1, .int p2]) (xQi H0 (xb out)) 0 0 xN := by
  refine x_met (by decide) rfl (Nat.le_of_ble_eq_true rfl) ?_
  intro p e s m below meth c ls hH hA hl
  obtain ⟨hx, hb, hr, hlk, hml, hown, hts, hE⟩ := hA
  subst hH
  have hown : s.vm.findClass RX0 = some m.cls := hown
  have hl : lv_has ls 4 [(0, .ref q_this), (1, .int p0), (2, .int p1), (3, .int p2)] := hl
  have hS : va_S xN s.heap s.heap [] := va_S.rf
  have ho : out = out := rfl
  unfold mX0_areLike at h
  refine lv_aload_n hx hb dX0_areLike_0 rfl (lv_at hl 0 rfl) ?_
  refine lv_iload_n hx hb dX0_areLike_1 rfl (lv_at hl 1 rfl) ?_
  refine lv_iload_n hx hb dX0_areLike_2 rfl (lv_at hl 2 rfl) ?_
  obtain ⟨r501, hr501, h⟩ := x_bind h
  have hPr501 : va_P (xD G) vwCl [(q_this, .inr (0, [.int days, .ref q_years, .ref q_months, .ref q_presses, .ref q_winds, .ref q_skies, .ref q_rains, .ref q_wires, .ref q_kinds])), (q_years, .inl (xy G 0, 60, .inl years))] s.heap := hP.sub [0, 1] rfl
  refine x_calli (va_runV (As := [.int p0, .int p1]) (rest := []) ⟨hx, hb, hml, hown, hts⟩ (kX0_inOtherYears l G s.heap hPr501 hr501) (cwV 2 hts gX0_areLike_X0_inOtherYears rfl rfl rfl (by decide +kernel) ⟨Nat.le_of_ble_eq_true rfl, Nat.le_of_ble_eq_true rfl⟩) (x_preV hE hS hP (ci := 0) (q0 := 0) rfl rfl) rfl rfl hl.1 rfl (lv_room (Nat.le_of_ble_eq_true rfl)) dX0_areLike_3 ⟨Nat.le_of_ble_eq_true rfl, Nat.le_of_ble_eq_true rfl⟩) ?_
  refine lv_if_eq (tgt := 25) hx hb dX0_areLike_6 (by decide) (fun hc502 => ?_) (fun hc502 => ?_)
  · replace h := (if_pos hc502).symm.trans h
    refine lv_iconst (v := 0) hx hb dX0_areLike_25 (by decide) ?_
    have hq : false = out := by cases h; exact ho
    subst hq
    exact x_zret (b := false) hx hb hr hlk rfl rfl rfl dX0_areLike_26
  · replace h := (if_neg hc502).symm.trans h
    refine lv_aload_n hx hb dX0_areLike_9 rfl (lv_at hl 0 rfl) ?_
    refine lv_iload_n hx hb dX0_areLike_10 rfl (lv_at hl 1 rfl) ?_
    refine lv_iload_n hx hb dX0_areLike_11 rfl (lv_at hl 2 rfl) ?_
    obtain ⟨r503, hr503, h⟩ := x_bind h
    have hPr503 : va_P (xD G) vwCl [(q_this, .inr (0, [.int days, .ref q_years, .ref q_months, .ref q_presses, .ref q_winds, .ref q_skies, .ref q_rains, .ref q_wires, .ref q_kinds])), (q_kinds, .inl (xy G 0, 60, .inl kinds))] s.heap := hP.sub [0, 2] rfl
    refine x_calli (va_runV (As := [.int p0, .int p1]) (rest := []) ⟨hx, hb, hml, hown, hts⟩ (kX0_alikeKeys l G s.heap hPr503 hr503) (cwV 2 hts gX0_areLike_X0_alikeKeys rfl rfl rfl (by decide +kernel) ⟨Nat.le_of_ble_eq_true rfl, Nat.le_of_ble_eq_true rfl⟩) (x_preV hE hS hP (ci := 0) (q0 := 0) rfl rfl) rfl rfl hl.1 rfl (lv_room (Nat.le_of_ble_eq_true rfl)) dX0_areLike_12 ⟨Nat.le_of_ble_eq_true rfl, Nat.le_of_ble_eq_true rfl⟩) ?_
    refine lv_iload_n hx hb dX0_areLike_15 rfl (lv_at hl 3 rfl) ?_
    refine lv_iand hx hb dX0_areLike_16 ?_
    refine lv_iload_n hx hb dX0_areLike_17 rfl (lv_at hl 3 rfl) ?_
    refine lv_icmp_ne (tgt := 25) hx hb dX0_areLike_18 (by decide) (fun hc504 => ?_) (fun hc504 => ?_)
    · replace h := (if_neg hc504).symm.trans h
      refine lv_iconst (v := 0) hx hb dX0_areLike_25 (by decide) ?_
      have hq : false = out := by cases h; exact ho
      subst hq
      exact x_zret (b := false) hx hb hr hlk rfl rfl rfl dX0_areLike_26
    · replace h := (if_pos hc504).symm.trans h
      refine lv_iconst (v := 1) hx hb dX0_areLike_21 (by decide) ?_
      refine lv_goto (tgt := 26) hx hb dX0_areLike_22 (by decide) ?_
      have hq : true = out := by cases h; exact ho
      subst hq
      exact x_zret (b := true) hx hb hr hlk rfl rfl rfl dX0_areLike_26
noncomputable def mX0_countLike_b39 (days : Int32) (years : Nat → Int32) (rains : Nat → Int32) (kinds : Nat → Int32) (v1 : Int32) (v2 : Int32) (v3 : Int32) (v4 : Int32) (v5 : Int32) : Option (((Int32) ⊕ (Int32 × Int32))) :=
  some (.inr (v4, (v5 + 1)))
noncomputable def mX0_countLike_s6 (days : Int32) (years : Nat → Int32) (rains : Nat → Int32) (kinds : Nat → Int32) (v1 : Int32) (v2 : Int32) (v3 : Int32) (v4 : Int32) (v5 : Int32) : Option (((Int32) ⊕ (Int32 × Int32))) :=
  if days ≤ v5 then (some (.inl v4)) else ((mX0_rainOf rains v5).bind (fun r202 => if r202 < v3 then (mX0_countLike_b39 days years rains kinds v1 v2 v3 v4 v5) else ((mX0_areLike years kinds v1 v5 v2).bind (fun r204 => if (xb r204) = 0 then (mX0_countLike_b39 days years rains kinds v1 v2 v3 v4 v5) else (mX0_countLike_b39 days years rains kinds v1 v2 v3 ((v4 + 1)) v5)))))
noncomputable def mX0_countLike_b6 (days : Int32) (years : Nat → Int32) (rains : Nat → Int32) (kinds : Nat → Int32) (v1 : Int32) (v2 : Int32) (v3 : Int32) (v4 : Int32) (v5 : Int32) : Option (Int32) :=
  x_loop (fun q : Int32 × Int32 => mX0_countLike_s6 days years rains kinds v1 v2 v3 (q.1) (q.2)) (v4, v5)
noncomputable def mX0_countLike (days : Int32) (years : Nat → Int32) (rains : Nat → Int32) (kinds : Nat → Int32) (p0 : Int32) (p1 : Int32) (p2 : Int32) : Option (Int32) :=
  mX0_countLike_b6 days years rains kinds p0 p1 p2 0 0
set_option maxHeartbeats 4000000 in
set_option maxRecDepth 100000 in
theorem kX0_countLike (l : Launch) (G : xG) (H0 : Heap) {q_this q_years q_months q_presses q_winds q_skies q_rains q_wires q_kinds : Nat} {days : Int32} {years : Nat → Int32} {rains : Nat → Int32} {kinds : Nat → Int32} {p0 : Int32} {p1 : Int32} {p2 : Int32} (hP : va_P (xD G) vwCl [(q_this, .inr (0, [.int days, .ref q_years, .ref q_months, .ref q_presses, .ref q_winds, .ref q_skies, .ref q_rains, .ref q_wires, .ref q_kinds])), (q_years, .inl (xy G 0, 60, .inl years)), (q_rains, .inl (xy G 0, 60, .inl rains)), (q_kinds, .inl (xy G 0, 60, .inl kinds))] H0) {out : Int32} (h : mX0_countLike days years rains kinds p0 p1 p2 = some out) : Met l yX0_countLike wsX0_countLike ({ frames := 3, cells := 0, slots := 0, locals := 71 }) (xPc G H0 [.ref q_this, .int p0, .int p1, .int p2]) (xQi H0 (out)) 0 0 xN := by
  refine x_met (by decide) rfl (Nat.le_of_ble_eq_true rfl) ?_
  intro p e s m below meth c ls hH hA hl
  obtain ⟨hx, hb, hr, hlk, hml, hown, hts, hE⟩ := hA
  subst hH
  have hown : s.vm.findClass RX0 = some m.cls := hown
  have hl : lv_has ls 6 [(0, .ref q_this), (1, .int p0), (2, .int p1), (3, .int p2)] := hl
  have hS : va_S xN s.heap s.heap [] := va_S.rf
  have ho : out = out := rfl
  have J6 : ∀ (v1 : Int32) (v2 : Int32) (v3 : Int32) (v4 : Int32) (v5 : Int32) (ls : Array Slot), lv_has ls 6 [(0, .ref q_this), (1, .int v1), (2, .int v2), (3, .int v3), (4, .int v4), (5, .int v5)] → ∀ o : Int32, mX0_countLike_b6 days years rains kinds v1 v2 v3 v4 v5 = some o → (fun z => z = out) o → xW p l e ({ frames := 3, cells := 0, slots := 0, locals := 71 }) s m [.ref q_this, .int p0, .int p1, .int p2] below meth c (xQi s.heap (out)) (F0 m 6 ls []) := by
    intro v1 v2 v3 v4 v5 ls hl o h ho
    unfold mX0_countLike_b6 at h
    refine x_loop_walk (K := (fun z => z = out)) (motive := fun q : Int32 × Int32 => ∀ ls : Array Slot, lv_has ls 6 [(0, .ref q_this), (1, .int (v1)), (2, .int (v2)), (3, .int (v3)), (4, .int (q.1)), (5, .int (q.2))] → xW p l e ({ frames := 3, cells := 0, slots := 0, locals := 71 }) s m [.ref q_this, .int p0, .int p1, .int p2] below meth c (xQi s.heap (out)) (F0 m 6 ls [])) ?_ h ho ls hl
    intro K1 e1 i1 q o h ho
    obtain ⟨v4, v5⟩ := q
    intro ls hl
    have hl : lv_has ls 6 [(0, .ref q_this), (1, .int v1), (2, .int v2), (3, .int v3), (4, .int v4), (5, .int v5)] := hl
    replace h : mX0_countLike_s6 days years rains kinds v1 v2 v3 v4 v5 = some o := h
    unfold mX0_countLike_s6 at h
    have J39 : ∀ (v4 : Int32) (v5 : Int32) (ls : Array Slot), lv_has ls 6 [(0, .ref q_this), (1, .int v1), (2, .int v2), (3, .int v3), (4, .int v4), (5, .int v5)] → ∀ o : ((Int32) ⊕ (Int32 × Int32)), mX0_countLike_b39 days years rains kinds v1 v2 v3 v4 v5 = some o → K1 o → xW p l e ({ frames := 3, cells := 0, slots := 0, locals := 71 }) s m [.ref q_this, .int p0, .int p1, .int p2] below meth c (xQi s.heap (out)) (F0 m 39 ls []) := by
      intro v4 v5 ls hl o h ho
      unfold mX0_countLike_b39 at h
      refine lv_iinc (v := (v5 + 1)) (lv' := [(5, .int (v5 + 1)), (0, .ref q_this), (1, .int v1), (2, .int v2), (3, .int v3), (4, .int v4)]) hx hb dX0_countLike_39 hl (k := 5) rfl rfl (by decide) rfl (fun ls hl => ?_)
      refine lv_goto (tgt := 6) hx hb dX0_countLike_42 (by decide) ?_
      exact i1 (v4, (v5 + 1)) (by cases h; exact ho) ls (lv_sub hl [1, 2, 3, 4, 5, 0] rfl)
    refine lv_iload hx hb dX0_countLike_6 (lv_at hl 5 rfl) ?_
    refine lv_aload_n hx hb dX0_countLike_8 rfl (lv_at hl 0 rfl) ?_
    refine va_get (D := xD G) (ci := 0) (v := .int days) (C := RX0) (T := TX0) (N := 9) hx hb hts (fun w9 h9 => (List.mem_cons_of_mem _ (List.mem_append_right _ h9))) hown hE.1 hP 0 rfl rfl 0 (by decide) (hts (.fieldLink RX0 36 "FallingGlass$Book" "days" "I") (List.mem_of_getElem? (i := 1) rfl)) (fun _ h9 => h9) rfl dX0_countLike_9 ?_
    refine lv_icmp_ge (tgt := 45) hx hb dX0_countLike_12 (by decide) (fun hc201 => ?_) (fun hc201 => ?_)
    · replace h := (if_pos hc201).symm.trans h
      refine lv_iload hx hb dX0_countLike_45 (lv_at hl 4 rfl) ?_
      have hq : v4 = out := by cases h; exact (e1 _ ho)
      subst hq
      exact x_iret hx hb hr hlk rfl rfl dX0_countLike_47
    · replace h := (if_neg hc201).symm.trans h
      refine lv_aload_n hx hb dX0_countLike_15 rfl (lv_at hl 0 rfl) ?_
      refine lv_iload hx hb dX0_countLike_16 (lv_at hl 5 rfl) ?_
      obtain ⟨r202, hr202, h⟩ := x_bind h
      have hPr202 : va_P (xD G) vwCl [(q_this, .inr (0, [.int days, .ref q_years, .ref q_months, .ref q_presses, .ref q_winds, .ref q_skies, .ref q_rains, .ref q_wires, .ref q_kinds])), (q_rains, .inl (xy G 0, 60, .inl rains))] s.heap := hP.sub [0, 2] rfl
      refine x_calli (va_runV (As := [.int v5]) (rest := []) ⟨hx, hb, hml, hown, hts⟩ (kX0_rainOf l G s.heap hPr202 hr202) (cwV 1 hts gX0_countLike_X0_rainOf rfl rfl rfl (by decide +kernel) ⟨Nat.le_of_ble_eq_true rfl, Nat.le_of_ble_eq_true rfl⟩) (x_preV hE hS hP (ci := 0) (q0 := 0) rfl rfl) rfl rfl hl.1 rfl (lv_room (Nat.le_of_ble_eq_true rfl)) dX0_countLike_18 ⟨Nat.le_of_ble_eq_true rfl, Nat.le_of_ble_eq_true rfl⟩) ?_
      refine lv_iload_n hx hb dX0_countLike_21 rfl (lv_at hl 3 rfl) ?_
      refine lv_icmp_lt (tgt := 39) hx hb dX0_countLike_22 (by decide) (fun hc203 => ?_) (fun hc203 => ?_)
      · replace h := (if_pos hc203).symm.trans h
        exact J39 v4 v5 ls (lv_sub hl [0, 1, 2, 3, 4, 5] rfl) _ h ho
      · replace h := (if_neg hc203).symm.trans h
        refine lv_aload_n hx hb dX0_countLike_25 rfl (lv_at hl 0 rfl) ?_
        refine lv_iload_n hx hb dX0_countLike_26 rfl (lv_at hl 1 rfl) ?_
        refine lv_iload hx hb dX0_countLike_27 (lv_at hl 5 rfl) ?_
        refine lv_iload_n hx hb dX0_countLike_29 rfl (lv_at hl 2 rfl) ?_
        obtain ⟨r204, hr204, h⟩ := x_bind h
        have hPr204 : va_P (xD G) vwCl [(q_this, .inr (0, [.int days, .ref q_years, .ref q_months, .ref q_presses, .ref q_winds, .ref q_skies, .ref q_rains, .ref q_wires, .ref q_kinds])), (q_years, .inl (xy G 0, 60, .inl years)), (q_kinds, .inl (xy G 0, 60, .inl kinds))] s.heap := hP.sub [0, 1, 3] rfl
        refine x_calli (va_runV (As := [.int v1, .int v5, .int v2]) (rest := []) ⟨hx, hb, hml, hown, hts⟩ (kX0_areLike l G s.heap hPr204 hr204) (cwV 3 hts gX0_countLike_X0_areLike rfl rfl rfl (by decide +kernel) ⟨Nat.le_of_ble_eq_true rfl, Nat.le_of_ble_eq_true rfl⟩) (x_preV hE hS hP (ci := 0) (q0 := 0) rfl rfl) rfl rfl hl.1 rfl (lv_room (Nat.le_of_ble_eq_true rfl)) dX0_countLike_30 ⟨Nat.le_of_ble_eq_true rfl, Nat.le_of_ble_eq_true rfl⟩) ?_
        refine lv_if_eq (tgt := 39) hx hb dX0_countLike_33 (by decide) (fun hc205 => ?_) (fun hc205 => ?_)
        · replace h := (if_pos hc205).symm.trans h
          exact J39 v4 v5 ls (lv_sub hl [0, 1, 2, 3, 4, 5] rfl) _ h ho
        · replace h := (if_neg hc205).symm.trans h
          refine lv_iinc (v := (v4 + 1)) (lv' := [(4, .int (v4 + 1)), (0, .ref q_this), (1, .int v1), (2, .int v2), (3, .int v3), (5, .int v5)]) hx hb dX0_countLike_36 hl (k := 4) rfl rfl (by decide) rfl (fun ls hl => ?_)
          exact J39 ((v4 + 1)) v5 ls (lv_sub hl [1, 2, 3, 4, 0, 5] rfl) _ h ho
  unfold mX0_countLike at h
  refine lv_iconst (v := 0) hx hb dX0_countLike_0 (by decide) ?_
  refine lv_istore (lv' := [(4, .int 0), (0, .ref q_this), (1, .int p0), (2, .int p1), (3, .int p2)]) hx hb dX0_countLike_1 hl (by decide) rfl (fun ls hl => ?_)
  refine lv_iconst (v := 0) hx hb dX0_countLike_3 (by decide) ?_
  refine lv_istore (lv' := [(5, .int 0), (4, .int 0), (0, .ref q_this), (1, .int p0), (2, .int p1), (3, .int p2)]) hx hb dX0_countLike_4 hl (by decide) rfl (fun ls hl => ?_)
  exact J6 p0 p1 p2 0 0 ls (lv_sub hl [2, 3, 4, 5, 1, 0] rfl) _ h ho
noncomputable def mX0_likeOdds_b42 (days : Int32) (years : Nat → Int32) (rains : Nat → Int32) (kinds : Nat → Int32) (v1 : Int32) (v2 : Int32) (v3 : Int32) (v4 : Int32) (v5 : Int32) : Option (((Int32) ⊕ (Int32 × Int32 × Int32))) :=
  some (.inr (v3, v4, (v5 + 1)))
noncomputable def mX0_likeOdds_s8 (days : Int32) (years : Nat → Int32) (rains : Nat → Int32) (kinds : Nat → Int32) (v1 : Int32) (v2 : Int32) (v3 : Int32) (v4 : Int32) (v5 : Int32) : Option (((Int32) ⊕ (Int32 × Int32 × Int32))) :=
  if days ≤ v5 then ((mX9_thousandths v4 v3).bind (fun r202 => some (.inl r202))) else ((mX0_areLike years kinds v1 v5 v2).bind (fun r203 => if (xb r203) = 0 then (mX0_likeOdds_b42 days years rains kinds v1 v2 v3 v4 v5) else ((mX0_rainOf rains v5).bind (fun r205 => mX0_likeOdds_b42 days years rains kinds v1 v2 ((v3 + 1)) ((v4 + r205)) v5))))
noncomputable def mX0_likeOdds_b8 (days : Int32) (years : Nat → Int32) (rains : Nat → Int32) (kinds : Nat → Int32) (v1 : Int32) (v2 : Int32) (v3 : Int32) (v4 : Int32) (v5 : Int32) : Option (Int32) :=
  x_loop (fun q : Int32 × Int32 × Int32 => mX0_likeOdds_s8 days years rains kinds v1 v2 (q.1) (q.2.1) (q.2.2)) (v3, v4, v5)
noncomputable def mX0_likeOdds (days : Int32) (years : Nat → Int32) (rains : Nat → Int32) (kinds : Nat → Int32) (p0 : Int32) (p1 : Int32) : Option (Int32) :=
  mX0_likeOdds_b8 days years rains kinds p0 p1 0 0 0
set_option maxHeartbeats 4000000 in
set_option maxRecDepth 100000 in
theorem kX0_likeOdds (l : Launch) (G : xG) (H0 : Heap) {q_this q_years q_months q_presses q_winds q_skies q_rains q_wires q_kinds : Nat} {days : Int32} {years : Nat → Int32} {rains : Nat → Int32} {kinds : Nat → Int32} {p0 : Int32} {p1 : Int32} (hP : va_P (xD G) vwCl [(q_this, .inr (0, [.int days, .ref q_years, .ref q_months, .ref q_presses, .ref q_winds, .ref q_skies, .ref q_rains, .ref q_wires, .ref q_kinds])), (q_years, .inl (xy G 0, 60, .inl years)), (q_rains, .inl (xy G 0, 60, .inl rains)), (q_kinds, .inl (xy G 0, 60, .inl kinds))] H0) {out : Int32} (h : mX0_likeOdds days years rains kinds p0 p1 = some out) : Met l yX0_likeOdds wsX0_likeOdds ({ frames := 3, cells := 0, slots := 0, locals := 71 }) (xPc G H0 [.ref q_this, .int p0, .int p1]) (xQi H0 (out)) 0 0 xN := by
  refine x_met (by decide) rfl (Nat.le_of_ble_eq_true rfl) ?_
  intro p e s m below meth c ls hH hA hl
  obtain ⟨hx, hb, hr, hlk, hml, hown, hts, hE⟩ := hA
  subst hH
  have hown : s.vm.findClass RX0 = some m.cls := hown
  have hl : lv_has ls 6 [(0, .ref q_this), (1, .int p0), (2, .int p1)] := hl
  have hS : va_S xN s.heap s.heap [] := va_S.rf
  have ho : out = out := rfl
  have J8 : ∀ (v1 : Int32) (v2 : Int32) (v3 : Int32) (v4 : Int32) (v5 : Int32) (ls : Array Slot), lv_has ls 6 [(0, .ref q_this), (1, .int v1), (2, .int v2), (3, .int v3), (4, .int v4), (5, .int v5)] → ∀ o : Int32, mX0_likeOdds_b8 days years rains kinds v1 v2 v3 v4 v5 = some o → (fun z => z = out) o → xW p l e ({ frames := 3, cells := 0, slots := 0, locals := 71 }) s m [.ref q_this, .int p0, .int p1] below meth c (xQi s.heap (out)) (F0 m 8 ls []) := by
    intro v1 v2 v3 v4 v5 ls hl o h ho
    unfold mX0_likeOdds_b8 at h
    refine x_loop_walk (K := (fun z => z = out)) (motive := fun q : Int32 × Int32 × Int32 => ∀ ls : Array Slot, lv_has ls 6 [(0, .ref q_this), (1, .int (v1)), (2, .int (v2)), (3, .int (q.1)), (4, .int (q.2.1)), (5, .int (q.2.2))] → xW p l e ({ frames := 3, cells := 0, slots := 0, locals := 71 }) s m [.ref q_this, .int p0, .int p1] below meth c (xQi s.heap (out)) (F0 m 8 ls [])) ?_ h ho ls hl
    intro K1 e1 i1 q o h ho
    obtain ⟨v3, v4, v5⟩ := q
    intro ls hl
    have hl : lv_has ls 6 [(0, .ref q_this), (1, .int v1), (2, .int v2), (3, .int v3), (4, .int v4), (5, .int v5)] := hl
    replace h : mX0_likeOdds_s8 days years rains kinds v1 v2 v3 v4 v5 = some o := h
    unfold mX0_likeOdds_s8 at h
    have J42 : ∀ (v3 : Int32) (v4 : Int32) (v5 : Int32) (ls : Array Slot), lv_has ls 6 [(0, .ref q_this), (1, .int v1), (2, .int v2), (3, .int v3), (4, .int v4), (5, .int v5)] → ∀ o : ((Int32) ⊕ (Int32 × Int32 × Int32)), mX0_likeOdds_b42 days years rains kinds v1 v2 v3 v4 v5 = some o → K1 o → xW p l e ({ frames := 3, cells := 0, slots := 0, locals := 71 }) s m [.ref q_this, .int p0, .int p1] below meth c (xQi s.heap (out)) (F0 m 42 ls []) := by
      intro v3 v4 v5 ls hl o h ho
      unfold mX0_likeOdds_b42 at h
      refine lv_iinc (v := (v5 + 1)) (lv' := [(5, .int (v5 + 1)), (0, .ref q_this), (1, .int v1), (2, .int v2), (3, .int v3), (4, .int v4)]) hx hb dX0_likeOdds_42 hl (k := 5) rfl rfl (by decide) rfl (fun ls hl => ?_)
      refine lv_goto (tgt := 8) hx hb dX0_likeOdds_45 (by decide) ?_
      exact i1 (v3, v4, (v5 + 1)) (by cases h; exact ho) ls (lv_sub hl [1, 2, 3, 4, 5, 0] rfl)
    refine lv_iload hx hb dX0_likeOdds_8 (lv_at hl 5 rfl) ?_
    refine lv_aload_n hx hb dX0_likeOdds_10 rfl (lv_at hl 0 rfl) ?_
    refine va_get (D := xD G) (ci := 0) (v := .int days) (C := RX0) (T := TX0) (N := 9) hx hb hts (fun w9 h9 => (List.mem_cons_of_mem _ (List.mem_append_right _ h9))) hown hE.1 hP 0 rfl rfl 0 (by decide) (hts (.fieldLink RX0 36 "FallingGlass$Book" "days" "I") (List.mem_of_getElem? (i := 1) rfl)) (fun _ h9 => h9) rfl dX0_likeOdds_11 ?_
    refine lv_icmp_ge (tgt := 48) hx hb dX0_likeOdds_14 (by decide) (fun hc201 => ?_) (fun hc201 => ?_)
    · replace h := (if_pos hc201).symm.trans h
      refine lv_iload hx hb dX0_likeOdds_48 (lv_at hl 4 rfl) ?_
      refine lv_iload_n hx hb dX0_likeOdds_50 rfl (lv_at hl 3 rfl) ?_
      obtain ⟨r202, hr202, h⟩ := x_bind h
      refine x_calli (va_runSN (As := [.int v4, .int v3]) (rest := []) ⟨hx, hb, hml, hown, hts⟩ (kX9_thousandths l G s.heap hr202) ⟨va_cnB 2 hts gX0_likeOdds_X9_thousandths_n91 rfl rfl rfl (hE.nm 5 rfl) (hts (.initialized RX9) (List.mem_of_getElem? (i := 13) rfl)) (by decide +kernel) ⟨Nat.le_of_ble_eq_true rfl, Nat.le_of_ble_eq_true rfl⟩, (hts (.static yX9_thousandths) (List.mem_of_getElem? (i := 25) rfl)), trivial⟩ (x_preS hE hS) rfl rfl hl.1 rfl (lv_room (Nat.le_of_ble_eq_true rfl)) dX0_likeOdds_51 ⟨Nat.le_of_ble_eq_true rfl, Nat.le_of_ble_eq_true rfl⟩) ?_
      have hq : r202 = out := by cases h; exact (e1 _ ho)
      subst hq
      exact x_iret hx hb hr hlk rfl rfl dX0_likeOdds_54
    · replace h := (if_neg hc201).symm.trans h
      refine lv_aload_n hx hb dX0_likeOdds_17 rfl (lv_at hl 0 rfl) ?_
      refine lv_iload_n hx hb dX0_likeOdds_18 rfl (lv_at hl 1 rfl) ?_
      refine lv_iload hx hb dX0_likeOdds_19 (lv_at hl 5 rfl) ?_
      refine lv_iload_n hx hb dX0_likeOdds_21 rfl (lv_at hl 2 rfl) ?_
      obtain ⟨r203, hr203, h⟩ := x_bind h
      have hPr203 : va_P (xD G) vwCl [(q_this, .inr (0, [.int days, .ref q_years, .ref q_months, .ref q_presses, .ref q_winds, .ref q_skies, .ref q_rains, .ref q_wires, .ref q_kinds])), (q_years, .inl (xy G 0, 60, .inl years)), (q_kinds, .inl (xy G 0, 60, .inl kinds))] s.heap := hP.sub [0, 1, 3] rfl
      refine x_calli (va_runV (As := [.int v1, .int v5, .int v2]) (rest := []) ⟨hx, hb, hml, hown, hts⟩ (kX0_areLike l G s.heap hPr203 hr203) (cwV 3 hts gX0_likeOdds_X0_areLike rfl rfl rfl (by decide +kernel) ⟨Nat.le_of_ble_eq_true rfl, Nat.le_of_ble_eq_true rfl⟩) (x_preV hE hS hP (ci := 0) (q0 := 0) rfl rfl) rfl rfl hl.1 rfl (lv_room (Nat.le_of_ble_eq_true rfl)) dX0_likeOdds_22 ⟨Nat.le_of_ble_eq_true rfl, Nat.le_of_ble_eq_true rfl⟩) ?_
      refine lv_if_eq (tgt := 42) hx hb dX0_likeOdds_25 (by decide) (fun hc204 => ?_) (fun hc204 => ?_)
      · replace h := (if_pos hc204).symm.trans h
        exact J42 v3 v4 v5 ls (lv_sub hl [0, 1, 2, 3, 4, 5] rfl) _ h ho
      · replace h := (if_neg hc204).symm.trans h
        refine lv_iinc (v := (v3 + 1)) (lv' := [(3, .int (v3 + 1)), (0, .ref q_this), (1, .int v1), (2, .int v2), (4, .int v4), (5, .int v5)]) hx hb dX0_likeOdds_28 hl (k := 3) rfl rfl (by decide) rfl (fun ls hl => ?_)
        refine lv_iload hx hb dX0_likeOdds_31 (lv_at hl 4 rfl) ?_
        refine lv_aload_n hx hb dX0_likeOdds_33 rfl (lv_at hl 1 rfl) ?_
        refine lv_iload hx hb dX0_likeOdds_34 (lv_at hl 5 rfl) ?_
        obtain ⟨r205, hr205, h⟩ := x_bind h
        have hPr205 : va_P (xD G) vwCl [(q_this, .inr (0, [.int days, .ref q_years, .ref q_months, .ref q_presses, .ref q_winds, .ref q_skies, .ref q_rains, .ref q_wires, .ref q_kinds])), (q_rains, .inl (xy G 0, 60, .inl rains))] s.heap := hP.sub [0, 2] rfl
        refine x_calli (va_runV (As := [.int v5]) (rest := [.int v4]) ⟨hx, hb, hml, hown, hts⟩ (kX0_rainOf l G s.heap hPr205 hr205) (cwV 1 hts gX0_likeOdds_X0_rainOf rfl rfl rfl (by decide +kernel) ⟨Nat.le_of_ble_eq_true rfl, Nat.le_of_ble_eq_true rfl⟩) (x_preV hE hS hP (ci := 0) (q0 := 0) rfl rfl) rfl rfl hl.1 rfl (lv_room (Nat.le_of_ble_eq_true rfl)) dX0_likeOdds_36 ⟨Nat.le_of_ble_eq_true rfl, Nat.le_of_ble_eq_true rfl⟩) ?_
        refine lv_iadd hx hb dX0_likeOdds_39 ?_
        refine lv_istore (lv' := [(4, .int (v4 + r205)), (3, .int (v3 + 1)), (0, .ref q_this), (1, .int v1), (2, .int v2), (5, .int v5)]) hx hb dX0_likeOdds_40 hl (by decide) rfl (fun ls hl => ?_)
        exact J42 ((v3 + 1)) ((v4 + r205)) v5 ls (lv_sub hl [2, 3, 4, 1, 0, 5] rfl) _ h ho
  unfold mX0_likeOdds at h
  refine lv_iconst (v := 0) hx hb dX0_likeOdds_0 (by decide) ?_
  refine lv_istore_n (lv' := [(3, .int 0), (0, .ref q_this), (1, .int p0), (2, .int p1)]) hx hb dX0_likeOdds_1 rfl hl (by decide) rfl (fun ls hl => ?_)
  refine lv_iconst (v := 0) hx hb dX0_likeOdds_2 (by decide) ?_
  refine lv_istore (lv' := [(4, .int 0), (3, .int 0), (0, .ref q_this), (1, .int p0), (2, .int p1)]) hx hb dX0_likeOdds_3 hl (by decide) rfl (fun ls hl => ?_)
  refine lv_iconst (v := 0) hx hb dX0_likeOdds_5 (by decide) ?_
  refine lv_istore (lv' := [(5, .int 0), (4, .int 0), (3, .int 0), (0, .ref q_this), (1, .int p0), (2, .int p1)]) hx hb dX0_likeOdds_6 hl (by decide) rfl (fun ls hl => ?_)
  exact J8 p0 p1 0 0 0 ls (lv_sub hl [3, 4, 5, 2, 1, 0] rfl) _ h ho
noncomputable def mX0_monthOdds_b58 (days : Int32) (years : Nat → Int32) (months : Nat → Int32) (rains : Nat → Int32) (v1 : Int32) (v2 : Int32) (v3 : Int32) (v4 : Int32) : Option (((Int32) ⊕ (Int32 × Int32 × Int32))) :=
  some (.inr (v2, v3, (v4 + 1)))
noncomputable def mX0_monthOdds_s7 (days : Int32) (years : Nat → Int32) (months : Nat → Int32) (rains : Nat → Int32) (v1 : Int32) (v2 : Int32) (v3 : Int32) (v4 : Int32) : Option (((Int32) ⊕ (Int32 × Int32 × Int32))) :=
  if days ≤ v4 then ((mX9_thousandths v3 v2).bind (fun r202 => some (.inl r202))) else ((mX0_inOtherYears years v1 v4).bind (fun r203 => if (xb r203) = 0 then (mX0_monthOdds_b58 days years months rains v1 v2 v3 v4) else ((mX9_at 60 months v1).bind (fun r205 => (mX9_at 60 months v4).bind (fun r206 => if r205 = r206 then ((mX0_rainOf rains v4).bind (fun r208 => mX0_monthOdds_b58 days years months rains v1 ((v2 + 1)) ((v3 + r208)) v4)) else (mX0_monthOdds_b58 days years months rains v1 v2 v3 v4))))))
noncomputable def mX0_monthOdds_b7 (days : Int32) (years : Nat → Int32) (months : Nat → Int32) (rains : Nat → Int32) (v1 : Int32) (v2 : Int32) (v3 : Int32) (v4 : Int32) : Option (Int32) :=
  x_loop (fun q : Int32 × Int32 × Int32 => mX0_monthOdds_s7 days years months rains v1 (q.1) (q.2.1) (q.2.2)) (v2, v3, v4)
noncomputable def mX0_monthOdds (days : Int32) (years : Nat → Int32) (months : Nat → Int32) (rains : Nat → Int32) (p0 : Int32) : Option (Int32) :=
  mX0_monthOdds_b7 days years months rains p0 0 0 0
set_option maxHeartbeats 4000000 in
set_option maxRecDepth 100000 in
theorem kX0_monthOdds (l : Launch) (G : xG) (H0 : Heap) {q_this q_years q_months q_presses q_winds q_skies q_rains q_wires q_kinds : Nat} {days : Int32} {years : Nat → Int32} {months : Nat → Int32} {rains : Nat → Int32} {p0 : Int32} (hP : va_P (xD G) vwCl [(q_this, .inr (0, [.int days, .ref q_years, .ref q_months, .ref q_presses, .ref q_winds, .ref q_skies, .ref q_rains, .ref q_wires, .ref q_kinds])), (q_years, .inl (xy G 0, 60, .inl years)), (q_months, .inl (xy G 0, 60, .inl months)), (q_rains, .inl (xy G 0, 60, .inl rains))] H0) {out : Int32} (h : mX0_monthOdds days years months rains p0 = some out) : Met l yX0_monthOdds wsX0_monthOdds ({ frames := 2, cells := 0, slots := 0, locals := 43 }) (xPc G H0 [.ref q_this, .int p0]) (xQi H0 (out)) 0 0 xN := by
  refine x_met (by decide) rfl (Nat.le_of_ble_eq_true rfl) ?_
  intro p e s m below meth c ls hH hA hl
  obtain ⟨hx, hb, hr, hlk, hml, hown, hts, hE⟩ := hA
  subst hH
  have hown : s.vm.findClass RX0 = some m.cls := hown
  have hl : lv_has ls 5 [(0, .ref q_this), (1, .int p0)] := hl
  have hS : va_S xN s.heap s.heap [] := va_S.rf
  have ho : out = out := rfl
  have J7 : ∀ (v1 : Int32) (v2 : Int32) (v3 : Int32) (v4 : Int32) (ls : Array Slot), lv_has ls 5 [(0, .ref q_this), (1, .int v1), (2, .int v2), (3, .int v3), (4, .int v4)] → ∀ o : Int32, mX0_monthOdds_b7 days years months rains v1 v2 v3 v4 = some o → (fun z => z = out) o → xW p l e ({ frames := 2, cells := 0, slots := 0, locals := 43 }) s m [.ref q_this, .int p0] below meth c (xQi s.heap (out)) (F0 m 7 ls []) := by
    intro v1 v2 v3 v4 ls hl o h ho
    unfold mX0_monthOdds_b7 at h
    refine x_loop_walk (K := (fun z => z = out)) (motive := fun q : Int32 × Int32 × Int32 => ∀ ls : Array Slot, lv_has ls 5 [(0, .ref q_this), (1, .int (v1)), (2, .int (q.1)), (3, .int (q.2.1)), (4, .int (q.2.2))] → xW p l e ({ frames := 2, cells := 0, slots := 0, locals := 43 }) s m [.ref q_this, .int p0] below meth c (xQi s.heap (out)) (F0 m 7 ls [])) ?_ h ho ls hl
    intro K1 e1 i1 q o h ho
    obtain ⟨v2, v3, v4⟩ := q
    intro ls hl
    have hl : lv_has ls 5 [(0, .ref q_this), (1, .int v1), (2, .int v2), (3, .int v3), (4, .int v4)] := hl
    replace h : mX0_monthOdds_s7 days years months rains v1 v2 v3 v4 = some o := h
    unfold mX0_monthOdds_s7 at h
    have J58 : ∀ (v2 : Int32) (v3 : Int32) (v4 : Int32) (ls : Array Slot), lv_has ls 5 [(0, .ref q_this), (1, .int v1), (2, .int v2), (3, .int v3), (4, .int v4)] → ∀ o : ((Int32) ⊕ (Int32 × Int32 × Int32)), mX0_monthOdds_b58 days years months rains v1 v2 v3 v4 = some o → K1 o → xW p l e ({ frames := 2, cells := 0, slots := 0, locals := 43 }) s m [.ref q_this, .int p0] below meth c (xQi s.heap (out)) (F0 m 58 ls []) := by
      intro v2 v3 v4 ls hl o h ho
      unfold mX0_monthOdds_b58 at h
      refine lv_iinc (v := (v4 + 1)) (lv' := [(4, .int (v4 + 1)), (0, .ref q_this), (1, .int v1), (2, .int v2), (3, .int v3)]) hx hb dX0_monthOdds_58 hl (k := 4) rfl rfl (by decide) rfl (fun ls hl => ?_)
      refine lv_goto (tgt := 7) hx hb dX0_monthOdds_61 (by decide) ?_
      exact i1 (v2, v3, (v4 + 1)) (by cases h; exact ho) ls (lv_sub hl [1, 2, 3, 4, 0] rfl)
    refine lv_iload hx hb dX0_monthOdds_7 (lv_at hl 4 rfl) ?_
    refine lv_aload_n hx hb dX0_monthOdds_9 rfl (lv_at hl 0 rfl) ?_
    refine va_get (D := xD G) (ci := 0) (v := .int days) (C := RX0) (T := TX0) (N := 9) hx hb hts (fun w9 h9 => (List.mem_cons_of_mem _ (List.mem_append_right _ h9))) hown hE.1 hP 0 rfl rfl 0 (by decide) (hts (.fieldLink RX0 36 "FallingGlass$Book" "days" "I") (List.mem_of_getElem? (i := 1) rfl)) (fun _ h9 => h9) rfl dX0_monthOdds_10 ?_
    refine lv_icmp_ge (tgt := 64) hx hb dX0_monthOdds_13 (by decide) (fun hc201 => ?_) (fun hc201 => ?_)
    · replace h := (if_pos hc201).symm.trans h
      refine lv_iload_n hx hb dX0_monthOdds_64 rfl (lv_at hl 3 rfl) ?_
      refine lv_iload_n hx hb dX0_monthOdds_65 rfl (lv_at hl 2 rfl) ?_
      obtain ⟨r202, hr202, h⟩ := x_bind h
      refine x_calli (va_runSN (As := [.int v3, .int v2]) (rest := []) ⟨hx, hb, hml, hown, hts⟩ (kX9_thousandths l G s.heap hr202) ⟨va_cnB 2 hts gX0_monthOdds_X9_thousandths_n91 rfl rfl rfl (hE.nm 5 rfl) (hts (.initialized RX9) (List.mem_of_getElem? (i := 10) rfl)) (by decide +kernel) ⟨Nat.le_of_ble_eq_true rfl, Nat.le_of_ble_eq_true rfl⟩, (hts (.static yX9_thousandths) (List.mem_of_getElem? (i := 17) rfl)), trivial⟩ (x_preS hE hS) rfl rfl hl.1 rfl (lv_room (Nat.le_of_ble_eq_true rfl)) dX0_monthOdds_66 ⟨Nat.le_of_ble_eq_true rfl, Nat.le_of_ble_eq_true rfl⟩) ?_
      have hq : r202 = out := by cases h; exact (e1 _ ho)
      subst hq
      exact x_iret hx hb hr hlk rfl rfl dX0_monthOdds_69
    · replace h := (if_neg hc201).symm.trans h
      refine lv_aload_n hx hb dX0_monthOdds_16 rfl (lv_at hl 0 rfl) ?_
      refine lv_iload_n hx hb dX0_monthOdds_17 rfl (lv_at hl 1 rfl) ?_
      refine lv_iload hx hb dX0_monthOdds_18 (lv_at hl 4 rfl) ?_
      obtain ⟨r203, hr203, h⟩ := x_bind h
      have hPr203 : va_P (xD G) vwCl [(q_this, .inr (0, [.int days, .ref q_years, .ref q_months, .ref q_presses, .ref q_winds, .ref q_skies, .ref q_rains, .ref q_wires, .ref q_kinds])), (q_years, .inl (xy G 0, 60, .inl years))] s.heap := hP.sub [0, 1] rfl
      refine x_calli (va_runV (As := [.int v1, .int v4]) (rest := []) ⟨hx, hb, hml, hown, hts⟩ (kX0_inOtherYears l G s.heap hPr203 hr203) (cwV 2 hts gX0_monthOdds_X0_inOtherYears rfl rfl rfl (by decide +kernel) ⟨Nat.le_of_ble_eq_true rfl, Nat.le_of_ble_eq_true rfl⟩) (x_preV hE hS hP (ci := 0) (q0 := 0) rfl rfl) rfl rfl hl.1 rfl (lv_room (Nat.le_of_ble_eq_true rfl)) dX0_monthOdds_20 ⟨Nat.le_of_ble_eq_true rfl, Nat.le_of_ble_eq_true rfl⟩) ?_
      refine lv_if_eq (tgt := 58) hx hb dX0_monthOdds_23 (by decide) (fun hc204 => ?_) (fun hc204 => ?_)
      · replace h := (if_pos hc204).symm.trans h
        exact J58 v2 v3 v4 ls (lv_sub hl [0, 1, 2, 3, 4] rfl) _ h ho
      · replace h := (if_neg hc204).symm.trans h
        refine lv_aload_n hx hb dX0_monthOdds_26 rfl (lv_at hl 0 rfl) ?_
        refine va_get (D := xD G) (ci := 0) (v := .ref q_months) (C := RX0) (T := TX0) (N := 9) hx hb hts (fun w9 h9 => (List.mem_cons_of_mem _ (List.mem_append_right _ h9))) hown hE.1 hP 0 rfl rfl 2 (by decide) (hts (.fieldLink RX0 15 "FallingGlass$Book" "months" "[I") (List.mem_of_getElem? (i := 2) rfl)) (fun _ h9 => h9) rfl dX0_monthOdds_27 ?_
        refine lv_iload_n hx hb dX0_monthOdds_30 rfl (lv_at hl 1 rfl) ?_
        obtain ⟨r205, hr205, h⟩ := x_bind h
        have hPr205 : va_P (xD G) vwCl [(q_months, .inl (xy G 0, 60, .inl months))] s.heap := hP.sub [2] rfl
        refine x_calli (va_runSN (As := [.ref q_months, .int v1]) (rest := []) ⟨hx, hb, hml, hown, hts⟩ (kX9_at l G s.heap hPr205 hr205) ⟨va_cnB 2 hts gX0_monthOdds_X9_at_n55 rfl rfl rfl (hE.nm 4 rfl) (hts (.initialized RX9) (List.mem_of_getElem? (i := 10) rfl)) (by decide +kernel) ⟨Nat.le_of_ble_eq_true rfl, Nat.le_of_ble_eq_true rfl⟩, (hts (.static yX9_at) (List.mem_of_getElem? (i := 9) rfl)), trivial⟩ (x_preS hE hS) rfl rfl hl.1 rfl (lv_room (Nat.le_of_ble_eq_true rfl)) dX0_monthOdds_31 ⟨Nat.le_of_ble_eq_true rfl, Nat.le_of_ble_eq_true rfl⟩) ?_
        refine lv_aload_n hx hb dX0_monthOdds_34 rfl (lv_at hl 0 rfl) ?_
        refine va_get (D := xD G) (ci := 0) (v := .ref q_months) (C := RX0) (T := TX0) (N := 9) hx hb hts (fun w9 h9 => (List.mem_cons_of_mem _ (List.mem_append_right _ h9))) hown hE.1 hP 0 rfl rfl 2 (by decide) (hts (.fieldLink RX0 15 "FallingGlass$Book" "months" "[I") (List.mem_of_getElem? (i := 2) rfl)) (fun _ h9 => h9) rfl dX0_monthOdds_35 ?_
        refine lv_iload hx hb dX0_monthOdds_38 (lv_at hl 4 rfl) ?_
        obtain ⟨r206, hr206, h⟩ := x_bind h
        have hPr206 : va_P (xD G) vwCl [(q_months, .inl (xy G 0, 60, .inl months))] s.heap := hP.sub [2] rfl
        refine x_calli (va_runSN (As := [.ref q_months, .int v4]) (rest := [.int r205]) ⟨hx, hb, hml, hown, hts⟩ (kX9_at l G s.heap hPr206 hr206) ⟨va_cnB 2 hts gX0_monthOdds_X9_at_n55 rfl rfl rfl (hE.nm 4 rfl) (hts (.initialized RX9) (List.mem_of_getElem? (i := 10) rfl)) (by decide +kernel) ⟨Nat.le_of_ble_eq_true rfl, Nat.le_of_ble_eq_true rfl⟩, (hts (.static yX9_at) (List.mem_of_getElem? (i := 9) rfl)), trivial⟩ (x_preS hE hS) rfl rfl hl.1 rfl (lv_room (Nat.le_of_ble_eq_true rfl)) dX0_monthOdds_40 ⟨Nat.le_of_ble_eq_true rfl, Nat.le_of_ble_eq_true rfl⟩) ?_
        refine lv_icmp_ne (tgt := 58) hx hb dX0_monthOdds_43 (by decide) (fun hc207 => ?_) (fun hc207 => ?_)
        · replace h := (if_neg hc207).symm.trans h
          exact J58 v2 v3 v4 ls (lv_sub hl [0, 1, 2, 3, 4] rfl) _ h ho
        · replace h := (if_pos hc207).symm.trans h
          refine lv_iinc (v := (v2 + 1)) (lv' := [(2, .int (v2 + 1)), (0, .ref q_this), (1, .int v1), (3, .int v3), (4, .int v4)]) hx hb dX0_monthOdds_46 hl (k := 2) rfl rfl (by decide) rfl (fun ls hl => ?_)
          refine lv_iload_n hx hb dX0_monthOdds_49 rfl (lv_at hl 3 rfl) ?_
          refine lv_aload_n hx hb dX0_monthOdds_50 rfl (lv_at hl 1 rfl) ?_
          refine lv_iload hx hb dX0_monthOdds_51 (lv_at hl 4 rfl) ?_
          obtain ⟨r208, hr208, h⟩ := x_bind h
          have hPr208 : va_P (xD G) vwCl [(q_this, .inr (0, [.int days, .ref q_years, .ref q_months, .ref q_presses, .ref q_winds, .ref q_skies, .ref q_rains, .ref q_wires, .ref q_kinds])), (q_rains, .inl (xy G 0, 60, .inl rains))] s.heap := hP.sub [0, 3] rfl
          refine x_calli (va_runV (As := [.int v4]) (rest := [.int v3]) ⟨hx, hb, hml, hown, hts⟩ (kX0_rainOf l G s.heap hPr208 hr208) (cwV 1 hts gX0_monthOdds_X0_rainOf rfl rfl rfl (by decide +kernel) ⟨Nat.le_of_ble_eq_true rfl, Nat.le_of_ble_eq_true rfl⟩) (x_preV hE hS hP (ci := 0) (q0 := 0) rfl rfl) rfl rfl hl.1 rfl (lv_room (Nat.le_of_ble_eq_true rfl)) dX0_monthOdds_53 ⟨Nat.le_of_ble_eq_true rfl, Nat.le_of_ble_eq_true rfl⟩) ?_
          refine lv_iadd hx hb dX0_monthOdds_56 ?_
          refine lv_istore_n (lv' := [(3, .int (v3 + r208)), (2, .int (v2 + 1)), (0, .ref q_this), (1, .int v1), (4, .int v4)]) hx hb dX0_monthOdds_57 rfl hl (by decide) rfl (fun ls hl => ?_)
          exact J58 ((v2 + 1)) ((v3 + r208)) v4 ls (lv_sub hl [2, 3, 1, 0, 4] rfl) _ h ho
  unfold mX0_monthOdds at h
  refine lv_iconst (v := 0) hx hb dX0_monthOdds_0 (by decide) ?_
  refine lv_istore_n (lv' := [(2, .int 0), (0, .ref q_this), (1, .int p0)]) hx hb dX0_monthOdds_1 rfl hl (by decide) rfl (fun ls hl => ?_)
  refine lv_iconst (v := 0) hx hb dX0_monthOdds_2 (by decide) ?_
  refine lv_istore_n (lv' := [(3, .int 0), (2, .int 0), (0, .ref q_this), (1, .int p0)]) hx hb dX0_monthOdds_3 rfl hl (by decide) rfl (fun ls hl => ?_)
  refine lv_iconst (v := 0) hx hb dX0_monthOdds_4 (by decide) ?_
  refine lv_istore (lv' := [(4, .int 0), (3, .int 0), (2, .int 0), (0, .ref q_this), (1, .int p0)]) hx hb dX0_monthOdds_5 hl (by decide) rfl (fun ls hl => ?_)
  exact J7 p0 0 0 0 ls (lv_sub hl [3, 4, 2, 1, 0] rfl) _ h ho
noncomputable def mX0_lotFrom_b36 (days : Int32) (years : Nat → Int32) (rains : Nat → Int32) (new1_all : Int32) (new1_taken : Int32) (new1_both : Int32) (new1_marked : Int32) (v1 : Int32) (v3 : Int32) (t1 : Int32) : Option (((Int32 × Int32 × Int32 × Int32) ⊕ (Int32 × Int32 × Int32 × Int32 × Int32))) :=
  (mX0_rainOf rains v3).bind (fun r101 => (mX5_add new1_all new1_taken new1_both new1_marked t1 r101).bind (fun r102 => some (.inr ((v3 + 1), r102.1, r102.2.1, r102.2.2.1, r102.2.2.2))))
noncomputable def mX0_lotFrom_s10 (days : Int32) (years : Nat → Int32) (rains : Nat → Int32) (v1 : Int32) (v3 : Int32) (new1_all : Int32) (new1_taken : Int32) (new1_both : Int32) (new1_marked : Int32) : Option (((Int32 × Int32 × Int32 × Int32) ⊕ (Int32 × Int32 × Int32 × Int32 × Int32))) :=
  if days ≤ v3 then (some (.inl (new1_all, new1_taken, new1_both, new1_marked))) else ((mX9_at 60 years v3).bind (fun r204 => if r204 < v1 then (mX0_lotFrom_b36 days years rains new1_all new1_taken new1_both new1_marked v1 v3 0) else (mX0_lotFrom_b36 days years rains new1_all new1_taken new1_both new1_marked v1 v3 1)))
noncomputable def mX0_lotFrom_b10 (days : Int32) (years : Nat → Int32) (rains : Nat → Int32) (new1_all : Int32) (new1_taken : Int32) (new1_both : Int32) (new1_marked : Int32) (v1 : Int32) (v3 : Int32) : Option (Int32 × Int32 × Int32 × Int32) :=
  x_loop (fun q : Int32 × Int32 × Int32 × Int32 × Int32 => mX0_lotFrom_s10 days years rains v1 (q.1) (q.2.1) (q.2.2.1) (q.2.2.2.1) (q.2.2.2.2)) (v3, new1_all, new1_taken, new1_both, new1_marked)
noncomputable def mX0_lotFrom (days : Int32) (years : Nat → Int32) (rains : Nat → Int32) (p0 : Int32) : Option (Int32 × Int32 × Int32 × Int32) :=
  mX0_lotFrom_b10 days years rains 0 0 0 0 p0 0
set_option maxHeartbeats 4000000 in
set_option maxRecDepth 100000 in
theorem kX0_lotFrom (l : Launch) (G : xG) (H0 : Heap) {q_this q_years q_months q_presses q_winds q_skies q_rains q_wires q_kinds : Nat} {days : Int32} {years : Nat → Int32} {rains : Nat → Int32} {p0 : Int32} (w0 : va_W) (hw0 : w0 = [(q_this, .inr (0, [.int days, .ref q_years, .ref q_months, .ref q_presses, .ref q_winds, .ref q_skies, .ref q_rains, .ref q_wires, .ref q_kinds])), (q_years, .inl (xy G 0, 60, .inl years)), (q_rains, .inl (xy G 0, 60, .inl rains))]) (hP : va_P (xD G) vwCl w0 H0) (hD : va_D (fun _ => True) w0) {out : Int32 × Int32 × Int32 × Int32} (h : mX0_lotFrom days years rains p0 = some out) : Met l yX0_lotFrom wsX0_lotFrom ({ frames := 2, cells := 1, slots := 4, locals := 42 }) (xPcw G (va_A w0 H0.size) H0 [.ref q_this, .int p0]) (xRr G (va_A w0 H0.size) (fun q => [(q_this, .inr (0, [.int days, .ref q_years, .ref q_months, .ref q_presses, .ref q_winds, .ref q_skies, .ref q_rains, .ref q_wires, .ref q_kinds])), (q_years, .inl (xy G 0, 60, .inl years)), (q_rains, .inl (xy G 0, 60, .inl rains))] ++ [(q, .inr (5, [.int out.1, .int out.2.1, .int out.2.2.1, .int out.2.2.2]))])) 1 4 (va_A w0 H0.size) := by
  refine x_metw (y := yX0_lotFrom) (ws := wsX0_lotFrom) (rm := { frames := 2, cells := 1, slots := 4, locals := 42 }) (G := G) (H0 := H0) (w0 := w0) (av := [.ref q_this, .int p0]) (mc := 1) (ms := 4) (Qc := (fun A => (xRr G A (fun q => [(q_this, .inr (0, [.int days, .ref q_years, .ref q_months, .ref q_presses, .ref q_winds, .ref q_skies, .ref q_rains, .ref q_wires, .ref q_kinds])), (q_years, .inl (xy G 0, 60, .inl years)), (q_rains, .inl (xy G 0, 60, .inl rains))] ++ [(q, .inr (5, [.int out.1, .int out.2.1, .int out.2.2.1, .int out.2.2.2]))])))) (by decide) rfl (Nat.le_of_ble_eq_true rfl) hP hD ?_
  clear hP hD
  intro p e s m below meth c ls A H locs hA hAt hnm hl hP hD hS
  subst hw0
  obtain ⟨hx, hb, hr, hlk, hml, hown, hts, hE⟩ := hAt
  have hown : s.vm.findClass RX0 = some m.cls := hown
  have hl : lv_has ls 4 [(0, .ref q_this), (1, .int p0)] := hl
  have ho : out = out := rfl
  have J10 : ∀ (q_new1 : Nat) (new1_all : Int32) (new1_taken : Int32) (new1_both : Int32) (new1_marked : Int32) (v1 : Int32) (v3 : Int32) (ls : Array Slot), lv_has ls 4 [(0, .ref q_this), (1, .int v1), (2, .ref q_new1), (3, .int v3)] → ∀ o : Int32 × Int32 × Int32 × Int32, mX0_lotFrom_b10 days years rains new1_all new1_taken new1_both new1_marked v1 v3 = some o → (fun z => z = out) o → ∀ (H : Heap) (locs : List Loc), va_P (xD G) vwCl [(q_this, .inr (0, [.int days, .ref q_years, .ref q_months, .ref q_presses, .ref q_winds, .ref q_skies, .ref q_rains, .ref q_wires, .ref q_kinds])), (q_years, .inl (xy G 0, 60, .inl years)), (q_rains, .inl (xy G 0, 60, .inl rains)), (q_new1, .inr (5, [.int new1_all, .int new1_taken, .int new1_both, .int new1_marked]))] H → va_D A [(q_this, .inr (0, [.int days, .ref q_years, .ref q_months, .ref q_presses, .ref q_winds, .ref q_skies, .ref q_rains, .ref q_wires, .ref q_kinds])), (q_years, .inl (xy G 0, 60, .inl years)), (q_rains, .inl (xy G 0, 60, .inl rains)), (q_new1, .inr (5, [.int new1_all, .int new1_taken, .int new1_both, .int new1_marked]))] → va_S A s.heap H locs → xV p l e ({ frames := 2, cells := 1, slots := 4, locals := 42 }) s m [.ref q_this, .int p0] below meth c H locs 1 4 1 4 A (xRr G A (fun q => [(q_this, .inr (0, [.int days, .ref q_years, .ref q_months, .ref q_presses, .ref q_winds, .ref q_skies, .ref q_rains, .ref q_wires, .ref q_kinds])), (q_years, .inl (xy G 0, 60, .inl years)), (q_rains, .inl (xy G 0, 60, .inl rains))] ++ [(q, .inr (5, [.int out.1, .int out.2.1, .int out.2.2.1, .int out.2.2.2]))])) (F0 m 10 ls []) := by
    intro q_new1 new1_all new1_taken new1_both new1_marked v1 v3 ls hl o h ho H locs hP hD hS
    unfold mX0_lotFrom_b10 at h
    refine x_loop_walk (K := (fun z => z = out)) (motive := fun q : Int32 × Int32 × Int32 × Int32 × Int32 => ∀ ls : Array Slot, lv_has ls 4 [(0, .ref q_this), (1, .int (v1)), (2, .ref q_new1), (3, .int (q.1))] → ∀ (H : Heap) (locs : List Loc), va_P (xD G) vwCl [(q_this, .inr (0, [.int days, .ref q_years, .ref q_months, .ref q_presses, .ref q_winds, .ref q_skies, .ref q_rains, .ref q_wires, .ref q_kinds])), (q_years, .inl (xy G 0, 60, .inl years)), (q_rains, .inl (xy G 0, 60, .inl rains)), (q_new1, .inr (5, [.int (q.2.1), .int (q.2.2.1), .int (q.2.2.2.1), .int (q.2.2.2.2)]))] H → va_D A [(q_this, .inr (0, [.int days, .ref q_years, .ref q_months, .ref q_presses, .ref q_winds, .ref q_skies, .ref q_rains, .ref q_wires, .ref q_kinds])), (q_years, .inl (xy G 0, 60, .inl years)), (q_rains, .inl (xy G 0, 60, .inl rains)), (q_new1, .inr (5, [.int (q.2.1), .int (q.2.2.1), .int (q.2.2.2.1), .int (q.2.2.2.2)]))] → va_S A s.heap H locs → xV p l e ({ frames := 2, cells := 1, slots := 4, locals := 42 }) s m [.ref q_this, .int p0] below meth c H locs 1 4 1 4 A (xRr G A (fun q => [(q_this, .inr (0, [.int days, .ref q_years, .ref q_months, .ref q_presses, .ref q_winds, .ref q_skies, .ref q_rains, .ref q_wires, .ref q_kinds])), (q_years, .inl (xy G 0, 60, .inl years)), (q_rains, .inl (xy G 0, 60, .inl rains))] ++ [(q, .inr (5, [.int out.1, .int out.2.1, .int out.2.2.1, .int out.2.2.2]))])) (F0 m 10 ls [])) ?_ h ho ls hl H locs hP hD hS
    clear hP hD hS
    intro K1 e1 i1 q o h ho
    obtain ⟨v3, new1_all, new1_taken, new1_both, new1_marked⟩ := q
    intro ls hl H locs hP hD hS
    have hl : lv_has ls 4 [(0, .ref q_this), (1, .int v1), (2, .ref q_new1), (3, .int v3)] := hl
    have hP : va_P (xD G) vwCl [(q_this, .inr (0, [.int days, .ref q_years, .ref q_months, .ref q_presses, .ref q_winds, .ref q_skies, .ref q_rains, .ref q_wires, .ref q_kinds])), (q_years, .inl (xy G 0, 60, .inl years)), (q_rains, .inl (xy G 0, 60, .inl rains)), (q_new1, .inr (5, [.int new1_all, .int new1_taken, .int new1_both, .int new1_marked]))] H := hP
    have hD : va_D A [(q_this, .inr (0, [.int days, .ref q_years, .ref q_months, .ref q_presses, .ref q_winds, .ref q_skies, .ref q_rains, .ref q_wires, .ref q_kinds])), (q_years, .inl (xy G 0, 60, .inl years)), (q_rains, .inl (xy G 0, 60, .inl rains)), (q_new1, .inr (5, [.int new1_all, .int new1_taken, .int new1_both, .int new1_marked]))] := hD
    replace h : mX0_lotFrom_s10 days years rains v1 v3 new1_all new1_taken new1_both new1_marked = some o := h
    unfold mX0_lotFrom_s10 at h
    have J36 : ∀ (new1_all : Int32) (new1_taken : Int32) (new1_both : Int32) (new1_marked : Int32) (v3 : Int32) (t1 : Int32) (ls : Array Slot), lv_has ls 4 [(0, .ref q_this), (1, .int v1), (2, .ref q_new1), (3, .int v3)] → ∀ o : ((Int32 × Int32 × Int32 × Int32) ⊕ (Int32 × Int32 × Int32 × Int32 × Int32)), mX0_lotFrom_b36 days years rains new1_all new1_taken new1_both new1_marked v1 v3 t1 = some o → K1 o → ∀ (H : Heap) (locs : List Loc), va_P (xD G) vwCl [(q_this, .inr (0, [.int days, .ref q_years, .ref q_months, .ref q_presses, .ref q_winds, .ref q_skies, .ref q_rains, .ref q_wires, .ref q_kinds])), (q_years, .inl (xy G 0, 60, .inl years)), (q_rains, .inl (xy G 0, 60, .inl rains)), (q_new1, .inr (5, [.int new1_all, .int new1_taken, .int new1_both, .int new1_marked]))] H → va_D A [(q_this, .inr (0, [.int days, .ref q_years, .ref q_months, .ref q_presses, .ref q_winds, .ref q_skies, .ref q_rains, .ref q_wires, .ref q_kinds])), (q_years, .inl (xy G 0, 60, .inl years)), (q_rains, .inl (xy G 0, 60, .inl rains)), (q_new1, .inr (5, [.int new1_all, .int new1_taken, .int new1_both, .int new1_marked]))] → va_S A s.heap H locs → xV p l e ({ frames := 2, cells := 1, slots := 4, locals := 42 }) s m [.ref q_this, .int p0] below meth c H locs 1 4 1 4 A (xRr G A (fun q => [(q_this, .inr (0, [.int days, .ref q_years, .ref q_months, .ref q_presses, .ref q_winds, .ref q_skies, .ref q_rains, .ref q_wires, .ref q_kinds])), (q_years, .inl (xy G 0, 60, .inl years)), (q_rains, .inl (xy G 0, 60, .inl rains))] ++ [(q, .inr (5, [.int out.1, .int out.2.1, .int out.2.2.1, .int out.2.2.2]))])) (F0 m 36 ls [.int t1, .ref q_new1]) := by
      intro new1_all new1_taken new1_both new1_marked v3 t1 ls hl o h ho H locs hP hD hS
      unfold mX0_lotFrom_b36 at h
      refine lv_aload_n hx hb dX0_lotFrom_36 rfl (lv_at hl 0 rfl) ?_
      refine lv_iload_n hx hb dX0_lotFrom_37 rfl (lv_at hl 3 rfl) ?_
      obtain ⟨r101, hr101, h⟩ := x_bind h
      have hPr101 : va_P (xD G) vwCl [(q_this, .inr (0, [.int days, .ref q_years, .ref q_months, .ref q_presses, .ref q_winds, .ref q_skies, .ref q_rains, .ref q_wires, .ref q_kinds])), (q_rains, .inl (xy G 0, 60, .inl rains))] H := hP.sub [0, 2] rfl
      refine x_calli (va_runV (As := [.int v3]) (rest := [.int t1, .ref q_new1]) ⟨hx, hb, hml, hown, hts⟩ (kX0_rainOf l G H hPr101 hr101) (cwV 1 hts gX0_lotFrom_X0_rainOf rfl rfl rfl (by decide +kernel) ⟨Nat.le_of_ble_eq_true rfl, Nat.le_of_ble_eq_true rfl⟩) (x_preV hE hS hP (ci := 0) (q0 := 0) rfl rfl) rfl rfl hl.1 rfl (lv_room (Nat.le_of_ble_eq_true rfl)) dX0_lotFrom_38 ⟨Nat.le_of_ble_eq_true rfl, Nat.le_of_ble_eq_true rfl⟩) ?_
      obtain ⟨r102, hr102, h⟩ := x_bind h
      have hPr102 : va_P (xD G) vwCl [(q_new1, .inr (5, [.int new1_all, .int new1_taken, .int new1_both, .int new1_marked]))] H := hP.sub [3] rfl
      have hDr102 : va_D A [(q_new1, .inr (5, [.int new1_all, .int new1_taken, .int new1_both, .int new1_marked]))] := hD.sub [3] (by decide) rfl
      have hFr102 := va_free (wc := [(q_new1, .inr (5, [.int new1_all, .int new1_taken, .int new1_both, .int new1_marked]))]) hD hS hA [3] rfl
      refine x_callwv (wc := [(q_new1, .inr (5, [.int new1_all, .int new1_taken, .int new1_both, .int new1_marked]))]) (w1 := [(q_new1, .inr (5, [.int r102.1, .int r102.2.1, .int r102.2.2.1, .int r102.2.2.2]))]) (ws' := [(q_this, .inr (0, [.int days, .ref q_years, .ref q_months, .ref q_presses, .ref q_winds, .ref q_skies, .ref q_rains, .ref q_wires, .ref q_kinds])), (q_years, .inl (xy G 0, 60, .inl years)), (q_rains, .inl (xy G 0, 60, .inl rains)), (q_new1, .inr (5, [.int r102.1, .int r102.2.1, .int r102.2.2.1, .int r102.2.2.2]))]) (va_runV (As := [.int t1, .int r101]) (rest := []) ⟨hx, hb, hml, hown, hts⟩ (kX5_add l G H [(q_new1, .inr (5, [.int new1_all, .int new1_taken, .int new1_both, .int new1_marked]))] rfl hPr102 (hDr102.weaken (fun _ _ _ _ => trivial)) hr102) (cwV 2 hts gX0_lotFrom_X5_add rfl rfl rfl (by decide +kernel) ⟨Nat.le_of_ble_eq_true rfl, Nat.le_of_ble_eq_true rfl⟩) (x_preVw hE hS hFr102 hP (ci := 5) (q0 := 3) rfl rfl) rfl rfl hl.1 rfl (lv_room (Nat.le_of_ble_eq_true rfl)) dX0_lotFrom_41 ⟨Nat.le_of_ble_eq_true rfl, Nat.le_of_ble_eq_true rfl⟩) hP hD hS hFr102 [3] [none, none, none, some 0] (n := 4) (by decide) rfl rfl rfl (fun H locs hP hD hS => ?_)
      refine lv_iinc (v := (v3 + 1)) (lv' := [(3, .int (v3 + 1)), (0, .ref q_this), (1, .int v1), (2, .ref q_new1)]) hx hb dX0_lotFrom_44 hl (k := 3) rfl rfl (by decide) rfl (fun ls hl => ?_)
      refine lv_goto (tgt := 10) hx hb dX0_lotFrom_47 (by decide) ?_
      have hP : va_P (xD G) vwCl [(q_this, .inr (0, [.int days, .ref q_years, .ref q_months, .ref q_presses, .ref q_winds, .ref q_skies, .ref q_rains, .ref q_wires, .ref q_kinds])), (q_years, .inl (xy G 0, 60, .inl years)), (q_rains, .inl (xy G 0, 60, .inl rains)), (q_new1, .inr (5, [.int r102.1, .int r102.2.1, .int r102.2.2.1, .int r102.2.2.2]))] H := hP
      exact i1 ((v3 + 1), r102.1, r102.2.1, r102.2.2.1, r102.2.2.2) (by cases h; exact ho) ls (lv_sub hl [1, 2, 3, 0] rfl) H locs hP hD hS
    refine lv_iload_n hx hb dX0_lotFrom_10 rfl (lv_at hl 3 rfl) ?_
    refine lv_aload_n hx hb dX0_lotFrom_11 rfl (lv_at hl 0 rfl) ?_
    refine va_get (D := xD G) (ci := 0) (v := .int days) (C := RX0) (T := TX0) (N := 9) hx hb hts (fun w9 h9 => (List.mem_cons_of_mem _ (List.mem_append_right _ h9))) hown hE.1 hP 0 rfl rfl 0 (by decide) (hts (.fieldLink RX0 36 "FallingGlass$Book" "days" "I") (List.mem_of_getElem? (i := 4) rfl)) (fun _ h9 => h9) rfl dX0_lotFrom_12 ?_
    refine lv_icmp_ge (tgt := 50) hx hb dX0_lotFrom_15 (by decide) (fun hc203 => ?_) (fun hc203 => ?_)
    · replace h := (if_pos hc203).symm.trans h
      refine lv_aload_n hx hb dX0_lotFrom_50 rfl (lv_at hl 2 rfl) ?_
      have hq : (new1_all, new1_taken, new1_both, new1_marked) = out := by cases h; exact (e1 _ ho)
      subst hq
      have hP : va_P (xD G) vwCl [(q_this, .inr (0, [.int days, .ref q_years, .ref q_months, .ref q_presses, .ref q_winds, .ref q_skies, .ref q_rains, .ref q_wires, .ref q_kinds])), (q_years, .inl (xy G 0, 60, .inl years)), (q_rains, .inl (xy G 0, 60, .inl rains)), (q_new1, .inr (5, [.int new1_all, .int new1_taken, .int new1_both, .int new1_marked]))] H := hP
      have hD : va_D A [(q_this, .inr (0, [.int days, .ref q_years, .ref q_months, .ref q_presses, .ref q_winds, .ref q_skies, .ref q_rains, .ref q_wires, .ref q_kinds])), (q_years, .inl (xy G 0, 60, .inl years)), (q_rains, .inl (xy G 0, 60, .inl rains)), (q_new1, .inr (5, [.int new1_all, .int new1_taken, .int new1_both, .int new1_marked]))] := hD
      exact x_rret hx hb hr (Or.inl ⟨_, rfl⟩) hlk hP hD hS dX0_lotFrom_51
    · replace h := (if_neg hc203).symm.trans h
      refine lv_aload_n hx hb dX0_lotFrom_18 rfl (lv_at hl 2 rfl) ?_
      refine lv_aload_n hx hb dX0_lotFrom_19 rfl (lv_at hl 0 rfl) ?_
      refine va_get (D := xD G) (ci := 0) (v := .ref q_years) (C := RX0) (T := TX0) (N := 9) hx hb hts (fun w9 h9 => (List.mem_cons_of_mem _ (List.mem_append_right _ h9))) hown hE.1 hP 0 rfl rfl 1 (by decide) (hts (.fieldLink RX0 9 "FallingGlass$Book" "years" "[I") (List.mem_of_getElem? (i := 5) rfl)) (fun _ h9 => h9) rfl dX0_lotFrom_20 ?_
      refine lv_iload_n hx hb dX0_lotFrom_23 rfl (lv_at hl 3 rfl) ?_
      obtain ⟨r204, hr204, h⟩ := x_bind h
      have hPr204 : va_P (xD G) vwCl [(q_years, .inl (xy G 0, 60, .inl years))] H := hP.sub [1] rfl
      refine x_calli (va_runSN (As := [.ref q_years, .int v3]) (rest := [.ref q_new1]) ⟨hx, hb, hml, hown, hts⟩ (kX9_at l G H hPr204 hr204) ⟨va_cnB 2 hts gX0_lotFrom_X9_at_n55 rfl rfl rfl (hE.nm 4 rfl) (hts (.initialized RX9) (List.mem_of_getElem? (i := 12) rfl)) (by decide +kernel) ⟨Nat.le_of_ble_eq_true rfl, Nat.le_of_ble_eq_true rfl⟩, (hts (.static yX9_at) (List.mem_of_getElem? (i := 11) rfl)), trivial⟩ (x_preS hE hS) rfl rfl hl.1 rfl (lv_room (Nat.le_of_ble_eq_true rfl)) dX0_lotFrom_24 ⟨Nat.le_of_ble_eq_true rfl, Nat.le_of_ble_eq_true rfl⟩) ?_
      refine lv_iload_n hx hb dX0_lotFrom_27 rfl (lv_at hl 1 rfl) ?_
      refine lv_icmp_lt (tgt := 35) hx hb dX0_lotFrom_28 (by decide) (fun hc205 => ?_) (fun hc205 => ?_)
      · replace h := (if_pos hc205).symm.trans h
        refine lv_iconst (v := 0) hx hb dX0_lotFrom_35 (by decide) ?_
        have hP : va_P (xD G) vwCl [(q_this, .inr (0, [.int days, .ref q_years, .ref q_months, .ref q_presses, .ref q_winds, .ref q_skies, .ref q_rains, .ref q_wires, .ref q_kinds])), (q_years, .inl (xy G 0, 60, .inl years)), (q_rains, .inl (xy G 0, 60, .inl rains)), (q_new1, .inr (5, [.int new1_all, .int new1_taken, .int new1_both, .int new1_marked]))] H := hP
        exact J36  new1_all new1_taken new1_both new1_marked v3 0 ls (lv_sub hl [0, 1, 2, 3] rfl) _ h ho H locs hP hD hS
      · replace h := (if_neg hc205).symm.trans h
        refine lv_iconst (v := 1) hx hb dX0_lotFrom_31 (by decide) ?_
        refine lv_goto (tgt := 36) hx hb dX0_lotFrom_32 (by decide) ?_
        have hP : va_P (xD G) vwCl [(q_this, .inr (0, [.int days, .ref q_years, .ref q_months, .ref q_presses, .ref q_winds, .ref q_skies, .ref q_rains, .ref q_wires, .ref q_kinds])), (q_years, .inl (xy G 0, 60, .inl years)), (q_rains, .inl (xy G 0, 60, .inl rains)), (q_new1, .inr (5, [.int new1_all, .int new1_taken, .int new1_both, .int new1_marked]))] H := hP
        exact J36  new1_all new1_taken new1_both new1_marked v3 1 ls (lv_sub hl [0, 1, 2, 3] rfl) _ h ho H locs hP hD hS
  unfold mX0_lotFrom at h
  refine va_new (D := xD G) (ci := 5) (fs := [.int 0, .int 0, .int 0, .int 0]) (C := RX5) (T := TX5) (N := 4) hx hb hts (fun w9 h9 => (List.mem_cons_of_mem _ (List.mem_append_left _ (List.mem_append_right _ h9)))) tyX5 tyX5_ok hown (hts (.classLink RX0 94 RX5) (List.mem_of_getElem? (i := 1) rfl)) (hts (.instantiable RX5 4) (List.mem_of_getElem? (i := 2) rfl)) (hts (.initialized RX5) (List.mem_of_getElem? (i := 3) rfl)) hE.1 hP hD hS hA rfl (fun j hj => match j, hj with | 0, _ => rfl | 1, _ => rfl | 2, _ => rfl | 3, _ => rfl | n + 4, h => absurd h (by omega)) (Nat.le_of_ble_eq_true rfl) (Nat.le_of_ble_eq_true rfl) dX0_lotFrom_0 (fun q_new1 H hP hD hS => ?_)
  have hP : va_P (xD G) vwCl [(q_this, .inr (0, [.int days, .ref q_years, .ref q_months, .ref q_presses, .ref q_winds, .ref q_skies, .ref q_rains, .ref q_wires, .ref q_kinds])), (q_years, .inl (xy G 0, 60, .inl years)), (q_rains, .inl (xy G 0, 60, .inl rains)), (q_new1, .inr (5, [.int 0, .int 0, .int 0, .int 0]))] H := hP
  have hD : va_D A [(q_this, .inr (0, [.int days, .ref q_years, .ref q_months, .ref q_presses, .ref q_winds, .ref q_skies, .ref q_rains, .ref q_wires, .ref q_kinds])), (q_years, .inl (xy G 0, 60, .inl years)), (q_rains, .inl (xy G 0, 60, .inl rains)), (q_new1, .inr (5, [.int 0, .int 0, .int 0, .int 0]))] := hD
  refine lv_dup hx hb dX0_lotFrom_3 rfl ?_
  have hPr501 : va_P (xD G) vwCl [(q_new1, .inr (5, [.int 0, .int 0, .int 0, .int 0]))] H := hP.sub [3] rfl
  have hDr501 : va_D A [(q_new1, .inr (5, [.int 0, .int 0, .int 0, .int 0]))] := hD.sub [3] (by decide) rfl
  have hFr501 := va_free (wc := [(q_new1, .inr (5, [.int 0, .int 0, .int 0, .int 0]))]) hD hS hA [3] rfl
  refine x_callwc (wc := [(q_new1, .inr (5, [.int 0, .int 0, .int 0, .int 0]))]) (c0 := (fun adr501 => [(q_new1, .inr (5, [.int 0, .int 0, .int 0, .int 0]))])) (wn := (fun _ => [])) (va_runIN (As := []) (rest := [.ref q_new1]) ⟨hx, hb, hml, hown, hts⟩ (kX5_init l G H [(q_new1, .inr (5, [.int 0, .int 0, .int 0, .int 0]))] rfl hPr501 (hDr501.weaken (fun _ _ _ _ => trivial))) ⟨va_cnB 0 hts gX0_lotFrom_X5_init_n96 rfl rfl rfl (hE.nm 6 rfl) (hts (.initialized RX5) (List.mem_of_getElem? (i := 3) rfl)) (by decide +kernel) ⟨Nat.le_of_ble_eq_true rfl, Nat.le_of_ble_eq_true rfl⟩, rfl, (hts (.instanceMethod yX5_init) (List.mem_of_getElem? (i := 6) rfl))⟩ (x_preSw hE hS hFr501) rfl rfl hl.1 rfl (lv_room (Nat.le_of_ble_eq_true rfl)) dX0_lotFrom_4 ⟨Nat.le_of_ble_eq_true rfl, Nat.le_of_ble_eq_true rfl⟩) hP hD hS hFr501 [3] [none, none, none, some 0] (n := 4) (by decide) rfl (fun _ => rfl) (fun adr501 H locs hP hD hS => ?_)
  have hP : va_P (xD G) vwCl [(q_this, .inr (0, [.int days, .ref q_years, .ref q_months, .ref q_presses, .ref q_winds, .ref q_skies, .ref q_rains, .ref q_wires, .ref q_kinds])), (q_years, .inl (xy G 0, 60, .inl years)), (q_rains, .inl (xy G 0, 60, .inl rains)), (q_new1, .inr (5, [.int 0, .int 0, .int 0, .int 0]))] H := hP
  have hD : va_D A [(q_this, .inr (0, [.int days, .ref q_years, .ref q_months, .ref q_presses, .ref q_winds, .ref q_skies, .ref q_rains, .ref q_wires, .ref q_kinds])), (q_years, .inl (xy G 0, 60, .inl years)), (q_rains, .inl (xy G 0, 60, .inl rains)), (q_new1, .inr (5, [.int 0, .int 0, .int 0, .int 0]))] := hD
  refine lv_astore_n (lv' := [(2, .ref q_new1), (0, .ref q_this), (1, .int p0)]) hx hb dX0_lotFrom_7 rfl hl (by decide) rfl (fun ls hl => ?_)
  refine lv_iconst (v := 0) hx hb dX0_lotFrom_8 (by decide) ?_
  refine lv_istore_n (lv' := [(3, .int 0), (2, .ref q_new1), (0, .ref q_this), (1, .int p0)]) hx hb dX0_lotFrom_9 rfl hl (by decide) rfl (fun ls hl => ?_)
  have hP : va_P (xD G) vwCl [(q_this, .inr (0, [.int days, .ref q_years, .ref q_months, .ref q_presses, .ref q_winds, .ref q_skies, .ref q_rains, .ref q_wires, .ref q_kinds])), (q_years, .inl (xy G 0, 60, .inl years)), (q_rains, .inl (xy G 0, 60, .inl rains)), (q_new1, .inr (5, [.int 0, .int 0, .int 0, .int 0]))] H := hP
  exact J10 q_new1 0 0 0 0 p0 0 ls (lv_sub hl [2, 3, 1, 0] rfl) _ h ho H locs hP hD hS
noncomputable def mX0_meant  (p0 : Int32) : Option (Int32) :=
  if 40 ≤ p0 then (if p0 < 60 then (some ((-6))) else (some 0)) else (some 1)
set_option maxHeartbeats 4000000 in
set_option maxRecDepth 100000 in
theorem kX0_meant (l : Launch) (G : xG) (H0 : Heap) {p0 : Int32} {out : Int32} (h : mX0_meant p0 = some out) : Met l yX0_meant wsX0_meant ({ frames := 0, cells := 0, slots := 0, locals := 0 }) (xPc G H0 [.int p0]) (xQi H0 (out)) 0 0 xN := by
  refine x_met (by decide) rfl (Nat.le_of_ble_eq_true rfl) ?_
  intro p e s m below meth c ls hH hA hl
  obtain ⟨hx, hb, hr, hlk, hml, hown, hts, hE⟩ := hA
  subst hH
  have hown : s.vm.findClass RX0 = some m.cls := hown
  have hl : lv_has ls 1 [(0, .int p0)] := hl
  have hS : va_S xN s.heap s.heap [] := va_S.rf
  have ho : out = out := rfl
  unfold mX0_meant at h
  refine lv_iload_n hx hb dX0_meant_0 rfl (lv_at hl 0 rfl) ?_
  refine lv_bipush (v := 40) hx hb dX0_meant_1 (by decide) ?_
  refine lv_icmp_ge (tgt := 10) hx hb dX0_meant_3 (by decide) (fun hc501 => ?_) (fun hc501 => ?_)
  · replace h := (if_pos hc501).symm.trans h
    refine lv_iload_n hx hb dX0_meant_10 rfl (lv_at hl 0 rfl) ?_
    refine lv_bipush (v := 60) hx hb dX0_meant_11 (by decide) ?_
    refine lv_icmp_lt (tgt := 20) hx hb dX0_meant_13 (by decide) (fun hc502 => ?_) (fun hc502 => ?_)
    · replace h := (if_pos hc502).symm.trans h
      refine lv_bipush (v := (-6)) hx hb dX0_meant_20 (by decide) ?_
      have hq : (-6) = out := by cases h; exact ho
      subst hq
      exact x_iret hx hb hr hlk rfl rfl dX0_meant_22
    · replace h := (if_neg hc502).symm.trans h
      refine lv_iconst (v := 0) hx hb dX0_meant_16 (by decide) ?_
      refine lv_goto (tgt := 22) hx hb dX0_meant_17 (by decide) ?_
      have hq : 0 = out := by cases h; exact ho
      subst hq
      exact x_iret hx hb hr hlk rfl rfl dX0_meant_22
  · replace h := (if_neg hc501).symm.trans h
    refine lv_iconst (v := 1) hx hb dX0_meant_6 (by decide) ?_
    refine lv_goto (tgt := 22) hx hb dX0_meant_7 (by decide) ?_
    have hq : 1 = out := by cases h; exact ho
    subst hq
    exact x_iret hx hb hr hlk rfl rfl dX0_meant_22
noncomputable def mX0_countRight_b47 (days : Int32) (presses : Nat → Int32) (rains : Nat → Int32) (v1 : Int32) (v2 : Int32) (v3 : Int32) : Option (((Int32) ⊕ (Int32 × Int32))) :=
  some (.inr (v2, (v3 + 1)))
noncomputable def mX0_countRight_s4 (days : Int32) (presses : Nat → Int32) (rains : Nat → Int32) (v1 : Int32) (v2 : Int32) (v3 : Int32) : Option (((Int32) ⊕ (Int32 × Int32))) :=
  if days ≤ v3 then (some (.inl v2)) else ((mX9_at 60 presses v3).bind (fun r202 => if r202 = (-6) then (mX0_countRight_b47 days presses rains v1 v2 v3) else ((mX0_meant ((r202 + v1))).bind (fun r204 => (mX0_rainOf rains v3).bind (fun r205 => if r204 = r205 then (mX0_countRight_b47 days presses rains v1 ((v2 + 1)) v3) else (mX0_countRight_b47 days presses rains v1 v2 v3))))))
noncomputable def mX0_countRight_b4 (days : Int32) (presses : Nat → Int32) (rains : Nat → Int32) (v1 : Int32) (v2 : Int32) (v3 : Int32) : Option (Int32) :=
  x_loop (fun q : Int32 × Int32 => mX0_countRight_s4 days presses rains v1 (q.1) (q.2)) (v2, v3)
noncomputable def mX0_countRight (days : Int32) (presses : Nat → Int32) (rains : Nat → Int32) (p0 : Int32) : Option (Int32) :=
  mX0_countRight_b4 days presses rains p0 0 0
set_option maxHeartbeats 4000000 in
set_option maxRecDepth 100000 in
theorem kX0_countRight (l : Launch) (G : xG) (H0 : Heap) {q_this q_years q_months q_presses q_winds q_skies q_rains q_wires q_kinds : Nat} {days : Int32} {presses : Nat → Int32} {rains : Nat → Int32} {p0 : Int32} (hP : va_P (xD G) vwCl [(q_this, .inr (0, [.int days, .ref q_years, .ref q_months, .ref q_presses, .ref q_winds, .ref q_skies, .ref q_rains, .ref q_wires, .ref q_kinds])), (q_presses, .inl (xy G 0, 60, .inl presses)), (q_rains, .inl (xy G 0, 60, .inl rains))] H0) {out : Int32} (h : mX0_countRight days presses rains p0 = some out) : Met l yX0_countRight wsX0_countRight ({ frames := 2, cells := 0, slots := 0, locals := 42 }) (xPc G H0 [.ref q_this, .int p0]) (xQi H0 (out)) 0 0 xN := by
  refine x_met (by decide) rfl (Nat.le_of_ble_eq_true rfl) ?_
  intro p e s m below meth c ls hH hA hl
  obtain ⟨hx, hb, hr, hlk, hml, hown, hts, hE⟩ := hA
  subst hH
  have hown : s.vm.findClass RX0 = some m.cls := hown
  have hl : lv_has ls 5 [(0, .ref q_this), (1, .int p0)] := hl
  have hS : va_S xN s.heap s.heap [] := va_S.rf
  have ho : out = out := rfl
  have J4 : ∀ (v1 : Int32) (v2 : Int32) (v3 : Int32) (ls : Array Slot), lv_has ls 5 [(0, .ref q_this), (1, .int v1), (2, .int v2), (3, .int v3)] → ∀ o : Int32, mX0_countRight_b4 days presses rains v1 v2 v3 = some o → (fun z => z = out) o → xW p l e ({ frames := 2, cells := 0, slots := 0, locals := 42 }) s m [.ref q_this, .int p0] below meth c (xQi s.heap (out)) (F0 m 4 ls []) := by
    intro v1 v2 v3 ls hl o h ho
    unfold mX0_countRight_b4 at h
    refine x_loop_walk (K := (fun z => z = out)) (motive := fun q : Int32 × Int32 => ∀ ls : Array Slot, lv_has ls 5 [(0, .ref q_this), (1, .int (v1)), (2, .int (q.1)), (3, .int (q.2))] → xW p l e ({ frames := 2, cells := 0, slots := 0, locals := 42 }) s m [.ref q_this, .int p0] below meth c (xQi s.heap (out)) (F0 m 4 ls [])) ?_ h ho ls hl
    intro K1 e1 i1 q o h ho
    obtain ⟨v2, v3⟩ := q
    intro ls hl
    have hl : lv_has ls 5 [(0, .ref q_this), (1, .int v1), (2, .int v2), (3, .int v3)] := hl
    replace h : mX0_countRight_s4 days presses rains v1 v2 v3 = some o := h
    unfold mX0_countRight_s4 at h
    have J47 : ∀ (v2 : Int32) (v3 : Int32) (ls : Array Slot), lv_has ls 5 [(0, .ref q_this), (1, .int v1), (2, .int v2), (3, .int v3)] → ∀ o : ((Int32) ⊕ (Int32 × Int32)), mX0_countRight_b47 days presses rains v1 v2 v3 = some o → K1 o → xW p l e ({ frames := 2, cells := 0, slots := 0, locals := 42 }) s m [.ref q_this, .int p0] below meth c (xQi s.heap (out)) (F0 m 47 ls []) := by
      intro v2 v3 ls hl o h ho
      unfold mX0_countRight_b47 at h
      refine lv_iinc (v := (v3 + 1)) (lv' := [(3, .int (v3 + 1)), (0, .ref q_this), (1, .int v1), (2, .int v2)]) hx hb dX0_countRight_47 hl (k := 3) rfl rfl (by decide) rfl (fun ls hl => ?_)
      refine lv_goto (tgt := 4) hx hb dX0_countRight_50 (by decide) ?_
      exact i1 (v2, (v3 + 1)) (by cases h; exact ho) ls (lv_sub hl [1, 2, 3, 0] rfl)
    refine lv_iload_n hx hb dX0_countRight_4 rfl (lv_at hl 3 rfl) ?_
    refine lv_aload_n hx hb dX0_countRight_5 rfl (lv_at hl 0 rfl) ?_
    refine va_get (D := xD G) (ci := 0) (v := .int days) (C := RX0) (T := TX0) (N := 9) hx hb hts (fun w9 h9 => (List.mem_cons_of_mem _ (List.mem_append_right _ h9))) hown hE.1 hP 0 rfl rfl 0 (by decide) (hts (.fieldLink RX0 36 "FallingGlass$Book" "days" "I") (List.mem_of_getElem? (i := 1) rfl)) (fun _ h9 => h9) rfl dX0_countRight_6 ?_
    refine lv_icmp_ge (tgt := 53) hx hb dX0_countRight_9 (by decide) (fun hc201 => ?_) (fun hc201 => ?_)
    · replace h := (if_pos hc201).symm.trans h
      refine lv_iload_n hx hb dX0_countRight_53 rfl (lv_at hl 2 rfl) ?_
      have hq : v2 = out := by cases h; exact (e1 _ ho)
      subst hq
      exact x_iret hx hb hr hlk rfl rfl dX0_countRight_54
    · replace h := (if_neg hc201).symm.trans h
      refine lv_aload_n hx hb dX0_countRight_12 rfl (lv_at hl 0 rfl) ?_
      refine va_get (D := xD G) (ci := 0) (v := .ref q_presses) (C := RX0) (T := TX0) (N := 9) hx hb hts (fun w9 h9 => (List.mem_cons_of_mem _ (List.mem_append_right _ h9))) hown hE.1 hP 0 rfl rfl 3 (by decide) (hts (.fieldLink RX0 18 "FallingGlass$Book" "presses" "[I") (List.mem_of_getElem? (i := 2) rfl)) (fun _ h9 => h9) rfl dX0_countRight_13 ?_
      refine lv_iload_n hx hb dX0_countRight_16 rfl (lv_at hl 3 rfl) ?_
      obtain ⟨r202, hr202, h⟩ := x_bind h
      have hPr202 : va_P (xD G) vwCl [(q_presses, .inl (xy G 0, 60, .inl presses))] s.heap := hP.sub [1] rfl
      refine x_calli (va_runSN (As := [.ref q_presses, .int v3]) (rest := []) ⟨hx, hb, hml, hown, hts⟩ (kX9_at l G s.heap hPr202 hr202) ⟨va_cnB 2 hts gX0_countRight_X9_at_n55 rfl rfl rfl (hE.nm 4 rfl) (hts (.initialized RX9) (List.mem_of_getElem? (i := 4) rfl)) (by decide +kernel) ⟨Nat.le_of_ble_eq_true rfl, Nat.le_of_ble_eq_true rfl⟩, (hts (.static yX9_at) (List.mem_of_getElem? (i := 3) rfl)), trivial⟩ (x_preS hE hS) rfl rfl hl.1 rfl (lv_room (Nat.le_of_ble_eq_true rfl)) dX0_countRight_17 ⟨Nat.le_of_ble_eq_true rfl, Nat.le_of_ble_eq_true rfl⟩) ?_
      refine lv_istore (lv' := [(4, .int r202), (0, .ref q_this), (1, .int v1), (2, .int v2), (3, .int v3)]) hx hb dX0_countRight_20 hl (by decide) rfl (fun ls hl => ?_)
      refine lv_iload hx hb dX0_countRight_22 (lv_at hl 0 rfl) ?_
      refine lv_bipush (v := (-6)) hx hb dX0_countRight_24 (by decide) ?_
      refine lv_icmp_eq (tgt := 47) hx hb dX0_countRight_26 (by decide) (fun hc203 => ?_) (fun hc203 => ?_)
      · replace h := (if_pos hc203).symm.trans h
        exact J47 v2 v3 ls (lv_sub hl [1, 2, 3, 4] rfl) _ h ho
      · replace h := (if_neg hc203).symm.trans h
        refine lv_iload hx hb dX0_countRight_29 (lv_at hl 0 rfl) ?_
        refine lv_iload_n hx hb dX0_countRight_31 rfl (lv_at hl 2 rfl) ?_
        refine lv_iadd hx hb dX0_countRight_32 ?_
        obtain ⟨r204, hr204, h⟩ := x_bind h
        refine x_calli (va_runS (As := [.int (r202 + v1)]) (rest := []) ⟨hx, hb, hml, hown, hts⟩ (kX0_meant l G s.heap hr204) (va_cwS 1 hts gX0_countRight_X0_meant rfl rfl rfl (by decide +kernel) ⟨Nat.le_of_ble_eq_true rfl, Nat.le_of_ble_eq_true rfl⟩) (x_preS hE hS) rfl rfl hl.1 rfl (lv_room (Nat.le_of_ble_eq_true rfl)) dX0_countRight_33 ⟨Nat.le_of_ble_eq_true rfl, Nat.le_of_ble_eq_true rfl⟩) ?_
        refine lv_aload_n hx hb dX0_countRight_36 rfl (lv_at hl 1 rfl) ?_
        refine lv_iload_n hx hb dX0_countRight_37 rfl (lv_at hl 4 rfl) ?_
        obtain ⟨r205, hr205, h⟩ := x_bind h
        have hPr205 : va_P (xD G) vwCl [(q_this, .inr (0, [.int days, .ref q_years, .ref q_months, .ref q_presses, .ref q_winds, .ref q_skies, .ref q_rains, .ref q_wires, .ref q_kinds])), (q_rains, .inl (xy G 0, 60, .inl rains))] s.heap := hP.sub [0, 2] rfl
        refine x_calli (va_runV (As := [.int v3]) (rest := [.int r204]) ⟨hx, hb, hml, hown, hts⟩ (kX0_rainOf l G s.heap hPr205 hr205) (cwV 1 hts gX0_countRight_X0_rainOf rfl rfl rfl (by decide +kernel) ⟨Nat.le_of_ble_eq_true rfl, Nat.le_of_ble_eq_true rfl⟩) (x_preV hE hS hP (ci := 0) (q0 := 0) rfl rfl) rfl rfl hl.1 rfl (lv_room (Nat.le_of_ble_eq_true rfl)) dX0_countRight_38 ⟨Nat.le_of_ble_eq_true rfl, Nat.le_of_ble_eq_true rfl⟩) ?_
        refine lv_icmp_ne (tgt := 47) hx hb dX0_countRight_41 (by decide) (fun hc206 => ?_) (fun hc206 => ?_)
        · replace h := (if_neg hc206).symm.trans h
          exact J47 v2 v3 ls (lv_sub hl [1, 2, 3, 4] rfl) _ h ho
        · replace h := (if_pos hc206).symm.trans h
          refine lv_iinc (v := (v2 + 1)) (lv' := [(2, .int (v2 + 1)), (4, .int r202), (0, .ref q_this), (1, .int v1), (3, .int v3)]) hx hb dX0_countRight_44 hl (k := 3) rfl rfl (by decide) rfl (fun ls hl => ?_)
          exact J47 ((v2 + 1)) v3 ls (lv_sub hl [2, 3, 0, 4] rfl) _ h ho
  unfold mX0_countRight at h
  refine lv_iconst (v := 0) hx hb dX0_countRight_0 (by decide) ?_
  refine lv_istore_n (lv' := [(2, .int 0), (0, .ref q_this), (1, .int p0)]) hx hb dX0_countRight_1 rfl hl (by decide) rfl (fun ls hl => ?_)
  refine lv_iconst (v := 0) hx hb dX0_countRight_2 (by decide) ?_
  refine lv_istore_n (lv' := [(3, .int 0), (2, .int 0), (0, .ref q_this), (1, .int p0)]) hx hb dX0_countRight_3 rfl hl (by decide) rfl (fun ls hl => ?_)
  exact J4 p0 0 0 ls (lv_sub hl [2, 3, 1, 0] rfl) _ h ho
noncomputable def mX1_take (mind : Int32) (needle : Int32) (stick : Int32) (a0_mind : Int32) (a0_needle : Int32) (a0_stick : Int32)  : Option (Int32 × Int32 × Int32) :=
  some (a0_mind, a0_needle, a0_stick)
set_option maxHeartbeats 4000000 in
set_option maxRecDepth 100000 in
theorem kX1_take (l : Launch) (G : xG) (H0 : Heap) {q_this q_a0 : Nat} {mind : Int32} {needle : Int32} {stick : Int32} {a0_mind : Int32} {a0_needle : Int32} {a0_stick : Int32} (w0 : va_W) (hw0 : w0 = [(q_this, .inr (1, [.int mind, .int needle, .int stick])), (q_a0, .inr (1, [.int a0_mind, .int a0_needle, .int a0_stick]))]) (hP : va_P (xD G) vwCl w0 H0) (hD : va_D (fun _ => True) w0) {out : Int32 × Int32 × Int32} (h : mX1_take mind needle stick a0_mind a0_needle a0_stick = some out) : Met l yX1_take wsX1_take ({ frames := 0, cells := 0, slots := 0, locals := 0 }) (xPcw G (va_A w0 H0.size) H0 [.ref q_this, .ref q_a0]) (xRv G (va_A w0 H0.size) [(q_this, .inr (1, [.int out.1, .int out.2.1, .int out.2.2])), (q_a0, .inr (1, [.int a0_mind, .int a0_needle, .int a0_stick]))]) 0 0 (va_A w0 H0.size) := by
  refine x_metw (y := yX1_take) (ws := wsX1_take) (rm := { frames := 0, cells := 0, slots := 0, locals := 0 }) (G := G) (H0 := H0) (w0 := w0) (av := [.ref q_this, .ref q_a0]) (mc := 0) (ms := 0) (Qc := (fun A => (xRv G A [(q_this, .inr (1, [.int out.1, .int out.2.1, .int out.2.2])), (q_a0, .inr (1, [.int a0_mind, .int a0_needle, .int a0_stick]))]))) (by decide) rfl (Nat.le_of_ble_eq_true rfl) hP hD ?_
  clear hP hD
  intro p e s m below meth c ls A H locs hA hAt hnm hl hP hD hS
  subst hw0
  obtain ⟨hx, hb, hr, hlk, hml, hown, hts, hE⟩ := hAt
  have hown : s.vm.findClass RX1 = some m.cls := hown
  have hl : lv_has ls 2 [(0, .ref q_this), (1, .ref q_a0)] := hl
  have ho : out = out := rfl
  unfold mX1_take at h
  refine lv_aload_n hx hb dX1_take_0 rfl (lv_at hl 0 rfl) ?_
  refine lv_aload_n hx hb dX1_take_1 rfl (lv_at hl 1 rfl) ?_
  refine va_get (D := xD G) (ci := 1) (v := .int a0_mind) (C := RX1) (T := TX1) (N := 3) hx hb hts (fun w9 h9 => (List.mem_cons_of_mem _ (List.mem_append_right _ h9))) hown hE.1 hP 1 rfl rfl 0 (by decide) (hts (.fieldLink RX1 7 "FallingGlass$Brass" "mind" "I") (List.mem_of_getElem? (i := 1) rfl)) (fun _ h9 => h9) rfl dX1_take_2 ?_
  refine va_put (D := xD G) (ci := 1) (v := .int a0_mind) (ty := .int) (C := RX1) (T := TX1) (N := 3) hx hb hts (fun w9 h9 => (List.mem_cons_of_mem _ (List.mem_append_right _ h9))) tyX1 tyX1_ok nmX1 hown hE.1 hP hD hS 0 rfl rfl 0 (by decide) (hts (.fieldLink RX1 7 "FallingGlass$Brass" "mind" "I") (List.mem_of_getElem? (i := 1) rfl)) (fun _ h9 => h9) rfl (by decide +kernel) rfl rfl (Nat.le_of_ble_eq_true rfl) dX1_take_5 (fun H locs hP hD hS => ?_)
  have hP : va_P (xD G) vwCl [(q_this, .inr (1, [.int a0_mind, .int needle, .int stick])), (q_a0, .inr (1, [.int a0_mind, .int a0_needle, .int a0_stick]))] H := hP
  have hD : va_D A [(q_this, .inr (1, [.int a0_mind, .int needle, .int stick])), (q_a0, .inr (1, [.int a0_mind, .int a0_needle, .int a0_stick]))] := hD
  refine lv_aload_n hx hb dX1_take_8 rfl (lv_at hl 0 rfl) ?_
  refine lv_aload_n hx hb dX1_take_9 rfl (lv_at hl 1 rfl) ?_
  refine va_get (D := xD G) (ci := 1) (v := .int a0_needle) (C := RX1) (T := TX1) (N := 3) hx hb hts (fun w9 h9 => (List.mem_cons_of_mem _ (List.mem_append_right _ h9))) hown hE.1 hP 1 rfl rfl 1 (by decide) (hts (.fieldLink RX1 13 "FallingGlass$Brass" "needle" "I") (List.mem_of_getElem? (i := 2) rfl)) (fun _ h9 => h9) rfl dX1_take_10 ?_
  refine va_put (D := xD G) (ci := 1) (v := .int a0_needle) (ty := .int) (C := RX1) (T := TX1) (N := 3) hx hb hts (fun w9 h9 => (List.mem_cons_of_mem _ (List.mem_append_right _ h9))) tyX1 tyX1_ok nmX1 hown hE.1 hP hD hS 0 rfl rfl 1 (by decide) (hts (.fieldLink RX1 13 "FallingGlass$Brass" "needle" "I") (List.mem_of_getElem? (i := 2) rfl)) (fun _ h9 => h9) rfl (by decide +kernel) rfl rfl (Nat.le_of_ble_eq_true rfl) dX1_take_13 (fun H locs hP hD hS => ?_)
  have hP : va_P (xD G) vwCl [(q_this, .inr (1, [.int a0_mind, .int a0_needle, .int stick])), (q_a0, .inr (1, [.int a0_mind, .int a0_needle, .int a0_stick]))] H := hP
  have hD : va_D A [(q_this, .inr (1, [.int a0_mind, .int a0_needle, .int stick])), (q_a0, .inr (1, [.int a0_mind, .int a0_needle, .int a0_stick]))] := hD
  refine lv_aload_n hx hb dX1_take_16 rfl (lv_at hl 0 rfl) ?_
  refine lv_aload_n hx hb dX1_take_17 rfl (lv_at hl 1 rfl) ?_
  refine va_get (D := xD G) (ci := 1) (v := .int a0_stick) (C := RX1) (T := TX1) (N := 3) hx hb hts (fun w9 h9 => (List.mem_cons_of_mem _ (List.mem_append_right _ h9))) hown hE.1 hP 1 rfl rfl 2 (by decide) (hts (.fieldLink RX1 16 "FallingGlass$Brass" "stick" "I") (List.mem_of_getElem? (i := 3) rfl)) (fun _ h9 => h9) rfl dX1_take_18 ?_
  refine va_put (D := xD G) (ci := 1) (v := .int a0_stick) (ty := .int) (C := RX1) (T := TX1) (N := 3) hx hb hts (fun w9 h9 => (List.mem_cons_of_mem _ (List.mem_append_right _ h9))) tyX1 tyX1_ok nmX1 hown hE.1 hP hD hS 0 rfl rfl 2 (by decide) (hts (.fieldLink RX1 16 "FallingGlass$Brass" "stick" "I") (List.mem_of_getElem? (i := 3) rfl)) (fun _ h9 => h9) rfl (by decide +kernel) rfl rfl (Nat.le_of_ble_eq_true rfl) dX1_take_21 (fun H locs hP hD hS => ?_)
  have hP : va_P (xD G) vwCl [(q_this, .inr (1, [.int a0_mind, .int a0_needle, .int a0_stick])), (q_a0, .inr (1, [.int a0_mind, .int a0_needle, .int a0_stick]))] H := hP
  have hD : va_D A [(q_this, .inr (1, [.int a0_mind, .int a0_needle, .int a0_stick])), (q_a0, .inr (1, [.int a0_mind, .int a0_needle, .int a0_stick]))] := hD
  have hq : (a0_mind, a0_needle, a0_stick) = out := by cases h; exact ho
  subst hq
  have hP : va_P (xD G) vwCl [(q_this, .inr (1, [.int a0_mind, .int a0_needle, .int a0_stick])), (q_a0, .inr (1, [.int a0_mind, .int a0_needle, .int a0_stick]))] H := hP
  have hD : va_D A [(q_this, .inr (1, [.int a0_mind, .int a0_needle, .int a0_stick])), (q_a0, .inr (1, [.int a0_mind, .int a0_needle, .int a0_stick]))] := hD
  exact x_vretw hx hb hr hlk hP hD hS dX1_take_24
noncomputable def mX1_follow (mind : Int32) (needle : Int32) (stick : Int32) (p0 : Int32) : Option (Int32 × Int32 × Int32) :=
  if (if 0 ≤ (((mind + p0) / 2) - needle) then (((mind + p0) / 2) - needle) else 0 - (((mind + p0) / 2) - needle)) ≤ stick then (some (needle, ((mind + p0) / 2), needle)) else (some (((mind + p0) / 2), ((mind + p0) / 2), ((mind + p0) / 2)))
set_option maxHeartbeats 4000000 in
set_option maxRecDepth 100000 in
theorem kX1_follow (l : Launch) (G : xG) (H0 : Heap) {q_this : Nat} {mind : Int32} {needle : Int32} {stick : Int32} {p0 : Int32} (w0 : va_W) (hw0 : w0 = [(q_this, .inr (1, [.int mind, .int needle, .int stick]))]) (hP : va_P (xD G) vwCl w0 H0) (hD : va_D (fun _ => True) w0) {out : Int32 × Int32 × Int32} (h : mX1_follow mind needle stick p0 = some out) : Met l yX1_follow wsX1_follow ({ frames := 1, cells := 0, slots := 0, locals := 13 }) (xPcw G (va_A w0 H0.size) H0 [.ref q_this, .int p0]) (xRi G (va_A w0 H0.size) [(q_this, .inr (1, [.int out.2.1, .int out.2.2, .int stick]))] (out.1)) 0 0 (va_A w0 H0.size) := by
  refine x_metw (y := yX1_follow) (ws := wsX1_follow) (rm := { frames := 1, cells := 0, slots := 0, locals := 13 }) (G := G) (H0 := H0) (w0 := w0) (av := [.ref q_this, .int p0]) (mc := 0) (ms := 0) (Qc := (fun A => (xRi G A [(q_this, .inr (1, [.int out.2.1, .int out.2.2, .int stick]))] (out.1)))) (by decide) rfl (Nat.le_of_ble_eq_true rfl) hP hD ?_
  clear hP hD
  intro p e s m below meth c ls A H locs hA hAt hnm hl hP hD hS
  subst hw0
  obtain ⟨hx, hb, hr, hlk, hml, hown, hts, hE⟩ := hAt
  have hown : s.vm.findClass RX1 = some m.cls := hown
  have hl : lv_has ls 2 [(0, .ref q_this), (1, .int p0)] := hl
  have ho : out = out := rfl
  unfold mX1_follow at h
  refine lv_aload_n hx hb dX1_follow_0 rfl (lv_at hl 0 rfl) ?_
  refine lv_aload_n hx hb dX1_follow_1 rfl (lv_at hl 0 rfl) ?_
  refine va_get (D := xD G) (ci := 1) (v := .int mind) (C := RX1) (T := TX1) (N := 3) hx hb hts (fun w9 h9 => (List.mem_cons_of_mem _ (List.mem_append_right _ h9))) hown hE.1 hP 0 rfl rfl 0 (by decide) (hts (.fieldLink RX1 7 "FallingGlass$Brass" "mind" "I") (List.mem_of_getElem? (i := 1) rfl)) (fun _ h9 => h9) rfl dX1_follow_2 ?_
  refine lv_iload_n hx hb dX1_follow_5 rfl (lv_at hl 1 rfl) ?_
  refine lv_iadd hx hb dX1_follow_6 ?_
  refine lv_iconst (v := 2) hx hb dX1_follow_7 (by decide) ?_
  refine lv_idiv hx hb dX1_follow_8 (by decide) ?_
  refine va_put (D := xD G) (ci := 1) (v := .int ((mind + p0) / 2)) (ty := .int) (C := RX1) (T := TX1) (N := 3) hx hb hts (fun w9 h9 => (List.mem_cons_of_mem _ (List.mem_append_right _ h9))) tyX1 tyX1_ok nmX1 hown hE.1 hP hD hS 0 rfl rfl 0 (by decide) (hts (.fieldLink RX1 7 "FallingGlass$Brass" "mind" "I") (List.mem_of_getElem? (i := 1) rfl)) (fun _ h9 => h9) rfl (by decide +kernel) rfl rfl (Nat.le_of_ble_eq_true rfl) dX1_follow_9 (fun H locs hP hD hS => ?_)
  have hP : va_P (xD G) vwCl [(q_this, .inr (1, [.int ((mind + p0) / 2), .int needle, .int stick]))] H := hP
  have hD : va_D A [(q_this, .inr (1, [.int ((mind + p0) / 2), .int needle, .int stick]))] := hD
  refine lv_aload_n hx hb dX1_follow_12 rfl (lv_at hl 0 rfl) ?_
  refine va_get (D := xD G) (ci := 1) (v := .int ((mind + p0) / 2)) (C := RX1) (T := TX1) (N := 3) hx hb hts (fun w9 h9 => (List.mem_cons_of_mem _ (List.mem_append_right _ h9))) hown hE.1 hP 0 rfl rfl 0 (by decide) (hts (.fieldLink RX1 7 "FallingGlass$Brass" "mind" "I") (List.mem_of_getElem? (i := 1) rfl)) (fun _ h9 => h9) rfl dX1_follow_13 ?_
  refine lv_aload_n hx hb dX1_follow_16 rfl (lv_at hl 0 rfl) ?_
  refine va_get (D := xD G) (ci := 1) (v := .int needle) (C := RX1) (T := TX1) (N := 3) hx hb hts (fun w9 h9 => (List.mem_cons_of_mem _ (List.mem_append_right _ h9))) hown hE.1 hP 0 rfl rfl 1 (by decide) (hts (.fieldLink RX1 13 "FallingGlass$Brass" "needle" "I") (List.mem_of_getElem? (i := 2) rfl)) (fun _ h9 => h9) rfl dX1_follow_17 ?_
  refine lv_isub hx hb dX1_follow_20 ?_
  refine va_mabs hx hb (hml.trans hl.1.symm) hown (hts (.methodLink RX1 19 Lib.Math.abs.name) (List.mem_of_getElem? (i := 3) rfl)) (hts (.static Lib.Math.abs.name) (List.mem_of_getElem? (i := 4) rfl)) (hts (.initialized "java/lang/Math") (List.mem_of_getElem? (i := 5) rfl)) (hts (.code Lib.Math.abs.name Lib.Math.abs.code 1 (some .int)) (List.mem_of_getElem? (i := 6) rfl)) (Nat.le_of_ble_eq_true rfl) (Nat.le_of_ble_eq_true rfl) (Nat.le_of_ble_eq_true rfl) (Nat.le_of_ble_eq_true rfl) dX1_follow_21 ?_
  refine lv_aload_n hx hb dX1_follow_24 rfl (lv_at hl 0 rfl) ?_
  refine va_get (D := xD G) (ci := 1) (v := .int stick) (C := RX1) (T := TX1) (N := 3) hx hb hts (fun w9 h9 => (List.mem_cons_of_mem _ (List.mem_append_right _ h9))) hown hE.1 hP 0 rfl rfl 2 (by decide) (hts (.fieldLink RX1 16 "FallingGlass$Brass" "stick" "I") (List.mem_of_getElem? (i := 7) rfl)) (fun _ h9 => h9) rfl dX1_follow_25 ?_
  refine lv_icmp_le (tgt := 39) hx hb dX1_follow_28 (by decide) (fun hc501 => ?_) (fun hc501 => ?_)
  · replace h := (if_pos hc501).symm.trans h
    refine lv_aload_n hx hb dX1_follow_39 rfl (lv_at hl 0 rfl) ?_
    refine va_get (D := xD G) (ci := 1) (v := .int needle) (C := RX1) (T := TX1) (N := 3) hx hb hts (fun w9 h9 => (List.mem_cons_of_mem _ (List.mem_append_right _ h9))) hown hE.1 hP 0 rfl rfl 1 (by decide) (hts (.fieldLink RX1 13 "FallingGlass$Brass" "needle" "I") (List.mem_of_getElem? (i := 2) rfl)) (fun _ h9 => h9) rfl dX1_follow_40 ?_
    have hq : (needle, ((mind + p0) / 2), needle) = out := by cases h; exact ho
    subst hq
    have hP : va_P (xD G) vwCl [(q_this, .inr (1, [.int ((mind + p0) / 2), .int needle, .int stick]))] H := hP
    have hD : va_D A [(q_this, .inr (1, [.int ((mind + p0) / 2), .int needle, .int stick]))] := hD
    exact x_iretw hx hb hr hlk hP hD hS rfl dX1_follow_43
  · replace h := (if_neg hc501).symm.trans h
    refine lv_aload_n hx hb dX1_follow_31 rfl (lv_at hl 0 rfl) ?_
    refine lv_aload_n hx hb dX1_follow_32 rfl (lv_at hl 0 rfl) ?_
    refine va_get (D := xD G) (ci := 1) (v := .int ((mind + p0) / 2)) (C := RX1) (T := TX1) (N := 3) hx hb hts (fun w9 h9 => (List.mem_cons_of_mem _ (List.mem_append_right _ h9))) hown hE.1 hP 0 rfl rfl 0 (by decide) (hts (.fieldLink RX1 7 "FallingGlass$Brass" "mind" "I") (List.mem_of_getElem? (i := 1) rfl)) (fun _ h9 => h9) rfl dX1_follow_33 ?_
    refine va_put (D := xD G) (ci := 1) (v := .int ((mind + p0) / 2)) (ty := .int) (C := RX1) (T := TX1) (N := 3) hx hb hts (fun w9 h9 => (List.mem_cons_of_mem _ (List.mem_append_right _ h9))) tyX1 tyX1_ok nmX1 hown hE.1 hP hD hS 0 rfl rfl 1 (by decide) (hts (.fieldLink RX1 13 "FallingGlass$Brass" "needle" "I") (List.mem_of_getElem? (i := 2) rfl)) (fun _ h9 => h9) rfl (by decide +kernel) rfl rfl (Nat.le_of_ble_eq_true rfl) dX1_follow_36 (fun H locs hP hD hS => ?_)
    have hP : va_P (xD G) vwCl [(q_this, .inr (1, [.int ((mind + p0) / 2), .int ((mind + p0) / 2), .int stick]))] H := hP
    have hD : va_D A [(q_this, .inr (1, [.int ((mind + p0) / 2), .int ((mind + p0) / 2), .int stick]))] := hD
    refine lv_aload_n hx hb dX1_follow_39 rfl (lv_at hl 0 rfl) ?_
    refine va_get (D := xD G) (ci := 1) (v := .int ((mind + p0) / 2)) (C := RX1) (T := TX1) (N := 3) hx hb hts (fun w9 h9 => (List.mem_cons_of_mem _ (List.mem_append_right _ h9))) hown hE.1 hP 0 rfl rfl 1 (by decide) (hts (.fieldLink RX1 13 "FallingGlass$Brass" "needle" "I") (List.mem_of_getElem? (i := 2) rfl)) (fun _ h9 => h9) rfl dX1_follow_40 ?_
    have hq : (((mind + p0) / 2), ((mind + p0) / 2), ((mind + p0) / 2)) = out := by cases h; exact ho
    subst hq
    have hP : va_P (xD G) vwCl [(q_this, .inr (1, [.int ((mind + p0) / 2), .int ((mind + p0) / 2), .int stick]))] H := hP
    have hD : va_D A [(q_this, .inr (1, [.int ((mind + p0) / 2), .int ((mind + p0) / 2), .int stick]))] := hD
    exact x_iretw hx hb hr hlk hP hD hS rfl dX1_follow_43
noncomputable def mX1_settle (mind : Int32) (needle : Int32)  : Option (Int32 × Int32) :=
  some ((mind - needle), mind)
set_option maxHeartbeats 4000000 in
set_option maxRecDepth 100000 in
theorem kX1_settle (l : Launch) (G : xG) (H0 : Heap) {q_this : Nat} {mind : Int32} {needle : Int32} {stick : Int32} (w0 : va_W) (hw0 : w0 = [(q_this, .inr (1, [.int mind, .int needle, .int stick]))]) (hP : va_P (xD G) vwCl w0 H0) (hD : va_D (fun _ => True) w0) {out : Int32 × Int32} (h : mX1_settle mind needle = some out) : Met l yX1_settle wsX1_settle ({ frames := 0, cells := 0, slots := 0, locals := 0 }) (xPcw G (va_A w0 H0.size) H0 [.ref q_this]) (xRi G (va_A w0 H0.size) [(q_this, .inr (1, [.int mind, .int out.2, .int stick]))] (out.1)) 0 0 (va_A w0 H0.size) := by
  refine x_metw (y := yX1_settle) (ws := wsX1_settle) (rm := { frames := 0, cells := 0, slots := 0, locals := 0 }) (G := G) (H0 := H0) (w0 := w0) (av := [.ref q_this]) (mc := 0) (ms := 0) (Qc := (fun A => (xRi G A [(q_this, .inr (1, [.int mind, .int out.2, .int stick]))] (out.1)))) (by decide) rfl (Nat.le_of_ble_eq_true rfl) hP hD ?_
  clear hP hD
  intro p e s m below meth c ls A H locs hA hAt hnm hl hP hD hS
  subst hw0
  obtain ⟨hx, hb, hr, hlk, hml, hown, hts, hE⟩ := hAt
  have hown : s.vm.findClass RX1 = some m.cls := hown
  have hl : lv_has ls 2 [(0, .ref q_this)] := hl
  have ho : out = out := rfl
  unfold mX1_settle at h
  refine lv_aload_n hx hb dX1_settle_0 rfl (lv_at hl 0 rfl) ?_
  refine va_get (D := xD G) (ci := 1) (v := .int mind) (C := RX1) (T := TX1) (N := 3) hx hb hts (fun w9 h9 => (List.mem_cons_of_mem _ (List.mem_append_right _ h9))) hown hE.1 hP 0 rfl rfl 0 (by decide) (hts (.fieldLink RX1 7 "FallingGlass$Brass" "mind" "I") (List.mem_of_getElem? (i := 1) rfl)) (fun _ h9 => h9) rfl dX1_settle_1 ?_
  refine lv_aload_n hx hb dX1_settle_4 rfl (lv_at hl 0 rfl) ?_
  refine va_get (D := xD G) (ci := 1) (v := .int needle) (C := RX1) (T := TX1) (N := 3) hx hb hts (fun w9 h9 => (List.mem_cons_of_mem _ (List.mem_append_right _ h9))) hown hE.1 hP 0 rfl rfl 1 (by decide) (hts (.fieldLink RX1 13 "FallingGlass$Brass" "needle" "I") (List.mem_of_getElem? (i := 2) rfl)) (fun _ h9 => h9) rfl dX1_settle_5 ?_
  refine lv_isub hx hb dX1_settle_8 ?_
  refine lv_istore_n (lv' := [(1, .int (mind - needle)), (0, .ref q_this)]) hx hb dX1_settle_9 rfl hl (by decide) rfl (fun ls hl => ?_)
  refine lv_aload_n hx hb dX1_settle_10 rfl (lv_at hl 1 rfl) ?_
  refine lv_aload_n hx hb dX1_settle_11 rfl (lv_at hl 1 rfl) ?_
  refine va_get (D := xD G) (ci := 1) (v := .int mind) (C := RX1) (T := TX1) (N := 3) hx hb hts (fun w9 h9 => (List.mem_cons_of_mem _ (List.mem_append_right _ h9))) hown hE.1 hP 0 rfl rfl 0 (by decide) (hts (.fieldLink RX1 7 "FallingGlass$Brass" "mind" "I") (List.mem_of_getElem? (i := 1) rfl)) (fun _ h9 => h9) rfl dX1_settle_12 ?_
  refine va_put (D := xD G) (ci := 1) (v := .int mind) (ty := .int) (C := RX1) (T := TX1) (N := 3) hx hb hts (fun w9 h9 => (List.mem_cons_of_mem _ (List.mem_append_right _ h9))) tyX1 tyX1_ok nmX1 hown hE.1 hP hD hS 0 rfl rfl 1 (by decide) (hts (.fieldLink RX1 13 "FallingGlass$Brass" "needle" "I") (List.mem_of_getElem? (i := 2) rfl)) (fun _ h9 => h9) rfl (by decide +kernel) rfl rfl (Nat.le_of_ble_eq_true rfl) dX1_settle_15 (fun H locs hP hD hS => ?_)
  have hP : va_P (xD G) vwCl [(q_this, .inr (1, [.int mind, .int mind, .int stick]))] H := hP
  have hD : va_D A [(q_this, .inr (1, [.int mind, .int mind, .int stick]))] := hD
  refine lv_iload_n hx hb dX1_settle_18 rfl (lv_at hl 0 rfl) ?_
  have hq : ((mind - needle), mind) = out := by cases h; exact ho
  subst hq
  have hP : va_P (xD G) vwCl [(q_this, .inr (1, [.int mind, .int mind, .int stick]))] H := hP
  have hD : va_D A [(q_this, .inr (1, [.int mind, .int mind, .int stick]))] := hD
  exact x_iretw hx hb hr hlk hP hD hS rfl dX1_settle_19
