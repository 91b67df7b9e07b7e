/-! laid by program out of the bytecode: for each method its function (m..) and its contract (k..) -/
set_option maxHeartbeats 4000000 in
set_option maxRecDepth 100000 in
theorem kX0_init (l : Launch) (G : xG) (H0 : Heap) {q_this : Nat} (w0 : va_W) (hw0 : w0 = [(q_this, .inr (0, [.int 0, .null, .null, .null, .null, .null, .null, .null, .null]))]) (hP : va_P (xD G) vwCl w0 H0) (hD : va_D (fun _ => True) w0) : Met l yX0_init wsX0_init ({ frames := 1, cells := 8, slots := 480, locals := 12 }) (xPcw G (va_A w0 H0.size) H0 [.ref q_this]) (xRc G (va_A w0 H0.size) (fun ad => [(q_this, .inr (0, [.int 0, .ref (ad 0), .ref (ad 1), .ref (ad 2), .ref (ad 3), .ref (ad 4), .ref (ad 5), .ref (ad 6), .ref (ad 7)]))] ++ [((ad 0), .inl (xy G 0, 60, .inl (fun _ => 0))), ((ad 1), .inl (xy G 0, 60, .inl (fun _ => 0))), ((ad 2), .inl (xy G 0, 60, .inl (fun _ => 0))), ((ad 3), .inl (xy G 0, 60, .inl (fun _ => 0))), ((ad 4), .inl (xy G 0, 60, .inl (fun _ => 0))), ((ad 5), .inl (xy G 0, 60, .inl (fun _ => 0))), ((ad 6), .inl (xy G 0, 60, .inl (fun _ => 0))), ((ad 7), .inl (xy G 0, 60, .inl (fun _ => 0)))])) 8 480 (va_A w0 H0.size) := by
  refine x_metw (y := yX0_init) (ws := wsX0_init) (rm := { frames := 1, cells := 8, slots := 480, locals := 12 }) (G := G) (H0 := H0) (w0 := w0) (av := [.ref q_this]) (mc := 8) (ms := 480) (Qc := (fun A => (xRc G A (fun ad => [(q_this, .inr (0, [.int 0, .ref (ad 0), .ref (ad 1), .ref (ad 2), .ref (ad 3), .ref (ad 4), .ref (ad 5), .ref (ad 6), .ref (ad 7)]))] ++ [((ad 0), .inl (xy G 0, 60, .inl (fun _ => 0))), ((ad 1), .inl (xy G 0, 60, .inl (fun _ => 0))), ((ad 2), .inl (xy G 0, 60, .inl (fun _ => 0))), ((ad 3), .inl (xy G 0, 60, .inl (fun _ => 0))), ((ad 4), .inl (xy G 0, 60, .inl (fun _ => 0))), ((ad 5), .inl (xy G 0, 60, .inl (fun _ => 0))), ((ad 6), .inl (xy G 0, 60, .inl (fun _ => 0))), ((ad 7), .inl (xy G 0, 60, .inl (fun _ => 0)))])))) (by decide) rfl (Nat.le_of_ble_eq_true rfl) hP hD ?_
  clear hP hD
  intro p e s m below meth c ls A H locs hA hAt hnm hl hP hD hS
  have hin : meth.name = "<init>" := hnm
  subst hw0
  obtain ⟨hx, hb, hr, hlk, hml, hown, hts, hE⟩ := hAt
  have hown : s.vm.findClass RX0 = some m.cls := hown
  have hl : lv_has ls 1 [(0, .ref q_this)] := hl
  refine lv_aload_n hx hb dX0_init_0 rfl (lv_at hl 0 rfl) ?_
  refine W.objInit hx hb hown (hts (.methodLink RX0 3 objectInit) (List.mem_of_getElem? (i := 1) rfl)) (hts (.instanceMethod objectInit) (List.mem_of_getElem? (i := 2) rfl)) (hts (.code objectInit ⟨#[0xb1]⟩ 1 none) (List.mem_of_getElem? (i := 3) rfl)) rfl (by rw [hml]; exact hl.1) rfl dX0_init_1 (Nat.le_of_ble_eq_true rfl) (Nat.le_of_ble_eq_true rfl) ?_
  refine W.eq (g2 := F0 m 4 ls []) rfl ?_
  refine lv_aload_n hx hb dX0_init_4 rfl (lv_at hl 0 rfl) ?_
  refine lv_bipush (v := 60) hx hb dX0_init_5 (by decide) ?_
  refine x_newi hx hb (hts (.arrayClass .int) (List.mem_of_getElem? (i := 4) rfl)) hE hP hD hS hA (N := 60) (by decide) (by decide) (by decide) (Nat.le_of_ble_eq_true rfl) (Nat.le_of_ble_eq_true rfl) dX0_init_7 (fun q_new1 H hP hD hS => ?_)
  have hP : va_P (xD G) vwCl [(q_this, .inr (0, [.int 0, .null, .null, .null, .null, .null, .null, .null, .null])), (q_new1, .inl (xy G 0, 60, .inl (fun _ => 0)))] H := hP
  have hD : va_D A [(q_this, .inr (0, [.int 0, .null, .null, .null, .null, .null, .null, .null, .null])), (q_new1, .inl (xy G 0, 60, .inl (fun _ => 0)))] := hD
  refine va_putF (D := xD G) (ci := 0) (v := .ref q_new1) (ty := (tyX0 1)) (C := RX0) (T := TX0) (N := 9) hx hb hts (fun w9 h9 => (List.mem_cons_of_mem _ (List.mem_append_right _ h9))) tyX0 tyX0_ok nmX0 hown hE.1 hP hD hS 0 rfl rfl 1 (by decide) (hts (.fieldLink RX0 9 "FallingGlass$Book" "years" "[I") (List.mem_of_getElem? (i := 5) rfl)) (fun _ h9 => h9) rfl hin rfl (by decide +kernel) rfl rfl (Nat.le_of_ble_eq_true rfl) dX0_init_9 (fun H locs hP hD hS => ?_)
  have hP : va_P (xD G) vwCl [(q_this, .inr (0, [.int 0, .ref q_new1, .null, .null, .null, .null, .null, .null, .null])), (q_new1, .inl (xy G 0, 60, .inl (fun _ => 0)))] H := hP
  have hD : va_D A [(q_this, .inr (0, [.int 0, .ref q_new1, .null, .null, .null, .null, .null, .null, .null])), (q_new1, .inl (xy G 0, 60, .inl (fun _ => 0)))] := hD
  refine lv_aload_n hx hb dX0_init_12 rfl (lv_at hl 0 rfl) ?_
  refine lv_bipush (v := 60) hx hb dX0_init_13 (by decide) ?_
  refine x_newi hx hb (hts (.arrayClass .int) (List.mem_of_getElem? (i := 4) rfl)) hE hP hD hS hA (N := 60) (by decide) (by decide) (by decide) (Nat.le_of_ble_eq_true rfl) (Nat.le_of_ble_eq_true rfl) dX0_init_15 (fun q_new2 H hP hD hS => ?_)
  have hP : va_P (xD G) vwCl [(q_this, .inr (0, [.int 0, .ref q_new1, .null, .null, .null, .null, .null, .null, .null])), (q_new1, .inl (xy G 0, 60, .inl (fun _ => 0))), (q_new2, .inl (xy G 0, 60, .inl (fun _ => 0)))] H := hP
  have hD : va_D A [(q_this, .inr (0, [.int 0, .ref q_new1, .null, .null, .null, .null, .null, .null, .null])), (q_new1, .inl (xy G 0, 60, .inl (fun _ => 0))), (q_new2, .inl (xy G 0, 60, .inl (fun _ => 0)))] := hD
  refine va_putF (D := xD G) (ci := 0) (v := .ref q_new2) (ty := (tyX0 2)) (C := RX0) (T := TX0) (N := 9) hx hb hts (fun w9 h9 => (List.mem_cons_of_mem _ (List.mem_append_right _ h9))) tyX0 tyX0_ok nmX0 hown hE.1 hP hD hS 0 rfl rfl 2 (by decide) (hts (.fieldLink RX0 15 "FallingGlass$Book" "months" "[I") (List.mem_of_getElem? (i := 6) rfl)) (fun _ h9 => h9) rfl hin rfl (by decide +kernel) rfl rfl (Nat.le_of_ble_eq_true rfl) dX0_init_17 (fun H locs hP hD hS => ?_)
  have hP : va_P (xD G) vwCl [(q_this, .inr (0, [.int 0, .ref q_new1, .ref q_new2, .null, .null, .null, .null, .null, .null])), (q_new1, .inl (xy G 0, 60, .inl (fun _ => 0))), (q_new2, .inl (xy G 0, 60, .inl (fun _ => 0)))] H := hP
  have hD : va_D A [(q_this, .inr (0, [.int 0, .ref q_new1, .ref q_new2, .null, .null, .null, .null, .null, .null])), (q_new1, .inl (xy G 0, 60, .inl (fun _ => 0))), (q_new2, .inl (xy G 0, 60, .inl (fun _ => 0)))] := hD
  refine lv_aload_n hx hb dX0_init_20 rfl (lv_at hl 0 rfl) ?_
  refine lv_bipush (v := 60) hx hb dX0_init_21 (by decide) ?_
  refine x_newi hx hb (hts (.arrayClass .int) (List.mem_of_getElem? (i := 4) rfl)) hE hP hD hS hA (N := 60) (by decide) (by decide) (by decide) (Nat.le_of_ble_eq_true rfl) (Nat.le_of_ble_eq_true rfl) dX0_init_23 (fun q_new3 H hP hD hS => ?_)
  have hP : va_P (xD G) vwCl [(q_this, .inr (0, [.int 0, .ref q_new1, .ref q_new2, .null, .null, .null, .null, .null, .null])), (q_new1, .inl (xy G 0, 60, .inl (fun _ => 0))), (q_new2, .inl (xy G 0, 60, .inl (fun _ => 0))), (q_new3, .inl (xy G 0, 60, .inl (fun _ => 0)))] H := hP
  have hD : va_D A [(q_this, .inr (0, [.int 0, .ref q_new1, .ref q_new2, .null, .null, .null, .null, .null, .null])), (q_new1, .inl (xy G 0, 60, .inl (fun _ => 0))), (q_new2, .inl (xy G 0, 60, .inl (fun _ => 0))), (q_new3, .inl (xy G 0, 60, .inl (fun _ => 0)))] := hD
  refine va_putF (D := xD G) (ci := 0) (v := .ref q_new3) (ty := (tyX0 3)) (C := RX0) (T := TX0) (N := 9) hx hb hts (fun w9 h9 => (List.mem_cons_of_mem _ (List.mem_append_right _ h9))) tyX0 tyX0_ok nmX0 hown hE.1 hP hD hS 0 rfl rfl 3 (by decide) (hts (.fieldLink RX0 18 "FallingGlass$Book" "presses" "[I") (List.mem_of_getElem? (i := 7) rfl)) (fun _ h9 => h9) rfl hin rfl (by decide +kernel) rfl rfl (Nat.le_of_ble_eq_true rfl) dX0_init_25 (fun H locs hP hD hS => ?_)
  have hP : va_P (xD G) vwCl [(q_this, .inr (0, [.int 0, .ref q_new1, .ref q_new2, .ref q_new3, .null, .null, .null, .null, .null])), (q_new1, .inl (xy G 0, 60, .inl (fun _ => 0))), (q_new2, .inl (xy G 0, 60, .inl (fun _ => 0))), (q_new3, .inl (xy G 0, 60, .inl (fun _ => 0)))] H := hP
  have hD : va_D A [(q_this, .inr (0, [.int 0, .ref q_new1, .ref q_new2, .ref q_new3, .null, .null, .null, .null, .null])), (q_new1, .inl (xy G 0, 60, .inl (fun _ => 0))), (q_new2, .inl (xy G 0, 60, .inl (fun _ => 0))), (q_new3, .inl (xy G 0, 60, .inl (fun _ => 0)))] := hD
  refine lv_aload_n hx hb dX0_init_28 rfl (lv_at hl 0 rfl) ?_
  refine lv_bipush (v := 60) hx hb dX0_init_29 (by decide) ?_
  refine x_newi hx hb (hts (.arrayClass .int) (List.mem_of_getElem? (i := 4) rfl)) hE hP hD hS hA (N := 60) (by decide) (by decide) (by decide) (Nat.le_of_ble_eq_true rfl) (Nat.le_of_ble_eq_true rfl) dX0_init_31 (fun q_new4 H hP hD hS => ?_)
  have hP : va_P (xD G) vwCl [(q_this, .inr (0, [.int 0, .ref q_new1, .ref q_new2, .ref q_new3, .null, .null, .null, .null, .null])), (q_new1, .inl (xy G 0, 60, .inl (fun _ => 0))), (q_new2, .inl (xy G 0, 60, .inl (fun _ => 0))), (q_new3, .inl (xy G 0, 60, .inl (fun _ => 0))), (q_new4, .inl (xy G 0, 60, .inl (fun _ => 0)))] H := hP
  have hD : va_D A [(q_this, .inr (0, [.int 0, .ref q_new1, .ref q_new2, .ref q_new3, .null, .null, .null, .null, .null])), (q_new1, .inl (xy G 0, 60, .inl (fun _ => 0))), (q_new2, .inl (xy G 0, 60, .inl (fun _ => 0))), (q_new3, .inl (xy G 0, 60, .inl (fun _ => 0))), (q_new4, .inl (xy G 0, 60, .inl (fun _ => 0)))] := hD
  refine va_putF (D := xD G) (ci := 0) (v := .ref q_new4) (ty := (tyX0 4)) (C := RX0) (T := TX0) (N := 9) hx hb hts (fun w9 h9 => (List.mem_cons_of_mem _ (List.mem_append_right _ h9))) tyX0 tyX0_ok nmX0 hown hE.1 hP hD hS 0 rfl rfl 4 (by decide) (hts (.fieldLink RX0 21 "FallingGlass$Book" "winds" "[I") (List.mem_of_getElem? (i := 8) rfl)) (fun _ h9 => h9) rfl hin rfl (by decide +kernel) rfl rfl (Nat.le_of_ble_eq_true rfl) dX0_init_33 (fun H locs hP hD hS => ?_)
  have hP : va_P (xD G) vwCl [(q_this, .inr (0, [.int 0, .ref q_new1, .ref q_new2, .ref q_new3, .ref q_new4, .null, .null, .null, .null])), (q_new1, .inl (xy G 0, 60, .inl (fun _ => 0))), (q_new2, .inl (xy G 0, 60, .inl (fun _ => 0))), (q_new3, .inl (xy G 0, 60, .inl (fun _ => 0))), (q_new4, .inl (xy G 0, 60, .inl (fun _ => 0)))] H := hP
  have hD : va_D A [(q_this, .inr (0, [.int 0, .ref q_new1, .ref q_new2, .ref q_new3, .ref q_new4, .null, .null, .null, .null])), (q_new1, .inl (xy G 0, 60, .inl (fun _ => 0))), (q_new2, .inl (xy G 0, 60, .inl (fun _ => 0))), (q_new3, .inl (xy G 0, 60, .inl (fun _ => 0))), (q_new4, .inl (xy G 0, 60, .inl (fun _ => 0)))] := hD
  refine lv_aload_n hx hb dX0_init_36 rfl (lv_at hl 0 rfl) ?_
  refine lv_bipush (v := 60) hx hb dX0_init_37 (by decide) ?_
  refine x_newi hx hb (hts (.arrayClass .int) (List.mem_of_getElem? (i := 4) rfl)) hE hP hD hS hA (N := 60) (by decide) (by decide) (by decide) (Nat.le_of_ble_eq_true rfl) (Nat.le_of_ble_eq_true rfl) dX0_init_39 (fun q_new5 H hP hD hS => ?_)
  have hP : va_P (xD G) vwCl [(q_this, .inr (0, [.int 0, .ref q_new1, .ref q_new2, .ref q_new3, .ref q_new4, .null, .null, .null, .null])), (q_new1, .inl (xy G 0, 60, .inl (fun _ => 0))), (q_new2, .inl (xy G 0, 60, .inl (fun _ => 0))), (q_new3, .inl (xy G 0, 60, .inl (fun _ => 0))), (q_new4, .inl (xy G 0, 60, .inl (fun _ => 0))), (q_new5, .inl (xy G 0, 60, .inl (fun _ => 0)))] H := hP
  have hD : va_D A [(q_this, .inr (0, [.int 0, .ref q_new1, .ref q_new2, .ref q_new3, .ref q_new4, .null, .null, .null, .null])), (q_new1, .inl (xy G 0, 60, .inl (fun _ => 0))), (q_new2, .inl (xy G 0, 60, .inl (fun _ => 0))), (q_new3, .inl (xy G 0, 60, .inl (fun _ => 0))), (q_new4, .inl (xy G 0, 60, .inl (fun _ => 0))), (q_new5, .inl (xy G 0, 60, .inl (fun _ => 0)))] := hD
  refine va_putF (D := xD G) (ci := 0) (v := .ref q_new5) (ty := (tyX0 5)) (C := RX0) (T := TX0) (N := 9) hx hb hts (fun w9 h9 => (List.mem_cons_of_mem _ (List.mem_append_right _ h9))) tyX0 tyX0_ok nmX0 hown hE.1 hP hD hS 0 rfl rfl 5 (by decide) (hts (.fieldLink RX0 24 "FallingGlass$Book" "skies" "[I") (List.mem_of_getElem? (i := 9) rfl)) (fun _ h9 => h9) rfl hin rfl (by decide +kernel) rfl rfl (Nat.le_of_ble_eq_true rfl) dX0_init_41 (fun H locs hP hD hS => ?_)
  have hP : va_P (xD G) vwCl [(q_this, .inr (0, [.int 0, .ref q_new1, .ref q_new2, .ref q_new3, .ref q_new4, .ref q_new5, .null, .null, .null])), (q_new1, .inl (xy G 0, 60, .inl (fun _ => 0))), (q_new2, .inl (xy G 0, 60, .inl (fun _ => 0))), (q_new3, .inl (xy G 0, 60, .inl (fun _ => 0))), (q_new4, .inl (xy G 0, 60, .inl (fun _ => 0))), (q_new5, .inl (xy G 0, 60, .inl (fun _ => 0)))] H := hP
  have hD : va_D A [(q_this, .inr (0, [.int 0, .ref q_new1, .ref q_new2, .ref q_new3, .ref q_new4, .ref q_new5, .null, .null, .null])), (q_new1, .inl (xy G 0, 60, .inl (fun _ => 0))), (q_new2, .inl (xy G 0, 60, .inl (fun _ => 0))), (q_new3, .inl (xy G 0, 60, .inl (fun _ => 0))), (q_new4, .inl (xy G 0, 60, .inl (fun _ => 0))), (q_new5, .inl (xy G 0, 60, .inl (fun _ => 0)))] := hD
  refine lv_aload_n hx hb dX0_init_44 rfl (lv_at hl 0 rfl) ?_
  refine lv_bipush (v := 60) hx hb dX0_init_45 (by decide) ?_
  refine x_newi hx hb (hts (.arrayClass .int) (List.mem_of_getElem? (i := 4) rfl)) hE hP hD hS hA (N := 60) (by decide) (by decide) (by decide) (Nat.le_of_ble_eq_true rfl) (Nat.le_of_ble_eq_true rfl) dX0_init_47 (fun q_new6 H hP hD hS => ?_)
  have hP : va_P (xD G) vwCl [(q_this, .inr (0, [.int 0, .ref q_new1, .ref q_new2, .ref q_new3, .ref q_new4, .ref q_new5, .null, .null, .null])), (q_new1, .inl (xy G 0, 60, .inl (fun _ => 0))), (q_new2, .inl (xy G 0, 60, .inl (fun _ => 0))), (q_new3, .inl (xy G 0, 60, .inl (fun _ => 0))), (q_new4, .inl (xy G 0, 60, .inl (fun _ => 0))), (q_new5, .inl (xy G 0, 60, .inl (fun _ => 0))), (q_new6, .inl (xy G 0, 60, .inl (fun _ => 0)))] H := hP
  have hD : va_D A [(q_this, .inr (0, [.int 0, .ref q_new1, .ref q_new2, .ref q_new3, .ref q_new4, .ref q_new5, .null, .null, .null])), (q_new1, .inl (xy G 0, 60, .inl (fun _ => 0))), (q_new2, .inl (xy G 0, 60, .inl (fun _ => 0))), (q_new3, .inl (xy G 0, 60, .inl (fun _ => 0))), (q_new4, .inl (xy G 0, 60, .inl (fun _ => 0))), (q_new5, .inl (xy G 0, 60, .inl (fun _ => 0))), (q_new6, .inl (xy G 0, 60, .inl (fun _ => 0)))] := hD
  refine va_putF (D := xD G) (ci := 0) (v := .ref q_new6) (ty := (tyX0 6)) (C := RX0) (T := TX0) (N := 9) hx hb hts (fun w9 h9 => (List.mem_cons_of_mem _ (List.mem_append_right _ h9))) tyX0 tyX0_ok nmX0 hown hE.1 hP hD hS 0 rfl rfl 6 (by decide) (hts (.fieldLink RX0 27 "FallingGlass$Book" "rains" "[I") (List.mem_of_getElem? (i := 10) rfl)) (fun _ h9 => h9) rfl hin rfl (by decide +kernel) rfl rfl (Nat.le_of_ble_eq_true rfl) dX0_init_49 (fun H locs hP hD hS => ?_)
  have hP : va_P (xD G) vwCl [(q_this, .inr (0, [.int 0, .ref q_new1, .ref q_new2, .ref q_new3, .ref q_new4, .ref q_new5, .ref q_new6, .null, .null])), (q_new1, .inl (xy G 0, 60, .inl (fun _ => 0))), (q_new2, .inl (xy G 0, 60, .inl (fun _ => 0))), (q_new3, .inl (xy G 0, 60, .inl (fun _ => 0))), (q_new4, .inl (xy G 0, 60, .inl (fun _ => 0))), (q_new5, .inl (xy G 0, 60, .inl (fun _ => 0))), (q_new6, .inl (xy G 0, 60, .inl (fun _ => 0)))] H := hP
  have hD : va_D A [(q_this, .inr (0, [.int 0, .ref q_new1, .ref q_new2, .ref q_new3, .ref q_new4, .ref q_new5, .ref q_new6, .null, .null])), (q_new1, .inl (xy G 0, 60, .inl (fun _ => 0))), (q_new2, .inl (xy G 0, 60, .inl (fun _ => 0))), (q_new3, .inl (xy G 0, 60, .inl (fun _ => 0))), (q_new4, .inl (xy G 0, 60, .inl (fun _ => 0))), (q_new5, .inl (xy G 0, 60, .inl (fun _ => 0))), (q_new6, .inl (xy G 0, 60, .inl (fun _ => 0)))] := hD
  refine lv_aload_n hx hb dX0_init_52 rfl (lv_at hl 0 rfl) ?_
  refine lv_bipush (v := 60) hx hb dX0_init_53 (by decide) ?_
  refine x_newi hx hb (hts (.arrayClass .int) (List.mem_of_getElem? (i := 4) rfl)) hE hP hD hS hA (N := 60) (by decide) (by decide) (by decide) (Nat.le_of_ble_eq_true rfl) (Nat.le_of_ble_eq_true rfl) dX0_init_55 (fun q_new7 H hP hD hS => ?_)
  have hP : va_P (xD G) vwCl [(q_this, .inr (0, [.int 0, .ref q_new1, .ref q_new2, .ref q_new3, .ref q_new4, .ref q_new5, .ref q_new6, .null, .null])), (q_new1, .inl (xy G 0, 60, .inl (fun _ => 0))), (q_new2, .inl (xy G 0, 60, .inl (fun _ => 0))), (q_new3, .inl (xy G 0, 60, .inl (fun _ => 0))), (q_new4, .inl (xy G 0, 60, .inl (fun _ => 0))), (q_new5, .inl (xy G 0, 60, .inl (fun _ => 0))), (q_new6, .inl (xy G 0, 60, .inl (fun _ => 0))), (q_new7, .inl (xy G 0, 60, .inl (fun _ => 0)))] H := hP
  have hD : va_D A [(q_this, .inr (0, [.int 0, .ref q_new1, .ref q_new2, .ref q_new3, .ref q_new4, .ref q_new5, .ref q_new6, .null, .null])), (q_new1, .inl (xy G 0, 60, .inl (fun _ => 0))), (q_new2, .inl (xy G 0, 60, .inl (fun _ => 0))), (q_new3, .inl (xy G 0, 60, .inl (fun _ => 0))), (q_new4, .inl (xy G 0, 60, .inl (fun _ => 0))), (q_new5, .inl (xy G 0, 60, .inl (fun _ => 0))), (q_new6, .inl (xy G 0, 60, .inl (fun _ => 0))), (q_new7, .inl (xy G 0, 60, .inl (fun _ => 0)))] := hD
  refine va_putF (D := xD G) (ci := 0) (v := .ref q_new7) (ty := (tyX0 7)) (C := RX0) (T := TX0) (N := 9) hx hb hts (fun w9 h9 => (List.mem_cons_of_mem _ (List.mem_append_right _ h9))) tyX0 tyX0_ok nmX0 hown hE.1 hP hD hS 0 rfl rfl 7 (by decide) (hts (.fieldLink RX0 30 "FallingGlass$Book" "wires" "[I") (List.mem_of_getElem? (i := 11) rfl)) (fun _ h9 => h9) rfl hin rfl (by decide +kernel) rfl rfl (Nat.le_of_ble_eq_true rfl) dX0_init_57 (fun H locs hP hD hS => ?_)
  have hP : va_P (xD G) vwCl [(q_this, .inr (0, [.int 0, .ref q_new1, .ref q_new2, .ref q_new3, .ref q_new4, .ref q_new5, .ref q_new6, .ref q_new7, .null])), (q_new1, .inl (xy G 0, 60, .inl (fun _ => 0))), (q_new2, .inl (xy G 0, 60, .inl (fun _ => 0))), (q_new3, .inl (xy G 0, 60, .inl (fun _ => 0))), (q_new4, .inl (xy G 0, 60, .inl (fun _ => 0))), (q_new5, .inl (xy G 0, 60, .inl (fun _ => 0))), (q_new6, .inl (xy G 0, 60, .inl (fun _ => 0))), (q_new7, .inl (xy G 0, 60, .inl (fun _ => 0)))] H := hP
  have hD : va_D A [(q_this, .inr (0, [.int 0, .ref q_new1, .ref q_new2, .ref q_new3, .ref q_new4, .ref q_new5, .ref q_new6, .ref q_new7, .null])), (q_new1, .inl (xy G 0, 60, .inl (fun _ => 0))), (q_new2, .inl (xy G 0, 60, .inl (fun _ => 0))), (q_new3, .inl (xy G 0, 60, .inl (fun _ => 0))), (q_new4, .inl (xy G 0, 60, .inl (fun _ => 0))), (q_new5, .inl (xy G 0, 60, .inl (fun _ => 0))), (q_new6, .inl (xy G 0, 60, .inl (fun _ => 0))), (q_new7, .inl (xy G 0, 60, .inl (fun _ => 0)))] := hD
  refine lv_aload_n hx hb dX0_init_60 rfl (lv_at hl 0 rfl) ?_
  refine lv_bipush (v := 60) hx hb dX0_init_61 (by decide) ?_
  refine x_newi hx hb (hts (.arrayClass .int) (List.mem_of_getElem? (i := 4) rfl)) hE hP hD hS hA (N := 60) (by decide) (by decide) (by decide) (Nat.le_of_ble_eq_true rfl) (Nat.le_of_ble_eq_true rfl) dX0_init_63 (fun q_new8 H hP hD hS => ?_)
  have hP : va_P (xD G) vwCl [(q_this, .inr (0, [.int 0, .ref q_new1, .ref q_new2, .ref q_new3, .ref q_new4, .ref q_new5, .ref q_new6, .ref q_new7, .null])), (q_new1, .inl (xy G 0, 60, .inl (fun _ => 0))), (q_new2, .inl (xy G 0, 60, .inl (fun _ => 0))), (q_new3, .inl (xy G 0, 60, .inl (fun _ => 0))), (q_new4, .inl (xy G 0, 60, .inl (fun _ => 0))), (q_new5, .inl (xy G 0, 60, .inl (fun _ => 0))), (q_new6, .inl (xy G 0, 60, .inl (fun _ => 0))), (q_new7, .inl (xy G 0, 60, .inl (fun _ => 0))), (q_new8, .inl (xy G 0, 60, .inl (fun _ => 0)))] H := hP
  have hD : va_D A [(q_this, .inr (0, [.int 0, .ref q_new1, .ref q_new2, .ref q_new3, .ref q_new4, .ref q_new5, .ref q_new6, .ref q_new7, .null])), (q_new1, .inl (xy G 0, 60, .inl (fun _ => 0))), (q_new2, .inl (xy G 0, 60, .inl (fun _ => 0))), (q_new3, .inl (xy G 0, 60, .inl (fun _ => 0))), (q_new4, .inl (xy G 0, 60, .inl (fun _ => 0))), (q_new5, .inl (xy G 0, 60, .inl (fun _ => 0))), (q_new6, .inl (xy G 0, 60, .inl (fun _ => 0))), (q_new7, .inl (xy G 0, 60, .inl (fun _ => 0))), (q_new8, .inl (xy G 0, 60, .inl (fun _ => 0)))] := hD
  refine va_putF (D := xD G) (ci := 0) (v := .ref q_new8) (ty := (tyX0 8)) (C := RX0) (T := TX0) (N := 9) hx hb hts (fun w9 h9 => (List.mem_cons_of_mem _ (List.mem_append_right _ h9))) tyX0 tyX0_ok nmX0 hown hE.1 hP hD hS 0 rfl rfl 8 (by decide) (hts (.fieldLink RX0 33 "FallingGlass$Book" "kinds" "[I") (List.mem_of_getElem? (i := 12) rfl)) (fun _ h9 => h9) rfl hin rfl (by decide +kernel) rfl rfl (Nat.le_of_ble_eq_true rfl) dX0_init_65 (fun H locs hP hD hS => ?_)
  have hP : va_P (xD G) vwCl [(q_this, .inr (0, [.int 0, .ref q_new1, .ref q_new2, .ref q_new3, .ref q_new4, .ref q_new5, .ref q_new6, .ref q_new7, .ref q_new8])), (q_new1, .inl (xy G 0, 60, .inl (fun _ => 0))), (q_new2, .inl (xy G 0, 60, .inl (fun _ => 0))), (q_new3, .inl (xy G 0, 60, .inl (fun _ => 0))), (q_new4, .inl (xy G 0, 60, .inl (fun _ => 0))), (q_new5, .inl (xy G 0, 60, .inl (fun _ => 0))), (q_new6, .inl (xy G 0, 60, .inl (fun _ => 0))), (q_new7, .inl (xy G 0, 60, .inl (fun _ => 0))), (q_new8, .inl (xy G 0, 60, .inl (fun _ => 0)))] H := hP
  have hD : va_D A [(q_this, .inr (0, [.int 0, .ref q_new1, .ref q_new2, .ref q_new3, .ref q_new4, .ref q_new5, .ref q_new6, .ref q_new7, .ref q_new8])), (q_new1, .inl (xy G 0, 60, .inl (fun _ => 0))), (q_new2, .inl (xy G 0, 60, .inl (fun _ => 0))), (q_new3, .inl (xy G 0, 60, .inl (fun _ => 0))), (q_new4, .inl (xy G 0, 60, .inl (fun _ => 0))), (q_new5, .inl (xy G 0, 60, .inl (fun _ => 0))), (q_new6, .inl (xy G 0, 60, .inl (fun _ => 0))), (q_new7, .inl (xy G 0, 60, .inl (fun _ => 0))), (q_new8, .inl (xy G 0, 60, .inl (fun _ => 0)))] := hD
  exact x_cret (fun j => ([q_new1, q_new2, q_new3, q_new4, q_new5, q_new6, q_new7, q_new8] : List Nat).getD j 0) hx hb hr hlk hP hD hS dX0_init_68
set_option maxHeartbeats 4000000 in
set_option maxRecDepth 100000 in
theorem kX2_init (l : Launch) (G : xG) (H0 : Heap) {q_this : Nat} (w0 : va_W) (hw0 : w0 = [(q_this, .inr (2, [.int 0, .null, .null, .null, .null]))]) (hP : va_P (xD G) vwCl w0 H0) (hD : va_D (fun _ => True) w0) : Met l yX2_init wsX2_init ({ frames := 1, cells := 4, slots := 16, locals := 12 }) (xPcw G (va_A w0 H0.size) H0 [.ref q_this]) (xRc G (va_A w0 H0.size) (fun ad => [(q_this, .inr (2, [.int 0, .ref (ad 0), .ref (ad 1), .ref (ad 2), .ref (ad 3)]))] ++ [((ad 0), .inl (xy G 0, 4, .inl (fun _ => 0))), ((ad 1), .inl (xy G 0, 4, .inl (fun _ => 0))), ((ad 2), .inl (xy G 0, 4, .inl (fun _ => 0))), ((ad 3), .inl (xy G 0, 4, .inl (fun _ => 0)))])) 4 16 (va_A w0 H0.size) := by
  refine x_metw (y := yX2_init) (ws := wsX2_init) (rm := { frames := 1, cells := 4, slots := 16, locals := 12 }) (G := G) (H0 := H0) (w0 := w0) (av := [.ref q_this]) (mc := 4) (ms := 16) (Qc := (fun A => (xRc G A (fun ad => [(q_this, .inr (2, [.int 0, .ref (ad 0), .ref (ad 1), .ref (ad 2), .ref (ad 3)]))] ++ [((ad 0), .inl (xy G 0, 4, .inl (fun _ => 0))), ((ad 1), .inl (xy G 0, 4, .inl (fun _ => 0))), ((ad 2), .inl (xy G 0, 4, .inl (fun _ => 0))), ((ad 3), .inl (xy G 0, 4, .inl (fun _ => 0)))])))) (by decide) rfl (Nat.le_of_ble_eq_true rfl) hP hD ?_
  clear hP hD
  intro p e s m below meth c ls A H locs hA hAt hnm hl hP hD hS
  have hin : meth.name = "<init>" := hnm
  subst hw0
  obtain ⟨hx, hb, hr, hlk, hml, hown, hts, hE⟩ := hAt
  have hown : s.vm.findClass RX2 = some m.cls := hown
  have hl : lv_has ls 1 [(0, .ref q_this)] := hl
  refine lv_aload_n hx hb dX2_init_0 rfl (lv_at hl 0 rfl) ?_
  refine W.objInit hx hb hown (hts (.methodLink RX2 3 objectInit) (List.mem_of_getElem? (i := 1) rfl)) (hts (.instanceMethod objectInit) (List.mem_of_getElem? (i := 2) rfl)) (hts (.code objectInit ⟨#[0xb1]⟩ 1 none) (List.mem_of_getElem? (i := 3) rfl)) rfl (by rw [hml]; exact hl.1) rfl dX2_init_1 (Nat.le_of_ble_eq_true rfl) (Nat.le_of_ble_eq_true rfl) ?_
  refine W.eq (g2 := F0 m 4 ls []) rfl ?_
  refine lv_aload_n hx hb dX2_init_4 rfl (lv_at hl 0 rfl) ?_
  refine lv_iconst (v := 4) hx hb dX2_init_5 (by decide) ?_
  refine x_newi hx hb (hts (.arrayClass .int) (List.mem_of_getElem? (i := 4) rfl)) hE hP hD hS hA (N := 4) (by decide) (by decide) (by decide) (Nat.le_of_ble_eq_true rfl) (Nat.le_of_ble_eq_true rfl) dX2_init_6 (fun q_new1 H hP hD hS => ?_)
  have hP : va_P (xD G) vwCl [(q_this, .inr (2, [.int 0, .null, .null, .null, .null])), (q_new1, .inl (xy G 0, 4, .inl (fun _ => 0)))] H := hP
  have hD : va_D A [(q_this, .inr (2, [.int 0, .null, .null, .null, .null])), (q_new1, .inl (xy G 0, 4, .inl (fun _ => 0)))] := hD
  refine va_putF (D := xD G) (ci := 2) (v := .ref q_new1) (ty := (tyX2 1)) (C := RX2) (T := TX2) (N := 5) hx hb hts (fun w9 h9 => (List.mem_cons_of_mem _ (List.mem_append_right _ h9))) tyX2 tyX2_ok nmX2 hown hE.1 hP hD hS 0 rfl rfl 1 (by decide) (hts (.fieldLink RX2 9 "FallingGlass$Chart" "xs" "[I") (List.mem_of_getElem? (i := 5) rfl)) (fun _ h9 => h9) rfl hin rfl (by decide +kernel) rfl rfl (Nat.le_of_ble_eq_true rfl) dX2_init_8 (fun H locs hP hD hS => ?_)
  have hP : va_P (xD G) vwCl [(q_this, .inr (2, [.int 0, .ref q_new1, .null, .null, .null])), (q_new1, .inl (xy G 0, 4, .inl (fun _ => 0)))] H := hP
  have hD : va_D A [(q_this, .inr (2, [.int 0, .ref q_new1, .null, .null, .null])), (q_new1, .inl (xy G 0, 4, .inl (fun _ => 0)))] := hD
  refine lv_aload_n hx hb dX2_init_11 rfl (lv_at hl 0 rfl) ?_
  refine lv_iconst (v := 4) hx hb dX2_init_12 (by decide) ?_
  refine x_newi hx hb (hts (.arrayClass .int) (List.mem_of_getElem? (i := 4) rfl)) hE hP hD hS hA (N := 4) (by decide) (by decide) (by decide) (Nat.le_of_ble_eq_true rfl) (Nat.le_of_ble_eq_true rfl) dX2_init_13 (fun q_new2 H hP hD hS => ?_)
  have hP : va_P (xD G) vwCl [(q_this, .inr (2, [.int 0, .ref q_new1, .null, .null, .null])), (q_new1, .inl (xy G 0, 4, .inl (fun _ => 0))), (q_new2, .inl (xy G 0, 4, .inl (fun _ => 0)))] H := hP
  have hD : va_D A [(q_this, .inr (2, [.int 0, .ref q_new1, .null, .null, .null])), (q_new1, .inl (xy G 0, 4, .inl (fun _ => 0))), (q_new2, .inl (xy G 0, 4, .inl (fun _ => 0)))] := hD
  refine va_putF (D := xD G) (ci := 2) (v := .ref q_new2) (ty := (tyX2 2)) (C := RX2) (T := TX2) (N := 5) hx hb hts (fun w9 h9 => (List.mem_cons_of_mem _ (List.mem_append_right _ h9))) tyX2 tyX2_ok nmX2 hown hE.1 hP hD hS 0 rfl rfl 2 (by decide) (hts (.fieldLink RX2 15 "FallingGlass$Chart" "ys" "[I") (List.mem_of_getElem? (i := 6) rfl)) (fun _ h9 => h9) rfl hin rfl (by decide +kernel) rfl rfl (Nat.le_of_ble_eq_true rfl) dX2_init_15 (fun H locs hP hD hS => ?_)
  have hP : va_P (xD G) vwCl [(q_this, .inr (2, [.int 0, .ref q_new1, .ref q_new2, .null, .null])), (q_new1, .inl (xy G 0, 4, .inl (fun _ => 0))), (q_new2, .inl (xy G 0, 4, .inl (fun _ => 0)))] H := hP
  have hD : va_D A [(q_this, .inr (2, [.int 0, .ref q_new1, .ref q_new2, .null, .null])), (q_new1, .inl (xy G 0, 4, .inl (fun _ => 0))), (q_new2, .inl (xy G 0, 4, .inl (fun _ => 0)))] := hD
  refine lv_aload_n hx hb dX2_init_18 rfl (lv_at hl 0 rfl) ?_
  refine lv_iconst (v := 4) hx hb dX2_init_19 (by decide) ?_
  refine x_newi hx hb (hts (.arrayClass .int) (List.mem_of_getElem? (i := 4) rfl)) hE hP hD hS hA (N := 4) (by decide) (by decide) (by decide) (Nat.le_of_ble_eq_true rfl) (Nat.le_of_ble_eq_true rfl) dX2_init_20 (fun q_new3 H hP hD hS => ?_)
  have hP : va_P (xD G) vwCl [(q_this, .inr (2, [.int 0, .ref q_new1, .ref q_new2, .null, .null])), (q_new1, .inl (xy G 0, 4, .inl (fun _ => 0))), (q_new2, .inl (xy G 0, 4, .inl (fun _ => 0))), (q_new3, .inl (xy G 0, 4, .inl (fun _ => 0)))] H := hP
  have hD : va_D A [(q_this, .inr (2, [.int 0, .ref q_new1, .ref q_new2, .null, .null])), (q_new1, .inl (xy G 0, 4, .inl (fun _ => 0))), (q_new2, .inl (xy G 0, 4, .inl (fun _ => 0))), (q_new3, .inl (xy G 0, 4, .inl (fun _ => 0)))] := hD
  refine va_putF (D := xD G) (ci := 2) (v := .ref q_new3) (ty := (tyX2 3)) (C := RX2) (T := TX2) (N := 5) hx hb hts (fun w9 h9 => (List.mem_cons_of_mem _ (List.mem_append_right _ h9))) tyX2 tyX2_ok nmX2 hown hE.1 hP hD hS 0 rfl rfl 3 (by decide) (hts (.fieldLink RX2 18 "FallingGlass$Chart" "presses" "[I") (List.mem_of_getElem? (i := 7) rfl)) (fun _ h9 => h9) rfl hin rfl (by decide +kernel) rfl rfl (Nat.le_of_ble_eq_true rfl) dX2_init_22 (fun H locs hP hD hS => ?_)
  have hP : va_P (xD G) vwCl [(q_this, .inr (2, [.int 0, .ref q_new1, .ref q_new2, .ref q_new3, .null])), (q_new1, .inl (xy G 0, 4, .inl (fun _ => 0))), (q_new2, .inl (xy G 0, 4, .inl (fun _ => 0))), (q_new3, .inl (xy G 0, 4, .inl (fun _ => 0)))] H := hP
  have hD : va_D A [(q_this, .inr (2, [.int 0, .ref q_new1, .ref q_new2, .ref q_new3, .null])), (q_new1, .inl (xy G 0, 4, .inl (fun _ => 0))), (q_new2, .inl (xy G 0, 4, .inl (fun _ => 0))), (q_new3, .inl (xy G 0, 4, .inl (fun _ => 0)))] := hD
  refine lv_aload_n hx hb dX2_init_25 rfl (lv_at hl 0 rfl) ?_
  refine lv_iconst (v := 4) hx hb dX2_init_26 (by decide) ?_
  refine x_newi hx hb (hts (.arrayClass .int) (List.mem_of_getElem? (i := 4) rfl)) hE hP hD hS hA (N := 4) (by decide) (by decide) (by decide) (Nat.le_of_ble_eq_true rfl) (Nat.le_of_ble_eq_true rfl) dX2_init_27 (fun q_new4 H hP hD hS => ?_)
  have hP : va_P (xD G) vwCl [(q_this, .inr (2, [.int 0, .ref q_new1, .ref q_new2, .ref q_new3, .null])), (q_new1, .inl (xy G 0, 4, .inl (fun _ => 0))), (q_new2, .inl (xy G 0, 4, .inl (fun _ => 0))), (q_new3, .inl (xy G 0, 4, .inl (fun _ => 0))), (q_new4, .inl (xy G 0, 4, .inl (fun _ => 0)))] H := hP
  have hD : va_D A [(q_this, .inr (2, [.int 0, .ref q_new1, .ref q_new2, .ref q_new3, .null])), (q_new1, .inl (xy G 0, 4, .inl (fun _ => 0))), (q_new2, .inl (xy G 0, 4, .inl (fun _ => 0))), (q_new3, .inl (xy G 0, 4, .inl (fun _ => 0))), (q_new4, .inl (xy G 0, 4, .inl (fun _ => 0)))] := hD
  refine va_putF (D := xD G) (ci := 2) (v := .ref q_new4) (ty := (tyX2 4)) (C := RX2) (T := TX2) (N := 5) hx hb hts (fun w9 h9 => (List.mem_cons_of_mem _ (List.mem_append_right _ h9))) tyX2 tyX2_ok nmX2 hown hE.1 hP hD hS 0 rfl rfl 4 (by decide) (hts (.fieldLink RX2 21 "FallingGlass$Chart" "winds" "[I") (List.mem_of_getElem? (i := 8) rfl)) (fun _ h9 => h9) rfl hin rfl (by decide +kernel) rfl rfl (Nat.le_of_ble_eq_true rfl) dX2_init_29 (fun H locs hP hD hS => ?_)
  have hP : va_P (xD G) vwCl [(q_this, .inr (2, [.int 0, .ref q_new1, .ref q_new2, .ref q_new3, .ref q_new4])), (q_new1, .inl (xy G 0, 4, .inl (fun _ => 0))), (q_new2, .inl (xy G 0, 4, .inl (fun _ => 0))), (q_new3, .inl (xy G 0, 4, .inl (fun _ => 0))), (q_new4, .inl (xy G 0, 4, .inl (fun _ => 0)))] H := hP
  have hD : va_D A [(q_this, .inr (2, [.int 0, .ref q_new1, .ref q_new2, .ref q_new3, .ref q_new4])), (q_new1, .inl (xy G 0, 4, .inl (fun _ => 0))), (q_new2, .inl (xy G 0, 4, .inl (fun _ => 0))), (q_new3, .inl (xy G 0, 4, .inl (fun _ => 0))), (q_new4, .inl (xy G 0, 4, .inl (fun _ => 0)))] := hD
  exact x_cret (fun j => ([q_new1, q_new2, q_new3, q_new4] : List Nat).getD j 0) hx hb hr hlk hP hD hS dX2_init_32
set_option maxHeartbeats 4000000 in
set_option maxRecDepth 100000 in
theorem kX6_initL1 (l : Launch) (G : xG) (H0 : Heap) {q_this : Nat} (w0 : va_W) (hw0 : w0 = [(q_this, .inr (6, [.null, .null]))]) (hP : va_P (xD G) vwCl w0 H0) (hD : va_D (fun _ => True) w0) : Met l yX6_init wsX6_init ({ frames := 1, cells := 2, slots := 2, locals := 13 }) (xPcw G (va_A w0 H0.size) H0 [.ref q_this, .int 1]) (xRc G (va_A w0 H0.size) (fun ad => [(q_this, .inr (6, [.ref (ad 0), .ref (ad 1)]))] ++ [((ad 0), .inl (xy G 0, 1, .inl (fun _ => 0))), ((ad 1), .inl (xy G 0, 1, .inl (fun _ => 0)))])) 2 2 (va_A w0 H0.size) := by
  refine x_metw (y := yX6_init) (ws := wsX6_init) (rm := { frames := 1, cells := 2, slots := 2, locals := 13 }) (G := G) (H0 := H0) (w0 := w0) (av := [.ref q_this, .int 1]) (mc := 2) (ms := 2) (Qc := (fun A => (xRc G A (fun ad => [(q_this, .inr (6, [.ref (ad 0), .ref (ad 1)]))] ++ [((ad 0), .inl (xy G 0, 1, .inl (fun _ => 0))), ((ad 1), .inl (xy G 0, 1, .inl (fun _ => 0)))])))) (by decide) rfl (Nat.le_of_ble_eq_true rfl) hP hD ?_
  clear hP hD
  intro p e s m below meth c ls A H locs hA hAt hnm hl hP hD hS
  have hin : meth.name = "<init>" := hnm
  subst hw0
  obtain ⟨hx, hb, hr, hlk, hml, hown, hts, hE⟩ := hAt
  have hown : s.vm.findClass RX6 = some m.cls := hown
  have hl : lv_has ls 3 [(0, .ref q_this), (1, .int 1)] := hl
  refine lv_aload_n hx hb dX6_init_0 rfl (lv_at hl 0 rfl) ?_
  refine W.objInit hx hb hown (hts (.methodLink RX6 3 objectInit) (List.mem_of_getElem? (i := 1) rfl)) (hts (.instanceMethod objectInit) (List.mem_of_getElem? (i := 2) rfl)) (hts (.code objectInit ⟨#[0xb1]⟩ 1 none) (List.mem_of_getElem? (i := 3) rfl)) rfl (by rw [hml]; exact hl.1) rfl dX6_init_1 (Nat.le_of_ble_eq_true rfl) (Nat.le_of_ble_eq_true rfl) ?_
  refine W.eq (g2 := F0 m 4 ls []) rfl ?_
  refine lv_iconst (v := 0) hx hb dX6_init_4 (by decide) ?_
  refine lv_iload_n hx hb dX6_init_5 rfl (lv_at hl 1 rfl) ?_
  refine va_mmax hx hb (hml.trans hl.1.symm) hown (hts (.methodLink RX6 9 Lib.Math.max.name) (List.mem_of_getElem? (i := 4) rfl)) (hts (.static Lib.Math.max.name) (List.mem_of_getElem? (i := 5) rfl)) (hts (.initialized "java/lang/Math") (List.mem_of_getElem? (i := 6) rfl)) (hts (.code Lib.Math.max.name Lib.Math.max.code 2 (some .int)) (List.mem_of_getElem? (i := 7) rfl)) (Nat.le_of_ble_eq_true rfl) (Nat.le_of_ble_eq_true rfl) (Nat.le_of_ble_eq_true rfl) (Nat.le_of_ble_eq_true rfl) dX6_init_6 ?_
  refine W.eq (g2 := F0 m 9 ls [.int 1]) (by rw [show ((if (0 : Int32) < 1 then 1 else 0) : Int32) = (1 : Int32) from by decide]) ?_
  refine lv_istore_n (lv' := [(2, .int 1), (0, .ref q_this), (1, .int 1)]) hx hb dX6_init_9 rfl hl (by decide) rfl (fun ls hl => ?_)
  refine lv_aload_n hx hb dX6_init_10 rfl (lv_at hl 1 rfl) ?_
  refine lv_iload_n hx hb dX6_init_11 rfl (lv_at hl 0 rfl) ?_
  refine x_newi hx hb (hts (.arrayClass .int) (List.mem_of_getElem? (i := 8) rfl)) hE hP hD hS hA (N := 1) (by decide) (by decide) (by decide) (Nat.le_of_ble_eq_true rfl) (Nat.le_of_ble_eq_true rfl) dX6_init_12 (fun q_new1 H hP hD hS => ?_)
  have hP : va_P (xD G) vwCl [(q_this, .inr (6, [.null, .null])), (q_new1, .inl (xy G 0, 1, .inl (fun _ => 0)))] H := hP
  have hD : va_D A [(q_this, .inr (6, [.null, .null])), (q_new1, .inl (xy G 0, 1, .inl (fun _ => 0)))] := hD
  refine va_putF (D := xD G) (ci := 6) (v := .ref q_new1) (ty := (tyX6 0)) (C := RX6) (T := TX6) (N := 2) hx hb hts (fun w9 h9 => (List.mem_cons_of_mem _ (List.mem_append_right _ h9))) tyX6 tyX6_ok nmX6 hown hE.1 hP hD hS 0 rfl rfl 0 (by decide) (hts (.fieldLink RX6 15 "FallingGlass$Scores" "squares" "[I") (List.mem_of_getElem? (i := 9) rfl)) (fun _ h9 => h9) rfl hin rfl (by decide +kernel) rfl rfl (Nat.le_of_ble_eq_true rfl) dX6_init_14 (fun H locs hP hD hS => ?_)
  have hP : va_P (xD G) vwCl [(q_this, .inr (6, [.ref q_new1, .null])), (q_new1, .inl (xy G 0, 1, .inl (fun _ => 0)))] H := hP
  have hD : va_D A [(q_this, .inr (6, [.ref q_new1, .null])), (q_new1, .inl (xy G 0, 1, .inl (fun _ => 0)))] := hD
  refine lv_aload_n hx hb dX6_init_17 rfl (lv_at hl 1 rfl) ?_
  refine lv_iload_n hx hb dX6_init_18 rfl (lv_at hl 0 rfl) ?_
  refine x_newi hx hb (hts (.arrayClass .int) (List.mem_of_getElem? (i := 8) rfl)) hE hP hD hS hA (N := 1) (by decide) (by decide) (by decide) (Nat.le_of_ble_eq_true rfl) (Nat.le_of_ble_eq_true rfl) dX6_init_19 (fun q_new2 H hP hD hS => ?_)
  have hP : va_P (xD G) vwCl [(q_this, .inr (6, [.ref q_new1, .null])), (q_new1, .inl (xy G 0, 1, .inl (fun _ => 0))), (q_new2, .inl (xy G 0, 1, .inl (fun _ => 0)))] H := hP
  have hD : va_D A [(q_this, .inr (6, [.ref q_new1, .null])), (q_new1, .inl (xy G 0, 1, .inl (fun _ => 0))), (q_new2, .inl (xy G 0, 1, .inl (fun _ => 0)))] := hD
  refine va_putF (D := xD G) (ci := 6) (v := .ref q_new2) (ty := (tyX6 1)) (C := RX6) (T := TX6) (N := 2) hx hb hts (fun w9 h9 => (List.mem_cons_of_mem _ (List.mem_append_right _ h9))) tyX6 tyX6_ok nmX6 hown hE.1 hP hD hS 0 rfl rfl 1 (by decide) (hts (.fieldLink RX6 21 "FallingGlass$Scores" "days" "[I") (List.mem_of_getElem? (i := 10) rfl)) (fun _ h9 => h9) rfl hin rfl (by decide +kernel) rfl rfl (Nat.le_of_ble_eq_true rfl) dX6_init_21 (fun H locs hP hD hS => ?_)
  have hP : va_P (xD G) vwCl [(q_this, .inr (6, [.ref q_new1, .ref q_new2])), (q_new1, .inl (xy G 0, 1, .inl (fun _ => 0))), (q_new2, .inl (xy G 0, 1, .inl (fun _ => 0)))] H := hP
  have hD : va_D A [(q_this, .inr (6, [.ref q_new1, .ref q_new2])), (q_new1, .inl (xy G 0, 1, .inl (fun _ => 0))), (q_new2, .inl (xy G 0, 1, .inl (fun _ => 0)))] := hD
  exact x_cret (fun j => ([q_new1, q_new2] : List Nat).getD j 0) hx hb hr hlk hP hD hS dX6_init_24
set_option maxHeartbeats 4000000 in
set_option maxRecDepth 100000 in
theorem kX6_initL11 (l : Launch) (G : xG) (H0 : Heap) {q_this : Nat} (w0 : va_W) (hw0 : w0 = [(q_this, .inr (6, [.null, .null]))]) (hP : va_P (xD G) vwCl w0 H0) (hD : va_D (fun _ => True) w0) : Met l yX6_init wsX6_init ({ frames := 1, cells := 2, slots := 22, locals := 13 }) (xPcw G (va_A w0 H0.size) H0 [.ref q_this, .int 11]) (xRc G (va_A w0 H0.size) (fun ad => [(q_this, .inr (6, [.ref (ad 0), .ref (ad 1)]))] ++ [((ad 0), .inl (xy G 0, 11, .inl (fun _ => 0))), ((ad 1), .inl (xy G 0, 11, .inl (fun _ => 0)))])) 2 22 (va_A w0 H0.size) := by
  refine x_metw (y := yX6_init) (ws := wsX6_init) (rm := { frames := 1, cells := 2, slots := 22, locals := 13 }) (G := G) (H0 := H0) (w0 := w0) (av := [.ref q_this, .int 11]) (mc := 2) (ms := 22) (Qc := (fun A => (xRc G A (fun ad => [(q_this, .inr (6, [.ref (ad 0), .ref (ad 1)]))] ++ [((ad 0), .inl (xy G 0, 11, .inl (fun _ => 0))), ((ad 1), .inl (xy G 0, 11, .inl (fun _ => 0)))])))) (by decide) rfl (Nat.le_of_ble_eq_true rfl) hP hD ?_
  clear hP hD
  intro p e s m below meth c ls A H locs hA hAt hnm hl hP hD hS
  have hin : meth.name = "<init>" := hnm
  subst hw0
  obtain ⟨hx, hb, hr, hlk, hml, hown, hts, hE⟩ := hAt
  have hown : s.vm.findClass RX6 = some m.cls := hown
  have hl : lv_has ls 3 [(0, .ref q_this), (1, .int 11)] := hl
  refine lv_aload_n hx hb dX6_init_0 rfl (lv_at hl 0 rfl) ?_
  refine W.objInit hx hb hown (hts (.methodLink RX6 3 objectInit) (List.mem_of_getElem? (i := 1) rfl)) (hts (.instanceMethod objectInit) (List.mem_of_getElem? (i := 2) rfl)) (hts (.code objectInit ⟨#[0xb1]⟩ 1 none) (List.mem_of_getElem? (i := 3) rfl)) rfl (by rw [hml]; exact hl.1) rfl dX6_init_1 (Nat.le_of_ble_eq_true rfl) (Nat.le_of_ble_eq_true rfl) ?_
  refine W.eq (g2 := F0 m 4 ls []) rfl ?_
  refine lv_iconst (v := 0) hx hb dX6_init_4 (by decide) ?_
  refine lv_iload_n hx hb dX6_init_5 rfl (lv_at hl 1 rfl) ?_
  refine va_mmax hx hb (hml.trans hl.1.symm) hown (hts (.methodLink RX6 9 Lib.Math.max.name) (List.mem_of_getElem? (i := 4) rfl)) (hts (.static Lib.Math.max.name) (List.mem_of_getElem? (i := 5) rfl)) (hts (.initialized "java/lang/Math") (List.mem_of_getElem? (i := 6) rfl)) (hts (.code Lib.Math.max.name Lib.Math.max.code 2 (some .int)) (List.mem_of_getElem? (i := 7) rfl)) (Nat.le_of_ble_eq_true rfl) (Nat.le_of_ble_eq_true rfl) (Nat.le_of_ble_eq_true rfl) (Nat.le_of_ble_eq_true rfl) dX6_init_6 ?_
  refine W.eq (g2 := F0 m 9 ls [.int 11]) (by rw [show ((if (0 : Int32) < 11 then 11 else 0) : Int32) = (11 : Int32) from by decide]) ?_
  refine lv_istore_n (lv' := [(2, .int 11), (0, .ref q_this), (1, .int 11)]) hx hb dX6_init_9 rfl hl (by decide) rfl (fun ls hl => ?_)
  refine lv_aload_n hx hb dX6_init_10 rfl (lv_at hl 1 rfl) ?_
  refine lv_iload_n hx hb dX6_init_11 rfl (lv_at hl 0 rfl) ?_
  refine x_newi hx hb (hts (.arrayClass .int) (List.mem_of_getElem? (i := 8) rfl)) hE hP hD hS hA (N := 11) (by decide) (by decide) (by decide) (Nat.le_of_ble_eq_true rfl) (Nat.le_of_ble_eq_true rfl) dX6_init_12 (fun q_new1 H hP hD hS => ?_)
  have hP : va_P (xD G) vwCl [(q_this, .inr (6, [.null, .null])), (q_new1, .inl (xy G 0, 11, .inl (fun _ => 0)))] H := hP
  have hD : va_D A [(q_this, .inr (6, [.null, .null])), (q_new1, .inl (xy G 0, 11, .inl (fun _ => 0)))] := hD
  refine va_putF (D := xD G) (ci := 6) (v := .ref q_new1) (ty := (tyX6 0)) (C := RX6) (T := TX6) (N := 2) hx hb hts (fun w9 h9 => (List.mem_cons_of_mem _ (List.mem_append_right _ h9))) tyX6 tyX6_ok nmX6 hown hE.1 hP hD hS 0 rfl rfl 0 (by decide) (hts (.fieldLink RX6 15 "FallingGlass$Scores" "squares" "[I") (List.mem_of_getElem? (i := 9) rfl)) (fun _ h9 => h9) rfl hin rfl (by decide +kernel) rfl rfl (Nat.le_of_ble_eq_true rfl) dX6_init_14 (fun H locs hP hD hS => ?_)
  have hP : va_P (xD G) vwCl [(q_this, .inr (6, [.ref q_new1, .null])), (q_new1, .inl (xy G 0, 11, .inl (fun _ => 0)))] H := hP
  have hD : va_D A [(q_this, .inr (6, [.ref q_new1, .null])), (q_new1, .inl (xy G 0, 11, .inl (fun _ => 0)))] := hD
  refine lv_aload_n hx hb dX6_init_17 rfl (lv_at hl 1 rfl) ?_
  refine lv_iload_n hx hb dX6_init_18 rfl (lv_at hl 0 rfl) ?_
  refine x_newi hx hb (hts (.arrayClass .int) (List.mem_of_getElem? (i := 8) rfl)) hE hP hD hS hA (N := 11) (by decide) (by decide) (by decide) (Nat.le_of_ble_eq_true rfl) (Nat.le_of_ble_eq_true rfl) dX6_init_19 (fun q_new2 H hP hD hS => ?_)
  have hP : va_P (xD G) vwCl [(q_this, .inr (6, [.ref q_new1, .null])), (q_new1, .inl (xy G 0, 11, .inl (fun _ => 0))), (q_new2, .inl (xy G 0, 11, .inl (fun _ => 0)))] H := hP
  have hD : va_D A [(q_this, .inr (6, [.ref q_new1, .null])), (q_new1, .inl (xy G 0, 11, .inl (fun _ => 0))), (q_new2, .inl (xy G 0, 11, .inl (fun _ => 0)))] := hD
  refine va_putF (D := xD G) (ci := 6) (v := .ref q_new2) (ty := (tyX6 1)) (C := RX6) (T := TX6) (N := 2) hx hb hts (fun w9 h9 => (List.mem_cons_of_mem _ (List.mem_append_right _ h9))) tyX6 tyX6_ok nmX6 hown hE.1 hP hD hS 0 rfl rfl 1 (by decide) (hts (.fieldLink RX6 21 "FallingGlass$Scores" "days" "[I") (List.mem_of_getElem? (i := 10) rfl)) (fun _ h9 => h9) rfl hin rfl (by decide +kernel) rfl rfl (Nat.le_of_ble_eq_true rfl) dX6_init_21 (fun H locs hP hD hS => ?_)
  have hP : va_P (xD G) vwCl [(q_this, .inr (6, [.ref q_new1, .ref q_new2])), (q_new1, .inl (xy G 0, 11, .inl (fun _ => 0))), (q_new2, .inl (xy G 0, 11, .inl (fun _ => 0)))] H := hP
  have hD : va_D A [(q_this, .inr (6, [.ref q_new1, .ref q_new2])), (q_new1, .inl (xy G 0, 11, .inl (fun _ => 0))), (q_new2, .inl (xy G 0, 11, .inl (fun _ => 0)))] := hD
  exact x_cret (fun j => ([q_new1, q_new2] : List Nat).getD j 0) hx hb hr hlk hP hD hS dX6_init_24
set_option maxHeartbeats 4000000 in
set_option maxRecDepth 100000 in
theorem kX6_initL64 (l : Launch) (G : xG) (H0 : Heap) {q_this : Nat} (w0 : va_W) (hw0 : w0 = [(q_this, .inr (6, [.null, .null]))]) (hP : va_P (xD G) vwCl w0 H0) (hD : va_D (fun _ => True) w0) : Met l yX6_init wsX6_init ({ frames := 1, cells := 2, slots := 128, locals := 13 }) (xPcw G (va_A w0 H0.size) H0 [.ref q_this, .int 64]) (xRc G (va_A w0 H0.size) (fun ad => [(q_this, .inr (6, [.ref (ad 0), .ref (ad 1)]))] ++ [((ad 0), .inl (xy G 0, 64, .inl (fun _ => 0))), ((ad 1), .inl (xy G 0, 64, .inl (fun _ => 0)))])) 2 128 (va_A w0 H0.size) := by
  refine x_metw (y := yX6_init) (ws := wsX6_init) (rm := { frames := 1, cells := 2, slots := 128, locals := 13 }) (G := G) (H0 := H0) (w0 := w0) (av := [.ref q_this, .int 64]) (mc := 2) (ms := 128) (Qc := (fun A => (xRc G A (fun ad => [(q_this, .inr (6, [.ref (ad 0), .ref (ad 1)]))] ++ [((ad 0), .inl (xy G 0, 64, .inl (fun _ => 0))), ((ad 1), .inl (xy G 0, 64, .inl (fun _ => 0)))])))) (by decide) rfl (Nat.le_of_ble_eq_true rfl) hP hD ?_
  clear hP hD
  intro p e s m below meth c ls A H locs hA hAt hnm hl hP hD hS
  have hin : meth.name = "<init>" := hnm
  subst hw0
  obtain ⟨hx, hb, hr, hlk, hml, hown, hts, hE⟩ := hAt
  have hown : s.vm.findClass RX6 = some m.cls := hown
  have hl : lv_has ls 3 [(0, .ref q_this), (1, .int 64)] := hl
  refine lv_aload_n hx hb dX6_init_0 rfl (lv_at hl 0 rfl) ?_
  refine W.objInit hx hb hown (hts (.methodLink RX6 3 objectInit) (List.mem_of_getElem? (i := 1) rfl)) (hts (.instanceMethod objectInit) (List.mem_of_getElem? (i := 2) rfl)) (hts (.code objectInit ⟨#[0xb1]⟩ 1 none) (List.mem_of_getElem? (i := 3) rfl)) rfl (by rw [hml]; exact hl.1) rfl dX6_init_1 (Nat.le_of_ble_eq_true rfl) (Nat.le_of_ble_eq_true rfl) ?_
  refine W.eq (g2 := F0 m 4 ls []) rfl ?_
  refine lv_iconst (v := 0) hx hb dX6_init_4 (by decide) ?_
  refine lv_iload_n hx hb dX6_init_5 rfl (lv_at hl 1 rfl) ?_
  refine va_mmax hx hb (hml.trans hl.1.symm) hown (hts (.methodLink RX6 9 Lib.Math.max.name) (List.mem_of_getElem? (i := 4) rfl)) (hts (.static Lib.Math.max.name) (List.mem_of_getElem? (i := 5) rfl)) (hts (.initialized "java/lang/Math") (List.mem_of_getElem? (i := 6) rfl)) (hts (.code Lib.Math.max.name Lib.Math.max.code 2 (some .int)) (List.mem_of_getElem? (i := 7) rfl)) (Nat.le_of_ble_eq_true rfl) (Nat.le_of_ble_eq_true rfl) (Nat.le_of_ble_eq_true rfl) (Nat.le_of_ble_eq_true rfl) dX6_init_6 ?_
  refine W.eq (g2 := F0 m 9 ls [.int 64]) (by rw [show ((if (0 : Int32) < 64 then 64 else 0) : Int32) = (64 : Int32) from by decide]) ?_
  refine lv_istore_n (lv' := [(2, .int 64), (0, .ref q_this), (1, .int 64)]) hx hb dX6_init_9 rfl hl (by decide) rfl (fun ls hl => ?_)
  refine lv_aload_n hx hb dX6_init_10 rfl (lv_at hl 1 rfl) ?_
  refine lv_iload_n hx hb dX6_init_11 rfl (lv_at hl 0 rfl) ?_
  refine x_newi hx hb (hts (.arrayClass .int) (List.mem_of_getElem? (i := 8) rfl)) hE hP hD hS hA (N := 64) (by decide) (by decide) (by decide) (Nat.le_of_ble_eq_true rfl) (Nat.le_of_ble_eq_true rfl) dX6_init_12 (fun q_new1 H hP hD hS => ?_)
  have hP : va_P (xD G) vwCl [(q_this, .inr (6, [.null, .null])), (q_new1, .inl (xy G 0, 64, .inl (fun _ => 0)))] H := hP
  have hD : va_D A [(q_this, .inr (6, [.null, .null])), (q_new1, .inl (xy G 0, 64, .inl (fun _ => 0)))] := hD
  refine va_putF (D := xD G) (ci := 6) (v := .ref q_new1) (ty := (tyX6 0)) (C := RX6) (T := TX6) (N := 2) hx hb hts (fun w9 h9 => (List.mem_cons_of_mem _ (List.mem_append_right _ h9))) tyX6 tyX6_ok nmX6 hown hE.1 hP hD hS 0 rfl rfl 0 (by decide) (hts (.fieldLink RX6 15 "FallingGlass$Scores" "squares" "[I") (List.mem_of_getElem? (i := 9) rfl)) (fun _ h9 => h9) rfl hin rfl (by decide +kernel) rfl rfl (Nat.le_of_ble_eq_true rfl) dX6_init_14 (fun H locs hP hD hS => ?_)
  have hP : va_P (xD G) vwCl [(q_this, .inr (6, [.ref q_new1, .null])), (q_new1, .inl (xy G 0, 64, .inl (fun _ => 0)))] H := hP
  have hD : va_D A [(q_this, .inr (6, [.ref q_new1, .null])), (q_new1, .inl (xy G 0, 64, .inl (fun _ => 0)))] := hD
  refine lv_aload_n hx hb dX6_init_17 rfl (lv_at hl 1 rfl) ?_
  refine lv_iload_n hx hb dX6_init_18 rfl (lv_at hl 0 rfl) ?_
  refine x_newi hx hb (hts (.arrayClass .int) (List.mem_of_getElem? (i := 8) rfl)) hE hP hD hS hA (N := 64) (by decide) (by decide) (by decide) (Nat.le_of_ble_eq_true rfl) (Nat.le_of_ble_eq_true rfl) dX6_init_19 (fun q_new2 H hP hD hS => ?_)
  have hP : va_P (xD G) vwCl [(q_this, .inr (6, [.ref q_new1, .null])), (q_new1, .inl (xy G 0, 64, .inl (fun _ => 0))), (q_new2, .inl (xy G 0, 64, .inl (fun _ => 0)))] H := hP
  have hD : va_D A [(q_this, .inr (6, [.ref q_new1, .null])), (q_new1, .inl (xy G 0, 64, .inl (fun _ => 0))), (q_new2, .inl (xy G 0, 64, .inl (fun _ => 0)))] := hD
  refine va_putF (D := xD G) (ci := 6) (v := .ref q_new2) (ty := (tyX6 1)) (C := RX6) (T := TX6) (N := 2) hx hb hts (fun w9 h9 => (List.mem_cons_of_mem _ (List.mem_append_right _ h9))) tyX6 tyX6_ok nmX6 hown hE.1 hP hD hS 0 rfl rfl 1 (by decide) (hts (.fieldLink RX6 21 "FallingGlass$Scores" "days" "[I") (List.mem_of_getElem? (i := 10) rfl)) (fun _ h9 => h9) rfl hin rfl (by decide +kernel) rfl rfl (Nat.le_of_ble_eq_true rfl) dX6_init_21 (fun H locs hP hD hS => ?_)
  have hP : va_P (xD G) vwCl [(q_this, .inr (6, [.ref q_new1, .ref q_new2])), (q_new1, .inl (xy G 0, 64, .inl (fun _ => 0))), (q_new2, .inl (xy G 0, 64, .inl (fun _ => 0)))] H := hP
  have hD : va_D A [(q_this, .inr (6, [.ref q_new1, .ref q_new2])), (q_new1, .inl (xy G 0, 64, .inl (fun _ => 0))), (q_new2, .inl (xy G 0, 64, .inl (fun _ => 0)))] := hD
  exact x_cret (fun j => ([q_new1, q_new2] : List Nat).getD j 0) hx hb hr hlk hP hD hS dX6_init_24
set_option maxHeartbeats 4000000 in
set_option maxRecDepth 100000 in
theorem kX4_init (l : Launch) (G : xG) (H0 : Heap) {q_this : Nat} (w0 : va_W) (hw0 : w0 = [(q_this, .inr (4, [.null, .null, .null]))]) (hP : va_P (xD G) vwCl w0 H0) (hD : va_D (fun _ => True) w0) : Met l yX4_init wsX4_init ({ frames := 2, cells := 5, slots := 258, locals := 35 }) (xPcw G (va_A w0 H0.size) H0 [.ref q_this]) (xRc G (va_A w0 H0.size) (fun ad => [(q_this, .inr (4, [.ref (ad 0), .ref (ad 1), .ref (ad 2)]))] ++ [((ad 0), .inl (xy G 0, 64, .inl (fun _ => 0))), ((ad 1), .inl (xy G 0, 64, .inl (fun _ => 0))), ((ad 2), .inr (6, [.ref (ad 3), .ref (ad 4)])), ((ad 3), .inl (xy G 0, 64, .inl (fun _ => 0))), ((ad 4), .inl (xy G 0, 64, .inl (fun _ => 0)))])) 5 258 (va_A w0 H0.size) := by
  refine x_metw (y := yX4_init) (ws := wsX4_init) (rm := { frames := 2, cells := 5, slots := 258, locals := 35 }) (G := G) (H0 := H0) (w0 := w0) (av := [.ref q_this]) (mc := 5) (ms := 258) (Qc := (fun A => (xRc G A (fun ad => [(q_this, .inr (4, [.ref (ad 0), .ref (ad 1), .ref (ad 2)]))] ++ [((ad 0), .inl (xy G 0, 64, .inl (fun _ => 0))), ((ad 1), .inl (xy G 0, 64, .inl (fun _ => 0))), ((ad 2), .inr (6, [.ref (ad 3), .ref (ad 4)])), ((ad 3), .inl (xy G 0, 64, .inl (fun _ => 0))), ((ad 4), .inl (xy G 0, 64, .inl (fun _ => 0)))])))) (by decide) rfl (Nat.le_of_ble_eq_true rfl) hP hD ?_
  clear hP hD
  intro p e s m below meth c ls A H locs hA hAt hnm hl hP hD hS
  have hin : meth.name = "<init>" := hnm
  subst hw0
  obtain ⟨hx, hb, hr, hlk, hml, hown, hts, hE⟩ := hAt
  have hown : s.vm.findClass RX4 = some m.cls := hown
  have hl : lv_has ls 1 [(0, .ref q_this)] := hl
  refine lv_aload_n hx hb dX4_init_0 rfl (lv_at hl 0 rfl) ?_
  refine W.objInit hx hb hown (hts (.methodLink RX4 3 objectInit) (List.mem_of_getElem? (i := 1) rfl)) (hts (.instanceMethod objectInit) (List.mem_of_getElem? (i := 2) rfl)) (hts (.code objectInit ⟨#[0xb1]⟩ 1 none) (List.mem_of_getElem? (i := 3) rfl)) rfl (by rw [hml]; exact hl.1) rfl dX4_init_1 (Nat.le_of_ble_eq_true rfl) (Nat.le_of_ble_eq_true rfl) ?_
  refine W.eq (g2 := F0 m 4 ls []) rfl ?_
  refine lv_aload_n hx hb dX4_init_4 rfl (lv_at hl 0 rfl) ?_
  refine lv_bipush (v := 64) hx hb dX4_init_5 (by decide) ?_
  refine x_newi hx hb (hts (.arrayClass .int) (List.mem_of_getElem? (i := 4) rfl)) hE hP hD hS hA (N := 64) (by decide) (by decide) (by decide) (Nat.le_of_ble_eq_true rfl) (Nat.le_of_ble_eq_true rfl) dX4_init_7 (fun q_new1 H hP hD hS => ?_)
  have hP : va_P (xD G) vwCl [(q_this, .inr (4, [.null, .null, .null])), (q_new1, .inl (xy G 0, 64, .inl (fun _ => 0)))] H := hP
  have hD : va_D A [(q_this, .inr (4, [.null, .null, .null])), (q_new1, .inl (xy G 0, 64, .inl (fun _ => 0)))] := hD
  refine va_putF (D := xD G) (ci := 4) (v := .ref q_new1) (ty := (tyX4 0)) (C := RX4) (T := TX4) (N := 3) hx hb hts (fun w9 h9 => (List.mem_cons_of_mem _ (List.mem_append_left _ (List.mem_append_right _ h9)))) tyX4 tyX4_ok nmX4 hown hE.1 hP hD hS 0 rfl rfl 0 (by decide) (hts (.fieldLink RX4 9 "FallingGlass$KeyTrial" "all" "[I") (List.mem_of_getElem? (i := 5) rfl)) (fun _ h9 => h9) rfl hin rfl (by decide +kernel) rfl rfl (Nat.le_of_ble_eq_true rfl) dX4_init_9 (fun H locs hP hD hS => ?_)
  have hP : va_P (xD G) vwCl [(q_this, .inr (4, [.ref q_new1, .null, .null])), (q_new1, .inl (xy G 0, 64, .inl (fun _ => 0)))] H := hP
  have hD : va_D A [(q_this, .inr (4, [.ref q_new1, .null, .null])), (q_new1, .inl (xy G 0, 64, .inl (fun _ => 0)))] := hD
  refine lv_aload_n hx hb dX4_init_12 rfl (lv_at hl 0 rfl) ?_
  refine lv_bipush (v := 64) hx hb dX4_init_13 (by decide) ?_
  refine x_newi hx hb (hts (.arrayClass .int) (List.mem_of_getElem? (i := 4) rfl)) hE hP hD hS hA (N := 64) (by decide) (by decide) (by decide) (Nat.le_of_ble_eq_true rfl) (Nat.le_of_ble_eq_true rfl) dX4_init_15 (fun q_new2 H hP hD hS => ?_)
  have hP : va_P (xD G) vwCl [(q_this, .inr (4, [.ref q_new1, .null, .null])), (q_new1, .inl (xy G 0, 64, .inl (fun _ => 0))), (q_new2, .inl (xy G 0, 64, .inl (fun _ => 0)))] H := hP
  have hD : va_D A [(q_this, .inr (4, [.ref q_new1, .null, .null])), (q_new1, .inl (xy G 0, 64, .inl (fun _ => 0))), (q_new2, .inl (xy G 0, 64, .inl (fun _ => 0)))] := hD
  refine va_putF (D := xD G) (ci := 4) (v := .ref q_new2) (ty := (tyX4 1)) (C := RX4) (T := TX4) (N := 3) hx hb hts (fun w9 h9 => (List.mem_cons_of_mem _ (List.mem_append_left _ (List.mem_append_right _ h9)))) tyX4 tyX4_ok nmX4 hown hE.1 hP hD hS 0 rfl rfl 1 (by decide) (hts (.fieldLink RX4 15 "FallingGlass$KeyTrial" "wet" "[I") (List.mem_of_getElem? (i := 6) rfl)) (fun _ h9 => h9) rfl hin rfl (by decide +kernel) rfl rfl (Nat.le_of_ble_eq_true rfl) dX4_init_17 (fun H locs hP hD hS => ?_)
  have hP : va_P (xD G) vwCl [(q_this, .inr (4, [.ref q_new1, .ref q_new2, .null])), (q_new1, .inl (xy G 0, 64, .inl (fun _ => 0))), (q_new2, .inl (xy G 0, 64, .inl (fun _ => 0)))] H := hP
  have hD : va_D A [(q_this, .inr (4, [.ref q_new1, .ref q_new2, .null])), (q_new1, .inl (xy G 0, 64, .inl (fun _ => 0))), (q_new2, .inl (xy G 0, 64, .inl (fun _ => 0)))] := hD
  refine lv_aload_n hx hb dX4_init_20 rfl (lv_at hl 0 rfl) ?_
  refine va_new (D := xD G) (ci := 6) (fs := [.null, .null]) (C := RX6) (T := TX6) (N := 2) hx hb hts (fun w9 h9 => (List.mem_cons_of_mem _ (List.mem_append_right _ h9))) tyX6 tyX6_ok hown (hts (.classLink RX4 18 RX6) (List.mem_of_getElem? (i := 7) rfl)) (hts (.instantiable RX6 2) (List.mem_of_getElem? (i := 8) rfl)) (hts (.initialized RX6) (List.mem_of_getElem? (i := 9) rfl)) hE.1 hP hD hS hA rfl (fun j hj => match j, hj with | 0, _ => rfl | 1, _ => rfl | n + 2, h => absurd h (by omega)) (Nat.le_of_ble_eq_true rfl) (Nat.le_of_ble_eq_true rfl) dX4_init_21 (fun q_new3 H hP hD hS => ?_)
  have hP : va_P (xD G) vwCl [(q_this, .inr (4, [.ref q_new1, .ref q_new2, .null])), (q_new1, .inl (xy G 0, 64, .inl (fun _ => 0))), (q_new2, .inl (xy G 0, 64, .inl (fun _ => 0))), (q_new3, .inr (6, [.null, .null]))] H := hP
  have hD : va_D A [(q_this, .inr (4, [.ref q_new1, .ref q_new2, .null])), (q_new1, .inl (xy G 0, 64, .inl (fun _ => 0))), (q_new2, .inl (xy G 0, 64, .inl (fun _ => 0))), (q_new3, .inr (6, [.null, .null]))] := hD
  refine lv_dup hx hb dX4_init_24 rfl ?_
  refine lv_bipush (v := 64) hx hb dX4_init_25 (by decide) ?_
  have hPr501 : va_P (xD G) vwCl [(q_new3, .inr (6, [.null, .null]))] H := hP.sub [3] rfl
  have hDr501 : va_D A [(q_new3, .inr (6, [.null, .null]))] := hD.sub [3] (by decide) rfl
  have hFr501 := va_free (wc := [(q_new3, .inr (6, [.null, .null]))]) hD hS hA [3] rfl
  refine x_callwc (wc := [(q_new3, .inr (6, [.null, .null]))]) (c0 := (fun adr501 => [(q_new3, .inr (6, [.ref (adr501 0), .ref (adr501 1)]))])) (wn := (fun adr501 => [((adr501 0), .inl (xy G 0, 64, .inl (fun _ => 0))), ((adr501 1), .inl (xy G 0, 64, .inl (fun _ => 0)))])) (va_runI (As := [.int 64]) (rest := [.ref q_new3, .ref q_this]) ⟨hx, hb, hml, hown, hts⟩ (kX6_initL64 l G H [(q_new3, .inr (6, [.null, .null]))] rfl hPr501 (hDr501.weaken (fun _ _ _ _ => trivial))) (cwI 1 hts gX4_init_X6_init rfl rfl rfl (hts (.initialized RX6) (List.mem_of_getElem? (i := 9) rfl)) (hts (.methodLink RX4 20 yX6_init) (List.mem_of_getElem? (i := 11) rfl)) (hts (.instanceMethod yX6_init) (List.mem_of_getElem? (i := 12) rfl)) rfl (by decide +kernel) ⟨Nat.le_of_ble_eq_true rfl, Nat.le_of_ble_eq_true rfl⟩) (x_preSw hE hS hFr501) rfl rfl hl.1 rfl (lv_room (Nat.le_of_ble_eq_true rfl)) dX4_init_27 ⟨Nat.le_of_ble_eq_true rfl, Nat.le_of_ble_eq_true rfl⟩) hP hD hS hFr501 [3] [none, none, none, some 0] (n := 4) (by decide) rfl (fun _ => rfl) (fun adr501 H locs hP hD hS => ?_)
  have hP : va_P (xD G) vwCl [(q_this, .inr (4, [.ref q_new1, .ref q_new2, .null])), (q_new1, .inl (xy G 0, 64, .inl (fun _ => 0))), (q_new2, .inl (xy G 0, 64, .inl (fun _ => 0))), (q_new3, .inr (6, [.ref (adr501 0), .ref (adr501 1)])), ((adr501 0), .inl (xy G 0, 64, .inl (fun _ => 0))), ((adr501 1), .inl (xy G 0, 64, .inl (fun _ => 0)))] H := hP
  have hD : va_D A [(q_this, .inr (4, [.ref q_new1, .ref q_new2, .null])), (q_new1, .inl (xy G 0, 64, .inl (fun _ => 0))), (q_new2, .inl (xy G 0, 64, .inl (fun _ => 0))), (q_new3, .inr (6, [.ref (adr501 0), .ref (adr501 1)])), ((adr501 0), .inl (xy G 0, 64, .inl (fun _ => 0))), ((adr501 1), .inl (xy G 0, 64, .inl (fun _ => 0)))] := hD
  refine va_putF (D := xD G) (ci := 4) (v := .ref q_new3) (ty := (tyX4 2)) (C := RX4) (T := TX4) (N := 3) hx hb hts (fun w9 h9 => (List.mem_cons_of_mem _ (List.mem_append_left _ (List.mem_append_right _ h9)))) tyX4 tyX4_ok nmX4 hown hE.1 hP hD hS 0 rfl rfl 2 (by decide) (hts (.fieldLink RX4 23 "FallingGlass$KeyTrial" "scores" "LFallingGlass$Scores;") (List.mem_of_getElem? (i := 10) rfl)) (fun _ h9 => h9) rfl hin rfl (by decide +kernel) rfl rfl (Nat.le_of_ble_eq_true rfl) dX4_init_30 (fun H locs hP hD hS => ?_)
  have hP : va_P (xD G) vwCl [(q_this, .inr (4, [.ref q_new1, .ref q_new2, .ref q_new3])), (q_new1, .inl (xy G 0, 64, .inl (fun _ => 0))), (q_new2, .inl (xy G 0, 64, .inl (fun _ => 0))), (q_new3, .inr (6, [.ref (adr501 0), .ref (adr501 1)])), ((adr501 0), .inl (xy G 0, 64, .inl (fun _ => 0))), ((adr501 1), .inl (xy G 0, 64, .inl (fun _ => 0)))] H := hP
  have hD : va_D A [(q_this, .inr (4, [.ref q_new1, .ref q_new2, .ref q_new3])), (q_new1, .inl (xy G 0, 64, .inl (fun _ => 0))), (q_new2, .inl (xy G 0, 64, .inl (fun _ => 0))), (q_new3, .inr (6, [.ref (adr501 0), .ref (adr501 1)])), ((adr501 0), .inl (xy G 0, 64, .inl (fun _ => 0))), ((adr501 1), .inl (xy G 0, 64, .inl (fun _ => 0)))] := hD
  exact x_cret (fun j => ([q_new1, q_new2, q_new3, (adr501 0), (adr501 1)] : List Nat).getD j 0) hx hb hr hlk hP hD hS dX4_init_33
set_option maxHeartbeats 4000000 in
set_option maxRecDepth 100000 in
theorem kX8_init (l : Launch) (G : xG) (H0 : Heap) {q_this : Nat} (w0 : va_W) (hw0 : w0 = [(q_this, .inr (8, [.int 0, .null]))]) (hP : va_P (xD G) vwCl w0 H0) (hD : va_D (fun _ => True) w0) : Met l yX8_init wsX8_init ({ frames := 1, cells := 1, slots := 50, locals := 12 }) (xPcw G (va_A w0 H0.size) H0 [.ref q_this]) (xRc G (va_A w0 H0.size) (fun ad => [(q_this, .inr (8, [.int 0, .ref (ad 0)]))] ++ [((ad 0), .inl (xy G 0, 50, .inl (fun _ => 0)))])) 1 50 (va_A w0 H0.size) := by
  refine x_metw (y := yX8_init) (ws := wsX8_init) (rm := { frames := 1, cells := 1, slots := 50, locals := 12 }) (G := G) (H0 := H0) (w0 := w0) (av := [.ref q_this]) (mc := 1) (ms := 50) (Qc := (fun A => (xRc G A (fun ad => [(q_this, .inr (8, [.int 0, .ref (ad 0)]))] ++ [((ad 0), .inl (xy G 0, 50, .inl (fun _ => 0)))])))) (by decide) rfl (Nat.le_of_ble_eq_true rfl) hP hD ?_
  clear hP hD
  intro p e s m below meth c ls A H locs hA hAt hnm hl hP hD hS
  have hin : meth.name = "<init>" := hnm
  subst hw0
  obtain ⟨hx, hb, hr, hlk, hml, hown, hts, hE⟩ := hAt
  have hown : s.vm.findClass RX8 = some m.cls := hown
  have hl : lv_has ls 1 [(0, .ref q_this)] := hl
  refine lv_aload_n hx hb dX8_init_0 rfl (lv_at hl 0 rfl) ?_
  refine W.objInit hx hb hown (hts (.methodLink RX8 3 objectInit) (List.mem_of_getElem? (i := 1) rfl)) (hts (.instanceMethod objectInit) (List.mem_of_getElem? (i := 2) rfl)) (hts (.code objectInit ⟨#[0xb1]⟩ 1 none) (List.mem_of_getElem? (i := 3) rfl)) rfl (by rw [hml]; exact hl.1) rfl dX8_init_1 (Nat.le_of_ble_eq_true rfl) (Nat.le_of_ble_eq_true rfl) ?_
  refine W.eq (g2 := F0 m 4 ls []) rfl ?_
  refine lv_aload_n hx hb dX8_init_4 rfl (lv_at hl 0 rfl) ?_
  refine lv_bipush (v := 50) hx hb dX8_init_5 (by decide) ?_
  refine x_newi hx hb (hts (.arrayClass .int) (List.mem_of_getElem? (i := 4) rfl)) hE hP hD hS hA (N := 50) (by decide) (by decide) (by decide) (Nat.le_of_ble_eq_true rfl) (Nat.le_of_ble_eq_true rfl) dX8_init_7 (fun q_new1 H hP hD hS => ?_)
  have hP : va_P (xD G) vwCl [(q_this, .inr (8, [.int 0, .null])), (q_new1, .inl (xy G 0, 50, .inl (fun _ => 0)))] H := hP
  have hD : va_D A [(q_this, .inr (8, [.int 0, .null])), (q_new1, .inl (xy G 0, 50, .inl (fun _ => 0)))] := hD
  refine va_putF (D := xD G) (ci := 8) (v := .ref q_new1) (ty := (tyX8 1)) (C := RX8) (T := TX8) (N := 2) hx hb hts (fun w9 h9 => (List.mem_cons_of_mem _ (List.mem_append_right _ h9))) tyX8 tyX8_ok nmX8 hown hE.1 hP hD hS 0 rfl rfl 1 (by decide) (hts (.fieldLink RX8 9 "FallingGlass$Text" "signs" "[I") (List.mem_of_getElem? (i := 5) rfl)) (fun _ h9 => h9) rfl hin rfl (by decide +kernel) rfl rfl (Nat.le_of_ble_eq_true rfl) dX8_init_9 (fun H locs hP hD hS => ?_)
  have hP : va_P (xD G) vwCl [(q_this, .inr (8, [.int 0, .ref q_new1])), (q_new1, .inl (xy G 0, 50, .inl (fun _ => 0)))] H := hP
  have hD : va_D A [(q_this, .inr (8, [.int 0, .ref q_new1])), (q_new1, .inl (xy G 0, 50, .inl (fun _ => 0)))] := hD
  exact x_cret (fun j => ([q_new1] : List Nat).getD j 0) hx hb hr hlk hP hD hS dX8_init_12
