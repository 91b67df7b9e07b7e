/-! laid by program out of the bytecode: for each method its function (m..) and its contract (k..) -/
noncomputable def mX2_take (size : Int32) (xs : Nat → Int32) (ys : Nat → Int32) (presses : Nat → Int32) (winds : Nat → Int32) (a0_size : Int32) (a0_xs : Nat → Int32) (a0_ys : Nat → Int32) (a0_presses : Nat → Int32) (a0_winds : Nat → Int32)  : Option (Int32 × (Nat → Int32) × (Nat → Int32) × (Nat → Int32) × (Nat → Int32)) :=
  (mX9_copy 4 a0_xs 4 xs).bind (fun r501 => (mX9_copy 4 a0_ys 4 ys).bind (fun r502 => (mX9_copy 4 a0_presses 4 presses).bind (fun r503 => (mX9_copy 4 a0_winds 4 winds).bind (fun r504 => some (a0_size, r501, r502, r503, r504)))))
set_option maxHeartbeats 4000000 in
set_option maxRecDepth 100000 in
theorem kX2_take (l : Launch) (G : xG) (H0 : Heap) {q_this q_xs q_ys q_presses q_winds q_a0 q_a0_xs q_a0_ys q_a0_presses q_a0_winds : Nat} {size : Int32} {xs : Nat → Int32} {ys : Nat → Int32} {presses : Nat → Int32} {winds : Nat → Int32} {a0_size : Int32} {a0_xs : Nat → Int32} {a0_ys : Nat → Int32} {a0_presses : Nat → Int32} {a0_winds : Nat → Int32} (w0 : va_W) (hw0 : w0 = [(q_this, .inr (2, [.int size, .ref q_xs, .ref q_ys, .ref q_presses, .ref q_winds])), (q_xs, .inl (xy G 0, 4, .inl xs)), (q_ys, .inl (xy G 0, 4, .inl ys)), (q_presses, .inl (xy G 0, 4, .inl presses)), (q_winds, .inl (xy G 0, 4, .inl winds)), (q_a0, .inr (2, [.int a0_size, .ref q_a0_xs, .ref q_a0_ys, .ref q_a0_presses, .ref q_a0_winds])), (q_a0_xs, .inl (xy G 0, 4, .inl a0_xs)), (q_a0_ys, .inl (xy G 0, 4, .inl a0_ys)), (q_a0_presses, .inl (xy G 0, 4, .inl a0_presses)), (q_a0_winds, .inl (xy G 0, 4, .inl a0_winds))]) (hP : va_P (xD G) vwCl w0 H0) (hD : va_D (fun _ => True) w0) {out : Int32 × (Nat → Int32) × (Nat → Int32) × (Nat → Int32) × (Nat → Int32)} (h : mX2_take size xs ys presses winds a0_size a0_xs a0_ys a0_presses a0_winds = some out) : Met l yX2_take wsX2_take ({ frames := 2, cells := 0, slots := 0, locals := 61 }) (xPcw G (va_A w0 H0.size) H0 [.ref q_this, .ref q_a0]) (xRv G (va_A w0 H0.size) [(q_this, .inr (2, [.int out.1, .ref q_xs, .ref q_ys, .ref q_presses, .ref q_winds])), (q_xs, .inl (xy G 0, 4, .inl out.2.1)), (q_ys, .inl (xy G 0, 4, .inl out.2.2.1)), (q_presses, .inl (xy G 0, 4, .inl out.2.2.2.1)), (q_winds, .inl (xy G 0, 4, .inl out.2.2.2.2)), (q_a0, .inr (2, [.int a0_size, .ref q_a0_xs, .ref q_a0_ys, .ref q_a0_presses, .ref q_a0_winds])), (q_a0_xs, .inl (xy G 0, 4, .inl a0_xs)), (q_a0_ys, .inl (xy G 0, 4, .inl a0_ys)), (q_a0_presses, .inl (xy G 0, 4, .inl a0_presses)), (q_a0_winds, .inl (xy G 0, 4, .inl a0_winds))]) 0 0 (va_A w0 H0.size) := by
  refine x_metw (y := yX2_take) (ws := wsX2_take) (rm := { frames := 2, cells := 0, slots := 0, locals := 61 }) (G := G) (H0 := H0) (w0 := w0) (av := [.ref q_this, .ref q_a0]) (mc := 0) (ms := 0) (Qc := (fun A => (xRv G A [(q_this, .inr (2, [.int out.1, .ref q_xs, .ref q_ys, .ref q_presses, .ref q_winds])), (q_xs, .inl (xy G 0, 4, .inl out.2.1)), (q_ys, .inl (xy G 0, 4, .inl out.2.2.1)), (q_presses, .inl (xy G 0, 4, .inl out.2.2.2.1)), (q_winds, .inl (xy G 0, 4, .inl out.2.2.2.2)), (q_a0, .inr (2, [.int a0_size, .ref q_a0_xs, .ref q_a0_ys, .ref q_a0_presses, .ref q_a0_winds])), (q_a0_xs, .inl (xy G 0, 4, .inl a0_xs)), (q_a0_ys, .inl (xy G 0, 4, .inl a0_ys)), (q_a0_presses, .inl (xy G 0, 4, .inl a0_presses)), (q_a0_winds, .inl (xy G 0, 4, .inl a0_winds))]))) (by decide) rfl (Nat.le_of_ble_eq_true rfl) hP hD ?_
  clear hP hD
  intro p e s m below meth c ls A H locs hA hAt hnm hl hP hD hS
  subst hw0
  obtain ⟨hx, hb, hr, hlk, hml, hown, hts, hE⟩ := hAt
  have hown : s.vm.findClass RX2 = some m.cls := hown
  have hl : lv_has ls 2 [(0, .ref q_this), (1, .ref q_a0)] := hl
  have ho : out = out := rfl
  unfold mX2_take at h
  refine lv_aload_n hx hb dX2_take_0 rfl (lv_at hl 0 rfl) ?_
  refine lv_aload_n hx hb dX2_take_1 rfl (lv_at hl 1 rfl) ?_
  refine va_get (D := xD G) (ci := 2) (v := .int a0_size) (C := RX2) (T := TX2) (N := 5) hx hb hts (fun w9 h9 => (List.mem_cons_of_mem _ (List.mem_append_right _ h9))) hown hE.1 hP 5 rfl rfl 0 (by decide) (hts (.fieldLink RX2 24 "FallingGlass$Chart" "size" "I") (List.mem_of_getElem? (i := 1) rfl)) (fun _ h9 => h9) rfl dX2_take_2 ?_
  refine va_put (D := xD G) (ci := 2) (v := .int a0_size) (ty := .int) (C := RX2) (T := TX2) (N := 5) hx hb hts (fun w9 h9 => (List.mem_cons_of_mem _ (List.mem_append_right _ h9))) tyX2 tyX2_ok nmX2 hown hE.1 hP hD hS 0 rfl rfl 0 (by decide) (hts (.fieldLink RX2 24 "FallingGlass$Chart" "size" "I") (List.mem_of_getElem? (i := 1) rfl)) (fun _ h9 => h9) rfl (by decide +kernel) rfl rfl (Nat.le_of_ble_eq_true rfl) dX2_take_5 (fun H locs hP hD hS => ?_)
  have hP : va_P (xD G) vwCl [(q_this, .inr (2, [.int a0_size, .ref q_xs, .ref q_ys, .ref q_presses, .ref q_winds])), (q_xs, .inl (xy G 0, 4, .inl xs)), (q_ys, .inl (xy G 0, 4, .inl ys)), (q_presses, .inl (xy G 0, 4, .inl presses)), (q_winds, .inl (xy G 0, 4, .inl winds)), (q_a0, .inr (2, [.int a0_size, .ref q_a0_xs, .ref q_a0_ys, .ref q_a0_presses, .ref q_a0_winds])), (q_a0_xs, .inl (xy G 0, 4, .inl a0_xs)), (q_a0_ys, .inl (xy G 0, 4, .inl a0_ys)), (q_a0_presses, .inl (xy G 0, 4, .inl a0_presses)), (q_a0_winds, .inl (xy G 0, 4, .inl a0_winds))] H := hP
  have hD : va_D A [(q_this, .inr (2, [.int a0_size, .ref q_xs, .ref q_ys, .ref q_presses, .ref q_winds])), (q_xs, .inl (xy G 0, 4, .inl xs)), (q_ys, .inl (xy G 0, 4, .inl ys)), (q_presses, .inl (xy G 0, 4, .inl presses)), (q_winds, .inl (xy G 0, 4, .inl winds)), (q_a0, .inr (2, [.int a0_size, .ref q_a0_xs, .ref q_a0_ys, .ref q_a0_presses, .ref q_a0_winds])), (q_a0_xs, .inl (xy G 0, 4, .inl a0_xs)), (q_a0_ys, .inl (xy G 0, 4, .inl a0_ys)), (q_a0_presses, .inl (xy G 0, 4, .inl a0_presses)), (q_a0_winds, .inl (xy G 0, 4, .inl a0_winds))] := hD
  refine lv_aload_n hx hb dX2_take_8 rfl (lv_at hl 1 rfl) ?_
  refine va_get (D := xD G) (ci := 2) (v := .ref q_a0_xs) (C := RX2) (T := TX2) (N := 5) hx hb hts (fun w9 h9 => (List.mem_cons_of_mem _ (List.mem_append_right _ h9))) hown hE.1 hP 5 rfl rfl 1 (by decide) (hts (.fieldLink RX2 9 "FallingGlass$Chart" "xs" "[I") (List.mem_of_getElem? (i := 2) rfl)) (fun _ h9 => h9) rfl dX2_take_9 ?_
  refine lv_aload_n hx hb dX2_take_12 rfl (lv_at hl 0 rfl) ?_
  refine va_get (D := xD G) (ci := 2) (v := .ref q_xs) (C := RX2) (T := TX2) (N := 5) hx hb hts (fun w9 h9 => (List.mem_cons_of_mem _ (List.mem_append_right _ h9))) hown hE.1 hP 0 rfl rfl 1 (by decide) (hts (.fieldLink RX2 9 "FallingGlass$Chart" "xs" "[I") (List.mem_of_getElem? (i := 2) rfl)) (fun _ h9 => h9) rfl dX2_take_13 ?_
  obtain ⟨r501, hr501, h⟩ := x_bind h
  have hPr501 : va_P (xD G) vwCl [(q_a0_xs, .inl (xy G 0, 4, .inl a0_xs)), (q_xs, .inl (xy G 0, 4, .inl xs))] H := hP.sub [6, 1] rfl
  have hDr501 : va_D A [(q_a0_xs, .inl (xy G 0, 4, .inl a0_xs)), (q_xs, .inl (xy G 0, 4, .inl xs))] := hD.sub [6, 1] (by decide) rfl
  have hFr501 := va_free (wc := [(q_a0_xs, .inl (xy G 0, 4, .inl a0_xs)), (q_xs, .inl (xy G 0, 4, .inl xs))]) hD hS hA [6, 1] rfl
  refine x_callwv (wc := [(q_a0_xs, .inl (xy G 0, 4, .inl a0_xs)), (q_xs, .inl (xy G 0, 4, .inl xs))]) (w1 := [(q_a0_xs, .inl (xy G 0, 4, .inl a0_xs)), (q_xs, .inl (xy G 0, 4, .inl r501))]) (ws' := [(q_this, .inr (2, [.int a0_size, .ref q_xs, .ref q_ys, .ref q_presses, .ref q_winds])), (q_xs, .inl (xy G 0, 4, .inl r501)), (q_ys, .inl (xy G 0, 4, .inl ys)), (q_presses, .inl (xy G 0, 4, .inl presses)), (q_winds, .inl (xy G 0, 4, .inl winds)), (q_a0, .inr (2, [.int a0_size, .ref q_a0_xs, .ref q_a0_ys, .ref q_a0_presses, .ref q_a0_winds])), (q_a0_xs, .inl (xy G 0, 4, .inl a0_xs)), (q_a0_ys, .inl (xy G 0, 4, .inl a0_ys)), (q_a0_presses, .inl (xy G 0, 4, .inl a0_presses)), (q_a0_winds, .inl (xy G 0, 4, .inl a0_winds))]) (va_runSN (As := [.ref q_a0_xs, .ref q_xs]) (rest := []) ⟨hx, hb, hml, hown, hts⟩ (kX9_copy l G H [(q_a0_xs, .inl (xy G 0, 4, .inl a0_xs)), (q_xs, .inl (xy G 0, 4, .inl xs))] rfl hPr501 (hDr501.weaken (fun _ _ _ _ => trivial)) hr501) ⟨va_cnB 2 hts gX2_take_X9_copy_n28 rfl rfl rfl (hE.nm 7 rfl) (hts (.initialized RX9) (List.mem_of_getElem? (i := 7) rfl)) (by decide +kernel) ⟨Nat.le_of_ble_eq_true rfl, Nat.le_of_ble_eq_true rfl⟩, (hts (.static yX9_copy) (List.mem_of_getElem? (i := 6) rfl)), trivial⟩ (x_preSw hE hS hFr501) rfl rfl hl.1 rfl (lv_room (Nat.le_of_ble_eq_true rfl)) dX2_take_16 ⟨Nat.le_of_ble_eq_true rfl, Nat.le_of_ble_eq_true rfl⟩) hP hD hS hFr501 [6, 1] [none, some 1, none, none, none, none, some 0, none, none, none] (n := 10) (by decide) rfl rfl rfl (fun H locs hP hD hS => ?_)
  refine lv_aload_n hx hb dX2_take_19 rfl (lv_at hl 1 rfl) ?_
  refine va_get (D := xD G) (ci := 2) (v := .ref q_a0_ys) (C := RX2) (T := TX2) (N := 5) hx hb hts (fun w9 h9 => (List.mem_cons_of_mem _ (List.mem_append_right _ h9))) hown hE.1 hP 5 rfl rfl 2 (by decide) (hts (.fieldLink RX2 15 "FallingGlass$Chart" "ys" "[I") (List.mem_of_getElem? (i := 3) rfl)) (fun _ h9 => h9) rfl dX2_take_20 ?_
  refine lv_aload_n hx hb dX2_take_23 rfl (lv_at hl 0 rfl) ?_
  refine va_get (D := xD G) (ci := 2) (v := .ref q_ys) (C := RX2) (T := TX2) (N := 5) hx hb hts (fun w9 h9 => (List.mem_cons_of_mem _ (List.mem_append_right _ h9))) hown hE.1 hP 0 rfl rfl 2 (by decide) (hts (.fieldLink RX2 15 "FallingGlass$Chart" "ys" "[I") (List.mem_of_getElem? (i := 3) rfl)) (fun _ h9 => h9) rfl dX2_take_24 ?_
  obtain ⟨r502, hr502, h⟩ := x_bind h
  have hPr502 : va_P (xD G) vwCl [(q_a0_ys, .inl (xy G 0, 4, .inl a0_ys)), (q_ys, .inl (xy G 0, 4, .inl ys))] H := hP.sub [7, 2] rfl
  have hDr502 : va_D A [(q_a0_ys, .inl (xy G 0, 4, .inl a0_ys)), (q_ys, .inl (xy G 0, 4, .inl ys))] := hD.sub [7, 2] (by decide) rfl
  have hFr502 := va_free (wc := [(q_a0_ys, .inl (xy G 0, 4, .inl a0_ys)), (q_ys, .inl (xy G 0, 4, .inl ys))]) hD hS hA [7, 2] rfl
  refine x_callwv (wc := [(q_a0_ys, .inl (xy G 0, 4, .inl a0_ys)), (q_ys, .inl (xy G 0, 4, .inl ys))]) (w1 := [(q_a0_ys, .inl (xy G 0, 4, .inl a0_ys)), (q_ys, .inl (xy G 0, 4, .inl r502))]) (ws' := [(q_this, .inr (2, [.int a0_size, .ref q_xs, .ref q_ys, .ref q_presses, .ref q_winds])), (q_xs, .inl (xy G 0, 4, .inl r501)), (q_ys, .inl (xy G 0, 4, .inl r502)), (q_presses, .inl (xy G 0, 4, .inl presses)), (q_winds, .inl (xy G 0, 4, .inl winds)), (q_a0, .inr (2, [.int a0_size, .ref q_a0_xs, .ref q_a0_ys, .ref q_a0_presses, .ref q_a0_winds])), (q_a0_xs, .inl (xy G 0, 4, .inl a0_xs)), (q_a0_ys, .inl (xy G 0, 4, .inl a0_ys)), (q_a0_presses, .inl (xy G 0, 4, .inl a0_presses)), (q_a0_winds, .inl (xy G 0, 4, .inl a0_winds))]) (va_runSN (As := [.ref q_a0_ys, .ref q_ys]) (rest := []) ⟨hx, hb, hml, hown, hts⟩ (kX9_copy l G H [(q_a0_ys, .inl (xy G 0, 4, .inl a0_ys)), (q_ys, .inl (xy G 0, 4, .inl ys))] rfl hPr502 (hDr502.weaken (fun _ _ _ _ => trivial)) hr502) ⟨va_cnB 2 hts gX2_take_X9_copy_n28 rfl rfl rfl (hE.nm 7 rfl) (hts (.initialized RX9) (List.mem_of_getElem? (i := 7) rfl)) (by decide +kernel) ⟨Nat.le_of_ble_eq_true rfl, Nat.le_of_ble_eq_true rfl⟩, (hts (.static yX9_copy) (List.mem_of_getElem? (i := 6) rfl)), trivial⟩ (x_preSw hE hS hFr502) rfl rfl hl.1 rfl (lv_room (Nat.le_of_ble_eq_true rfl)) dX2_take_27 ⟨Nat.le_of_ble_eq_true rfl, Nat.le_of_ble_eq_true rfl⟩) hP hD hS hFr502 [7, 2] [none, none, some 1, none, none, none, none, some 0, none, none] (n := 10) (by decide) rfl rfl rfl (fun H locs hP hD hS => ?_)
  refine lv_aload_n hx hb dX2_take_30 rfl (lv_at hl 1 rfl) ?_
  refine va_get (D := xD G) (ci := 2) (v := .ref q_a0_presses) (C := RX2) (T := TX2) (N := 5) hx hb hts (fun w9 h9 => (List.mem_cons_of_mem _ (List.mem_append_right _ h9))) hown hE.1 hP 5 rfl rfl 3 (by decide) (hts (.fieldLink RX2 18 "FallingGlass$Chart" "presses" "[I") (List.mem_of_getElem? (i := 4) rfl)) (fun _ h9 => h9) rfl dX2_take_31 ?_
  refine lv_aload_n hx hb dX2_take_34 rfl (lv_at hl 0 rfl) ?_
  refine va_get (D := xD G) (ci := 2) (v := .ref q_presses) (C := RX2) (T := TX2) (N := 5) hx hb hts (fun w9 h9 => (List.mem_cons_of_mem _ (List.mem_append_right _ h9))) hown hE.1 hP 0 rfl rfl 3 (by decide) (hts (.fieldLink RX2 18 "FallingGlass$Chart" "presses" "[I") (List.mem_of_getElem? (i := 4) rfl)) (fun _ h9 => h9) rfl dX2_take_35 ?_
  obtain ⟨r503, hr503, h⟩ := x_bind h
  have hPr503 : va_P (xD G) vwCl [(q_a0_presses, .inl (xy G 0, 4, .inl a0_presses)), (q_presses, .inl (xy G 0, 4, .inl presses))] H := hP.sub [8, 3] rfl
  have hDr503 : va_D A [(q_a0_presses, .inl (xy G 0, 4, .inl a0_presses)), (q_presses, .inl (xy G 0, 4, .inl presses))] := hD.sub [8, 3] (by decide) rfl
  have hFr503 := va_free (wc := [(q_a0_presses, .inl (xy G 0, 4, .inl a0_presses)), (q_presses, .inl (xy G 0, 4, .inl presses))]) hD hS hA [8, 3] rfl
  refine x_callwv (wc := [(q_a0_presses, .inl (xy G 0, 4, .inl a0_presses)), (q_presses, .inl (xy G 0, 4, .inl presses))]) (w1 := [(q_a0_presses, .inl (xy G 0, 4, .inl a0_presses)), (q_presses, .inl (xy G 0, 4, .inl r503))]) (ws' := [(q_this, .inr (2, [.int a0_size, .ref q_xs, .ref q_ys, .ref q_presses, .ref q_winds])), (q_xs, .inl (xy G 0, 4, .inl r501)), (q_ys, .inl (xy G 0, 4, .inl r502)), (q_presses, .inl (xy G 0, 4, .inl r503)), (q_winds, .inl (xy G 0, 4, .inl winds)), (q_a0, .inr (2, [.int a0_size, .ref q_a0_xs, .ref q_a0_ys, .ref q_a0_presses, .ref q_a0_winds])), (q_a0_xs, .inl (xy G 0, 4, .inl a0_xs)), (q_a0_ys, .inl (xy G 0, 4, .inl a0_ys)), (q_a0_presses, .inl (xy G 0, 4, .inl a0_presses)), (q_a0_winds, .inl (xy G 0, 4, .inl a0_winds))]) (va_runSN (As := [.ref q_a0_presses, .ref q_presses]) (rest := []) ⟨hx, hb, hml, hown, hts⟩ (kX9_copy l G H [(q_a0_presses, .inl (xy G 0, 4, .inl a0_presses)), (q_presses, .inl (xy G 0, 4, .inl presses))] rfl hPr503 (hDr503.weaken (fun _ _ _ _ => trivial)) hr503) ⟨va_cnB 2 hts gX2_take_X9_copy_n28 rfl rfl rfl (hE.nm 7 rfl) (hts (.initialized RX9) (List.mem_of_getElem? (i := 7) rfl)) (by decide +kernel) ⟨Nat.le_of_ble_eq_true rfl, Nat.le_of_ble_eq_true rfl⟩, (hts (.static yX9_copy) (List.mem_of_getElem? (i := 6) rfl)), trivial⟩ (x_preSw hE hS hFr503) rfl rfl hl.1 rfl (lv_room (Nat.le_of_ble_eq_true rfl)) dX2_take_38 ⟨Nat.le_of_ble_eq_true rfl, Nat.le_of_ble_eq_true rfl⟩) hP hD hS hFr503 [8, 3] [none, none, none, some 1, none, none, none, none, some 0, none] (n := 10) (by decide) rfl rfl rfl (fun H locs hP hD hS => ?_)
  refine lv_aload_n hx hb dX2_take_41 rfl (lv_at hl 1 rfl) ?_
  refine va_get (D := xD G) (ci := 2) (v := .ref q_a0_winds) (C := RX2) (T := TX2) (N := 5) hx hb hts (fun w9 h9 => (List.mem_cons_of_mem _ (List.mem_append_right _ h9))) hown hE.1 hP 5 rfl rfl 4 (by decide) (hts (.fieldLink RX2 21 "FallingGlass$Chart" "winds" "[I") (List.mem_of_getElem? (i := 5) rfl)) (fun _ h9 => h9) rfl dX2_take_42 ?_
  refine lv_aload_n hx hb dX2_take_45 rfl (lv_at hl 0 rfl) ?_
  refine va_get (D := xD G) (ci := 2) (v := .ref q_winds) (C := RX2) (T := TX2) (N := 5) hx hb hts (fun w9 h9 => (List.mem_cons_of_mem _ (List.mem_append_right _ h9))) hown hE.1 hP 0 rfl rfl 4 (by decide) (hts (.fieldLink RX2 21 "FallingGlass$Chart" "winds" "[I") (List.mem_of_getElem? (i := 5) rfl)) (fun _ h9 => h9) rfl dX2_take_46 ?_
  obtain ⟨r504, hr504, h⟩ := x_bind h
  have hPr504 : va_P (xD G) vwCl [(q_a0_winds, .inl (xy G 0, 4, .inl a0_winds)), (q_winds, .inl (xy G 0, 4, .inl winds))] H := hP.sub [9, 4] rfl
  have hDr504 : va_D A [(q_a0_winds, .inl (xy G 0, 4, .inl a0_winds)), (q_winds, .inl (xy G 0, 4, .inl winds))] := hD.sub [9, 4] (by decide) rfl
  have hFr504 := va_free (wc := [(q_a0_winds, .inl (xy G 0, 4, .inl a0_winds)), (q_winds, .inl (xy G 0, 4, .inl winds))]) hD hS hA [9, 4] rfl
  refine x_callwv (wc := [(q_a0_winds, .inl (xy G 0, 4, .inl a0_winds)), (q_winds, .inl (xy G 0, 4, .inl winds))]) (w1 := [(q_a0_winds, .inl (xy G 0, 4, .inl a0_winds)), (q_winds, .inl (xy G 0, 4, .inl r504))]) (ws' := [(q_this, .inr (2, [.int a0_size, .ref q_xs, .ref q_ys, .ref q_presses, .ref q_winds])), (q_xs, .inl (xy G 0, 4, .inl r501)), (q_ys, .inl (xy G 0, 4, .inl r502)), (q_presses, .inl (xy G 0, 4, .inl r503)), (q_winds, .inl (xy G 0, 4, .inl r504)), (q_a0, .inr (2, [.int a0_size, .ref q_a0_xs, .ref q_a0_ys, .ref q_a0_presses, .ref q_a0_winds])), (q_a0_xs, .inl (xy G 0, 4, .inl a0_xs)), (q_a0_ys, .inl (xy G 0, 4, .inl a0_ys)), (q_a0_presses, .inl (xy G 0, 4, .inl a0_presses)), (q_a0_winds, .inl (xy G 0, 4, .inl a0_winds))]) (va_runSN (As := [.ref q_a0_winds, .ref q_winds]) (rest := []) ⟨hx, hb, hml, hown, hts⟩ (kX9_copy l G H [(q_a0_winds, .inl (xy G 0, 4, .inl a0_winds)), (q_winds, .inl (xy G 0, 4, .inl winds))] rfl hPr504 (hDr504.weaken (fun _ _ _ _ => trivial)) hr504) ⟨va_cnB 2 hts gX2_take_X9_copy_n28 rfl rfl rfl (hE.nm 7 rfl) (hts (.initialized RX9) (List.mem_of_getElem? (i := 7) rfl)) (by decide +kernel) ⟨Nat.le_of_ble_eq_true rfl, Nat.le_of_ble_eq_true rfl⟩, (hts (.static yX9_copy) (List.mem_of_getElem? (i := 6) rfl)), trivial⟩ (x_preSw hE hS hFr504) rfl rfl hl.1 rfl (lv_room (Nat.le_of_ble_eq_true rfl)) dX2_take_49 ⟨Nat.le_of_ble_eq_true rfl, Nat.le_of_ble_eq_true rfl⟩) hP hD hS hFr504 [9, 4] [none, none, none, none, some 1, none, none, none, none, some 0] (n := 10) (by decide) rfl rfl rfl (fun H locs hP hD hS => ?_)
  have hq : (a0_size, r501, r502, r503, r504) = out := by cases h; exact ho
  subst hq
  have hP : va_P (xD G) vwCl [(q_this, .inr (2, [.int a0_size, .ref q_xs, .ref q_ys, .ref q_presses, .ref q_winds])), (q_xs, .inl (xy G 0, 4, .inl r501)), (q_ys, .inl (xy G 0, 4, .inl r502)), (q_presses, .inl (xy G 0, 4, .inl r503)), (q_winds, .inl (xy G 0, 4, .inl r504)), (q_a0, .inr (2, [.int a0_size, .ref q_a0_xs, .ref q_a0_ys, .ref q_a0_presses, .ref q_a0_winds])), (q_a0_xs, .inl (xy G 0, 4, .inl a0_xs)), (q_a0_ys, .inl (xy G 0, 4, .inl a0_ys)), (q_a0_presses, .inl (xy G 0, 4, .inl a0_presses)), (q_a0_winds, .inl (xy G 0, 4, .inl a0_winds))] H := hP
  have hD : va_D A [(q_this, .inr (2, [.int a0_size, .ref q_xs, .ref q_ys, .ref q_presses, .ref q_winds])), (q_xs, .inl (xy G 0, 4, .inl r501)), (q_ys, .inl (xy G 0, 4, .inl r502)), (q_presses, .inl (xy G 0, 4, .inl r503)), (q_winds, .inl (xy G 0, 4, .inl r504)), (q_a0, .inr (2, [.int a0_size, .ref q_a0_xs, .ref q_a0_ys, .ref q_a0_presses, .ref q_a0_winds])), (q_a0_xs, .inl (xy G 0, 4, .inl a0_xs)), (q_a0_ys, .inl (xy G 0, 4, .inl a0_ys)), (q_a0_presses, .inl (xy G 0, 4, .inl a0_presses)), (q_a0_winds, .inl (xy G 0, 4, .inl a0_winds))] := hD
  exact x_vretw hx hb hr hlk hP hD hS dX2_take_52
noncomputable def mX2_add (size : Int32) (xs : Nat → Int32) (ys : Nat → Int32) (presses : Nat → Int32) (winds : Nat → Int32) (p0 : Int32) (p1 : Int32) (p2 : Int32) (p3 : Int32) : Option (Int32 × Int32 × (Nat → Int32) × (Nat → Int32) × (Nat → Int32) × (Nat → Int32)) :=
  if size < 4 then ((mX9_put 4 xs size p0).bind (fun r502 => (mX9_put 4 ys size p1).bind (fun r503 => (mX9_put 4 presses size p2).bind (fun r504 => (mX9_put 4 winds size p3).bind (fun r505 => some ((size + 1), (size + 1), r502, r503, r504, r505)))))) else (some ((-4), size, xs, ys, presses, winds))
set_option maxHeartbeats 4000000 in
set_option maxRecDepth 100000 in
theorem kX2_add (l : Launch) (G : xG) (H0 : Heap) {q_this q_xs q_ys q_presses q_winds : Nat} {size : Int32} {xs : Nat → Int32} {ys : Nat → Int32} {presses : Nat → Int32} {winds : Nat → Int32} {p0 : Int32} {p1 : Int32} {p2 : Int32} {p3 : Int32} (w0 : va_W) (hw0 : w0 = [(q_this, .inr (2, [.int size, .ref q_xs, .ref q_ys, .ref q_presses, .ref q_winds])), (q_xs, .inl (xy G 0, 4, .inl xs)), (q_ys, .inl (xy G 0, 4, .inl ys)), (q_presses, .inl (xy G 0, 4, .inl presses)), (q_winds, .inl (xy G 0, 4, .inl winds))]) (hP : va_P (xD G) vwCl w0 H0) (hD : va_D (fun _ => True) w0) {out : Int32 × Int32 × (Nat → Int32) × (Nat → Int32) × (Nat → Int32) × (Nat → Int32)} (h : mX2_add size xs ys presses winds p0 p1 p2 p3 = some out) : Met l yX2_add wsX2_add ({ frames := 1, cells := 0, slots := 0, locals := 22 }) (xPcw G (va_A w0 H0.size) H0 [.ref q_this, .int p0, .int p1, .int p2, .int p3]) (xRi G (va_A w0 H0.size) [(q_this, .inr (2, [.int out.2.1, .ref q_xs, .ref q_ys, .ref q_presses, .ref q_winds])), (q_xs, .inl (xy G 0, 4, .inl out.2.2.1)), (q_ys, .inl (xy G 0, 4, .inl out.2.2.2.1)), (q_presses, .inl (xy G 0, 4, .inl out.2.2.2.2.1)), (q_winds, .inl (xy G 0, 4, .inl out.2.2.2.2.2))] (out.1)) 0 0 (va_A w0 H0.size) := by
  refine x_metw (y := yX2_add) (ws := wsX2_add) (rm := { frames := 1, cells := 0, slots := 0, locals := 22 }) (G := G) (H0 := H0) (w0 := w0) (av := [.ref q_this, .int p0, .int p1, .int p2, .int p3]) (mc := 0) (ms := 0) (Qc := (fun A => (xRi G A [(q_this, .inr (2, [.int out.2.1, .ref q_xs, .ref q_ys, .ref q_presses, .ref q_winds])), (q_xs, .inl (xy G 0, 4, .inl out.2.2.1)), (q_ys, .inl (xy G 0, 4, .inl out.2.2.2.1)), (q_presses, .inl (xy G 0, 4, .inl out.2.2.2.2.1)), (q_winds, .inl (xy G 0, 4, .inl out.2.2.2.2.2))] (out.1)))) (by decide) rfl (Nat.le_of_ble_eq_true rfl) hP hD ?_
  clear hP hD
  intro p e s m below meth c ls A H locs hA hAt hnm hl hP hD hS
  subst hw0
  obtain ⟨hx, hb, hr, hlk, hml, hown, hts, hE⟩ := hAt
  have hown : s.vm.findClass RX2 = some m.cls := hown
  have hl : lv_has ls 5 [(0, .ref q_this), (1, .int p0), (2, .int p1), (3, .int p2), (4, .int p3)] := hl
  have ho : out = out := rfl
  unfold mX2_add at h
  refine lv_aload_n hx hb dX2_add_0 rfl (lv_at hl 0 rfl) ?_
  refine va_get (D := xD G) (ci := 2) (v := .int size) (C := RX2) (T := TX2) (N := 5) hx hb hts (fun w9 h9 => (List.mem_cons_of_mem _ (List.mem_append_right _ h9))) hown hE.1 hP 0 rfl rfl 0 (by decide) (hts (.fieldLink RX2 24 "FallingGlass$Chart" "size" "I") (List.mem_of_getElem? (i := 1) rfl)) (fun _ h9 => h9) rfl dX2_add_1 ?_
  refine lv_iconst (v := 4) hx hb dX2_add_4 (by decide) ?_
  refine lv_icmp_lt (tgt := 11) hx hb dX2_add_5 (by decide) (fun hc501 => ?_) (fun hc501 => ?_)
  · replace h := (if_pos hc501).symm.trans h
    refine lv_aload_n hx hb dX2_add_11 rfl (lv_at hl 0 rfl) ?_
    refine va_get (D := xD G) (ci := 2) (v := .ref q_xs) (C := RX2) (T := TX2) (N := 5) hx hb hts (fun w9 h9 => (List.mem_cons_of_mem _ (List.mem_append_right _ h9))) hown hE.1 hP 0 rfl rfl 1 (by decide) (hts (.fieldLink RX2 9 "FallingGlass$Chart" "xs" "[I") (List.mem_of_getElem? (i := 2) rfl)) (fun _ h9 => h9) rfl dX2_add_12 ?_
    refine lv_aload_n hx hb dX2_add_15 rfl (lv_at hl 0 rfl) ?_
    refine va_get (D := xD G) (ci := 2) (v := .int size) (C := RX2) (T := TX2) (N := 5) hx hb hts (fun w9 h9 => (List.mem_cons_of_mem _ (List.mem_append_right _ h9))) hown hE.1 hP 0 rfl rfl 0 (by decide) (hts (.fieldLink RX2 24 "FallingGlass$Chart" "size" "I") (List.mem_of_getElem? (i := 1) rfl)) (fun _ h9 => h9) rfl dX2_add_16 ?_
    refine lv_iload_n hx hb dX2_add_19 rfl (lv_at hl 1 rfl) ?_
    obtain ⟨r502, hr502, h⟩ := x_bind h
    have hPr502 : va_P (xD G) vwCl [(q_xs, .inl (xy G 0, 4, .inl xs))] H := hP.sub [1] rfl
    have hDr502 : va_D A [(q_xs, .inl (xy G 0, 4, .inl xs))] := hD.sub [1] (by decide) rfl
    have hFr502 := va_free (wc := [(q_xs, .inl (xy G 0, 4, .inl xs))]) hD hS hA [1] rfl
    refine x_callwv (wc := [(q_xs, .inl (xy G 0, 4, .inl xs))]) (w1 := [(q_xs, .inl (xy G 0, 4, .inl r502))]) (ws' := [(q_this, .inr (2, [.int size, .ref q_xs, .ref q_ys, .ref q_presses, .ref q_winds])), (q_xs, .inl (xy G 0, 4, .inl r502)), (q_ys, .inl (xy G 0, 4, .inl ys)), (q_presses, .inl (xy G 0, 4, .inl presses)), (q_winds, .inl (xy G 0, 4, .inl winds))]) (va_runSN (As := [.ref q_xs, .int size, .int p0]) (rest := []) ⟨hx, hb, hml, hown, hts⟩ (kX9_put l G H [(q_xs, .inl (xy G 0, 4, .inl xs))] rfl hPr502 (hDr502.weaken (fun _ _ _ _ => trivial)) hr502) ⟨va_cnB 3 hts gX2_add_X9_put_n32 rfl rfl rfl (hE.nm 8 rfl) (hts (.initialized RX9) (List.mem_of_getElem? (i := 7) rfl)) (by decide +kernel) ⟨Nat.le_of_ble_eq_true rfl, Nat.le_of_ble_eq_true rfl⟩, (hts (.static yX9_put) (List.mem_of_getElem? (i := 6) rfl)), trivial⟩ (x_preSw hE hS hFr502) rfl rfl hl.1 rfl (lv_room (Nat.le_of_ble_eq_true rfl)) dX2_add_20 ⟨Nat.le_of_ble_eq_true rfl, Nat.le_of_ble_eq_true rfl⟩) hP hD hS hFr502 [1] [none, some 0, none, none, none] (n := 5) (by decide) rfl rfl rfl (fun H locs hP hD hS => ?_)
    refine lv_aload_n hx hb dX2_add_23 rfl (lv_at hl 0 rfl) ?_
    refine va_get (D := xD G) (ci := 2) (v := .ref q_ys) (C := RX2) (T := TX2) (N := 5) hx hb hts (fun w9 h9 => (List.mem_cons_of_mem _ (List.mem_append_right _ h9))) hown hE.1 hP 0 rfl rfl 2 (by decide) (hts (.fieldLink RX2 15 "FallingGlass$Chart" "ys" "[I") (List.mem_of_getElem? (i := 3) rfl)) (fun _ h9 => h9) rfl dX2_add_24 ?_
    refine lv_aload_n hx hb dX2_add_27 rfl (lv_at hl 0 rfl) ?_
    refine va_get (D := xD G) (ci := 2) (v := .int size) (C := RX2) (T := TX2) (N := 5) hx hb hts (fun w9 h9 => (List.mem_cons_of_mem _ (List.mem_append_right _ h9))) hown hE.1 hP 0 rfl rfl 0 (by decide) (hts (.fieldLink RX2 24 "FallingGlass$Chart" "size" "I") (List.mem_of_getElem? (i := 1) rfl)) (fun _ h9 => h9) rfl dX2_add_28 ?_
    refine lv_iload_n hx hb dX2_add_31 rfl (lv_at hl 2 rfl) ?_
    obtain ⟨r503, hr503, h⟩ := x_bind h
    have hPr503 : va_P (xD G) vwCl [(q_ys, .inl (xy G 0, 4, .inl ys))] H := hP.sub [2] rfl
    have hDr503 : va_D A [(q_ys, .inl (xy G 0, 4, .inl ys))] := hD.sub [2] (by decide) rfl
    have hFr503 := va_free (wc := [(q_ys, .inl (xy G 0, 4, .inl ys))]) hD hS hA [2] rfl
    refine x_callwv (wc := [(q_ys, .inl (xy G 0, 4, .inl ys))]) (w1 := [(q_ys, .inl (xy G 0, 4, .inl r503))]) (ws' := [(q_this, .inr (2, [.int size, .ref q_xs, .ref q_ys, .ref q_presses, .ref q_winds])), (q_xs, .inl (xy G 0, 4, .inl r502)), (q_ys, .inl (xy G 0, 4, .inl r503)), (q_presses, .inl (xy G 0, 4, .inl presses)), (q_winds, .inl (xy G 0, 4, .inl winds))]) (va_runSN (As := [.ref q_ys, .int size, .int p1]) (rest := []) ⟨hx, hb, hml, hown, hts⟩ (kX9_put l G H [(q_ys, .inl (xy G 0, 4, .inl ys))] rfl hPr503 (hDr503.weaken (fun _ _ _ _ => trivial)) hr503) ⟨va_cnB 3 hts gX2_add_X9_put_n32 rfl rfl rfl (hE.nm 8 rfl) (hts (.initialized RX9) (List.mem_of_getElem? (i := 7) rfl)) (by decide +kernel) ⟨Nat.le_of_ble_eq_true rfl, Nat.le_of_ble_eq_true rfl⟩, (hts (.static yX9_put) (List.mem_of_getElem? (i := 6) rfl)), trivial⟩ (x_preSw hE hS hFr503) rfl rfl hl.1 rfl (lv_room (Nat.le_of_ble_eq_true rfl)) dX2_add_32 ⟨Nat.le_of_ble_eq_true rfl, Nat.le_of_ble_eq_true rfl⟩) hP hD hS hFr503 [2] [none, none, some 0, none, none] (n := 5) (by decide) rfl rfl rfl (fun H locs hP hD hS => ?_)
    refine lv_aload_n hx hb dX2_add_35 rfl (lv_at hl 0 rfl) ?_
    refine va_get (D := xD G) (ci := 2) (v := .ref q_presses) (C := RX2) (T := TX2) (N := 5) hx hb hts (fun w9 h9 => (List.mem_cons_of_mem _ (List.mem_append_right _ h9))) hown hE.1 hP 0 rfl rfl 3 (by decide) (hts (.fieldLink RX2 18 "FallingGlass$Chart" "presses" "[I") (List.mem_of_getElem? (i := 4) rfl)) (fun _ h9 => h9) rfl dX2_add_36 ?_
    refine lv_aload_n hx hb dX2_add_39 rfl (lv_at hl 0 rfl) ?_
    refine va_get (D := xD G) (ci := 2) (v := .int size) (C := RX2) (T := TX2) (N := 5) hx hb hts (fun w9 h9 => (List.mem_cons_of_mem _ (List.mem_append_right _ h9))) hown hE.1 hP 0 rfl rfl 0 (by decide) (hts (.fieldLink RX2 24 "FallingGlass$Chart" "size" "I") (List.mem_of_getElem? (i := 1) rfl)) (fun _ h9 => h9) rfl dX2_add_40 ?_
    refine lv_iload_n hx hb dX2_add_43 rfl (lv_at hl 3 rfl) ?_
    obtain ⟨r504, hr504, h⟩ := x_bind h
    have hPr504 : va_P (xD G) vwCl [(q_presses, .inl (xy G 0, 4, .inl presses))] H := hP.sub [3] rfl
    have hDr504 : va_D A [(q_presses, .inl (xy G 0, 4, .inl presses))] := hD.sub [3] (by decide) rfl
    have hFr504 := va_free (wc := [(q_presses, .inl (xy G 0, 4, .inl presses))]) hD hS hA [3] rfl
    refine x_callwv (wc := [(q_presses, .inl (xy G 0, 4, .inl presses))]) (w1 := [(q_presses, .inl (xy G 0, 4, .inl r504))]) (ws' := [(q_this, .inr (2, [.int size, .ref q_xs, .ref q_ys, .ref q_presses, .ref q_winds])), (q_xs, .inl (xy G 0, 4, .inl r502)), (q_ys, .inl (xy G 0, 4, .inl r503)), (q_presses, .inl (xy G 0, 4, .inl r504)), (q_winds, .inl (xy G 0, 4, .inl winds))]) (va_runSN (As := [.ref q_presses, .int size, .int p2]) (rest := []) ⟨hx, hb, hml, hown, hts⟩ (kX9_put l G H [(q_presses, .inl (xy G 0, 4, .inl presses))] rfl hPr504 (hDr504.weaken (fun _ _ _ _ => trivial)) hr504) ⟨va_cnB 3 hts gX2_add_X9_put_n32 rfl rfl rfl (hE.nm 8 rfl) (hts (.initialized RX9) (List.mem_of_getElem? (i := 7) rfl)) (by decide +kernel) ⟨Nat.le_of_ble_eq_true rfl, Nat.le_of_ble_eq_true rfl⟩, (hts (.static yX9_put) (List.mem_of_getElem? (i := 6) rfl)), trivial⟩ (x_preSw hE hS hFr504) rfl rfl hl.1 rfl (lv_room (Nat.le_of_ble_eq_true rfl)) dX2_add_44 ⟨Nat.le_of_ble_eq_true rfl, Nat.le_of_ble_eq_true rfl⟩) hP hD hS hFr504 [3] [none, none, none, some 0, none] (n := 5) (by decide) rfl rfl rfl (fun H locs hP hD hS => ?_)
    refine lv_aload_n hx hb dX2_add_47 rfl (lv_at hl 0 rfl) ?_
    refine va_get (D := xD G) (ci := 2) (v := .ref q_winds) (C := RX2) (T := TX2) (N := 5) hx hb hts (fun w9 h9 => (List.mem_cons_of_mem _ (List.mem_append_right _ h9))) hown hE.1 hP 0 rfl rfl 4 (by decide) (hts (.fieldLink RX2 21 "FallingGlass$Chart" "winds" "[I") (List.mem_of_getElem? (i := 5) rfl)) (fun _ h9 => h9) rfl dX2_add_48 ?_
    refine lv_aload_n hx hb dX2_add_51 rfl (lv_at hl 0 rfl) ?_
    refine va_get (D := xD G) (ci := 2) (v := .int size) (C := RX2) (T := TX2) (N := 5) hx hb hts (fun w9 h9 => (List.mem_cons_of_mem _ (List.mem_append_right _ h9))) hown hE.1 hP 0 rfl rfl 0 (by decide) (hts (.fieldLink RX2 24 "FallingGlass$Chart" "size" "I") (List.mem_of_getElem? (i := 1) rfl)) (fun _ h9 => h9) rfl dX2_add_52 ?_
    refine lv_iload hx hb dX2_add_55 (lv_at hl 4 rfl) ?_
    obtain ⟨r505, hr505, h⟩ := x_bind h
    have hPr505 : va_P (xD G) vwCl [(q_winds, .inl (xy G 0, 4, .inl winds))] H := hP.sub [4] rfl
    have hDr505 : va_D A [(q_winds, .inl (xy G 0, 4, .inl winds))] := hD.sub [4] (by decide) rfl
    have hFr505 := va_free (wc := [(q_winds, .inl (xy G 0, 4, .inl winds))]) hD hS hA [4] rfl
    refine x_callwv (wc := [(q_winds, .inl (xy G 0, 4, .inl winds))]) (w1 := [(q_winds, .inl (xy G 0, 4, .inl r505))]) (ws' := [(q_this, .inr (2, [.int size, .ref q_xs, .ref q_ys, .ref q_presses, .ref q_winds])), (q_xs, .inl (xy G 0, 4, .inl r502)), (q_ys, .inl (xy G 0, 4, .inl r503)), (q_presses, .inl (xy G 0, 4, .inl r504)), (q_winds, .inl (xy G 0, 4, .inl r505))]) (va_runSN (As := [.ref q_winds, .int size, .int p3]) (rest := []) ⟨hx, hb, hml, hown, hts⟩ (kX9_put l G H [(q_winds, .inl (xy G 0, 4, .inl winds))] rfl hPr505 (hDr505.weaken (fun _ _ _ _ => trivial)) hr505) ⟨va_cnB 3 hts gX2_add_X9_put_n32 rfl rfl rfl (hE.nm 8 rfl) (hts (.initialized RX9) (List.mem_of_getElem? (i := 7) rfl)) (by decide +kernel) ⟨Nat.le_of_ble_eq_true rfl, Nat.le_of_ble_eq_true rfl⟩, (hts (.static yX9_put) (List.mem_of_getElem? (i := 6) rfl)), trivial⟩ (x_preSw hE hS hFr505) rfl rfl hl.1 rfl (lv_room (Nat.le_of_ble_eq_true rfl)) dX2_add_57 ⟨Nat.le_of_ble_eq_true rfl, Nat.le_of_ble_eq_true rfl⟩) hP hD hS hFr505 [4] [none, none, none, none, some 0] (n := 5) (by decide) rfl rfl rfl (fun H locs hP hD hS => ?_)
    refine lv_aload_n hx hb dX2_add_60 rfl (lv_at hl 0 rfl) ?_
    refine lv_dup hx hb dX2_add_61 rfl ?_
    refine va_get (D := xD G) (ci := 2) (v := .int size) (C := RX2) (T := TX2) (N := 5) hx hb hts (fun w9 h9 => (List.mem_cons_of_mem _ (List.mem_append_right _ h9))) hown hE.1 hP 0 rfl rfl 0 (by decide) (hts (.fieldLink RX2 24 "FallingGlass$Chart" "size" "I") (List.mem_of_getElem? (i := 1) rfl)) (fun _ h9 => h9) rfl dX2_add_62 ?_
    refine lv_iconst (v := 1) hx hb dX2_add_65 (by decide) ?_
    refine lv_iadd hx hb dX2_add_66 ?_
    refine va_put (D := xD G) (ci := 2) (v := .int (size + 1)) (ty := .int) (C := RX2) (T := TX2) (N := 5) hx hb hts (fun w9 h9 => (List.mem_cons_of_mem _ (List.mem_append_right _ h9))) tyX2 tyX2_ok nmX2 hown hE.1 hP hD hS 0 rfl rfl 0 (by decide) (hts (.fieldLink RX2 24 "FallingGlass$Chart" "size" "I") (List.mem_of_getElem? (i := 1) rfl)) (fun _ h9 => h9) rfl (by decide +kernel) rfl rfl (Nat.le_of_ble_eq_true rfl) dX2_add_67 (fun H locs hP hD hS => ?_)
    have hP : va_P (xD G) vwCl [(q_this, .inr (2, [.int (size + 1), .ref q_xs, .ref q_ys, .ref q_presses, .ref q_winds])), (q_xs, .inl (xy G 0, 4, .inl r502)), (q_ys, .inl (xy G 0, 4, .inl r503)), (q_presses, .inl (xy G 0, 4, .inl r504)), (q_winds, .inl (xy G 0, 4, .inl r505))] H := hP
    have hD : va_D A [(q_this, .inr (2, [.int (size + 1), .ref q_xs, .ref q_ys, .ref q_presses, .ref q_winds])), (q_xs, .inl (xy G 0, 4, .inl r502)), (q_ys, .inl (xy G 0, 4, .inl r503)), (q_presses, .inl (xy G 0, 4, .inl r504)), (q_winds, .inl (xy G 0, 4, .inl r505))] := hD
    refine lv_aload_n hx hb dX2_add_70 rfl (lv_at hl 0 rfl) ?_
    refine va_get (D := xD G) (ci := 2) (v := .int (size + 1)) (C := RX2) (T := TX2) (N := 5) hx hb hts (fun w9 h9 => (List.mem_cons_of_mem _ (List.mem_append_right _ h9))) hown hE.1 hP 0 rfl rfl 0 (by decide) (hts (.fieldLink RX2 24 "FallingGlass$Chart" "size" "I") (List.mem_of_getElem? (i := 1) rfl)) (fun _ h9 => h9) rfl dX2_add_71 ?_
    have hq : ((size + 1), (size + 1), r502, r503, r504, r505) = out := by cases h; exact ho
    subst hq
    have hP : va_P (xD G) vwCl [(q_this, .inr (2, [.int (size + 1), .ref q_xs, .ref q_ys, .ref q_presses, .ref q_winds])), (q_xs, .inl (xy G 0, 4, .inl r502)), (q_ys, .inl (xy G 0, 4, .inl r503)), (q_presses, .inl (xy G 0, 4, .inl r504)), (q_winds, .inl (xy G 0, 4, .inl r505))] H := hP
    have hD : va_D A [(q_this, .inr (2, [.int (size + 1), .ref q_xs, .ref q_ys, .ref q_presses, .ref q_winds])), (q_xs, .inl (xy G 0, 4, .inl r502)), (q_ys, .inl (xy G 0, 4, .inl r503)), (q_presses, .inl (xy G 0, 4, .inl r504)), (q_winds, .inl (xy G 0, 4, .inl r505))] := hD
    exact x_iretw hx hb hr hlk hP hD hS rfl dX2_add_74
  · replace h := (if_neg hc501).symm.trans h
    refine lv_bipush (v := (-4)) hx hb dX2_add_8 (by decide) ?_
    have hq : ((-4), size, xs, ys, presses, winds) = out := by cases h; exact ho
    subst hq
    have hP : va_P (xD G) vwCl [(q_this, .inr (2, [.int size, .ref q_xs, .ref q_ys, .ref q_presses, .ref q_winds])), (q_xs, .inl (xy G 0, 4, .inl xs)), (q_ys, .inl (xy G 0, 4, .inl ys)), (q_presses, .inl (xy G 0, 4, .inl presses)), (q_winds, .inl (xy G 0, 4, .inl winds))] H := hP
    have hD : va_D A [(q_this, .inr (2, [.int size, .ref q_xs, .ref q_ys, .ref q_presses, .ref q_winds])), (q_xs, .inl (xy G 0, 4, .inl xs)), (q_ys, .inl (xy G 0, 4, .inl ys)), (q_presses, .inl (xy G 0, 4, .inl presses)), (q_winds, .inl (xy G 0, 4, .inl winds))] := hD
    exact x_iretw hx hb hr hlk hP hD hS rfl dX2_add_10
noncomputable def mX2_erase (size : Int32)  : Option (Int32 × Int32) :=
  some (size, 0)
set_option maxHeartbeats 4000000 in
set_option maxRecDepth 100000 in
theorem kX2_erase (l : Launch) (G : xG) (H0 : Heap) {q_this q_xs q_ys q_presses q_winds : Nat} {size : Int32} (w0 : va_W) (hw0 : w0 = [(q_this, .inr (2, [.int size, .ref q_xs, .ref q_ys, .ref q_presses, .ref q_winds]))]) (hP : va_P (xD G) vwCl w0 H0) (hD : va_D (fun _ => True) w0) {out : Int32 × Int32} (h : mX2_erase size = some out) : Met l yX2_erase wsX2_erase ({ frames := 0, cells := 0, slots := 0, locals := 0 }) (xPcw G (va_A w0 H0.size) H0 [.ref q_this]) (xRi G (va_A w0 H0.size) [(q_this, .inr (2, [.int out.2, .ref q_xs, .ref q_ys, .ref q_presses, .ref q_winds]))] (out.1)) 0 0 (va_A w0 H0.size) := by
  refine x_metw (y := yX2_erase) (ws := wsX2_erase) (rm := { frames := 0, cells := 0, slots := 0, locals := 0 }) (G := G) (H0 := H0) (w0 := w0) (av := [.ref q_this]) (mc := 0) (ms := 0) (Qc := (fun A => (xRi G A [(q_this, .inr (2, [.int out.2, .ref q_xs, .ref q_ys, .ref q_presses, .ref q_winds]))] (out.1)))) (by decide) rfl (Nat.le_of_ble_eq_true rfl) hP hD ?_
  clear hP hD
  intro p e s m below meth c ls A H locs hA hAt hnm hl hP hD hS
  subst hw0
  obtain ⟨hx, hb, hr, hlk, hml, hown, hts, hE⟩ := hAt
  have hown : s.vm.findClass RX2 = some m.cls := hown
  have hl : lv_has ls 2 [(0, .ref q_this)] := hl
  have ho : out = out := rfl
  unfold mX2_erase at h
  refine lv_aload_n hx hb dX2_erase_0 rfl (lv_at hl 0 rfl) ?_
  refine va_get (D := xD G) (ci := 2) (v := .int size) (C := RX2) (T := TX2) (N := 5) hx hb hts (fun w9 h9 => (List.mem_cons_of_mem _ (List.mem_append_right _ h9))) hown hE.1 hP 0 rfl rfl 0 (by decide) (hts (.fieldLink RX2 24 "FallingGlass$Chart" "size" "I") (List.mem_of_getElem? (i := 1) rfl)) (fun _ h9 => h9) rfl dX2_erase_1 ?_
  refine lv_istore_n (lv' := [(1, .int size), (0, .ref q_this)]) hx hb dX2_erase_4 rfl hl (by decide) rfl (fun ls hl => ?_)
  refine lv_aload_n hx hb dX2_erase_5 rfl (lv_at hl 1 rfl) ?_
  refine lv_iconst (v := 0) hx hb dX2_erase_6 (by decide) ?_
  refine va_put (D := xD G) (ci := 2) (v := .int 0) (ty := .int) (C := RX2) (T := TX2) (N := 5) hx hb hts (fun w9 h9 => (List.mem_cons_of_mem _ (List.mem_append_right _ h9))) tyX2 tyX2_ok nmX2 hown hE.1 hP hD hS 0 rfl rfl 0 (by decide) (hts (.fieldLink RX2 24 "FallingGlass$Chart" "size" "I") (List.mem_of_getElem? (i := 1) rfl)) (fun _ h9 => h9) rfl (by decide +kernel) rfl rfl (Nat.le_of_ble_eq_true rfl) dX2_erase_7 (fun H locs hP hD hS => ?_)
  have hP : va_P (xD G) vwCl [(q_this, .inr (2, [.int 0, .ref q_xs, .ref q_ys, .ref q_presses, .ref q_winds]))] H := hP
  have hD : va_D A [(q_this, .inr (2, [.int 0, .ref q_xs, .ref q_ys, .ref q_presses, .ref q_winds]))] := hD
  refine lv_iload_n hx hb dX2_erase_10 rfl (lv_at hl 0 rfl) ?_
  have hq : (size, 0) = out := by cases h; exact ho
  subst hq
  have hP : va_P (xD G) vwCl [(q_this, .inr (2, [.int 0, .ref q_xs, .ref q_ys, .ref q_presses, .ref q_winds]))] H := hP
  have hD : va_D A [(q_this, .inr (2, [.int 0, .ref q_xs, .ref q_ys, .ref q_presses, .ref q_winds]))] := hD
  exact x_iretw hx hb hr hlk hP hD hS rfl dX2_erase_11
noncomputable def mX2_eighth_b42  (v4 : Int32) (t0 : Int32) : Option (Int32) :=
  (mX9_atT1 ((((3 * (t0 + 1)) + v4) + 1))).bind (fun r101 => some r101)
noncomputable def mX2_eighth_b25  (v1 : Int32) (v2 : Int32) (v3 : Int32) (t0 : Int32) : Option (Int32) :=
  if v2 ≤ (2 * v3) then ((mJ6_signum_0f7a4 v1).bind (fun r203 => mX2_eighth_b42 t0 r203)) else (mX2_eighth_b42 t0 0)
noncomputable def mX2_eighth  (p0 : Int32) (p1 : Int32) : Option (Int32) :=
  if (if 0 ≤ p1 then p1 else 0 - p1) ≤ (2 * (if 0 ≤ p0 then p0 else 0 - p0)) then ((mJ6_signum_0f7a4 p0).bind (fun r502 => mX2_eighth_b25 p1 ((if 0 ≤ p0 then p0 else 0 - p0)) ((if 0 ≤ p1 then p1 else 0 - p1)) r502)) else (mX2_eighth_b25 p1 ((if 0 ≤ p0 then p0 else 0 - p0)) ((if 0 ≤ p1 then p1 else 0 - p1)) 0)
set_option maxHeartbeats 4000000 in
set_option maxRecDepth 100000 in
theorem kX2_eighth (l : Launch) (G : xG) (H0 : Heap) {p0 : Int32} {p1 : Int32} {out : Int32} (h : mX2_eighth p0 p1 = some out) : Met l yX2_eighth wsX2_eighth ({ frames := 1, cells := 0, slots := 0, locals := 21 }) (xPc G H0 [.int p0, .int p1]) (xQi H0 (out)) 0 0 xN := by
  refine x_met (by decide) rfl (Nat.le_of_ble_eq_true rfl) ?_
  intro p e s m below meth c ls hH hA hl
  obtain ⟨hx, hb, hr, hlk, hml, hown, hts, hE⟩ := hA
  subst hH
  have hown : s.vm.findClass RX2 = some m.cls := hown
  have hl : lv_has ls 6 [(0, .int p0), (1, .int p1)] := hl
  have hS : va_S xN s.heap s.heap [] := va_S.rf
  have ho : out = out := rfl
  have J42 : ∀ (v4 : Int32) (t0 : Int32) (ls : Array Slot), lv_has ls 6 [(4, .int v4)] → ∀ o : Int32, mX2_eighth_b42  v4 t0 = some o → (fun z => z = out) o → xW p l e ({ frames := 1, cells := 0, slots := 0, locals := 21 }) s m [.int p0, .int p1] below meth c (xQi s.heap (out)) (F0 m 42 ls [.int t0]) := by
    intro v4 t0 ls hl o h ho
    unfold mX2_eighth_b42 at h
    refine lv_istore (lv' := [(5, .int t0), (4, .int v4)]) hx hb dX2_eighth_42 hl (by decide) rfl (fun ls hl => ?_)
    refine va_getsN hx hb hE.t1.1 hS hown (va_Nw.use rfl (hE.nf 1 rfl)) (fun _ h9 => h9) dX2_eighth_44 ?_
    refine lv_iconst (v := 3) hx hb dX2_eighth_47 (by decide) ?_
    refine lv_iload hx hb dX2_eighth_48 (lv_at hl 0 rfl) ?_
    refine lv_iconst (v := 1) hx hb dX2_eighth_50 (by decide) ?_
    refine lv_iadd hx hb dX2_eighth_51 ?_
    refine lv_imul hx hb dX2_eighth_52 ?_
    refine lv_iload hx hb dX2_eighth_53 (lv_at hl 1 rfl) ?_
    refine lv_iadd hx hb dX2_eighth_55 ?_
    refine lv_iconst (v := 1) hx hb dX2_eighth_56 (by decide) ?_
    refine lv_iadd hx hb dX2_eighth_57 ?_
    obtain ⟨r101, hr101, h⟩ := x_bind h
    refine x_calli (va_runSN (As := [.ref (xa G 1), .int (((3 * (t0 + 1)) + v4) + 1)]) (rest := []) ⟨hx, hb, hml, hown, hts⟩ (kX9_atT1 l G s.heap hr101) ⟨va_cnB 2 hts gX2_eighth_X9_at_n44 rfl rfl rfl (hE.nm 9 rfl) (hts (.initialized RX9) (List.mem_of_getElem? (i := 10) rfl)) (by decide +kernel) ⟨Nat.le_of_ble_eq_true rfl, Nat.le_of_ble_eq_true rfl⟩, (hts (.static yX9_at) (List.mem_of_getElem? (i := 9) rfl)), trivial⟩ (x_preS hE hS) rfl rfl hl.1 rfl (lv_room (Nat.le_of_ble_eq_true rfl)) dX2_eighth_58 ⟨Nat.le_of_ble_eq_true rfl, Nat.le_of_ble_eq_true rfl⟩) ?_
    have hq : r101 = out := by cases h; exact ho
    subst hq
    exact x_iret hx hb hr hlk rfl rfl dX2_eighth_61
  have J25 : ∀ (v1 : Int32) (v2 : Int32) (v3 : Int32) (t0 : Int32) (ls : Array Slot), lv_has ls 6 [(1, .int v1), (2, .int v2), (3, .int v3)] → ∀ o : Int32, mX2_eighth_b25  v1 v2 v3 t0 = some o → (fun z => z = out) o → xW p l e ({ frames := 1, cells := 0, slots := 0, locals := 21 }) s m [.int p0, .int p1] below meth c (xQi s.heap (out)) (F0 m 25 ls [.int t0]) := by
    intro v1 v2 v3 t0 ls hl o h ho
    unfold mX2_eighth_b25 at h
    refine lv_istore (lv' := [(4, .int t0), (1, .int v1), (2, .int v2), (3, .int v3)]) hx hb dX2_eighth_25 hl (by decide) rfl (fun ls hl => ?_)
    refine lv_iconst (v := 2) hx hb dX2_eighth_27 (by decide) ?_
    refine lv_iload_n hx hb dX2_eighth_28 rfl (lv_at hl 3 rfl) ?_
    refine lv_imul hx hb dX2_eighth_29 ?_
    refine lv_iload_n hx hb dX2_eighth_30 rfl (lv_at hl 2 rfl) ?_
    refine lv_icmp_ge (tgt := 38) hx hb dX2_eighth_31 (by decide) (fun hc202 => ?_) (fun hc202 => ?_)
    · replace h := (if_pos hc202).symm.trans h
      refine lv_iload_n hx hb dX2_eighth_38 rfl (lv_at hl 1 rfl) ?_
      obtain ⟨r203, hr203, h⟩ := x_bind h
      refine x_calli (va_runS (As := [.int v1]) (rest := []) ⟨hx, hb, hml, hown, hts⟩ (kJ6_signum_0f7a4 l G s.heap hr203) (va_cwS 1 hts gX2_eighth_J6_signum_0f7a4 rfl rfl rfl (by decide +kernel) ⟨Nat.le_of_ble_eq_true rfl, Nat.le_of_ble_eq_true rfl⟩) (x_preS hE hS) rfl rfl hl.1 rfl (lv_room (Nat.le_of_ble_eq_true rfl)) dX2_eighth_39 ⟨Nat.le_of_ble_eq_true rfl, Nat.le_of_ble_eq_true rfl⟩) ?_
      exact J42 t0 r203 ls (lv_sub hl [0] rfl) _ h ho
    · replace h := (if_neg hc202).symm.trans h
      refine lv_iconst (v := 0) hx hb dX2_eighth_34 (by decide) ?_
      refine lv_goto (tgt := 42) hx hb dX2_eighth_35 (by decide) ?_
      exact J42 t0 0 ls (lv_sub hl [0] rfl) _ h ho
  unfold mX2_eighth at h
  refine lv_iload_n hx hb dX2_eighth_0 rfl (lv_at hl 0 rfl) ?_
  refine va_mabs hx hb (hml.trans hl.1.symm) hown (hts (.methodLink RX2 48 Lib.Math.abs.name) (List.mem_of_getElem? (i := 1) rfl)) (hts (.static Lib.Math.abs.name) (List.mem_of_getElem? (i := 2) rfl)) (hts (.initialized "java/lang/Math") (List.mem_of_getElem? (i := 3) rfl)) (hts (.code Lib.Math.abs.name Lib.Math.abs.code 1 (some .int)) (List.mem_of_getElem? (i := 4) rfl)) (Nat.le_of_ble_eq_true rfl) (Nat.le_of_ble_eq_true rfl) (Nat.le_of_ble_eq_true rfl) (Nat.le_of_ble_eq_true rfl) dX2_eighth_1 ?_
  refine lv_istore_n (lv' := [(2, .int (if 0 ≤ p0 then p0 else 0 - p0)), (0, .int p0), (1, .int p1)]) hx hb dX2_eighth_4 rfl hl (by decide) rfl (fun ls hl => ?_)
  refine lv_iload_n hx hb dX2_eighth_5 rfl (lv_at hl 2 rfl) ?_
  refine va_mabs hx hb (hml.trans hl.1.symm) hown (hts (.methodLink RX2 48 Lib.Math.abs.name) (List.mem_of_getElem? (i := 1) rfl)) (hts (.static Lib.Math.abs.name) (List.mem_of_getElem? (i := 2) rfl)) (hts (.initialized "java/lang/Math") (List.mem_of_getElem? (i := 3) rfl)) (hts (.code Lib.Math.abs.name Lib.Math.abs.code 1 (some .int)) (List.mem_of_getElem? (i := 4) rfl)) (Nat.le_of_ble_eq_true rfl) (Nat.le_of_ble_eq_true rfl) (Nat.le_of_ble_eq_true rfl) (Nat.le_of_ble_eq_true rfl) dX2_eighth_6 ?_
  refine lv_istore_n (lv' := [(3, .int (if 0 ≤ p1 then p1 else 0 - p1)), (2, .int (if 0 ≤ p0 then p0 else 0 - p0)), (0, .int p0), (1, .int p1)]) hx hb dX2_eighth_9 rfl hl (by decide) rfl (fun ls hl => ?_)
  refine lv_iconst (v := 2) hx hb dX2_eighth_10 (by decide) ?_
  refine lv_iload_n hx hb dX2_eighth_11 rfl (lv_at hl 1 rfl) ?_
  refine lv_imul hx hb dX2_eighth_12 ?_
  refine lv_iload_n hx hb dX2_eighth_13 rfl (lv_at hl 0 rfl) ?_
  refine lv_icmp_ge (tgt := 21) hx hb dX2_eighth_14 (by decide) (fun hc501 => ?_) (fun hc501 => ?_)
  · replace h := (if_pos hc501).symm.trans h
    refine lv_iload_n hx hb dX2_eighth_21 rfl (lv_at hl 2 rfl) ?_
    obtain ⟨r502, hr502, h⟩ := x_bind h
    refine x_calli (va_runS (As := [.int p0]) (rest := []) ⟨hx, hb, hml, hown, hts⟩ (kJ6_signum_0f7a4 l G s.heap hr502) (va_cwS 1 hts gX2_eighth_J6_signum_0f7a4 rfl rfl rfl (by decide +kernel) ⟨Nat.le_of_ble_eq_true rfl, Nat.le_of_ble_eq_true rfl⟩) (x_preS hE hS) rfl rfl hl.1 rfl (lv_room (Nat.le_of_ble_eq_true rfl)) dX2_eighth_22 ⟨Nat.le_of_ble_eq_true rfl, Nat.le_of_ble_eq_true rfl⟩) ?_
    exact J25 p1 ((if 0 ≤ p0 then p0 else 0 - p0)) ((if 0 ≤ p1 then p1 else 0 - p1)) r502 ls (lv_sub hl [3, 1, 0] rfl) _ h ho
  · replace h := (if_neg hc501).symm.trans h
    refine lv_iconst (v := 0) hx hb dX2_eighth_17 (by decide) ?_
    refine lv_goto (tgt := 25) hx hb dX2_eighth_18 (by decide) ?_
    exact J25 p1 ((if 0 ≤ p0 then p0 else 0 - p0)) ((if 0 ≤ p1 then p1 else 0 - p1)) 0 ls (lv_sub hl [3, 1, 0] rfl) _ h ho
noncomputable def mX2_fitsAll_b97 (size : Int32) (xs : Nat → Int32) (ys : Nat → Int32) (presses : Nat → Int32) (winds : Nat → Int32) (v1 : Int32) (v2 : Int32) (v3 : Int32) (v4 : Int32) (v5 : Int32) (v6 : Int32) (v7 : Int32) (t0 : Int32) : Option (((Bool) ⊕ (Int32))) :=
  if t0 = 0 then (some (.inl false)) else ((mX2_eighth v6 v7).bind (fun r102 => (mX9_at 4 winds v5).bind (fun r103 => if r102 = ((r103 + 2) - (r103 + 2) / 8 * 8) then (some (.inr ((v5 + 1)))) else (some (.inl false)))))
noncomputable def mX2_fitsAll_s3 (size : Int32) (xs : Nat → Int32) (ys : Nat → Int32) (presses : Nat → Int32) (winds : Nat → Int32) (v1 : Int32) (v2 : Int32) (v3 : Int32) (v4 : Int32) (v5 : Int32) : Option (((Bool) ⊕ (Int32))) :=
  if size ≤ v5 then (some (.inl true)) else ((mX9_at 4 xs v5).bind (fun r206 => (mX9_at 4 ys v5).bind (fun r207 => (mX9_at 4 presses v5).bind (fun r208 => if v4 < (if 0 ≤ ((90 - (if 0 < ((10 * v3) - (8 * (if (if 0 ≤ (v1 - r206) then (v1 - r206) else 0 - (v1 - r206)) < (if 0 ≤ (v2 - r207) then (v2 - r207) else 0 - (v2 - r207)) then (if 0 ≤ (v2 - r207) then (v2 - r207) else 0 - (v2 - r207)) else (if 0 ≤ (v1 - r206) then (v1 - r206) else 0 - (v1 - r206))))) then ((10 * v3) - (8 * (if (if 0 ≤ (v1 - r206) then (v1 - r206) else 0 - (v1 - r206)) < (if 0 ≤ (v2 - r207) then (v2 - r207) else 0 - (v2 - r207)) then (if 0 ≤ (v2 - r207) then (v2 - r207) else 0 - (v2 - r207)) else (if 0 ≤ (v1 - r206) then (v1 - r206) else 0 - (v1 - r206))))) else 0)) - r208) then ((90 - (if 0 < ((10 * v3) - (8 * (if (if 0 ≤ (v1 - r206) then (v1 - r206) else 0 - (v1 - r206)) < (if 0 ≤ (v2 - r207) then (v2 - r207) else 0 - (v2 - r207)) then (if 0 ≤ (v2 - r207) then (v2 - r207) else 0 - (v2 - r207)) else (if 0 ≤ (v1 - r206) then (v1 - r206) else 0 - (v1 - r206))))) then ((10 * v3) - (8 * (if (if 0 ≤ (v1 - r206) then (v1 - r206) else 0 - (v1 - r206)) < (if 0 ≤ (v2 - r207) then (v2 - r207) else 0 - (v2 - r207)) then (if 0 ≤ (v2 - r207) then (v2 - r207) else 0 - (v2 - r207)) else (if 0 ≤ (v1 - r206) then (v1 - r206) else 0 - (v1 - r206))))) else 0)) - r208) else 0 - ((90 - (if 0 < ((10 * v3) - (8 * (if (if 0 ≤ (v1 - r206) then (v1 - r206) else 0 - (v1 - r206)) < (if 0 ≤ (v2 - r207) then (v2 - r207) else 0 - (v2 - r207)) then (if 0 ≤ (v2 - r207) then (v2 - r207) else 0 - (v2 - r207)) else (if 0 ≤ (v1 - r206) then (v1 - r206) else 0 - (v1 - r206))))) then ((10 * v3) - (8 * (if (if 0 ≤ (v1 - r206) then (v1 - r206) else 0 - (v1 - r206)) < (if 0 ≤ (v2 - r207) then (v2 - r207) else 0 - (v2 - r207)) then (if 0 ≤ (v2 - r207) then (v2 - r207) else 0 - (v2 - r207)) else (if 0 ≤ (v1 - r206) then (v1 - r206) else 0 - (v1 - r206))))) else 0)) - r208)) then (mX2_fitsAll_b97 size xs ys presses winds v1 v2 v3 v4 v5 ((v1 - r206)) ((v2 - r207)) 0) else (mX2_fitsAll_b97 size xs ys presses winds v1 v2 v3 v4 v5 ((v1 - r206)) ((v2 - r207)) 1)))))
noncomputable def mX2_fitsAll_b3 (size : Int32) (xs : Nat → Int32) (ys : Nat → Int32) (presses : Nat → Int32) (winds : Nat → Int32) (v1 : Int32) (v2 : Int32) (v3 : Int32) (v4 : Int32) (v5 : Int32) : Option (Bool) :=
  x_loop (fun q : Int32 => mX2_fitsAll_s3 size xs ys presses winds v1 v2 v3 v4 (q)) v5
noncomputable def mX2_fitsAll (size : Int32) (xs : Nat → Int32) (ys : Nat → Int32) (presses : Nat → Int32) (winds : Nat → Int32) (p0 : Int32) (p1 : Int32) (p2 : Int32) (p3 : Int32) : Option (Bool) :=
  mX2_fitsAll_b3 size xs ys presses winds p0 p1 p2 p3 0
set_option maxHeartbeats 4000000 in
set_option maxRecDepth 100000 in
theorem kX2_fitsAll (l : Launch) (G : xG) (H0 : Heap) {q_this q_xs q_ys q_presses q_winds : Nat} {size : Int32} {xs : Nat → Int32} {ys : Nat → Int32} {presses : Nat → Int32} {winds : Nat → Int32} {p0 : Int32} {p1 : Int32} {p2 : Int32} {p3 : Int32} (hP : va_P (xD G) vwCl [(q_this, .inr (2, [.int size, .ref q_xs, .ref q_ys, .ref q_presses, .ref q_winds])), (q_xs, .inl (xy G 0, 4, .inl xs)), (q_ys, .inl (xy G 0, 4, .inl ys)), (q_presses, .inl (xy G 0, 4, .inl presses)), (q_winds, .inl (xy G 0, 4, .inl winds))] H0) {out : Bool} (h : mX2_fitsAll size xs ys presses winds p0 p1 p2 p3 = some out) : Met l yX2_fitsAll wsX2_fitsAll ({ frames := 2, cells := 0, slots := 0, locals := 46 }) (xPc G H0 [.ref q_this, .int p0, .int p1, .int p2, .int p3]) (xQi H0 (xb out)) 0 0 xN := by
  refine x_met (by decide) rfl (Nat.le_of_ble_eq_true rfl) ?_
  intro p e s m below meth c ls hH hA hl
  obtain ⟨hx, hb, hr, hlk, hml, hown, hts, hE⟩ := hA
  subst hH
  have hown : s.vm.findClass RX2 = some m.cls := hown
  have hl : lv_has ls 11 [(0, .ref q_this), (1, .int p0), (2, .int p1), (3, .int p2), (4, .int p3)] := hl
  have hS : va_S xN s.heap s.heap [] := va_S.rf
  have ho : out = out := rfl
  have J3 : ∀ (v1 : Int32) (v2 : Int32) (v3 : Int32) (v4 : Int32) (v5 : Int32) (ls : Array Slot), lv_has ls 11 [(0, .ref q_this), (1, .int v1), (2, .int v2), (3, .int v3), (4, .int v4), (5, .int v5)] → ∀ o : Bool, mX2_fitsAll_b3 size xs ys presses winds v1 v2 v3 v4 v5 = some o → (fun z => z = out) o → xW p l e ({ frames := 2, cells := 0, slots := 0, locals := 46 }) s m [.ref q_this, .int p0, .int p1, .int p2, .int p3] below meth c (xQi s.heap (xb out)) (F0 m 3 ls []) := by
    intro v1 v2 v3 v4 v5 ls hl o h ho
    unfold mX2_fitsAll_b3 at h
    refine x_loop_walk (K := (fun z => z = out)) (motive := fun q : Int32 => ∀ ls : Array Slot, lv_has ls 11 [(0, .ref q_this), (1, .int (v1)), (2, .int (v2)), (3, .int (v3)), (4, .int (v4)), (5, .int (q))] → xW p l e ({ frames := 2, cells := 0, slots := 0, locals := 46 }) s m [.ref q_this, .int p0, .int p1, .int p2, .int p3] below meth c (xQi s.heap (xb out)) (F0 m 3 ls [])) ?_ h ho ls hl
    intro K1 e1 i1 q o h ho
    obtain ⟨v5, hz9⟩ : ∃ z, z = q := ⟨_, rfl⟩
    subst hz9
    intro ls hl
    have hl : lv_has ls 11 [(0, .ref q_this), (1, .int v1), (2, .int v2), (3, .int v3), (4, .int v4), (5, .int v5)] := hl
    replace h : mX2_fitsAll_s3 size xs ys presses winds v1 v2 v3 v4 v5 = some o := h
    unfold mX2_fitsAll_s3 at h
    have J97 : ∀ (v5 : Int32) (v6 : Int32) (v7 : Int32) (t0 : Int32) (ls : Array Slot), lv_has ls 11 [(0, .ref q_this), (1, .int v1), (2, .int v2), (3, .int v3), (4, .int v4), (5, .int v5), (6, .int v6), (7, .int v7)] → ∀ o : ((Bool) ⊕ (Int32)), mX2_fitsAll_b97 size xs ys presses winds v1 v2 v3 v4 v5 v6 v7 t0 = some o → K1 o → xW p l e ({ frames := 2, cells := 0, slots := 0, locals := 46 }) s m [.ref q_this, .int p0, .int p1, .int p2, .int p3] below meth c (xQi s.heap (xb out)) (F0 m 97 ls [.int t0]) := by
      intro v5 v6 v7 t0 ls hl o h ho
      unfold mX2_fitsAll_b97 at h
      refine lv_istore (lv' := [(10, .int t0), (0, .ref q_this), (1, .int v1), (2, .int v2), (3, .int v3), (4, .int v4), (5, .int v5), (6, .int v6), (7, .int v7)]) hx hb dX2_fitsAll_97 hl (by decide) rfl (fun ls hl => ?_)
      refine lv_iload hx hb dX2_fitsAll_99 (lv_at hl 0 rfl) ?_
      refine lv_if_eq (tgt := 128) hx hb dX2_fitsAll_101 (by decide) (fun hc101 => ?_) (fun hc101 => ?_)
      · replace h := (if_pos hc101).symm.trans h
        refine lv_iconst (v := 0) hx hb dX2_fitsAll_128 (by decide) ?_
        have hq : false = out := by cases h; exact (e1 _ ho)
        subst hq
        exact x_zret (b := false) hx hb hr hlk rfl rfl rfl dX2_fitsAll_129
      · replace h := (if_neg hc101).symm.trans h
        refine lv_iload hx hb dX2_fitsAll_104 (lv_at hl 7 rfl) ?_
        refine lv_iload hx hb dX2_fitsAll_106 (lv_at hl 8 rfl) ?_
        obtain ⟨r102, hr102, h⟩ := x_bind h
        refine x_calli (va_runS (As := [.int v6, .int v7]) (rest := []) ⟨hx, hb, hml, hown, hts⟩ (kX2_eighth l G s.heap hr102) (va_cwS 2 hts gX2_fitsAll_X2_eighth rfl rfl rfl (by decide +kernel) ⟨Nat.le_of_ble_eq_true rfl, Nat.le_of_ble_eq_true rfl⟩) (x_preS hE hS) rfl rfl hl.1 rfl (lv_room (Nat.le_of_ble_eq_true rfl)) dX2_fitsAll_108 ⟨Nat.le_of_ble_eq_true rfl, Nat.le_of_ble_eq_true rfl⟩) ?_
        refine lv_aload_n hx hb dX2_fitsAll_111 rfl (lv_at hl 1 rfl) ?_
        refine va_get (D := xD G) (ci := 2) (v := .ref q_winds) (C := RX2) (T := TX2) (N := 5) hx hb hts (fun w9 h9 => (List.mem_cons_of_mem _ (List.mem_append_right _ h9))) hown hE.1 hP 0 rfl rfl 4 (by decide) (hts (.fieldLink RX2 21 "FallingGlass$Chart" "winds" "[I") (List.mem_of_getElem? (i := 12) rfl)) (fun _ h9 => h9) rfl dX2_fitsAll_112 ?_
        refine lv_iload hx hb dX2_fitsAll_115 (lv_at hl 6 rfl) ?_
        obtain ⟨r103, hr103, h⟩ := x_bind h
        have hPr103 : va_P (xD G) vwCl [(q_winds, .inl (xy G 0, 4, .inl winds))] s.heap := hP.sub [4] rfl
        refine x_calli (va_runSN (As := [.ref q_winds, .int v5]) (rest := [.int r102]) ⟨hx, hb, hml, hown, hts⟩ (kX9_at l G s.heap hPr103 hr103) ⟨va_cnB 2 hts gX2_fitsAll_X9_at_n44 rfl rfl rfl (hE.nm 9 rfl) (hts (.initialized RX9) (List.mem_of_getElem? (i := 14) rfl)) (by decide +kernel) ⟨Nat.le_of_ble_eq_true rfl, Nat.le_of_ble_eq_true rfl⟩, (hts (.static yX9_at) (List.mem_of_getElem? (i := 13) rfl)), trivial⟩ (x_preS hE hS) rfl rfl hl.1 rfl (lv_room (Nat.le_of_ble_eq_true rfl)) dX2_fitsAll_117 ⟨Nat.le_of_ble_eq_true rfl, Nat.le_of_ble_eq_true rfl⟩) ?_
        refine lv_iconst (v := 2) hx hb dX2_fitsAll_120 (by decide) ?_
        refine lv_iadd hx hb dX2_fitsAll_121 ?_
        refine lv_bipush (v := 8) hx hb dX2_fitsAll_122 (by decide) ?_
        refine lv_irem hx hb dX2_fitsAll_124 (by decide) ?_
        refine lv_icmp_eq (tgt := 130) hx hb dX2_fitsAll_125 (by decide) (fun hc104 => ?_) (fun hc104 => ?_)
        · replace h := (if_pos hc104).symm.trans h
          refine lv_iinc (v := (v5 + 1)) (lv' := [(5, .int (v5 + 1)), (10, .int t0), (0, .ref q_this), (1, .int v1), (2, .int v2), (3, .int v3), (4, .int v4), (6, .int v6), (7, .int v7)]) hx hb dX2_fitsAll_130 hl (k := 6) rfl rfl (by decide) rfl (fun ls hl => ?_)
          refine lv_goto (tgt := 3) hx hb dX2_fitsAll_133 (by decide) ?_
          exact i1 ((v5 + 1)) (by cases h; exact ho) ls (lv_sub hl [2, 3, 4, 5, 6, 0] rfl)
        · replace h := (if_neg hc104).symm.trans h
          refine lv_iconst (v := 0) hx hb dX2_fitsAll_128 (by decide) ?_
          have hq : false = out := by cases h; exact (e1 _ ho)
          subst hq
          exact x_zret (b := false) hx hb hr hlk rfl rfl rfl dX2_fitsAll_129
    refine lv_iload hx hb dX2_fitsAll_3 (lv_at hl 5 rfl) ?_
    refine lv_aload_n hx hb dX2_fitsAll_5 rfl (lv_at hl 0 rfl) ?_
    refine va_get (D := xD G) (ci := 2) (v := .int size) (C := RX2) (T := TX2) (N := 5) hx hb hts (fun w9 h9 => (List.mem_cons_of_mem _ (List.mem_append_right _ h9))) hown hE.1 hP 0 rfl rfl 0 (by decide) (hts (.fieldLink RX2 24 "FallingGlass$Chart" "size" "I") (List.mem_of_getElem? (i := 1) rfl)) (fun _ h9 => h9) rfl dX2_fitsAll_6 ?_
    refine lv_icmp_ge (tgt := 136) hx hb dX2_fitsAll_9 (by decide) (fun hc205 => ?_) (fun hc205 => ?_)
    · replace h := (if_pos hc205).symm.trans h
      refine lv_iconst (v := 1) hx hb dX2_fitsAll_136 (by decide) ?_
      have hq : true = out := by cases h; exact (e1 _ ho)
      subst hq
      exact x_zret (b := true) hx hb hr hlk rfl rfl rfl dX2_fitsAll_137
    · replace h := (if_neg hc205).symm.trans h
      refine lv_iload_n hx hb dX2_fitsAll_12 rfl (lv_at hl 1 rfl) ?_
      refine lv_aload_n hx hb dX2_fitsAll_13 rfl (lv_at hl 0 rfl) ?_
      refine va_get (D := xD G) (ci := 2) (v := .ref q_xs) (C := RX2) (T := TX2) (N := 5) hx hb hts (fun w9 h9 => (List.mem_cons_of_mem _ (List.mem_append_right _ h9))) hown hE.1 hP 0 rfl rfl 1 (by decide) (hts (.fieldLink RX2 9 "FallingGlass$Chart" "xs" "[I") (List.mem_of_getElem? (i := 2) rfl)) (fun _ h9 => h9) rfl dX2_fitsAll_14 ?_
      refine lv_iload hx hb dX2_fitsAll_17 (lv_at hl 5 rfl) ?_
      obtain ⟨r206, hr206, h⟩ := x_bind h
      have hPr206 : va_P (xD G) vwCl [(q_xs, .inl (xy G 0, 4, .inl xs))] s.heap := hP.sub [1] rfl
      refine x_calli (va_runSN (As := [.ref q_xs, .int v5]) (rest := [.int v1]) ⟨hx, hb, hml, hown, hts⟩ (kX9_at l G s.heap hPr206 hr206) ⟨va_cnB 2 hts gX2_fitsAll_X9_at_n44 rfl rfl rfl (hE.nm 9 rfl) (hts (.initialized RX9) (List.mem_of_getElem? (i := 14) rfl)) (by decide +kernel) ⟨Nat.le_of_ble_eq_true rfl, Nat.le_of_ble_eq_true rfl⟩, (hts (.static yX9_at) (List.mem_of_getElem? (i := 13) rfl)), trivial⟩ (x_preS hE hS) rfl rfl hl.1 rfl (lv_room (Nat.le_of_ble_eq_true rfl)) dX2_fitsAll_19 ⟨Nat.le_of_ble_eq_true rfl, Nat.le_of_ble_eq_true rfl⟩) ?_
      refine lv_isub hx hb dX2_fitsAll_22 ?_
      refine lv_istore (lv' := [(6, .int (v1 - r206)), (0, .ref q_this), (1, .int v1), (2, .int v2), (3, .int v3), (4, .int v4), (5, .int v5)]) hx hb dX2_fitsAll_23 hl (by decide) rfl (fun ls hl => ?_)
      refine lv_iload_n hx hb dX2_fitsAll_25 rfl (lv_at hl 3 rfl) ?_
      refine lv_aload_n hx hb dX2_fitsAll_26 rfl (lv_at hl 1 rfl) ?_
      refine va_get (D := xD G) (ci := 2) (v := .ref q_ys) (C := RX2) (T := TX2) (N := 5) hx hb hts (fun w9 h9 => (List.mem_cons_of_mem _ (List.mem_append_right _ h9))) hown hE.1 hP 0 rfl rfl 2 (by decide) (hts (.fieldLink RX2 15 "FallingGlass$Chart" "ys" "[I") (List.mem_of_getElem? (i := 3) rfl)) (fun _ h9 => h9) rfl dX2_fitsAll_27 ?_
      refine lv_iload hx hb dX2_fitsAll_30 (lv_at hl 6 rfl) ?_
      obtain ⟨r207, hr207, h⟩ := x_bind h
      have hPr207 : va_P (xD G) vwCl [(q_ys, .inl (xy G 0, 4, .inl ys))] s.heap := hP.sub [2] rfl
      refine x_calli (va_runSN (As := [.ref q_ys, .int v5]) (rest := [.int v2]) ⟨hx, hb, hml, hown, hts⟩ (kX9_at l G s.heap hPr207 hr207) ⟨va_cnB 2 hts gX2_fitsAll_X9_at_n44 rfl rfl rfl (hE.nm 9 rfl) (hts (.initialized RX9) (List.mem_of_getElem? (i := 14) rfl)) (by decide +kernel) ⟨Nat.le_of_ble_eq_true rfl, Nat.le_of_ble_eq_true rfl⟩, (hts (.static yX9_at) (List.mem_of_getElem? (i := 13) rfl)), trivial⟩ (x_preS hE hS) rfl rfl hl.1 rfl (lv_room (Nat.le_of_ble_eq_true rfl)) dX2_fitsAll_32 ⟨Nat.le_of_ble_eq_true rfl, Nat.le_of_ble_eq_true rfl⟩) ?_
      refine lv_isub hx hb dX2_fitsAll_35 ?_
      refine lv_istore (lv' := [(7, .int (v2 - r207)), (6, .int (v1 - r206)), (0, .ref q_this), (1, .int v1), (2, .int v2), (3, .int v3), (4, .int v4), (5, .int v5)]) hx hb dX2_fitsAll_36 hl (by decide) rfl (fun ls hl => ?_)
      refine lv_iload hx hb dX2_fitsAll_38 (lv_at hl 1 rfl) ?_
      refine va_mabs hx hb (hml.trans hl.1.symm) hown (hts (.methodLink RX2 48 Lib.Math.abs.name) (List.mem_of_getElem? (i := 4) rfl)) (hts (.static Lib.Math.abs.name) (List.mem_of_getElem? (i := 5) rfl)) (hts (.initialized "java/lang/Math") (List.mem_of_getElem? (i := 6) rfl)) (hts (.code Lib.Math.abs.name Lib.Math.abs.code 1 (some .int)) (List.mem_of_getElem? (i := 7) rfl)) (Nat.le_of_ble_eq_true rfl) (Nat.le_of_ble_eq_true rfl) (Nat.le_of_ble_eq_true rfl) (Nat.le_of_ble_eq_true rfl) dX2_fitsAll_40 ?_
      refine lv_iload hx hb dX2_fitsAll_43 (lv_at hl 0 rfl) ?_
      refine va_mabs hx hb (hml.trans hl.1.symm) hown (hts (.methodLink RX2 48 Lib.Math.abs.name) (List.mem_of_getElem? (i := 4) rfl)) (hts (.static Lib.Math.abs.name) (List.mem_of_getElem? (i := 5) rfl)) (hts (.initialized "java/lang/Math") (List.mem_of_getElem? (i := 6) rfl)) (hts (.code Lib.Math.abs.name Lib.Math.abs.code 1 (some .int)) (List.mem_of_getElem? (i := 7) rfl)) (Nat.le_of_ble_eq_true rfl) (Nat.le_of_ble_eq_true rfl) (Nat.le_of_ble_eq_true rfl) (Nat.le_of_ble_eq_true rfl) dX2_fitsAll_45 ?_
      refine va_mmax hx hb (hml.trans hl.1.symm) hown (hts (.methodLink RX2 54 Lib.Math.max.name) (List.mem_of_getElem? (i := 8) rfl)) (hts (.static Lib.Math.max.name) (List.mem_of_getElem? (i := 9) rfl)) (hts (.initialized "java/lang/Math") (List.mem_of_getElem? (i := 6) rfl)) (hts (.code Lib.Math.max.name Lib.Math.max.code 2 (some .int)) (List.mem_of_getElem? (i := 10) rfl)) (Nat.le_of_ble_eq_true rfl) (Nat.le_of_ble_eq_true rfl) (Nat.le_of_ble_eq_true rfl) (Nat.le_of_ble_eq_true rfl) dX2_fitsAll_48 ?_
      refine lv_istore (lv' := [(8, .int (if (if 0 ≤ (v1 - r206) then (v1 - r206) else 0 - (v1 - r206)) < (if 0 ≤ (v2 - r207) then (v2 - r207) else 0 - (v2 - r207)) then (if 0 ≤ (v2 - r207) then (v2 - r207) else 0 - (v2 - r207)) else (if 0 ≤ (v1 - r206) then (v1 - r206) else 0 - (v1 - r206)))), (7, .int (v2 - r207)), (6, .int (v1 - r206)), (0, .ref q_this), (1, .int v1), (2, .int v2), (3, .int v3), (4, .int v4), (5, .int v5)]) hx hb dX2_fitsAll_51 hl (by decide) rfl (fun ls hl => ?_)
      refine lv_bipush (v := 90) hx hb dX2_fitsAll_53 (by decide) ?_
      refine lv_iconst (v := 0) hx hb dX2_fitsAll_55 (by decide) ?_
      refine lv_bipush (v := 10) hx hb dX2_fitsAll_56 (by decide) ?_
      refine lv_iload_n hx hb dX2_fitsAll_58 rfl (lv_at hl 6 rfl) ?_
      refine lv_imul hx hb dX2_fitsAll_59 ?_
      refine lv_bipush (v := 8) hx hb dX2_fitsAll_60 (by decide) ?_
      refine lv_iload hx hb dX2_fitsAll_62 (lv_at hl 0 rfl) ?_
      refine lv_imul hx hb dX2_fitsAll_64 ?_
      refine lv_isub hx hb dX2_fitsAll_65 ?_
      refine va_mmax hx hb (hml.trans hl.1.symm) hown (hts (.methodLink RX2 54 Lib.Math.max.name) (List.mem_of_getElem? (i := 8) rfl)) (hts (.static Lib.Math.max.name) (List.mem_of_getElem? (i := 9) rfl)) (hts (.initialized "java/lang/Math") (List.mem_of_getElem? (i := 6) rfl)) (hts (.code Lib.Math.max.name Lib.Math.max.code 2 (some .int)) (List.mem_of_getElem? (i := 10) rfl)) (Nat.le_of_ble_eq_true rfl) (Nat.le_of_ble_eq_true rfl) (Nat.le_of_ble_eq_true rfl) (Nat.le_of_ble_eq_true rfl) dX2_fitsAll_66 ?_
      refine lv_isub hx hb dX2_fitsAll_69 ?_
      refine lv_istore (lv' := [(9, .int (90 - (if 0 < ((10 * v3) - (8 * (if (if 0 ≤ (v1 - r206) then (v1 - r206) else 0 - (v1 - r206)) < (if 0 ≤ (v2 - r207) then (v2 - r207) else 0 - (v2 - r207)) then (if 0 ≤ (v2 - r207) then (v2 - r207) else 0 - (v2 - r207)) else (if 0 ≤ (v1 - r206) then (v1 - r206) else 0 - (v1 - r206))))) then ((10 * v3) - (8 * (if (if 0 ≤ (v1 - r206) then (v1 - r206) else 0 - (v1 - r206)) < (if 0 ≤ (v2 - r207) then (v2 - r207) else 0 - (v2 - r207)) then (if 0 ≤ (v2 - r207) then (v2 - r207) else 0 - (v2 - r207)) else (if 0 ≤ (v1 - r206) then (v1 - r206) else 0 - (v1 - r206))))) else 0))), (8, .int (if (if 0 ≤ (v1 - r206) then (v1 - r206) else 0 - (v1 - r206)) < (if 0 ≤ (v2 - r207) then (v2 - r207) else 0 - (v2 - r207)) then (if 0 ≤ (v2 - r207) then (v2 - r207) else 0 - (v2 - r207)) else (if 0 ≤ (v1 - r206) then (v1 - r206) else 0 - (v1 - r206)))), (7, .int (v2 - r207)), (6, .int (v1 - r206)), (0, .ref q_this), (1, .int v1), (2, .int v2), (3, .int v3), (4, .int v4), (5, .int v5)]) hx hb dX2_fitsAll_70 hl (by decide) rfl (fun ls hl => ?_)
      refine lv_iload hx hb dX2_fitsAll_72 (lv_at hl 0 rfl) ?_
      refine lv_aload_n hx hb dX2_fitsAll_74 rfl (lv_at hl 4 rfl) ?_
      refine va_get (D := xD G) (ci := 2) (v := .ref q_presses) (C := RX2) (T := TX2) (N := 5) hx hb hts (fun w9 h9 => (List.mem_cons_of_mem _ (List.mem_append_right _ h9))) hown hE.1 hP 0 rfl rfl 3 (by decide) (hts (.fieldLink RX2 18 "FallingGlass$Chart" "presses" "[I") (List.mem_of_getElem? (i := 11) rfl)) (fun _ h9 => h9) rfl dX2_fitsAll_75 ?_
      refine lv_iload hx hb dX2_fitsAll_78 (lv_at hl 9 rfl) ?_
      obtain ⟨r208, hr208, h⟩ := x_bind h
      have hPr208 : va_P (xD G) vwCl [(q_presses, .inl (xy G 0, 4, .inl presses))] s.heap := hP.sub [3] rfl
      refine x_calli (va_runSN (As := [.ref q_presses, .int v5]) (rest := [.int (90 - (if 0 < ((10 * v3) - (8 * (if (if 0 ≤ (v1 - r206) then (v1 - r206) else 0 - (v1 - r206)) < (if 0 ≤ (v2 - r207) then (v2 - r207) else 0 - (v2 - r207)) then (if 0 ≤ (v2 - r207) then (v2 - r207) else 0 - (v2 - r207)) else (if 0 ≤ (v1 - r206) then (v1 - r206) else 0 - (v1 - r206))))) then ((10 * v3) - (8 * (if (if 0 ≤ (v1 - r206) then (v1 - r206) else 0 - (v1 - r206)) < (if 0 ≤ (v2 - r207) then (v2 - r207) else 0 - (v2 - r207)) then (if 0 ≤ (v2 - r207) then (v2 - r207) else 0 - (v2 - r207)) else (if 0 ≤ (v1 - r206) then (v1 - r206) else 0 - (v1 - r206))))) else 0))]) ⟨hx, hb, hml, hown, hts⟩ (kX9_at l G s.heap hPr208 hr208) ⟨va_cnB 2 hts gX2_fitsAll_X9_at_n44 rfl rfl rfl (hE.nm 9 rfl) (hts (.initialized RX9) (List.mem_of_getElem? (i := 14) rfl)) (by decide +kernel) ⟨Nat.le_of_ble_eq_true rfl, Nat.le_of_ble_eq_true rfl⟩, (hts (.static yX9_at) (List.mem_of_getElem? (i := 13) rfl)), trivial⟩ (x_preS hE hS) rfl rfl hl.1 rfl (lv_room (Nat.le_of_ble_eq_true rfl)) dX2_fitsAll_80 ⟨Nat.le_of_ble_eq_true rfl, Nat.le_of_ble_eq_true rfl⟩) ?_
      refine lv_isub hx hb dX2_fitsAll_83 ?_
      refine va_mabs hx hb (hml.trans hl.1.symm) hown (hts (.methodLink RX2 48 Lib.Math.abs.name) (List.mem_of_getElem? (i := 4) rfl)) (hts (.static Lib.Math.abs.name) (List.mem_of_getElem? (i := 5) rfl)) (hts (.initialized "java/lang/Math") (List.mem_of_getElem? (i := 6) rfl)) (hts (.code Lib.Math.abs.name Lib.Math.abs.code 1 (some .int)) (List.mem_of_getElem? (i := 7) rfl)) (Nat.le_of_ble_eq_true rfl) (Nat.le_of_ble_eq_true rfl) (Nat.le_of_ble_eq_true rfl) (Nat.le_of_ble_eq_true rfl) dX2_fitsAll_84 ?_
      refine lv_iload hx hb dX2_fitsAll_87 (lv_at hl 8 rfl) ?_
      refine lv_icmp_gt (tgt := 96) hx hb dX2_fitsAll_89 (by decide) (fun hc209 => ?_) (fun hc209 => ?_)
      · replace h := (if_pos hc209).symm.trans h
        refine lv_iconst (v := 0) hx hb dX2_fitsAll_96 (by decide) ?_
        exact J97 v5 ((v1 - r206)) ((v2 - r207)) 0 ls (lv_sub hl [4, 5, 6, 7, 8, 9, 3, 2] rfl) _ h ho
      · replace h := (if_neg hc209).symm.trans h
        refine lv_iconst (v := 1) hx hb dX2_fitsAll_92 (by decide) ?_
        refine lv_goto (tgt := 97) hx hb dX2_fitsAll_93 (by decide) ?_
        exact J97 v5 ((v1 - r206)) ((v2 - r207)) 1 ls (lv_sub hl [4, 5, 6, 7, 8, 9, 3, 2] rfl) _ h ho
  unfold mX2_fitsAll at h
  refine lv_iconst (v := 0) hx hb dX2_fitsAll_0 (by decide) ?_
  refine lv_istore (lv' := [(5, .int 0), (0, .ref q_this), (1, .int p0), (2, .int p1), (3, .int p2), (4, .int p3)]) hx hb dX2_fitsAll_1 hl (by decide) rfl (fun ls hl => ?_)
  exact J3 p0 p1 p2 p3 0 ls (lv_sub hl [1, 2, 3, 4, 5, 0] rfl) _ h ho
noncomputable def mX2_waysAt_b28 (size : Int32) (xs : Nat → Int32) (ys : Nat → Int32) (presses : Nat → Int32) (winds : Nat → Int32) (v1 : Int32) (v2 : Int32) (v3 : Int32) (v4 : Int32) (v5 : Int32) : Option (((Int32) ⊕ (Int32 × Int32))) :=
  some (.inr (v4, (v5 + 1)))
noncomputable def mX2_waysAt_s6 (size : Int32) (xs : Nat → Int32) (ys : Nat → Int32) (presses : Nat → Int32) (winds : Nat → Int32) (v1 : Int32) (v2 : Int32) (v3 : Int32) (v4 : Int32) (v5 : Int32) : Option (((Int32) ⊕ (Int32 × Int32))) :=
  if 9 < v5 then (some (.inl v4)) else ((mX2_fitsAll size xs ys presses winds v1 v2 v5 v3).bind (fun r202 => if (xb r202) = 0 then (mX2_waysAt_b28 size xs ys presses winds v1 v2 v3 v4 v5) else (mX2_waysAt_b28 size xs ys presses winds v1 v2 v3 ((v4 + 1)) v5)))
noncomputable def mX2_waysAt_b6 (size : Int32) (xs : Nat → Int32) (ys : Nat → Int32) (presses : Nat → Int32) (winds : Nat → Int32) (v1 : Int32) (v2 : Int32) (v3 : Int32) (v4 : Int32) (v5 : Int32) : Option (Int32) :=
  x_loop (fun q : Int32 × Int32 => mX2_waysAt_s6 size xs ys presses winds v1 v2 v3 (q.1) (q.2)) (v4, v5)
noncomputable def mX2_waysAt (size : Int32) (xs : Nat → Int32) (ys : Nat → Int32) (presses : Nat → Int32) (winds : Nat → Int32) (p0 : Int32) (p1 : Int32) (p2 : Int32) : Option (Int32) :=
  mX2_waysAt_b6 size xs ys presses winds p0 p1 p2 0 1
set_option maxHeartbeats 4000000 in
set_option maxRecDepth 100000 in
theorem kX2_waysAt (l : Launch) (G : xG) (H0 : Heap) {q_this q_xs q_ys q_presses q_winds : Nat} {size : Int32} {xs : Nat → Int32} {ys : Nat → Int32} {presses : Nat → Int32} {winds : Nat → Int32} {p0 : Int32} {p1 : Int32} {p2 : Int32} (hP : va_P (xD G) vwCl [(q_this, .inr (2, [.int size, .ref q_xs, .ref q_ys, .ref q_presses, .ref q_winds])), (q_xs, .inl (xy G 0, 4, .inl xs)), (q_ys, .inl (xy G 0, 4, .inl ys)), (q_presses, .inl (xy G 0, 4, .inl presses)), (q_winds, .inl (xy G 0, 4, .inl winds))] H0) {out : Int32} (h : mX2_waysAt size xs ys presses winds p0 p1 p2 = some out) : Met l yX2_waysAt wsX2_waysAt ({ frames := 3, cells := 0, slots := 0, locals := 76 }) (xPc G H0 [.ref q_this, .int p0, .int p1, .int p2]) (xQi H0 (out)) 0 0 xN := by
  refine x_met (by decide) rfl (Nat.le_of_ble_eq_true rfl) ?_
  intro p e s m below meth c ls hH hA hl
  obtain ⟨hx, hb, hr, hlk, hml, hown, hts, hE⟩ := hA
  subst hH
  have hown : s.vm.findClass RX2 = some m.cls := hown
  have hl : lv_has ls 6 [(0, .ref q_this), (1, .int p0), (2, .int p1), (3, .int p2)] := hl
  have hS : va_S xN s.heap s.heap [] := va_S.rf
  have ho : out = out := rfl
  have J6 : ∀ (v1 : Int32) (v2 : Int32) (v3 : Int32) (v4 : Int32) (v5 : Int32) (ls : Array Slot), lv_has ls 6 [(0, .ref q_this), (1, .int v1), (2, .int v2), (3, .int v3), (4, .int v4), (5, .int v5)] → ∀ o : Int32, mX2_waysAt_b6 size xs ys presses winds v1 v2 v3 v4 v5 = some o → (fun z => z = out) o → xW p l e ({ frames := 3, cells := 0, slots := 0, locals := 76 }) s m [.ref q_this, .int p0, .int p1, .int p2] below meth c (xQi s.heap (out)) (F0 m 6 ls []) := by
    intro v1 v2 v3 v4 v5 ls hl o h ho
    unfold mX2_waysAt_b6 at h
    refine x_loop_walk (K := (fun z => z = out)) (motive := fun q : Int32 × Int32 => ∀ ls : Array Slot, lv_has ls 6 [(0, .ref q_this), (1, .int (v1)), (2, .int (v2)), (3, .int (v3)), (4, .int (q.1)), (5, .int (q.2))] → xW p l e ({ frames := 3, cells := 0, slots := 0, locals := 76 }) s m [.ref q_this, .int p0, .int p1, .int p2] below meth c (xQi s.heap (out)) (F0 m 6 ls [])) ?_ h ho ls hl
    intro K1 e1 i1 q o h ho
    obtain ⟨v4, v5⟩ := q
    intro ls hl
    have hl : lv_has ls 6 [(0, .ref q_this), (1, .int v1), (2, .int v2), (3, .int v3), (4, .int v4), (5, .int v5)] := hl
    replace h : mX2_waysAt_s6 size xs ys presses winds v1 v2 v3 v4 v5 = some o := h
    unfold mX2_waysAt_s6 at h
    have J28 : ∀ (v4 : Int32) (v5 : Int32) (ls : Array Slot), lv_has ls 6 [(0, .ref q_this), (1, .int v1), (2, .int v2), (3, .int v3), (4, .int v4), (5, .int v5)] → ∀ o : ((Int32) ⊕ (Int32 × Int32)), mX2_waysAt_b28 size xs ys presses winds v1 v2 v3 v4 v5 = some o → K1 o → xW p l e ({ frames := 3, cells := 0, slots := 0, locals := 76 }) s m [.ref q_this, .int p0, .int p1, .int p2] below meth c (xQi s.heap (out)) (F0 m 28 ls []) := by
      intro v4 v5 ls hl o h ho
      unfold mX2_waysAt_b28 at h
      refine lv_iinc (v := (v5 + 1)) (lv' := [(5, .int (v5 + 1)), (0, .ref q_this), (1, .int v1), (2, .int v2), (3, .int v3), (4, .int v4)]) hx hb dX2_waysAt_28 hl (k := 5) rfl rfl (by decide) rfl (fun ls hl => ?_)
      refine lv_goto (tgt := 6) hx hb dX2_waysAt_31 (by decide) ?_
      exact i1 (v4, (v5 + 1)) (by cases h; exact ho) ls (lv_sub hl [1, 2, 3, 4, 5, 0] rfl)
    refine lv_iload hx hb dX2_waysAt_6 (lv_at hl 5 rfl) ?_
    refine lv_bipush (v := 9) hx hb dX2_waysAt_8 (by decide) ?_
    refine lv_icmp_gt (tgt := 34) hx hb dX2_waysAt_10 (by decide) (fun hc201 => ?_) (fun hc201 => ?_)
    · replace h := (if_pos hc201).symm.trans h
      refine lv_iload hx hb dX2_waysAt_34 (lv_at hl 4 rfl) ?_
      have hq : v4 = out := by cases h; exact (e1 _ ho)
      subst hq
      exact x_iret hx hb hr hlk rfl rfl dX2_waysAt_36
    · replace h := (if_neg hc201).symm.trans h
      refine lv_aload_n hx hb dX2_waysAt_13 rfl (lv_at hl 0 rfl) ?_
      refine lv_iload_n hx hb dX2_waysAt_14 rfl (lv_at hl 1 rfl) ?_
      refine lv_iload_n hx hb dX2_waysAt_15 rfl (lv_at hl 2 rfl) ?_
      refine lv_iload hx hb dX2_waysAt_16 (lv_at hl 5 rfl) ?_
      refine lv_iload_n hx hb dX2_waysAt_18 rfl (lv_at hl 3 rfl) ?_
      obtain ⟨r202, hr202, h⟩ := x_bind h
      have hPr202 : va_P (xD G) vwCl [(q_this, .inr (2, [.int size, .ref q_xs, .ref q_ys, .ref q_presses, .ref q_winds])), (q_xs, .inl (xy G 0, 4, .inl xs)), (q_ys, .inl (xy G 0, 4, .inl ys)), (q_presses, .inl (xy G 0, 4, .inl presses)), (q_winds, .inl (xy G 0, 4, .inl winds))] s.heap := hP.sub [0, 1, 2, 3, 4] rfl
      refine x_calli (va_runV (As := [.int v1, .int v2, .int v5, .int v3]) (rest := []) ⟨hx, hb, hml, hown, hts⟩ (kX2_fitsAll l G s.heap hPr202 hr202) (cwV 4 hts gX2_waysAt_X2_fitsAll rfl rfl rfl (by decide +kernel) ⟨Nat.le_of_ble_eq_true rfl, Nat.le_of_ble_eq_true rfl⟩) (x_preV hE hS hP (ci := 2) (q0 := 0) rfl rfl) rfl rfl hl.1 rfl (lv_room (Nat.le_of_ble_eq_true rfl)) dX2_waysAt_19 ⟨Nat.le_of_ble_eq_true rfl, Nat.le_of_ble_eq_true rfl⟩) ?_
      refine lv_if_eq (tgt := 28) hx hb dX2_waysAt_22 (by decide) (fun hc203 => ?_) (fun hc203 => ?_)
      · replace h := (if_pos hc203).symm.trans h
        exact J28 v4 v5 ls (lv_sub hl [0, 1, 2, 3, 4, 5] rfl) _ h ho
      · replace h := (if_neg hc203).symm.trans h
        refine lv_iinc (v := (v4 + 1)) (lv' := [(4, .int (v4 + 1)), (0, .ref q_this), (1, .int v1), (2, .int v2), (3, .int v3), (5, .int v5)]) hx hb dX2_waysAt_25 hl (k := 4) rfl rfl (by decide) rfl (fun ls hl => ?_)
        exact J28 ((v4 + 1)) v5 ls (lv_sub hl [1, 2, 3, 4, 0, 5] rfl) _ h ho
  unfold mX2_waysAt at h
  refine lv_iconst (v := 0) hx hb dX2_waysAt_0 (by decide) ?_
  refine lv_istore (lv' := [(4, .int 0), (0, .ref q_this), (1, .int p0), (2, .int p1), (3, .int p2)]) hx hb dX2_waysAt_1 hl (by decide) rfl (fun ls hl => ?_)
  refine lv_iconst (v := 1) hx hb dX2_waysAt_3 (by decide) ?_
  refine lv_istore (lv' := [(5, .int 1), (4, .int 0), (0, .ref q_this), (1, .int p0), (2, .int p1), (3, .int p2)]) hx hb dX2_waysAt_4 hl (by decide) rfl (fun ls hl => ?_)
  exact J6 p0 p1 p2 0 1 ls (lv_sub hl [2, 3, 4, 5, 1, 0] rfl) _ h ho
noncomputable def mX2_allWays_s13 (size : Int32) (xs : Nat → Int32) (ys : Nat → Int32) (presses : Nat → Int32) (winds : Nat → Int32) (v1 : Int32) (v3 : Int32) (v2 : Int32) (v4 : Int32) : Option (((((Int32) ⊕ (Int32 × Int32))) ⊕ (Int32 × Int32))) :=
  if 9 ≤ v4 then (some (.inl (.inr (v2, (v3 + 1))))) else ((mX2_waysAt size xs ys presses winds v3 v4 v1).bind (fun r102 => some (.inr ((v2 + r102), (v4 + 1)))))
noncomputable def mX2_allWays_b13 (size : Int32) (xs : Nat → Int32) (ys : Nat → Int32) (presses : Nat → Int32) (winds : Nat → Int32) (v1 : Int32) (v2 : Int32) (v3 : Int32) (v4 : Int32) : Option (((Int32) ⊕ (Int32 × Int32))) :=
  x_loop (fun q : Int32 × Int32 => mX2_allWays_s13 size xs ys presses winds v1 v3 (q.1) (q.2)) (v2, v4)
noncomputable def mX2_allWays_s4 (size : Int32) (xs : Nat → Int32) (ys : Nat → Int32) (presses : Nat → Int32) (winds : Nat → Int32) (v1 : Int32) (v2 : Int32) (v3 : Int32) : Option (((Int32) ⊕ (Int32 × Int32))) :=
  if 9 ≤ v3 then (some (.inl v2)) else (mX2_allWays_b13 size xs ys presses winds v1 v2 v3 0)
noncomputable def mX2_allWays_b4 (size : Int32) (xs : Nat → Int32) (ys : Nat → Int32) (presses : Nat → Int32) (winds : Nat → Int32) (v1 : Int32) (v2 : Int32) (v3 : Int32) : Option (Int32) :=
  x_loop (fun q : Int32 × Int32 => mX2_allWays_s4 size xs ys presses winds v1 (q.1) (q.2)) (v2, v3)
noncomputable def mX2_allWays (size : Int32) (xs : Nat → Int32) (ys : Nat → Int32) (presses : Nat → Int32) (winds : Nat → Int32) (p0 : Int32) : Option (Int32) :=
  mX2_allWays_b4 size xs ys presses winds p0 0 0
set_option maxHeartbeats 4000000 in
set_option maxRecDepth 100000 in
theorem kX2_allWays (l : Launch) (G : xG) (H0 : Heap) {q_this q_xs q_ys q_presses q_winds : Nat} {size : Int32} {xs : Nat → Int32} {ys : Nat → Int32} {presses : Nat → Int32} {winds : Nat → Int32} {p0 : Int32} (hP : va_P (xD G) vwCl [(q_this, .inr (2, [.int size, .ref q_xs, .ref q_ys, .ref q_presses, .ref q_winds])), (q_xs, .inl (xy G 0, 4, .inl xs)), (q_ys, .inl (xy G 0, 4, .inl ys)), (q_presses, .inl (xy G 0, 4, .inl presses)), (q_winds, .inl (xy G 0, 4, .inl winds))] H0) {out : Int32} (h : mX2_allWays size xs ys presses winds p0 = some out) : Met l yX2_allWays wsX2_allWays ({ frames := 4, cells := 0, slots := 0, locals := 101 }) (xPc G H0 [.ref q_this, .int p0]) (xQi H0 (out)) 0 0 xN := by
  refine x_met (by decide) rfl (Nat.le_of_ble_eq_true rfl) ?_
  intro p e s m below meth c ls hH hA hl
  obtain ⟨hx, hb, hr, hlk, hml, hown, hts, hE⟩ := hA
  subst hH
  have hown : s.vm.findClass RX2 = some m.cls := hown
  have hl : lv_has ls 5 [(0, .ref q_this), (1, .int p0)] := hl
  have hS : va_S xN s.heap s.heap [] := va_S.rf
  have ho : out = out := rfl
  have J4 : ∀ (v1 : Int32) (v2 : Int32) (v3 : Int32) (ls : Array Slot), lv_has ls 5 [(0, .ref q_this), (1, .int v1), (2, .int v2), (3, .int v3)] → ∀ o : Int32, mX2_allWays_b4 size xs ys presses winds v1 v2 v3 = some o → (fun z => z = out) o → xW p l e ({ frames := 4, cells := 0, slots := 0, locals := 101 }) s m [.ref q_this, .int p0] below meth c (xQi s.heap (out)) (F0 m 4 ls []) := by
    intro v1 v2 v3 ls hl o h ho
    unfold mX2_allWays_b4 at h
    refine x_loop_walk (K := (fun z => z = out)) (motive := fun q : Int32 × Int32 => ∀ ls : Array Slot, lv_has ls 5 [(0, .ref q_this), (1, .int (v1)), (2, .int (q.1)), (3, .int (q.2))] → xW p l e ({ frames := 4, cells := 0, slots := 0, locals := 101 }) s m [.ref q_this, .int p0] below meth c (xQi s.heap (out)) (F0 m 4 ls [])) ?_ h ho ls hl
    intro K1 e1 i1 q o h ho
    obtain ⟨v2, v3⟩ := q
    intro ls hl
    have hl : lv_has ls 5 [(0, .ref q_this), (1, .int v1), (2, .int v2), (3, .int v3)] := hl
    replace h : mX2_allWays_s4 size xs ys presses winds v1 v2 v3 = some o := h
    unfold mX2_allWays_s4 at h
    have J13 : ∀ (v2 : Int32) (v3 : Int32) (v4 : Int32) (ls : Array Slot), lv_has ls 5 [(0, .ref q_this), (1, .int v1), (2, .int v2), (3, .int v3), (4, .int v4)] → ∀ o : ((Int32) ⊕ (Int32 × Int32)), mX2_allWays_b13 size xs ys presses winds v1 v2 v3 v4 = some o → K1 o → xW p l e ({ frames := 4, cells := 0, slots := 0, locals := 101 }) s m [.ref q_this, .int p0] below meth c (xQi s.heap (out)) (F0 m 13 ls []) := by
      intro v2 v3 v4 ls hl o h ho
      unfold mX2_allWays_b13 at h
      refine x_loop_walk (K := K1) (motive := fun q : Int32 × Int32 => ∀ ls : Array Slot, lv_has ls 5 [(0, .ref q_this), (1, .int (v1)), (2, .int (q.1)), (3, .int (v3)), (4, .int (q.2))] → xW p l e ({ frames := 4, cells := 0, slots := 0, locals := 101 }) s m [.ref q_this, .int p0] below meth c (xQi s.heap (out)) (F0 m 13 ls [])) ?_ h ho ls hl
      intro K2 e2 i2 q o h ho
      obtain ⟨v2, v4⟩ := q
      intro ls hl
      have hl : lv_has ls 5 [(0, .ref q_this), (1, .int v1), (2, .int v2), (3, .int v3), (4, .int v4)] := hl
      replace h : mX2_allWays_s13 size xs ys presses winds v1 v3 v2 v4 = some o := h
      unfold mX2_allWays_s13 at h
      refine lv_iload hx hb dX2_allWays_13 (lv_at hl 4 rfl) ?_
      refine lv_bipush (v := 9) hx hb dX2_allWays_15 (by decide) ?_
      refine lv_icmp_ge (tgt := 37) hx hb dX2_allWays_17 (by decide) (fun hc101 => ?_) (fun hc101 => ?_)
      · replace h := (if_pos hc101).symm.trans h
        refine lv_iinc (v := (v3 + 1)) (lv' := [(3, .int (v3 + 1)), (0, .ref q_this), (1, .int v1), (2, .int v2), (4, .int v4)]) hx hb dX2_allWays_37 hl (k := 3) rfl rfl (by decide) rfl (fun ls hl => ?_)
        refine lv_goto (tgt := 4) hx hb dX2_allWays_40 (by decide) ?_
        exact i1 (v2, (v3 + 1)) (by cases h; exact (e2 _ ho)) ls (lv_sub hl [1, 2, 3, 0] rfl)
      · replace h := (if_neg hc101).symm.trans h
        refine lv_iload_n hx hb dX2_allWays_20 rfl (lv_at hl 2 rfl) ?_
        refine lv_aload_n hx hb dX2_allWays_21 rfl (lv_at hl 0 rfl) ?_
        refine lv_iload_n hx hb dX2_allWays_22 rfl (lv_at hl 3 rfl) ?_
        refine lv_iload hx hb dX2_allWays_23 (lv_at hl 4 rfl) ?_
        refine lv_iload_n hx hb dX2_allWays_25 rfl (lv_at hl 1 rfl) ?_
        obtain ⟨r102, hr102, h⟩ := x_bind h
        have hPr102 : va_P (xD G) vwCl [(q_this, .inr (2, [.int size, .ref q_xs, .ref q_ys, .ref q_presses, .ref q_winds])), (q_xs, .inl (xy G 0, 4, .inl xs)), (q_ys, .inl (xy G 0, 4, .inl ys)), (q_presses, .inl (xy G 0, 4, .inl presses)), (q_winds, .inl (xy G 0, 4, .inl winds))] s.heap := hP.sub [0, 1, 2, 3, 4] rfl
        refine x_calli (va_runV (As := [.int v3, .int v4, .int v1]) (rest := [.int v2]) ⟨hx, hb, hml, hown, hts⟩ (kX2_waysAt l G s.heap hPr102 hr102) (cwV 3 hts gX2_allWays_X2_waysAt rfl rfl rfl (by decide +kernel) ⟨Nat.le_of_ble_eq_true rfl, Nat.le_of_ble_eq_true rfl⟩) (x_preV hE hS hP (ci := 2) (q0 := 0) rfl rfl) rfl rfl hl.1 rfl (lv_room (Nat.le_of_ble_eq_true rfl)) dX2_allWays_26 ⟨Nat.le_of_ble_eq_true rfl, Nat.le_of_ble_eq_true rfl⟩) ?_
        refine lv_iadd hx hb dX2_allWays_29 ?_
        refine lv_istore_n (lv' := [(2, .int (v2 + r102)), (0, .ref q_this), (1, .int v1), (3, .int v3), (4, .int v4)]) hx hb dX2_allWays_30 rfl hl (by decide) rfl (fun ls hl => ?_)
        refine lv_iinc (v := (v4 + 1)) (lv' := [(4, .int (v4 + 1)), (2, .int (v2 + r102)), (0, .ref q_this), (1, .int v1), (3, .int v3)]) hx hb dX2_allWays_31 hl (k := 4) rfl rfl (by decide) rfl (fun ls hl => ?_)
        refine lv_goto (tgt := 13) hx hb dX2_allWays_34 (by decide) ?_
        exact i2 ((v2 + r102), (v4 + 1)) (by cases h; exact ho) ls (lv_sub hl [2, 3, 1, 4, 0] rfl)
    refine lv_iload_n hx hb dX2_allWays_4 rfl (lv_at hl 3 rfl) ?_
    refine lv_bipush (v := 9) hx hb dX2_allWays_5 (by decide) ?_
    refine lv_icmp_ge (tgt := 43) hx hb dX2_allWays_7 (by decide) (fun hc203 => ?_) (fun hc203 => ?_)
    · replace h := (if_pos hc203).symm.trans h
      refine lv_iload_n hx hb dX2_allWays_43 rfl (lv_at hl 2 rfl) ?_
      have hq : v2 = out := by cases h; exact (e1 _ ho)
      subst hq
      exact x_iret hx hb hr hlk rfl rfl dX2_allWays_44
    · replace h := (if_neg hc203).symm.trans h
      refine lv_iconst (v := 0) hx hb dX2_allWays_10 (by decide) ?_
      refine lv_istore (lv' := [(4, .int 0), (0, .ref q_this), (1, .int v1), (2, .int v2), (3, .int v3)]) hx hb dX2_allWays_11 hl (by decide) rfl (fun ls hl => ?_)
      exact J13 v2 v3 0 ls (lv_sub hl [1, 2, 3, 4, 0] rfl) _ h ho
  unfold mX2_allWays at h
  refine lv_iconst (v := 0) hx hb dX2_allWays_0 (by decide) ?_
  refine lv_istore_n (lv' := [(2, .int 0), (0, .ref q_this), (1, .int p0)]) hx hb dX2_allWays_1 rfl hl (by decide) rfl (fun ls hl => ?_)
  refine lv_iconst (v := 0) hx hb dX2_allWays_2 (by decide) ?_
  refine lv_istore_n (lv' := [(3, .int 0), (2, .int 0), (0, .ref q_this), (1, .int p0)]) hx hb dX2_allWays_3 rfl hl (by decide) rfl (fun ls hl => ?_)
  exact J4 p0 0 0 ls (lv_sub hl [2, 3, 1, 0] rfl) _ h ho
