/-! laid by program out of the bytecode: for each method its function (m..) and its contract (k..) -/
noncomputable def mX9_hay  (p0 : Int32) (p1 : Int32) (p2 : Int32) (p3 : Int32) (p4 : Int32) (p5 : Int32) (p6 : Int32) : Option (Int32) :=
  (mX3_isAsTold p0 p1 p3 p4 p5 p6).bind (fun r502 => if (xb r502) = 0 then (some ((-2))) else ((mX9_within p2 0 p1).bind (fun r504 => if (xb r504) = 0 then (some ((-2))) else ((mX3_valueFrom p0 p1 p3 p4 p5 p6 p2).bind (fun r506 => some r506)))))
set_option maxHeartbeats 4000000 in
set_option maxRecDepth 100000 in
theorem kX9_hay (l : Launch) (G : xG) (H0 : Heap) {q_this : Nat} {p0 : Int32} {p1 : Int32} {p2 : Int32} {p3 : Int32} {p4 : Int32} {p5 : Int32} {p6 : Int32} (w0 : va_W) (hw0 : w0 = []) (hP : va_P (xD G) vwCl w0 H0) (hD : va_D (fun _ => True) w0) {out : Int32} (h : mX9_hay p0 p1 p2 p3 p4 p5 p6 = some out) : Met l yX9_hay wsX9_hay ({ frames := 4, cells := 1, slots := 6, locals := 89 }) (xPcw G (va_A w0 H0.size) H0 [.ref q_this, .int p0, .int p1, .int p2, .int p3, .int p4, .int p5, .int p6]) (xRi G (va_A w0 H0.size) [] (out)) 1 6 (va_A w0 H0.size) := by
  refine x_metw (y := yX9_hay) (ws := wsX9_hay) (rm := { frames := 4, cells := 1, slots := 6, locals := 89 }) (G := G) (H0 := H0) (w0 := w0) (av := [.ref q_this, .int p0, .int p1, .int p2, .int p3, .int p4, .int p5, .int p6]) (mc := 1) (ms := 6) (Qc := (fun A => (xRi G A [] (out)))) (by decide) rfl (Nat.le_of_ble_eq_true rfl) hP hD ?_
  clear hP hD
  intro p e s m below meth c ls A H locs hA hAt hnm hl hP hD hS
  subst hw0
  obtain ⟨hx, hb, hr, hlk, hml, hown, hts, hE⟩ := hAt
  have hown : s.vm.findClass RX9 = some m.cls := hown
  have hl : lv_has ls 9 [(0, .ref q_this), (1, .int p0), (2, .int p1), (3, .int p2), (4, .int p3), (5, .int p4), (6, .int p5), (7, .int p6)] := hl
  have ho : out = out := rfl
  unfold mX9_hay at h
  refine va_new (D := xD G) (ci := 3) (fs := [.int 0, .int 0, .int 0, .int 0, .int 0, .int 0]) (C := RX3) (T := TX3) (N := 6) hx hb hts (fun w9 h9 => (List.mem_cons_of_mem _ (List.mem_append_right _ h9))) tyX3 tyX3_ok hown (hts (.classLink RX9 217 RX3) (List.mem_of_getElem? (i := 1) rfl)) (hts (.instantiable RX3 6) (List.mem_of_getElem? (i := 2) rfl)) (hts (.initialized RX3) (List.mem_of_getElem? (i := 3) rfl)) hE.1 hP hD hS hA rfl (fun j hj => match j, hj with | 0, _ => rfl | 1, _ => rfl | 2, _ => rfl | 3, _ => rfl | 4, _ => rfl | 5, _ => rfl | n + 6, h => absurd h (by omega)) (Nat.le_of_ble_eq_true rfl) (Nat.le_of_ble_eq_true rfl) dX9_hay_0 (fun q_new1 H hP hD hS => ?_)
  have hP : va_P (xD G) vwCl [(q_new1, .inr (3, [.int 0, .int 0, .int 0, .int 0, .int 0, .int 0]))] H := hP
  have hD : va_D A [(q_new1, .inr (3, [.int 0, .int 0, .int 0, .int 0, .int 0, .int 0]))] := hD
  refine lv_dup hx hb dX9_hay_3 rfl ?_
  refine lv_iload_n hx hb dX9_hay_4 rfl (lv_at hl 1 rfl) ?_
  refine lv_iload_n hx hb dX9_hay_5 rfl (lv_at hl 2 rfl) ?_
  refine lv_iload hx hb dX9_hay_6 (lv_at hl 4 rfl) ?_
  refine lv_iload hx hb dX9_hay_8 (lv_at hl 5 rfl) ?_
  refine lv_iload hx hb dX9_hay_10 (lv_at hl 6 rfl) ?_
  refine lv_iload hx hb dX9_hay_12 (lv_at hl 7 rfl) ?_
  have hPr501 : va_P (xD G) vwCl [(q_new1, .inr (3, [.int 0, .int 0, .int 0, .int 0, .int 0, .int 0]))] H := hP.sub [0] rfl
  have hDr501 : va_D A [(q_new1, .inr (3, [.int 0, .int 0, .int 0, .int 0, .int 0, .int 0]))] := hD.sub [0] (by decide) rfl
  have hFr501 := va_free (wc := [(q_new1, .inr (3, [.int 0, .int 0, .int 0, .int 0, .int 0, .int 0]))]) hD hS hA [0] rfl
  refine x_callwc (wc := [(q_new1, .inr (3, [.int 0, .int 0, .int 0, .int 0, .int 0, .int 0]))]) (c0 := (fun adr501 => [(q_new1, .inr (3, [.int p0, .int p1, .int p3, .int p4, .int p5, .int p6]))])) (wn := (fun _ => [])) (va_runI (As := [.int p0, .int p1, .int p3, .int p4, .int p5, .int p6]) (rest := [.ref q_new1]) ⟨hx, hb, hml, hown, hts⟩ (kX3_init l G H [(q_new1, .inr (3, [.int 0, .int 0, .int 0, .int 0, .int 0, .int 0]))] rfl hPr501 (hDr501.weaken (fun _ _ _ _ => trivial))) (cwI 6 hts gX9_hay_X3_init rfl rfl rfl (hts (.initialized RX3) (List.mem_of_getElem? (i := 3) rfl)) (hts (.methodLink RX9 219 yX3_init) (List.mem_of_getElem? (i := 4) rfl)) (hts (.instanceMethod yX3_init) (List.mem_of_getElem? (i := 5) rfl)) rfl (by decide +kernel) ⟨Nat.le_of_ble_eq_true rfl, Nat.le_of_ble_eq_true rfl⟩) (x_preSw hE hS hFr501) rfl rfl hl.1 rfl (lv_room (Nat.le_of_ble_eq_true rfl)) dX9_hay_14 ⟨Nat.le_of_ble_eq_true rfl, Nat.le_of_ble_eq_true rfl⟩) hP hD hS hFr501 [0] [some 0] (n := 1) (by decide) rfl (fun _ => rfl) (fun adr501 H locs hP hD hS => ?_)
  have hP : va_P (xD G) vwCl [(q_new1, .inr (3, [.int p0, .int p1, .int p3, .int p4, .int p5, .int p6]))] H := hP
  have hD : va_D A [(q_new1, .inr (3, [.int p0, .int p1, .int p3, .int p4, .int p5, .int p6]))] := hD
  refine lv_astore (lv' := [(8, .ref q_new1), (0, .ref q_this), (1, .int p0), (2, .int p1), (3, .int p2), (4, .int p3), (5, .int p4), (6, .int p5), (7, .int p6)]) hx hb dX9_hay_17 hl (by decide) rfl (fun ls hl => ?_)
  refine lv_aload hx hb dX9_hay_19 (lv_at hl 0 rfl) ?_
  obtain ⟨r502, hr502, h⟩ := x_bind h
  have hPr502 : va_P (xD G) vwCl [(q_new1, .inr (3, [.int p0, .int p1, .int p3, .int p4, .int p5, .int p6]))] H := hP.sub [0] rfl
  refine x_calli (va_runV (As := []) (rest := []) ⟨hx, hb, hml, hown, hts⟩ (kX3_isAsTold l G H hPr502 hr502) (cwV 0 hts gX9_hay_X3_isAsTold rfl rfl rfl (by decide +kernel) ⟨Nat.le_of_ble_eq_true rfl, Nat.le_of_ble_eq_true rfl⟩) (x_preV hE hS hP (ci := 3) (q0 := 0) rfl rfl) rfl rfl hl.1 rfl (lv_room (Nat.le_of_ble_eq_true rfl)) dX9_hay_21 ⟨Nat.le_of_ble_eq_true rfl, Nat.le_of_ble_eq_true rfl⟩) ?_
  refine lv_if_eq (tgt := 45) hx hb dX9_hay_24 (by decide) (fun hc503 => ?_) (fun hc503 => ?_)
  · replace h := (if_pos hc503).symm.trans h
    refine lv_bipush (v := (-2)) hx hb dX9_hay_45 (by decide) ?_
    have hq : (-2) = out := by cases h; exact ho
    subst hq
    have hP : va_P (xD G) vwCl [] H := hP.sub [] rfl
    have hD : va_D A [] := hD.sub [] (by decide) rfl
    exact x_iretw hx hb hr hlk hP hD hS rfl dX9_hay_47
  · replace h := (if_neg hc503).symm.trans h
    refine lv_iload_n hx hb dX9_hay_27 rfl (lv_at hl 4 rfl) ?_
    refine lv_iconst (v := 0) hx hb dX9_hay_28 (by decide) ?_
    refine lv_iload_n hx hb dX9_hay_29 rfl (lv_at hl 3 rfl) ?_
    obtain ⟨r504, hr504, h⟩ := x_bind h
    refine x_calli (va_runS (As := [.int p2, .int 0, .int p1]) (rest := []) ⟨hx, hb, hml, hown, hts⟩ (kX9_within l G H hr504) (va_cwS 3 hts gX9_hay_X9_within rfl rfl rfl (by decide +kernel) ⟨Nat.le_of_ble_eq_true rfl, Nat.le_of_ble_eq_true rfl⟩) (x_preS hE hS) rfl rfl hl.1 rfl (lv_room (Nat.le_of_ble_eq_true rfl)) dX9_hay_30 ⟨Nat.le_of_ble_eq_true rfl, Nat.le_of_ble_eq_true rfl⟩) ?_
    refine lv_if_eq (tgt := 45) hx hb dX9_hay_33 (by decide) (fun hc505 => ?_) (fun hc505 => ?_)
    · replace h := (if_pos hc505).symm.trans h
      refine lv_bipush (v := (-2)) hx hb dX9_hay_45 (by decide) ?_
      have hq : (-2) = out := by cases h; exact ho
      subst hq
      have hP : va_P (xD G) vwCl [] H := hP.sub [] rfl
      have hD : va_D A [] := hD.sub [] (by decide) rfl
      exact x_iretw hx hb hr hlk hP hD hS rfl dX9_hay_47
    · replace h := (if_neg hc505).symm.trans h
      refine lv_aload hx hb dX9_hay_36 (lv_at hl 0 rfl) ?_
      refine lv_iload_n hx hb dX9_hay_38 rfl (lv_at hl 4 rfl) ?_
      obtain ⟨r506, hr506, h⟩ := x_bind h
      have hPr506 : va_P (xD G) vwCl [(q_new1, .inr (3, [.int p0, .int p1, .int p3, .int p4, .int p5, .int p6]))] H := hP.sub [0] rfl
      refine x_calli (va_runV (As := [.int p2]) (rest := []) ⟨hx, hb, hml, hown, hts⟩ (kX3_valueFrom l G H hPr506 hr506) (cwV 1 hts gX9_hay_X3_valueFrom rfl rfl rfl (by decide +kernel) ⟨Nat.le_of_ble_eq_true rfl, Nat.le_of_ble_eq_true rfl⟩) (x_preV hE hS hP (ci := 3) (q0 := 0) rfl rfl) rfl rfl hl.1 rfl (lv_room (Nat.le_of_ble_eq_true rfl)) dX9_hay_39 ⟨Nat.le_of_ble_eq_true rfl, Nat.le_of_ble_eq_true rfl⟩) ?_
      refine lv_goto (tgt := 47) hx hb dX9_hay_42 (by decide) ?_
      have hq : r506 = out := by cases h; exact ho
      subst hq
      have hP : va_P (xD G) vwCl [] H := hP.sub [] rfl
      have hD : va_D A [] := hD.sub [] (by decide) rfl
      exact x_iretw hx hb hr hlk hP hD hS rfl dX9_hay_47
noncomputable def mX9_does  (p0 : Int32) (p1 : Int32) (p2 : Int32) (p3 : Int32) (p4 : Int32) (p5 : Int32) (p6 : Int32) : Option (Int32) :=
  (mX3_isAsTold p0 p1 p3 p4 p5 p6).bind (fun r502 => if (xb r502) = 0 then (some ((-2))) else ((mX9_within p2 0 p1).bind (fun r504 => if (xb r504) = 0 then (some ((-2))) else ((mX3_choiceOn p0 p1 p3 p4 p5 p6 p2).bind (fun r506 => some r506)))))
set_option maxHeartbeats 4000000 in
set_option maxRecDepth 100000 in
theorem kX9_does (l : Launch) (G : xG) (H0 : Heap) {q_this : Nat} {p0 : Int32} {p1 : Int32} {p2 : Int32} {p3 : Int32} {p4 : Int32} {p5 : Int32} {p6 : Int32} (w0 : va_W) (hw0 : w0 = []) (hP : va_P (xD G) vwCl w0 H0) (hD : va_D (fun _ => True) w0) {out : Int32} (h : mX9_does p0 p1 p2 p3 p4 p5 p6 = some out) : Met l yX9_does wsX9_does ({ frames := 5, cells := 1, slots := 6, locals := 111 }) (xPcw G (va_A w0 H0.size) H0 [.ref q_this, .int p0, .int p1, .int p2, .int p3, .int p4, .int p5, .int p6]) (xRi G (va_A w0 H0.size) [] (out)) 1 6 (va_A w0 H0.size) := by
  refine x_metw (y := yX9_does) (ws := wsX9_does) (rm := { frames := 5, cells := 1, slots := 6, locals := 111 }) (G := G) (H0 := H0) (w0 := w0) (av := [.ref q_this, .int p0, .int p1, .int p2, .int p3, .int p4, .int p5, .int p6]) (mc := 1) (ms := 6) (Qc := (fun A => (xRi G A [] (out)))) (by decide) rfl (Nat.le_of_ble_eq_true rfl) hP hD ?_
  clear hP hD
  intro p e s m below meth c ls A H locs hA hAt hnm hl hP hD hS
  subst hw0
  obtain ⟨hx, hb, hr, hlk, hml, hown, hts, hE⟩ := hAt
  have hown : s.vm.findClass RX9 = some m.cls := hown
  have hl : lv_has ls 9 [(0, .ref q_this), (1, .int p0), (2, .int p1), (3, .int p2), (4, .int p3), (5, .int p4), (6, .int p5), (7, .int p6)] := hl
  have ho : out = out := rfl
  unfold mX9_does at h
  refine va_new (D := xD G) (ci := 3) (fs := [.int 0, .int 0, .int 0, .int 0, .int 0, .int 0]) (C := RX3) (T := TX3) (N := 6) hx hb hts (fun w9 h9 => (List.mem_cons_of_mem _ (List.mem_append_right _ h9))) tyX3 tyX3_ok hown (hts (.classLink RX9 217 RX3) (List.mem_of_getElem? (i := 1) rfl)) (hts (.instantiable RX3 6) (List.mem_of_getElem? (i := 2) rfl)) (hts (.initialized RX3) (List.mem_of_getElem? (i := 3) rfl)) hE.1 hP hD hS hA rfl (fun j hj => match j, hj with | 0, _ => rfl | 1, _ => rfl | 2, _ => rfl | 3, _ => rfl | 4, _ => rfl | 5, _ => rfl | n + 6, h => absurd h (by omega)) (Nat.le_of_ble_eq_true rfl) (Nat.le_of_ble_eq_true rfl) dX9_does_0 (fun q_new1 H hP hD hS => ?_)
  have hP : va_P (xD G) vwCl [(q_new1, .inr (3, [.int 0, .int 0, .int 0, .int 0, .int 0, .int 0]))] H := hP
  have hD : va_D A [(q_new1, .inr (3, [.int 0, .int 0, .int 0, .int 0, .int 0, .int 0]))] := hD
  refine lv_dup hx hb dX9_does_3 rfl ?_
  refine lv_iload_n hx hb dX9_does_4 rfl (lv_at hl 1 rfl) ?_
  refine lv_iload_n hx hb dX9_does_5 rfl (lv_at hl 2 rfl) ?_
  refine lv_iload hx hb dX9_does_6 (lv_at hl 4 rfl) ?_
  refine lv_iload hx hb dX9_does_8 (lv_at hl 5 rfl) ?_
  refine lv_iload hx hb dX9_does_10 (lv_at hl 6 rfl) ?_
  refine lv_iload hx hb dX9_does_12 (lv_at hl 7 rfl) ?_
  have hPr501 : va_P (xD G) vwCl [(q_new1, .inr (3, [.int 0, .int 0, .int 0, .int 0, .int 0, .int 0]))] H := hP.sub [0] rfl
  have hDr501 : va_D A [(q_new1, .inr (3, [.int 0, .int 0, .int 0, .int 0, .int 0, .int 0]))] := hD.sub [0] (by decide) rfl
  have hFr501 := va_free (wc := [(q_new1, .inr (3, [.int 0, .int 0, .int 0, .int 0, .int 0, .int 0]))]) hD hS hA [0] rfl
  refine x_callwc (wc := [(q_new1, .inr (3, [.int 0, .int 0, .int 0, .int 0, .int 0, .int 0]))]) (c0 := (fun adr501 => [(q_new1, .inr (3, [.int p0, .int p1, .int p3, .int p4, .int p5, .int p6]))])) (wn := (fun _ => [])) (va_runI (As := [.int p0, .int p1, .int p3, .int p4, .int p5, .int p6]) (rest := [.ref q_new1]) ⟨hx, hb, hml, hown, hts⟩ (kX3_init l G H [(q_new1, .inr (3, [.int 0, .int 0, .int 0, .int 0, .int 0, .int 0]))] rfl hPr501 (hDr501.weaken (fun _ _ _ _ => trivial))) (cwI 6 hts gX9_does_X3_init rfl rfl rfl (hts (.initialized RX3) (List.mem_of_getElem? (i := 3) rfl)) (hts (.methodLink RX9 219 yX3_init) (List.mem_of_getElem? (i := 4) rfl)) (hts (.instanceMethod yX3_init) (List.mem_of_getElem? (i := 5) rfl)) rfl (by decide +kernel) ⟨Nat.le_of_ble_eq_true rfl, Nat.le_of_ble_eq_true rfl⟩) (x_preSw hE hS hFr501) rfl rfl hl.1 rfl (lv_room (Nat.le_of_ble_eq_true rfl)) dX9_does_14 ⟨Nat.le_of_ble_eq_true rfl, Nat.le_of_ble_eq_true rfl⟩) hP hD hS hFr501 [0] [some 0] (n := 1) (by decide) rfl (fun _ => rfl) (fun adr501 H locs hP hD hS => ?_)
  have hP : va_P (xD G) vwCl [(q_new1, .inr (3, [.int p0, .int p1, .int p3, .int p4, .int p5, .int p6]))] H := hP
  have hD : va_D A [(q_new1, .inr (3, [.int p0, .int p1, .int p3, .int p4, .int p5, .int p6]))] := hD
  refine lv_astore (lv' := [(8, .ref q_new1), (0, .ref q_this), (1, .int p0), (2, .int p1), (3, .int p2), (4, .int p3), (5, .int p4), (6, .int p5), (7, .int p6)]) hx hb dX9_does_17 hl (by decide) rfl (fun ls hl => ?_)
  refine lv_aload hx hb dX9_does_19 (lv_at hl 0 rfl) ?_
  obtain ⟨r502, hr502, h⟩ := x_bind h
  have hPr502 : va_P (xD G) vwCl [(q_new1, .inr (3, [.int p0, .int p1, .int p3, .int p4, .int p5, .int p6]))] H := hP.sub [0] rfl
  refine x_calli (va_runV (As := []) (rest := []) ⟨hx, hb, hml, hown, hts⟩ (kX3_isAsTold l G H hPr502 hr502) (cwV 0 hts gX9_does_X3_isAsTold rfl rfl rfl (by decide +kernel) ⟨Nat.le_of_ble_eq_true rfl, Nat.le_of_ble_eq_true rfl⟩) (x_preV hE hS hP (ci := 3) (q0 := 0) rfl rfl) rfl rfl hl.1 rfl (lv_room (Nat.le_of_ble_eq_true rfl)) dX9_does_21 ⟨Nat.le_of_ble_eq_true rfl, Nat.le_of_ble_eq_true rfl⟩) ?_
  refine lv_if_eq (tgt := 45) hx hb dX9_does_24 (by decide) (fun hc503 => ?_) (fun hc503 => ?_)
  · replace h := (if_pos hc503).symm.trans h
    refine lv_bipush (v := (-2)) hx hb dX9_does_45 (by decide) ?_
    have hq : (-2) = out := by cases h; exact ho
    subst hq
    have hP : va_P (xD G) vwCl [] H := hP.sub [] rfl
    have hD : va_D A [] := hD.sub [] (by decide) rfl
    exact x_iretw hx hb hr hlk hP hD hS rfl dX9_does_47
  · replace h := (if_neg hc503).symm.trans h
    refine lv_iload_n hx hb dX9_does_27 rfl (lv_at hl 4 rfl) ?_
    refine lv_iconst (v := 0) hx hb dX9_does_28 (by decide) ?_
    refine lv_iload_n hx hb dX9_does_29 rfl (lv_at hl 3 rfl) ?_
    obtain ⟨r504, hr504, h⟩ := x_bind h
    refine x_calli (va_runS (As := [.int p2, .int 0, .int p1]) (rest := []) ⟨hx, hb, hml, hown, hts⟩ (kX9_within l G H hr504) (va_cwS 3 hts gX9_does_X9_within rfl rfl rfl (by decide +kernel) ⟨Nat.le_of_ble_eq_true rfl, Nat.le_of_ble_eq_true rfl⟩) (x_preS hE hS) rfl rfl hl.1 rfl (lv_room (Nat.le_of_ble_eq_true rfl)) dX9_does_30 ⟨Nat.le_of_ble_eq_true rfl, Nat.le_of_ble_eq_true rfl⟩) ?_
    refine lv_if_eq (tgt := 45) hx hb dX9_does_33 (by decide) (fun hc505 => ?_) (fun hc505 => ?_)
    · replace h := (if_pos hc505).symm.trans h
      refine lv_bipush (v := (-2)) hx hb dX9_does_45 (by decide) ?_
      have hq : (-2) = out := by cases h; exact ho
      subst hq
      have hP : va_P (xD G) vwCl [] H := hP.sub [] rfl
      have hD : va_D A [] := hD.sub [] (by decide) rfl
      exact x_iretw hx hb hr hlk hP hD hS rfl dX9_does_47
    · replace h := (if_neg hc505).symm.trans h
      refine lv_aload hx hb dX9_does_36 (lv_at hl 0 rfl) ?_
      refine lv_iload_n hx hb dX9_does_38 rfl (lv_at hl 4 rfl) ?_
      obtain ⟨r506, hr506, h⟩ := x_bind h
      have hPr506 : va_P (xD G) vwCl [(q_new1, .inr (3, [.int p0, .int p1, .int p3, .int p4, .int p5, .int p6]))] H := hP.sub [0] rfl
      refine x_calli (va_runV (As := [.int p2]) (rest := []) ⟨hx, hb, hml, hown, hts⟩ (kX3_choiceOn l G H hPr506 hr506) (cwV 1 hts gX9_does_X3_choiceOn rfl rfl rfl (by decide +kernel) ⟨Nat.le_of_ble_eq_true rfl, Nat.le_of_ble_eq_true rfl⟩) (x_preV hE hS hP (ci := 3) (q0 := 0) rfl rfl) rfl rfl hl.1 rfl (lv_room (Nat.le_of_ble_eq_true rfl)) dX9_does_39 ⟨Nat.le_of_ble_eq_true rfl, Nat.le_of_ble_eq_true rfl⟩) ?_
      refine lv_goto (tgt := 47) hx hb dX9_does_42 (by decide) ?_
      have hq : r506 = out := by cases h; exact ho
      subst hq
      have hP : va_P (xD G) vwCl [] H := hP.sub [] rfl
      have hD : va_D A [] := hD.sub [] (by decide) rfl
      exact x_iretw hx hb hr hlk hP hD hS rfl dX9_does_47
noncomputable def mX9_believed (now_keys : Int32) (now_weight : Int32) (now_book_days : Int32) (now_book_years : Nat → Int32) (now_book_months : Nat → Int32) (now_book_presses : Nat → Int32) (now_book_winds : Nat → Int32) (now_book_skies : Nat → Int32) (now_book_rains : Nat → Int32) (now_book_wires : Nat → Int32) (now_book_kinds : Nat → Int32) (now_sayings_k0_size : Int32) (now_sayings_k0_signs : Nat → Int32) (now_sayings_k1_size : Int32) (now_sayings_k1_signs : Nat → Int32) (now_sayings_k2_size : Int32) (now_sayings_k2_signs : Nat → Int32) (now_sayings_k3_size : Int32) (now_sayings_k3_signs : Nat → Int32) (p0 : Int32) (p1 : Int32) (p2 : Int32) : Option (Int32) :=
  (mX9_isTeller p0).bind (fun r501 => if (xb r501) = 0 then (some ((-1000000001))) else ((mX9_within p1 0 999).bind (fun r503 => if (xb r503) = 0 then (some ((-1000000002))) else ((mX9_within p2 0 999).bind (fun r505 => if (xb r505) = 0 then (some ((-1000000002))) else ((mX7_wash now_keys now_weight now_book_days now_book_years now_book_months now_book_presses now_book_winds now_book_skies now_book_rains now_book_wires now_book_kinds now_sayings_k0_size now_sayings_k0_signs now_sayings_k1_size now_sayings_k1_signs now_sayings_k2_size now_sayings_k2_signs now_sayings_k3_size now_sayings_k3_signs p0 p1 p2).bind (fun r507 => some r507)))))))
set_option maxHeartbeats 4000000 in
set_option maxRecDepth 100000 in
theorem kX9_believed (l : Launch) (G : xG) (H0 : Heap) {q_this q_now q_pad q_images q_single q_weights q_trial q_now_brass q_now_book q_now_chart q_now_sayings q_now_book_years q_now_book_months q_now_book_presses q_now_book_winds q_now_book_skies q_now_book_rains q_now_book_wires q_now_book_kinds q_now_sayings_k0 q_now_sayings_k1 q_now_sayings_k2 q_now_sayings_k3 q_now_sayings_k0_signs q_now_sayings_k1_signs q_now_sayings_k2_signs q_now_sayings_k3_signs : Nat} {now_keys : Int32} {now_weight : Int32} {now_care : Int32} {now_book_days : Int32} {now_book_years : Nat → Int32} {now_book_months : Nat → Int32} {now_book_presses : Nat → Int32} {now_book_winds : Nat → Int32} {now_book_skies : Nat → Int32} {now_book_rains : Nat → Int32} {now_book_wires : Nat → Int32} {now_book_kinds : Nat → Int32} {now_sayings_k0_size : Int32} {now_sayings_k0_signs : Nat → Int32} {now_sayings_k1_size : Int32} {now_sayings_k1_signs : Nat → Int32} {now_sayings_k2_size : Int32} {now_sayings_k2_signs : Nat → Int32} {now_sayings_k3_size : Int32} {now_sayings_k3_signs : Nat → Int32} {p0 : Int32} {p1 : Int32} {p2 : Int32} (hP : va_P (xD G) vwCl [(q_this, .inr (9, [.ref q_now, .ref q_pad, .ref q_images, .ref q_single, .ref q_weights, .ref q_trial])), (q_now, .inr (7, [.ref q_now_brass, .ref q_now_book, .ref q_now_chart, .ref q_now_sayings, .int now_keys, .int now_weight, .int now_care])), (q_now_book, .inr (0, [.int now_book_days, .ref q_now_book_years, .ref q_now_book_months, .ref q_now_book_presses, .ref q_now_book_winds, .ref q_now_book_skies, .ref q_now_book_rains, .ref q_now_book_wires, .ref q_now_book_kinds])), (q_now_book_years, .inl (xy G 0, 60, .inl now_book_years)), (q_now_book_months, .inl (xy G 0, 60, .inl now_book_months)), (q_now_book_presses, .inl (xy G 0, 60, .inl now_book_presses)), (q_now_book_winds, .inl (xy G 0, 60, .inl now_book_winds)), (q_now_book_skies, .inl (xy G 0, 60, .inl now_book_skies)), (q_now_book_rains, .inl (xy G 0, 60, .inl now_book_rains)), (q_now_book_wires, .inl (xy G 0, 60, .inl now_book_wires)), (q_now_book_kinds, .inl (xy G 0, 60, .inl now_book_kinds)), (q_now_sayings, .inl (xy G 3, 4, .inr (.inr (.inr (.inr (x4 q_now_sayings_k0 q_now_sayings_k1 q_now_sayings_k2 q_now_sayings_k3)))))), (q_now_sayings_k0, .inr (8, [.int now_sayings_k0_size, .ref q_now_sayings_k0_signs])), (q_now_sayings_k0_signs, .inl (xy G 0, 50, .inl now_sayings_k0_signs)), (q_now_sayings_k1, .inr (8, [.int now_sayings_k1_size, .ref q_now_sayings_k1_signs])), (q_now_sayings_k1_signs, .inl (xy G 0, 50, .inl now_sayings_k1_signs)), (q_now_sayings_k2, .inr (8, [.int now_sayings_k2_size, .ref q_now_sayings_k2_signs])), (q_now_sayings_k2_signs, .inl (xy G 0, 50, .inl now_sayings_k2_signs)), (q_now_sayings_k3, .inr (8, [.int now_sayings_k3_size, .ref q_now_sayings_k3_signs])), (q_now_sayings_k3_signs, .inl (xy G 0, 50, .inl now_sayings_k3_signs))] H0) {out : Int32} (h : mX9_believed now_keys now_weight now_book_days now_book_years now_book_months now_book_presses now_book_winds now_book_skies now_book_rains now_book_wires now_book_kinds now_sayings_k0_size now_sayings_k0_signs now_sayings_k1_size now_sayings_k1_signs now_sayings_k2_size now_sayings_k2_signs now_sayings_k3_size now_sayings_k3_signs p0 p1 p2 = some out) : Met l yX9_believed wsX9_believed ({ frames := 8, cells := 0, slots := 0, locals := 187 }) (xPc G H0 [.ref q_this, .int p0, .int p1, .int p2]) (xQi H0 (out)) 0 0 xN := by
  refine x_met (by decide) rfl (Nat.le_of_ble_eq_true rfl) ?_
  intro p e s m below meth c ls hH hA hl
  obtain ⟨hx, hb, hr, hlk, hml, hown, hts, hE⟩ := hA
  subst hH
  have hown : s.vm.findClass RX9 = some m.cls := hown
  have hl : lv_has ls 4 [(0, .ref q_this), (1, .int p0), (2, .int p1), (3, .int p2)] := hl
  have hS : va_S xN s.heap s.heap [] := va_S.rf
  have ho : out = out := rfl
  unfold mX9_believed at h
  refine lv_iload_n hx hb dX9_believed_0 rfl (lv_at hl 1 rfl) ?_
  obtain ⟨r501, hr501, h⟩ := x_bind h
  refine x_calli (va_runS (As := [.int p0]) (rest := []) ⟨hx, hb, hml, hown, hts⟩ (kX9_isTeller l G s.heap hr501) (va_cwS 1 hts gX9_believed_X9_isTeller rfl rfl rfl (by decide +kernel) ⟨Nat.le_of_ble_eq_true rfl, Nat.le_of_ble_eq_true rfl⟩) (x_preS hE hS) rfl rfl hl.1 rfl (lv_room (Nat.le_of_ble_eq_true rfl)) dX9_believed_1 ⟨Nat.le_of_ble_eq_true rfl, Nat.le_of_ble_eq_true rfl⟩) ?_
  refine lv_if_ne (tgt := 10) hx hb dX9_believed_4 (by decide) (fun hc502 => ?_) (fun hc502 => ?_)
  · replace h := (if_neg hc502).symm.trans h
    refine lv_iload_n hx hb dX9_believed_10 rfl (lv_at hl 2 rfl) ?_
    refine lv_iconst (v := 0) hx hb dX9_believed_11 (by decide) ?_
    refine lv_sipush (v := 999) hx hb dX9_believed_12 (by decide) ?_
    obtain ⟨r503, hr503, h⟩ := x_bind h
    refine x_calli (va_runS (As := [.int p1, .int 0, .int 999]) (rest := []) ⟨hx, hb, hml, hown, hts⟩ (kX9_within l G s.heap hr503) (va_cwS 3 hts gX9_believed_X9_within rfl rfl rfl (by decide +kernel) ⟨Nat.le_of_ble_eq_true rfl, Nat.le_of_ble_eq_true rfl⟩) (x_preS hE hS) rfl rfl hl.1 rfl (lv_room (Nat.le_of_ble_eq_true rfl)) dX9_believed_15 ⟨Nat.le_of_ble_eq_true rfl, Nat.le_of_ble_eq_true rfl⟩) ?_
    refine lv_if_eq (tgt := 32) hx hb dX9_believed_18 (by decide) (fun hc504 => ?_) (fun hc504 => ?_)
    · replace h := (if_pos hc504).symm.trans h
      refine lv_ldc (v := (-1000000002)) hx hb hown (hts (.constant RX9 233 (-1000000002)) (List.mem_of_getElem? (i := 2) rfl)) dX9_believed_32 ?_
      have hq : (-1000000002) = out := by cases h; exact ho
      subst hq
      exact x_iret hx hb hr hlk rfl rfl dX9_believed_34
    · replace h := (if_neg hc504).symm.trans h
      refine lv_iload_n hx hb dX9_believed_21 rfl (lv_at hl 3 rfl) ?_
      refine lv_iconst (v := 0) hx hb dX9_believed_22 (by decide) ?_
      refine lv_sipush (v := 999) hx hb dX9_believed_23 (by decide) ?_
      obtain ⟨r505, hr505, h⟩ := x_bind h
      refine x_calli (va_runS (As := [.int p2, .int 0, .int 999]) (rest := []) ⟨hx, hb, hml, hown, hts⟩ (kX9_within l G s.heap hr505) (va_cwS 3 hts gX9_believed_X9_within rfl rfl rfl (by decide +kernel) ⟨Nat.le_of_ble_eq_true rfl, Nat.le_of_ble_eq_true rfl⟩) (x_preS hE hS) rfl rfl hl.1 rfl (lv_room (Nat.le_of_ble_eq_true rfl)) dX9_believed_26 ⟨Nat.le_of_ble_eq_true rfl, Nat.le_of_ble_eq_true rfl⟩) ?_
      refine lv_if_ne (tgt := 35) hx hb dX9_believed_29 (by decide) (fun hc506 => ?_) (fun hc506 => ?_)
      · replace h := (if_neg hc506).symm.trans h
        refine lv_aload_n hx hb dX9_believed_35 rfl (lv_at hl 0 rfl) ?_
        refine va_get (D := xD G) (ci := 9) (v := .ref q_now) (C := RX9) (T := TX9) (N := 6) hx hb hts (fun w9 h9 => (List.mem_cons_of_mem _ (List.mem_append_left _ (List.mem_append_left _ (List.mem_append_left _ (List.mem_append_right _ h9)))))) hown hE.1 hP 0 rfl rfl 0 (by decide) (hts (.fieldLink RX9 10 "FallingGlass" "now" "LFallingGlass$State;") (List.mem_of_getElem? (i := 3) rfl)) (fun _ h9 => h9) rfl dX9_believed_36 ?_
        refine lv_iload_n hx hb dX9_believed_39 rfl (lv_at hl 1 rfl) ?_
        refine lv_iload_n hx hb dX9_believed_40 rfl (lv_at hl 2 rfl) ?_
        refine lv_iload_n hx hb dX9_believed_41 rfl (lv_at hl 3 rfl) ?_
        obtain ⟨r507, hr507, h⟩ := x_bind h
        have hPr507 : va_P (xD G) vwCl [(q_now, .inr (7, [.ref q_now_brass, .ref q_now_book, .ref q_now_chart, .ref q_now_sayings, .int now_keys, .int now_weight, .int now_care])), (q_now_book, .inr (0, [.int now_book_days, .ref q_now_book_years, .ref q_now_book_months, .ref q_now_book_presses, .ref q_now_book_winds, .ref q_now_book_skies, .ref q_now_book_rains, .ref q_now_book_wires, .ref q_now_book_kinds])), (q_now_book_years, .inl (xy G 0, 60, .inl now_book_years)), (q_now_book_months, .inl (xy G 0, 60, .inl now_book_months)), (q_now_book_presses, .inl (xy G 0, 60, .inl now_book_presses)), (q_now_book_winds, .inl (xy G 0, 60, .inl now_book_winds)), (q_now_book_skies, .inl (xy G 0, 60, .inl now_book_skies)), (q_now_book_rains, .inl (xy G 0, 60, .inl now_book_rains)), (q_now_book_wires, .inl (xy G 0, 60, .inl now_book_wires)), (q_now_book_kinds, .inl (xy G 0, 60, .inl now_book_kinds)), (q_now_sayings, .inl (xy G 3, 4, .inr (.inr (.inr (.inr (x4 q_now_sayings_k0 q_now_sayings_k1 q_now_sayings_k2 q_now_sayings_k3)))))), (q_now_sayings_k0, .inr (8, [.int now_sayings_k0_size, .ref q_now_sayings_k0_signs])), (q_now_sayings_k0_signs, .inl (xy G 0, 50, .inl now_sayings_k0_signs)), (q_now_sayings_k1, .inr (8, [.int now_sayings_k1_size, .ref q_now_sayings_k1_signs])), (q_now_sayings_k1_signs, .inl (xy G 0, 50, .inl now_sayings_k1_signs)), (q_now_sayings_k2, .inr (8, [.int now_sayings_k2_size, .ref q_now_sayings_k2_signs])), (q_now_sayings_k2_signs, .inl (xy G 0, 50, .inl now_sayings_k2_signs)), (q_now_sayings_k3, .inr (8, [.int now_sayings_k3_size, .ref q_now_sayings_k3_signs])), (q_now_sayings_k3_signs, .inl (xy G 0, 50, .inl now_sayings_k3_signs))] s.heap := hP.sub [1, 2, 3, 4, 5, 6, 7, 8, 9, 10, 11, 12, 13, 14, 15, 16, 17, 18, 19] rfl
        refine x_calli (va_runV (As := [.int p0, .int p1, .int p2]) (rest := []) ⟨hx, hb, hml, hown, hts⟩ (kX7_wash l G s.heap hPr507 hr507) (cwV 3 hts gX9_believed_X7_wash rfl rfl rfl (by decide +kernel) ⟨Nat.le_of_ble_eq_true rfl, Nat.le_of_ble_eq_true rfl⟩) (x_preV hE hS hP (ci := 7) (q0 := 1) rfl rfl) rfl rfl hl.1 rfl (lv_room (Nat.le_of_ble_eq_true rfl)) dX9_believed_42 ⟨Nat.le_of_ble_eq_true rfl, Nat.le_of_ble_eq_true rfl⟩) ?_
        have hq : r507 = out := by cases h; exact ho
        subst hq
        exact x_iret hx hb hr hlk rfl rfl dX9_believed_45
      · replace h := (if_pos hc506).symm.trans h
        refine lv_ldc (v := (-1000000002)) hx hb hown (hts (.constant RX9 233 (-1000000002)) (List.mem_of_getElem? (i := 2) rfl)) dX9_believed_32 ?_
        have hq : (-1000000002) = out := by cases h; exact ho
        subst hq
        exact x_iret hx hb hr hlk rfl rfl dX9_believed_34
  · replace h := (if_pos hc502).symm.trans h
    refine lv_ldc (v := (-1000000001)) hx hb hown (hts (.constant RX9 232 (-1000000001)) (List.mem_of_getElem? (i := 1) rfl)) dX9_believed_7 ?_
    have hq : (-1000000001) = out := by cases h; exact ho
    subst hq
    exact x_iret hx hb hr hlk rfl rfl dX9_believed_9
noncomputable def mX9_told (now_keys : Int32) (now_weight : Int32) (now_care : Int32) (now_brass_needle : Int32) (now_brass_stick : Int32) (now_book_days : Int32) (now_chart_size : Int32) (now_sayings_k0_size : Int32) (now_sayings_k0_signs : Nat → Int32) (now_sayings_k1_size : Int32) (now_sayings_k1_signs : Nat → Int32) (now_sayings_k2_size : Int32) (now_sayings_k2_signs : Nat → Int32) (now_sayings_k3_size : Int32) (now_sayings_k3_signs : Nat → Int32) (pad_size : Int32) (p0 : Int32) : Option (Int32) :=
  if p0 = 0 then (some now_book_days) else (if p0 = 1 then (some pad_size) else (if p0 = 2 then (some now_brass_needle) else (if p0 = 3 then (some now_brass_stick) else (if p0 = 4 then (some now_keys) else (if p0 = 5 then (some now_weight) else (if p0 = 6 then (some now_care) else (if p0 = 7 then (some now_chart_size) else ((mX9_within p0 10 13).bind (fun r502 => if (xb r502) = 0 then (some ((-2))) else (if (p0 - 10) = 0 then ((mX7_sayingAtK0).bind (fun _ => (mX8_countCases now_sayings_k0_size now_sayings_k0_signs).bind (fun r506 => some r506))) else (if (p0 - 10) = 1 then ((mX7_sayingAtK1).bind (fun _ => (mX8_countCases now_sayings_k1_size now_sayings_k1_signs).bind (fun r508 => some r508))) else (if (p0 - 10) = 2 then ((mX7_sayingAtK2).bind (fun _ => (mX8_countCases now_sayings_k2_size now_sayings_k2_signs).bind (fun r510 => some r510))) else (if (p0 - 10) = 3 then ((mX7_sayingAtK3).bind (fun _ => (mX8_countCases now_sayings_k3_size now_sayings_k3_signs).bind (fun r512 => some r512))) else ((mX7_sayingAtN ((p0 - 10))).bind (fun _ => some ((-2)))))))))))))))))
set_option maxHeartbeats 4000000 in
set_option maxRecDepth 100000 in
theorem kX9_told (l : Launch) (G : xG) (H0 : Heap) {q_this q_now q_pad q_images q_single q_weights q_trial q_now_brass q_now_book q_now_chart q_now_sayings q_now_book_years q_now_book_months q_now_book_presses q_now_book_winds q_now_book_skies q_now_book_rains q_now_book_wires q_now_book_kinds q_now_chart_xs q_now_chart_ys q_now_chart_presses q_now_chart_winds q_now_sayings_k0 q_now_sayings_k1 q_now_sayings_k2 q_now_sayings_k3 q_now_sayings_k0_signs q_now_sayings_k1_signs q_now_sayings_k2_signs q_now_sayings_k3_signs q_pad_signs : Nat} {now_keys : Int32} {now_weight : Int32} {now_care : Int32} {now_brass_mind : Int32} {now_brass_needle : Int32} {now_brass_stick : Int32} {now_book_days : Int32} {now_chart_size : Int32} {now_sayings_k0_size : Int32} {now_sayings_k0_signs : Nat → Int32} {now_sayings_k1_size : Int32} {now_sayings_k1_signs : Nat → Int32} {now_sayings_k2_size : Int32} {now_sayings_k2_signs : Nat → Int32} {now_sayings_k3_size : Int32} {now_sayings_k3_signs : Nat → Int32} {pad_size : Int32} {p0 : Int32} (hP : va_P (xD G) vwCl [(q_this, .inr (9, [.ref q_now, .ref q_pad, .ref q_images, .ref q_single, .ref q_weights, .ref q_trial])), (q_now, .inr (7, [.ref q_now_brass, .ref q_now_book, .ref q_now_chart, .ref q_now_sayings, .int now_keys, .int now_weight, .int now_care])), (q_now_brass, .inr (1, [.int now_brass_mind, .int now_brass_needle, .int now_brass_stick])), (q_now_book, .inr (0, [.int now_book_days, .ref q_now_book_years, .ref q_now_book_months, .ref q_now_book_presses, .ref q_now_book_winds, .ref q_now_book_skies, .ref q_now_book_rains, .ref q_now_book_wires, .ref q_now_book_kinds])), (q_now_chart, .inr (2, [.int now_chart_size, .ref q_now_chart_xs, .ref q_now_chart_ys, .ref q_now_chart_presses, .ref q_now_chart_winds])), (q_now_sayings, .inl (xy G 3, 4, .inr (.inr (.inr (.inr (x4 q_now_sayings_k0 q_now_sayings_k1 q_now_sayings_k2 q_now_sayings_k3)))))), (q_now_sayings_k0, .inr (8, [.int now_sayings_k0_size, .ref q_now_sayings_k0_signs])), (q_now_sayings_k0_signs, .inl (xy G 0, 50, .inl now_sayings_k0_signs)), (q_now_sayings_k1, .inr (8, [.int now_sayings_k1_size, .ref q_now_sayings_k1_signs])), (q_now_sayings_k1_signs, .inl (xy G 0, 50, .inl now_sayings_k1_signs)), (q_now_sayings_k2, .inr (8, [.int now_sayings_k2_size, .ref q_now_sayings_k2_signs])), (q_now_sayings_k2_signs, .inl (xy G 0, 50, .inl now_sayings_k2_signs)), (q_now_sayings_k3, .inr (8, [.int now_sayings_k3_size, .ref q_now_sayings_k3_signs])), (q_now_sayings_k3_signs, .inl (xy G 0, 50, .inl now_sayings_k3_signs)), (q_pad, .inr (8, [.int pad_size, .ref q_pad_signs]))] H0) {out : Int32} (h : mX9_told now_keys now_weight now_care now_brass_needle now_brass_stick now_book_days now_chart_size now_sayings_k0_size now_sayings_k0_signs now_sayings_k1_size now_sayings_k1_signs now_sayings_k2_size now_sayings_k2_signs now_sayings_k3_size now_sayings_k3_signs pad_size p0 = some out) : Met l yX9_told wsX9_told ({ frames := 2, cells := 0, slots := 0, locals := 43 }) (xPc G H0 [.ref q_this, .int p0]) (xQi H0 (out)) 0 0 xN := by
  refine x_met (by decide) rfl (Nat.le_of_ble_eq_true rfl) ?_
  intro p e s m below meth c ls hH hA hl
  obtain ⟨hx, hb, hr, hlk, hml, hown, hts, hE⟩ := hA
  subst hH
  have hown : s.vm.findClass RX9 = some m.cls := hown
  have hl : lv_has ls 3 [(0, .ref q_this), (1, .int p0)] := hl
  have hS : va_S xN s.heap s.heap [] := va_S.rf
  have ho : out = out := rfl
  unfold mX9_told at h
  refine lv_iload_n hx hb dX9_told_0 rfl (lv_at hl 1 rfl) ?_
  by_cases hk501_0 : p0 = 0
  · replace h := (if_pos hk501_0).symm.trans h
    refine lv_tableIn (tgt := 48) hx hb dX9_told_1 (by rw [hk501_0]; decide) (by rw [hk501_0]; decide) (by rw [hk501_0]; rfl) (by decide) ?_
    refine lv_aload_n hx hb dX9_told_48 rfl (lv_at hl 0 rfl) ?_
    refine va_get (D := xD G) (ci := 9) (v := .ref q_now) (C := RX9) (T := TX9) (N := 6) hx hb hts (fun w9 h9 => (List.mem_cons_of_mem _ (List.mem_append_left _ (List.mem_append_left _ (List.mem_append_left _ (List.mem_append_left _ (List.mem_append_left _ (List.mem_append_right _ h9)))))))) hown hE.1 hP 0 rfl rfl 0 (by decide) (hts (.fieldLink RX9 10 "FallingGlass" "now" "LFallingGlass$State;") (List.mem_of_getElem? (i := 1) rfl)) (fun _ h9 => h9) rfl dX9_told_49 ?_
    refine va_get (D := xD G) (ci := 7) (v := .ref q_now_book) (C := RX7) (T := TX7) (N := 7) hx hb hts (fun w9 h9 => (List.mem_cons_of_mem _ (List.mem_append_left _ (List.mem_append_left _ (List.mem_append_left _ (List.mem_append_left _ (List.mem_append_right _ h9))))))) hown hE.1 hP 1 rfl rfl 1 (by decide) (hts (.fieldLink RX9 68 "FallingGlass$State" "book" "LFallingGlass$Book;") (List.mem_of_getElem? (i := 2) rfl)) (fun _ h9 => h9) rfl dX9_told_52 ?_
    refine va_get (D := xD G) (ci := 0) (v := .int now_book_days) (C := RX0) (T := TX0) (N := 9) hx hb hts (fun w9 h9 => (List.mem_cons_of_mem _ (List.mem_append_left _ (List.mem_append_left _ (List.mem_append_left _ (List.mem_append_right _ h9)))))) hown hE.1 hP 3 rfl rfl 0 (by decide) (hts (.fieldLink RX9 241 "FallingGlass$Book" "days" "I") (List.mem_of_getElem? (i := 3) rfl)) (fun _ h9 => h9) rfl dX9_told_55 ?_
    have hq : now_book_days = out := by cases h; exact ho
    subst hq
    exact x_iret hx hb hr hlk rfl rfl dX9_told_58
  · replace h := (if_neg hk501_0).symm.trans h
    by_cases hk501_1 : p0 = 1
    · replace h := (if_pos hk501_1).symm.trans h
      refine lv_tableIn (tgt := 59) hx hb dX9_told_1 (by rw [hk501_1]; decide) (by rw [hk501_1]; decide) (by rw [hk501_1]; rfl) (by decide) ?_
      refine lv_aload_n hx hb dX9_told_59 rfl (lv_at hl 0 rfl) ?_
      refine va_get (D := xD G) (ci := 9) (v := .ref q_pad) (C := RX9) (T := TX9) (N := 6) hx hb hts (fun w9 h9 => (List.mem_cons_of_mem _ (List.mem_append_left _ (List.mem_append_left _ (List.mem_append_left _ (List.mem_append_left _ (List.mem_append_left _ (List.mem_append_right _ h9)))))))) hown hE.1 hP 0 rfl rfl 1 (by decide) (hts (.fieldLink RX9 19 "FallingGlass" "pad" "LFallingGlass$Text;") (List.mem_of_getElem? (i := 4) rfl)) (fun _ h9 => h9) rfl dX9_told_60 ?_
      refine va_get (D := xD G) (ci := 8) (v := .int pad_size) (C := RX8) (T := TX8) (N := 2) hx hb hts (fun w9 h9 => (List.mem_cons_of_mem _ (List.mem_append_left _ (List.mem_append_left _ (List.mem_append_right _ h9))))) hown hE.1 hP 14 rfl rfl 0 (by decide) (hts (.fieldLink RX9 102 "FallingGlass$Text" "size" "I") (List.mem_of_getElem? (i := 5) rfl)) (fun _ h9 => h9) rfl dX9_told_63 ?_
      have hq : pad_size = out := by cases h; exact ho
      subst hq
      exact x_iret hx hb hr hlk rfl rfl dX9_told_66
    · replace h := (if_neg hk501_1).symm.trans h
      by_cases hk501_2 : p0 = 2
      · replace h := (if_pos hk501_2).symm.trans h
        refine lv_tableIn (tgt := 67) hx hb dX9_told_1 (by rw [hk501_2]; decide) (by rw [hk501_2]; decide) (by rw [hk501_2]; rfl) (by decide) ?_
        refine lv_aload_n hx hb dX9_told_67 rfl (lv_at hl 0 rfl) ?_
        refine va_get (D := xD G) (ci := 9) (v := .ref q_now) (C := RX9) (T := TX9) (N := 6) hx hb hts (fun w9 h9 => (List.mem_cons_of_mem _ (List.mem_append_left _ (List.mem_append_left _ (List.mem_append_left _ (List.mem_append_left _ (List.mem_append_left _ (List.mem_append_right _ h9)))))))) hown hE.1 hP 0 rfl rfl 0 (by decide) (hts (.fieldLink RX9 10 "FallingGlass" "now" "LFallingGlass$State;") (List.mem_of_getElem? (i := 1) rfl)) (fun _ h9 => h9) rfl dX9_told_68 ?_
        refine va_get (D := xD G) (ci := 7) (v := .ref q_now_brass) (C := RX7) (T := TX7) (N := 7) hx hb hts (fun w9 h9 => (List.mem_cons_of_mem _ (List.mem_append_left _ (List.mem_append_left _ (List.mem_append_left _ (List.mem_append_left _ (List.mem_append_right _ h9))))))) hown hE.1 hP 1 rfl rfl 0 (by decide) (hts (.fieldLink RX9 50 "FallingGlass$State" "brass" "LFallingGlass$Brass;") (List.mem_of_getElem? (i := 6) rfl)) (fun _ h9 => h9) rfl dX9_told_71 ?_
        refine va_get (D := xD G) (ci := 1) (v := .int now_brass_needle) (C := RX1) (T := TX1) (N := 3) hx hb hts (fun w9 h9 => (List.mem_cons_of_mem _ (List.mem_append_left _ (List.mem_append_right _ h9)))) hown hE.1 hP 2 rfl rfl 1 (by decide) (hts (.fieldLink RX9 244 "FallingGlass$Brass" "needle" "I") (List.mem_of_getElem? (i := 7) rfl)) (fun _ h9 => h9) rfl dX9_told_74 ?_
        have hq : now_brass_needle = out := by cases h; exact ho
        subst hq
        exact x_iret hx hb hr hlk rfl rfl dX9_told_77
      · replace h := (if_neg hk501_2).symm.trans h
        by_cases hk501_3 : p0 = 3
        · replace h := (if_pos hk501_3).symm.trans h
          refine lv_tableIn (tgt := 78) hx hb dX9_told_1 (by rw [hk501_3]; decide) (by rw [hk501_3]; decide) (by rw [hk501_3]; rfl) (by decide) ?_
          refine lv_aload_n hx hb dX9_told_78 rfl (lv_at hl 0 rfl) ?_
          refine va_get (D := xD G) (ci := 9) (v := .ref q_now) (C := RX9) (T := TX9) (N := 6) hx hb hts (fun w9 h9 => (List.mem_cons_of_mem _ (List.mem_append_left _ (List.mem_append_left _ (List.mem_append_left _ (List.mem_append_left _ (List.mem_append_left _ (List.mem_append_right _ h9)))))))) hown hE.1 hP 0 rfl rfl 0 (by decide) (hts (.fieldLink RX9 10 "FallingGlass" "now" "LFallingGlass$State;") (List.mem_of_getElem? (i := 1) rfl)) (fun _ h9 => h9) rfl dX9_told_79 ?_
          refine va_get (D := xD G) (ci := 7) (v := .ref q_now_brass) (C := RX7) (T := TX7) (N := 7) hx hb hts (fun w9 h9 => (List.mem_cons_of_mem _ (List.mem_append_left _ (List.mem_append_left _ (List.mem_append_left _ (List.mem_append_left _ (List.mem_append_right _ h9))))))) hown hE.1 hP 1 rfl rfl 0 (by decide) (hts (.fieldLink RX9 50 "FallingGlass$State" "brass" "LFallingGlass$Brass;") (List.mem_of_getElem? (i := 6) rfl)) (fun _ h9 => h9) rfl dX9_told_82 ?_
          refine va_get (D := xD G) (ci := 1) (v := .int now_brass_stick) (C := RX1) (T := TX1) (N := 3) hx hb hts (fun w9 h9 => (List.mem_cons_of_mem _ (List.mem_append_left _ (List.mem_append_right _ h9)))) hown hE.1 hP 2 rfl rfl 2 (by decide) (hts (.fieldLink RX9 64 "FallingGlass$Brass" "stick" "I") (List.mem_of_getElem? (i := 8) rfl)) (fun _ h9 => h9) rfl dX9_told_85 ?_
          have hq : now_brass_stick = out := by cases h; exact ho
          subst hq
          exact x_iret hx hb hr hlk rfl rfl dX9_told_88
        · replace h := (if_neg hk501_3).symm.trans h
          by_cases hk501_4 : p0 = 4
          · replace h := (if_pos hk501_4).symm.trans h
            refine lv_tableIn (tgt := 89) hx hb dX9_told_1 (by rw [hk501_4]; decide) (by rw [hk501_4]; decide) (by rw [hk501_4]; rfl) (by decide) ?_
            refine lv_aload_n hx hb dX9_told_89 rfl (lv_at hl 0 rfl) ?_
            refine va_get (D := xD G) (ci := 9) (v := .ref q_now) (C := RX9) (T := TX9) (N := 6) hx hb hts (fun w9 h9 => (List.mem_cons_of_mem _ (List.mem_append_left _ (List.mem_append_left _ (List.mem_append_left _ (List.mem_append_left _ (List.mem_append_left _ (List.mem_append_right _ h9)))))))) hown hE.1 hP 0 rfl rfl 0 (by decide) (hts (.fieldLink RX9 10 "FallingGlass" "now" "LFallingGlass$State;") (List.mem_of_getElem? (i := 1) rfl)) (fun _ h9 => h9) rfl dX9_told_90 ?_
            refine va_get (D := xD G) (ci := 7) (v := .int now_keys) (C := RX7) (T := TX7) (N := 7) hx hb hts (fun w9 h9 => (List.mem_cons_of_mem _ (List.mem_append_left _ (List.mem_append_left _ (List.mem_append_left _ (List.mem_append_left _ (List.mem_append_right _ h9))))))) hown hE.1 hP 1 rfl rfl 4 (by decide) (hts (.fieldLink RX9 118 "FallingGlass$State" "keys" "I") (List.mem_of_getElem? (i := 9) rfl)) (fun _ h9 => h9) rfl dX9_told_93 ?_
            have hq : now_keys = out := by cases h; exact ho
            subst hq
            exact x_iret hx hb hr hlk rfl rfl dX9_told_96
          · replace h := (if_neg hk501_4).symm.trans h
            by_cases hk501_5 : p0 = 5
            · replace h := (if_pos hk501_5).symm.trans h
              refine lv_tableIn (tgt := 97) hx hb dX9_told_1 (by rw [hk501_5]; decide) (by rw [hk501_5]; decide) (by rw [hk501_5]; rfl) (by decide) ?_
              refine lv_aload_n hx hb dX9_told_97 rfl (lv_at hl 0 rfl) ?_
              refine va_get (D := xD G) (ci := 9) (v := .ref q_now) (C := RX9) (T := TX9) (N := 6) hx hb hts (fun w9 h9 => (List.mem_cons_of_mem _ (List.mem_append_left _ (List.mem_append_left _ (List.mem_append_left _ (List.mem_append_left _ (List.mem_append_left _ (List.mem_append_right _ h9)))))))) hown hE.1 hP 0 rfl rfl 0 (by decide) (hts (.fieldLink RX9 10 "FallingGlass" "now" "LFallingGlass$State;") (List.mem_of_getElem? (i := 1) rfl)) (fun _ h9 => h9) rfl dX9_told_98 ?_
              refine va_get (D := xD G) (ci := 7) (v := .int now_weight) (C := RX7) (T := TX7) (N := 7) hx hb hts (fun w9 h9 => (List.mem_cons_of_mem _ (List.mem_append_left _ (List.mem_append_left _ (List.mem_append_left _ (List.mem_append_left _ (List.mem_append_right _ h9))))))) hown hE.1 hP 1 rfl rfl 5 (by decide) (hts (.fieldLink RX9 128 "FallingGlass$State" "weight" "I") (List.mem_of_getElem? (i := 10) rfl)) (fun _ h9 => h9) rfl dX9_told_101 ?_
              have hq : now_weight = out := by cases h; exact ho
              subst hq
              exact x_iret hx hb hr hlk rfl rfl dX9_told_104
            · replace h := (if_neg hk501_5).symm.trans h
              by_cases hk501_6 : p0 = 6
              · replace h := (if_pos hk501_6).symm.trans h
                refine lv_tableIn (tgt := 105) hx hb dX9_told_1 (by rw [hk501_6]; decide) (by rw [hk501_6]; decide) (by rw [hk501_6]; rfl) (by decide) ?_
                refine lv_aload_n hx hb dX9_told_105 rfl (lv_at hl 0 rfl) ?_
                refine va_get (D := xD G) (ci := 9) (v := .ref q_now) (C := RX9) (T := TX9) (N := 6) hx hb hts (fun w9 h9 => (List.mem_cons_of_mem _ (List.mem_append_left _ (List.mem_append_left _ (List.mem_append_left _ (List.mem_append_left _ (List.mem_append_left _ (List.mem_append_right _ h9)))))))) hown hE.1 hP 0 rfl rfl 0 (by decide) (hts (.fieldLink RX9 10 "FallingGlass" "now" "LFallingGlass$State;") (List.mem_of_getElem? (i := 1) rfl)) (fun _ h9 => h9) rfl dX9_told_106 ?_
                refine va_get (D := xD G) (ci := 7) (v := .int now_care) (C := RX7) (T := TX7) (N := 7) hx hb hts (fun w9 h9 => (List.mem_cons_of_mem _ (List.mem_append_left _ (List.mem_append_left _ (List.mem_append_left _ (List.mem_append_left _ (List.mem_append_right _ h9))))))) hown hE.1 hP 1 rfl rfl 6 (by decide) (hts (.fieldLink RX9 131 "FallingGlass$State" "care" "I") (List.mem_of_getElem? (i := 11) rfl)) (fun _ h9 => h9) rfl dX9_told_109 ?_
                have hq : now_care = out := by cases h; exact ho
                subst hq
                exact x_iret hx hb hr hlk rfl rfl dX9_told_112
              · replace h := (if_neg hk501_6).symm.trans h
                by_cases hk501_7 : p0 = 7
                · replace h := (if_pos hk501_7).symm.trans h
                  refine lv_tableIn (tgt := 113) hx hb dX9_told_1 (by rw [hk501_7]; decide) (by rw [hk501_7]; decide) (by rw [hk501_7]; rfl) (by decide) ?_
                  refine lv_aload_n hx hb dX9_told_113 rfl (lv_at hl 0 rfl) ?_
                  refine va_get (D := xD G) (ci := 9) (v := .ref q_now) (C := RX9) (T := TX9) (N := 6) hx hb hts (fun w9 h9 => (List.mem_cons_of_mem _ (List.mem_append_left _ (List.mem_append_left _ (List.mem_append_left _ (List.mem_append_left _ (List.mem_append_left _ (List.mem_append_right _ h9)))))))) hown hE.1 hP 0 rfl rfl 0 (by decide) (hts (.fieldLink RX9 10 "FallingGlass" "now" "LFallingGlass$State;") (List.mem_of_getElem? (i := 1) rfl)) (fun _ h9 => h9) rfl dX9_told_114 ?_
                  refine va_get (D := xD G) (ci := 7) (v := .ref q_now_chart) (C := RX7) (T := TX7) (N := 7) hx hb hts (fun w9 h9 => (List.mem_cons_of_mem _ (List.mem_append_left _ (List.mem_append_left _ (List.mem_append_left _ (List.mem_append_left _ (List.mem_append_right _ h9))))))) hown hE.1 hP 1 rfl rfl 2 (by decide) (hts (.fieldLink RX9 202 "FallingGlass$State" "chart" "LFallingGlass$Chart;") (List.mem_of_getElem? (i := 12) rfl)) (fun _ h9 => h9) rfl dX9_told_117 ?_
                  refine va_get (D := xD G) (ci := 2) (v := .int now_chart_size) (C := RX2) (T := TX2) (N := 5) hx hb hts (fun w9 h9 => (List.mem_cons_of_mem _ (List.mem_append_right _ h9))) hown hE.1 hP 4 rfl rfl 0 (by decide) (hts (.fieldLink RX9 247 "FallingGlass$Chart" "size" "I") (List.mem_of_getElem? (i := 13) rfl)) (fun _ h9 => h9) rfl dX9_told_120 ?_
                  have hq : now_chart_size = out := by cases h; exact ho
                  subst hq
                  exact x_iret hx hb hr hlk rfl rfl dX9_told_123
                · replace h := (if_neg hk501_7).symm.trans h
                  refine lv_tableOut (tgt := 124) hx hb dX9_told_1 (by have hk501_0T := lv_neT hk501_0 (a := 0) (by decide); have hk501_1T := lv_neT hk501_1 (a := 1) (by decide); have hk501_2T := lv_neT hk501_2 (a := 2) (by decide); have hk501_3T := lv_neT hk501_3 (a := 3) (by decide); have hk501_4T := lv_neT hk501_4 (a := 4) (by decide); have hk501_5T := lv_neT hk501_5 (a := 5) (by decide); have hk501_6T := lv_neT hk501_6 (a := 6) (by decide); have hk501_7T := lv_neT hk501_7 (a := 7) (by decide); omega) (by decide) ?_
                  refine lv_iload_n hx hb dX9_told_124 rfl (lv_at hl 1 rfl) ?_
                  refine lv_bipush (v := 10) hx hb dX9_told_125 (by decide) ?_
                  refine lv_bipush (v := 13) hx hb dX9_told_127 (by decide) ?_
                  obtain ⟨r502, hr502, h⟩ := x_bind h
                  refine x_calli (va_runS (As := [.int p0, .int 10, .int 13]) (rest := []) ⟨hx, hb, hml, hown, hts⟩ (kX9_within l G s.heap hr502) (va_cwS 3 hts gX9_told_X9_within rfl rfl rfl (by decide +kernel) ⟨Nat.le_of_ble_eq_true rfl, Nat.le_of_ble_eq_true rfl⟩) (x_preS hE hS) rfl rfl hl.1 rfl (lv_room (Nat.le_of_ble_eq_true rfl)) dX9_told_129 ⟨Nat.le_of_ble_eq_true rfl, Nat.le_of_ble_eq_true rfl⟩) ?_
                  refine lv_if_eq (tgt := 149) hx hb dX9_told_132 (by decide) (fun hc503 => ?_) (fun hc503 => ?_)
                  · replace h := (if_pos hc503).symm.trans h
                    refine lv_null hx hb dX9_told_149 ?_
                    refine lv_astore_nN (lv' := [(2, .null), (0, .ref q_this), (1, .int p0)]) hx hb dX9_told_150 rfl hl (by decide) rfl (fun ls hl => ?_)
                    refine lv_aload_nN hx hb dX9_told_151 rfl (lv_at hl 0 rfl) ?_
                    refine lv_ifnonnullN hx hb dX9_told_152 ?_
                    refine lv_bipush (v := (-2)) hx hb dX9_told_155 (by decide) ?_
                    refine lv_goto (tgt := 164) hx hb dX9_told_157 (by decide) ?_
                    have hq : (-2) = out := by cases h; exact ho
                    subst hq
                    exact x_iret hx hb hr hlk rfl rfl dX9_told_164
                  · replace h := (if_neg hc503).symm.trans h
                    refine lv_aload_n hx hb dX9_told_135 rfl (lv_at hl 0 rfl) ?_
                    refine va_get (D := xD G) (ci := 9) (v := .ref q_now) (C := RX9) (T := TX9) (N := 6) hx hb hts (fun w9 h9 => (List.mem_cons_of_mem _ (List.mem_append_left _ (List.mem_append_left _ (List.mem_append_left _ (List.mem_append_left _ (List.mem_append_left _ (List.mem_append_right _ h9)))))))) hown hE.1 hP 0 rfl rfl 0 (by decide) (hts (.fieldLink RX9 10 "FallingGlass" "now" "LFallingGlass$State;") (List.mem_of_getElem? (i := 1) rfl)) (fun _ h9 => h9) rfl dX9_told_136 ?_
                    refine lv_iload_n hx hb dX9_told_139 rfl (lv_at hl 1 rfl) ?_
                    refine lv_bipush (v := 10) hx hb dX9_told_140 (by decide) ?_
                    refine lv_isub hx hb dX9_told_142 ?_
                    by_cases hk504_0 : (p0 - 10) = 0
                    · replace h := (if_pos hk504_0).symm.trans h
                      obtain ⟨r505, hr505, h⟩ := x_bind h
                      refine W.eq (g2 := F0 m 143 ls [.int 0, .ref q_now]) (by first | rfl | rw [hk504_0]) ?_
                      have hPr505 : va_P (xD G) vwCl [(q_now, .inr (7, [.ref q_now_brass, .ref q_now_book, .ref q_now_chart, .ref q_now_sayings, .int now_keys, .int now_weight, .int now_care])), (q_now_sayings, .inl (xy G 3, 4, .inr (.inr (.inr (.inr (x4 q_now_sayings_k0 q_now_sayings_k1 q_now_sayings_k2 q_now_sayings_k3))))))] s.heap := hP.sub [1, 5] rfl
                      refine x_callg (va_runV (As := [.int 0]) (rest := []) ⟨hx, hb, hml, hown, hts⟩ (kX7_sayingAtK0 l G s.heap hPr505 hr505) (cwV 1 hts gX9_told_X7_sayingAt rfl rfl rfl (by decide +kernel) ⟨Nat.le_of_ble_eq_true rfl, Nat.le_of_ble_eq_true rfl⟩) (x_preV hE hS hP (ci := 7) (q0 := 1) rfl rfl) rfl rfl hl.1 rfl (lv_room (Nat.le_of_ble_eq_true rfl)) dX9_told_143 ⟨Nat.le_of_ble_eq_true rfl, Nat.le_of_ble_eq_true rfl⟩) ?_
                      refine lv_goto (tgt := 150) hx hb dX9_told_146 (by decide) ?_
                      refine lv_astore_n (lv' := [(2, .ref q_now_sayings_k0), (0, .ref q_this), (1, .int p0)]) hx hb dX9_told_150 rfl hl (by decide) rfl (fun ls hl => ?_)
                      refine lv_aload_n hx hb dX9_told_151 rfl (lv_at hl 0 rfl) ?_
                      refine lv_ifnonnull (tgt := 160) hx hb dX9_told_152 (by decide) ?_
                      refine lv_aload_n hx hb dX9_told_160 rfl (lv_at hl 0 rfl) ?_
                      obtain ⟨r506, hr506, h⟩ := x_bind h
                      have hPr506 : va_P (xD G) vwCl [(q_now_sayings_k0, .inr (8, [.int now_sayings_k0_size, .ref q_now_sayings_k0_signs])), (q_now_sayings_k0_signs, .inl (xy G 0, 50, .inl now_sayings_k0_signs))] s.heap := hP.sub [6, 7] rfl
                      refine x_calli (va_runV (As := []) (rest := []) ⟨hx, hb, hml, hown, hts⟩ (kX8_countCases l G s.heap hPr506 hr506) (cwV 0 hts gX9_told_X8_countCases rfl rfl rfl (by decide +kernel) ⟨Nat.le_of_ble_eq_true rfl, Nat.le_of_ble_eq_true rfl⟩) (x_preV hE hS hP (ci := 8) (q0 := 6) rfl rfl) rfl rfl hl.1 rfl (lv_room (Nat.le_of_ble_eq_true rfl)) dX9_told_161 ⟨Nat.le_of_ble_eq_true rfl, Nat.le_of_ble_eq_true rfl⟩) ?_
                      have hq : r506 = out := by cases h; exact ho
                      subst hq
                      exact x_iret hx hb hr hlk rfl rfl dX9_told_164
                    · replace h := (if_neg hk504_0).symm.trans h
                      by_cases hk504_1 : (p0 - 10) = 1
                      · replace h := (if_pos hk504_1).symm.trans h
                        obtain ⟨r507, hr507, h⟩ := x_bind h
                        refine W.eq (g2 := F0 m 143 ls [.int 1, .ref q_now]) (by first | rfl | rw [hk504_1]) ?_
                        have hPr507 : va_P (xD G) vwCl [(q_now, .inr (7, [.ref q_now_brass, .ref q_now_book, .ref q_now_chart, .ref q_now_sayings, .int now_keys, .int now_weight, .int now_care])), (q_now_sayings, .inl (xy G 3, 4, .inr (.inr (.inr (.inr (x4 q_now_sayings_k0 q_now_sayings_k1 q_now_sayings_k2 q_now_sayings_k3))))))] s.heap := hP.sub [1, 5] rfl
                        refine x_callg (va_runV (As := [.int 1]) (rest := []) ⟨hx, hb, hml, hown, hts⟩ (kX7_sayingAtK1 l G s.heap hPr507 hr507) (cwV 1 hts gX9_told_X7_sayingAt rfl rfl rfl (by decide +kernel) ⟨Nat.le_of_ble_eq_true rfl, Nat.le_of_ble_eq_true rfl⟩) (x_preV hE hS hP (ci := 7) (q0 := 1) rfl rfl) rfl rfl hl.1 rfl (lv_room (Nat.le_of_ble_eq_true rfl)) dX9_told_143 ⟨Nat.le_of_ble_eq_true rfl, Nat.le_of_ble_eq_true rfl⟩) ?_
                        refine lv_goto (tgt := 150) hx hb dX9_told_146 (by decide) ?_
                        refine lv_astore_n (lv' := [(2, .ref q_now_sayings_k1), (0, .ref q_this), (1, .int p0)]) hx hb dX9_told_150 rfl hl (by decide) rfl (fun ls hl => ?_)
                        refine lv_aload_n hx hb dX9_told_151 rfl (lv_at hl 0 rfl) ?_
                        refine lv_ifnonnull (tgt := 160) hx hb dX9_told_152 (by decide) ?_
                        refine lv_aload_n hx hb dX9_told_160 rfl (lv_at hl 0 rfl) ?_
                        obtain ⟨r508, hr508, h⟩ := x_bind h
                        have hPr508 : va_P (xD G) vwCl [(q_now_sayings_k1, .inr (8, [.int now_sayings_k1_size, .ref q_now_sayings_k1_signs])), (q_now_sayings_k1_signs, .inl (xy G 0, 50, .inl now_sayings_k1_signs))] s.heap := hP.sub [8, 9] rfl
                        refine x_calli (va_runV (As := []) (rest := []) ⟨hx, hb, hml, hown, hts⟩ (kX8_countCases l G s.heap hPr508 hr508) (cwV 0 hts gX9_told_X8_countCases rfl rfl rfl (by decide +kernel) ⟨Nat.le_of_ble_eq_true rfl, Nat.le_of_ble_eq_true rfl⟩) (x_preV hE hS hP (ci := 8) (q0 := 8) rfl rfl) rfl rfl hl.1 rfl (lv_room (Nat.le_of_ble_eq_true rfl)) dX9_told_161 ⟨Nat.le_of_ble_eq_true rfl, Nat.le_of_ble_eq_true rfl⟩) ?_
                        have hq : r508 = out := by cases h; exact ho
                        subst hq
                        exact x_iret hx hb hr hlk rfl rfl dX9_told_164
                      · replace h := (if_neg hk504_1).symm.trans h
                        by_cases hk504_2 : (p0 - 10) = 2
                        · replace h := (if_pos hk504_2).symm.trans h
                          obtain ⟨r509, hr509, h⟩ := x_bind h
                          refine W.eq (g2 := F0 m 143 ls [.int 2, .ref q_now]) (by first | rfl | rw [hk504_2]) ?_
                          have hPr509 : va_P (xD G) vwCl [(q_now, .inr (7, [.ref q_now_brass, .ref q_now_book, .ref q_now_chart, .ref q_now_sayings, .int now_keys, .int now_weight, .int now_care])), (q_now_sayings, .inl (xy G 3, 4, .inr (.inr (.inr (.inr (x4 q_now_sayings_k0 q_now_sayings_k1 q_now_sayings_k2 q_now_sayings_k3))))))] s.heap := hP.sub [1, 5] rfl
                          refine x_callg (va_runV (As := [.int 2]) (rest := []) ⟨hx, hb, hml, hown, hts⟩ (kX7_sayingAtK2 l G s.heap hPr509 hr509) (cwV 1 hts gX9_told_X7_sayingAt rfl rfl rfl (by decide +kernel) ⟨Nat.le_of_ble_eq_true rfl, Nat.le_of_ble_eq_true rfl⟩) (x_preV hE hS hP (ci := 7) (q0 := 1) rfl rfl) rfl rfl hl.1 rfl (lv_room (Nat.le_of_ble_eq_true rfl)) dX9_told_143 ⟨Nat.le_of_ble_eq_true rfl, Nat.le_of_ble_eq_true rfl⟩) ?_
                          refine lv_goto (tgt := 150) hx hb dX9_told_146 (by decide) ?_
                          refine lv_astore_n (lv' := [(2, .ref q_now_sayings_k2), (0, .ref q_this), (1, .int p0)]) hx hb dX9_told_150 rfl hl (by decide) rfl (fun ls hl => ?_)
                          refine lv_aload_n hx hb dX9_told_151 rfl (lv_at hl 0 rfl) ?_
                          refine lv_ifnonnull (tgt := 160) hx hb dX9_told_152 (by decide) ?_
                          refine lv_aload_n hx hb dX9_told_160 rfl (lv_at hl 0 rfl) ?_
                          obtain ⟨r510, hr510, h⟩ := x_bind h
                          have hPr510 : va_P (xD G) vwCl [(q_now_sayings_k2, .inr (8, [.int now_sayings_k2_size, .ref q_now_sayings_k2_signs])), (q_now_sayings_k2_signs, .inl (xy G 0, 50, .inl now_sayings_k2_signs))] s.heap := hP.sub [10, 11] rfl
                          refine x_calli (va_runV (As := []) (rest := []) ⟨hx, hb, hml, hown, hts⟩ (kX8_countCases l G s.heap hPr510 hr510) (cwV 0 hts gX9_told_X8_countCases rfl rfl rfl (by decide +kernel) ⟨Nat.le_of_ble_eq_true rfl, Nat.le_of_ble_eq_true rfl⟩) (x_preV hE hS hP (ci := 8) (q0 := 10) rfl rfl) rfl rfl hl.1 rfl (lv_room (Nat.le_of_ble_eq_true rfl)) dX9_told_161 ⟨Nat.le_of_ble_eq_true rfl, Nat.le_of_ble_eq_true rfl⟩) ?_
                          have hq : r510 = out := by cases h; exact ho
                          subst hq
                          exact x_iret hx hb hr hlk rfl rfl dX9_told_164
                        · replace h := (if_neg hk504_2).symm.trans h
                          by_cases hk504_3 : (p0 - 10) = 3
                          · replace h := (if_pos hk504_3).symm.trans h
                            obtain ⟨r511, hr511, h⟩ := x_bind h
                            refine W.eq (g2 := F0 m 143 ls [.int 3, .ref q_now]) (by first | rfl | rw [hk504_3]) ?_
                            have hPr511 : va_P (xD G) vwCl [(q_now, .inr (7, [.ref q_now_brass, .ref q_now_book, .ref q_now_chart, .ref q_now_sayings, .int now_keys, .int now_weight, .int now_care])), (q_now_sayings, .inl (xy G 3, 4, .inr (.inr (.inr (.inr (x4 q_now_sayings_k0 q_now_sayings_k1 q_now_sayings_k2 q_now_sayings_k3))))))] s.heap := hP.sub [1, 5] rfl
                            refine x_callg (va_runV (As := [.int 3]) (rest := []) ⟨hx, hb, hml, hown, hts⟩ (kX7_sayingAtK3 l G s.heap hPr511 hr511) (cwV 1 hts gX9_told_X7_sayingAt rfl rfl rfl (by decide +kernel) ⟨Nat.le_of_ble_eq_true rfl, Nat.le_of_ble_eq_true rfl⟩) (x_preV hE hS hP (ci := 7) (q0 := 1) rfl rfl) rfl rfl hl.1 rfl (lv_room (Nat.le_of_ble_eq_true rfl)) dX9_told_143 ⟨Nat.le_of_ble_eq_true rfl, Nat.le_of_ble_eq_true rfl⟩) ?_
                            refine lv_goto (tgt := 150) hx hb dX9_told_146 (by decide) ?_
                            refine lv_astore_n (lv' := [(2, .ref q_now_sayings_k3), (0, .ref q_this), (1, .int p0)]) hx hb dX9_told_150 rfl hl (by decide) rfl (fun ls hl => ?_)
                            refine lv_aload_n hx hb dX9_told_151 rfl (lv_at hl 0 rfl) ?_
                            refine lv_ifnonnull (tgt := 160) hx hb dX9_told_152 (by decide) ?_
                            refine lv_aload_n hx hb dX9_told_160 rfl (lv_at hl 0 rfl) ?_
                            obtain ⟨r512, hr512, h⟩ := x_bind h
                            have hPr512 : va_P (xD G) vwCl [(q_now_sayings_k3, .inr (8, [.int now_sayings_k3_size, .ref q_now_sayings_k3_signs])), (q_now_sayings_k3_signs, .inl (xy G 0, 50, .inl now_sayings_k3_signs))] s.heap := hP.sub [12, 13] rfl
                            refine x_calli (va_runV (As := []) (rest := []) ⟨hx, hb, hml, hown, hts⟩ (kX8_countCases l G s.heap hPr512 hr512) (cwV 0 hts gX9_told_X8_countCases rfl rfl rfl (by decide +kernel) ⟨Nat.le_of_ble_eq_true rfl, Nat.le_of_ble_eq_true rfl⟩) (x_preV hE hS hP (ci := 8) (q0 := 12) rfl rfl) rfl rfl hl.1 rfl (lv_room (Nat.le_of_ble_eq_true rfl)) dX9_told_161 ⟨Nat.le_of_ble_eq_true rfl, Nat.le_of_ble_eq_true rfl⟩) ?_
                            have hq : r512 = out := by cases h; exact ho
                            subst hq
                            exact x_iret hx hb hr hlk rfl rfl dX9_told_164
                          · replace h := (if_neg hk504_3).symm.trans h
                            obtain ⟨r513, hr513, h⟩ := x_bind h
                            have hPr513 : va_P (xD G) vwCl [(q_now, .inr (7, [.ref q_now_brass, .ref q_now_book, .ref q_now_chart, .ref q_now_sayings, .int now_keys, .int now_weight, .int now_care])), (q_now_sayings, .inl (xy G 3, 4, .inr (.inr (.inr (.inr (x4 q_now_sayings_k0 q_now_sayings_k1 q_now_sayings_k2 q_now_sayings_k3))))))] s.heap := hP.sub [1, 5] rfl
                            refine x_callg (va_runV (As := [.int (p0 - 10)]) (rest := []) ⟨hx, hb, hml, hown, hts⟩ (kX7_sayingAtN l G s.heap hPr513 hr513) (cwV 1 hts gX9_told_X7_sayingAt rfl rfl rfl (by decide +kernel) ⟨Nat.le_of_ble_eq_true rfl, Nat.le_of_ble_eq_true rfl⟩) (x_preV hE hS hP (ci := 7) (q0 := 1) rfl rfl) rfl rfl hl.1 rfl (lv_room (Nat.le_of_ble_eq_true rfl)) dX9_told_143 ⟨Nat.le_of_ble_eq_true rfl, Nat.le_of_ble_eq_true rfl⟩) ?_
                            refine lv_goto (tgt := 150) hx hb dX9_told_146 (by decide) ?_
                            refine lv_astore_nN (lv' := [(2, .null), (0, .ref q_this), (1, .int p0)]) hx hb dX9_told_150 rfl hl (by decide) rfl (fun ls hl => ?_)
                            refine lv_aload_nN hx hb dX9_told_151 rfl (lv_at hl 0 rfl) ?_
                            refine lv_ifnonnullN hx hb dX9_told_152 ?_
                            refine lv_bipush (v := (-2)) hx hb dX9_told_155 (by decide) ?_
                            refine lv_goto (tgt := 164) hx hb dX9_told_157 (by decide) ?_
                            have hq : (-2) = out := by cases h; exact ho
                            subst hq
                            exact x_iret hx hb hr hlk rfl rfl dX9_told_164
