/-! laid by program out of the bytecode: for each method its function (m..) and its contract (k..) -/
noncomputable def mX5_add (all : Int32) (taken : Int32) (both : Int32) (marked : Int32) (p0 : Int32) (p1 : Int32) : Option (Int32 × Int32 × Int32 × Int32) :=
  if p0 = 0 then (some ((all + 1), taken, both, (marked + p1))) else (some ((all + 1), (taken + 1), (both + p1), (marked + p1)))
set_option maxHeartbeats 4000000 in
set_option maxRecDepth 100000 in
theorem kX5_add (l : Launch) (G : xG) (H0 : Heap) {q_this : Nat} {all : Int32} {taken : Int32} {both : Int32} {marked : Int32} {p0 : Int32} {p1 : Int32} (w0 : va_W) (hw0 : w0 = [(q_this, .inr (5, [.int all, .int taken, .int both, .int marked]))]) (hP : va_P (xD G) vwCl w0 H0) (hD : va_D (fun _ => True) w0) {out : Int32 × Int32 × Int32 × Int32} (h : mX5_add all taken both marked p0 p1 = some out) : Met l yX5_add wsX5_add ({ frames := 0, cells := 0, slots := 0, locals := 0 }) (xPcw G (va_A w0 H0.size) H0 [.ref q_this, .int p0, .int p1]) (xRv G (va_A w0 H0.size) [(q_this, .inr (5, [.int out.1, .int out.2.1, .int out.2.2.1, .int out.2.2.2]))]) 0 0 (va_A w0 H0.size) := by
  refine x_metw (y := yX5_add) (ws := wsX5_add) (rm := { frames := 0, cells := 0, slots := 0, locals := 0 }) (G := G) (H0 := H0) (w0 := w0) (av := [.ref q_this, .int p0, .int p1]) (mc := 0) (ms := 0) (Qc := (fun A => (xRv G A [(q_this, .inr (5, [.int out.1, .int out.2.1, .int out.2.2.1, .int out.2.2.2]))]))) (by decide) rfl (Nat.le_of_ble_eq_true rfl) hP hD ?_
  clear hP hD
  intro p e s m below meth c ls A H locs hA hAt hnm hl hP hD hS
  subst hw0
  obtain ⟨hx, hb, hr, hlk, hml, hown, hts, hE⟩ := hAt
  have hown : s.vm.findClass RX5 = some m.cls := hown
  have hl : lv_has ls 3 [(0, .ref q_this), (1, .int p0), (2, .int p1)] := hl
  have ho : out = out := rfl
  unfold mX5_add at h
  refine lv_aload_n hx hb dX5_add_0 rfl (lv_at hl 0 rfl) ?_
  refine lv_dup hx hb dX5_add_1 rfl ?_
  refine va_get (D := xD G) (ci := 5) (v := .int all) (C := RX5) (T := TX5) (N := 4) hx hb hts (fun w9 h9 => (List.mem_cons_of_mem _ (List.mem_append_right _ h9))) hown hE.1 hP 0 rfl rfl 0 (by decide) (hts (.fieldLink RX5 7 "FallingGlass$Lot" "all" "I") (List.mem_of_getElem? (i := 1) rfl)) (fun _ h9 => h9) rfl dX5_add_2 ?_
  refine lv_iconst (v := 1) hx hb dX5_add_5 (by decide) ?_
  refine lv_iadd hx hb dX5_add_6 ?_
  refine va_put (D := xD G) (ci := 5) (v := .int (all + 1)) (ty := .int) (C := RX5) (T := TX5) (N := 4) hx hb hts (fun w9 h9 => (List.mem_cons_of_mem _ (List.mem_append_right _ h9))) tyX5 tyX5_ok nmX5 hown hE.1 hP hD hS 0 rfl rfl 0 (by decide) (hts (.fieldLink RX5 7 "FallingGlass$Lot" "all" "I") (List.mem_of_getElem? (i := 1) rfl)) (fun _ h9 => h9) rfl (by decide +kernel) rfl rfl (Nat.le_of_ble_eq_true rfl) dX5_add_7 (fun H locs hP hD hS => ?_)
  have hP : va_P (xD G) vwCl [(q_this, .inr (5, [.int (all + 1), .int taken, .int both, .int marked]))] H := hP
  have hD : va_D A [(q_this, .inr (5, [.int (all + 1), .int taken, .int both, .int marked]))] := hD
  refine lv_aload_n hx hb dX5_add_10 rfl (lv_at hl 0 rfl) ?_
  refine lv_dup hx hb dX5_add_11 rfl ?_
  refine va_get (D := xD G) (ci := 5) (v := .int marked) (C := RX5) (T := TX5) (N := 4) hx hb hts (fun w9 h9 => (List.mem_cons_of_mem _ (List.mem_append_right _ h9))) hown hE.1 hP 0 rfl rfl 3 (by decide) (hts (.fieldLink RX5 13 "FallingGlass$Lot" "marked" "I") (List.mem_of_getElem? (i := 2) rfl)) (fun _ h9 => h9) rfl dX5_add_12 ?_
  refine lv_iload_n hx hb dX5_add_15 rfl (lv_at hl 2 rfl) ?_
  refine lv_iadd hx hb dX5_add_16 ?_
  refine va_put (D := xD G) (ci := 5) (v := .int (marked + p1)) (ty := .int) (C := RX5) (T := TX5) (N := 4) hx hb hts (fun w9 h9 => (List.mem_cons_of_mem _ (List.mem_append_right _ h9))) tyX5 tyX5_ok nmX5 hown hE.1 hP hD hS 0 rfl rfl 3 (by decide) (hts (.fieldLink RX5 13 "FallingGlass$Lot" "marked" "I") (List.mem_of_getElem? (i := 2) rfl)) (fun _ h9 => h9) rfl (by decide +kernel) rfl rfl (Nat.le_of_ble_eq_true rfl) dX5_add_17 (fun H locs hP hD hS => ?_)
  have hP : va_P (xD G) vwCl [(q_this, .inr (5, [.int (all + 1), .int taken, .int both, .int (marked + p1)]))] H := hP
  have hD : va_D A [(q_this, .inr (5, [.int (all + 1), .int taken, .int both, .int (marked + p1)]))] := hD
  refine lv_iload_n hx hb dX5_add_20 rfl (lv_at hl 1 rfl) ?_
  refine lv_if_eq (tgt := 44) hx hb dX5_add_21 (by decide) (fun hc501 => ?_) (fun hc501 => ?_)
  · replace h := (if_pos hc501).symm.trans h
    have hq : ((all + 1), taken, both, (marked + p1)) = out := by cases h; exact ho
    subst hq
    have hP : va_P (xD G) vwCl [(q_this, .inr (5, [.int (all + 1), .int taken, .int both, .int (marked + p1)]))] H := hP
    have hD : va_D A [(q_this, .inr (5, [.int (all + 1), .int taken, .int both, .int (marked + p1)]))] := hD
    exact x_vretw hx hb hr hlk hP hD hS dX5_add_44
  · replace h := (if_neg hc501).symm.trans h
    refine lv_aload_n hx hb dX5_add_24 rfl (lv_at hl 0 rfl) ?_
    refine lv_dup hx hb dX5_add_25 rfl ?_
    refine va_get (D := xD G) (ci := 5) (v := .int taken) (C := RX5) (T := TX5) (N := 4) hx hb hts (fun w9 h9 => (List.mem_cons_of_mem _ (List.mem_append_right _ h9))) hown hE.1 hP 0 rfl rfl 1 (by decide) (hts (.fieldLink RX5 16 "FallingGlass$Lot" "taken" "I") (List.mem_of_getElem? (i := 3) rfl)) (fun _ h9 => h9) rfl dX5_add_26 ?_
    refine lv_iconst (v := 1) hx hb dX5_add_29 (by decide) ?_
    refine lv_iadd hx hb dX5_add_30 ?_
    refine va_put (D := xD G) (ci := 5) (v := .int (taken + 1)) (ty := .int) (C := RX5) (T := TX5) (N := 4) hx hb hts (fun w9 h9 => (List.mem_cons_of_mem _ (List.mem_append_right _ h9))) tyX5 tyX5_ok nmX5 hown hE.1 hP hD hS 0 rfl rfl 1 (by decide) (hts (.fieldLink RX5 16 "FallingGlass$Lot" "taken" "I") (List.mem_of_getElem? (i := 3) rfl)) (fun _ h9 => h9) rfl (by decide +kernel) rfl rfl (Nat.le_of_ble_eq_true rfl) dX5_add_31 (fun H locs hP hD hS => ?_)
    have hP : va_P (xD G) vwCl [(q_this, .inr (5, [.int (all + 1), .int (taken + 1), .int both, .int (marked + p1)]))] H := hP
    have hD : va_D A [(q_this, .inr (5, [.int (all + 1), .int (taken + 1), .int both, .int (marked + p1)]))] := hD
    refine lv_aload_n hx hb dX5_add_34 rfl (lv_at hl 0 rfl) ?_
    refine lv_dup hx hb dX5_add_35 rfl ?_
    refine va_get (D := xD G) (ci := 5) (v := .int both) (C := RX5) (T := TX5) (N := 4) hx hb hts (fun w9 h9 => (List.mem_cons_of_mem _ (List.mem_append_right _ h9))) hown hE.1 hP 0 rfl rfl 2 (by decide) (hts (.fieldLink RX5 19 "FallingGlass$Lot" "both" "I") (List.mem_of_getElem? (i := 4) rfl)) (fun _ h9 => h9) rfl dX5_add_36 ?_
    refine lv_iload_n hx hb dX5_add_39 rfl (lv_at hl 2 rfl) ?_
    refine lv_iadd hx hb dX5_add_40 ?_
    refine va_put (D := xD G) (ci := 5) (v := .int (both + p1)) (ty := .int) (C := RX5) (T := TX5) (N := 4) hx hb hts (fun w9 h9 => (List.mem_cons_of_mem _ (List.mem_append_right _ h9))) tyX5 tyX5_ok nmX5 hown hE.1 hP hD hS 0 rfl rfl 2 (by decide) (hts (.fieldLink RX5 19 "FallingGlass$Lot" "both" "I") (List.mem_of_getElem? (i := 4) rfl)) (fun _ h9 => h9) rfl (by decide +kernel) rfl rfl (Nat.le_of_ble_eq_true rfl) dX5_add_41 (fun H locs hP hD hS => ?_)
    have hP : va_P (xD G) vwCl [(q_this, .inr (5, [.int (all + 1), .int (taken + 1), .int (both + p1), .int (marked + p1)]))] H := hP
    have hD : va_D A [(q_this, .inr (5, [.int (all + 1), .int (taken + 1), .int (both + p1), .int (marked + p1)]))] := hD
    have hq : ((all + 1), (taken + 1), (both + p1), (marked + p1)) = out := by cases h; exact ho
    subst hq
    have hP : va_P (xD G) vwCl [(q_this, .inr (5, [.int (all + 1), .int (taken + 1), .int (both + p1), .int (marked + p1)]))] H := hP
    have hD : va_D A [(q_this, .inr (5, [.int (all + 1), .int (taken + 1), .int (both + p1), .int (marked + p1)]))] := hD
    exact x_vretw hx hb hr hlk hP hD hS dX5_add_44
noncomputable def mX5_ways (all : Int32) (taken : Int32)  : Option (Int64) :=
  (mX9_choose all taken).bind (fun r501 => some r501)
set_option maxHeartbeats 4000000 in
set_option maxRecDepth 100000 in
theorem kX5_ways (l : Launch) (G : xG) (H0 : Heap) {q_this : Nat} {all : Int32} {taken : Int32} {both : Int32} {marked : Int32} (hP : va_P (xD G) vwCl [(q_this, .inr (5, [.int all, .int taken, .int both, .int marked]))] H0) {out : Int64} (h : mX5_ways all taken = some out) : Met l yX5_ways wsX5_ways ({ frames := 1, cells := 0, slots := 0, locals := 24 }) (xPc G H0 [.ref q_this]) (xQl H0 (out)) 0 0 xN := by
  refine x_met (by decide) rfl (Nat.le_of_ble_eq_true rfl) ?_
  intro p e s m below meth c ls hH hA hl
  obtain ⟨hx, hb, hr, hlk, hml, hown, hts, hE⟩ := hA
  subst hH
  have hown : s.vm.findClass RX5 = some m.cls := hown
  have hl : lv_has ls 1 [(0, .ref q_this)] := hl
  have hS : va_S xN s.heap s.heap [] := va_S.rf
  have ho : out = out := rfl
  unfold mX5_ways at h
  refine lv_aload_n hx hb dX5_ways_0 rfl (lv_at hl 0 rfl) ?_
  refine va_get (D := xD G) (ci := 5) (v := .int all) (C := RX5) (T := TX5) (N := 4) hx hb hts (fun w9 h9 => (List.mem_cons_of_mem _ (List.mem_append_right _ h9))) hown hE.1 hP 0 rfl rfl 0 (by decide) (hts (.fieldLink RX5 7 "FallingGlass$Lot" "all" "I") (List.mem_of_getElem? (i := 1) rfl)) (fun _ h9 => h9) rfl dX5_ways_1 ?_
  refine lv_aload_n hx hb dX5_ways_4 rfl (lv_at hl 0 rfl) ?_
  refine va_get (D := xD G) (ci := 5) (v := .int taken) (C := RX5) (T := TX5) (N := 4) hx hb hts (fun w9 h9 => (List.mem_cons_of_mem _ (List.mem_append_right _ h9))) hown hE.1 hP 0 rfl rfl 1 (by decide) (hts (.fieldLink RX5 16 "FallingGlass$Lot" "taken" "I") (List.mem_of_getElem? (i := 2) rfl)) (fun _ h9 => h9) rfl dX5_ways_5 ?_
  obtain ⟨r501, hr501, h⟩ := x_bind h
  refine x_calll (va_runSN (As := [.int all, .int taken]) (rest := []) ⟨hx, hb, hml, hown, hts⟩ (kX9_choose l G s.heap hr501) ⟨va_cnB 2 hts gX5_ways_X9_choose_n22 rfl rfl rfl (hE.nm 15 rfl) (hts (.initialized RX9) (List.mem_of_getElem? (i := 4) rfl)) (by decide +kernel) ⟨Nat.le_of_ble_eq_true rfl, Nat.le_of_ble_eq_true rfl⟩, (hts (.static yX9_choose) (List.mem_of_getElem? (i := 3) rfl)), trivial⟩ (x_preS hE hS) rfl rfl hl.1 rfl (lv_room (Nat.le_of_ble_eq_true rfl)) dX5_ways_8 ⟨Nat.le_of_ble_eq_true rfl, Nat.le_of_ble_eq_true rfl⟩) ?_
  have hq : r501 = out := by cases h; exact ho
  subst hq
  exact x_lret hx hb hr hlk rfl rfl dX5_ways_11
noncomputable def mX5_luckyWays_s7 (all : Int32) (taken : Int32) (both : Int32) (marked : Int32)  (v1 : Int64) (v3 : Int32) : Option (((Int64) ⊕ (Int64 × Int32))) :=
  if (if marked < taken then marked else taken) < v3 then (some (.inl v1)) else ((mX9_choose marked v3).bind (fun r102 => (mX9_choose ((all - marked)) ((taken - v3))).bind (fun r103 => some (.inr ((v1 + (r102 * r103)), (v3 + 1))))))
noncomputable def mX5_luckyWays_b7 (all : Int32) (taken : Int32) (both : Int32) (marked : Int32) (v1 : Int64) (v3 : Int32) : Option (Int64) :=
  x_loop (fun q : Int64 × Int32 => mX5_luckyWays_s7 all taken both marked (q.1) (q.2)) (v1, v3)
noncomputable def mX5_luckyWays (all : Int32) (taken : Int32) (both : Int32) (marked : Int32)  : Option (Int64) :=
  mX5_luckyWays_b7 all taken both marked 0 both
set_option maxHeartbeats 4000000 in
set_option maxRecDepth 100000 in
theorem kX5_luckyWays (l : Launch) (G : xG) (H0 : Heap) {q_this : Nat} {all : Int32} {taken : Int32} {both : Int32} {marked : Int32} (hP : va_P (xD G) vwCl [(q_this, .inr (5, [.int all, .int taken, .int both, .int marked]))] H0) {out : Int64} (h : mX5_luckyWays all taken both marked = some out) : Met l yX5_luckyWays wsX5_luckyWays ({ frames := 1, cells := 0, slots := 0, locals := 24 }) (xPc G H0 [.ref q_this]) (xQl H0 (out)) 0 0 xN := by
  refine x_met (by decide) rfl (Nat.le_of_ble_eq_true rfl) ?_
  intro p e s m below meth c ls hH hA hl
  obtain ⟨hx, hb, hr, hlk, hml, hown, hts, hE⟩ := hA
  subst hH
  have hown : s.vm.findClass RX5 = some m.cls := hown
  have hl : lv_has ls 4 [(0, .ref q_this)] := hl
  have hS : va_S xN s.heap s.heap [] := va_S.rf
  have ho : out = out := rfl
  have J7 : ∀ (v1 : Int64) (v3 : Int32) (ls : Array Slot), lv_has ls 4 [(0, .ref q_this), (1, .long v1), (3, .int v3)] → ∀ o : Int64, mX5_luckyWays_b7 all taken both marked v1 v3 = some o → (fun z => z = out) o → xW p l e ({ frames := 1, cells := 0, slots := 0, locals := 24 }) s m [.ref q_this] below meth c (xQl s.heap (out)) (F0 m 7 ls []) := by
    intro v1 v3 ls hl o h ho
    unfold mX5_luckyWays_b7 at h
    refine x_loop_walk (K := (fun z => z = out)) (motive := fun q : Int64 × Int32 => ∀ ls : Array Slot, lv_has ls 4 [(0, .ref q_this), (1, .long (q.1)), (3, .int (q.2))] → xW p l e ({ frames := 1, cells := 0, slots := 0, locals := 24 }) s m [.ref q_this] below meth c (xQl s.heap (out)) (F0 m 7 ls [])) ?_ h ho ls hl
    intro K1 e1 i1 q o h ho
    obtain ⟨v1, v3⟩ := q
    intro ls hl
    have hl : lv_has ls 4 [(0, .ref q_this), (1, .long v1), (3, .int v3)] := hl
    replace h : mX5_luckyWays_s7 all taken both marked v1 v3 = some o := h
    unfold mX5_luckyWays_s7 at h
    refine lv_iload_n hx hb dX5_luckyWays_7 rfl (lv_at hl 2 rfl) ?_
    refine lv_aload_n hx hb dX5_luckyWays_8 rfl (lv_at hl 0 rfl) ?_
    refine va_get (D := xD G) (ci := 5) (v := .int taken) (C := RX5) (T := TX5) (N := 4) hx hb hts (fun w9 h9 => (List.mem_cons_of_mem _ (List.mem_append_right _ h9))) hown hE.1 hP 0 rfl rfl 1 (by decide) (hts (.fieldLink RX5 16 "FallingGlass$Lot" "taken" "I") (List.mem_of_getElem? (i := 2) rfl)) (fun _ h9 => h9) rfl dX5_luckyWays_9 ?_
    refine lv_aload_n hx hb dX5_luckyWays_12 rfl (lv_at hl 0 rfl) ?_
    refine va_get (D := xD G) (ci := 5) (v := .int marked) (C := RX5) (T := TX5) (N := 4) hx hb hts (fun w9 h9 => (List.mem_cons_of_mem _ (List.mem_append_right _ h9))) hown hE.1 hP 0 rfl rfl 3 (by decide) (hts (.fieldLink RX5 13 "FallingGlass$Lot" "marked" "I") (List.mem_of_getElem? (i := 3) rfl)) (fun _ h9 => h9) rfl dX5_luckyWays_13 ?_
    refine va_mmin hx hb (hml.trans hl.1.symm) hown (hts (.methodLink RX5 28 Lib.Math.min.name) (List.mem_of_getElem? (i := 4) rfl)) (hts (.static Lib.Math.min.name) (List.mem_of_getElem? (i := 5) rfl)) (hts (.initialized "java/lang/Math") (List.mem_of_getElem? (i := 6) rfl)) (hts (.code Lib.Math.min.name Lib.Math.min.code 2 (some .int)) (List.mem_of_getElem? (i := 7) rfl)) (Nat.le_of_ble_eq_true rfl) (Nat.le_of_ble_eq_true rfl) (Nat.le_of_ble_eq_true rfl) (Nat.le_of_ble_eq_true rfl) dX5_luckyWays_16 ?_
    refine lv_icmp_gt (tgt := 58) hx hb dX5_luckyWays_19 (by decide) (fun hc101 => ?_) (fun hc101 => ?_)
    · replace h := (if_pos hc101).symm.trans h
      refine lv_lload_n hx hb dX5_luckyWays_58 rfl (lv_at hl 1 rfl) ?_
      have hq : v1 = out := by cases h; exact (e1 _ ho)
      subst hq
      exact x_lret hx hb hr hlk rfl rfl dX5_luckyWays_59
    · replace h := (if_neg hc101).symm.trans h
      refine lv_lload_n hx hb dX5_luckyWays_22 rfl (lv_at hl 1 rfl) ?_
      refine lv_aload_n hx hb dX5_luckyWays_23 rfl (lv_at hl 0 rfl) ?_
      refine va_get (D := xD G) (ci := 5) (v := .int marked) (C := RX5) (T := TX5) (N := 4) hx hb hts (fun w9 h9 => (List.mem_cons_of_mem _ (List.mem_append_right _ h9))) hown hE.1 hP 0 rfl rfl 3 (by decide) (hts (.fieldLink RX5 13 "FallingGlass$Lot" "marked" "I") (List.mem_of_getElem? (i := 3) rfl)) (fun _ h9 => h9) rfl dX5_luckyWays_24 ?_
      refine lv_iload_n hx hb dX5_luckyWays_27 rfl (lv_at hl 2 rfl) ?_
      obtain ⟨r102, hr102, h⟩ := x_bind h
      refine x_calll (va_runSN (As := [.int marked, .int v3]) (rest := [.long v1]) ⟨hx, hb, hml, hown, hts⟩ (kX9_choose l G s.heap hr102) ⟨va_cnB 2 hts gX5_luckyWays_X9_choose_n22 rfl rfl rfl (hE.nm 15 rfl) (hts (.initialized RX9) (List.mem_of_getElem? (i := 10) rfl)) (by decide +kernel) ⟨Nat.le_of_ble_eq_true rfl, Nat.le_of_ble_eq_true rfl⟩, (hts (.static yX9_choose) (List.mem_of_getElem? (i := 9) rfl)), trivial⟩ (x_preS hE hS) rfl rfl hl.1 rfl (lv_room (Nat.le_of_ble_eq_true rfl)) dX5_luckyWays_28 ⟨Nat.le_of_ble_eq_true rfl, Nat.le_of_ble_eq_true rfl⟩) ?_
      refine lv_aload_n hx hb dX5_luckyWays_31 rfl (lv_at hl 0 rfl) ?_
      refine va_get (D := xD G) (ci := 5) (v := .int all) (C := RX5) (T := TX5) (N := 4) hx hb hts (fun w9 h9 => (List.mem_cons_of_mem _ (List.mem_append_right _ h9))) hown hE.1 hP 0 rfl rfl 0 (by decide) (hts (.fieldLink RX5 7 "FallingGlass$Lot" "all" "I") (List.mem_of_getElem? (i := 8) rfl)) (fun _ h9 => h9) rfl dX5_luckyWays_32 ?_
      refine lv_aload_n hx hb dX5_luckyWays_35 rfl (lv_at hl 0 rfl) ?_
      refine va_get (D := xD G) (ci := 5) (v := .int marked) (C := RX5) (T := TX5) (N := 4) hx hb hts (fun w9 h9 => (List.mem_cons_of_mem _ (List.mem_append_right _ h9))) hown hE.1 hP 0 rfl rfl 3 (by decide) (hts (.fieldLink RX5 13 "FallingGlass$Lot" "marked" "I") (List.mem_of_getElem? (i := 3) rfl)) (fun _ h9 => h9) rfl dX5_luckyWays_36 ?_
      refine lv_isub hx hb dX5_luckyWays_39 ?_
      refine lv_aload_n hx hb dX5_luckyWays_40 rfl (lv_at hl 0 rfl) ?_
      refine va_get (D := xD G) (ci := 5) (v := .int taken) (C := RX5) (T := TX5) (N := 4) hx hb hts (fun w9 h9 => (List.mem_cons_of_mem _ (List.mem_append_right _ h9))) hown hE.1 hP 0 rfl rfl 1 (by decide) (hts (.fieldLink RX5 16 "FallingGlass$Lot" "taken" "I") (List.mem_of_getElem? (i := 2) rfl)) (fun _ h9 => h9) rfl dX5_luckyWays_41 ?_
      refine lv_iload_n hx hb dX5_luckyWays_44 rfl (lv_at hl 2 rfl) ?_
      refine lv_isub hx hb dX5_luckyWays_45 ?_
      obtain ⟨r103, hr103, h⟩ := x_bind h
      refine x_calll (va_runSN (As := [.int (all - marked), .int (taken - v3)]) (rest := [.long r102, .long v1]) ⟨hx, hb, hml, hown, hts⟩ (kX9_choose l G s.heap hr103) ⟨va_cnB 2 hts gX5_luckyWays_X9_choose_n22 rfl rfl rfl (hE.nm 15 rfl) (hts (.initialized RX9) (List.mem_of_getElem? (i := 10) rfl)) (by decide +kernel) ⟨Nat.le_of_ble_eq_true rfl, Nat.le_of_ble_eq_true rfl⟩, (hts (.static yX9_choose) (List.mem_of_getElem? (i := 9) rfl)), trivial⟩ (x_preS hE hS) rfl rfl hl.1 rfl (lv_room (Nat.le_of_ble_eq_true rfl)) dX5_luckyWays_46 ⟨Nat.le_of_ble_eq_true rfl, Nat.le_of_ble_eq_true rfl⟩) ?_
      refine lv_lmul hx hb dX5_luckyWays_49 ?_
      refine lv_ladd hx hb dX5_luckyWays_50 ?_
      refine lv_lstore_n (lv' := [(1, .long (v1 + (r102 * r103))), (0, .ref q_this), (3, .int v3)]) hx hb dX5_luckyWays_51 rfl hl (by decide) rfl (fun ls hl => ?_)
      refine lv_iinc (v := (v3 + 1)) (lv' := [(3, .int (v3 + 1)), (1, .long (v1 + (r102 * r103))), (0, .ref q_this)]) hx hb dX5_luckyWays_52 hl (k := 2) rfl rfl (by decide) rfl (fun ls hl => ?_)
      refine lv_goto (tgt := 7) hx hb dX5_luckyWays_55 (by decide) ?_
      exact i1 ((v1 + (r102 * r103)), (v3 + 1)) (by cases h; exact ho) ls (lv_sub hl [2, 1, 0] rfl)
  unfold mX5_luckyWays at h
  refine lv_lconst (v := 0) hx hb dX5_luckyWays_0 (by decide) ?_
  refine lv_lstore_n (lv' := [(1, .long 0), (0, .ref q_this)]) hx hb dX5_luckyWays_1 rfl hl (by decide) rfl (fun ls hl => ?_)
  refine lv_aload_n hx hb dX5_luckyWays_2 rfl (lv_at hl 1 rfl) ?_
  refine va_get (D := xD G) (ci := 5) (v := .int both) (C := RX5) (T := TX5) (N := 4) hx hb hts (fun w9 h9 => (List.mem_cons_of_mem _ (List.mem_append_right _ h9))) hown hE.1 hP 0 rfl rfl 2 (by decide) (hts (.fieldLink RX5 19 "FallingGlass$Lot" "both" "I") (List.mem_of_getElem? (i := 1) rfl)) (fun _ h9 => h9) rfl dX5_luckyWays_3 ?_
  refine lv_istore_n (lv' := [(3, .int both), (1, .long 0), (0, .ref q_this)]) hx hb dX5_luckyWays_6 rfl hl (by decide) rfl (fun ls hl => ?_)
  exact J7 0 both ls (lv_sub hl [2, 1, 0] rfl) _ h ho
