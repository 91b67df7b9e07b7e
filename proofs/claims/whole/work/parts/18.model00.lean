/-! laid by program out of the bytecode: for each method its function (m..) and its contract (k..) -/
noncomputable def mX10_in  (p0 : Int64) (p1 : Int64) (p2 : Int64) : Option (Bool) :=
  if (lg_cmp p0 p1) < 0 then (some false) else (if 0 < (lg_cmp p0 p2) then (some false) else (some true))
set_option maxHeartbeats 4000000 in
set_option maxRecDepth 100000 in
theorem kX10_in (l : Launch) (G : xG) (H0 : Heap) {p0 : Int64} {p1 : Int64} {p2 : Int64} {out : Bool} (h : mX10_in p0 p1 p2 = some out) : Met l yX10_in wsX10_in ({ frames := 0, cells := 0, slots := 0, locals := 0 }) (xPc G H0 [.long p0, .long p1, .long p2]) (xQi H0 (xb out)) 0 0 xN := by
  refine x_met (by decide) rfl (Nat.le_of_ble_eq_true rfl) ?_
  intro p e s m below meth c ls hH hA hl
  obtain ⟨hx, hb, hr, hlk, hml, hown, hts, hE⟩ := hA
  subst hH
  have hown : s.vm.findClass RX10 = some m.cls := hown
  have hl : lv_has ls 6 [(0, .long p0), (2, .long p1), (4, .long p2)] := hl
  have hS : va_S xN s.heap s.heap [] := va_S.rf
  have ho : out = out := rfl
  unfold mX10_in at h
  refine lv_lload_n hx hb dX10_in_0 rfl (lv_at hl 0 rfl) ?_
  refine lv_lload_n hx hb dX10_in_1 rfl (lv_at hl 1 rfl) ?_
  refine W.lcmp hx hb dX10_in_2 ?_
  refine lv_if_lt (tgt := 17) hx hb dX10_in_3 (by decide) (fun hc501 => ?_) (fun hc501 => ?_)
  · replace h := (if_pos hc501).symm.trans h
    refine lv_iconst (v := 0) hx hb dX10_in_17 (by decide) ?_
    have hq : false = out := by cases h; exact ho
    subst hq
    exact x_zret (b := false) hx hb hr hlk rfl rfl rfl dX10_in_18
  · replace h := (if_neg hc501).symm.trans h
    refine lv_lload_n hx hb dX10_in_6 rfl (lv_at hl 0 rfl) ?_
    refine lv_lload hx hb dX10_in_7 (lv_at hl 2 rfl) ?_
    refine W.lcmp hx hb dX10_in_9 ?_
    refine lv_if_gt (tgt := 17) hx hb dX10_in_10 (by decide) (fun hc502 => ?_) (fun hc502 => ?_)
    · replace h := (if_pos hc502).symm.trans h
      refine lv_iconst (v := 0) hx hb dX10_in_17 (by decide) ?_
      have hq : false = out := by cases h; exact ho
      subst hq
      exact x_zret (b := false) hx hb hr hlk rfl rfl rfl dX10_in_18
    · replace h := (if_neg hc502).symm.trans h
      refine lv_iconst (v := 1) hx hb dX10_in_13 (by decide) ?_
      refine lv_goto (tgt := 18) hx hb dX10_in_14 (by decide) ?_
      have hq : true = out := by cases h; exact ho
      subst hq
      exact x_zret (b := true) hx hb hr hlk rfl rfl rfl dX10_in_18
noncomputable def mX10_apart  (p0 : Int32) (p1 : Int32) : Option (Int32) :=
  if p1 ≤ p0 then (some ((p0 - p1))) else (some ((p1 - p0)))
set_option maxHeartbeats 4000000 in
set_option maxRecDepth 100000 in
theorem kX10_apart (l : Launch) (G : xG) (H0 : Heap) {p0 : Int32} {p1 : Int32} {out : Int32} (h : mX10_apart p0 p1 = some out) : Met l yX10_apart wsX10_apart ({ frames := 0, cells := 0, slots := 0, locals := 0 }) (xPc G H0 [.int p0, .int p1]) (xQi H0 (out)) 0 0 xN := by
  refine x_met (by decide) rfl (Nat.le_of_ble_eq_true rfl) ?_
  intro p e s m below meth c ls hH hA hl
  obtain ⟨hx, hb, hr, hlk, hml, hown, hts, hE⟩ := hA
  subst hH
  have hown : s.vm.findClass RX10 = some m.cls := hown
  have hl : lv_has ls 2 [(0, .int p0), (1, .int p1)] := hl
  have hS : va_S xN s.heap s.heap [] := va_S.rf
  have ho : out = out := rfl
  unfold mX10_apart at h
  refine lv_iload_n hx hb dX10_apart_0 rfl (lv_at hl 0 rfl) ?_
  refine lv_iload_n hx hb dX10_apart_1 rfl (lv_at hl 1 rfl) ?_
  refine lv_icmp_ge (tgt := 11) hx hb dX10_apart_2 (by decide) (fun hc501 => ?_) (fun hc501 => ?_)
  · replace h := (if_pos hc501).symm.trans h
    refine lv_iload_n hx hb dX10_apart_11 rfl (lv_at hl 0 rfl) ?_
    refine lv_iload_n hx hb dX10_apart_12 rfl (lv_at hl 1 rfl) ?_
    refine lv_isub hx hb dX10_apart_13 ?_
    have hq : (p0 - p1) = out := by cases h; exact ho
    subst hq
    exact x_iret hx hb hr hlk rfl rfl dX10_apart_14
  · replace h := (if_neg hc501).symm.trans h
    refine lv_iload_n hx hb dX10_apart_5 rfl (lv_at hl 1 rfl) ?_
    refine lv_iload_n hx hb dX10_apart_6 rfl (lv_at hl 0 rfl) ?_
    refine lv_isub hx hb dX10_apart_7 ?_
    refine lv_goto (tgt := 14) hx hb dX10_apart_8 (by decide) ?_
    have hq : (p1 - p0) = out := by cases h; exact ho
    subst hq
    exact x_iret hx hb hr hlk rfl rfl dX10_apart_14
noncomputable def mX10_isEnd  (p0 : Int32) : Option (Bool) :=
  (mX10_in ((Int32.toInt64 p0)) 0 1).bind (fun r501 => some r501)
set_option maxHeartbeats 4000000 in
set_option maxRecDepth 100000 in
theorem kX10_isEnd (l : Launch) (G : xG) (H0 : Heap) {p0 : Int32} {out : Bool} (h : mX10_isEnd p0 = some out) : Met l yX10_isEnd wsX10_isEnd ({ frames := 1, cells := 0, slots := 0, locals := 25 }) (xPc G H0 [.int p0]) (xQi H0 (xb out)) 0 0 xN := by
  refine x_met (by decide) rfl (Nat.le_of_ble_eq_true rfl) ?_
  intro p e s m below meth c ls hH hA hl
  obtain ⟨hx, hb, hr, hlk, hml, hown, hts, hE⟩ := hA
  subst hH
  have hown : s.vm.findClass RX10 = some m.cls := hown
  have hl : lv_has ls 1 [(0, .int p0)] := hl
  have hS : va_S xN s.heap s.heap [] := va_S.rf
  have ho : out = out := rfl
  unfold mX10_isEnd at h
  refine lv_iload_n hx hb dX10_isEnd_0 rfl (lv_at hl 0 rfl) ?_
  refine lv_i2l (v := (Int32.toInt64 p0)) hx hb dX10_isEnd_1 rfl ?_
  refine lv_lconst (v := 0) hx hb dX10_isEnd_2 (by decide) ?_
  refine lv_lconst (v := 1) hx hb dX10_isEnd_3 (by decide) ?_
  obtain ⟨r501, hr501, h⟩ := x_bind h
  refine x_calli (va_runS (As := [.long (Int32.toInt64 p0), .long 0, .long 1]) (rest := []) ⟨hx, hb, hml, hown, hts⟩ (kX10_in l G s.heap hr501) (va_cwS 3 hts gX10_isEnd_X10_in rfl rfl rfl (by decide +kernel) ⟨Nat.le_of_ble_eq_true rfl, Nat.le_of_ble_eq_true rfl⟩) (x_preS hE hS) rfl rfl hl.1 rfl (lv_room (Nat.le_of_ble_eq_true rfl)) dX10_isEnd_4 ⟨Nat.le_of_ble_eq_true rfl, Nat.le_of_ble_eq_true rfl⟩) ?_
  have hq : r501 = out := by cases h; exact ho
  subst hq
  exact x_zret (b := r501) hx hb hr hlk rfl rfl rfl dX10_isEnd_7
noncomputable def mX10_lowest_s6  (v0 : Int64) (v2 : Int64) (v4 : Int32) (v5 : Int64) (v7 : Int64) : Option (((Int64) ⊕ (Int64 × Int64))) :=
  if (lg_cmp v7 0) = 0 then (if v4 = 0 then (x_need (¬ v5 = 0) (some (.inl ((v0 / v5))))) else (x_need (¬ v5 = 0) (some (.inl ((v2 / v5)))))) else (x_need (¬ v7 = 0) (some (.inr (v7, (v5 - v5 / v7 * v7)))))
noncomputable def mX10_lowest_b6  (v0 : Int64) (v2 : Int64) (v4 : Int32) (v5 : Int64) (v7 : Int64) : Option (Int64) :=
  x_loop (fun q : Int64 × Int64 => mX10_lowest_s6  v0 v2 v4 (q.1) (q.2)) (v5, v7)
noncomputable def mX10_lowest  (p0 : Int64) (p1 : Int64) (p2 : Int32) : Option (Int64) :=
  mX10_lowest_b6 p0 p1 p2 p0 p1
set_option maxHeartbeats 4000000 in
set_option maxRecDepth 100000 in
theorem kX10_lowest (l : Launch) (G : xG) (H0 : Heap) {p0 : Int64} {p1 : Int64} {p2 : Int32} {out : Int64} (h : mX10_lowest p0 p1 p2 = some out) : Met l yX10_lowest wsX10_lowest ({ frames := 0, cells := 0, slots := 0, locals := 0 }) (xPc G H0 [.long p0, .long p1, .int p2]) (xQl H0 (out)) 0 0 xN := by
  refine x_met (by decide) rfl (Nat.le_of_ble_eq_true rfl) ?_
  intro p e s m below meth c ls hH hA hl
  obtain ⟨hx, hb, hr, hlk, hml, hown, hts, hE⟩ := hA
  subst hH
  have hown : s.vm.findClass RX10 = some m.cls := hown
  have hl : lv_has ls 11 [(0, .long p0), (2, .long p1), (4, .int p2)] := hl
  have hS : va_S xN s.heap s.heap [] := va_S.rf
  have ho : out = out := rfl
  have J6 : ∀ (v0 : Int64) (v2 : Int64) (v4 : Int32) (v5 : Int64) (v7 : Int64) (ls : Array Slot), lv_has ls 11 [(0, .long v0), (2, .long v2), (4, .int v4), (5, .long v5), (7, .long v7)] → ∀ o : Int64, mX10_lowest_b6  v0 v2 v4 v5 v7 = some o → (fun z => z = out) o → xW p l e ({ frames := 0, cells := 0, slots := 0, locals := 0 }) s m [.long p0, .long p1, .int p2] below meth c (xQl s.heap (out)) (F0 m 6 ls []) := by
    intro v0 v2 v4 v5 v7 ls hl o h ho
    unfold mX10_lowest_b6 at h
    refine x_loop_walk (K := (fun z => z = out)) (motive := fun q : Int64 × Int64 => ∀ ls : Array Slot, lv_has ls 11 [(0, .long (v0)), (2, .long (v2)), (4, .int (v4)), (5, .long (q.1)), (7, .long (q.2))] → xW p l e ({ frames := 0, cells := 0, slots := 0, locals := 0 }) s m [.long p0, .long p1, .int p2] below meth c (xQl s.heap (out)) (F0 m 6 ls [])) ?_ h ho ls hl
    intro K1 e1 i1 q o h ho
    obtain ⟨v5, v7⟩ := q
    intro ls hl
    have hl : lv_has ls 11 [(0, .long v0), (2, .long v2), (4, .int v4), (5, .long v5), (7, .long v7)] := hl
    replace h : mX10_lowest_s6  v0 v2 v4 v5 v7 = some o := h
    unfold mX10_lowest_s6 at h
    refine lv_lload hx hb dX10_lowest_6 (lv_at hl 4 rfl) ?_
    refine lv_lconst (v := 0) hx hb dX10_lowest_8 (by decide) ?_
    refine W.lcmp hx hb dX10_lowest_9 ?_
    refine lv_if_eq (tgt := 31) hx hb dX10_lowest_10 (by decide) (fun hc101 => ?_) (fun hc101 => ?_)
    · replace h := (if_pos hc101).symm.trans h
      refine lv_iload hx hb dX10_lowest_31 (lv_at hl 2 rfl) ?_
      refine lv_if_ne (tgt := 43) hx hb dX10_lowest_33 (by decide) (fun hc102 => ?_) (fun hc102 => ?_)
      · replace h := (if_neg hc102).symm.trans h
        refine lv_lload_n hx hb dX10_lowest_43 rfl (lv_at hl 1 rfl) ?_
        refine lv_lload hx hb dX10_lowest_44 (lv_at hl 3 rfl) ?_
        obtain ⟨hz103, h⟩ := x_needs h
        refine lv_ldiv hx hb dX10_lowest_46 hz103 ?_
        have hq : (v2 / v5) = out := by cases h; exact (e1 _ ho)
        subst hq
        exact x_lret hx hb hr hlk rfl rfl dX10_lowest_47
      · replace h := (if_pos hc102).symm.trans h
        refine lv_lload_n hx hb dX10_lowest_36 rfl (lv_at hl 0 rfl) ?_
        refine lv_lload hx hb dX10_lowest_37 (lv_at hl 3 rfl) ?_
        obtain ⟨hz104, h⟩ := x_needs h
        refine lv_ldiv hx hb dX10_lowest_39 hz104 ?_
        refine lv_goto (tgt := 47) hx hb dX10_lowest_40 (by decide) ?_
        have hq : (v0 / v5) = out := by cases h; exact (e1 _ ho)
        subst hq
        exact x_lret hx hb hr hlk rfl rfl dX10_lowest_47
    · replace h := (if_neg hc101).symm.trans h
      refine lv_lload hx hb dX10_lowest_13 (lv_at hl 3 rfl) ?_
      refine lv_lload hx hb dX10_lowest_15 (lv_at hl 4 rfl) ?_
      obtain ⟨hz105, h⟩ := x_needs h
      refine lv_lrem hx hb dX10_lowest_17 hz105 ?_
      refine lv_lstore (lv' := [(9, .long (v5 - v5 / v7 * v7)), (0, .long v0), (2, .long v2), (4, .int v4), (5, .long v5), (7, .long v7)]) hx hb dX10_lowest_18 hl (by decide) rfl (fun ls hl => ?_)
      refine lv_lload hx hb dX10_lowest_20 (lv_at hl 5 rfl) ?_
      refine lv_lstore (lv' := [(5, .long v7), (9, .long (v5 - v5 / v7 * v7)), (0, .long v0), (2, .long v2), (4, .int v4), (7, .long v7)]) hx hb dX10_lowest_22 hl (by decide) rfl (fun ls hl => ?_)
      refine lv_lload hx hb dX10_lowest_24 (lv_at hl 1 rfl) ?_
      refine lv_lstore (lv' := [(7, .long (v5 - v5 / v7 * v7)), (5, .long v7), (9, .long (v5 - v5 / v7 * v7)), (0, .long v0), (2, .long v2), (4, .int v4)]) hx hb dX10_lowest_26 hl (by decide) rfl (fun ls hl => ?_)
      refine lv_goto (tgt := 6) hx hb dX10_lowest_28 (by decide) ?_
      exact i1 (v7, (v5 - v5 / v7 * v7)) (by cases h; exact ho) ls (lv_sub hl [3, 4, 5, 1, 0] rfl)
  unfold mX10_lowest at h
  refine lv_lload_n hx hb dX10_lowest_0 rfl (lv_at hl 0 rfl) ?_
  refine lv_lstore (lv' := [(5, .long p0), (0, .long p0), (2, .long p1), (4, .int p2)]) hx hb dX10_lowest_1 hl (by decide) rfl (fun ls hl => ?_)
  refine lv_lload_n hx hb dX10_lowest_3 rfl (lv_at hl 2 rfl) ?_
  refine lv_lstore (lv' := [(7, .long p1), (5, .long p0), (0, .long p0), (2, .long p1), (4, .int p2)]) hx hb dX10_lowest_4 hl (by decide) rfl (fun ls hl => ?_)
  exact J6 p0 p1 p2 p0 p1 ls (lv_sub hl [2, 3, 4, 1, 0] rfl) _ h ho
noncomputable def mX10_hour (mind : Int32) (needle : Int32) (stick : Int32) (p0 : Int32) : Option (Int32 × Int32 × Int32) :=
  (mX10_in ((Int32.toInt64 p0)) 0 99).bind (fun r501 => if (xb r501) = 0 then (some ((-2), mind, needle)) else ((mX10_apart (((mind + p0) / 2)) needle).bind (fun r503 => if r503 ≤ stick then (some (needle, ((mind + p0) / 2), needle)) else (some (((mind + p0) / 2), ((mind + p0) / 2), ((mind + p0) / 2))))))
set_option maxHeartbeats 4000000 in
set_option maxRecDepth 100000 in
theorem kX10_hour (l : Launch) (G : xG) (H0 : Heap) {q_this q_years q_months q_presses q_winds q_skies q_rains q_wires q_signs q_cases q_caseFrom q_caseTells q_testAsks q_testHow q_testNumber q_glassX q_glassY q_glassPress q_glassWind q_dry q_value q_doing q_kept q_isKept : Nat} {mind : Int32} {needle : Int32} {stick : Int32} {days : Int32} {signMany : Int32} {keys : Int32} {weight : Int32} {care : Int32} {scoreSum : Int64} {scoreDays : Int64} {triedSpoken : Int32} {triedRain : Int32} {triedTaken : Int32} {triedBoth : Int32} {glasses : Int32} {keptAt : Int32} {isWriting : Int32} {p0 : Int32} (w0 : va_W) (hw0 : w0 = [(q_this, .inr (10, [.int mind, .int needle, .int stick, .ref q_years, .ref q_months, .ref q_presses, .ref q_winds, .ref q_skies, .ref q_rains, .ref q_wires, .int days, .ref q_signs, .int signMany, .ref q_cases, .ref q_caseFrom, .ref q_caseTells, .ref q_testAsks, .ref q_testHow, .ref q_testNumber, .int keys, .int weight, .int care, .long scoreSum, .long scoreDays, .int triedSpoken, .int triedRain, .int triedTaken, .int triedBoth, .ref q_glassX, .ref q_glassY, .ref q_glassPress, .ref q_glassWind, .int glasses, .ref q_dry, .ref q_value, .ref q_doing, .ref q_kept, .ref q_isKept, .int keptAt, .int isWriting]))]) (hP : va_P (xD G) vwCl w0 H0) (hD : va_D (fun _ => True) w0) {out : Int32 × Int32 × Int32} (h : mX10_hour mind needle stick p0 = some out) : Met l yX10_hour wsX10_hour ({ frames := 1, cells := 0, slots := 0, locals := 25 }) (xPcw G (va_A w0 H0.size) H0 [.ref q_this, .int p0]) (xRi G (va_A w0 H0.size) [(q_this, .inr (10, [.int out.2.1, .int out.2.2, .int stick, .ref q_years, .ref q_months, .ref q_presses, .ref q_winds, .ref q_skies, .ref q_rains, .ref q_wires, .int days, .ref q_signs, .int signMany, .ref q_cases, .ref q_caseFrom, .ref q_caseTells, .ref q_testAsks, .ref q_testHow, .ref q_testNumber, .int keys, .int weight, .int care, .long scoreSum, .long scoreDays, .int triedSpoken, .int triedRain, .int triedTaken, .int triedBoth, .ref q_glassX, .ref q_glassY, .ref q_glassPress, .ref q_glassWind, .int glasses, .ref q_dry, .ref q_value, .ref q_doing, .ref q_kept, .ref q_isKept, .int keptAt, .int isWriting]))] (out.1)) 0 0 (va_A w0 H0.size) := by
  refine x_metw (y := yX10_hour) (ws := wsX10_hour) (rm := { frames := 1, cells := 0, slots := 0, locals := 25 }) (G := G) (H0 := H0) (w0 := w0) (av := [.ref q_this, .int p0]) (mc := 0) (ms := 0) (Qc := (fun A => (xRi G A [(q_this, .inr (10, [.int out.2.1, .int out.2.2, .int stick, .ref q_years, .ref q_months, .ref q_presses, .ref q_winds, .ref q_skies, .ref q_rains, .ref q_wires, .int days, .ref q_signs, .int signMany, .ref q_cases, .ref q_caseFrom, .ref q_caseTells, .ref q_testAsks, .ref q_testHow, .ref q_testNumber, .int keys, .int weight, .int care, .long scoreSum, .long scoreDays, .int triedSpoken, .int triedRain, .int triedTaken, .int triedBoth, .ref q_glassX, .ref q_glassY, .ref q_glassPress, .ref q_glassWind, .int glasses, .ref q_dry, .ref q_value, .ref q_doing, .ref q_kept, .ref q_isKept, .int keptAt, .int isWriting]))] (out.1)))) (by decide) rfl (Nat.le_of_ble_eq_true rfl) hP hD ?_
  clear hP hD
  intro p e s m below meth c ls A H locs hA hAt hnm hl hP hD hS
  subst hw0
  obtain ⟨hx, hb, hr, hlk, hml, hown, hts, hE⟩ := hAt
  have hown : s.vm.findClass RX10 = some m.cls := hown
  have hl : lv_has ls 2 [(0, .ref q_this), (1, .int p0)] := hl
  have ho : out = out := rfl
  unfold mX10_hour at h
  refine lv_iload_n hx hb dX10_hour_0 rfl (lv_at hl 1 rfl) ?_
  refine lv_i2l (v := (Int32.toInt64 p0)) hx hb dX10_hour_1 rfl ?_
  refine lv_lconst (v := 0) hx hb dX10_hour_2 (by decide) ?_
  refine lv_ldc2 (v := 99) hx hb hown (hts (.constantLong RX10 103 (99)) (List.mem_of_getElem? (i := 1) rfl)) dX10_hour_3 ?_
  obtain ⟨r501, hr501, h⟩ := x_bind h
  refine x_calli (va_runS (As := [.long (Int32.toInt64 p0), .long 0, .long 99]) (rest := []) ⟨hx, hb, hml, hown, hts⟩ (kX10_in l G H hr501) (va_cwS 3 hts gX10_hour_X10_in rfl rfl rfl (by decide +kernel) ⟨Nat.le_of_ble_eq_true rfl, Nat.le_of_ble_eq_true rfl⟩) (x_preS hE hS) rfl rfl hl.1 rfl (lv_room (Nat.le_of_ble_eq_true rfl)) dX10_hour_6 ⟨Nat.le_of_ble_eq_true rfl, Nat.le_of_ble_eq_true rfl⟩) ?_
  refine lv_if_ne (tgt := 15) hx hb dX10_hour_9 (by decide) (fun hc502 => ?_) (fun hc502 => ?_)
  · replace h := (if_neg hc502).symm.trans h
    refine lv_aload_n hx hb dX10_hour_15 rfl (lv_at hl 0 rfl) ?_
    refine lv_aload_n hx hb dX10_hour_16 rfl (lv_at hl 0 rfl) ?_
    refine va_get (D := xD G) (ci := 10) (v := .int mind) (C := RX10) (T := TX10) (N := 40) hx hb hts (fun w9 h9 => (List.mem_cons_of_mem _ (List.mem_append_right _ h9))) hown hE.1 hP 0 rfl rfl 0 (by decide) (hts (.fieldLink RX10 80 "FallingGlassModel" "mind" "I") (List.mem_of_getElem? (i := 2) rfl)) (fun _ h9 => h9) rfl dX10_hour_17 ?_
    refine lv_iload_n hx hb dX10_hour_20 rfl (lv_at hl 1 rfl) ?_
    refine lv_iadd hx hb dX10_hour_21 ?_
    refine lv_iconst (v := 2) hx hb dX10_hour_22 (by decide) ?_
    refine lv_idiv hx hb dX10_hour_23 (by decide) ?_
    refine va_put (D := xD G) (ci := 10) (v := .int ((mind + p0) / 2)) (ty := .int) (C := RX10) (T := TX10) (N := 40) hx hb hts (fun w9 h9 => (List.mem_cons_of_mem _ (List.mem_append_right _ h9))) tyX10 tyX10_ok nmX10 hown hE.1 hP hD hS 0 rfl rfl 0 (by decide) (hts (.fieldLink RX10 80 "FallingGlassModel" "mind" "I") (List.mem_of_getElem? (i := 2) rfl)) (fun _ h9 => h9) rfl (by decide +kernel) rfl rfl (Nat.le_of_ble_eq_true rfl) dX10_hour_24 (fun H locs hP hD hS => ?_)
    have hP : va_P (xD G) vwCl [(q_this, .inr (10, [.int ((mind + p0) / 2), .int needle, .int stick, .ref q_years, .ref q_months, .ref q_presses, .ref q_winds, .ref q_skies, .ref q_rains, .ref q_wires, .int days, .ref q_signs, .int signMany, .ref q_cases, .ref q_caseFrom, .ref q_caseTells, .ref q_testAsks, .ref q_testHow, .ref q_testNumber, .int keys, .int weight, .int care, .long scoreSum, .long scoreDays, .int triedSpoken, .int triedRain, .int triedTaken, .int triedBoth, .ref q_glassX, .ref q_glassY, .ref q_glassPress, .ref q_glassWind, .int glasses, .ref q_dry, .ref q_value, .ref q_doing, .ref q_kept, .ref q_isKept, .int keptAt, .int isWriting]))] H := hP
    have hD : va_D A [(q_this, .inr (10, [.int ((mind + p0) / 2), .int needle, .int stick, .ref q_years, .ref q_months, .ref q_presses, .ref q_winds, .ref q_skies, .ref q_rains, .ref q_wires, .int days, .ref q_signs, .int signMany, .ref q_cases, .ref q_caseFrom, .ref q_caseTells, .ref q_testAsks, .ref q_testHow, .ref q_testNumber, .int keys, .int weight, .int care, .long scoreSum, .long scoreDays, .int triedSpoken, .int triedRain, .int triedTaken, .int triedBoth, .ref q_glassX, .ref q_glassY, .ref q_glassPress, .ref q_glassWind, .int glasses, .ref q_dry, .ref q_value, .ref q_doing, .ref q_kept, .ref q_isKept, .int keptAt, .int isWriting]))] := hD
    refine lv_aload_n hx hb dX10_hour_27 rfl (lv_at hl 0 rfl) ?_
    refine lv_aload_n hx hb dX10_hour_28 rfl (lv_at hl 0 rfl) ?_
    refine va_get (D := xD G) (ci := 10) (v := .int ((mind + p0) / 2)) (C := RX10) (T := TX10) (N := 40) hx hb hts (fun w9 h9 => (List.mem_cons_of_mem _ (List.mem_append_right _ h9))) hown hE.1 hP 0 rfl rfl 0 (by decide) (hts (.fieldLink RX10 80 "FallingGlassModel" "mind" "I") (List.mem_of_getElem? (i := 2) rfl)) (fun _ h9 => h9) rfl dX10_hour_29 ?_
    refine lv_aload_n hx hb dX10_hour_32 rfl (lv_at hl 0 rfl) ?_
    refine va_get (D := xD G) (ci := 10) (v := .int needle) (C := RX10) (T := TX10) (N := 40) hx hb hts (fun w9 h9 => (List.mem_cons_of_mem _ (List.mem_append_right _ h9))) hown hE.1 hP 0 rfl rfl 1 (by decide) (hts (.fieldLink RX10 84 "FallingGlassModel" "needle" "I") (List.mem_of_getElem? (i := 3) rfl)) (fun _ h9 => h9) rfl dX10_hour_33 ?_
    obtain ⟨r503, hr503, h⟩ := x_bind h
    refine x_calli (va_runS (As := [.int ((mind + p0) / 2), .int needle]) (rest := [.ref q_this]) ⟨hx, hb, hml, hown, hts⟩ (kX10_apart l G H hr503) (va_cwS 2 hts gX10_hour_X10_apart rfl rfl rfl (by decide +kernel) ⟨Nat.le_of_ble_eq_true rfl, Nat.le_of_ble_eq_true rfl⟩) (x_preS hE hS) rfl rfl hl.1 rfl (lv_room (Nat.le_of_ble_eq_true rfl)) dX10_hour_36 ⟨Nat.le_of_ble_eq_true rfl, Nat.le_of_ble_eq_true rfl⟩) ?_
    refine lv_aload_n hx hb dX10_hour_39 rfl (lv_at hl 0 rfl) ?_
    refine va_get (D := xD G) (ci := 10) (v := .int stick) (C := RX10) (T := TX10) (N := 40) hx hb hts (fun w9 h9 => (List.mem_cons_of_mem _ (List.mem_append_right _ h9))) hown hE.1 hP 0 rfl rfl 2 (by decide) (hts (.fieldLink RX10 87 "FallingGlassModel" "stick" "I") (List.mem_of_getElem? (i := 4) rfl)) (fun _ h9 => h9) rfl dX10_hour_40 ?_
    refine lv_icmp_le (tgt := 53) hx hb dX10_hour_43 (by decide) (fun hc504 => ?_) (fun hc504 => ?_)
    · replace h := (if_pos hc504).symm.trans h
      refine lv_aload_n hx hb dX10_hour_53 rfl (lv_at hl 0 rfl) ?_
      refine va_get (D := xD G) (ci := 10) (v := .int needle) (C := RX10) (T := TX10) (N := 40) hx hb hts (fun w9 h9 => (List.mem_cons_of_mem _ (List.mem_append_right _ h9))) hown hE.1 hP 0 rfl rfl 1 (by decide) (hts (.fieldLink RX10 84 "FallingGlassModel" "needle" "I") (List.mem_of_getElem? (i := 3) rfl)) (fun _ h9 => h9) rfl dX10_hour_54 ?_
      refine va_put (D := xD G) (ci := 10) (v := .int needle) (ty := .int) (C := RX10) (T := TX10) (N := 40) hx hb hts (fun w9 h9 => (List.mem_cons_of_mem _ (List.mem_append_right _ h9))) tyX10 tyX10_ok nmX10 hown hE.1 hP hD hS 0 rfl rfl 1 (by decide) (hts (.fieldLink RX10 84 "FallingGlassModel" "needle" "I") (List.mem_of_getElem? (i := 3) rfl)) (fun _ h9 => h9) rfl (by decide +kernel) rfl rfl (Nat.le_of_ble_eq_true rfl) dX10_hour_57 (fun H locs hP hD hS => ?_)
      have hP : va_P (xD G) vwCl [(q_this, .inr (10, [.int ((mind + p0) / 2), .int needle, .int stick, .ref q_years, .ref q_months, .ref q_presses, .ref q_winds, .ref q_skies, .ref q_rains, .ref q_wires, .int days, .ref q_signs, .int signMany, .ref q_cases, .ref q_caseFrom, .ref q_caseTells, .ref q_testAsks, .ref q_testHow, .ref q_testNumber, .int keys, .int weight, .int care, .long scoreSum, .long scoreDays, .int triedSpoken, .int triedRain, .int triedTaken, .int triedBoth, .ref q_glassX, .ref q_glassY, .ref q_glassPress, .ref q_glassWind, .int glasses, .ref q_dry, .ref q_value, .ref q_doing, .ref q_kept, .ref q_isKept, .int keptAt, .int isWriting]))] H := hP
      have hD : va_D A [(q_this, .inr (10, [.int ((mind + p0) / 2), .int needle, .int stick, .ref q_years, .ref q_months, .ref q_presses, .ref q_winds, .ref q_skies, .ref q_rains, .ref q_wires, .int days, .ref q_signs, .int signMany, .ref q_cases, .ref q_caseFrom, .ref q_caseTells, .ref q_testAsks, .ref q_testHow, .ref q_testNumber, .int keys, .int weight, .int care, .long scoreSum, .long scoreDays, .int triedSpoken, .int triedRain, .int triedTaken, .int triedBoth, .ref q_glassX, .ref q_glassY, .ref q_glassPress, .ref q_glassWind, .int glasses, .ref q_dry, .ref q_value, .ref q_doing, .ref q_kept, .ref q_isKept, .int keptAt, .int isWriting]))] := hD
      refine lv_aload_n hx hb dX10_hour_60 rfl (lv_at hl 0 rfl) ?_
      refine va_get (D := xD G) (ci := 10) (v := .int needle) (C := RX10) (T := TX10) (N := 40) hx hb hts (fun w9 h9 => (List.mem_cons_of_mem _ (List.mem_append_right _ h9))) hown hE.1 hP 0 rfl rfl 1 (by decide) (hts (.fieldLink RX10 84 "FallingGlassModel" "needle" "I") (List.mem_of_getElem? (i := 3) rfl)) (fun _ h9 => h9) rfl dX10_hour_61 ?_
      have hq : (needle, ((mind + p0) / 2), needle) = out := by cases h; exact ho
      subst hq
      have hP : va_P (xD G) vwCl [(q_this, .inr (10, [.int ((mind + p0) / 2), .int needle, .int stick, .ref q_years, .ref q_months, .ref q_presses, .ref q_winds, .ref q_skies, .ref q_rains, .ref q_wires, .int days, .ref q_signs, .int signMany, .ref q_cases, .ref q_caseFrom, .ref q_caseTells, .ref q_testAsks, .ref q_testHow, .ref q_testNumber, .int keys, .int weight, .int care, .long scoreSum, .long scoreDays, .int triedSpoken, .int triedRain, .int triedTaken, .int triedBoth, .ref q_glassX, .ref q_glassY, .ref q_glassPress, .ref q_glassWind, .int glasses, .ref q_dry, .ref q_value, .ref q_doing, .ref q_kept, .ref q_isKept, .int keptAt, .int isWriting]))] H := hP
      have hD : va_D A [(q_this, .inr (10, [.int ((mind + p0) / 2), .int needle, .int stick, .ref q_years, .ref q_months, .ref q_presses, .ref q_winds, .ref q_skies, .ref q_rains, .ref q_wires, .int days, .ref q_signs, .int signMany, .ref q_cases, .ref q_caseFrom, .ref q_caseTells, .ref q_testAsks, .ref q_testHow, .ref q_testNumber, .int keys, .int weight, .int care, .long scoreSum, .long scoreDays, .int triedSpoken, .int triedRain, .int triedTaken, .int triedBoth, .ref q_glassX, .ref q_glassY, .ref q_glassPress, .ref q_glassWind, .int glasses, .ref q_dry, .ref q_value, .ref q_doing, .ref q_kept, .ref q_isKept, .int keptAt, .int isWriting]))] := hD
      exact x_iretw hx hb hr hlk hP hD hS rfl dX10_hour_64
    · replace h := (if_neg hc504).symm.trans h
      refine lv_aload_n hx hb dX10_hour_46 rfl (lv_at hl 0 rfl) ?_
      refine va_get (D := xD G) (ci := 10) (v := .int ((mind + p0) / 2)) (C := RX10) (T := TX10) (N := 40) hx hb hts (fun w9 h9 => (List.mem_cons_of_mem _ (List.mem_append_right _ h9))) hown hE.1 hP 0 rfl rfl 0 (by decide) (hts (.fieldLink RX10 80 "FallingGlassModel" "mind" "I") (List.mem_of_getElem? (i := 2) rfl)) (fun _ h9 => h9) rfl dX10_hour_47 ?_
      refine lv_goto (tgt := 57) hx hb dX10_hour_50 (by decide) ?_
      refine va_put (D := xD G) (ci := 10) (v := .int ((mind + p0) / 2)) (ty := .int) (C := RX10) (T := TX10) (N := 40) hx hb hts (fun w9 h9 => (List.mem_cons_of_mem _ (List.mem_append_right _ h9))) tyX10 tyX10_ok nmX10 hown hE.1 hP hD hS 0 rfl rfl 1 (by decide) (hts (.fieldLink RX10 84 "FallingGlassModel" "needle" "I") (List.mem_of_getElem? (i := 3) rfl)) (fun _ h9 => h9) rfl (by decide +kernel) rfl rfl (Nat.le_of_ble_eq_true rfl) dX10_hour_57 (fun H locs hP hD hS => ?_)
      have hP : va_P (xD G) vwCl [(q_this, .inr (10, [.int ((mind + p0) / 2), .int ((mind + p0) / 2), .int stick, .ref q_years, .ref q_months, .ref q_presses, .ref q_winds, .ref q_skies, .ref q_rains, .ref q_wires, .int days, .ref q_signs, .int signMany, .ref q_cases, .ref q_caseFrom, .ref q_caseTells, .ref q_testAsks, .ref q_testHow, .ref q_testNumber, .int keys, .int weight, .int care, .long scoreSum, .long scoreDays, .int triedSpoken, .int triedRain, .int triedTaken, .int triedBoth, .ref q_glassX, .ref q_glassY, .ref q_glassPress, .ref q_glassWind, .int glasses, .ref q_dry, .ref q_value, .ref q_doing, .ref q_kept, .ref q_isKept, .int keptAt, .int isWriting]))] H := hP
      have hD : va_D A [(q_this, .inr (10, [.int ((mind + p0) / 2), .int ((mind + p0) / 2), .int stick, .ref q_years, .ref q_months, .ref q_presses, .ref q_winds, .ref q_skies, .ref q_rains, .ref q_wires, .int days, .ref q_signs, .int signMany, .ref q_cases, .ref q_caseFrom, .ref q_caseTells, .ref q_testAsks, .ref q_testHow, .ref q_testNumber, .int keys, .int weight, .int care, .long scoreSum, .long scoreDays, .int triedSpoken, .int triedRain, .int triedTaken, .int triedBoth, .ref q_glassX, .ref q_glassY, .ref q_glassPress, .ref q_glassWind, .int glasses, .ref q_dry, .ref q_value, .ref q_doing, .ref q_kept, .ref q_isKept, .int keptAt, .int isWriting]))] := hD
      refine lv_aload_n hx hb dX10_hour_60 rfl (lv_at hl 0 rfl) ?_
      refine va_get (D := xD G) (ci := 10) (v := .int ((mind + p0) / 2)) (C := RX10) (T := TX10) (N := 40) hx hb hts (fun w9 h9 => (List.mem_cons_of_mem _ (List.mem_append_right _ h9))) hown hE.1 hP 0 rfl rfl 1 (by decide) (hts (.fieldLink RX10 84 "FallingGlassModel" "needle" "I") (List.mem_of_getElem? (i := 3) rfl)) (fun _ h9 => h9) rfl dX10_hour_61 ?_
      have hq : (((mind + p0) / 2), ((mind + p0) / 2), ((mind + p0) / 2)) = out := by cases h; exact ho
      subst hq
      have hP : va_P (xD G) vwCl [(q_this, .inr (10, [.int ((mind + p0) / 2), .int ((mind + p0) / 2), .int stick, .ref q_years, .ref q_months, .ref q_presses, .ref q_winds, .ref q_skies, .ref q_rains, .ref q_wires, .int days, .ref q_signs, .int signMany, .ref q_cases, .ref q_caseFrom, .ref q_caseTells, .ref q_testAsks, .ref q_testHow, .ref q_testNumber, .int keys, .int weight, .int care, .long scoreSum, .long scoreDays, .int triedSpoken, .int triedRain, .int triedTaken, .int triedBoth, .ref q_glassX, .ref q_glassY, .ref q_glassPress, .ref q_glassWind, .int glasses, .ref q_dry, .ref q_value, .ref q_doing, .ref q_kept, .ref q_isKept, .int keptAt, .int isWriting]))] H := hP
      have hD : va_D A [(q_this, .inr (10, [.int ((mind + p0) / 2), .int ((mind + p0) / 2), .int stick, .ref q_years, .ref q_months, .ref q_presses, .ref q_winds, .ref q_skies, .ref q_rains, .ref q_wires, .int days, .ref q_signs, .int signMany, .ref q_cases, .ref q_caseFrom, .ref q_caseTells, .ref q_testAsks, .ref q_testHow, .ref q_testNumber, .int keys, .int weight, .int care, .long scoreSum, .long scoreDays, .int triedSpoken, .int triedRain, .int triedTaken, .int triedBoth, .ref q_glassX, .ref q_glassY, .ref q_glassPress, .ref q_glassWind, .int glasses, .ref q_dry, .ref q_value, .ref q_doing, .ref q_kept, .ref q_isKept, .int keptAt, .int isWriting]))] := hD
      exact x_iretw hx hb hr hlk hP hD hS rfl dX10_hour_64
  · replace h := (if_pos hc502).symm.trans h
    refine lv_bipush (v := (-2)) hx hb dX10_hour_12 (by decide) ?_
    have hq : ((-2), mind, needle) = out := by cases h; exact ho
    subst hq
    have hP : va_P (xD G) vwCl [(q_this, .inr (10, [.int mind, .int needle, .int stick, .ref q_years, .ref q_months, .ref q_presses, .ref q_winds, .ref q_skies, .ref q_rains, .ref q_wires, .int days, .ref q_signs, .int signMany, .ref q_cases, .ref q_caseFrom, .ref q_caseTells, .ref q_testAsks, .ref q_testHow, .ref q_testNumber, .int keys, .int weight, .int care, .long scoreSum, .long scoreDays, .int triedSpoken, .int triedRain, .int triedTaken, .int triedBoth, .ref q_glassX, .ref q_glassY, .ref q_glassPress, .ref q_glassWind, .int glasses, .ref q_dry, .ref q_value, .ref q_doing, .ref q_kept, .ref q_isKept, .int keptAt, .int isWriting]))] H := hP
    have hD : va_D A [(q_this, .inr (10, [.int mind, .int needle, .int stick, .ref q_years, .ref q_months, .ref q_presses, .ref q_winds, .ref q_skies, .ref q_rains, .ref q_wires, .int days, .ref q_signs, .int signMany, .ref q_cases, .ref q_caseFrom, .ref q_caseTells, .ref q_testAsks, .ref q_testHow, .ref q_testNumber, .int keys, .int weight, .int care, .long scoreSum, .long scoreDays, .int triedSpoken, .int triedRain, .int triedTaken, .int triedBoth, .ref q_glassX, .ref q_glassY, .ref q_glassPress, .ref q_glassWind, .int glasses, .ref q_dry, .ref q_value, .ref q_doing, .ref q_kept, .ref q_isKept, .int keptAt, .int isWriting]))] := hD
    exact x_iretw hx hb hr hlk hP hD hS rfl dX10_hour_14
noncomputable def mX10_tap (mind : Int32) (needle : Int32)  : Option (Int32 × Int32) :=
  some ((mind - needle), mind)
set_option maxHeartbeats 4000000 in
set_option maxRecDepth 100000 in
theorem kX10_tap (l : Launch) (G : xG) (H0 : Heap) {q_this q_years q_months q_presses q_winds q_skies q_rains q_wires q_signs q_cases q_caseFrom q_caseTells q_testAsks q_testHow q_testNumber q_glassX q_glassY q_glassPress q_glassWind q_dry q_value q_doing q_kept q_isKept : Nat} {mind : Int32} {needle : Int32} {stick : Int32} {days : Int32} {signMany : Int32} {keys : Int32} {weight : Int32} {care : Int32} {scoreSum : Int64} {scoreDays : Int64} {triedSpoken : Int32} {triedRain : Int32} {triedTaken : Int32} {triedBoth : Int32} {glasses : Int32} {keptAt : Int32} {isWriting : Int32} (w0 : va_W) (hw0 : w0 = [(q_this, .inr (10, [.int mind, .int needle, .int stick, .ref q_years, .ref q_months, .ref q_presses, .ref q_winds, .ref q_skies, .ref q_rains, .ref q_wires, .int days, .ref q_signs, .int signMany, .ref q_cases, .ref q_caseFrom, .ref q_caseTells, .ref q_testAsks, .ref q_testHow, .ref q_testNumber, .int keys, .int weight, .int care, .long scoreSum, .long scoreDays, .int triedSpoken, .int triedRain, .int triedTaken, .int triedBoth, .ref q_glassX, .ref q_glassY, .ref q_glassPress, .ref q_glassWind, .int glasses, .ref q_dry, .ref q_value, .ref q_doing, .ref q_kept, .ref q_isKept, .int keptAt, .int isWriting]))]) (hP : va_P (xD G) vwCl w0 H0) (hD : va_D (fun _ => True) w0) {out : Int32 × Int32} (h : mX10_tap mind needle = some out) : Met l yX10_tap wsX10_tap ({ frames := 0, cells := 0, slots := 0, locals := 0 }) (xPcw G (va_A w0 H0.size) H0 [.ref q_this]) (xRi G (va_A w0 H0.size) [(q_this, .inr (10, [.int mind, .int out.2, .int stick, .ref q_years, .ref q_months, .ref q_presses, .ref q_winds, .ref q_skies, .ref q_rains, .ref q_wires, .int days, .ref q_signs, .int signMany, .ref q_cases, .ref q_caseFrom, .ref q_caseTells, .ref q_testAsks, .ref q_testHow, .ref q_testNumber, .int keys, .int weight, .int care, .long scoreSum, .long scoreDays, .int triedSpoken, .int triedRain, .int triedTaken, .int triedBoth, .ref q_glassX, .ref q_glassY, .ref q_glassPress, .ref q_glassWind, .int glasses, .ref q_dry, .ref q_value, .ref q_doing, .ref q_kept, .ref q_isKept, .int keptAt, .int isWriting]))] (out.1)) 0 0 (va_A w0 H0.size) := by
  refine x_metw (y := yX10_tap) (ws := wsX10_tap) (rm := { frames := 0, cells := 0, slots := 0, locals := 0 }) (G := G) (H0 := H0) (w0 := w0) (av := [.ref q_this]) (mc := 0) (ms := 0) (Qc := (fun A => (xRi G A [(q_this, .inr (10, [.int mind, .int out.2, .int stick, .ref q_years, .ref q_months, .ref q_presses, .ref q_winds, .ref q_skies, .ref q_rains, .ref q_wires, .int days, .ref q_signs, .int signMany, .ref q_cases, .ref q_caseFrom, .ref q_caseTells, .ref q_testAsks, .ref q_testHow, .ref q_testNumber, .int keys, .int weight, .int care, .long scoreSum, .long scoreDays, .int triedSpoken, .int triedRain, .int triedTaken, .int triedBoth, .ref q_glassX, .ref q_glassY, .ref q_glassPress, .ref q_glassWind, .int glasses, .ref q_dry, .ref q_value, .ref q_doing, .ref q_kept, .ref q_isKept, .int keptAt, .int isWriting]))] (out.1)))) (by decide) rfl (Nat.le_of_ble_eq_true rfl) hP hD ?_
  clear hP hD
  intro p e s m below meth c ls A H locs hA hAt hnm hl hP hD hS
  subst hw0
  obtain ⟨hx, hb, hr, hlk, hml, hown, hts, hE⟩ := hAt
  have hown : s.vm.findClass RX10 = some m.cls := hown
  have hl : lv_has ls 2 [(0, .ref q_this)] := hl
  have ho : out = out := rfl
  unfold mX10_tap at h
  refine lv_aload_n hx hb dX10_tap_0 rfl (lv_at hl 0 rfl) ?_
  refine va_get (D := xD G) (ci := 10) (v := .int mind) (C := RX10) (T := TX10) (N := 40) hx hb hts (fun w9 h9 => (List.mem_cons_of_mem _ (List.mem_append_right _ h9))) hown hE.1 hP 0 rfl rfl 0 (by decide) (hts (.fieldLink RX10 80 "FallingGlassModel" "mind" "I") (List.mem_of_getElem? (i := 1) rfl)) (fun _ h9 => h9) rfl dX10_tap_1 ?_
  refine lv_aload_n hx hb dX10_tap_4 rfl (lv_at hl 0 rfl) ?_
  refine va_get (D := xD G) (ci := 10) (v := .int needle) (C := RX10) (T := TX10) (N := 40) hx hb hts (fun w9 h9 => (List.mem_cons_of_mem _ (List.mem_append_right _ h9))) hown hE.1 hP 0 rfl rfl 1 (by decide) (hts (.fieldLink RX10 84 "FallingGlassModel" "needle" "I") (List.mem_of_getElem? (i := 2) rfl)) (fun _ h9 => h9) rfl dX10_tap_5 ?_
  refine lv_isub hx hb dX10_tap_8 ?_
  refine lv_istore_n (lv' := [(1, .int (mind - needle)), (0, .ref q_this)]) hx hb dX10_tap_9 rfl hl (by decide) rfl (fun ls hl => ?_)
  refine lv_aload_n hx hb dX10_tap_10 rfl (lv_at hl 1 rfl) ?_
  refine lv_aload_n hx hb dX10_tap_11 rfl (lv_at hl 1 rfl) ?_
  refine va_get (D := xD G) (ci := 10) (v := .int mind) (C := RX10) (T := TX10) (N := 40) hx hb hts (fun w9 h9 => (List.mem_cons_of_mem _ (List.mem_append_right _ h9))) hown hE.1 hP 0 rfl rfl 0 (by decide) (hts (.fieldLink RX10 80 "FallingGlassModel" "mind" "I") (List.mem_of_getElem? (i := 1) rfl)) (fun _ h9 => h9) rfl dX10_tap_12 ?_
  refine va_put (D := xD G) (ci := 10) (v := .int mind) (ty := .int) (C := RX10) (T := TX10) (N := 40) hx hb hts (fun w9 h9 => (List.mem_cons_of_mem _ (List.mem_append_right _ h9))) tyX10 tyX10_ok nmX10 hown hE.1 hP hD hS 0 rfl rfl 1 (by decide) (hts (.fieldLink RX10 84 "FallingGlassModel" "needle" "I") (List.mem_of_getElem? (i := 2) rfl)) (fun _ h9 => h9) rfl (by decide +kernel) rfl rfl (Nat.le_of_ble_eq_true rfl) dX10_tap_15 (fun H locs hP hD hS => ?_)
  have hP : va_P (xD G) vwCl [(q_this, .inr (10, [.int mind, .int mind, .int stick, .ref q_years, .ref q_months, .ref q_presses, .ref q_winds, .ref q_skies, .ref q_rains, .ref q_wires, .int days, .ref q_signs, .int signMany, .ref q_cases, .ref q_caseFrom, .ref q_caseTells, .ref q_testAsks, .ref q_testHow, .ref q_testNumber, .int keys, .int weight, .int care, .long scoreSum, .long scoreDays, .int triedSpoken, .int triedRain, .int triedTaken, .int triedBoth, .ref q_glassX, .ref q_glassY, .ref q_glassPress, .ref q_glassWind, .int glasses, .ref q_dry, .ref q_value, .ref q_doing, .ref q_kept, .ref q_isKept, .int keptAt, .int isWriting]))] H := hP
  have hD : va_D A [(q_this, .inr (10, [.int mind, .int mind, .int stick, .ref q_years, .ref q_months, .ref q_presses, .ref q_winds, .ref q_skies, .ref q_rains, .ref q_wires, .int days, .ref q_signs, .int signMany, .ref q_cases, .ref q_caseFrom, .ref q_caseTells, .ref q_testAsks, .ref q_testHow, .ref q_testNumber, .int keys, .int weight, .int care, .long scoreSum, .long scoreDays, .int triedSpoken, .int triedRain, .int triedTaken, .int triedBoth, .ref q_glassX, .ref q_glassY, .ref q_glassPress, .ref q_glassWind, .int glasses, .ref q_dry, .ref q_value, .ref q_doing, .ref q_kept, .ref q_isKept, .int keptAt, .int isWriting]))] := hD
  refine lv_iload_n hx hb dX10_tap_18 rfl (lv_at hl 0 rfl) ?_
  have hq : ((mind - needle), mind) = out := by cases h; exact ho
  subst hq
  have hP : va_P (xD G) vwCl [(q_this, .inr (10, [.int mind, .int mind, .int stick, .ref q_years, .ref q_months, .ref q_presses, .ref q_winds, .ref q_skies, .ref q_rains, .ref q_wires, .int days, .ref q_signs, .int signMany, .ref q_cases, .ref q_caseFrom, .ref q_caseTells, .ref q_testAsks, .ref q_testHow, .ref q_testNumber, .int keys, .int weight, .int care, .long scoreSum, .long scoreDays, .int triedSpoken, .int triedRain, .int triedTaken, .int triedBoth, .ref q_glassX, .ref q_glassY, .ref q_glassPress, .ref q_glassWind, .int glasses, .ref q_dry, .ref q_value, .ref q_doing, .ref q_kept, .ref q_isKept, .int keptAt, .int isWriting]))] H := hP
  have hD : va_D A [(q_this, .inr (10, [.int mind, .int mind, .int stick, .ref q_years, .ref q_months, .ref q_presses, .ref q_winds, .ref q_skies, .ref q_rains, .ref q_wires, .int days, .ref q_signs, .int signMany, .ref q_cases, .ref q_caseFrom, .ref q_caseTells, .ref q_testAsks, .ref q_testHow, .ref q_testNumber, .int keys, .int weight, .int care, .long scoreSum, .long scoreDays, .int triedSpoken, .int triedRain, .int triedTaken, .int triedBoth, .ref q_glassX, .ref q_glassY, .ref q_glassPress, .ref q_glassWind, .int glasses, .ref q_dry, .ref q_value, .ref q_doing, .ref q_kept, .ref q_isKept, .int keptAt, .int isWriting]))] := hD
  exact x_iretw hx hb hr hlk hP hD hS rfl dX10_tap_19
noncomputable def mX10_stick (stick : Int32) (p0 : Int32) : Option (Int32 × Int32) :=
  (mX10_in ((Int32.toInt64 p0)) 0 9).bind (fun r501 => if (xb r501) = 0 then (some ((-2), stick)) else (some (stick, p0)))
set_option maxHeartbeats 4000000 in
set_option maxRecDepth 100000 in
theorem kX10_stick (l : Launch) (G : xG) (H0 : Heap) {q_this q_years q_months q_presses q_winds q_skies q_rains q_wires q_signs q_cases q_caseFrom q_caseTells q_testAsks q_testHow q_testNumber q_glassX q_glassY q_glassPress q_glassWind q_dry q_value q_doing q_kept q_isKept : Nat} {mind : Int32} {needle : Int32} {stick : Int32} {days : Int32} {signMany : Int32} {keys : Int32} {weight : Int32} {care : Int32} {scoreSum : Int64} {scoreDays : Int64} {triedSpoken : Int32} {triedRain : Int32} {triedTaken : Int32} {triedBoth : Int32} {glasses : Int32} {keptAt : Int32} {isWriting : Int32} {p0 : Int32} (w0 : va_W) (hw0 : w0 = [(q_this, .inr (10, [.int mind, .int needle, .int stick, .ref q_years, .ref q_months, .ref q_presses, .ref q_winds, .ref q_skies, .ref q_rains, .ref q_wires, .int days, .ref q_signs, .int signMany, .ref q_cases, .ref q_caseFrom, .ref q_caseTells, .ref q_testAsks, .ref q_testHow, .ref q_testNumber, .int keys, .int weight, .int care, .long scoreSum, .long scoreDays, .int triedSpoken, .int triedRain, .int triedTaken, .int triedBoth, .ref q_glassX, .ref q_glassY, .ref q_glassPress, .ref q_glassWind, .int glasses, .ref q_dry, .ref q_value, .ref q_doing, .ref q_kept, .ref q_isKept, .int keptAt, .int isWriting]))]) (hP : va_P (xD G) vwCl w0 H0) (hD : va_D (fun _ => True) w0) {out : Int32 × Int32} (h : mX10_stick stick p0 = some out) : Met l yX10_stick wsX10_stick ({ frames := 1, cells := 0, slots := 0, locals := 25 }) (xPcw G (va_A w0 H0.size) H0 [.ref q_this, .int p0]) (xRi G (va_A w0 H0.size) [(q_this, .inr (10, [.int mind, .int needle, .int out.2, .ref q_years, .ref q_months, .ref q_presses, .ref q_winds, .ref q_skies, .ref q_rains, .ref q_wires, .int days, .ref q_signs, .int signMany, .ref q_cases, .ref q_caseFrom, .ref q_caseTells, .ref q_testAsks, .ref q_testHow, .ref q_testNumber, .int keys, .int weight, .int care, .long scoreSum, .long scoreDays, .int triedSpoken, .int triedRain, .int triedTaken, .int triedBoth, .ref q_glassX, .ref q_glassY, .ref q_glassPress, .ref q_glassWind, .int glasses, .ref q_dry, .ref q_value, .ref q_doing, .ref q_kept, .ref q_isKept, .int keptAt, .int isWriting]))] (out.1)) 0 0 (va_A w0 H0.size) := by
  refine x_metw (y := yX10_stick) (ws := wsX10_stick) (rm := { frames := 1, cells := 0, slots := 0, locals := 25 }) (G := G) (H0 := H0) (w0 := w0) (av := [.ref q_this, .int p0]) (mc := 0) (ms := 0) (Qc := (fun A => (xRi G A [(q_this, .inr (10, [.int mind, .int needle, .int out.2, .ref q_years, .ref q_months, .ref q_presses, .ref q_winds, .ref q_skies, .ref q_rains, .ref q_wires, .int days, .ref q_signs, .int signMany, .ref q_cases, .ref q_caseFrom, .ref q_caseTells, .ref q_testAsks, .ref q_testHow, .ref q_testNumber, .int keys, .int weight, .int care, .long scoreSum, .long scoreDays, .int triedSpoken, .int triedRain, .int triedTaken, .int triedBoth, .ref q_glassX, .ref q_glassY, .ref q_glassPress, .ref q_glassWind, .int glasses, .ref q_dry, .ref q_value, .ref q_doing, .ref q_kept, .ref q_isKept, .int keptAt, .int isWriting]))] (out.1)))) (by decide) rfl (Nat.le_of_ble_eq_true rfl) hP hD ?_
  clear hP hD
  intro p e s m below meth c ls A H locs hA hAt hnm hl hP hD hS
  subst hw0
  obtain ⟨hx, hb, hr, hlk, hml, hown, hts, hE⟩ := hAt
  have hown : s.vm.findClass RX10 = some m.cls := hown
  have hl : lv_has ls 3 [(0, .ref q_this), (1, .int p0)] := hl
  have ho : out = out := rfl
  unfold mX10_stick at h
  refine lv_iload_n hx hb dX10_stick_0 rfl (lv_at hl 1 rfl) ?_
  refine lv_i2l (v := (Int32.toInt64 p0)) hx hb dX10_stick_1 rfl ?_
  refine lv_lconst (v := 0) hx hb dX10_stick_2 (by decide) ?_
  refine lv_ldc2 (v := 9) hx hb hown (hts (.constantLong RX10 109 (9)) (List.mem_of_getElem? (i := 1) rfl)) dX10_stick_3 ?_
  obtain ⟨r501, hr501, h⟩ := x_bind h
  refine x_calli (va_runS (As := [.long (Int32.toInt64 p0), .long 0, .long 9]) (rest := []) ⟨hx, hb, hml, hown, hts⟩ (kX10_in l G H hr501) (va_cwS 3 hts gX10_stick_X10_in rfl rfl rfl (by decide +kernel) ⟨Nat.le_of_ble_eq_true rfl, Nat.le_of_ble_eq_true rfl⟩) (x_preS hE hS) rfl rfl hl.1 rfl (lv_room (Nat.le_of_ble_eq_true rfl)) dX10_stick_6 ⟨Nat.le_of_ble_eq_true rfl, Nat.le_of_ble_eq_true rfl⟩) ?_
  refine lv_if_ne (tgt := 15) hx hb dX10_stick_9 (by decide) (fun hc502 => ?_) (fun hc502 => ?_)
  · replace h := (if_neg hc502).symm.trans h
    refine lv_aload_n hx hb dX10_stick_15 rfl (lv_at hl 0 rfl) ?_
    refine va_get (D := xD G) (ci := 10) (v := .int stick) (C := RX10) (T := TX10) (N := 40) hx hb hts (fun w9 h9 => (List.mem_cons_of_mem _ (List.mem_append_right _ h9))) hown hE.1 hP 0 rfl rfl 2 (by decide) (hts (.fieldLink RX10 87 "FallingGlassModel" "stick" "I") (List.mem_of_getElem? (i := 2) rfl)) (fun _ h9 => h9) rfl dX10_stick_16 ?_
    refine lv_istore_n (lv' := [(2, .int stick), (0, .ref q_this), (1, .int p0)]) hx hb dX10_stick_19 rfl hl (by decide) rfl (fun ls hl => ?_)
    refine lv_aload_n hx hb dX10_stick_20 rfl (lv_at hl 1 rfl) ?_
    refine lv_iload_n hx hb dX10_stick_21 rfl (lv_at hl 2 rfl) ?_
    refine va_put (D := xD G) (ci := 10) (v := .int p0) (ty := .int) (C := RX10) (T := TX10) (N := 40) hx hb hts (fun w9 h9 => (List.mem_cons_of_mem _ (List.mem_append_right _ h9))) tyX10 tyX10_ok nmX10 hown hE.1 hP hD hS 0 rfl rfl 2 (by decide) (hts (.fieldLink RX10 87 "FallingGlassModel" "stick" "I") (List.mem_of_getElem? (i := 2) rfl)) (fun _ h9 => h9) rfl (by decide +kernel) rfl rfl (Nat.le_of_ble_eq_true rfl) dX10_stick_22 (fun H locs hP hD hS => ?_)
    have hP : va_P (xD G) vwCl [(q_this, .inr (10, [.int mind, .int needle, .int p0, .ref q_years, .ref q_months, .ref q_presses, .ref q_winds, .ref q_skies, .ref q_rains, .ref q_wires, .int days, .ref q_signs, .int signMany, .ref q_cases, .ref q_caseFrom, .ref q_caseTells, .ref q_testAsks, .ref q_testHow, .ref q_testNumber, .int keys, .int weight, .int care, .long scoreSum, .long scoreDays, .int triedSpoken, .int triedRain, .int triedTaken, .int triedBoth, .ref q_glassX, .ref q_glassY, .ref q_glassPress, .ref q_glassWind, .int glasses, .ref q_dry, .ref q_value, .ref q_doing, .ref q_kept, .ref q_isKept, .int keptAt, .int isWriting]))] H := hP
    have hD : va_D A [(q_this, .inr (10, [.int mind, .int needle, .int p0, .ref q_years, .ref q_months, .ref q_presses, .ref q_winds, .ref q_skies, .ref q_rains, .ref q_wires, .int days, .ref q_signs, .int signMany, .ref q_cases, .ref q_caseFrom, .ref q_caseTells, .ref q_testAsks, .ref q_testHow, .ref q_testNumber, .int keys, .int weight, .int care, .long scoreSum, .long scoreDays, .int triedSpoken, .int triedRain, .int triedTaken, .int triedBoth, .ref q_glassX, .ref q_glassY, .ref q_glassPress, .ref q_glassWind, .int glasses, .ref q_dry, .ref q_value, .ref q_doing, .ref q_kept, .ref q_isKept, .int keptAt, .int isWriting]))] := hD
    refine lv_iload_n hx hb dX10_stick_25 rfl (lv_at hl 0 rfl) ?_
    have hq : (stick, p0) = out := by cases h; exact ho
    subst hq
    have hP : va_P (xD G) vwCl [(q_this, .inr (10, [.int mind, .int needle, .int p0, .ref q_years, .ref q_months, .ref q_presses, .ref q_winds, .ref q_skies, .ref q_rains, .ref q_wires, .int days, .ref q_signs, .int signMany, .ref q_cases, .ref q_caseFrom, .ref q_caseTells, .ref q_testAsks, .ref q_testHow, .ref q_testNumber, .int keys, .int weight, .int care, .long scoreSum, .long scoreDays, .int triedSpoken, .int triedRain, .int triedTaken, .int triedBoth, .ref q_glassX, .ref q_glassY, .ref q_glassPress, .ref q_glassWind, .int glasses, .ref q_dry, .ref q_value, .ref q_doing, .ref q_kept, .ref q_isKept, .int keptAt, .int isWriting]))] H := hP
    have hD : va_D A [(q_this, .inr (10, [.int mind, .int needle, .int p0, .ref q_years, .ref q_months, .ref q_presses, .ref q_winds, .ref q_skies, .ref q_rains, .ref q_wires, .int days, .ref q_signs, .int signMany, .ref q_cases, .ref q_caseFrom, .ref q_caseTells, .ref q_testAsks, .ref q_testHow, .ref q_testNumber, .int keys, .int weight, .int care, .long scoreSum, .long scoreDays, .int triedSpoken, .int triedRain, .int triedTaken, .int triedBoth, .ref q_glassX, .ref q_glassY, .ref q_glassPress, .ref q_glassWind, .int glasses, .ref q_dry, .ref q_value, .ref q_doing, .ref q_kept, .ref q_isKept, .int keptAt, .int isWriting]))] := hD
    exact x_iretw hx hb hr hlk hP hD hS rfl dX10_stick_26
  · replace h := (if_pos hc502).symm.trans h
    refine lv_bipush (v := (-2)) hx hb dX10_stick_12 (by decide) ?_
    have hq : ((-2), stick) = out := by cases h; exact ho
    subst hq
    have hP : va_P (xD G) vwCl [(q_this, .inr (10, [.int mind, .int needle, .int stick, .ref q_years, .ref q_months, .ref q_presses, .ref q_winds, .ref q_skies, .ref q_rains, .ref q_wires, .int days, .ref q_signs, .int signMany, .ref q_cases, .ref q_caseFrom, .ref q_caseTells, .ref q_testAsks, .ref q_testHow, .ref q_testNumber, .int keys, .int weight, .int care, .long scoreSum, .long scoreDays, .int triedSpoken, .int triedRain, .int triedTaken, .int triedBoth, .ref q_glassX, .ref q_glassY, .ref q_glassPress, .ref q_glassWind, .int glasses, .ref q_dry, .ref q_value, .ref q_doing, .ref q_kept, .ref q_isKept, .int keptAt, .int isWriting]))] H := hP
    have hD : va_D A [(q_this, .inr (10, [.int mind, .int needle, .int stick, .ref q_years, .ref q_months, .ref q_presses, .ref q_winds, .ref q_skies, .ref q_rains, .ref q_wires, .int days, .ref q_signs, .int signMany, .ref q_cases, .ref q_caseFrom, .ref q_caseTells, .ref q_testAsks, .ref q_testHow, .ref q_testNumber, .int keys, .int weight, .int care, .long scoreSum, .long scoreDays, .int triedSpoken, .int triedRain, .int triedTaken, .int triedBoth, .ref q_glassX, .ref q_glassY, .ref q_glassPress, .ref q_glassWind, .int glasses, .ref q_dry, .ref q_value, .ref q_doing, .ref q_kept, .ref q_isKept, .int keptAt, .int isWriting]))] := hD
    exact x_iretw hx hb hr hlk hP hD hS rfl dX10_stick_14
