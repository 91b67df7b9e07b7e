/-! laid by program out of the bytecode: for each method its function (m..) and its contract (k..) -/
noncomputable def mX10_monthOf_b85 (days : Int32) (years : Nat → Int32) (months : Nat → Int32) (rains : Nat → Int32) (v1 : Int32) (v3 : Int32) (v4 : Int32) (t0 : Int32) (t1 : Int32) : Option (((Int32) ⊕ (Int32 × Int32 × Int32))) :=
  some (.inr ((t0 + t1), v3, (v4 + 1)))
noncomputable def mX10_monthOf_b66 (days : Int32) (years : Nat → Int32) (months : Nat → Int32) (rains : Nat → Int32) (v1 : Int32) (v2 : Int32) (v4 : Int32) (v5 : Int32) (t0 : Int32) (t1 : Int32) : Option (((Int32) ⊕ (Int32 × Int32 × Int32))) :=
  if v5 = 0 then (mX10_monthOf_b85 days years months rains v1 ((t0 + t1)) v4 v2 0) else (x_need (x_in v4 60) (mX10_monthOf_b85 days years months rains v1 ((t0 + t1)) v4 v2 ((rains (Int32.toNatClampNeg v4)))))
noncomputable def mX10_monthOf_b53 (days : Int32) (years : Nat → Int32) (months : Nat → Int32) (rains : Nat → Int32) (v1 : Int32) (v2 : Int32) (v3 : Int32) (v4 : Int32) (t0 : Int32) : Option (((Int32) ⊕ (Int32 × Int32 × Int32))) :=
  if t0 = 0 then (mX10_monthOf_b66 days years months rains v1 v2 v4 t0 v3 0) else (mX10_monthOf_b66 days years months rains v1 v2 v4 t0 v3 1)
noncomputable def mX10_monthOf_b52 (days : Int32) (years : Nat → Int32) (months : Nat → Int32) (rains : Nat → Int32) (v1 : Int32) (v2 : Int32) (v3 : Int32) (v4 : Int32) : Option (((Int32) ⊕ (Int32 × Int32 × Int32))) :=
  mX10_monthOf_b53 days years months rains v1 v2 v3 v4 0
noncomputable def mX10_monthOf_s7 (days : Int32) (years : Nat → Int32) (months : Nat → Int32) (rains : Nat → Int32) (v1 : Int32) (v2 : Int32) (v3 : Int32) (v4 : Int32) : Option (((Int32) ⊕ (Int32 × Int32 × Int32))) :=
  if days ≤ v4 then ((mX10_share v2 v3).bind (fun r505 => some (.inl r505))) else (x_need (x_in v4 60) (x_need (x_in v1 60) (if (months (Int32.toNatClampNeg v4)) = (months (Int32.toNatClampNeg v1)) then (x_need (x_in v4 60) (x_need (x_in v1 60) (if (years (Int32.toNatClampNeg v4)) = (years (Int32.toNatClampNeg v1)) then (mX10_monthOf_b52 days years months rains v1 v2 v3 v4) else (mX10_monthOf_b53 days years months rains v1 v2 v3 v4 1)))) else (mX10_monthOf_b52 days years months rains v1 v2 v3 v4))))
noncomputable def mX10_monthOf_b7 (days : Int32) (years : Nat → Int32) (months : Nat → Int32) (rains : Nat → Int32) (v1 : Int32) (v2 : Int32) (v3 : Int32) (v4 : Int32) : Option (Int32) :=
  x_loop (fun q : Int32 × Int32 × Int32 => mX10_monthOf_s7 days years months rains v1 (q.1) (q.2.1) (q.2.2)) (v2, v3, v4)
noncomputable def mX10_monthOf (days : Int32) (years : Nat → Int32) (months : Nat → Int32) (rains : Nat → Int32) (p0 : Int32) : Option (Int32) :=
  mX10_monthOf_b7 days years months rains p0 0 0 0
set_option maxHeartbeats 4000000 in
set_option maxRecDepth 100000 in
theorem kX10_monthOf (l : Launch) (G : xG) (H0 : Heap) {q_this q_years q_months q_presses q_winds q_skies q_rains q_wires q_signs q_cases q_caseFrom q_caseTells q_testAsks q_testHow q_testNumber q_glassX q_glassY q_glassPress q_glassWind q_dry q_value q_doing q_kept q_isKept : Nat} {mind : Int32} {needle : Int32} {stick : Int32} {days : Int32} {signMany : Int32} {keys : Int32} {weight : Int32} {care : Int32} {scoreSum : Int64} {scoreDays : Int64} {triedSpoken : Int32} {triedRain : Int32} {triedTaken : Int32} {triedBoth : Int32} {glasses : Int32} {keptAt : Int32} {isWriting : Int32} {years : Nat → Int32} {months : Nat → Int32} {rains : Nat → Int32} {p0 : Int32} (hP : va_P (xD G) vwCl [(q_this, .inr (10, [.int mind, .int needle, .int stick, .ref q_years, .ref q_months, .ref q_presses, .ref q_winds, .ref q_skies, .ref q_rains, .ref q_wires, .int days, .ref q_signs, .int signMany, .ref q_cases, .ref q_caseFrom, .ref q_caseTells, .ref q_testAsks, .ref q_testHow, .ref q_testNumber, .int keys, .int weight, .int care, .long scoreSum, .long scoreDays, .int triedSpoken, .int triedRain, .int triedTaken, .int triedBoth, .ref q_glassX, .ref q_glassY, .ref q_glassPress, .ref q_glassWind, .int glasses, .ref q_dry, .ref q_value, .ref q_doing, .ref q_kept, .ref q_isKept, .int keptAt, .int isWriting])), (q_years, .inl (xy G 0, 60, .inl years)), (q_months, .inl (xy G 0, 60, .inl months)), (q_rains, .inl (xy G 0, 60, .inl rains))] H0) {out : Int32} (h : mX10_monthOf days years months rains p0 = some out) : Met l yX10_monthOf wsX10_monthOf ({ frames := 1, cells := 0, slots := 0, locals := 21 }) (xPc G H0 [.ref q_this, .int p0]) (xQi H0 (out)) 0 0 xN := by
  refine x_met (by decide) rfl (Nat.le_of_ble_eq_true rfl) ?_
  intro p e s m below meth c ls hH hA hl
  obtain ⟨hx, hb, hr, hlk, hml, hown, hts, hE⟩ := hA
  subst hH
  have hown : s.vm.findClass RX10 = some m.cls := hown
  have hl : lv_has ls 6 [(0, .ref q_this), (1, .int p0)] := hl
  have hS : va_S xN s.heap s.heap [] := va_S.rf
  have ho : out = out := rfl
  have J7 : ∀ (v1 : Int32) (v2 : Int32) (v3 : Int32) (v4 : Int32) (ls : Array Slot), lv_has ls 6 [(0, .ref q_this), (1, .int v1), (2, .int v2), (3, .int v3), (4, .int v4)] → ∀ o : Int32, mX10_monthOf_b7 days years months rains v1 v2 v3 v4 = some o → (fun z => z = out) o → xW p l e ({ frames := 1, cells := 0, slots := 0, locals := 21 }) s m [.ref q_this, .int p0] below meth c (xQi s.heap (out)) (F0 m 7 ls []) := by
    intro v1 v2 v3 v4 ls hl o h ho
    unfold mX10_monthOf_b7 at h
    refine x_loop_walk (K := (fun z => z = out)) (motive := fun q : Int32 × Int32 × Int32 => ∀ ls : Array Slot, lv_has ls 6 [(0, .ref q_this), (1, .int (v1)), (2, .int (q.1)), (3, .int (q.2.1)), (4, .int (q.2.2))] → xW p l e ({ frames := 1, cells := 0, slots := 0, locals := 21 }) s m [.ref q_this, .int p0] below meth c (xQi s.heap (out)) (F0 m 7 ls [])) ?_ h ho ls hl
    intro K1 e1 i1 q o h ho
    obtain ⟨v2, v3, v4⟩ := q
    intro ls hl
    have hl : lv_has ls 6 [(0, .ref q_this), (1, .int v1), (2, .int v2), (3, .int v3), (4, .int v4)] := hl
    replace h : mX10_monthOf_s7 days years months rains v1 v2 v3 v4 = some o := h
    unfold mX10_monthOf_s7 at h
    have J85 : ∀ (v3 : Int32) (v4 : Int32) (t0 : Int32) (t1 : Int32) (ls : Array Slot), lv_has ls 6 [(0, .ref q_this), (1, .int v1), (3, .int v3), (4, .int v4)] → ∀ o : ((Int32) ⊕ (Int32 × Int32 × Int32)), mX10_monthOf_b85 days years months rains v1 v3 v4 t0 t1 = some o → K1 o → xW p l e ({ frames := 1, cells := 0, slots := 0, locals := 21 }) s m [.ref q_this, .int p0] below meth c (xQi s.heap (out)) (F0 m 85 ls [.int t1, .int t0]) := by
      intro v3 v4 t0 t1 ls hl o h ho
      unfold mX10_monthOf_b85 at h
      refine lv_iadd hx hb dX10_monthOf_85 ?_
      refine lv_istore_n (lv' := [(2, .int (t0 + t1)), (0, .ref q_this), (1, .int v1), (3, .int v3), (4, .int v4)]) hx hb dX10_monthOf_86 rfl hl (by decide) rfl (fun ls hl => ?_)
      refine lv_iinc (v := (v4 + 1)) (lv' := [(4, .int (v4 + 1)), (2, .int (t0 + t1)), (0, .ref q_this), (1, .int v1), (3, .int v3)]) hx hb dX10_monthOf_87 hl (k := 4) rfl rfl (by decide) rfl (fun ls hl => ?_)
      refine lv_goto (tgt := 7) hx hb dX10_monthOf_90 (by decide) ?_
      exact i1 ((t0 + t1), v3, (v4 + 1)) (by cases h; exact ho) ls (lv_sub hl [2, 3, 1, 4, 0] rfl)
    have J66 : ∀ (v2 : Int32) (v4 : Int32) (v5 : Int32) (t0 : Int32) (t1 : Int32) (ls : Array Slot), lv_has ls 6 [(0, .ref q_this), (1, .int v1), (2, .int v2), (4, .int v4), (5, .int v5)] → ∀ o : ((Int32) ⊕ (Int32 × Int32 × Int32)), mX10_monthOf_b66 days years months rains v1 v2 v4 v5 t0 t1 = some o → K1 o → xW p l e ({ frames := 1, cells := 0, slots := 0, locals := 21 }) s m [.ref q_this, .int p0] below meth c (xQi s.heap (out)) (F0 m 66 ls [.int t1, .int t0]) := by
      intro v2 v4 v5 t0 t1 ls hl o h ho
      unfold mX10_monthOf_b66 at h
      refine lv_iadd hx hb dX10_monthOf_66 ?_
      refine lv_istore_n (lv' := [(3, .int (t0 + t1)), (0, .ref q_this), (1, .int v1), (2, .int v2), (4, .int v4), (5, .int v5)]) hx hb dX10_monthOf_67 rfl hl (by decide) rfl (fun ls hl => ?_)
      refine lv_iload_n hx hb dX10_monthOf_68 rfl (lv_at hl 3 rfl) ?_
      refine lv_iload hx hb dX10_monthOf_69 (lv_at hl 5 rfl) ?_
      refine lv_if_eq (tgt := 84) hx hb dX10_monthOf_71 (by decide) (fun hc201 => ?_) (fun hc201 => ?_)
      · replace h := (if_pos hc201).symm.trans h
        refine lv_iconst (v := 0) hx hb dX10_monthOf_84 (by decide) ?_
        exact J85 ((t0 + t1)) v4 v2 0 ls (lv_sub hl [1, 2, 0, 4] rfl) _ h ho
      · replace h := (if_neg hc201).symm.trans h
        refine lv_aload_n hx hb dX10_monthOf_74 rfl (lv_at hl 1 rfl) ?_
        refine va_get (D := xD G) (ci := 10) (v := .ref q_rains) (C := RX10) (T := TX10) (N := 40) hx hb hts (fun w9 h9 => (List.mem_cons_of_mem _ (List.mem_append_right _ h9))) hown hE.1 hP 0 rfl rfl 8 (by decide) (hts (.fieldLink RX10 25 "FallingGlassModel" "rains" "[I") (List.mem_of_getElem? (i := 4) rfl)) (fun _ h9 => h9) rfl dX10_monthOf_75 ?_
        refine lv_iload hx hb dX10_monthOf_78 (lv_at hl 4 rfl) ?_
        obtain ⟨hi202, h⟩ := x_needs h
        refine va_iald (D := xD G) hx hb hE.1 hP 3 0 rfl rfl hi202 dX10_monthOf_80 ?_
        refine lv_goto (tgt := 85) hx hb dX10_monthOf_81 (by decide) ?_
        exact J85 ((t0 + t1)) v4 v2 ((rains (Int32.toNatClampNeg v4))) ls (lv_sub hl [1, 2, 0, 4] rfl) _ h ho
    have J53 : ∀ (v2 : Int32) (v3 : Int32) (v4 : Int32) (t0 : Int32) (ls : Array Slot), lv_has ls 6 [(0, .ref q_this), (1, .int v1), (2, .int v2), (3, .int v3), (4, .int v4)] → ∀ o : ((Int32) ⊕ (Int32 × Int32 × Int32)), mX10_monthOf_b53 days years months rains v1 v2 v3 v4 t0 = some o → K1 o → xW p l e ({ frames := 1, cells := 0, slots := 0, locals := 21 }) s m [.ref q_this, .int p0] below meth c (xQi s.heap (out)) (F0 m 53 ls [.int t0]) := by
      intro v2 v3 v4 t0 ls hl o h ho
      unfold mX10_monthOf_b53 at h
      refine lv_istore (lv' := [(5, .int t0), (0, .ref q_this), (1, .int v1), (2, .int v2), (3, .int v3), (4, .int v4)]) hx hb dX10_monthOf_53 hl (by decide) rfl (fun ls hl => ?_)
      refine lv_iload_n hx hb dX10_monthOf_55 rfl (lv_at hl 4 rfl) ?_
      refine lv_iload hx hb dX10_monthOf_56 (lv_at hl 0 rfl) ?_
      refine lv_if_eq (tgt := 65) hx hb dX10_monthOf_58 (by decide) (fun hc303 => ?_) (fun hc303 => ?_)
      · replace h := (if_pos hc303).symm.trans h
        refine lv_iconst (v := 0) hx hb dX10_monthOf_65 (by decide) ?_
        exact J66 v2 v4 t0 v3 0 ls (lv_sub hl [1, 2, 3, 5, 0] rfl) _ h ho
      · replace h := (if_neg hc303).symm.trans h
        refine lv_iconst (v := 1) hx hb dX10_monthOf_61 (by decide) ?_
        refine lv_goto (tgt := 66) hx hb dX10_monthOf_62 (by decide) ?_
        exact J66 v2 v4 t0 v3 1 ls (lv_sub hl [1, 2, 3, 5, 0] rfl) _ h ho
    have J52 : ∀ (v2 : Int32) (v3 : Int32) (v4 : Int32) (ls : Array Slot), lv_has ls 6 [(0, .ref q_this), (1, .int v1), (2, .int v2), (3, .int v3), (4, .int v4)] → ∀ o : ((Int32) ⊕ (Int32 × Int32 × Int32)), mX10_monthOf_b52 days years months rains v1 v2 v3 v4 = some o → K1 o → xW p l e ({ frames := 1, cells := 0, slots := 0, locals := 21 }) s m [.ref q_this, .int p0] below meth c (xQi s.heap (out)) (F0 m 52 ls []) := by
      intro v2 v3 v4 ls hl o h ho
      unfold mX10_monthOf_b52 at h
      refine lv_iconst (v := 0) hx hb dX10_monthOf_52 (by decide) ?_
      exact J53 v2 v3 v4 0 ls (lv_sub hl [0, 1, 2, 3, 4] rfl) _ h ho
    refine lv_iload hx hb dX10_monthOf_7 (lv_at hl 4 rfl) ?_
    refine lv_aload_n hx hb dX10_monthOf_9 rfl (lv_at hl 0 rfl) ?_
    refine va_get (D := xD G) (ci := 10) (v := .int days) (C := RX10) (T := TX10) (N := 40) hx hb hts (fun w9 h9 => (List.mem_cons_of_mem _ (List.mem_append_right _ h9))) hown hE.1 hP 0 rfl rfl 10 (by decide) (hts (.fieldLink RX10 111 "FallingGlassModel" "days" "I") (List.mem_of_getElem? (i := 1) rfl)) (fun _ h9 => h9) rfl dX10_monthOf_10 ?_
    refine lv_icmp_ge (tgt := 93) hx hb dX10_monthOf_13 (by decide) (fun hc504 => ?_) (fun hc504 => ?_)
    · replace h := (if_pos hc504).symm.trans h
      refine lv_iload_n hx hb dX10_monthOf_93 rfl (lv_at hl 2 rfl) ?_
      refine lv_iload_n hx hb dX10_monthOf_94 rfl (lv_at hl 3 rfl) ?_
      obtain ⟨r505, hr505, h⟩ := x_bind h
      refine x_calli (va_runS (As := [.int v2, .int v3]) (rest := []) ⟨hx, hb, hml, hown, hts⟩ (kX10_share l G s.heap hr505) (va_cwS 2 hts gX10_monthOf_X10_share rfl rfl rfl (by decide +kernel) ⟨Nat.le_of_ble_eq_true rfl, Nat.le_of_ble_eq_true rfl⟩) (x_preS hE hS) rfl rfl hl.1 rfl (lv_room (Nat.le_of_ble_eq_true rfl)) dX10_monthOf_95 ⟨Nat.le_of_ble_eq_true rfl, Nat.le_of_ble_eq_true rfl⟩) ?_
      have hq : r505 = out := by cases h; exact (e1 _ ho)
      subst hq
      exact x_iret hx hb hr hlk rfl rfl dX10_monthOf_98
    · replace h := (if_neg hc504).symm.trans h
      refine lv_aload_n hx hb dX10_monthOf_16 rfl (lv_at hl 0 rfl) ?_
      refine va_get (D := xD G) (ci := 10) (v := .ref q_months) (C := RX10) (T := TX10) (N := 40) hx hb hts (fun w9 h9 => (List.mem_cons_of_mem _ (List.mem_append_right _ h9))) hown hE.1 hP 0 rfl rfl 4 (by decide) (hts (.fieldLink RX10 13 "FallingGlassModel" "months" "[I") (List.mem_of_getElem? (i := 2) rfl)) (fun _ h9 => h9) rfl dX10_monthOf_17 ?_
      refine lv_iload hx hb dX10_monthOf_20 (lv_at hl 4 rfl) ?_
      obtain ⟨hi506, h⟩ := x_needs h
      refine va_iald (D := xD G) hx hb hE.1 hP 2 0 rfl rfl hi506 dX10_monthOf_22 ?_
      refine lv_aload_n hx hb dX10_monthOf_23 rfl (lv_at hl 0 rfl) ?_
      refine va_get (D := xD G) (ci := 10) (v := .ref q_months) (C := RX10) (T := TX10) (N := 40) hx hb hts (fun w9 h9 => (List.mem_cons_of_mem _ (List.mem_append_right _ h9))) hown hE.1 hP 0 rfl rfl 4 (by decide) (hts (.fieldLink RX10 13 "FallingGlassModel" "months" "[I") (List.mem_of_getElem? (i := 2) rfl)) (fun _ h9 => h9) rfl dX10_monthOf_24 ?_
      refine lv_iload_n hx hb dX10_monthOf_27 rfl (lv_at hl 1 rfl) ?_
      obtain ⟨hi507, h⟩ := x_needs h
      refine va_iald (D := xD G) hx hb hE.1 hP 2 0 rfl rfl hi507 dX10_monthOf_28 ?_
      refine lv_icmp_ne (tgt := 52) hx hb dX10_monthOf_29 (by decide) (fun hc508 => ?_) (fun hc508 => ?_)
      · replace h := (if_neg hc508).symm.trans h
        exact J52 v2 v3 v4 ls (lv_sub hl [0, 1, 2, 3, 4] rfl) _ h ho
      · replace h := (if_pos hc508).symm.trans h
        refine lv_aload_n hx hb dX10_monthOf_32 rfl (lv_at hl 0 rfl) ?_
        refine va_get (D := xD G) (ci := 10) (v := .ref q_years) (C := RX10) (T := TX10) (N := 40) hx hb hts (fun w9 h9 => (List.mem_cons_of_mem _ (List.mem_append_right _ h9))) hown hE.1 hP 0 rfl rfl 3 (by decide) (hts (.fieldLink RX10 7 "FallingGlassModel" "years" "[I") (List.mem_of_getElem? (i := 3) rfl)) (fun _ h9 => h9) rfl dX10_monthOf_33 ?_
        refine lv_iload hx hb dX10_monthOf_36 (lv_at hl 4 rfl) ?_
        obtain ⟨hi509, h⟩ := x_needs h
        refine va_iald (D := xD G) hx hb hE.1 hP 1 0 rfl rfl hi509 dX10_monthOf_38 ?_
        refine lv_aload_n hx hb dX10_monthOf_39 rfl (lv_at hl 0 rfl) ?_
        refine va_get (D := xD G) (ci := 10) (v := .ref q_years) (C := RX10) (T := TX10) (N := 40) hx hb hts (fun w9 h9 => (List.mem_cons_of_mem _ (List.mem_append_right _ h9))) hown hE.1 hP 0 rfl rfl 3 (by decide) (hts (.fieldLink RX10 7 "FallingGlassModel" "years" "[I") (List.mem_of_getElem? (i := 3) rfl)) (fun _ h9 => h9) rfl dX10_monthOf_40 ?_
        refine lv_iload_n hx hb dX10_monthOf_43 rfl (lv_at hl 1 rfl) ?_
        obtain ⟨hi510, h⟩ := x_needs h
        refine va_iald (D := xD G) hx hb hE.1 hP 1 0 rfl rfl hi510 dX10_monthOf_44 ?_
        refine lv_icmp_eq (tgt := 52) hx hb dX10_monthOf_45 (by decide) (fun hc511 => ?_) (fun hc511 => ?_)
        · replace h := (if_pos hc511).symm.trans h
          exact J52 v2 v3 v4 ls (lv_sub hl [0, 1, 2, 3, 4] rfl) _ h ho
        · replace h := (if_neg hc511).symm.trans h
          refine lv_iconst (v := 1) hx hb dX10_monthOf_48 (by decide) ?_
          refine lv_goto (tgt := 53) hx hb dX10_monthOf_49 (by decide) ?_
          exact J53 v2 v3 v4 1 ls (lv_sub hl [0, 1, 2, 3, 4] rfl) _ h ho
  unfold mX10_monthOf at h
  refine lv_iconst (v := 0) hx hb dX10_monthOf_0 (by decide) ?_
  refine lv_istore_n (lv' := [(2, .int 0), (0, .ref q_this), (1, .int p0)]) hx hb dX10_monthOf_1 rfl hl (by decide) rfl (fun ls hl => ?_)
  refine lv_iconst (v := 0) hx hb dX10_monthOf_2 (by decide) ?_
  refine lv_istore_n (lv' := [(3, .int 0), (2, .int 0), (0, .ref q_this), (1, .int p0)]) hx hb dX10_monthOf_3 rfl hl (by decide) rfl (fun ls hl => ?_)
  refine lv_iconst (v := 0) hx hb dX10_monthOf_4 (by decide) ?_
  refine lv_istore (lv' := [(4, .int 0), (3, .int 0), (2, .int 0), (0, .ref q_this), (1, .int p0)]) hx hb dX10_monthOf_5 hl (by decide) rfl (fun ls hl => ?_)
  exact J7 p0 0 0 0 ls (lv_sub hl [3, 4, 2, 1, 0] rfl) _ h ho
noncomputable def mX10_keyOf_b47 (years : Nat → Int32) (months : Nat → Int32) (presses : Nat → Int32) (winds : Nat → Int32) (skies : Nat → Int32) (rains : Nat → Int32) (v1 : Int32) (t1 : Int32) (t2 : Int32) : Option (Int32) :=
  (mX10_lookOf years months presses winds skies rains t1 t2).bind (fun r101 => if r101 = (-6) then (some ((-6))) else (if v1 = 0 then (some ((r101 / 20))) else (if v1 = 1 then (if r101 = 0 then (some 0) else (if 5 ≤ r101 then (some 2) else (some 1))) else (if v1 = 2 then (some ((r101 / 2))) else (if v1 = 3 then (some r101) else (if v1 = 4 then (some ((r101 / 3))) else (some r101)))))))
noncomputable def mX10_keyOf (years : Nat → Int32) (months : Nat → Int32) (presses : Nat → Int32) (winds : Nat → Int32) (skies : Nat → Int32) (rains : Nat → Int32) (p0 : Int32) (p1 : Int32) : Option (Int32) :=
  if p0 = 0 then (mX10_keyOf_b47 years months presses winds skies rains p0 p1 0) else (if p0 = 1 then (mX10_keyOf_b47 years months presses winds skies rains p0 p1 5) else (if p0 = 2 then (mX10_keyOf_b47 years months presses winds skies rains p0 p1 1) else (if p0 = 3 then (mX10_keyOf_b47 years months presses winds skies rains p0 p1 2) else (if p0 = 4 then (mX10_keyOf_b47 years months presses winds skies rains p0 p1 3) else (mX10_keyOf_b47 years months presses winds skies rains p0 p1 4)))))
set_option maxHeartbeats 4000000 in
set_option maxRecDepth 100000 in
theorem kX10_keyOf (l : Launch) (G : xG) (H0 : Heap) {q_this q_years q_months q_presses q_winds q_skies q_rains q_wires q_signs q_cases q_caseFrom q_caseTells q_testAsks q_testHow q_testNumber q_glassX q_glassY q_glassPress q_glassWind q_dry q_value q_doing q_kept q_isKept : Nat} {mind : Int32} {needle : Int32} {stick : Int32} {days : Int32} {signMany : Int32} {keys : Int32} {weight : Int32} {care : Int32} {scoreSum : Int64} {scoreDays : Int64} {triedSpoken : Int32} {triedRain : Int32} {triedTaken : Int32} {triedBoth : Int32} {glasses : Int32} {keptAt : Int32} {isWriting : Int32} {years : Nat → Int32} {months : Nat → Int32} {presses : Nat → Int32} {winds : Nat → Int32} {skies : Nat → Int32} {rains : Nat → Int32} {p0 : Int32} {p1 : Int32} (hP : va_P (xD G) vwCl [(q_this, .inr (10, [.int mind, .int needle, .int stick, .ref q_years, .ref q_months, .ref q_presses, .ref q_winds, .ref q_skies, .ref q_rains, .ref q_wires, .int days, .ref q_signs, .int signMany, .ref q_cases, .ref q_caseFrom, .ref q_caseTells, .ref q_testAsks, .ref q_testHow, .ref q_testNumber, .int keys, .int weight, .int care, .long scoreSum, .long scoreDays, .int triedSpoken, .int triedRain, .int triedTaken, .int triedBoth, .ref q_glassX, .ref q_glassY, .ref q_glassPress, .ref q_glassWind, .int glasses, .ref q_dry, .ref q_value, .ref q_doing, .ref q_kept, .ref q_isKept, .int keptAt, .int isWriting])), (q_years, .inl (xy G 0, 60, .inl years)), (q_months, .inl (xy G 0, 60, .inl months)), (q_presses, .inl (xy G 0, 60, .inl presses)), (q_winds, .inl (xy G 0, 60, .inl winds)), (q_skies, .inl (xy G 0, 60, .inl skies)), (q_rains, .inl (xy G 0, 60, .inl rains))] H0) {out : Int32} (h : mX10_keyOf years months presses winds skies rains p0 p1 = some out) : Met l yX10_keyOf wsX10_keyOf ({ frames := 2, cells := 0, slots := 0, locals := 43 }) (xPc G H0 [.ref q_this, .int p0, .int p1]) (xQi H0 (out)) 0 0 xN := by
  refine x_met (by decide) rfl (Nat.le_of_ble_eq_true rfl) ?_
  intro p e s m below meth c ls hH hA hl
  obtain ⟨hx, hb, hr, hlk, hml, hown, hts, hE⟩ := hA
  subst hH
  have hown : s.vm.findClass RX10 = some m.cls := hown
  have hl : lv_has ls 4 [(0, .ref q_this), (1, .int p0), (2, .int p1)] := hl
  have hS : va_S xN s.heap s.heap [] := va_S.rf
  have ho : out = out := rfl
  have J47 : ∀ (v1 : Int32) (t1 : Int32) (t2 : Int32) (ls : Array Slot), lv_has ls 4 [(1, .int v1)] → ∀ o : Int32, mX10_keyOf_b47 years months presses winds skies rains v1 t1 t2 = some o → (fun z => z = out) o → xW p l e ({ frames := 2, cells := 0, slots := 0, locals := 43 }) s m [.ref q_this, .int p0, .int p1] below meth c (xQi s.heap (out)) (F0 m 47 ls [.int t2, .int t1, .ref q_this]) := by
    intro v1 t1 t2 ls hl o h ho
    unfold mX10_keyOf_b47 at h
    obtain ⟨r101, hr101, h⟩ := x_bind h
    have hPr101 : va_P (xD G) vwCl [(q_this, .inr (10, [.int mind, .int needle, .int stick, .ref q_years, .ref q_months, .ref q_presses, .ref q_winds, .ref q_skies, .ref q_rains, .ref q_wires, .int days, .ref q_signs, .int signMany, .ref q_cases, .ref q_caseFrom, .ref q_caseTells, .ref q_testAsks, .ref q_testHow, .ref q_testNumber, .int keys, .int weight, .int care, .long scoreSum, .long scoreDays, .int triedSpoken, .int triedRain, .int triedTaken, .int triedBoth, .ref q_glassX, .ref q_glassY, .ref q_glassPress, .ref q_glassWind, .int glasses, .ref q_dry, .ref q_value, .ref q_doing, .ref q_kept, .ref q_isKept, .int keptAt, .int isWriting])), (q_years, .inl (xy G 0, 60, .inl years)), (q_months, .inl (xy G 0, 60, .inl months)), (q_presses, .inl (xy G 0, 60, .inl presses)), (q_winds, .inl (xy G 0, 60, .inl winds)), (q_skies, .inl (xy G 0, 60, .inl skies)), (q_rains, .inl (xy G 0, 60, .inl rains))] s.heap := hP.sub [0, 1, 2, 3, 4, 5, 6] rfl
    refine x_calli (va_runV (As := [.int t1, .int t2]) (rest := []) ⟨hx, hb, hml, hown, hts⟩ (kX10_lookOf l G s.heap hPr101 hr101) (cwV 2 hts gX10_keyOf_X10_lookOf rfl rfl rfl (by decide +kernel) ⟨Nat.le_of_ble_eq_true rfl, Nat.le_of_ble_eq_true rfl⟩) (x_preV hE hS hP (ci := 10) (q0 := 0) rfl rfl) rfl rfl hl.1 rfl (lv_room (Nat.le_of_ble_eq_true rfl)) dX10_keyOf_47 ⟨Nat.le_of_ble_eq_true rfl, Nat.le_of_ble_eq_true rfl⟩) ?_
    refine lv_istore_n (lv' := [(3, .int r101), (1, .int v1)]) hx hb dX10_keyOf_50 rfl hl (by decide) rfl (fun ls hl => ?_)
    refine lv_iload_n hx hb dX10_keyOf_51 rfl (lv_at hl 0 rfl) ?_
    refine lv_bipush (v := (-6)) hx hb dX10_keyOf_52 (by decide) ?_
    refine lv_icmp_ne (tgt := 60) hx hb dX10_keyOf_54 (by decide) (fun hc102 => ?_) (fun hc102 => ?_)
    · replace h := (if_neg hc102).symm.trans h
      refine lv_iload_n hx hb dX10_keyOf_60 rfl (lv_at hl 1 rfl) ?_
      by_cases hk103_0 : v1 = 0
      · replace h := (if_pos hk103_0).symm.trans h
        refine lv_tableIn (tgt := 96) hx hb dX10_keyOf_61 (by rw [hk103_0]; decide) (by rw [hk103_0]; decide) (by rw [hk103_0]; rfl) (by decide) ?_
        refine lv_iload_n hx hb dX10_keyOf_96 rfl (lv_at hl 0 rfl) ?_
        refine lv_bipush (v := 20) hx hb dX10_keyOf_97 (by decide) ?_
        refine lv_idiv hx hb dX10_keyOf_99 (by decide) ?_
        have hq : (r101 / 20) = out := by cases h; exact ho
        subst hq
        exact x_iret hx hb hr hlk rfl rfl dX10_keyOf_100
      · replace h := (if_neg hk103_0).symm.trans h
        by_cases hk103_1 : v1 = 1
        · replace h := (if_pos hk103_1).symm.trans h
          refine lv_tableIn (tgt := 101) hx hb dX10_keyOf_61 (by rw [hk103_1]; decide) (by rw [hk103_1]; decide) (by rw [hk103_1]; rfl) (by decide) ?_
          refine lv_iload_n hx hb dX10_keyOf_101 rfl (lv_at hl 0 rfl) ?_
          refine lv_if_ne (tgt := 109) hx hb dX10_keyOf_102 (by decide) (fun hc104 => ?_) (fun hc104 => ?_)
          · replace h := (if_neg hc104).symm.trans h
            refine lv_iload_n hx hb dX10_keyOf_109 rfl (lv_at hl 0 rfl) ?_
            refine lv_iconst (v := 5) hx hb dX10_keyOf_110 (by decide) ?_
            refine lv_icmp_ge (tgt := 118) hx hb dX10_keyOf_111 (by decide) (fun hc105 => ?_) (fun hc105 => ?_)
            · replace h := (if_pos hc105).symm.trans h
              refine lv_iconst (v := 2) hx hb dX10_keyOf_118 (by decide) ?_
              have hq : 2 = out := by cases h; exact ho
              subst hq
              exact x_iret hx hb hr hlk rfl rfl dX10_keyOf_119
            · replace h := (if_neg hc105).symm.trans h
              refine lv_iconst (v := 1) hx hb dX10_keyOf_114 (by decide) ?_
              refine lv_goto (tgt := 119) hx hb dX10_keyOf_115 (by decide) ?_
              have hq : 1 = out := by cases h; exact ho
              subst hq
              exact x_iret hx hb hr hlk rfl rfl dX10_keyOf_119
          · replace h := (if_pos hc104).symm.trans h
            refine lv_iconst (v := 0) hx hb dX10_keyOf_105 (by decide) ?_
            refine lv_goto (tgt := 119) hx hb dX10_keyOf_106 (by decide) ?_
            have hq : 0 = out := by cases h; exact ho
            subst hq
            exact x_iret hx hb hr hlk rfl rfl dX10_keyOf_119
        · replace h := (if_neg hk103_1).symm.trans h
          by_cases hk103_2 : v1 = 2
          · replace h := (if_pos hk103_2).symm.trans h
            refine lv_tableIn (tgt := 120) hx hb dX10_keyOf_61 (by rw [hk103_2]; decide) (by rw [hk103_2]; decide) (by rw [hk103_2]; rfl) (by decide) ?_
            refine lv_iload_n hx hb dX10_keyOf_120 rfl (lv_at hl 0 rfl) ?_
            refine lv_iconst (v := 2) hx hb dX10_keyOf_121 (by decide) ?_
            refine lv_idiv hx hb dX10_keyOf_122 (by decide) ?_
            have hq : (r101 / 2) = out := by cases h; exact ho
            subst hq
            exact x_iret hx hb hr hlk rfl rfl dX10_keyOf_123
          · replace h := (if_neg hk103_2).symm.trans h
            by_cases hk103_3 : v1 = 3
            · replace h := (if_pos hk103_3).symm.trans h
              refine lv_tableIn (tgt := 128) hx hb dX10_keyOf_61 (by rw [hk103_3]; decide) (by rw [hk103_3]; decide) (by rw [hk103_3]; rfl) (by decide) ?_
              refine lv_iload_n hx hb dX10_keyOf_128 rfl (lv_at hl 0 rfl) ?_
              have hq : r101 = out := by cases h; exact ho
              subst hq
              exact x_iret hx hb hr hlk rfl rfl dX10_keyOf_129
            · replace h := (if_neg hk103_3).symm.trans h
              by_cases hk103_4 : v1 = 4
              · replace h := (if_pos hk103_4).symm.trans h
                refine lv_tableIn (tgt := 124) hx hb dX10_keyOf_61 (by rw [hk103_4]; decide) (by rw [hk103_4]; decide) (by rw [hk103_4]; rfl) (by decide) ?_
                refine lv_iload_n hx hb dX10_keyOf_124 rfl (lv_at hl 0 rfl) ?_
                refine lv_iconst (v := 3) hx hb dX10_keyOf_125 (by decide) ?_
                refine lv_idiv hx hb dX10_keyOf_126 (by decide) ?_
                have hq : (r101 / 3) = out := by cases h; exact ho
                subst hq
                exact x_iret hx hb hr hlk rfl rfl dX10_keyOf_127
              · replace h := (if_neg hk103_4).symm.trans h
                refine lv_tableOut (tgt := 128) hx hb dX10_keyOf_61 (by have z0 : (0 : Int) ≤ v1.toInt ∨ v1.toInt < 0 := (by omega); have z1 : (1 : Int) ≤ v1.toInt ∨ v1.toInt < 0 := x_step rfl z0 (lv_neT hk103_0 (a := 0) (by decide)); have z2 : (2 : Int) ≤ v1.toInt ∨ v1.toInt < 0 := x_step rfl z1 (lv_neT hk103_1 (a := 1) (by decide)); have z3 : (3 : Int) ≤ v1.toInt ∨ v1.toInt < 0 := x_step rfl z2 (lv_neT hk103_2 (a := 2) (by decide)); have z4 : (4 : Int) ≤ v1.toInt ∨ v1.toInt < 0 := x_step rfl z3 (lv_neT hk103_3 (a := 3) (by decide)); have z5 : (5 : Int) ≤ v1.toInt ∨ v1.toInt < 0 := x_step rfl z4 (lv_neT hk103_4 (a := 4) (by decide)); omega) (by decide) ?_
                refine lv_iload_n hx hb dX10_keyOf_128 rfl (lv_at hl 0 rfl) ?_
                have hq : r101 = out := by cases h; exact ho
                subst hq
                exact x_iret hx hb hr hlk rfl rfl dX10_keyOf_129
    · replace h := (if_pos hc102).symm.trans h
      refine lv_bipush (v := (-6)) hx hb dX10_keyOf_57 (by decide) ?_
      have hq : (-6) = out := by cases h; exact ho
      subst hq
      exact x_iret hx hb hr hlk rfl rfl dX10_keyOf_59
  unfold mX10_keyOf at h
  refine lv_aload_n hx hb dX10_keyOf_0 rfl (lv_at hl 0 rfl) ?_
  refine lv_iload_n hx hb dX10_keyOf_1 rfl (lv_at hl 2 rfl) ?_
  refine lv_iload_n hx hb dX10_keyOf_2 rfl (lv_at hl 1 rfl) ?_
  refine lv_if_ne (tgt := 10) hx hb dX10_keyOf_3 (by decide) (fun hc501 => ?_) (fun hc501 => ?_)
  · replace h := (if_neg hc501).symm.trans h
    refine lv_iload_n hx hb dX10_keyOf_10 rfl (lv_at hl 1 rfl) ?_
    refine lv_iconst (v := 1) hx hb dX10_keyOf_11 (by decide) ?_
    refine lv_icmp_ne (tgt := 19) hx hb dX10_keyOf_12 (by decide) (fun hc502 => ?_) (fun hc502 => ?_)
    · replace h := (if_neg hc502).symm.trans h
      refine lv_iload_n hx hb dX10_keyOf_19 rfl (lv_at hl 1 rfl) ?_
      refine lv_iconst (v := 2) hx hb dX10_keyOf_20 (by decide) ?_
      refine lv_icmp_ne (tgt := 28) hx hb dX10_keyOf_21 (by decide) (fun hc503 => ?_) (fun hc503 => ?_)
      · replace h := (if_neg hc503).symm.trans h
        refine lv_iload_n hx hb dX10_keyOf_28 rfl (lv_at hl 1 rfl) ?_
        refine lv_iconst (v := 3) hx hb dX10_keyOf_29 (by decide) ?_
        refine lv_icmp_ne (tgt := 37) hx hb dX10_keyOf_30 (by decide) (fun hc504 => ?_) (fun hc504 => ?_)
        · replace h := (if_neg hc504).symm.trans h
          refine lv_iload_n hx hb dX10_keyOf_37 rfl (lv_at hl 1 rfl) ?_
          refine lv_iconst (v := 4) hx hb dX10_keyOf_38 (by decide) ?_
          refine lv_icmp_ne (tgt := 46) hx hb dX10_keyOf_39 (by decide) (fun hc505 => ?_) (fun hc505 => ?_)
          · replace h := (if_neg hc505).symm.trans h
            refine lv_iconst (v := 4) hx hb dX10_keyOf_46 (by decide) ?_
            exact J47 p0 p1 4 ls (lv_sub hl [1] rfl) _ h ho
          · replace h := (if_pos hc505).symm.trans h
            refine lv_iconst (v := 3) hx hb dX10_keyOf_42 (by decide) ?_
            refine lv_goto (tgt := 47) hx hb dX10_keyOf_43 (by decide) ?_
            exact J47 p0 p1 3 ls (lv_sub hl [1] rfl) _ h ho
        · replace h := (if_pos hc504).symm.trans h
          refine lv_iconst (v := 2) hx hb dX10_keyOf_33 (by decide) ?_
          refine lv_goto (tgt := 47) hx hb dX10_keyOf_34 (by decide) ?_
          exact J47 p0 p1 2 ls (lv_sub hl [1] rfl) _ h ho
      · replace h := (if_pos hc503).symm.trans h
        refine lv_iconst (v := 1) hx hb dX10_keyOf_24 (by decide) ?_
        refine lv_goto (tgt := 47) hx hb dX10_keyOf_25 (by decide) ?_
        exact J47 p0 p1 1 ls (lv_sub hl [1] rfl) _ h ho
    · replace h := (if_pos hc502).symm.trans h
      refine lv_iconst (v := 5) hx hb dX10_keyOf_15 (by decide) ?_
      refine lv_goto (tgt := 47) hx hb dX10_keyOf_16 (by decide) ?_
      exact J47 p0 p1 5 ls (lv_sub hl [1] rfl) _ h ho
  · replace h := (if_pos hc501).symm.trans h
    refine lv_iconst (v := 0) hx hb dX10_keyOf_6 (by decide) ?_
    refine lv_goto (tgt := 47) hx hb dX10_keyOf_7 (by decide) ?_
    exact J47 p0 p1 0 ls (lv_sub hl [1] rfl) _ h ho
noncomputable def mX10_isSuch_b82 (keys : Int32) (years : Nat → Int32) (months : Nat → Int32) (presses : Nat → Int32) (winds : Nat → Int32) (skies : Nat → Int32) (rains : Nat → Int32) (v1 : Int32) (v2 : Int32) (v3 : Int32) (v4 : Int32) : Option (((Bool) ⊕ (Int32 × Int32))) :=
  some (.inr (v3, (v4 + 1)))
noncomputable def mX10_isSuch_b81 (keys : Int32) (years : Nat → Int32) (months : Nat → Int32) (presses : Nat → Int32) (winds : Nat → Int32) (skies : Nat → Int32) (rains : Nat → Int32) (v1 : Int32) (v2 : Int32) (v4 : Int32) (t0 : Int32) : Option (((Bool) ⊕ (Int32 × Int32))) :=
  mX10_isSuch_b82 keys years months presses winds skies rains v1 v2 t0 v4
noncomputable def mX10_isSuch_b80 (keys : Int32) (years : Nat → Int32) (months : Nat → Int32) (presses : Nat → Int32) (winds : Nat → Int32) (skies : Nat → Int32) (rains : Nat → Int32) (v1 : Int32) (v2 : Int32) (v4 : Int32) : Option (((Bool) ⊕ (Int32 × Int32))) :=
  mX10_isSuch_b81 keys years months presses winds skies rains v1 v2 v4 0
noncomputable def mX10_isSuch_s24 (keys : Int32) (years : Nat → Int32) (months : Nat → Int32) (presses : Nat → Int32) (winds : Nat → Int32) (skies : Nat → Int32) (rains : Nat → Int32) (v1 : Int32) (v2 : Int32) (v3 : Int32) (v4 : Int32) : Option (((Bool) ⊕ (Int32 × Int32))) :=
  if 6 ≤ v4 then (x_need (v3 = 0 ∨ v3 = 1) (some (.inl ((decide (v3 = 1)))))) else (if v3 = 0 then (x_need (v3 = 0 ∨ v3 = 1) (some (.inl ((decide (v3 = 1)))))) else (if ((keys >>> (v4 &&& 31)) &&& 1) = 1 then ((mX10_keyOf years months presses winds skies rains v4 v1).bind (fun r404 => if r404 = (-6) then (mX10_isSuch_b80 keys years months presses winds skies rains v1 v2 v4) else ((mX10_keyOf years months presses winds skies rains v4 v2).bind (fun r406 => if r404 = r406 then (mX10_isSuch_b81 keys years months presses winds skies rains v1 v2 v4 1) else (mX10_isSuch_b80 keys years months presses winds skies rains v1 v2 v4))))) else (mX10_isSuch_b82 keys years months presses winds skies rains v1 v2 v3 v4)))
noncomputable def mX10_isSuch_b24 (keys : Int32) (years : Nat → Int32) (months : Nat → Int32) (presses : Nat → Int32) (winds : Nat → Int32) (skies : Nat → Int32) (rains : Nat → Int32) (v1 : Int32) (v2 : Int32) (v3 : Int32) (v4 : Int32) : Option (Bool) :=
  x_loop (fun q : Int32 × Int32 => mX10_isSuch_s24 keys years months presses winds skies rains v1 v2 (q.1) (q.2)) (v3, v4)
noncomputable def mX10_isSuch_b20 (keys : Int32) (years : Nat → Int32) (months : Nat → Int32) (presses : Nat → Int32) (winds : Nat → Int32) (skies : Nat → Int32) (rains : Nat → Int32) (v1 : Int32) (v2 : Int32) (t0 : Int32) : Option (Bool) :=
  mX10_isSuch_b24 keys years months presses winds skies rains v1 v2 t0 0
noncomputable def mX10_isSuch (keys : Int32) (years : Nat → Int32) (months : Nat → Int32) (presses : Nat → Int32) (winds : Nat → Int32) (skies : Nat → Int32) (rains : Nat → Int32) (p0 : Int32) (p1 : Int32) : Option (Bool) :=
  x_need (x_in p0 60) (x_need (x_in p1 60) (if (years (Int32.toNatClampNeg p0)) = (years (Int32.toNatClampNeg p1)) then (mX10_isSuch_b20 keys years months presses winds skies rains p0 p1 0) else (mX10_isSuch_b20 keys years months presses winds skies rains p0 p1 1)))
set_option maxHeartbeats 4000000 in
set_option maxRecDepth 100000 in
theorem kX10_isSuch (l : Launch) (G : xG) (H0 : Heap) {q_this q_years q_months q_presses q_winds q_skies q_rains q_wires q_signs q_cases q_caseFrom q_caseTells q_testAsks q_testHow q_testNumber q_glassX q_glassY q_glassPress q_glassWind q_dry q_value q_doing q_kept q_isKept : Nat} {mind : Int32} {needle : Int32} {stick : Int32} {days : Int32} {signMany : Int32} {keys : Int32} {weight : Int32} {care : Int32} {scoreSum : Int64} {scoreDays : Int64} {triedSpoken : Int32} {triedRain : Int32} {triedTaken : Int32} {triedBoth : Int32} {glasses : Int32} {keptAt : Int32} {isWriting : Int32} {years : Nat → Int32} {months : Nat → Int32} {presses : Nat → Int32} {winds : Nat → Int32} {skies : Nat → Int32} {rains : Nat → Int32} {p0 : Int32} {p1 : Int32} (hP : va_P (xD G) vwCl [(q_this, .inr (10, [.int mind, .int needle, .int stick, .ref q_years, .ref q_months, .ref q_presses, .ref q_winds, .ref q_skies, .ref q_rains, .ref q_wires, .int days, .ref q_signs, .int signMany, .ref q_cases, .ref q_caseFrom, .ref q_caseTells, .ref q_testAsks, .ref q_testHow, .ref q_testNumber, .int keys, .int weight, .int care, .long scoreSum, .long scoreDays, .int triedSpoken, .int triedRain, .int triedTaken, .int triedBoth, .ref q_glassX, .ref q_glassY, .ref q_glassPress, .ref q_glassWind, .int glasses, .ref q_dry, .ref q_value, .ref q_doing, .ref q_kept, .ref q_isKept, .int keptAt, .int isWriting])), (q_years, .inl (xy G 0, 60, .inl years)), (q_months, .inl (xy G 0, 60, .inl months)), (q_presses, .inl (xy G 0, 60, .inl presses)), (q_winds, .inl (xy G 0, 60, .inl winds)), (q_skies, .inl (xy G 0, 60, .inl skies)), (q_rains, .inl (xy G 0, 60, .inl rains))] H0) {out : Bool} (h : mX10_isSuch keys years months presses winds skies rains p0 p1 = some out) : Met l yX10_isSuch wsX10_isSuch ({ frames := 3, cells := 0, slots := 0, locals := 66 }) (xPc G H0 [.ref q_this, .int p0, .int p1]) (xQi H0 (xb out)) 0 0 xN := by
  refine x_met (by decide) rfl (Nat.le_of_ble_eq_true rfl) ?_
  intro p e s m below meth c ls hH hA hl
  obtain ⟨hx, hb, hr, hlk, hml, hown, hts, hE⟩ := hA
  subst hH
  have hown : s.vm.findClass RX10 = some m.cls := hown
  have hl : lv_has ls 6 [(0, .ref q_this), (1, .int p0), (2, .int p1)] := hl
  have hS : va_S xN s.heap s.heap [] := va_S.rf
  have ho : out = out := rfl
  have J24 : ∀ (v1 : Int32) (v2 : Int32) (v3 : Int32) (v4 : Int32) (ls : Array Slot), lv_has ls 6 [(0, .ref q_this), (1, .int v1), (2, .int v2), (3, .int v3), (4, .int v4)] → ∀ o : Bool, mX10_isSuch_b24 keys years months presses winds skies rains v1 v2 v3 v4 = some o → (fun z => z = out) o → xW p l e ({ frames := 3, cells := 0, slots := 0, locals := 66 }) s m [.ref q_this, .int p0, .int p1] below meth c (xQi s.heap (xb out)) (F0 m 24 ls []) := by
    intro v1 v2 v3 v4 ls hl o h ho
    unfold mX10_isSuch_b24 at h
    refine x_loop_walk (K := (fun z => z = out)) (motive := fun q : Int32 × Int32 => ∀ ls : Array Slot, lv_has ls 6 [(0, .ref q_this), (1, .int (v1)), (2, .int (v2)), (3, .int (q.1)), (4, .int (q.2))] → xW p l e ({ frames := 3, cells := 0, slots := 0, locals := 66 }) s m [.ref q_this, .int p0, .int p1] below meth c (xQi s.heap (xb out)) (F0 m 24 ls [])) ?_ h ho ls hl
    intro K1 e1 i1 q o h ho
    obtain ⟨v3, v4⟩ := q
    intro ls hl
    have hl : lv_has ls 6 [(0, .ref q_this), (1, .int v1), (2, .int v2), (3, .int v3), (4, .int v4)] := hl
    replace h : mX10_isSuch_s24 keys years months presses winds skies rains v1 v2 v3 v4 = some o := h
    unfold mX10_isSuch_s24 at h
    have J82 : ∀ (v3 : Int32) (v4 : Int32) (ls : Array Slot), lv_has ls 6 [(0, .ref q_this), (1, .int v1), (2, .int v2), (3, .int v3), (4, .int v4)] → ∀ o : ((Bool) ⊕ (Int32 × Int32)), mX10_isSuch_b82 keys years months presses winds skies rains v1 v2 v3 v4 = some o → K1 o → xW p l e ({ frames := 3, cells := 0, slots := 0, locals := 66 }) s m [.ref q_this, .int p0, .int p1] below meth c (xQi s.heap (xb out)) (F0 m 82 ls []) := by
      intro v3 v4 ls hl o h ho
      unfold mX10_isSuch_b82 at h
      refine lv_iinc (v := (v4 + 1)) (lv' := [(4, .int (v4 + 1)), (0, .ref q_this), (1, .int v1), (2, .int v2), (3, .int v3)]) hx hb dX10_isSuch_82 hl (k := 4) rfl rfl (by decide) rfl (fun ls hl => ?_)
      refine lv_goto (tgt := 24) hx hb dX10_isSuch_85 (by decide) ?_
      exact i1 (v3, (v4 + 1)) (by cases h; exact ho) ls (lv_sub hl [1, 2, 3, 4, 0] rfl)
    have J81 : ∀ (v4 : Int32) (t0 : Int32) (ls : Array Slot), lv_has ls 6 [(0, .ref q_this), (1, .int v1), (2, .int v2), (4, .int v4)] → ∀ o : ((Bool) ⊕ (Int32 × Int32)), mX10_isSuch_b81 keys years months presses winds skies rains v1 v2 v4 t0 = some o → K1 o → xW p l e ({ frames := 3, cells := 0, slots := 0, locals := 66 }) s m [.ref q_this, .int p0, .int p1] below meth c (xQi s.heap (xb out)) (F0 m 81 ls [.int t0]) := by
      intro v4 t0 ls hl o h ho
      unfold mX10_isSuch_b81 at h
      refine lv_istore_n (lv' := [(3, .int t0), (0, .ref q_this), (1, .int v1), (2, .int v2), (4, .int v4)]) hx hb dX10_isSuch_81 rfl hl (by decide) rfl (fun ls hl => ?_)
      exact J82 t0 v4 ls (lv_sub hl [1, 2, 3, 0, 4] rfl) _ h ho
    have J80 : ∀ (v4 : Int32) (ls : Array Slot), lv_has ls 6 [(0, .ref q_this), (1, .int v1), (2, .int v2), (4, .int v4)] → ∀ o : ((Bool) ⊕ (Int32 × Int32)), mX10_isSuch_b80 keys years months presses winds skies rains v1 v2 v4 = some o → K1 o → xW p l e ({ frames := 3, cells := 0, slots := 0, locals := 66 }) s m [.ref q_this, .int p0, .int p1] below meth c (xQi s.heap (xb out)) (F0 m 80 ls []) := by
      intro v4 ls hl o h ho
      unfold mX10_isSuch_b80 at h
      refine lv_iconst (v := 0) hx hb dX10_isSuch_80 (by decide) ?_
      exact J81 v4 0 ls (lv_sub hl [0, 1, 2, 3] rfl) _ h ho
    refine lv_iload hx hb dX10_isSuch_24 (lv_at hl 4 rfl) ?_
    refine lv_bipush (v := 6) hx hb dX10_isSuch_26 (by decide) ?_
    refine lv_icmp_ge (tgt := 88) hx hb dX10_isSuch_28 (by decide) (fun hc401 => ?_) (fun hc401 => ?_)
    · replace h := (if_pos hc401).symm.trans h
      refine lv_iload_n hx hb dX10_isSuch_88 rfl (lv_at hl 3 rfl) ?_
      obtain ⟨hbz, h⟩ := x_needs h
      have hq : (decide (v3 = 1)) = out := by cases h; exact (e1 _ ho)
      subst hq
      exact x_zret (b := (decide (v3 = 1))) hx hb hr hlk rfl (x_bool hbz) rfl dX10_isSuch_89
    · replace h := (if_neg hc401).symm.trans h
      refine lv_iload_n hx hb dX10_isSuch_31 rfl (lv_at hl 3 rfl) ?_
      refine lv_if_eq (tgt := 88) hx hb dX10_isSuch_32 (by decide) (fun hc402 => ?_) (fun hc402 => ?_)
      · replace h := (if_pos hc402).symm.trans h
        refine lv_iload_n hx hb dX10_isSuch_88 rfl (lv_at hl 3 rfl) ?_
        obtain ⟨hbz, h⟩ := x_needs h
        have hq : (decide (v3 = 1)) = out := by cases h; exact (e1 _ ho)
        subst hq
        exact x_zret (b := (decide (v3 = 1))) hx hb hr hlk rfl (x_bool hbz) rfl dX10_isSuch_89
      · replace h := (if_neg hc402).symm.trans h
        refine lv_aload_n hx hb dX10_isSuch_35 rfl (lv_at hl 0 rfl) ?_
        refine va_get (D := xD G) (ci := 10) (v := .int keys) (C := RX10) (T := TX10) (N := 40) hx hb hts (fun w9 h9 => (List.mem_cons_of_mem _ (List.mem_append_right _ h9))) hown hE.1 hP 0 rfl rfl 19 (by decide) (hts (.fieldLink RX10 90 "FallingGlassModel" "keys" "I") (List.mem_of_getElem? (i := 2) rfl)) (fun _ h9 => h9) rfl dX10_isSuch_36 ?_
        refine lv_iload hx hb dX10_isSuch_39 (lv_at hl 4 rfl) ?_
        refine lv_ishr hx hb dX10_isSuch_41 ?_
        refine lv_iconst (v := 1) hx hb dX10_isSuch_42 (by decide) ?_
        refine lv_iand hx hb dX10_isSuch_43 ?_
        refine lv_iconst (v := 1) hx hb dX10_isSuch_44 (by decide) ?_
        refine lv_icmp_ne (tgt := 82) hx hb dX10_isSuch_45 (by decide) (fun hc403 => ?_) (fun hc403 => ?_)
        · replace h := (if_neg hc403).symm.trans h
          exact J82 v3 v4 ls (lv_sub hl [0, 1, 2, 3, 4] rfl) _ h ho
        · replace h := (if_pos hc403).symm.trans h
          refine lv_aload_n hx hb dX10_isSuch_48 rfl (lv_at hl 0 rfl) ?_
          refine lv_iload hx hb dX10_isSuch_49 (lv_at hl 4 rfl) ?_
          refine lv_iload_n hx hb dX10_isSuch_51 rfl (lv_at hl 1 rfl) ?_
          obtain ⟨r404, hr404, h⟩ := x_bind h
          have hPr404 : va_P (xD G) vwCl [(q_this, .inr (10, [.int mind, .int needle, .int stick, .ref q_years, .ref q_months, .ref q_presses, .ref q_winds, .ref q_skies, .ref q_rains, .ref q_wires, .int days, .ref q_signs, .int signMany, .ref q_cases, .ref q_caseFrom, .ref q_caseTells, .ref q_testAsks, .ref q_testHow, .ref q_testNumber, .int keys, .int weight, .int care, .long scoreSum, .long scoreDays, .int triedSpoken, .int triedRain, .int triedTaken, .int triedBoth, .ref q_glassX, .ref q_glassY, .ref q_glassPress, .ref q_glassWind, .int glasses, .ref q_dry, .ref q_value, .ref q_doing, .ref q_kept, .ref q_isKept, .int keptAt, .int isWriting])), (q_years, .inl (xy G 0, 60, .inl years)), (q_months, .inl (xy G 0, 60, .inl months)), (q_presses, .inl (xy G 0, 60, .inl presses)), (q_winds, .inl (xy G 0, 60, .inl winds)), (q_skies, .inl (xy G 0, 60, .inl skies)), (q_rains, .inl (xy G 0, 60, .inl rains))] s.heap := hP.sub [0, 1, 2, 3, 4, 5, 6] rfl
          refine x_calli (va_runV (As := [.int v4, .int v1]) (rest := []) ⟨hx, hb, hml, hown, hts⟩ (kX10_keyOf l G s.heap hPr404 hr404) (cwV 2 hts gX10_isSuch_X10_keyOf rfl rfl rfl (by decide +kernel) ⟨Nat.le_of_ble_eq_true rfl, Nat.le_of_ble_eq_true rfl⟩) (x_preV hE hS hP (ci := 10) (q0 := 0) rfl rfl) rfl rfl hl.1 rfl (lv_room (Nat.le_of_ble_eq_true rfl)) dX10_isSuch_52 ⟨Nat.le_of_ble_eq_true rfl, Nat.le_of_ble_eq_true rfl⟩) ?_
          refine lv_istore (lv' := [(5, .int r404), (0, .ref q_this), (1, .int v1), (2, .int v2), (3, .int v3), (4, .int v4)]) hx hb dX10_isSuch_55 hl (by decide) rfl (fun ls hl => ?_)
          refine lv_iload hx hb dX10_isSuch_57 (lv_at hl 0 rfl) ?_
          refine lv_bipush (v := (-6)) hx hb dX10_isSuch_59 (by decide) ?_
          refine lv_icmp_eq (tgt := 80) hx hb dX10_isSuch_61 (by decide) (fun hc405 => ?_) (fun hc405 => ?_)
          · replace h := (if_pos hc405).symm.trans h
            exact J80 v4 ls (lv_sub hl [1, 2, 3, 5] rfl) _ h ho
          · replace h := (if_neg hc405).symm.trans h
            refine lv_iload hx hb dX10_isSuch_64 (lv_at hl 0 rfl) ?_
            refine lv_aload_n hx hb dX10_isSuch_66 rfl (lv_at hl 1 rfl) ?_
            refine lv_iload hx hb dX10_isSuch_67 (lv_at hl 5 rfl) ?_
            refine lv_iload_n hx hb dX10_isSuch_69 rfl (lv_at hl 3 rfl) ?_
            obtain ⟨r406, hr406, h⟩ := x_bind h
            have hPr406 : va_P (xD G) vwCl [(q_this, .inr (10, [.int mind, .int needle, .int stick, .ref q_years, .ref q_months, .ref q_presses, .ref q_winds, .ref q_skies, .ref q_rains, .ref q_wires, .int days, .ref q_signs, .int signMany, .ref q_cases, .ref q_caseFrom, .ref q_caseTells, .ref q_testAsks, .ref q_testHow, .ref q_testNumber, .int keys, .int weight, .int care, .long scoreSum, .long scoreDays, .int triedSpoken, .int triedRain, .int triedTaken, .int triedBoth, .ref q_glassX, .ref q_glassY, .ref q_glassPress, .ref q_glassWind, .int glasses, .ref q_dry, .ref q_value, .ref q_doing, .ref q_kept, .ref q_isKept, .int keptAt, .int isWriting])), (q_years, .inl (xy G 0, 60, .inl years)), (q_months, .inl (xy G 0, 60, .inl months)), (q_presses, .inl (xy G 0, 60, .inl presses)), (q_winds, .inl (xy G 0, 60, .inl winds)), (q_skies, .inl (xy G 0, 60, .inl skies)), (q_rains, .inl (xy G 0, 60, .inl rains))] s.heap := hP.sub [0, 1, 2, 3, 4, 5, 6] rfl
            refine x_calli (va_runV (As := [.int v4, .int v2]) (rest := [.int r404]) ⟨hx, hb, hml, hown, hts⟩ (kX10_keyOf l G s.heap hPr406 hr406) (cwV 2 hts gX10_isSuch_X10_keyOf rfl rfl rfl (by decide +kernel) ⟨Nat.le_of_ble_eq_true rfl, Nat.le_of_ble_eq_true rfl⟩) (x_preV hE hS hP (ci := 10) (q0 := 0) rfl rfl) rfl rfl hl.1 rfl (lv_room (Nat.le_of_ble_eq_true rfl)) dX10_isSuch_70 ⟨Nat.le_of_ble_eq_true rfl, Nat.le_of_ble_eq_true rfl⟩) ?_
            refine lv_icmp_ne (tgt := 80) hx hb dX10_isSuch_73 (by decide) (fun hc407 => ?_) (fun hc407 => ?_)
            · replace h := (if_neg hc407).symm.trans h
              exact J80 v4 ls (lv_sub hl [1, 2, 3, 5] rfl) _ h ho
            · replace h := (if_pos hc407).symm.trans h
              refine lv_iconst (v := 1) hx hb dX10_isSuch_76 (by decide) ?_
              refine lv_goto (tgt := 81) hx hb dX10_isSuch_77 (by decide) ?_
              exact J81 v4 1 ls (lv_sub hl [1, 2, 3, 5] rfl) _ h ho
  have J20 : ∀ (v1 : Int32) (v2 : Int32) (t0 : Int32) (ls : Array Slot), lv_has ls 6 [(0, .ref q_this), (1, .int v1), (2, .int v2)] → ∀ o : Bool, mX10_isSuch_b20 keys years months presses winds skies rains v1 v2 t0 = some o → (fun z => z = out) o → xW p l e ({ frames := 3, cells := 0, slots := 0, locals := 66 }) s m [.ref q_this, .int p0, .int p1] below meth c (xQi s.heap (xb out)) (F0 m 20 ls [.int t0]) := by
    intro v1 v2 t0 ls hl o h ho
    unfold mX10_isSuch_b20 at h
    refine lv_istore_n (lv' := [(3, .int t0), (0, .ref q_this), (1, .int v1), (2, .int v2)]) hx hb dX10_isSuch_20 rfl hl (by decide) rfl (fun ls hl => ?_)
    refine lv_iconst (v := 0) hx hb dX10_isSuch_21 (by decide) ?_
    refine lv_istore (lv' := [(4, .int 0), (3, .int t0), (0, .ref q_this), (1, .int v1), (2, .int v2)]) hx hb dX10_isSuch_22 hl (by decide) rfl (fun ls hl => ?_)
    exact J24 v1 v2 t0 0 ls (lv_sub hl [2, 3, 4, 1, 0] rfl) _ h ho
  unfold mX10_isSuch at h
  refine lv_aload_n hx hb dX10_isSuch_0 rfl (lv_at hl 0 rfl) ?_
  refine va_get (D := xD G) (ci := 10) (v := .ref q_years) (C := RX10) (T := TX10) (N := 40) hx hb hts (fun w9 h9 => (List.mem_cons_of_mem _ (List.mem_append_right _ h9))) hown hE.1 hP 0 rfl rfl 3 (by decide) (hts (.fieldLink RX10 7 "FallingGlassModel" "years" "[I") (List.mem_of_getElem? (i := 1) rfl)) (fun _ h9 => h9) rfl dX10_isSuch_1 ?_
  refine lv_iload_n hx hb dX10_isSuch_4 rfl (lv_at hl 1 rfl) ?_
  obtain ⟨hi501, h⟩ := x_needs h
  refine va_iald (D := xD G) hx hb hE.1 hP 1 0 rfl rfl hi501 dX10_isSuch_5 ?_
  refine lv_aload_n hx hb dX10_isSuch_6 rfl (lv_at hl 0 rfl) ?_
  refine va_get (D := xD G) (ci := 10) (v := .ref q_years) (C := RX10) (T := TX10) (N := 40) hx hb hts (fun w9 h9 => (List.mem_cons_of_mem _ (List.mem_append_right _ h9))) hown hE.1 hP 0 rfl rfl 3 (by decide) (hts (.fieldLink RX10 7 "FallingGlassModel" "years" "[I") (List.mem_of_getElem? (i := 1) rfl)) (fun _ h9 => h9) rfl dX10_isSuch_7 ?_
  refine lv_iload_n hx hb dX10_isSuch_10 rfl (lv_at hl 2 rfl) ?_
  obtain ⟨hi502, h⟩ := x_needs h
  refine va_iald (D := xD G) hx hb hE.1 hP 1 0 rfl rfl hi502 dX10_isSuch_11 ?_
  refine lv_icmp_eq (tgt := 19) hx hb dX10_isSuch_12 (by decide) (fun hc503 => ?_) (fun hc503 => ?_)
  · replace h := (if_pos hc503).symm.trans h
    refine lv_iconst (v := 0) hx hb dX10_isSuch_19 (by decide) ?_
    exact J20 p0 p1 0 ls (lv_sub hl [0, 1, 2] rfl) _ h ho
  · replace h := (if_neg hc503).symm.trans h
    refine lv_iconst (v := 1) hx hb dX10_isSuch_15 (by decide) ?_
    refine lv_goto (tgt := 20) hx hb dX10_isSuch_16 (by decide) ?_
    exact J20 p0 p1 1 ls (lv_sub hl [0, 1, 2] rfl) _ h ho
noncomputable def mX10_suchMany_b45 (days : Int32) (keys : Int32) (years : Nat → Int32) (months : Nat → Int32) (presses : Nat → Int32) (winds : Nat → Int32) (skies : Nat → Int32) (rains : Nat → Int32) (v1 : Int32) (v2 : Int32) (v4 : Int32) (t0 : Int32) (t1 : Int32) : Option (((Int32) ⊕ (Int32 × Int32))) :=
  some (.inr ((t0 + t1), (v4 + 1)))
noncomputable def mX10_suchMany_b44 (days : Int32) (keys : Int32) (years : Nat → Int32) (months : Nat → Int32) (presses : Nat → Int32) (winds : Nat → Int32) (skies : Nat → Int32) (rains : Nat → Int32) (v1 : Int32) (v2 : Int32) (v4 : Int32) (t0 : Int32) : Option (((Int32) ⊕ (Int32 × Int32))) :=
  mX10_suchMany_b45 days keys years months presses winds skies rains v1 v2 v4 t0 0
noncomputable def mX10_suchMany_b40 (days : Int32) (keys : Int32) (years : Nat → Int32) (months : Nat → Int32) (presses : Nat → Int32) (winds : Nat → Int32) (skies : Nat → Int32) (rains : Nat → Int32) (v1 : Int32) (v2 : Int32) (v4 : Int32) (t0 : Int32) : Option (((Int32) ⊕ (Int32 × Int32))) :=
  mX10_suchMany_b45 days keys years months presses winds skies rains v1 v2 v4 t0 1
noncomputable def mX10_suchMany_s5 (days : Int32) (keys : Int32) (years : Nat → Int32) (months : Nat → Int32) (presses : Nat → Int32) (winds : Nat → Int32) (skies : Nat → Int32) (rains : Nat → Int32) (v1 : Int32) (v2 : Int32) (v3 : Int32) (v4 : Int32) : Option (((Int32) ⊕ (Int32 × Int32))) :=
  if days ≤ v4 then (some (.inl v3)) else ((mX10_isSuch keys years months presses winds skies rains v1 v4).bind (fun r402 => if (xb r402) = 0 then (mX10_suchMany_b44 days keys years months presses winds skies rains v1 v2 v4 v3) else (if v2 = 0 then (mX10_suchMany_b40 days keys years months presses winds skies rains v1 v2 v4 v3) else (x_need (x_in v4 60) (if (rains (Int32.toNatClampNeg v4)) = 1 then (mX10_suchMany_b40 days keys years months presses winds skies rains v1 v2 v4 v3) else (mX10_suchMany_b44 days keys years months presses winds skies rains v1 v2 v4 v3))))))
noncomputable def mX10_suchMany_b5 (days : Int32) (keys : Int32) (years : Nat → Int32) (months : Nat → Int32) (presses : Nat → Int32) (winds : Nat → Int32) (skies : Nat → Int32) (rains : Nat → Int32) (v1 : Int32) (v2 : Int32) (v3 : Int32) (v4 : Int32) : Option (Int32) :=
  x_loop (fun q : Int32 × Int32 => mX10_suchMany_s5 days keys years months presses winds skies rains v1 v2 (q.1) (q.2)) (v3, v4)
noncomputable def mX10_suchMany (days : Int32) (keys : Int32) (years : Nat → Int32) (months : Nat → Int32) (presses : Nat → Int32) (winds : Nat → Int32) (skies : Nat → Int32) (rains : Nat → Int32) (p0 : Int32) (p1 : Int32) : Option (Int32) :=
  mX10_suchMany_b5 days keys years months presses winds skies rains p0 p1 0 0
set_option maxHeartbeats 4000000 in
set_option maxRecDepth 100000 in
theorem kX10_suchMany (l : Launch) (G : xG) (H0 : Heap) {q_this q_years q_months q_presses q_winds q_skies q_rains q_wires q_signs q_cases q_caseFrom q_caseTells q_testAsks q_testHow q_testNumber q_glassX q_glassY q_glassPress q_glassWind q_dry q_value q_doing q_kept q_isKept : Nat} {mind : Int32} {needle : Int32} {stick : Int32} {days : Int32} {signMany : Int32} {keys : Int32} {weight : Int32} {care : Int32} {scoreSum : Int64} {scoreDays : Int64} {triedSpoken : Int32} {triedRain : Int32} {triedTaken : Int32} {triedBoth : Int32} {glasses : Int32} {keptAt : Int32} {isWriting : Int32} {years : Nat → Int32} {months : Nat → Int32} {presses : Nat → Int32} {winds : Nat → Int32} {skies : Nat → Int32} {rains : Nat → Int32} {p0 : Int32} {p1 : Int32} (hP : va_P (xD G) vwCl [(q_this, .inr (10, [.int mind, .int needle, .int stick, .ref q_years, .ref q_months, .ref q_presses, .ref q_winds, .ref q_skies, .ref q_rains, .ref q_wires, .int days, .ref q_signs, .int signMany, .ref q_cases, .ref q_caseFrom, .ref q_caseTells, .ref q_testAsks, .ref q_testHow, .ref q_testNumber, .int keys, .int weight, .int care, .long scoreSum, .long scoreDays, .int triedSpoken, .int triedRain, .int triedTaken, .int triedBoth, .ref q_glassX, .ref q_glassY, .ref q_glassPress, .ref q_glassWind, .int glasses, .ref q_dry, .ref q_value, .ref q_doing, .ref q_kept, .ref q_isKept, .int keptAt, .int isWriting])), (q_years, .inl (xy G 0, 60, .inl years)), (q_months, .inl (xy G 0, 60, .inl months)), (q_presses, .inl (xy G 0, 60, .inl presses)), (q_winds, .inl (xy G 0, 60, .inl winds)), (q_skies, .inl (xy G 0, 60, .inl skies)), (q_rains, .inl (xy G 0, 60, .inl rains))] H0) {out : Int32} (h : mX10_suchMany days keys years months presses winds skies rains p0 p1 = some out) : Met l yX10_suchMany wsX10_suchMany ({ frames := 4, cells := 0, slots := 0, locals := 91 }) (xPc G H0 [.ref q_this, .int p0, .int p1]) (xQi H0 (out)) 0 0 xN := by
  refine x_met (by decide) rfl (Nat.le_of_ble_eq_true rfl) ?_
  intro p e s m below meth c ls hH hA hl
  obtain ⟨hx, hb, hr, hlk, hml, hown, hts, hE⟩ := hA
  subst hH
  have hown : s.vm.findClass RX10 = some m.cls := hown
  have hl : lv_has ls 5 [(0, .ref q_this), (1, .int p0), (2, .int p1)] := hl
  have hS : va_S xN s.heap s.heap [] := va_S.rf
  have ho : out = out := rfl
  have J5 : ∀ (v1 : Int32) (v2 : Int32) (v3 : Int32) (v4 : Int32) (ls : Array Slot), lv_has ls 5 [(0, .ref q_this), (1, .int v1), (2, .int v2), (3, .int v3), (4, .int v4)] → ∀ o : Int32, mX10_suchMany_b5 days keys years months presses winds skies rains v1 v2 v3 v4 = some o → (fun z => z = out) o → xW p l e ({ frames := 4, cells := 0, slots := 0, locals := 91 }) s m [.ref q_this, .int p0, .int p1] below meth c (xQi s.heap (out)) (F0 m 5 ls []) := by
    intro v1 v2 v3 v4 ls hl o h ho
    unfold mX10_suchMany_b5 at h
    refine x_loop_walk (K := (fun z => z = out)) (motive := fun q : Int32 × Int32 => ∀ ls : Array Slot, lv_has ls 5 [(0, .ref q_this), (1, .int (v1)), (2, .int (v2)), (3, .int (q.1)), (4, .int (q.2))] → xW p l e ({ frames := 4, cells := 0, slots := 0, locals := 91 }) s m [.ref q_this, .int p0, .int p1] below meth c (xQi s.heap (out)) (F0 m 5 ls [])) ?_ h ho ls hl
    intro K1 e1 i1 q o h ho
    obtain ⟨v3, v4⟩ := q
    intro ls hl
    have hl : lv_has ls 5 [(0, .ref q_this), (1, .int v1), (2, .int v2), (3, .int v3), (4, .int v4)] := hl
    replace h : mX10_suchMany_s5 days keys years months presses winds skies rains v1 v2 v3 v4 = some o := h
    unfold mX10_suchMany_s5 at h
    have J45 : ∀ (v4 : Int32) (t0 : Int32) (t1 : Int32) (ls : Array Slot), lv_has ls 5 [(0, .ref q_this), (1, .int v1), (2, .int v2), (4, .int v4)] → ∀ o : ((Int32) ⊕ (Int32 × Int32)), mX10_suchMany_b45 days keys years months presses winds skies rains v1 v2 v4 t0 t1 = some o → K1 o → xW p l e ({ frames := 4, cells := 0, slots := 0, locals := 91 }) s m [.ref q_this, .int p0, .int p1] below meth c (xQi s.heap (out)) (F0 m 45 ls [.int t1, .int t0]) := by
      intro v4 t0 t1 ls hl o h ho
      unfold mX10_suchMany_b45 at h
      refine lv_iadd hx hb dX10_suchMany_45 ?_
      refine lv_istore_n (lv' := [(3, .int (t0 + t1)), (0, .ref q_this), (1, .int v1), (2, .int v2), (4, .int v4)]) hx hb dX10_suchMany_46 rfl hl (by decide) rfl (fun ls hl => ?_)
      refine lv_iinc (v := (v4 + 1)) (lv' := [(4, .int (v4 + 1)), (3, .int (t0 + t1)), (0, .ref q_this), (1, .int v1), (2, .int v2)]) hx hb dX10_suchMany_47 hl (k := 4) rfl rfl (by decide) rfl (fun ls hl => ?_)
      refine lv_goto (tgt := 5) hx hb dX10_suchMany_50 (by decide) ?_
      exact i1 ((t0 + t1), (v4 + 1)) (by cases h; exact ho) ls (lv_sub hl [2, 3, 4, 1, 0] rfl)
    have J44 : ∀ (v4 : Int32) (t0 : Int32) (ls : Array Slot), lv_has ls 5 [(0, .ref q_this), (1, .int v1), (2, .int v2), (4, .int v4)] → ∀ o : ((Int32) ⊕ (Int32 × Int32)), mX10_suchMany_b44 days keys years months presses winds skies rains v1 v2 v4 t0 = some o → K1 o → xW p l e ({ frames := 4, cells := 0, slots := 0, locals := 91 }) s m [.ref q_this, .int p0, .int p1] below meth c (xQi s.heap (out)) (F0 m 44 ls [.int t0]) := by
      intro v4 t0 ls hl o h ho
      unfold mX10_suchMany_b44 at h
      refine lv_iconst (v := 0) hx hb dX10_suchMany_44 (by decide) ?_
      exact J45 v4 t0 0 ls (lv_sub hl [0, 1, 2, 3] rfl) _ h ho
    have J40 : ∀ (v4 : Int32) (t0 : Int32) (ls : Array Slot), lv_has ls 5 [(0, .ref q_this), (1, .int v1), (2, .int v2), (4, .int v4)] → ∀ o : ((Int32) ⊕ (Int32 × Int32)), mX10_suchMany_b40 days keys years months presses winds skies rains v1 v2 v4 t0 = some o → K1 o → xW p l e ({ frames := 4, cells := 0, slots := 0, locals := 91 }) s m [.ref q_this, .int p0, .int p1] below meth c (xQi s.heap (out)) (F0 m 40 ls [.int t0]) := by
      intro v4 t0 ls hl o h ho
      unfold mX10_suchMany_b40 at h
      refine lv_iconst (v := 1) hx hb dX10_suchMany_40 (by decide) ?_
      refine lv_goto (tgt := 45) hx hb dX10_suchMany_41 (by decide) ?_
      exact J45 v4 t0 1 ls (lv_sub hl [0, 1, 2, 3] rfl) _ h ho
    refine lv_iload hx hb dX10_suchMany_5 (lv_at hl 4 rfl) ?_
    refine lv_aload_n hx hb dX10_suchMany_7 rfl (lv_at hl 0 rfl) ?_
    refine va_get (D := xD G) (ci := 10) (v := .int days) (C := RX10) (T := TX10) (N := 40) hx hb hts (fun w9 h9 => (List.mem_cons_of_mem _ (List.mem_append_right _ h9))) hown hE.1 hP 0 rfl rfl 10 (by decide) (hts (.fieldLink RX10 111 "FallingGlassModel" "days" "I") (List.mem_of_getElem? (i := 1) rfl)) (fun _ h9 => h9) rfl dX10_suchMany_8 ?_
    refine lv_icmp_ge (tgt := 53) hx hb dX10_suchMany_11 (by decide) (fun hc401 => ?_) (fun hc401 => ?_)
    · replace h := (if_pos hc401).symm.trans h
      refine lv_iload_n hx hb dX10_suchMany_53 rfl (lv_at hl 3 rfl) ?_
      have hq : v3 = out := by cases h; exact (e1 _ ho)
      subst hq
      exact x_iret hx hb hr hlk rfl rfl dX10_suchMany_54
    · replace h := (if_neg hc401).symm.trans h
      refine lv_iload_n hx hb dX10_suchMany_14 rfl (lv_at hl 3 rfl) ?_
      refine lv_aload_n hx hb dX10_suchMany_15 rfl (lv_at hl 0 rfl) ?_
      refine lv_iload_n hx hb dX10_suchMany_16 rfl (lv_at hl 1 rfl) ?_
      refine lv_iload hx hb dX10_suchMany_17 (lv_at hl 4 rfl) ?_
      obtain ⟨r402, hr402, h⟩ := x_bind h
      have hPr402 : va_P (xD G) vwCl [(q_this, .inr (10, [.int mind, .int needle, .int stick, .ref q_years, .ref q_months, .ref q_presses, .ref q_winds, .ref q_skies, .ref q_rains, .ref q_wires, .int days, .ref q_signs, .int signMany, .ref q_cases, .ref q_caseFrom, .ref q_caseTells, .ref q_testAsks, .ref q_testHow, .ref q_testNumber, .int keys, .int weight, .int care, .long scoreSum, .long scoreDays, .int triedSpoken, .int triedRain, .int triedTaken, .int triedBoth, .ref q_glassX, .ref q_glassY, .ref q_glassPress, .ref q_glassWind, .int glasses, .ref q_dry, .ref q_value, .ref q_doing, .ref q_kept, .ref q_isKept, .int keptAt, .int isWriting])), (q_years, .inl (xy G 0, 60, .inl years)), (q_months, .inl (xy G 0, 60, .inl months)), (q_presses, .inl (xy G 0, 60, .inl presses)), (q_winds, .inl (xy G 0, 60, .inl winds)), (q_skies, .inl (xy G 0, 60, .inl skies)), (q_rains, .inl (xy G 0, 60, .inl rains))] s.heap := hP.sub [0, 1, 2, 3, 4, 5, 6] rfl
      refine x_calli (va_runV (As := [.int v1, .int v4]) (rest := [.int v3]) ⟨hx, hb, hml, hown, hts⟩ (kX10_isSuch l G s.heap hPr402 hr402) (cwV 2 hts gX10_suchMany_X10_isSuch rfl rfl rfl (by decide +kernel) ⟨Nat.le_of_ble_eq_true rfl, Nat.le_of_ble_eq_true rfl⟩) (x_preV hE hS hP (ci := 10) (q0 := 0) rfl rfl) rfl rfl hl.1 rfl (lv_room (Nat.le_of_ble_eq_true rfl)) dX10_suchMany_19 ⟨Nat.le_of_ble_eq_true rfl, Nat.le_of_ble_eq_true rfl⟩) ?_
      refine lv_if_eq (tgt := 44) hx hb dX10_suchMany_22 (by decide) (fun hc403 => ?_) (fun hc403 => ?_)
      · replace h := (if_pos hc403).symm.trans h
        exact J44 v4 v3 ls (lv_sub hl [0, 1, 2, 4] rfl) _ h ho
      · replace h := (if_neg hc403).symm.trans h
        refine lv_iload_n hx hb dX10_suchMany_25 rfl (lv_at hl 2 rfl) ?_
        refine lv_if_eq (tgt := 40) hx hb dX10_suchMany_26 (by decide) (fun hc404 => ?_) (fun hc404 => ?_)
        · replace h := (if_pos hc404).symm.trans h
          exact J40 v4 v3 ls (lv_sub hl [0, 1, 2, 4] rfl) _ h ho
        · replace h := (if_neg hc404).symm.trans h
          refine lv_aload_n hx hb dX10_suchMany_29 rfl (lv_at hl 0 rfl) ?_
          refine va_get (D := xD G) (ci := 10) (v := .ref q_rains) (C := RX10) (T := TX10) (N := 40) hx hb hts (fun w9 h9 => (List.mem_cons_of_mem _ (List.mem_append_right _ h9))) hown hE.1 hP 0 rfl rfl 8 (by decide) (hts (.fieldLink RX10 25 "FallingGlassModel" "rains" "[I") (List.mem_of_getElem? (i := 2) rfl)) (fun _ h9 => h9) rfl dX10_suchMany_30 ?_
          refine lv_iload hx hb dX10_suchMany_33 (lv_at hl 4 rfl) ?_
          obtain ⟨hi405, h⟩ := x_needs h
          refine va_iald (D := xD G) hx hb hE.1 hP 6 0 rfl rfl hi405 dX10_suchMany_35 ?_
          refine lv_iconst (v := 1) hx hb dX10_suchMany_36 (by decide) ?_
          refine lv_icmp_ne (tgt := 44) hx hb dX10_suchMany_37 (by decide) (fun hc406 => ?_) (fun hc406 => ?_)
          · replace h := (if_neg hc406).symm.trans h
            exact J44 v4 v3 ls (lv_sub hl [0, 1, 2, 4] rfl) _ h ho
          · replace h := (if_pos hc406).symm.trans h
            exact J40 v4 v3 ls (lv_sub hl [0, 1, 2, 4] rfl) _ h ho
  unfold mX10_suchMany at h
  refine lv_iconst (v := 0) hx hb dX10_suchMany_0 (by decide) ?_
  refine lv_istore_n (lv' := [(3, .int 0), (0, .ref q_this), (1, .int p0), (2, .int p1)]) hx hb dX10_suchMany_1 rfl hl (by decide) rfl (fun ls hl => ?_)
  refine lv_iconst (v := 0) hx hb dX10_suchMany_2 (by decide) ?_
  refine lv_istore (lv' := [(4, .int 0), (3, .int 0), (0, .ref q_this), (1, .int p0), (2, .int p1)]) hx hb dX10_suchMany_3 hl (by decide) rfl (fun ls hl => ?_)
  exact J5 p0 p1 0 0 ls (lv_sub hl [2, 3, 4, 1, 0] rfl) _ h ho
noncomputable def mX10_bookOf (days : Int32) (keys : Int32) (years : Nat → Int32) (months : Nat → Int32) (presses : Nat → Int32) (winds : Nat → Int32) (skies : Nat → Int32) (rains : Nat → Int32) (p0 : Int32) : Option (Int32) :=
  (mX10_suchMany days keys years months presses winds skies rains p0 1).bind (fun r501 => (mX10_suchMany days keys years months presses winds skies rains p0 0).bind (fun r502 => (mX10_share r501 r502).bind (fun r503 => some r503)))
set_option maxHeartbeats 4000000 in
set_option maxRecDepth 100000 in
theorem kX10_bookOf (l : Launch) (G : xG) (H0 : Heap) {q_this q_years q_months q_presses q_winds q_skies q_rains q_wires q_signs q_cases q_caseFrom q_caseTells q_testAsks q_testHow q_testNumber q_glassX q_glassY q_glassPress q_glassWind q_dry q_value q_doing q_kept q_isKept : Nat} {mind : Int32} {needle : Int32} {stick : Int32} {days : Int32} {signMany : Int32} {keys : Int32} {weight : Int32} {care : Int32} {scoreSum : Int64} {scoreDays : Int64} {triedSpoken : Int32} {triedRain : Int32} {triedTaken : Int32} {triedBoth : Int32} {glasses : Int32} {keptAt : Int32} {isWriting : Int32} {years : Nat → Int32} {months : Nat → Int32} {presses : Nat → Int32} {winds : Nat → Int32} {skies : Nat → Int32} {rains : Nat → Int32} {p0 : Int32} (hP : va_P (xD G) vwCl [(q_this, .inr (10, [.int mind, .int needle, .int stick, .ref q_years, .ref q_months, .ref q_presses, .ref q_winds, .ref q_skies, .ref q_rains, .ref q_wires, .int days, .ref q_signs, .int signMany, .ref q_cases, .ref q_caseFrom, .ref q_caseTells, .ref q_testAsks, .ref q_testHow, .ref q_testNumber, .int keys, .int weight, .int care, .long scoreSum, .long scoreDays, .int triedSpoken, .int triedRain, .int triedTaken, .int triedBoth, .ref q_glassX, .ref q_glassY, .ref q_glassPress, .ref q_glassWind, .int glasses, .ref q_dry, .ref q_value, .ref q_doing, .ref q_kept, .ref q_isKept, .int keptAt, .int isWriting])), (q_years, .inl (xy G 0, 60, .inl years)), (q_months, .inl (xy G 0, 60, .inl months)), (q_presses, .inl (xy G 0, 60, .inl presses)), (q_winds, .inl (xy G 0, 60, .inl winds)), (q_skies, .inl (xy G 0, 60, .inl skies)), (q_rains, .inl (xy G 0, 60, .inl rains))] H0) {out : Int32} (h : mX10_bookOf days keys years months presses winds skies rains p0 = some out) : Met l yX10_bookOf wsX10_bookOf ({ frames := 5, cells := 0, slots := 0, locals := 115 }) (xPc G H0 [.ref q_this, .int p0]) (xQi H0 (out)) 0 0 xN := by
  refine x_met (by decide) rfl (Nat.le_of_ble_eq_true rfl) ?_
  intro p e s m below meth c ls hH hA hl
  obtain ⟨hx, hb, hr, hlk, hml, hown, hts, hE⟩ := hA
  subst hH
  have hown : s.vm.findClass RX10 = some m.cls := hown
  have hl : lv_has ls 2 [(0, .ref q_this), (1, .int p0)] := hl
  have hS : va_S xN s.heap s.heap [] := va_S.rf
  have ho : out = out := rfl
  unfold mX10_bookOf at h
  refine lv_aload_n hx hb dX10_bookOf_0 rfl (lv_at hl 0 rfl) ?_
  refine lv_iload_n hx hb dX10_bookOf_1 rfl (lv_at hl 1 rfl) ?_
  refine lv_iconst (v := 1) hx hb dX10_bookOf_2 (by decide) ?_
  obtain ⟨r501, hr501, h⟩ := x_bind h
  have hPr501 : va_P (xD G) vwCl [(q_this, .inr (10, [.int mind, .int needle, .int stick, .ref q_years, .ref q_months, .ref q_presses, .ref q_winds, .ref q_skies, .ref q_rains, .ref q_wires, .int days, .ref q_signs, .int signMany, .ref q_cases, .ref q_caseFrom, .ref q_caseTells, .ref q_testAsks, .ref q_testHow, .ref q_testNumber, .int keys, .int weight, .int care, .long scoreSum, .long scoreDays, .int triedSpoken, .int triedRain, .int triedTaken, .int triedBoth, .ref q_glassX, .ref q_glassY, .ref q_glassPress, .ref q_glassWind, .int glasses, .ref q_dry, .ref q_value, .ref q_doing, .ref q_kept, .ref q_isKept, .int keptAt, .int isWriting])), (q_years, .inl (xy G 0, 60, .inl years)), (q_months, .inl (xy G 0, 60, .inl months)), (q_presses, .inl (xy G 0, 60, .inl presses)), (q_winds, .inl (xy G 0, 60, .inl winds)), (q_skies, .inl (xy G 0, 60, .inl skies)), (q_rains, .inl (xy G 0, 60, .inl rains))] s.heap := hP.sub [0, 1, 2, 3, 4, 5, 6] rfl
  refine x_calli (va_runV (As := [.int p0, .int 1]) (rest := []) ⟨hx, hb, hml, hown, hts⟩ (kX10_suchMany l G s.heap hPr501 hr501) (cwV 2 hts gX10_bookOf_X10_suchMany rfl rfl rfl (by decide +kernel) ⟨Nat.le_of_ble_eq_true rfl, Nat.le_of_ble_eq_true rfl⟩) (x_preV hE hS hP (ci := 10) (q0 := 0) rfl rfl) rfl rfl hl.1 rfl (lv_room (Nat.le_of_ble_eq_true rfl)) dX10_bookOf_3 ⟨Nat.le_of_ble_eq_true rfl, Nat.le_of_ble_eq_true rfl⟩) ?_
  refine lv_aload_n hx hb dX10_bookOf_6 rfl (lv_at hl 0 rfl) ?_
  refine lv_iload_n hx hb dX10_bookOf_7 rfl (lv_at hl 1 rfl) ?_
  refine lv_iconst (v := 0) hx hb dX10_bookOf_8 (by decide) ?_
  obtain ⟨r502, hr502, h⟩ := x_bind h
  have hPr502 : va_P (xD G) vwCl [(q_this, .inr (10, [.int mind, .int needle, .int stick, .ref q_years, .ref q_months, .ref q_presses, .ref q_winds, .ref q_skies, .ref q_rains, .ref q_wires, .int days, .ref q_signs, .int signMany, .ref q_cases, .ref q_caseFrom, .ref q_caseTells, .ref q_testAsks, .ref q_testHow, .ref q_testNumber, .int keys, .int weight, .int care, .long scoreSum, .long scoreDays, .int triedSpoken, .int triedRain, .int triedTaken, .int triedBoth, .ref q_glassX, .ref q_glassY, .ref q_glassPress, .ref q_glassWind, .int glasses, .ref q_dry, .ref q_value, .ref q_doing, .ref q_kept, .ref q_isKept, .int keptAt, .int isWriting])), (q_years, .inl (xy G 0, 60, .inl years)), (q_months, .inl (xy G 0, 60, .inl months)), (q_presses, .inl (xy G 0, 60, .inl presses)), (q_winds, .inl (xy G 0, 60, .inl winds)), (q_skies, .inl (xy G 0, 60, .inl skies)), (q_rains, .inl (xy G 0, 60, .inl rains))] s.heap := hP.sub [0, 1, 2, 3, 4, 5, 6] rfl
  refine x_calli (va_runV (As := [.int p0, .int 0]) (rest := [.int r501]) ⟨hx, hb, hml, hown, hts⟩ (kX10_suchMany l G s.heap hPr502 hr502) (cwV 2 hts gX10_bookOf_X10_suchMany rfl rfl rfl (by decide +kernel) ⟨Nat.le_of_ble_eq_true rfl, Nat.le_of_ble_eq_true rfl⟩) (x_preV hE hS hP (ci := 10) (q0 := 0) rfl rfl) rfl rfl hl.1 rfl (lv_room (Nat.le_of_ble_eq_true rfl)) dX10_bookOf_9 ⟨Nat.le_of_ble_eq_true rfl, Nat.le_of_ble_eq_true rfl⟩) ?_
  obtain ⟨r503, hr503, h⟩ := x_bind h
  refine x_calli (va_runS (As := [.int r501, .int r502]) (rest := []) ⟨hx, hb, hml, hown, hts⟩ (kX10_share l G s.heap hr503) (va_cwS 2 hts gX10_bookOf_X10_share rfl rfl rfl (by decide +kernel) ⟨Nat.le_of_ble_eq_true rfl, Nat.le_of_ble_eq_true rfl⟩) (x_preS hE hS) rfl rfl hl.1 rfl (lv_room (Nat.le_of_ble_eq_true rfl)) dX10_bookOf_12 ⟨Nat.le_of_ble_eq_true rfl, Nat.le_of_ble_eq_true rfl⟩) ?_
  have hq : r503 = out := by cases h; exact ho
  subst hq
  exact x_iret hx hb hr hlk rfl rfl dX10_bookOf_15
noncomputable def mX10_oddsOf (days : Int32) (keys : Int32) (weight : Int32) (years : Nat → Int32) (months : Nat → Int32) (presses : Nat → Int32) (winds : Nat → Int32) (skies : Nat → Int32) (rains : Nat → Int32) (wires : Nat → Int32) (cases : Nat → Int32) (caseFrom : Nat → Int32) (caseTells : Nat → Int32) (testAsks : Nat → Int32) (testHow : Nat → Int32) (testNumber : Nat → Int32) (p0 : Int32) (p1 : Int32) : Option (Int32) :=
  if p0 = 0 then (if p1 = 0 then (some ((-6))) else (x_need (x_in ((p1 - 1)) 60) (some ((1000 * (rains (Int32.toNatClampNeg ((p1 - 1))))))))) else (if p0 = 1 then ((mX10_monthOf days years months rains p1).bind (fun r514 => some r514)) else (if 6 ≤ p0 then (if p0 = 6 then ((mX10_bookOf days keys years months presses winds skies rains p1).bind (fun r512 => some r512)) else (if p0 = 7 then (x_need (x_in p1 60) (some ((wires (Int32.toNatClampNeg p1))))) else ((mX10_bookOf days keys years months presses winds skies rains p1).bind (fun r506 => if r506 < 0 then (some ((-6))) else (x_need (x_in p1 60) (if 0 ≤ (wires (Int32.toNatClampNeg p1)) then (x_need (x_in p1 60) (some ((((r506 * weight) + ((wires (Int32.toNatClampNeg p1)) * (10 - weight))) / 10)))) else (some ((-6))))))))) else ((mX10_saidOf years months presses winds skies rains cases caseFrom caseTells testAsks testHow testNumber ((p0 - 2)) p1).bind (fun r513 => some r513))))
set_option maxHeartbeats 4000000 in
set_option maxRecDepth 100000 in
theorem kX10_oddsOf (l : Launch) (G : xG) (H0 : Heap) {q_this q_years q_months q_presses q_winds q_skies q_rains q_wires q_signs q_cases q_caseFrom q_caseTells q_testAsks q_testHow q_testNumber q_glassX q_glassY q_glassPress q_glassWind q_dry q_value q_doing q_kept q_isKept : Nat} {mind : Int32} {needle : Int32} {stick : Int32} {days : Int32} {signMany : Int32} {keys : Int32} {weight : Int32} {care : Int32} {scoreSum : Int64} {scoreDays : Int64} {triedSpoken : Int32} {triedRain : Int32} {triedTaken : Int32} {triedBoth : Int32} {glasses : Int32} {keptAt : Int32} {isWriting : Int32} {years : Nat → Int32} {months : Nat → Int32} {presses : Nat → Int32} {winds : Nat → Int32} {skies : Nat → Int32} {rains : Nat → Int32} {wires : Nat → Int32} {cases : Nat → Int32} {caseFrom : Nat → Int32} {caseTells : Nat → Int32} {testAsks : Nat → Int32} {testHow : Nat → Int32} {testNumber : Nat → Int32} {p0 : Int32} {p1 : Int32} (hP : va_P (xD G) vwCl [(q_this, .inr (10, [.int mind, .int needle, .int stick, .ref q_years, .ref q_months, .ref q_presses, .ref q_winds, .ref q_skies, .ref q_rains, .ref q_wires, .int days, .ref q_signs, .int signMany, .ref q_cases, .ref q_caseFrom, .ref q_caseTells, .ref q_testAsks, .ref q_testHow, .ref q_testNumber, .int keys, .int weight, .int care, .long scoreSum, .long scoreDays, .int triedSpoken, .int triedRain, .int triedTaken, .int triedBoth, .ref q_glassX, .ref q_glassY, .ref q_glassPress, .ref q_glassWind, .int glasses, .ref q_dry, .ref q_value, .ref q_doing, .ref q_kept, .ref q_isKept, .int keptAt, .int isWriting])), (q_years, .inl (xy G 0, 60, .inl years)), (q_months, .inl (xy G 0, 60, .inl months)), (q_presses, .inl (xy G 0, 60, .inl presses)), (q_winds, .inl (xy G 0, 60, .inl winds)), (q_skies, .inl (xy G 0, 60, .inl skies)), (q_rains, .inl (xy G 0, 60, .inl rains)), (q_wires, .inl (xy G 0, 60, .inl wires)), (q_cases, .inl (xy G 0, 4, .inl cases)), (q_caseFrom, .inl (xy G 0, 60, .inl caseFrom)), (q_caseTells, .inl (xy G 0, 56, .inl caseTells)), (q_testAsks, .inl (xy G 0, 56, .inl testAsks)), (q_testHow, .inl (xy G 0, 56, .inl testHow)), (q_testNumber, .inl (xy G 0, 56, .inl testNumber))] H0) {out : Int32} (h : mX10_oddsOf days keys weight years months presses winds skies rains wires cases caseFrom caseTells testAsks testHow testNumber p0 p1 = some out) : Met l yX10_oddsOf wsX10_oddsOf ({ frames := 6, cells := 0, slots := 0, locals := 136 }) (xPc G H0 [.ref q_this, .int p0, .int p1]) (xQi H0 (out)) 0 0 xN := by
  refine x_met (by decide) rfl (Nat.le_of_ble_eq_true rfl) ?_
  intro p e s m below meth c ls hH hA hl
  obtain ⟨hx, hb, hr, hlk, hml, hown, hts, hE⟩ := hA
  subst hH
  have hown : s.vm.findClass RX10 = some m.cls := hown
  have hl : lv_has ls 4 [(0, .ref q_this), (1, .int p0), (2, .int p1)] := hl
  have hS : va_S xN s.heap s.heap [] := va_S.rf
  have ho : out = out := rfl
  unfold mX10_oddsOf at h
  refine lv_iload_n hx hb dX10_oddsOf_0 rfl (lv_at hl 1 rfl) ?_
  refine lv_if_ne (tgt := 26) hx hb dX10_oddsOf_1 (by decide) (fun hc501 => ?_) (fun hc501 => ?_)
  · replace h := (if_neg hc501).symm.trans h
    refine lv_iload_n hx hb dX10_oddsOf_26 rfl (lv_at hl 1 rfl) ?_
    refine lv_iconst (v := 1) hx hb dX10_oddsOf_27 (by decide) ?_
    refine lv_icmp_ne (tgt := 37) hx hb dX10_oddsOf_28 (by decide) (fun hc502 => ?_) (fun hc502 => ?_)
    · replace h := (if_neg hc502).symm.trans h
      refine lv_iload_n hx hb dX10_oddsOf_37 rfl (lv_at hl 1 rfl) ?_
      refine lv_bipush (v := 6) hx hb dX10_oddsOf_38 (by decide) ?_
      refine lv_icmp_ge (tgt := 52) hx hb dX10_oddsOf_40 (by decide) (fun hc503 => ?_) (fun hc503 => ?_)
      · replace h := (if_pos hc503).symm.trans h
        refine lv_iload_n hx hb dX10_oddsOf_52 rfl (lv_at hl 1 rfl) ?_
        refine lv_bipush (v := 6) hx hb dX10_oddsOf_53 (by decide) ?_
        refine lv_icmp_ne (tgt := 64) hx hb dX10_oddsOf_55 (by decide) (fun hc504 => ?_) (fun hc504 => ?_)
        · replace h := (if_neg hc504).symm.trans h
          refine lv_iload_n hx hb dX10_oddsOf_64 rfl (lv_at hl 1 rfl) ?_
          refine lv_bipush (v := 7) hx hb dX10_oddsOf_65 (by decide) ?_
          refine lv_icmp_ne (tgt := 77) hx hb dX10_oddsOf_67 (by decide) (fun hc505 => ?_) (fun hc505 => ?_)
          · replace h := (if_neg hc505).symm.trans h
            refine lv_aload_n hx hb dX10_oddsOf_77 rfl (lv_at hl 0 rfl) ?_
            refine lv_iload_n hx hb dX10_oddsOf_78 rfl (lv_at hl 2 rfl) ?_
            obtain ⟨r506, hr506, h⟩ := x_bind h
            have hPr506 : va_P (xD G) vwCl [(q_this, .inr (10, [.int mind, .int needle, .int stick, .ref q_years, .ref q_months, .ref q_presses, .ref q_winds, .ref q_skies, .ref q_rains, .ref q_wires, .int days, .ref q_signs, .int signMany, .ref q_cases, .ref q_caseFrom, .ref q_caseTells, .ref q_testAsks, .ref q_testHow, .ref q_testNumber, .int keys, .int weight, .int care, .long scoreSum, .long scoreDays, .int triedSpoken, .int triedRain, .int triedTaken, .int triedBoth, .ref q_glassX, .ref q_glassY, .ref q_glassPress, .ref q_glassWind, .int glasses, .ref q_dry, .ref q_value, .ref q_doing, .ref q_kept, .ref q_isKept, .int keptAt, .int isWriting])), (q_years, .inl (xy G 0, 60, .inl years)), (q_months, .inl (xy G 0, 60, .inl months)), (q_presses, .inl (xy G 0, 60, .inl presses)), (q_winds, .inl (xy G 0, 60, .inl winds)), (q_skies, .inl (xy G 0, 60, .inl skies)), (q_rains, .inl (xy G 0, 60, .inl rains))] s.heap := hP.sub [0, 1, 2, 3, 4, 5, 6] rfl
            refine x_calli (va_runV (As := [.int p1]) (rest := []) ⟨hx, hb, hml, hown, hts⟩ (kX10_bookOf l G s.heap hPr506 hr506) (cwV 1 hts gX10_oddsOf_X10_bookOf rfl rfl rfl (by decide +kernel) ⟨Nat.le_of_ble_eq_true rfl, Nat.le_of_ble_eq_true rfl⟩) (x_preV hE hS hP (ci := 10) (q0 := 0) rfl rfl) rfl rfl hl.1 rfl (lv_room (Nat.le_of_ble_eq_true rfl)) dX10_oddsOf_79 ⟨Nat.le_of_ble_eq_true rfl, Nat.le_of_ble_eq_true rfl⟩) ?_
            refine lv_istore_n (lv' := [(3, .int r506), (0, .ref q_this), (1, .int p0), (2, .int p1)]) hx hb dX10_oddsOf_82 rfl hl (by decide) rfl (fun ls hl => ?_)
            refine lv_iload_n hx hb dX10_oddsOf_83 rfl (lv_at hl 0 rfl) ?_
            refine lv_if_lt (tgt := 96) hx hb dX10_oddsOf_84 (by decide) (fun hc507 => ?_) (fun hc507 => ?_)
            · replace h := (if_pos hc507).symm.trans h
              refine lv_bipush (v := (-6)) hx hb dX10_oddsOf_96 (by decide) ?_
              refine lv_goto (tgt := 125) hx hb dX10_oddsOf_98 (by decide) ?_
              have hq : (-6) = out := by cases h; exact ho
              subst hq
              exact x_iret hx hb hr hlk rfl rfl dX10_oddsOf_125
            · replace h := (if_neg hc507).symm.trans h
              refine lv_aload_n hx hb dX10_oddsOf_87 rfl (lv_at hl 1 rfl) ?_
              refine va_get (D := xD G) (ci := 10) (v := .ref q_wires) (C := RX10) (T := TX10) (N := 40) hx hb hts (fun w9 h9 => (List.mem_cons_of_mem _ (List.mem_append_right _ h9))) hown hE.1 hP 0 rfl rfl 9 (by decide) (hts (.fieldLink RX10 28 "FallingGlassModel" "wires" "[I") (List.mem_of_getElem? (i := 2) rfl)) (fun _ h9 => h9) rfl dX10_oddsOf_88 ?_
              refine lv_iload_n hx hb dX10_oddsOf_91 rfl (lv_at hl 3 rfl) ?_
              obtain ⟨hi508, h⟩ := x_needs h
              refine va_iald (D := xD G) hx hb hE.1 hP 7 0 rfl rfl hi508 dX10_oddsOf_92 ?_
              refine lv_if_ge (tgt := 101) hx hb dX10_oddsOf_93 (by decide) (fun hc509 => ?_) (fun hc509 => ?_)
              · replace h := (if_pos hc509).symm.trans h
                refine lv_iload_n hx hb dX10_oddsOf_101 rfl (lv_at hl 0 rfl) ?_
                refine lv_aload_n hx hb dX10_oddsOf_102 rfl (lv_at hl 1 rfl) ?_
                refine va_get (D := xD G) (ci := 10) (v := .int weight) (C := RX10) (T := TX10) (N := 40) hx hb hts (fun w9 h9 => (List.mem_cons_of_mem _ (List.mem_append_right _ h9))) hown hE.1 hP 0 rfl rfl 20 (by decide) (hts (.fieldLink RX10 93 "FallingGlassModel" "weight" "I") (List.mem_of_getElem? (i := 3) rfl)) (fun _ h9 => h9) rfl dX10_oddsOf_103 ?_
                refine lv_imul hx hb dX10_oddsOf_106 ?_
                refine lv_aload_n hx hb dX10_oddsOf_107 rfl (lv_at hl 1 rfl) ?_
                refine va_get (D := xD G) (ci := 10) (v := .ref q_wires) (C := RX10) (T := TX10) (N := 40) hx hb hts (fun w9 h9 => (List.mem_cons_of_mem _ (List.mem_append_right _ h9))) hown hE.1 hP 0 rfl rfl 9 (by decide) (hts (.fieldLink RX10 28 "FallingGlassModel" "wires" "[I") (List.mem_of_getElem? (i := 2) rfl)) (fun _ h9 => h9) rfl dX10_oddsOf_108 ?_
                refine lv_iload_n hx hb dX10_oddsOf_111 rfl (lv_at hl 3 rfl) ?_
                obtain ⟨hi510, h⟩ := x_needs h
                refine va_iald (D := xD G) hx hb hE.1 hP 7 0 rfl rfl hi510 dX10_oddsOf_112 ?_
                refine lv_bipush (v := 10) hx hb dX10_oddsOf_113 (by decide) ?_
                refine lv_aload_n hx hb dX10_oddsOf_115 rfl (lv_at hl 1 rfl) ?_
                refine va_get (D := xD G) (ci := 10) (v := .int weight) (C := RX10) (T := TX10) (N := 40) hx hb hts (fun w9 h9 => (List.mem_cons_of_mem _ (List.mem_append_right _ h9))) hown hE.1 hP 0 rfl rfl 20 (by decide) (hts (.fieldLink RX10 93 "FallingGlassModel" "weight" "I") (List.mem_of_getElem? (i := 3) rfl)) (fun _ h9 => h9) rfl dX10_oddsOf_116 ?_
                refine lv_isub hx hb dX10_oddsOf_119 ?_
                refine lv_imul hx hb dX10_oddsOf_120 ?_
                refine lv_iadd hx hb dX10_oddsOf_121 ?_
                refine lv_bipush (v := 10) hx hb dX10_oddsOf_122 (by decide) ?_
                refine lv_idiv hx hb dX10_oddsOf_124 (by decide) ?_
                have hq : (((r506 * weight) + ((wires (Int32.toNatClampNeg p1)) * (10 - weight))) / 10) = out := by cases h; exact ho
                subst hq
                exact x_iret hx hb hr hlk rfl rfl dX10_oddsOf_125
              · replace h := (if_neg hc509).symm.trans h
                refine lv_bipush (v := (-6)) hx hb dX10_oddsOf_96 (by decide) ?_
                refine lv_goto (tgt := 125) hx hb dX10_oddsOf_98 (by decide) ?_
                have hq : (-6) = out := by cases h; exact ho
                subst hq
                exact x_iret hx hb hr hlk rfl rfl dX10_oddsOf_125
          · replace h := (if_pos hc505).symm.trans h
            refine lv_aload_n hx hb dX10_oddsOf_70 rfl (lv_at hl 0 rfl) ?_
            refine va_get (D := xD G) (ci := 10) (v := .ref q_wires) (C := RX10) (T := TX10) (N := 40) hx hb hts (fun w9 h9 => (List.mem_cons_of_mem _ (List.mem_append_right _ h9))) hown hE.1 hP 0 rfl rfl 9 (by decide) (hts (.fieldLink RX10 28 "FallingGlassModel" "wires" "[I") (List.mem_of_getElem? (i := 2) rfl)) (fun _ h9 => h9) rfl dX10_oddsOf_71 ?_
            refine lv_iload_n hx hb dX10_oddsOf_74 rfl (lv_at hl 2 rfl) ?_
            obtain ⟨hi511, h⟩ := x_needs h
            refine va_iald (D := xD G) hx hb hE.1 hP 7 0 rfl rfl hi511 dX10_oddsOf_75 ?_
            have hq : (wires (Int32.toNatClampNeg p1)) = out := by cases h; exact ho
            subst hq
            exact x_iret hx hb hr hlk rfl rfl dX10_oddsOf_76
        · replace h := (if_pos hc504).symm.trans h
          refine lv_aload_n hx hb dX10_oddsOf_58 rfl (lv_at hl 0 rfl) ?_
          refine lv_iload_n hx hb dX10_oddsOf_59 rfl (lv_at hl 2 rfl) ?_
          obtain ⟨r512, hr512, h⟩ := x_bind h
          have hPr512 : va_P (xD G) vwCl [(q_this, .inr (10, [.int mind, .int needle, .int stick, .ref q_years, .ref q_months, .ref q_presses, .ref q_winds, .ref q_skies, .ref q_rains, .ref q_wires, .int days, .ref q_signs, .int signMany, .ref q_cases, .ref q_caseFrom, .ref q_caseTells, .ref q_testAsks, .ref q_testHow, .ref q_testNumber, .int keys, .int weight, .int care, .long scoreSum, .long scoreDays, .int triedSpoken, .int triedRain, .int triedTaken, .int triedBoth, .ref q_glassX, .ref q_glassY, .ref q_glassPress, .ref q_glassWind, .int glasses, .ref q_dry, .ref q_value, .ref q_doing, .ref q_kept, .ref q_isKept, .int keptAt, .int isWriting])), (q_years, .inl (xy G 0, 60, .inl years)), (q_months, .inl (xy G 0, 60, .inl months)), (q_presses, .inl (xy G 0, 60, .inl presses)), (q_winds, .inl (xy G 0, 60, .inl winds)), (q_skies, .inl (xy G 0, 60, .inl skies)), (q_rains, .inl (xy G 0, 60, .inl rains))] s.heap := hP.sub [0, 1, 2, 3, 4, 5, 6] rfl
          refine x_calli (va_runV (As := [.int p1]) (rest := []) ⟨hx, hb, hml, hown, hts⟩ (kX10_bookOf l G s.heap hPr512 hr512) (cwV 1 hts gX10_oddsOf_X10_bookOf rfl rfl rfl (by decide +kernel) ⟨Nat.le_of_ble_eq_true rfl, Nat.le_of_ble_eq_true rfl⟩) (x_preV hE hS hP (ci := 10) (q0 := 0) rfl rfl) rfl rfl hl.1 rfl (lv_room (Nat.le_of_ble_eq_true rfl)) dX10_oddsOf_60 ⟨Nat.le_of_ble_eq_true rfl, Nat.le_of_ble_eq_true rfl⟩) ?_
          have hq : r512 = out := by cases h; exact ho
          subst hq
          exact x_iret hx hb hr hlk rfl rfl dX10_oddsOf_63
      · replace h := (if_neg hc503).symm.trans h
        refine lv_aload_n hx hb dX10_oddsOf_43 rfl (lv_at hl 0 rfl) ?_
        refine lv_iload_n hx hb dX10_oddsOf_44 rfl (lv_at hl 1 rfl) ?_
        refine lv_iconst (v := 2) hx hb dX10_oddsOf_45 (by decide) ?_
        refine lv_isub hx hb dX10_oddsOf_46 ?_
        refine lv_iload_n hx hb dX10_oddsOf_47 rfl (lv_at hl 2 rfl) ?_
        obtain ⟨r513, hr513, h⟩ := x_bind h
        have hPr513 : va_P (xD G) vwCl [(q_this, .inr (10, [.int mind, .int needle, .int stick, .ref q_years, .ref q_months, .ref q_presses, .ref q_winds, .ref q_skies, .ref q_rains, .ref q_wires, .int days, .ref q_signs, .int signMany, .ref q_cases, .ref q_caseFrom, .ref q_caseTells, .ref q_testAsks, .ref q_testHow, .ref q_testNumber, .int keys, .int weight, .int care, .long scoreSum, .long scoreDays, .int triedSpoken, .int triedRain, .int triedTaken, .int triedBoth, .ref q_glassX, .ref q_glassY, .ref q_glassPress, .ref q_glassWind, .int glasses, .ref q_dry, .ref q_value, .ref q_doing, .ref q_kept, .ref q_isKept, .int keptAt, .int isWriting])), (q_years, .inl (xy G 0, 60, .inl years)), (q_months, .inl (xy G 0, 60, .inl months)), (q_presses, .inl (xy G 0, 60, .inl presses)), (q_winds, .inl (xy G 0, 60, .inl winds)), (q_skies, .inl (xy G 0, 60, .inl skies)), (q_rains, .inl (xy G 0, 60, .inl rains)), (q_cases, .inl (xy G 0, 4, .inl cases)), (q_caseFrom, .inl (xy G 0, 60, .inl caseFrom)), (q_caseTells, .inl (xy G 0, 56, .inl caseTells)), (q_testAsks, .inl (xy G 0, 56, .inl testAsks)), (q_testHow, .inl (xy G 0, 56, .inl testHow)), (q_testNumber, .inl (xy G 0, 56, .inl testNumber))] s.heap := hP.sub [0, 1, 2, 3, 4, 5, 6, 8, 9, 10, 11, 12, 13] rfl
        refine x_calli (va_runV (As := [.int (p0 - 2), .int p1]) (rest := []) ⟨hx, hb, hml, hown, hts⟩ (kX10_saidOf l G s.heap hPr513 hr513) (cwV 2 hts gX10_oddsOf_X10_saidOf rfl rfl rfl (by decide +kernel) ⟨Nat.le_of_ble_eq_true rfl, Nat.le_of_ble_eq_true rfl⟩) (x_preV hE hS hP (ci := 10) (q0 := 0) rfl rfl) rfl rfl hl.1 rfl (lv_room (Nat.le_of_ble_eq_true rfl)) dX10_oddsOf_48 ⟨Nat.le_of_ble_eq_true rfl, Nat.le_of_ble_eq_true rfl⟩) ?_
        have hq : r513 = out := by cases h; exact ho
        subst hq
        exact x_iret hx hb hr hlk rfl rfl dX10_oddsOf_51
    · replace h := (if_pos hc502).symm.trans h
      refine lv_aload_n hx hb dX10_oddsOf_31 rfl (lv_at hl 0 rfl) ?_
      refine lv_iload_n hx hb dX10_oddsOf_32 rfl (lv_at hl 2 rfl) ?_
      obtain ⟨r514, hr514, h⟩ := x_bind h
      have hPr514 : va_P (xD G) vwCl [(q_this, .inr (10, [.int mind, .int needle, .int stick, .ref q_years, .ref q_months, .ref q_presses, .ref q_winds, .ref q_skies, .ref q_rains, .ref q_wires, .int days, .ref q_signs, .int signMany, .ref q_cases, .ref q_caseFrom, .ref q_caseTells, .ref q_testAsks, .ref q_testHow, .ref q_testNumber, .int keys, .int weight, .int care, .long scoreSum, .long scoreDays, .int triedSpoken, .int triedRain, .int triedTaken, .int triedBoth, .ref q_glassX, .ref q_glassY, .ref q_glassPress, .ref q_glassWind, .int glasses, .ref q_dry, .ref q_value, .ref q_doing, .ref q_kept, .ref q_isKept, .int keptAt, .int isWriting])), (q_years, .inl (xy G 0, 60, .inl years)), (q_months, .inl (xy G 0, 60, .inl months)), (q_rains, .inl (xy G 0, 60, .inl rains))] s.heap := hP.sub [0, 1, 2, 6] rfl
      refine x_calli (va_runV (As := [.int p1]) (rest := []) ⟨hx, hb, hml, hown, hts⟩ (kX10_monthOf l G s.heap hPr514 hr514) (cwV 1 hts gX10_oddsOf_X10_monthOf rfl rfl rfl (by decide +kernel) ⟨Nat.le_of_ble_eq_true rfl, Nat.le_of_ble_eq_true rfl⟩) (x_preV hE hS hP (ci := 10) (q0 := 0) rfl rfl) rfl rfl hl.1 rfl (lv_room (Nat.le_of_ble_eq_true rfl)) dX10_oddsOf_33 ⟨Nat.le_of_ble_eq_true rfl, Nat.le_of_ble_eq_true rfl⟩) ?_
      have hq : r514 = out := by cases h; exact ho
      subst hq
      exact x_iret hx hb hr hlk rfl rfl dX10_oddsOf_36
  · replace h := (if_pos hc501).symm.trans h
    refine lv_iload_n hx hb dX10_oddsOf_4 rfl (lv_at hl 2 rfl) ?_
    refine lv_if_ne (tgt := 13) hx hb dX10_oddsOf_5 (by decide) (fun hc515 => ?_) (fun hc515 => ?_)
    · replace h := (if_neg hc515).symm.trans h
      refine lv_sipush (v := 1000) hx hb dX10_oddsOf_13 (by decide) ?_
      refine lv_aload_n hx hb dX10_oddsOf_16 rfl (lv_at hl 0 rfl) ?_
      refine va_get (D := xD G) (ci := 10) (v := .ref q_rains) (C := RX10) (T := TX10) (N := 40) hx hb hts (fun w9 h9 => (List.mem_cons_of_mem _ (List.mem_append_right _ h9))) hown hE.1 hP 0 rfl rfl 8 (by decide) (hts (.fieldLink RX10 25 "FallingGlassModel" "rains" "[I") (List.mem_of_getElem? (i := 1) rfl)) (fun _ h9 => h9) rfl dX10_oddsOf_17 ?_
      refine lv_iload_n hx hb dX10_oddsOf_20 rfl (lv_at hl 2 rfl) ?_
      refine lv_iconst (v := 1) hx hb dX10_oddsOf_21 (by decide) ?_
      refine lv_isub hx hb dX10_oddsOf_22 ?_
      obtain ⟨hi516, h⟩ := x_needs h
      refine va_iald (D := xD G) hx hb hE.1 hP 6 0 rfl rfl hi516 dX10_oddsOf_23 ?_
      refine lv_imul hx hb dX10_oddsOf_24 ?_
      have hq : (1000 * (rains (Int32.toNatClampNeg ((p1 - 1))))) = out := by cases h; exact ho
      subst hq
      exact x_iret hx hb hr hlk rfl rfl dX10_oddsOf_25
    · replace h := (if_pos hc515).symm.trans h
      refine lv_bipush (v := (-6)) hx hb dX10_oddsOf_8 (by decide) ?_
      refine lv_goto (tgt := 25) hx hb dX10_oddsOf_10 (by decide) ?_
      have hq : (-6) = out := by cases h; exact ho
      subst hq
      exact x_iret hx hb hr hlk rfl rfl dX10_oddsOf_25
noncomputable def mX10_isTeller  (p0 : Int32) : Option (Bool) :=
  (mX10_in ((Int32.toInt64 p0)) 0 8).bind (fun r501 => some r501)
set_option maxHeartbeats 4000000 in
set_option maxRecDepth 100000 in
theorem kX10_isTeller (l : Launch) (G : xG) (H0 : Heap) {p0 : Int32} {out : Bool} (h : mX10_isTeller p0 = some out) : Met l yX10_isTeller wsX10_isTeller ({ frames := 1, cells := 0, slots := 0, locals := 25 }) (xPc G H0 [.int p0]) (xQi H0 (xb out)) 0 0 xN := by
  refine x_met (by decide) rfl (Nat.le_of_ble_eq_true rfl) ?_
  intro p e s m below meth c ls hH hA hl
  obtain ⟨hx, hb, hr, hlk, hml, hown, hts, hE⟩ := hA
  subst hH
  have hown : s.vm.findClass RX10 = some m.cls := hown
  have hl : lv_has ls 1 [(0, .int p0)] := hl
  have hS : va_S xN s.heap s.heap [] := va_S.rf
  have ho : out = out := rfl
  unfold mX10_isTeller at h
  refine lv_iload_n hx hb dX10_isTeller_0 rfl (lv_at hl 0 rfl) ?_
  refine lv_i2l (v := (Int32.toInt64 p0)) hx hb dX10_isTeller_1 rfl ?_
  refine lv_lconst (v := 0) hx hb dX10_isTeller_2 (by decide) ?_
  refine lv_ldc2 (v := 8) hx hb hown (hts (.constantLong RX10 132 (8)) (List.mem_of_getElem? (i := 1) rfl)) dX10_isTeller_3 ?_
  obtain ⟨r501, hr501, h⟩ := x_bind h
  refine x_calli (va_runS (As := [.long (Int32.toInt64 p0), .long 0, .long 8]) (rest := []) ⟨hx, hb, hml, hown, hts⟩ (kX10_in l G s.heap hr501) (va_cwS 3 hts gX10_isTeller_X10_in rfl rfl rfl (by decide +kernel) ⟨Nat.le_of_ble_eq_true rfl, Nat.le_of_ble_eq_true rfl⟩) (x_preS hE hS) rfl rfl hl.1 rfl (lv_room (Nat.le_of_ble_eq_true rfl)) dX10_isTeller_6 ⟨Nat.le_of_ble_eq_true rfl, Nat.le_of_ble_eq_true rfl⟩) ?_
  have hq : r501 = out := by cases h; exact ho
  subst hq
  exact x_zret (b := r501) hx hb hr hlk rfl rfl rfl dX10_isTeller_9
noncomputable def mX10_odds (days : Int32) (keys : Int32) (weight : Int32) (years : Nat → Int32) (months : Nat → Int32) (presses : Nat → Int32) (winds : Nat → Int32) (skies : Nat → Int32) (rains : Nat → Int32) (wires : Nat → Int32) (cases : Nat → Int32) (caseFrom : Nat → Int32) (caseTells : Nat → Int32) (testAsks : Nat → Int32) (testHow : Nat → Int32) (testNumber : Nat → Int32) (p0 : Int32) (p1 : Int32) : Option (Int32) :=
  (mX10_isTeller p0).bind (fun r501 => if (xb r501) = 0 then (some ((-1))) else ((mX10_isDay days p1).bind (fun r503 => if (xb r503) = 0 then (some ((-1))) else ((mX10_oddsOf days keys weight years months presses winds skies rains wires cases caseFrom caseTells testAsks testHow testNumber p0 p1).bind (fun r505 => some r505)))))
set_option maxHeartbeats 4000000 in
set_option maxRecDepth 100000 in
theorem kX10_odds (l : Launch) (G : xG) (H0 : Heap) {q_this q_years q_months q_presses q_winds q_skies q_rains q_wires q_signs q_cases q_caseFrom q_caseTells q_testAsks q_testHow q_testNumber q_glassX q_glassY q_glassPress q_glassWind q_dry q_value q_doing q_kept q_isKept : Nat} {mind : Int32} {needle : Int32} {stick : Int32} {days : Int32} {signMany : Int32} {keys : Int32} {weight : Int32} {care : Int32} {scoreSum : Int64} {scoreDays : Int64} {triedSpoken : Int32} {triedRain : Int32} {triedTaken : Int32} {triedBoth : Int32} {glasses : Int32} {keptAt : Int32} {isWriting : Int32} {years : Nat → Int32} {months : Nat → Int32} {presses : Nat → Int32} {winds : Nat → Int32} {skies : Nat → Int32} {rains : Nat → Int32} {wires : Nat → Int32} {cases : Nat → Int32} {caseFrom : Nat → Int32} {caseTells : Nat → Int32} {testAsks : Nat → Int32} {testHow : Nat → Int32} {testNumber : Nat → Int32} {p0 : Int32} {p1 : Int32} (hP : va_P (xD G) vwCl [(q_this, .inr (10, [.int mind, .int needle, .int stick, .ref q_years, .ref q_months, .ref q_presses, .ref q_winds, .ref q_skies, .ref q_rains, .ref q_wires, .int days, .ref q_signs, .int signMany, .ref q_cases, .ref q_caseFrom, .ref q_caseTells, .ref q_testAsks, .ref q_testHow, .ref q_testNumber, .int keys, .int weight, .int care, .long scoreSum, .long scoreDays, .int triedSpoken, .int triedRain, .int triedTaken, .int triedBoth, .ref q_glassX, .ref q_glassY, .ref q_glassPress, .ref q_glassWind, .int glasses, .ref q_dry, .ref q_value, .ref q_doing, .ref q_kept, .ref q_isKept, .int keptAt, .int isWriting])), (q_years, .inl (xy G 0, 60, .inl years)), (q_months, .inl (xy G 0, 60, .inl months)), (q_presses, .inl (xy G 0, 60, .inl presses)), (q_winds, .inl (xy G 0, 60, .inl winds)), (q_skies, .inl (xy G 0, 60, .inl skies)), (q_rains, .inl (xy G 0, 60, .inl rains)), (q_wires, .inl (xy G 0, 60, .inl wires)), (q_cases, .inl (xy G 0, 4, .inl cases)), (q_caseFrom, .inl (xy G 0, 60, .inl caseFrom)), (q_caseTells, .inl (xy G 0, 56, .inl caseTells)), (q_testAsks, .inl (xy G 0, 56, .inl testAsks)), (q_testHow, .inl (xy G 0, 56, .inl testHow)), (q_testNumber, .inl (xy G 0, 56, .inl testNumber))] H0) {out : Int32} (h : mX10_odds days keys weight years months presses winds skies rains wires cases caseFrom caseTells testAsks testHow testNumber p0 p1 = some out) : Met l yX10_odds wsX10_odds ({ frames := 7, cells := 0, slots := 0, locals := 159 }) (xPc G H0 [.ref q_this, .int p0, .int p1]) (xQi H0 (out)) 0 0 xN := by
  refine x_met (by decide) rfl (Nat.le_of_ble_eq_true rfl) ?_
  intro p e s m below meth c ls hH hA hl
  obtain ⟨hx, hb, hr, hlk, hml, hown, hts, hE⟩ := hA
  subst hH
  have hown : s.vm.findClass RX10 = some m.cls := hown
  have hl : lv_has ls 3 [(0, .ref q_this), (1, .int p0), (2, .int p1)] := hl
  have hS : va_S xN s.heap s.heap [] := va_S.rf
  have ho : out = out := rfl
  unfold mX10_odds at h
  refine lv_iload_n hx hb dX10_odds_0 rfl (lv_at hl 1 rfl) ?_
  obtain ⟨r501, hr501, h⟩ := x_bind h
  refine x_calli (va_runS (As := [.int p0]) (rest := []) ⟨hx, hb, hml, hown, hts⟩ (kX10_isTeller l G s.heap hr501) (va_cwS 1 hts gX10_odds_X10_isTeller rfl rfl rfl (by decide +kernel) ⟨Nat.le_of_ble_eq_true rfl, Nat.le_of_ble_eq_true rfl⟩) (x_preS hE hS) rfl rfl hl.1 rfl (lv_room (Nat.le_of_ble_eq_true rfl)) dX10_odds_1 ⟨Nat.le_of_ble_eq_true rfl, Nat.le_of_ble_eq_true rfl⟩) ?_
  refine lv_if_eq (tgt := 24) hx hb dX10_odds_4 (by decide) (fun hc502 => ?_) (fun hc502 => ?_)
  · replace h := (if_pos hc502).symm.trans h
    refine lv_iconst (v := (-1)) hx hb dX10_odds_24 (by decide) ?_
    have hq : (-1) = out := by cases h; exact ho
    subst hq
    exact x_iret hx hb hr hlk rfl rfl dX10_odds_25
  · replace h := (if_neg hc502).symm.trans h
    refine lv_aload_n hx hb dX10_odds_7 rfl (lv_at hl 0 rfl) ?_
    refine lv_iload_n hx hb dX10_odds_8 rfl (lv_at hl 2 rfl) ?_
    obtain ⟨r503, hr503, h⟩ := x_bind h
    have hPr503 : va_P (xD G) vwCl [(q_this, .inr (10, [.int mind, .int needle, .int stick, .ref q_years, .ref q_months, .ref q_presses, .ref q_winds, .ref q_skies, .ref q_rains, .ref q_wires, .int days, .ref q_signs, .int signMany, .ref q_cases, .ref q_caseFrom, .ref q_caseTells, .ref q_testAsks, .ref q_testHow, .ref q_testNumber, .int keys, .int weight, .int care, .long scoreSum, .long scoreDays, .int triedSpoken, .int triedRain, .int triedTaken, .int triedBoth, .ref q_glassX, .ref q_glassY, .ref q_glassPress, .ref q_glassWind, .int glasses, .ref q_dry, .ref q_value, .ref q_doing, .ref q_kept, .ref q_isKept, .int keptAt, .int isWriting]))] s.heap := hP.sub [0] rfl
    refine x_calli (va_runV (As := [.int p1]) (rest := []) ⟨hx, hb, hml, hown, hts⟩ (kX10_isDay l G s.heap hPr503 hr503) (cwV 1 hts gX10_odds_X10_isDay rfl rfl rfl (by decide +kernel) ⟨Nat.le_of_ble_eq_true rfl, Nat.le_of_ble_eq_true rfl⟩) (x_preV hE hS hP (ci := 10) (q0 := 0) rfl rfl) rfl rfl hl.1 rfl (lv_room (Nat.le_of_ble_eq_true rfl)) dX10_odds_9 ⟨Nat.le_of_ble_eq_true rfl, Nat.le_of_ble_eq_true rfl⟩) ?_
    refine lv_if_eq (tgt := 24) hx hb dX10_odds_12 (by decide) (fun hc504 => ?_) (fun hc504 => ?_)
    · replace h := (if_pos hc504).symm.trans h
      refine lv_iconst (v := (-1)) hx hb dX10_odds_24 (by decide) ?_
      have hq : (-1) = out := by cases h; exact ho
      subst hq
      exact x_iret hx hb hr hlk rfl rfl dX10_odds_25
    · replace h := (if_neg hc504).symm.trans h
      refine lv_aload_n hx hb dX10_odds_15 rfl (lv_at hl 0 rfl) ?_
      refine lv_iload_n hx hb dX10_odds_16 rfl (lv_at hl 1 rfl) ?_
      refine lv_iload_n hx hb dX10_odds_17 rfl (lv_at hl 2 rfl) ?_
      obtain ⟨r505, hr505, h⟩ := x_bind h
      have hPr505 : va_P (xD G) vwCl [(q_this, .inr (10, [.int mind, .int needle, .int stick, .ref q_years, .ref q_months, .ref q_presses, .ref q_winds, .ref q_skies, .ref q_rains, .ref q_wires, .int days, .ref q_signs, .int signMany, .ref q_cases, .ref q_caseFrom, .ref q_caseTells, .ref q_testAsks, .ref q_testHow, .ref q_testNumber, .int keys, .int weight, .int care, .long scoreSum, .long scoreDays, .int triedSpoken, .int triedRain, .int triedTaken, .int triedBoth, .ref q_glassX, .ref q_glassY, .ref q_glassPress, .ref q_glassWind, .int glasses, .ref q_dry, .ref q_value, .ref q_doing, .ref q_kept, .ref q_isKept, .int keptAt, .int isWriting])), (q_years, .inl (xy G 0, 60, .inl years)), (q_months, .inl (xy G 0, 60, .inl months)), (q_presses, .inl (xy G 0, 60, .inl presses)), (q_winds, .inl (xy G 0, 60, .inl winds)), (q_skies, .inl (xy G 0, 60, .inl skies)), (q_rains, .inl (xy G 0, 60, .inl rains)), (q_wires, .inl (xy G 0, 60, .inl wires)), (q_cases, .inl (xy G 0, 4, .inl cases)), (q_caseFrom, .inl (xy G 0, 60, .inl caseFrom)), (q_caseTells, .inl (xy G 0, 56, .inl caseTells)), (q_testAsks, .inl (xy G 0, 56, .inl testAsks)), (q_testHow, .inl (xy G 0, 56, .inl testHow)), (q_testNumber, .inl (xy G 0, 56, .inl testNumber))] s.heap := hP.sub [0, 1, 2, 3, 4, 5, 6, 7, 8, 9, 10, 11, 12, 13] rfl
      refine x_calli (va_runV (As := [.int p0, .int p1]) (rest := []) ⟨hx, hb, hml, hown, hts⟩ (kX10_oddsOf l G s.heap hPr505 hr505) (cwV 2 hts gX10_odds_X10_oddsOf rfl rfl rfl (by decide +kernel) ⟨Nat.le_of_ble_eq_true rfl, Nat.le_of_ble_eq_true rfl⟩) (x_preV hE hS hP (ci := 10) (q0 := 0) rfl rfl) rfl rfl hl.1 rfl (lv_room (Nat.le_of_ble_eq_true rfl)) dX10_odds_18 ⟨Nat.le_of_ble_eq_true rfl, Nat.le_of_ble_eq_true rfl⟩) ?_
      refine lv_goto (tgt := 25) hx hb dX10_odds_21 (by decide) ?_
      have hq : r505 = out := by cases h; exact ho
      subst hq
      exact x_iret hx hb hr hlk rfl rfl dX10_odds_25
