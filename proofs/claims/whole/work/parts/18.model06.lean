/-! laid by program out of the bytecode: for each method its function (m..) and its contract (k..) -/
noncomputable def mX10_rightBy_b90 (days : Int32) (presses : Nat → Int32) (rains : Nat → Int32) (v1 : Int32) (v3 : Int32) (t0 : Int32) (t1 : Int32) : Option (((Int32) ⊕ (Int32 × Int32))) :=
  some (.inr ((t0 + t1), (v3 + 1)))
noncomputable def mX10_rightBy_b89 (days : Int32) (presses : Nat → Int32) (rains : Nat → Int32) (v1 : Int32) (v3 : Int32) (t0 : Int32) : Option (((Int32) ⊕ (Int32 × Int32))) :=
  mX10_rightBy_b90 days presses rains v1 v3 t0 0
noncomputable def mX10_rightBy_b68 (days : Int32) (presses : Nat → Int32) (rains : Nat → Int32) (v1 : Int32) (v2 : Int32) (v3 : Int32) (t0 : Int32) : Option (((Int32) ⊕ (Int32 × Int32))) :=
  x_need (x_in v3 60) (if (presses (Int32.toNatClampNeg v3)) < 0 then (mX10_rightBy_b89 days presses rains v1 v3 v2) else (if t0 = 0 then (mX10_rightBy_b89 days presses rains v1 v3 v2) else (mX10_rightBy_b90 days presses rains v1 v3 v2 1)))
noncomputable def mX10_rightBy_b67 (days : Int32) (presses : Nat → Int32) (rains : Nat → Int32) (v1 : Int32) (v2 : Int32) (v3 : Int32) : Option (((Int32) ⊕ (Int32 × Int32))) :=
  mX10_rightBy_b68 days presses rains v1 v2 v3 0
noncomputable def mX10_rightBy_s4 (days : Int32) (presses : Nat → Int32) (rains : Nat → Int32) (v1 : Int32) (v2 : Int32) (v3 : Int32) : Option (((Int32) ⊕ (Int32 × Int32))) :=
  if days ≤ v3 then (some (.inl v2)) else (x_need (x_in v3 60) (if 40 ≤ ((presses (Int32.toNatClampNeg v3)) + v1) then (if ((presses (Int32.toNatClampNeg v3)) + v1) < 60 then (mX10_rightBy_b67 days presses rains v1 v2 v3) else (x_need (x_in v3 60) (if (rains (Int32.toNatClampNeg v3)) = 0 then (mX10_rightBy_b68 days presses rains v1 v2 v3 1) else (mX10_rightBy_b67 days presses rains v1 v2 v3)))) else (x_need (x_in v3 60) (if (rains (Int32.toNatClampNeg v3)) = 1 then (mX10_rightBy_b68 days presses rains v1 v2 v3 1) else (mX10_rightBy_b68 days presses rains v1 v2 v3 0)))))
noncomputable def mX10_rightBy_b4 (days : Int32) (presses : Nat → Int32) (rains : Nat → Int32) (v1 : Int32) (v2 : Int32) (v3 : Int32) : Option (Int32) :=
  x_loop (fun q : Int32 × Int32 => mX10_rightBy_s4 days presses rains v1 (q.1) (q.2)) (v2, v3)
noncomputable def mX10_rightBy (days : Int32) (presses : Nat → Int32) (rains : Nat → Int32) (p0 : Int32) : Option (Int32) :=
  mX10_rightBy_b4 days presses rains p0 0 0
set_option maxHeartbeats 4000000 in
set_option maxRecDepth 100000 in
theorem kX10_rightBy (l : Launch) (G : xG) (H0 : Heap) {q_this q_years q_months q_presses q_winds q_skies q_rains q_wires q_signs q_cases q_caseFrom q_caseTells q_testAsks q_testHow q_testNumber q_glassX q_glassY q_glassPress q_glassWind q_dry q_value q_doing q_kept q_isKept : Nat} {mind : Int32} {needle : Int32} {stick : Int32} {days : Int32} {signMany : Int32} {keys : Int32} {weight : Int32} {care : Int32} {scoreSum : Int64} {scoreDays : Int64} {triedSpoken : Int32} {triedRain : Int32} {triedTaken : Int32} {triedBoth : Int32} {glasses : Int32} {keptAt : Int32} {isWriting : Int32} {presses : Nat → Int32} {rains : Nat → Int32} {p0 : Int32} (hP : va_P (xD G) vwCl [(q_this, .inr (10, [.int mind, .int needle, .int stick, .ref q_years, .ref q_months, .ref q_presses, .ref q_winds, .ref q_skies, .ref q_rains, .ref q_wires, .int days, .ref q_signs, .int signMany, .ref q_cases, .ref q_caseFrom, .ref q_caseTells, .ref q_testAsks, .ref q_testHow, .ref q_testNumber, .int keys, .int weight, .int care, .long scoreSum, .long scoreDays, .int triedSpoken, .int triedRain, .int triedTaken, .int triedBoth, .ref q_glassX, .ref q_glassY, .ref q_glassPress, .ref q_glassWind, .int glasses, .ref q_dry, .ref q_value, .ref q_doing, .ref q_kept, .ref q_isKept, .int keptAt, .int isWriting])), (q_presses, .inl (xy G 0, 60, .inl presses)), (q_rains, .inl (xy G 0, 60, .inl rains))] H0) {out : Int32} (h : mX10_rightBy days presses rains p0 = some out) : Met l yX10_rightBy wsX10_rightBy ({ frames := 0, cells := 0, slots := 0, locals := 0 }) (xPc G H0 [.ref q_this, .int p0]) (xQi H0 (out)) 0 0 xN := by
  refine x_met (by decide) rfl (Nat.le_of_ble_eq_true rfl) ?_
  intro p e s m below meth c ls hH hA hl
  obtain ⟨hx, hb, hr, hlk, hml, hown, hts, hE⟩ := hA
  subst hH
  have hown : s.vm.findClass RX10 = some m.cls := hown
  have hl : lv_has ls 6 [(0, .ref q_this), (1, .int p0)] := hl
  have hS : va_S xN s.heap s.heap [] := va_S.rf
  have ho : out = out := rfl
  have J4 : ∀ (v1 : Int32) (v2 : Int32) (v3 : Int32) (ls : Array Slot), lv_has ls 6 [(0, .ref q_this), (1, .int v1), (2, .int v2), (3, .int v3)] → ∀ o : Int32, mX10_rightBy_b4 days presses rains v1 v2 v3 = some o → (fun z => z = out) o → xW p l e ({ frames := 0, cells := 0, slots := 0, locals := 0 }) s m [.ref q_this, .int p0] below meth c (xQi s.heap (out)) (F0 m 4 ls []) := by
    intro v1 v2 v3 ls hl o h ho
    unfold mX10_rightBy_b4 at h
    refine x_loop_walk (K := (fun z => z = out)) (motive := fun q : Int32 × Int32 => ∀ ls : Array Slot, lv_has ls 6 [(0, .ref q_this), (1, .int (v1)), (2, .int (q.1)), (3, .int (q.2))] → xW p l e ({ frames := 0, cells := 0, slots := 0, locals := 0 }) s m [.ref q_this, .int p0] below meth c (xQi s.heap (out)) (F0 m 4 ls [])) ?_ h ho ls hl
    intro K1 e1 i1 q o h ho
    obtain ⟨v2, v3⟩ := q
    intro ls hl
    have hl : lv_has ls 6 [(0, .ref q_this), (1, .int v1), (2, .int v2), (3, .int v3)] := hl
    replace h : mX10_rightBy_s4 days presses rains v1 v2 v3 = some o := h
    unfold mX10_rightBy_s4 at h
    have J90 : ∀ (v3 : Int32) (t0 : Int32) (t1 : Int32) (ls : Array Slot), lv_has ls 6 [(0, .ref q_this), (1, .int v1), (3, .int v3)] → ∀ o : ((Int32) ⊕ (Int32 × Int32)), mX10_rightBy_b90 days presses rains v1 v3 t0 t1 = some o → K1 o → xW p l e ({ frames := 0, cells := 0, slots := 0, locals := 0 }) s m [.ref q_this, .int p0] below meth c (xQi s.heap (out)) (F0 m 90 ls [.int t1, .int t0]) := by
      intro v3 t0 t1 ls hl o h ho
      unfold mX10_rightBy_b90 at h
      refine lv_iadd hx hb dX10_rightBy_90 ?_
      refine lv_istore_n (lv' := [(2, .int (t0 + t1)), (0, .ref q_this), (1, .int v1), (3, .int v3)]) hx hb dX10_rightBy_91 rfl hl (by decide) rfl (fun ls hl => ?_)
      refine lv_iinc (v := (v3 + 1)) (lv' := [(3, .int (v3 + 1)), (2, .int (t0 + t1)), (0, .ref q_this), (1, .int v1)]) hx hb dX10_rightBy_92 hl (k := 3) rfl rfl (by decide) rfl (fun ls hl => ?_)
      refine lv_goto (tgt := 4) hx hb dX10_rightBy_95 (by decide) ?_
      exact i1 ((t0 + t1), (v3 + 1)) (by cases h; exact ho) ls (lv_sub hl [2, 3, 1, 0] rfl)
    have J89 : ∀ (v3 : Int32) (t0 : Int32) (ls : Array Slot), lv_has ls 6 [(0, .ref q_this), (1, .int v1), (3, .int v3)] → ∀ o : ((Int32) ⊕ (Int32 × Int32)), mX10_rightBy_b89 days presses rains v1 v3 t0 = some o → K1 o → xW p l e ({ frames := 0, cells := 0, slots := 0, locals := 0 }) s m [.ref q_this, .int p0] below meth c (xQi s.heap (out)) (F0 m 89 ls [.int t0]) := by
      intro v3 t0 ls hl o h ho
      unfold mX10_rightBy_b89 at h
      refine lv_iconst (v := 0) hx hb dX10_rightBy_89 (by decide) ?_
      exact J90 v3 t0 0 ls (lv_sub hl [0, 1, 2] rfl) _ h ho
    have J68 : ∀ (v2 : Int32) (v3 : Int32) (t0 : Int32) (ls : Array Slot), lv_has ls 6 [(0, .ref q_this), (1, .int v1), (2, .int v2), (3, .int v3)] → ∀ o : ((Int32) ⊕ (Int32 × Int32)), mX10_rightBy_b68 days presses rains v1 v2 v3 t0 = some o → K1 o → xW p l e ({ frames := 0, cells := 0, slots := 0, locals := 0 }) s m [.ref q_this, .int p0] below meth c (xQi s.heap (out)) (F0 m 68 ls [.int t0]) := by
      intro v2 v3 t0 ls hl o h ho
      unfold mX10_rightBy_b68 at h
      refine lv_istore (lv' := [(5, .int t0), (0, .ref q_this), (1, .int v1), (2, .int v2), (3, .int v3)]) hx hb dX10_rightBy_68 hl (by decide) rfl (fun ls hl => ?_)
      refine lv_iload_n hx hb dX10_rightBy_70 rfl (lv_at hl 3 rfl) ?_
      refine lv_aload_n hx hb dX10_rightBy_71 rfl (lv_at hl 1 rfl) ?_
      refine va_get (D := xD G) (ci := 10) (v := .ref q_presses) (C := RX10) (T := TX10) (N := 40) hx hb hts (fun w9 h9 => (List.mem_cons_of_mem _ (List.mem_append_right _ h9))) hown hE.1 hP 0 rfl rfl 5 (by decide) (hts (.fieldLink RX10 16 "FallingGlassModel" "presses" "[I") (List.mem_of_getElem? (i := 2) rfl)) (fun _ h9 => h9) rfl dX10_rightBy_72 ?_
      refine lv_iload_n hx hb dX10_rightBy_75 rfl (lv_at hl 4 rfl) ?_
      obtain ⟨hi301, h⟩ := x_needs h
      refine va_iald (D := xD G) hx hb hE.1 hP 1 0 rfl rfl hi301 dX10_rightBy_76 ?_
      refine lv_if_lt (tgt := 89) hx hb dX10_rightBy_77 (by decide) (fun hc302 => ?_) (fun hc302 => ?_)
      · replace h := (if_pos hc302).symm.trans h
        exact J89 v3 v2 ls (lv_sub hl [1, 2, 4] rfl) _ h ho
      · replace h := (if_neg hc302).symm.trans h
        refine lv_iload hx hb dX10_rightBy_80 (lv_at hl 0 rfl) ?_
        refine lv_if_eq (tgt := 89) hx hb dX10_rightBy_82 (by decide) (fun hc303 => ?_) (fun hc303 => ?_)
        · replace h := (if_pos hc303).symm.trans h
          exact J89 v3 v2 ls (lv_sub hl [1, 2, 4] rfl) _ h ho
        · replace h := (if_neg hc303).symm.trans h
          refine lv_iconst (v := 1) hx hb dX10_rightBy_85 (by decide) ?_
          refine lv_goto (tgt := 90) hx hb dX10_rightBy_86 (by decide) ?_
          exact J90 v3 v2 1 ls (lv_sub hl [1, 2, 4] rfl) _ h ho
    have J67 : ∀ (v2 : Int32) (v3 : Int32) (ls : Array Slot), lv_has ls 6 [(0, .ref q_this), (1, .int v1), (2, .int v2), (3, .int v3)] → ∀ o : ((Int32) ⊕ (Int32 × Int32)), mX10_rightBy_b67 days presses rains v1 v2 v3 = some o → K1 o → xW p l e ({ frames := 0, cells := 0, slots := 0, locals := 0 }) s m [.ref q_this, .int p0] below meth c (xQi s.heap (out)) (F0 m 67 ls []) := by
      intro v2 v3 ls hl o h ho
      unfold mX10_rightBy_b67 at h
      refine lv_iconst (v := 0) hx hb dX10_rightBy_67 (by decide) ?_
      exact J68 v2 v3 0 ls (lv_sub hl [0, 1, 2, 3] rfl) _ h ho
    refine lv_iload_n hx hb dX10_rightBy_4 rfl (lv_at hl 3 rfl) ?_
    refine lv_aload_n hx hb dX10_rightBy_5 rfl (lv_at hl 0 rfl) ?_
    refine va_get (D := xD G) (ci := 10) (v := .int days) (C := RX10) (T := TX10) (N := 40) hx hb hts (fun w9 h9 => (List.mem_cons_of_mem _ (List.mem_append_right _ h9))) hown hE.1 hP 0 rfl rfl 10 (by decide) (hts (.fieldLink RX10 111 "FallingGlassModel" "days" "I") (List.mem_of_getElem? (i := 1) rfl)) (fun _ h9 => h9) rfl dX10_rightBy_6 ?_
    refine lv_icmp_ge (tgt := 98) hx hb dX10_rightBy_9 (by decide) (fun hc504 => ?_) (fun hc504 => ?_)
    · replace h := (if_pos hc504).symm.trans h
      refine lv_iload_n hx hb dX10_rightBy_98 rfl (lv_at hl 2 rfl) ?_
      have hq : v2 = out := by cases h; exact (e1 _ ho)
      clear J90 J89 J68 J67
      subst hq
      exact x_iret hx hb hr hlk rfl rfl dX10_rightBy_99
    · replace h := (if_neg hc504).symm.trans h
      refine lv_aload_n hx hb dX10_rightBy_12 rfl (lv_at hl 0 rfl) ?_
      refine va_get (D := xD G) (ci := 10) (v := .ref q_presses) (C := RX10) (T := TX10) (N := 40) hx hb hts (fun w9 h9 => (List.mem_cons_of_mem _ (List.mem_append_right _ h9))) hown hE.1 hP 0 rfl rfl 5 (by decide) (hts (.fieldLink RX10 16 "FallingGlassModel" "presses" "[I") (List.mem_of_getElem? (i := 2) rfl)) (fun _ h9 => h9) rfl dX10_rightBy_13 ?_
      refine lv_iload_n hx hb dX10_rightBy_16 rfl (lv_at hl 3 rfl) ?_
      obtain ⟨hi505, h⟩ := x_needs h
      refine va_iald (D := xD G) hx hb hE.1 hP 1 0 rfl rfl hi505 dX10_rightBy_17 ?_
      refine lv_iload_n hx hb dX10_rightBy_18 rfl (lv_at hl 1 rfl) ?_
      refine lv_iadd hx hb dX10_rightBy_19 ?_
      refine lv_istore (lv' := [(4, .int ((presses (Int32.toNatClampNeg v3)) + v1)), (0, .ref q_this), (1, .int v1), (2, .int v2), (3, .int v3)]) hx hb dX10_rightBy_20 hl (by decide) rfl (fun ls hl => ?_)
      refine lv_iload hx hb dX10_rightBy_22 (lv_at hl 0 rfl) ?_
      refine lv_bipush (v := 40) hx hb dX10_rightBy_24 (by decide) ?_
      refine lv_icmp_ge (tgt := 47) hx hb dX10_rightBy_26 (by decide) (fun hc506 => ?_) (fun hc506 => ?_)
      · replace h := (if_pos hc506).symm.trans h
        refine lv_iload hx hb dX10_rightBy_47 (lv_at hl 0 rfl) ?_
        refine lv_bipush (v := 60) hx hb dX10_rightBy_49 (by decide) ?_
        refine lv_icmp_lt (tgt := 67) hx hb dX10_rightBy_51 (by decide) (fun hc507 => ?_) (fun hc507 => ?_)
        · replace h := (if_pos hc507).symm.trans h
          exact J67 v2 v3 ls (lv_sub hl [1, 2, 3, 4] rfl) _ h ho
        · replace h := (if_neg hc507).symm.trans h
          refine lv_aload_n hx hb dX10_rightBy_54 rfl (lv_at hl 1 rfl) ?_
          refine va_get (D := xD G) (ci := 10) (v := .ref q_rains) (C := RX10) (T := TX10) (N := 40) hx hb hts (fun w9 h9 => (List.mem_cons_of_mem _ (List.mem_append_right _ h9))) hown hE.1 hP 0 rfl rfl 8 (by decide) (hts (.fieldLink RX10 25 "FallingGlassModel" "rains" "[I") (List.mem_of_getElem? (i := 3) rfl)) (fun _ h9 => h9) rfl dX10_rightBy_55 ?_
          refine lv_iload_n hx hb dX10_rightBy_58 rfl (lv_at hl 4 rfl) ?_
          obtain ⟨hi508, h⟩ := x_needs h
          refine va_iald (D := xD G) hx hb hE.1 hP 2 0 rfl rfl hi508 dX10_rightBy_59 ?_
          refine lv_if_ne (tgt := 67) hx hb dX10_rightBy_60 (by decide) (fun hc509 => ?_) (fun hc509 => ?_)
          · replace h := (if_neg hc509).symm.trans h
            exact J67 v2 v3 ls (lv_sub hl [1, 2, 3, 4] rfl) _ h ho
          · replace h := (if_pos hc509).symm.trans h
            refine lv_iconst (v := 1) hx hb dX10_rightBy_63 (by decide) ?_
            refine lv_goto (tgt := 68) hx hb dX10_rightBy_64 (by decide) ?_
            exact J68 v2 v3 1 ls (lv_sub hl [1, 2, 3, 4] rfl) _ h ho
      · replace h := (if_neg hc506).symm.trans h
        refine lv_aload_n hx hb dX10_rightBy_29 rfl (lv_at hl 1 rfl) ?_
        refine va_get (D := xD G) (ci := 10) (v := .ref q_rains) (C := RX10) (T := TX10) (N := 40) hx hb hts (fun w9 h9 => (List.mem_cons_of_mem _ (List.mem_append_right _ h9))) hown hE.1 hP 0 rfl rfl 8 (by decide) (hts (.fieldLink RX10 25 "FallingGlassModel" "rains" "[I") (List.mem_of_getElem? (i := 3) rfl)) (fun _ h9 => h9) rfl dX10_rightBy_30 ?_
        refine lv_iload_n hx hb dX10_rightBy_33 rfl (lv_at hl 4 rfl) ?_
        obtain ⟨hi510, h⟩ := x_needs h
        refine va_iald (D := xD G) hx hb hE.1 hP 2 0 rfl rfl hi510 dX10_rightBy_34 ?_
        refine lv_iconst (v := 1) hx hb dX10_rightBy_35 (by decide) ?_
        refine lv_icmp_ne (tgt := 43) hx hb dX10_rightBy_36 (by decide) (fun hc511 => ?_) (fun hc511 => ?_)
        · replace h := (if_neg hc511).symm.trans h
          refine lv_iconst (v := 0) hx hb dX10_rightBy_43 (by decide) ?_
          refine lv_goto (tgt := 68) hx hb dX10_rightBy_44 (by decide) ?_
          exact J68 v2 v3 0 ls (lv_sub hl [1, 2, 3, 4] rfl) _ h ho
        · replace h := (if_pos hc511).symm.trans h
          refine lv_iconst (v := 1) hx hb dX10_rightBy_39 (by decide) ?_
          refine lv_goto (tgt := 68) hx hb dX10_rightBy_40 (by decide) ?_
          exact J68 v2 v3 1 ls (lv_sub hl [1, 2, 3, 4] rfl) _ h ho
  unfold mX10_rightBy at h
  refine lv_iconst (v := 0) hx hb dX10_rightBy_0 (by decide) ?_
  refine lv_istore_n (lv' := [(2, .int 0), (0, .ref q_this), (1, .int p0)]) hx hb dX10_rightBy_1 rfl hl (by decide) rfl (fun ls hl => ?_)
  refine lv_iconst (v := 0) hx hb dX10_rightBy_2 (by decide) ?_
  refine lv_istore_n (lv' := [(3, .int 0), (2, .int 0), (0, .ref q_this), (1, .int p0)]) hx hb dX10_rightBy_3 rfl hl (by decide) rfl (fun ls hl => ?_)
  exact J4 p0 0 0 ls (lv_sub hl [2, 3, 1, 0] rfl) _ h ho
noncomputable def mX10_engraved_b38 (days : Int32) (presses : Nat → Int32) (rains : Nat → Int32) (v1 : Int32) (v3 : Int32) (t0 : Int32) : Option (((Int32) ⊕ (Int32 × Int32))) :=
  some (.inr (t0, (v3 + 1)))
noncomputable def mX10_engraved_s14 (days : Int32) (presses : Nat → Int32) (rains : Nat → Int32) (v1 : Int32) (v2 : Int32) (v3 : Int32) : Option (((Int32) ⊕ (Int32 × Int32))) :=
  if 40 < v3 then (if v1 = 0 then (some (.inl v2)) else ((mX10_rightBy days presses rains v2).bind (fun r203 => some (.inl r203)))) else ((mX10_rightBy days presses rains v3).bind (fun r204 => (mX10_rightBy days presses rains v2).bind (fun r205 => if r204 ≤ r205 then (mX10_engraved_b38 days presses rains v1 v3 v2) else (mX10_engraved_b38 days presses rains v1 v3 v3))))
noncomputable def mX10_engraved_b14 (days : Int32) (presses : Nat → Int32) (rains : Nat → Int32) (v1 : Int32) (v2 : Int32) (v3 : Int32) : Option (Int32) :=
  x_loop (fun q : Int32 × Int32 => mX10_engraved_s14 days presses rains v1 (q.1) (q.2)) (v2, v3)
noncomputable def mX10_engraved (days : Int32) (presses : Nat → Int32) (rains : Nat → Int32) (p0 : Int32) : Option (Int32) :=
  (mX10_isEnd p0).bind (fun r501 => if (xb r501) = 0 then (some ((-2))) else (mX10_engraved_b14 days presses rains p0 0 1))
set_option maxHeartbeats 4000000 in
set_option maxRecDepth 100000 in
theorem kX10_engraved (l : Launch) (G : xG) (H0 : Heap) {q_this q_years q_months q_presses q_winds q_skies q_rains q_wires q_signs q_cases q_caseFrom q_caseTells q_testAsks q_testHow q_testNumber q_glassX q_glassY q_glassPress q_glassWind q_dry q_value q_doing q_kept q_isKept : Nat} {mind : Int32} {needle : Int32} {stick : Int32} {days : Int32} {signMany : Int32} {keys : Int32} {weight : Int32} {care : Int32} {scoreSum : Int64} {scoreDays : Int64} {triedSpoken : Int32} {triedRain : Int32} {triedTaken : Int32} {triedBoth : Int32} {glasses : Int32} {keptAt : Int32} {isWriting : Int32} {presses : Nat → Int32} {rains : Nat → Int32} {p0 : Int32} (hP : va_P (xD G) vwCl [(q_this, .inr (10, [.int mind, .int needle, .int stick, .ref q_years, .ref q_months, .ref q_presses, .ref q_winds, .ref q_skies, .ref q_rains, .ref q_wires, .int days, .ref q_signs, .int signMany, .ref q_cases, .ref q_caseFrom, .ref q_caseTells, .ref q_testAsks, .ref q_testHow, .ref q_testNumber, .int keys, .int weight, .int care, .long scoreSum, .long scoreDays, .int triedSpoken, .int triedRain, .int triedTaken, .int triedBoth, .ref q_glassX, .ref q_glassY, .ref q_glassPress, .ref q_glassWind, .int glasses, .ref q_dry, .ref q_value, .ref q_doing, .ref q_kept, .ref q_isKept, .int keptAt, .int isWriting])), (q_presses, .inl (xy G 0, 60, .inl presses)), (q_rains, .inl (xy G 0, 60, .inl rains))] H0) {out : Int32} (h : mX10_engraved days presses rains p0 = some out) : Met l yX10_engraved wsX10_engraved ({ frames := 2, cells := 0, slots := 0, locals := 45 }) (xPc G H0 [.ref q_this, .int p0]) (xQi H0 (out)) 0 0 xN := by
  refine x_met (by decide) rfl (Nat.le_of_ble_eq_true rfl) ?_
  intro p e s m below meth c ls hH hA hl
  obtain ⟨hx, hb, hr, hlk, hml, hown, hts, hE⟩ := hA
  subst hH
  have hown : s.vm.findClass RX10 = some m.cls := hown
  have hl : lv_has ls 4 [(0, .ref q_this), (1, .int p0)] := hl
  have hS : va_S xN s.heap s.heap [] := va_S.rf
  have ho : out = out := rfl
  have J14 : ∀ (v1 : Int32) (v2 : Int32) (v3 : Int32) (ls : Array Slot), lv_has ls 4 [(0, .ref q_this), (1, .int v1), (2, .int v2), (3, .int v3)] → ∀ o : Int32, mX10_engraved_b14 days presses rains v1 v2 v3 = some o → (fun z => z = out) o → xW p l e ({ frames := 2, cells := 0, slots := 0, locals := 45 }) s m [.ref q_this, .int p0] below meth c (xQi s.heap (out)) (F0 m 14 ls []) := by
    intro v1 v2 v3 ls hl o h ho
    unfold mX10_engraved_b14 at h
    refine x_loop_walk (K := (fun z => z = out)) (motive := fun q : Int32 × Int32 => ∀ ls : Array Slot, lv_has ls 4 [(0, .ref q_this), (1, .int (v1)), (2, .int (q.1)), (3, .int (q.2))] → xW p l e ({ frames := 2, cells := 0, slots := 0, locals := 45 }) s m [.ref q_this, .int p0] below meth c (xQi s.heap (out)) (F0 m 14 ls [])) ?_ h ho ls hl
    intro K1 e1 i1 q o h ho
    obtain ⟨v2, v3⟩ := q
    intro ls hl
    have hl : lv_has ls 4 [(0, .ref q_this), (1, .int v1), (2, .int v2), (3, .int v3)] := hl
    replace h : mX10_engraved_s14 days presses rains v1 v2 v3 = some o := h
    unfold mX10_engraved_s14 at h
    have J38 : ∀ (v3 : Int32) (t0 : Int32) (ls : Array Slot), lv_has ls 4 [(0, .ref q_this), (1, .int v1), (3, .int v3)] → ∀ o : ((Int32) ⊕ (Int32 × Int32)), mX10_engraved_b38 days presses rains v1 v3 t0 = some o → K1 o → xW p l e ({ frames := 2, cells := 0, slots := 0, locals := 45 }) s m [.ref q_this, .int p0] below meth c (xQi s.heap (out)) (F0 m 38 ls [.int t0]) := by
      intro v3 t0 ls hl o h ho
      unfold mX10_engraved_b38 at h
      refine lv_istore_n (lv' := [(2, .int t0), (0, .ref q_this), (1, .int v1), (3, .int v3)]) hx hb dX10_engraved_38 rfl hl (by decide) rfl (fun ls hl => ?_)
      refine lv_iinc (v := (v3 + 1)) (lv' := [(3, .int (v3 + 1)), (2, .int t0), (0, .ref q_this), (1, .int v1)]) hx hb dX10_engraved_39 hl (k := 3) rfl rfl (by decide) rfl (fun ls hl => ?_)
      refine lv_goto (tgt := 14) hx hb dX10_engraved_42 (by decide) ?_
      exact i1 (t0, (v3 + 1)) (by cases h; exact ho) ls (lv_sub hl [2, 3, 1, 0] rfl)
    refine lv_iload_n hx hb dX10_engraved_14 rfl (lv_at hl 3 rfl) ?_
    refine lv_bipush (v := 40) hx hb dX10_engraved_15 (by decide) ?_
    refine lv_icmp_gt (tgt := 45) hx hb dX10_engraved_17 (by decide) (fun hc201 => ?_) (fun hc201 => ?_)
    · replace h := (if_pos hc201).symm.trans h
      refine lv_iload_n hx hb dX10_engraved_45 rfl (lv_at hl 1 rfl) ?_
      refine lv_if_ne (tgt := 53) hx hb dX10_engraved_46 (by decide) (fun hc202 => ?_) (fun hc202 => ?_)
      · replace h := (if_neg hc202).symm.trans h
        refine lv_aload_n hx hb dX10_engraved_53 rfl (lv_at hl 0 rfl) ?_
        refine lv_iload_n hx hb dX10_engraved_54 rfl (lv_at hl 2 rfl) ?_
        obtain ⟨r203, hr203, h⟩ := x_bind h
        have hPr203 : va_P (xD G) vwCl [(q_this, .inr (10, [.int mind, .int needle, .int stick, .ref q_years, .ref q_months, .ref q_presses, .ref q_winds, .ref q_skies, .ref q_rains, .ref q_wires, .int days, .ref q_signs, .int signMany, .ref q_cases, .ref q_caseFrom, .ref q_caseTells, .ref q_testAsks, .ref q_testHow, .ref q_testNumber, .int keys, .int weight, .int care, .long scoreSum, .long scoreDays, .int triedSpoken, .int triedRain, .int triedTaken, .int triedBoth, .ref q_glassX, .ref q_glassY, .ref q_glassPress, .ref q_glassWind, .int glasses, .ref q_dry, .ref q_value, .ref q_doing, .ref q_kept, .ref q_isKept, .int keptAt, .int isWriting])), (q_presses, .inl (xy G 0, 60, .inl presses)), (q_rains, .inl (xy G 0, 60, .inl rains))] s.heap := hP.sub [0, 1, 2] rfl
        refine x_calli (va_runV (As := [.int v2]) (rest := []) ⟨hx, hb, hml, hown, hts⟩ (kX10_rightBy l G s.heap hPr203 hr203) (cwV 1 hts gX10_engraved_X10_rightBy rfl rfl rfl (by decide +kernel) ⟨Nat.le_of_ble_eq_true rfl, Nat.le_of_ble_eq_true rfl⟩) (x_preV hE hS hP (ci := 10) (q0 := 0) rfl rfl) rfl rfl hl.1 rfl (lv_room (Nat.le_of_ble_eq_true rfl)) dX10_engraved_55 ⟨Nat.le_of_ble_eq_true rfl, Nat.le_of_ble_eq_true rfl⟩) ?_
        have hq : r203 = out := by cases h; exact (e1 _ ho)
        clear J38
        subst hq
        exact x_iret hx hb hr hlk rfl rfl dX10_engraved_58
      · replace h := (if_pos hc202).symm.trans h
        refine lv_iload_n hx hb dX10_engraved_49 rfl (lv_at hl 2 rfl) ?_
        refine lv_goto (tgt := 58) hx hb dX10_engraved_50 (by decide) ?_
        have hq : v2 = out := by cases h; exact (e1 _ ho)
        clear J38
        subst hq
        exact x_iret hx hb hr hlk rfl rfl dX10_engraved_58
    · replace h := (if_neg hc201).symm.trans h
      refine lv_aload_n hx hb dX10_engraved_20 rfl (lv_at hl 0 rfl) ?_
      refine lv_iload_n hx hb dX10_engraved_21 rfl (lv_at hl 3 rfl) ?_
      obtain ⟨r204, hr204, h⟩ := x_bind h
      have hPr204 : va_P (xD G) vwCl [(q_this, .inr (10, [.int mind, .int needle, .int stick, .ref q_years, .ref q_months, .ref q_presses, .ref q_winds, .ref q_skies, .ref q_rains, .ref q_wires, .int days, .ref q_signs, .int signMany, .ref q_cases, .ref q_caseFrom, .ref q_caseTells, .ref q_testAsks, .ref q_testHow, .ref q_testNumber, .int keys, .int weight, .int care, .long scoreSum, .long scoreDays, .int triedSpoken, .int triedRain, .int triedTaken, .int triedBoth, .ref q_glassX, .ref q_glassY, .ref q_glassPress, .ref q_glassWind, .int glasses, .ref q_dry, .ref q_value, .ref q_doing, .ref q_kept, .ref q_isKept, .int keptAt, .int isWriting])), (q_presses, .inl (xy G 0, 60, .inl presses)), (q_rains, .inl (xy G 0, 60, .inl rains))] s.heap := hP.sub [0, 1, 2] rfl
      refine x_calli (va_runV (As := [.int v3]) (rest := []) ⟨hx, hb, hml, hown, hts⟩ (kX10_rightBy l G s.heap hPr204 hr204) (cwV 1 hts gX10_engraved_X10_rightBy rfl rfl rfl (by decide +kernel) ⟨Nat.le_of_ble_eq_true rfl, Nat.le_of_ble_eq_true rfl⟩) (x_preV hE hS hP (ci := 10) (q0 := 0) rfl rfl) rfl rfl hl.1 rfl (lv_room (Nat.le_of_ble_eq_true rfl)) dX10_engraved_22 ⟨Nat.le_of_ble_eq_true rfl, Nat.le_of_ble_eq_true rfl⟩) ?_
      refine lv_aload_n hx hb dX10_engraved_25 rfl (lv_at hl 0 rfl) ?_
      refine lv_iload_n hx hb dX10_engraved_26 rfl (lv_at hl 2 rfl) ?_
      obtain ⟨r205, hr205, h⟩ := x_bind h
      have hPr205 : va_P (xD G) vwCl [(q_this, .inr (10, [.int mind, .int needle, .int stick, .ref q_years, .ref q_months, .ref q_presses, .ref q_winds, .ref q_skies, .ref q_rains, .ref q_wires, .int days, .ref q_signs, .int signMany, .ref q_cases, .ref q_caseFrom, .ref q_caseTells, .ref q_testAsks, .ref q_testHow, .ref q_testNumber, .int keys, .int weight, .int care, .long scoreSum, .long scoreDays, .int triedSpoken, .int triedRain, .int triedTaken, .int triedBoth, .ref q_glassX, .ref q_glassY, .ref q_glassPress, .ref q_glassWind, .int glasses, .ref q_dry, .ref q_value, .ref q_doing, .ref q_kept, .ref q_isKept, .int keptAt, .int isWriting])), (q_presses, .inl (xy G 0, 60, .inl presses)), (q_rains, .inl (xy G 0, 60, .inl rains))] s.heap := hP.sub [0, 1, 2] rfl
      refine x_calli (va_runV (As := [.int v2]) (rest := [.int r204]) ⟨hx, hb, hml, hown, hts⟩ (kX10_rightBy l G s.heap hPr205 hr205) (cwV 1 hts gX10_engraved_X10_rightBy rfl rfl rfl (by decide +kernel) ⟨Nat.le_of_ble_eq_true rfl, Nat.le_of_ble_eq_true rfl⟩) (x_preV hE hS hP (ci := 10) (q0 := 0) rfl rfl) rfl rfl hl.1 rfl (lv_room (Nat.le_of_ble_eq_true rfl)) dX10_engraved_27 ⟨Nat.le_of_ble_eq_true rfl, Nat.le_of_ble_eq_true rfl⟩) ?_
      refine lv_icmp_le (tgt := 37) hx hb dX10_engraved_30 (by decide) (fun hc206 => ?_) (fun hc206 => ?_)
      · replace h := (if_pos hc206).symm.trans h
        refine lv_iload_n hx hb dX10_engraved_37 rfl (lv_at hl 2 rfl) ?_
        exact J38 v3 v2 ls (lv_sub hl [0, 1, 3] rfl) _ h ho
      · replace h := (if_neg hc206).symm.trans h
        refine lv_iload_n hx hb dX10_engraved_33 rfl (lv_at hl 3 rfl) ?_
        refine lv_goto (tgt := 38) hx hb dX10_engraved_34 (by decide) ?_
        exact J38 v3 v3 ls (lv_sub hl [0, 1, 3] rfl) _ h ho
  unfold mX10_engraved at h
  refine lv_iload_n hx hb dX10_engraved_0 rfl (lv_at hl 1 rfl) ?_
  obtain ⟨r501, hr501, h⟩ := x_bind h
  refine x_calli (va_runS (As := [.int p0]) (rest := []) ⟨hx, hb, hml, hown, hts⟩ (kX10_isEnd l G s.heap hr501) (va_cwS 1 hts gX10_engraved_X10_isEnd rfl rfl rfl (by decide +kernel) ⟨Nat.le_of_ble_eq_true rfl, Nat.le_of_ble_eq_true rfl⟩) (x_preS hE hS) rfl rfl hl.1 rfl (lv_room (Nat.le_of_ble_eq_true rfl)) dX10_engraved_1 ⟨Nat.le_of_ble_eq_true rfl, Nat.le_of_ble_eq_true rfl⟩) ?_
  refine lv_if_ne (tgt := 10) hx hb dX10_engraved_4 (by decide) (fun hc502 => ?_) (fun hc502 => ?_)
  · replace h := (if_neg hc502).symm.trans h
    refine lv_iconst (v := 0) hx hb dX10_engraved_10 (by decide) ?_
    refine lv_istore_n (lv' := [(2, .int 0), (0, .ref q_this), (1, .int p0)]) hx hb dX10_engraved_11 rfl hl (by decide) rfl (fun ls hl => ?_)
    refine lv_iconst (v := 1) hx hb dX10_engraved_12 (by decide) ?_
    refine lv_istore_n (lv' := [(3, .int 1), (2, .int 0), (0, .ref q_this), (1, .int p0)]) hx hb dX10_engraved_13 rfl hl (by decide) rfl (fun ls hl => ?_)
    exact J14 p0 0 1 ls (lv_sub hl [2, 3, 1, 0] rfl) _ h ho
  · replace h := (if_pos hc502).symm.trans h
    refine lv_bipush (v := (-2)) hx hb dX10_engraved_7 (by decide) ?_
    have hq : (-2) = out := by cases h; exact ho
    clear J14
    subst hq
    exact x_iret hx hb hr hlk rfl rfl dX10_engraved_9
noncomputable def mX10_right (days : Int32) (presses : Nat → Int32) (rains : Nat → Int32) (p0 : Int32) : Option (Int32) :=
  (mX10_in ((Int32.toInt64 p0)) 0 40).bind (fun r501 => if (xb r501) = 0 then (some ((-2))) else ((mX10_rightBy days presses rains p0).bind (fun r503 => some r503)))
set_option maxHeartbeats 4000000 in
set_option maxRecDepth 100000 in
theorem kX10_right (l : Launch) (G : xG) (H0 : Heap) {q_this q_years q_months q_presses q_winds q_skies q_rains q_wires q_signs q_cases q_caseFrom q_caseTells q_testAsks q_testHow q_testNumber q_glassX q_glassY q_glassPress q_glassWind q_dry q_value q_doing q_kept q_isKept : Nat} {mind : Int32} {needle : Int32} {stick : Int32} {days : Int32} {signMany : Int32} {keys : Int32} {weight : Int32} {care : Int32} {scoreSum : Int64} {scoreDays : Int64} {triedSpoken : Int32} {triedRain : Int32} {triedTaken : Int32} {triedBoth : Int32} {glasses : Int32} {keptAt : Int32} {isWriting : Int32} {presses : Nat → Int32} {rains : Nat → Int32} {p0 : Int32} (hP : va_P (xD G) vwCl [(q_this, .inr (10, [.int mind, .int needle, .int stick, .ref q_years, .ref q_months, .ref q_presses, .ref q_winds, .ref q_skies, .ref q_rains, .ref q_wires, .int days, .ref q_signs, .int signMany, .ref q_cases, .ref q_caseFrom, .ref q_caseTells, .ref q_testAsks, .ref q_testHow, .ref q_testNumber, .int keys, .int weight, .int care, .long scoreSum, .long scoreDays, .int triedSpoken, .int triedRain, .int triedTaken, .int triedBoth, .ref q_glassX, .ref q_glassY, .ref q_glassPress, .ref q_glassWind, .int glasses, .ref q_dry, .ref q_value, .ref q_doing, .ref q_kept, .ref q_isKept, .int keptAt, .int isWriting])), (q_presses, .inl (xy G 0, 60, .inl presses)), (q_rains, .inl (xy G 0, 60, .inl rains))] H0) {out : Int32} (h : mX10_right days presses rains p0 = some out) : Met l yX10_right wsX10_right ({ frames := 1, cells := 0, slots := 0, locals := 25 }) (xPc G H0 [.ref q_this, .int p0]) (xQi H0 (out)) 0 0 xN := by
  refine x_met (by decide) rfl (Nat.le_of_ble_eq_true rfl) ?_
  intro p e s m below meth c ls hH hA hl
  obtain ⟨hx, hb, hr, hlk, hml, hown, hts, hE⟩ := hA
  subst hH
  have hown : s.vm.findClass RX10 = some m.cls := hown
  have hl : lv_has ls 2 [(0, .ref q_this), (1, .int p0)] := hl
  have hS : va_S xN s.heap s.heap [] := va_S.rf
  have ho : out = out := rfl
  unfold mX10_right at h
  refine lv_iload_n hx hb dX10_right_0 rfl (lv_at hl 1 rfl) ?_
  refine lv_i2l (v := (Int32.toInt64 p0)) hx hb dX10_right_1 rfl ?_
  refine lv_lconst (v := 0) hx hb dX10_right_2 (by decide) ?_
  refine lv_ldc2 (v := 40) hx hb hown (hts (.constantLong RX10 260 (40)) (List.mem_of_getElem? (i := 1) rfl)) dX10_right_3 ?_
  obtain ⟨r501, hr501, h⟩ := x_bind h
  refine x_calli (va_runS (As := [.long (Int32.toInt64 p0), .long 0, .long 40]) (rest := []) ⟨hx, hb, hml, hown, hts⟩ (kX10_in l G s.heap hr501) (va_cwS 3 hts gX10_right_X10_in rfl rfl rfl (by decide +kernel) ⟨Nat.le_of_ble_eq_true rfl, Nat.le_of_ble_eq_true rfl⟩) (x_preS hE hS) rfl rfl hl.1 rfl (lv_room (Nat.le_of_ble_eq_true rfl)) dX10_right_6 ⟨Nat.le_of_ble_eq_true rfl, Nat.le_of_ble_eq_true rfl⟩) ?_
  refine lv_if_eq (tgt := 20) hx hb dX10_right_9 (by decide) (fun hc502 => ?_) (fun hc502 => ?_)
  · replace h := (if_pos hc502).symm.trans h
    refine lv_bipush (v := (-2)) hx hb dX10_right_20 (by decide) ?_
    have hq : (-2) = out := by cases h; exact ho
    subst hq
    exact x_iret hx hb hr hlk rfl rfl dX10_right_22
  · replace h := (if_neg hc502).symm.trans h
    refine lv_aload_n hx hb dX10_right_12 rfl (lv_at hl 0 rfl) ?_
    refine lv_iload_n hx hb dX10_right_13 rfl (lv_at hl 1 rfl) ?_
    obtain ⟨r503, hr503, h⟩ := x_bind h
    have hPr503 : va_P (xD G) vwCl [(q_this, .inr (10, [.int mind, .int needle, .int stick, .ref q_years, .ref q_months, .ref q_presses, .ref q_winds, .ref q_skies, .ref q_rains, .ref q_wires, .int days, .ref q_signs, .int signMany, .ref q_cases, .ref q_caseFrom, .ref q_caseTells, .ref q_testAsks, .ref q_testHow, .ref q_testNumber, .int keys, .int weight, .int care, .long scoreSum, .long scoreDays, .int triedSpoken, .int triedRain, .int triedTaken, .int triedBoth, .ref q_glassX, .ref q_glassY, .ref q_glassPress, .ref q_glassWind, .int glasses, .ref q_dry, .ref q_value, .ref q_doing, .ref q_kept, .ref q_isKept, .int keptAt, .int isWriting])), (q_presses, .inl (xy G 0, 60, .inl presses)), (q_rains, .inl (xy G 0, 60, .inl rains))] s.heap := hP.sub [0, 1, 2] rfl
    refine x_calli (va_runV (As := [.int p0]) (rest := []) ⟨hx, hb, hml, hown, hts⟩ (kX10_rightBy l G s.heap hPr503 hr503) (cwV 1 hts gX10_right_X10_rightBy rfl rfl rfl (by decide +kernel) ⟨Nat.le_of_ble_eq_true rfl, Nat.le_of_ble_eq_true rfl⟩) (x_preV hE hS hP (ci := 10) (q0 := 0) rfl rfl) rfl rfl hl.1 rfl (lv_room (Nat.le_of_ble_eq_true rfl)) dX10_right_14 ⟨Nat.le_of_ble_eq_true rfl, Nat.le_of_ble_eq_true rfl⟩) ?_
    refine lv_goto (tgt := 22) hx hb dX10_right_17 (by decide) ?_
    have hq : r503 = out := by cases h; exact ho
    subst hq
    exact x_iret hx hb hr hlk rfl rfl dX10_right_22
noncomputable def mX10_glass (glasses : Int32) (glassX : Nat → Int32) (glassY : Nat → Int32) (glassPress : Nat → Int32) (glassWind : Nat → Int32) (p0 : Int32) (p1 : Int32) (p2 : Int32) (p3 : Int32) : Option (Int32 × Int32 × (Nat → Int32) × (Nat → Int32) × (Nat → Int32) × (Nat → Int32)) :=
  (mX10_in ((Int32.toInt64 p0)) 0 8).bind (fun r501 => if (xb r501) = 0 then (some ((-2), glasses, glassX, glassY, glassPress, glassWind)) else ((mX10_in ((Int32.toInt64 p1)) 0 8).bind (fun r503 => if (xb r503) = 0 then (some ((-2), glasses, glassX, glassY, glassPress, glassWind)) else ((mX10_in ((Int32.toInt64 p2)) 0 99).bind (fun r505 => if (xb r505) = 0 then (some ((-2), glasses, glassX, glassY, glassPress, glassWind)) else ((mX10_in ((Int32.toInt64 p3)) 0 7).bind (fun r507 => if (xb r507) = 0 then (some ((-2), glasses, glassX, glassY, glassPress, glassWind)) else (if glasses = 4 then (some ((-4), glasses, glassX, glassY, glassPress, glassWind)) else (x_need (x_in glasses 4) (x_need (x_in glasses 4) (x_need (x_in glasses 4) (x_need (x_in glasses 4) (some ((glasses + 1), (glasses + 1), (upd glassX (Int32.toNatClampNeg glasses) p0), (upd glassY (Int32.toNatClampNeg glasses) p1), (upd glassPress (Int32.toNatClampNeg glasses) p2), (upd glassWind (Int32.toNatClampNeg glasses) p3)))))))))))))))
set_option maxHeartbeats 4000000 in
set_option maxRecDepth 100000 in
theorem kX10_glass (l : Launch) (G : xG) (H0 : Heap) {q_this q_years q_months q_presses q_winds q_skies q_rains q_wires q_signs q_cases q_caseFrom q_caseTells q_testAsks q_testHow q_testNumber q_glassX q_glassY q_glassPress q_glassWind q_dry q_value q_doing q_kept q_isKept : Nat} {mind : Int32} {needle : Int32} {stick : Int32} {days : Int32} {signMany : Int32} {keys : Int32} {weight : Int32} {care : Int32} {scoreSum : Int64} {scoreDays : Int64} {triedSpoken : Int32} {triedRain : Int32} {triedTaken : Int32} {triedBoth : Int32} {glasses : Int32} {keptAt : Int32} {isWriting : Int32} {glassX : Nat → Int32} {glassY : Nat → Int32} {glassPress : Nat → Int32} {glassWind : Nat → Int32} {p0 : Int32} {p1 : Int32} {p2 : Int32} {p3 : Int32} (w0 : va_W) (hw0 : w0 = [(q_this, .inr (10, [.int mind, .int needle, .int stick, .ref q_years, .ref q_months, .ref q_presses, .ref q_winds, .ref q_skies, .ref q_rains, .ref q_wires, .int days, .ref q_signs, .int signMany, .ref q_cases, .ref q_caseFrom, .ref q_caseTells, .ref q_testAsks, .ref q_testHow, .ref q_testNumber, .int keys, .int weight, .int care, .long scoreSum, .long scoreDays, .int triedSpoken, .int triedRain, .int triedTaken, .int triedBoth, .ref q_glassX, .ref q_glassY, .ref q_glassPress, .ref q_glassWind, .int glasses, .ref q_dry, .ref q_value, .ref q_doing, .ref q_kept, .ref q_isKept, .int keptAt, .int isWriting])), (q_glassX, .inl (xy G 0, 4, .inl glassX)), (q_glassY, .inl (xy G 0, 4, .inl glassY)), (q_glassPress, .inl (xy G 0, 4, .inl glassPress)), (q_glassWind, .inl (xy G 0, 4, .inl glassWind))]) (hP : va_P (xD G) vwCl w0 H0) (hD : va_D (fun _ => True) w0) {out : Int32 × Int32 × (Nat → Int32) × (Nat → Int32) × (Nat → Int32) × (Nat → Int32)} (h : mX10_glass glasses glassX glassY glassPress glassWind p0 p1 p2 p3 = some out) : Met l yX10_glass wsX10_glass ({ frames := 1, cells := 0, slots := 0, locals := 25 }) (xPcw G (va_A w0 H0.size) H0 [.ref q_this, .int p0, .int p1, .int p2, .int p3]) (xRi G (va_A w0 H0.size) [(q_this, .inr (10, [.int mind, .int needle, .int stick, .ref q_years, .ref q_months, .ref q_presses, .ref q_winds, .ref q_skies, .ref q_rains, .ref q_wires, .int days, .ref q_signs, .int signMany, .ref q_cases, .ref q_caseFrom, .ref q_caseTells, .ref q_testAsks, .ref q_testHow, .ref q_testNumber, .int keys, .int weight, .int care, .long scoreSum, .long scoreDays, .int triedSpoken, .int triedRain, .int triedTaken, .int triedBoth, .ref q_glassX, .ref q_glassY, .ref q_glassPress, .ref q_glassWind, .int out.2.1, .ref q_dry, .ref q_value, .ref q_doing, .ref q_kept, .ref q_isKept, .int keptAt, .int isWriting])), (q_glassX, .inl (xy G 0, 4, .inl out.2.2.1)), (q_glassY, .inl (xy G 0, 4, .inl out.2.2.2.1)), (q_glassPress, .inl (xy G 0, 4, .inl out.2.2.2.2.1)), (q_glassWind, .inl (xy G 0, 4, .inl out.2.2.2.2.2))] (out.1)) 0 0 (va_A w0 H0.size) := by
  refine x_metw (y := yX10_glass) (ws := wsX10_glass) (rm := { frames := 1, cells := 0, slots := 0, locals := 25 }) (G := G) (H0 := H0) (w0 := w0) (av := [.ref q_this, .int p0, .int p1, .int p2, .int p3]) (mc := 0) (ms := 0) (Qc := (fun A => (xRi G A [(q_this, .inr (10, [.int mind, .int needle, .int stick, .ref q_years, .ref q_months, .ref q_presses, .ref q_winds, .ref q_skies, .ref q_rains, .ref q_wires, .int days, .ref q_signs, .int signMany, .ref q_cases, .ref q_caseFrom, .ref q_caseTells, .ref q_testAsks, .ref q_testHow, .ref q_testNumber, .int keys, .int weight, .int care, .long scoreSum, .long scoreDays, .int triedSpoken, .int triedRain, .int triedTaken, .int triedBoth, .ref q_glassX, .ref q_glassY, .ref q_glassPress, .ref q_glassWind, .int out.2.1, .ref q_dry, .ref q_value, .ref q_doing, .ref q_kept, .ref q_isKept, .int keptAt, .int isWriting])), (q_glassX, .inl (xy G 0, 4, .inl out.2.2.1)), (q_glassY, .inl (xy G 0, 4, .inl out.2.2.2.1)), (q_glassPress, .inl (xy G 0, 4, .inl out.2.2.2.2.1)), (q_glassWind, .inl (xy G 0, 4, .inl out.2.2.2.2.2))] (out.1)))) (by decide) rfl (Nat.le_of_ble_eq_true rfl) hP hD ?_
  clear hP hD
  intro p e s m below meth c ls A H locs hA hAt hnm hl hP hD hS
  subst hw0
  obtain ⟨hx, hb, hr, hlk, hml, hown, hts, hE⟩ := hAt
  have hown : s.vm.findClass RX10 = some m.cls := hown
  have hl : lv_has ls 5 [(0, .ref q_this), (1, .int p0), (2, .int p1), (3, .int p2), (4, .int p3)] := hl
  have ho : out = out := rfl
  unfold mX10_glass at h
  refine lv_iload_n hx hb dX10_glass_0 rfl (lv_at hl 1 rfl) ?_
  refine lv_i2l (v := (Int32.toInt64 p0)) hx hb dX10_glass_1 rfl ?_
  refine lv_lconst (v := 0) hx hb dX10_glass_2 (by decide) ?_
  refine lv_ldc2 (v := 8) hx hb hown (hts (.constantLong RX10 132 (8)) (List.mem_of_getElem? (i := 1) rfl)) dX10_glass_3 ?_
  obtain ⟨r501, hr501, h⟩ := x_bind h
  refine x_calli (va_runS (As := [.long (Int32.toInt64 p0), .long 0, .long 8]) (rest := []) ⟨hx, hb, hml, hown, hts⟩ (kX10_in l G H hr501) (va_cwS 3 hts gX10_glass_X10_in rfl rfl rfl (by decide +kernel) ⟨Nat.le_of_ble_eq_true rfl, Nat.le_of_ble_eq_true rfl⟩) (x_preS hE hS) rfl rfl hl.1 rfl (lv_room (Nat.le_of_ble_eq_true rfl)) dX10_glass_6 ⟨Nat.le_of_ble_eq_true rfl, Nat.le_of_ble_eq_true rfl⟩) ?_
  refine lv_if_eq (tgt := 49) hx hb dX10_glass_9 (by decide) (fun hc502 => ?_) (fun hc502 => ?_)
  · replace h := (if_pos hc502).symm.trans h
    refine lv_bipush (v := (-2)) hx hb dX10_glass_49 (by decide) ?_
    have hq : ((-2), glasses, glassX, glassY, glassPress, glassWind) = out := by cases h; exact ho
    subst hq
    have hP : va_P (xD G) vwCl [(q_this, .inr (10, [.int mind, .int needle, .int stick, .ref q_years, .ref q_months, .ref q_presses, .ref q_winds, .ref q_skies, .ref q_rains, .ref q_wires, .int days, .ref q_signs, .int signMany, .ref q_cases, .ref q_caseFrom, .ref q_caseTells, .ref q_testAsks, .ref q_testHow, .ref q_testNumber, .int keys, .int weight, .int care, .long scoreSum, .long scoreDays, .int triedSpoken, .int triedRain, .int triedTaken, .int triedBoth, .ref q_glassX, .ref q_glassY, .ref q_glassPress, .ref q_glassWind, .int glasses, .ref q_dry, .ref q_value, .ref q_doing, .ref q_kept, .ref q_isKept, .int keptAt, .int isWriting])), (q_glassX, .inl (xy G 0, 4, .inl glassX)), (q_glassY, .inl (xy G 0, 4, .inl glassY)), (q_glassPress, .inl (xy G 0, 4, .inl glassPress)), (q_glassWind, .inl (xy G 0, 4, .inl glassWind))] H := hP
    have hD : va_D A [(q_this, .inr (10, [.int mind, .int needle, .int stick, .ref q_years, .ref q_months, .ref q_presses, .ref q_winds, .ref q_skies, .ref q_rains, .ref q_wires, .int days, .ref q_signs, .int signMany, .ref q_cases, .ref q_caseFrom, .ref q_caseTells, .ref q_testAsks, .ref q_testHow, .ref q_testNumber, .int keys, .int weight, .int care, .long scoreSum, .long scoreDays, .int triedSpoken, .int triedRain, .int triedTaken, .int triedBoth, .ref q_glassX, .ref q_glassY, .ref q_glassPress, .ref q_glassWind, .int glasses, .ref q_dry, .ref q_value, .ref q_doing, .ref q_kept, .ref q_isKept, .int keptAt, .int isWriting])), (q_glassX, .inl (xy G 0, 4, .inl glassX)), (q_glassY, .inl (xy G 0, 4, .inl glassY)), (q_glassPress, .inl (xy G 0, 4, .inl glassPress)), (q_glassWind, .inl (xy G 0, 4, .inl glassWind))] := hD
    exact x_iretw hx hb hr hlk hP hD hS rfl dX10_glass_51
  · replace h := (if_neg hc502).symm.trans h
    refine lv_iload_n hx hb dX10_glass_12 rfl (lv_at hl 2 rfl) ?_
    refine lv_i2l (v := (Int32.toInt64 p1)) hx hb dX10_glass_13 rfl ?_
    refine lv_lconst (v := 0) hx hb dX10_glass_14 (by decide) ?_
    refine lv_ldc2 (v := 8) hx hb hown (hts (.constantLong RX10 132 (8)) (List.mem_of_getElem? (i := 1) rfl)) dX10_glass_15 ?_
    obtain ⟨r503, hr503, h⟩ := x_bind h
    refine x_calli (va_runS (As := [.long (Int32.toInt64 p1), .long 0, .long 8]) (rest := []) ⟨hx, hb, hml, hown, hts⟩ (kX10_in l G H hr503) (va_cwS 3 hts gX10_glass_X10_in rfl rfl rfl (by decide +kernel) ⟨Nat.le_of_ble_eq_true rfl, Nat.le_of_ble_eq_true rfl⟩) (x_preS hE hS) rfl rfl hl.1 rfl (lv_room (Nat.le_of_ble_eq_true rfl)) dX10_glass_18 ⟨Nat.le_of_ble_eq_true rfl, Nat.le_of_ble_eq_true rfl⟩) ?_
    refine lv_if_eq (tgt := 49) hx hb dX10_glass_21 (by decide) (fun hc504 => ?_) (fun hc504 => ?_)
    · replace h := (if_pos hc504).symm.trans h
      refine lv_bipush (v := (-2)) hx hb dX10_glass_49 (by decide) ?_
      have hq : ((-2), glasses, glassX, glassY, glassPress, glassWind) = out := by cases h; exact ho
      subst hq
      have hP : va_P (xD G) vwCl [(q_this, .inr (10, [.int mind, .int needle, .int stick, .ref q_years, .ref q_months, .ref q_presses, .ref q_winds, .ref q_skies, .ref q_rains, .ref q_wires, .int days, .ref q_signs, .int signMany, .ref q_cases, .ref q_caseFrom, .ref q_caseTells, .ref q_testAsks, .ref q_testHow, .ref q_testNumber, .int keys, .int weight, .int care, .long scoreSum, .long scoreDays, .int triedSpoken, .int triedRain, .int triedTaken, .int triedBoth, .ref q_glassX, .ref q_glassY, .ref q_glassPress, .ref q_glassWind, .int glasses, .ref q_dry, .ref q_value, .ref q_doing, .ref q_kept, .ref q_isKept, .int keptAt, .int isWriting])), (q_glassX, .inl (xy G 0, 4, .inl glassX)), (q_glassY, .inl (xy G 0, 4, .inl glassY)), (q_glassPress, .inl (xy G 0, 4, .inl glassPress)), (q_glassWind, .inl (xy G 0, 4, .inl glassWind))] H := hP
      have hD : va_D A [(q_this, .inr (10, [.int mind, .int needle, .int stick, .ref q_years, .ref q_months, .ref q_presses, .ref q_winds, .ref q_skies, .ref q_rains, .ref q_wires, .int days, .ref q_signs, .int signMany, .ref q_cases, .ref q_caseFrom, .ref q_caseTells, .ref q_testAsks, .ref q_testHow, .ref q_testNumber, .int keys, .int weight, .int care, .long scoreSum, .long scoreDays, .int triedSpoken, .int triedRain, .int triedTaken, .int triedBoth, .ref q_glassX, .ref q_glassY, .ref q_glassPress, .ref q_glassWind, .int glasses, .ref q_dry, .ref q_value, .ref q_doing, .ref q_kept, .ref q_isKept, .int keptAt, .int isWriting])), (q_glassX, .inl (xy G 0, 4, .inl glassX)), (q_glassY, .inl (xy G 0, 4, .inl glassY)), (q_glassPress, .inl (xy G 0, 4, .inl glassPress)), (q_glassWind, .inl (xy G 0, 4, .inl glassWind))] := hD
      exact x_iretw hx hb hr hlk hP hD hS rfl dX10_glass_51
    · replace h := (if_neg hc504).symm.trans h
      refine lv_iload_n hx hb dX10_glass_24 rfl (lv_at hl 3 rfl) ?_
      refine lv_i2l (v := (Int32.toInt64 p2)) hx hb dX10_glass_25 rfl ?_
      refine lv_lconst (v := 0) hx hb dX10_glass_26 (by decide) ?_
      refine lv_ldc2 (v := 99) hx hb hown (hts (.constantLong RX10 103 (99)) (List.mem_of_getElem? (i := 2) rfl)) dX10_glass_27 ?_
      obtain ⟨r505, hr505, h⟩ := x_bind h
      refine x_calli (va_runS (As := [.long (Int32.toInt64 p2), .long 0, .long 99]) (rest := []) ⟨hx, hb, hml, hown, hts⟩ (kX10_in l G H hr505) (va_cwS 3 hts gX10_glass_X10_in rfl rfl rfl (by decide +kernel) ⟨Nat.le_of_ble_eq_true rfl, Nat.le_of_ble_eq_true rfl⟩) (x_preS hE hS) rfl rfl hl.1 rfl (lv_room (Nat.le_of_ble_eq_true rfl)) dX10_glass_30 ⟨Nat.le_of_ble_eq_true rfl, Nat.le_of_ble_eq_true rfl⟩) ?_
      refine lv_if_eq (tgt := 49) hx hb dX10_glass_33 (by decide) (fun hc506 => ?_) (fun hc506 => ?_)
      · replace h := (if_pos hc506).symm.trans h
        refine lv_bipush (v := (-2)) hx hb dX10_glass_49 (by decide) ?_
        have hq : ((-2), glasses, glassX, glassY, glassPress, glassWind) = out := by cases h; exact ho
        subst hq
        have hP : va_P (xD G) vwCl [(q_this, .inr (10, [.int mind, .int needle, .int stick, .ref q_years, .ref q_months, .ref q_presses, .ref q_winds, .ref q_skies, .ref q_rains, .ref q_wires, .int days, .ref q_signs, .int signMany, .ref q_cases, .ref q_caseFrom, .ref q_caseTells, .ref q_testAsks, .ref q_testHow, .ref q_testNumber, .int keys, .int weight, .int care, .long scoreSum, .long scoreDays, .int triedSpoken, .int triedRain, .int triedTaken, .int triedBoth, .ref q_glassX, .ref q_glassY, .ref q_glassPress, .ref q_glassWind, .int glasses, .ref q_dry, .ref q_value, .ref q_doing, .ref q_kept, .ref q_isKept, .int keptAt, .int isWriting])), (q_glassX, .inl (xy G 0, 4, .inl glassX)), (q_glassY, .inl (xy G 0, 4, .inl glassY)), (q_glassPress, .inl (xy G 0, 4, .inl glassPress)), (q_glassWind, .inl (xy G 0, 4, .inl glassWind))] H := hP
        have hD : va_D A [(q_this, .inr (10, [.int mind, .int needle, .int stick, .ref q_years, .ref q_months, .ref q_presses, .ref q_winds, .ref q_skies, .ref q_rains, .ref q_wires, .int days, .ref q_signs, .int signMany, .ref q_cases, .ref q_caseFrom, .ref q_caseTells, .ref q_testAsks, .ref q_testHow, .ref q_testNumber, .int keys, .int weight, .int care, .long scoreSum, .long scoreDays, .int triedSpoken, .int triedRain, .int triedTaken, .int triedBoth, .ref q_glassX, .ref q_glassY, .ref q_glassPress, .ref q_glassWind, .int glasses, .ref q_dry, .ref q_value, .ref q_doing, .ref q_kept, .ref q_isKept, .int keptAt, .int isWriting])), (q_glassX, .inl (xy G 0, 4, .inl glassX)), (q_glassY, .inl (xy G 0, 4, .inl glassY)), (q_glassPress, .inl (xy G 0, 4, .inl glassPress)), (q_glassWind, .inl (xy G 0, 4, .inl glassWind))] := hD
        exact x_iretw hx hb hr hlk hP hD hS rfl dX10_glass_51
      · replace h := (if_neg hc506).symm.trans h
        refine lv_iload hx hb dX10_glass_36 (lv_at hl 4 rfl) ?_
        refine lv_i2l (v := (Int32.toInt64 p3)) hx hb dX10_glass_38 rfl ?_
        refine lv_lconst (v := 0) hx hb dX10_glass_39 (by decide) ?_
        refine lv_ldc2 (v := 7) hx hb hown (hts (.constantLong RX10 118 (7)) (List.mem_of_getElem? (i := 3) rfl)) dX10_glass_40 ?_
        obtain ⟨r507, hr507, h⟩ := x_bind h
        refine x_calli (va_runS (As := [.long (Int32.toInt64 p3), .long 0, .long 7]) (rest := []) ⟨hx, hb, hml, hown, hts⟩ (kX10_in l G H hr507) (va_cwS 3 hts gX10_glass_X10_in rfl rfl rfl (by decide +kernel) ⟨Nat.le_of_ble_eq_true rfl, Nat.le_of_ble_eq_true rfl⟩) (x_preS hE hS) rfl rfl hl.1 rfl (lv_room (Nat.le_of_ble_eq_true rfl)) dX10_glass_43 ⟨Nat.le_of_ble_eq_true rfl, Nat.le_of_ble_eq_true rfl⟩) ?_
        refine lv_if_ne (tgt := 52) hx hb dX10_glass_46 (by decide) (fun hc508 => ?_) (fun hc508 => ?_)
        · replace h := (if_neg hc508).symm.trans h
          refine lv_aload_n hx hb dX10_glass_52 rfl (lv_at hl 0 rfl) ?_
          refine va_get (D := xD G) (ci := 10) (v := .int glasses) (C := RX10) (T := TX10) (N := 40) hx hb hts (fun w9 h9 => (List.mem_cons_of_mem _ (List.mem_append_right _ h9))) hown hE.1 hP 0 rfl rfl 32 (by decide) (hts (.fieldLink RX10 262 "FallingGlassModel" "glasses" "I") (List.mem_of_getElem? (i := 4) rfl)) (fun _ h9 => h9) rfl dX10_glass_53 ?_
          refine lv_iconst (v := 4) hx hb dX10_glass_56 (by decide) ?_
          refine lv_icmp_ne (tgt := 63) hx hb dX10_glass_57 (by decide) (fun hc509 => ?_) (fun hc509 => ?_)
          · replace h := (if_neg hc509).symm.trans h
            refine lv_aload_n hx hb dX10_glass_63 rfl (lv_at hl 0 rfl) ?_
            refine va_get (D := xD G) (ci := 10) (v := .ref q_glassX) (C := RX10) (T := TX10) (N := 40) hx hb hts (fun w9 h9 => (List.mem_cons_of_mem _ (List.mem_append_right _ h9))) hown hE.1 hP 0 rfl rfl 28 (by decide) (hts (.fieldLink RX10 52 "FallingGlassModel" "glassX" "[I") (List.mem_of_getElem? (i := 5) rfl)) (fun _ h9 => h9) rfl dX10_glass_64 ?_
            refine lv_aload_n hx hb dX10_glass_67 rfl (lv_at hl 0 rfl) ?_
            refine va_get (D := xD G) (ci := 10) (v := .int glasses) (C := RX10) (T := TX10) (N := 40) hx hb hts (fun w9 h9 => (List.mem_cons_of_mem _ (List.mem_append_right _ h9))) hown hE.1 hP 0 rfl rfl 32 (by decide) (hts (.fieldLink RX10 262 "FallingGlassModel" "glasses" "I") (List.mem_of_getElem? (i := 4) rfl)) (fun _ h9 => h9) rfl dX10_glass_68 ?_
            refine lv_iload_n hx hb dX10_glass_71 rfl (lv_at hl 1 rfl) ?_
            obtain ⟨hi510, h⟩ := x_needs h
            refine va_iast (D := xD G) hx hb hE.1 hP hD hS 1 0 rfl rfl hi510 dX10_glass_72 (fun H locs hP hD hS => ?_)
            have hP : va_P (xD G) vwCl [(q_this, .inr (10, [.int mind, .int needle, .int stick, .ref q_years, .ref q_months, .ref q_presses, .ref q_winds, .ref q_skies, .ref q_rains, .ref q_wires, .int days, .ref q_signs, .int signMany, .ref q_cases, .ref q_caseFrom, .ref q_caseTells, .ref q_testAsks, .ref q_testHow, .ref q_testNumber, .int keys, .int weight, .int care, .long scoreSum, .long scoreDays, .int triedSpoken, .int triedRain, .int triedTaken, .int triedBoth, .ref q_glassX, .ref q_glassY, .ref q_glassPress, .ref q_glassWind, .int glasses, .ref q_dry, .ref q_value, .ref q_doing, .ref q_kept, .ref q_isKept, .int keptAt, .int isWriting])), (q_glassX, .inl (xy G 0, 4, .inl (upd glassX (Int32.toNatClampNeg glasses) p0))), (q_glassY, .inl (xy G 0, 4, .inl glassY)), (q_glassPress, .inl (xy G 0, 4, .inl glassPress)), (q_glassWind, .inl (xy G 0, 4, .inl glassWind))] H := hP
            have hD : va_D A [(q_this, .inr (10, [.int mind, .int needle, .int stick, .ref q_years, .ref q_months, .ref q_presses, .ref q_winds, .ref q_skies, .ref q_rains, .ref q_wires, .int days, .ref q_signs, .int signMany, .ref q_cases, .ref q_caseFrom, .ref q_caseTells, .ref q_testAsks, .ref q_testHow, .ref q_testNumber, .int keys, .int weight, .int care, .long scoreSum, .long scoreDays, .int triedSpoken, .int triedRain, .int triedTaken, .int triedBoth, .ref q_glassX, .ref q_glassY, .ref q_glassPress, .ref q_glassWind, .int glasses, .ref q_dry, .ref q_value, .ref q_doing, .ref q_kept, .ref q_isKept, .int keptAt, .int isWriting])), (q_glassX, .inl (xy G 0, 4, .inl (upd glassX (Int32.toNatClampNeg glasses) p0))), (q_glassY, .inl (xy G 0, 4, .inl glassY)), (q_glassPress, .inl (xy G 0, 4, .inl glassPress)), (q_glassWind, .inl (xy G 0, 4, .inl glassWind))] := hD
            refine lv_aload_n hx hb dX10_glass_73 rfl (lv_at hl 0 rfl) ?_
            refine va_get (D := xD G) (ci := 10) (v := .ref q_glassY) (C := RX10) (T := TX10) (N := 40) hx hb hts (fun w9 h9 => (List.mem_cons_of_mem _ (List.mem_append_right _ h9))) hown hE.1 hP 0 rfl rfl 29 (by decide) (hts (.fieldLink RX10 55 "FallingGlassModel" "glassY" "[I") (List.mem_of_getElem? (i := 6) rfl)) (fun _ h9 => h9) rfl dX10_glass_74 ?_
            refine lv_aload_n hx hb dX10_glass_77 rfl (lv_at hl 0 rfl) ?_
            refine va_get (D := xD G) (ci := 10) (v := .int glasses) (C := RX10) (T := TX10) (N := 40) hx hb hts (fun w9 h9 => (List.mem_cons_of_mem _ (List.mem_append_right _ h9))) hown hE.1 hP 0 rfl rfl 32 (by decide) (hts (.fieldLink RX10 262 "FallingGlassModel" "glasses" "I") (List.mem_of_getElem? (i := 4) rfl)) (fun _ h9 => h9) rfl dX10_glass_78 ?_
            refine lv_iload_n hx hb dX10_glass_81 rfl (lv_at hl 2 rfl) ?_
            obtain ⟨hi511, h⟩ := x_needs h
            refine va_iast (D := xD G) hx hb hE.1 hP hD hS 2 0 rfl rfl hi511 dX10_glass_82 (fun H locs hP hD hS => ?_)
            have hP : va_P (xD G) vwCl [(q_this, .inr (10, [.int mind, .int needle, .int stick, .ref q_years, .ref q_months, .ref q_presses, .ref q_winds, .ref q_skies, .ref q_rains, .ref q_wires, .int days, .ref q_signs, .int signMany, .ref q_cases, .ref q_caseFrom, .ref q_caseTells, .ref q_testAsks, .ref q_testHow, .ref q_testNumber, .int keys, .int weight, .int care, .long scoreSum, .long scoreDays, .int triedSpoken, .int triedRain, .int triedTaken, .int triedBoth, .ref q_glassX, .ref q_glassY, .ref q_glassPress, .ref q_glassWind, .int glasses, .ref q_dry, .ref q_value, .ref q_doing, .ref q_kept, .ref q_isKept, .int keptAt, .int isWriting])), (q_glassX, .inl (xy G 0, 4, .inl (upd glassX (Int32.toNatClampNeg glasses) p0))), (q_glassY, .inl (xy G 0, 4, .inl (upd glassY (Int32.toNatClampNeg glasses) p1))), (q_glassPress, .inl (xy G 0, 4, .inl glassPress)), (q_glassWind, .inl (xy G 0, 4, .inl glassWind))] H := hP
            have hD : va_D A [(q_this, .inr (10, [.int mind, .int needle, .int stick, .ref q_years, .ref q_months, .ref q_presses, .ref q_winds, .ref q_skies, .ref q_rains, .ref q_wires, .int days, .ref q_signs, .int signMany, .ref q_cases, .ref q_caseFrom, .ref q_caseTells, .ref q_testAsks, .ref q_testHow, .ref q_testNumber, .int keys, .int weight, .int care, .long scoreSum, .long scoreDays, .int triedSpoken, .int triedRain, .int triedTaken, .int triedBoth, .ref q_glassX, .ref q_glassY, .ref q_glassPress, .ref q_glassWind, .int glasses, .ref q_dry, .ref q_value, .ref q_doing, .ref q_kept, .ref q_isKept, .int keptAt, .int isWriting])), (q_glassX, .inl (xy G 0, 4, .inl (upd glassX (Int32.toNatClampNeg glasses) p0))), (q_glassY, .inl (xy G 0, 4, .inl (upd glassY (Int32.toNatClampNeg glasses) p1))), (q_glassPress, .inl (xy G 0, 4, .inl glassPress)), (q_glassWind, .inl (xy G 0, 4, .inl glassWind))] := hD
            refine lv_aload_n hx hb dX10_glass_83 rfl (lv_at hl 0 rfl) ?_
            refine va_get (D := xD G) (ci := 10) (v := .ref q_glassPress) (C := RX10) (T := TX10) (N := 40) hx hb hts (fun w9 h9 => (List.mem_cons_of_mem _ (List.mem_append_right _ h9))) hown hE.1 hP 0 rfl rfl 30 (by decide) (hts (.fieldLink RX10 58 "FallingGlassModel" "glassPress" "[I") (List.mem_of_getElem? (i := 7) rfl)) (fun _ h9 => h9) rfl dX10_glass_84 ?_
            refine lv_aload_n hx hb dX10_glass_87 rfl (lv_at hl 0 rfl) ?_
            refine va_get (D := xD G) (ci := 10) (v := .int glasses) (C := RX10) (T := TX10) (N := 40) hx hb hts (fun w9 h9 => (List.mem_cons_of_mem _ (List.mem_append_right _ h9))) hown hE.1 hP 0 rfl rfl 32 (by decide) (hts (.fieldLink RX10 262 "FallingGlassModel" "glasses" "I") (List.mem_of_getElem? (i := 4) rfl)) (fun _ h9 => h9) rfl dX10_glass_88 ?_
            refine lv_iload_n hx hb dX10_glass_91 rfl (lv_at hl 3 rfl) ?_
            obtain ⟨hi512, h⟩ := x_needs h
            refine va_iast (D := xD G) hx hb hE.1 hP hD hS 3 0 rfl rfl hi512 dX10_glass_92 (fun H locs hP hD hS => ?_)
            have hP : va_P (xD G) vwCl [(q_this, .inr (10, [.int mind, .int needle, .int stick, .ref q_years, .ref q_months, .ref q_presses, .ref q_winds, .ref q_skies, .ref q_rains, .ref q_wires, .int days, .ref q_signs, .int signMany, .ref q_cases, .ref q_caseFrom, .ref q_caseTells, .ref q_testAsks, .ref q_testHow, .ref q_testNumber, .int keys, .int weight, .int care, .long scoreSum, .long scoreDays, .int triedSpoken, .int triedRain, .int triedTaken, .int triedBoth, .ref q_glassX, .ref q_glassY, .ref q_glassPress, .ref q_glassWind, .int glasses, .ref q_dry, .ref q_value, .ref q_doing, .ref q_kept, .ref q_isKept, .int keptAt, .int isWriting])), (q_glassX, .inl (xy G 0, 4, .inl (upd glassX (Int32.toNatClampNeg glasses) p0))), (q_glassY, .inl (xy G 0, 4, .inl (upd glassY (Int32.toNatClampNeg glasses) p1))), (q_glassPress, .inl (xy G 0, 4, .inl (upd glassPress (Int32.toNatClampNeg glasses) p2))), (q_glassWind, .inl (xy G 0, 4, .inl glassWind))] H := hP
            have hD : va_D A [(q_this, .inr (10, [.int mind, .int needle, .int stick, .ref q_years, .ref q_months, .ref q_presses, .ref q_winds, .ref q_skies, .ref q_rains, .ref q_wires, .int days, .ref q_signs, .int signMany, .ref q_cases, .ref q_caseFrom, .ref q_caseTells, .ref q_testAsks, .ref q_testHow, .ref q_testNumber, .int keys, .int weight, .int care, .long scoreSum, .long scoreDays, .int triedSpoken, .int triedRain, .int triedTaken, .int triedBoth, .ref q_glassX, .ref q_glassY, .ref q_glassPress, .ref q_glassWind, .int glasses, .ref q_dry, .ref q_value, .ref q_doing, .ref q_kept, .ref q_isKept, .int keptAt, .int isWriting])), (q_glassX, .inl (xy G 0, 4, .inl (upd glassX (Int32.toNatClampNeg glasses) p0))), (q_glassY, .inl (xy G 0, 4, .inl (upd glassY (Int32.toNatClampNeg glasses) p1))), (q_glassPress, .inl (xy G 0, 4, .inl (upd glassPress (Int32.toNatClampNeg glasses) p2))), (q_glassWind, .inl (xy G 0, 4, .inl glassWind))] := hD
            refine lv_aload_n hx hb dX10_glass_93 rfl (lv_at hl 0 rfl) ?_
            refine va_get (D := xD G) (ci := 10) (v := .ref q_glassWind) (C := RX10) (T := TX10) (N := 40) hx hb hts (fun w9 h9 => (List.mem_cons_of_mem _ (List.mem_append_right _ h9))) hown hE.1 hP 0 rfl rfl 31 (by decide) (hts (.fieldLink RX10 61 "FallingGlassModel" "glassWind" "[I") (List.mem_of_getElem? (i := 8) rfl)) (fun _ h9 => h9) rfl dX10_glass_94 ?_
            refine lv_aload_n hx hb dX10_glass_97 rfl (lv_at hl 0 rfl) ?_
            refine va_get (D := xD G) (ci := 10) (v := .int glasses) (C := RX10) (T := TX10) (N := 40) hx hb hts (fun w9 h9 => (List.mem_cons_of_mem _ (List.mem_append_right _ h9))) hown hE.1 hP 0 rfl rfl 32 (by decide) (hts (.fieldLink RX10 262 "FallingGlassModel" "glasses" "I") (List.mem_of_getElem? (i := 4) rfl)) (fun _ h9 => h9) rfl dX10_glass_98 ?_
            refine lv_iload hx hb dX10_glass_101 (lv_at hl 4 rfl) ?_
            obtain ⟨hi513, h⟩ := x_needs h
            refine va_iast (D := xD G) hx hb hE.1 hP hD hS 4 0 rfl rfl hi513 dX10_glass_103 (fun H locs hP hD hS => ?_)
            have hP : va_P (xD G) vwCl [(q_this, .inr (10, [.int mind, .int needle, .int stick, .ref q_years, .ref q_months, .ref q_presses, .ref q_winds, .ref q_skies, .ref q_rains, .ref q_wires, .int days, .ref q_signs, .int signMany, .ref q_cases, .ref q_caseFrom, .ref q_caseTells, .ref q_testAsks, .ref q_testHow, .ref q_testNumber, .int keys, .int weight, .int care, .long scoreSum, .long scoreDays, .int triedSpoken, .int triedRain, .int triedTaken, .int triedBoth, .ref q_glassX, .ref q_glassY, .ref q_glassPress, .ref q_glassWind, .int glasses, .ref q_dry, .ref q_value, .ref q_doing, .ref q_kept, .ref q_isKept, .int keptAt, .int isWriting])), (q_glassX, .inl (xy G 0, 4, .inl (upd glassX (Int32.toNatClampNeg glasses) p0))), (q_glassY, .inl (xy G 0, 4, .inl (upd glassY (Int32.toNatClampNeg glasses) p1))), (q_glassPress, .inl (xy G 0, 4, .inl (upd glassPress (Int32.toNatClampNeg glasses) p2))), (q_glassWind, .inl (xy G 0, 4, .inl (upd glassWind (Int32.toNatClampNeg glasses) p3)))] H := hP
            have hD : va_D A [(q_this, .inr (10, [.int mind, .int needle, .int stick, .ref q_years, .ref q_months, .ref q_presses, .ref q_winds, .ref q_skies, .ref q_rains, .ref q_wires, .int days, .ref q_signs, .int signMany, .ref q_cases, .ref q_caseFrom, .ref q_caseTells, .ref q_testAsks, .ref q_testHow, .ref q_testNumber, .int keys, .int weight, .int care, .long scoreSum, .long scoreDays, .int triedSpoken, .int triedRain, .int triedTaken, .int triedBoth, .ref q_glassX, .ref q_glassY, .ref q_glassPress, .ref q_glassWind, .int glasses, .ref q_dry, .ref q_value, .ref q_doing, .ref q_kept, .ref q_isKept, .int keptAt, .int isWriting])), (q_glassX, .inl (xy G 0, 4, .inl (upd glassX (Int32.toNatClampNeg glasses) p0))), (q_glassY, .inl (xy G 0, 4, .inl (upd glassY (Int32.toNatClampNeg glasses) p1))), (q_glassPress, .inl (xy G 0, 4, .inl (upd glassPress (Int32.toNatClampNeg glasses) p2))), (q_glassWind, .inl (xy G 0, 4, .inl (upd glassWind (Int32.toNatClampNeg glasses) p3)))] := hD
            refine lv_aload_n hx hb dX10_glass_104 rfl (lv_at hl 0 rfl) ?_
            refine lv_dup hx hb dX10_glass_105 rfl ?_
            refine va_get (D := xD G) (ci := 10) (v := .int glasses) (C := RX10) (T := TX10) (N := 40) hx hb hts (fun w9 h9 => (List.mem_cons_of_mem _ (List.mem_append_right _ h9))) hown hE.1 hP 0 rfl rfl 32 (by decide) (hts (.fieldLink RX10 262 "FallingGlassModel" "glasses" "I") (List.mem_of_getElem? (i := 4) rfl)) (fun _ h9 => h9) rfl dX10_glass_106 ?_
            refine lv_iconst (v := 1) hx hb dX10_glass_109 (by decide) ?_
            refine lv_iadd hx hb dX10_glass_110 ?_
            refine va_put (D := xD G) (ci := 10) (v := .int (glasses + 1)) (ty := .int) (C := RX10) (T := TX10) (N := 40) hx hb hts (fun w9 h9 => (List.mem_cons_of_mem _ (List.mem_append_right _ h9))) tyX10 tyX10_ok nmX10 hown hE.1 hP hD hS 0 rfl rfl 32 (by decide) (hts (.fieldLink RX10 262 "FallingGlassModel" "glasses" "I") (List.mem_of_getElem? (i := 4) rfl)) (fun _ h9 => h9) rfl (by decide +kernel) rfl rfl (Nat.le_of_ble_eq_true rfl) dX10_glass_111 (fun H locs hP hD hS => ?_)
            have hP : va_P (xD G) vwCl [(q_this, .inr (10, [.int mind, .int needle, .int stick, .ref q_years, .ref q_months, .ref q_presses, .ref q_winds, .ref q_skies, .ref q_rains, .ref q_wires, .int days, .ref q_signs, .int signMany, .ref q_cases, .ref q_caseFrom, .ref q_caseTells, .ref q_testAsks, .ref q_testHow, .ref q_testNumber, .int keys, .int weight, .int care, .long scoreSum, .long scoreDays, .int triedSpoken, .int triedRain, .int triedTaken, .int triedBoth, .ref q_glassX, .ref q_glassY, .ref q_glassPress, .ref q_glassWind, .int (glasses + 1), .ref q_dry, .ref q_value, .ref q_doing, .ref q_kept, .ref q_isKept, .int keptAt, .int isWriting])), (q_glassX, .inl (xy G 0, 4, .inl (upd glassX (Int32.toNatClampNeg glasses) p0))), (q_glassY, .inl (xy G 0, 4, .inl (upd glassY (Int32.toNatClampNeg glasses) p1))), (q_glassPress, .inl (xy G 0, 4, .inl (upd glassPress (Int32.toNatClampNeg glasses) p2))), (q_glassWind, .inl (xy G 0, 4, .inl (upd glassWind (Int32.toNatClampNeg glasses) p3)))] H := hP
            have hD : va_D A [(q_this, .inr (10, [.int mind, .int needle, .int stick, .ref q_years, .ref q_months, .ref q_presses, .ref q_winds, .ref q_skies, .ref q_rains, .ref q_wires, .int days, .ref q_signs, .int signMany, .ref q_cases, .ref q_caseFrom, .ref q_caseTells, .ref q_testAsks, .ref q_testHow, .ref q_testNumber, .int keys, .int weight, .int care, .long scoreSum, .long scoreDays, .int triedSpoken, .int triedRain, .int triedTaken, .int triedBoth, .ref q_glassX, .ref q_glassY, .ref q_glassPress, .ref q_glassWind, .int (glasses + 1), .ref q_dry, .ref q_value, .ref q_doing, .ref q_kept, .ref q_isKept, .int keptAt, .int isWriting])), (q_glassX, .inl (xy G 0, 4, .inl (upd glassX (Int32.toNatClampNeg glasses) p0))), (q_glassY, .inl (xy G 0, 4, .inl (upd glassY (Int32.toNatClampNeg glasses) p1))), (q_glassPress, .inl (xy G 0, 4, .inl (upd glassPress (Int32.toNatClampNeg glasses) p2))), (q_glassWind, .inl (xy G 0, 4, .inl (upd glassWind (Int32.toNatClampNeg glasses) p3)))] := hD
            refine lv_aload_n hx hb dX10_glass_114 rfl (lv_at hl 0 rfl) ?_
            refine va_get (D := xD G) (ci := 10) (v := .int (glasses + 1)) (C := RX10) (T := TX10) (N := 40) hx hb hts (fun w9 h9 => (List.mem_cons_of_mem _ (List.mem_append_right _ h9))) hown hE.1 hP 0 rfl rfl 32 (by decide) (hts (.fieldLink RX10 262 "FallingGlassModel" "glasses" "I") (List.mem_of_getElem? (i := 4) rfl)) (fun _ h9 => h9) rfl dX10_glass_115 ?_
            have hq : ((glasses + 1), (glasses + 1), (upd glassX (Int32.toNatClampNeg glasses) p0), (upd glassY (Int32.toNatClampNeg glasses) p1), (upd glassPress (Int32.toNatClampNeg glasses) p2), (upd glassWind (Int32.toNatClampNeg glasses) p3)) = out := by cases h; exact ho
            subst hq
            have hP : va_P (xD G) vwCl [(q_this, .inr (10, [.int mind, .int needle, .int stick, .ref q_years, .ref q_months, .ref q_presses, .ref q_winds, .ref q_skies, .ref q_rains, .ref q_wires, .int days, .ref q_signs, .int signMany, .ref q_cases, .ref q_caseFrom, .ref q_caseTells, .ref q_testAsks, .ref q_testHow, .ref q_testNumber, .int keys, .int weight, .int care, .long scoreSum, .long scoreDays, .int triedSpoken, .int triedRain, .int triedTaken, .int triedBoth, .ref q_glassX, .ref q_glassY, .ref q_glassPress, .ref q_glassWind, .int (glasses + 1), .ref q_dry, .ref q_value, .ref q_doing, .ref q_kept, .ref q_isKept, .int keptAt, .int isWriting])), (q_glassX, .inl (xy G 0, 4, .inl (upd glassX (Int32.toNatClampNeg glasses) p0))), (q_glassY, .inl (xy G 0, 4, .inl (upd glassY (Int32.toNatClampNeg glasses) p1))), (q_glassPress, .inl (xy G 0, 4, .inl (upd glassPress (Int32.toNatClampNeg glasses) p2))), (q_glassWind, .inl (xy G 0, 4, .inl (upd glassWind (Int32.toNatClampNeg glasses) p3)))] H := hP
            have hD : va_D A [(q_this, .inr (10, [.int mind, .int needle, .int stick, .ref q_years, .ref q_months, .ref q_presses, .ref q_winds, .ref q_skies, .ref q_rains, .ref q_wires, .int days, .ref q_signs, .int signMany, .ref q_cases, .ref q_caseFrom, .ref q_caseTells, .ref q_testAsks, .ref q_testHow, .ref q_testNumber, .int keys, .int weight, .int care, .long scoreSum, .long scoreDays, .int triedSpoken, .int triedRain, .int triedTaken, .int triedBoth, .ref q_glassX, .ref q_glassY, .ref q_glassPress, .ref q_glassWind, .int (glasses + 1), .ref q_dry, .ref q_value, .ref q_doing, .ref q_kept, .ref q_isKept, .int keptAt, .int isWriting])), (q_glassX, .inl (xy G 0, 4, .inl (upd glassX (Int32.toNatClampNeg glasses) p0))), (q_glassY, .inl (xy G 0, 4, .inl (upd glassY (Int32.toNatClampNeg glasses) p1))), (q_glassPress, .inl (xy G 0, 4, .inl (upd glassPress (Int32.toNatClampNeg glasses) p2))), (q_glassWind, .inl (xy G 0, 4, .inl (upd glassWind (Int32.toNatClampNeg glasses) p3)))] := hD
            exact x_iretw hx hb hr hlk hP hD hS rfl dX10_glass_118
          · replace h := (if_pos hc509).symm.trans h
            refine lv_bipush (v := (-4)) hx hb dX10_glass_60 (by decide) ?_
            have hq : ((-4), glasses, glassX, glassY, glassPress, glassWind) = out := by cases h; exact ho
            subst hq
            have hP : va_P (xD G) vwCl [(q_this, .inr (10, [.int mind, .int needle, .int stick, .ref q_years, .ref q_months, .ref q_presses, .ref q_winds, .ref q_skies, .ref q_rains, .ref q_wires, .int days, .ref q_signs, .int signMany, .ref q_cases, .ref q_caseFrom, .ref q_caseTells, .ref q_testAsks, .ref q_testHow, .ref q_testNumber, .int keys, .int weight, .int care, .long scoreSum, .long scoreDays, .int triedSpoken, .int triedRain, .int triedTaken, .int triedBoth, .ref q_glassX, .ref q_glassY, .ref q_glassPress, .ref q_glassWind, .int glasses, .ref q_dry, .ref q_value, .ref q_doing, .ref q_kept, .ref q_isKept, .int keptAt, .int isWriting])), (q_glassX, .inl (xy G 0, 4, .inl glassX)), (q_glassY, .inl (xy G 0, 4, .inl glassY)), (q_glassPress, .inl (xy G 0, 4, .inl glassPress)), (q_glassWind, .inl (xy G 0, 4, .inl glassWind))] H := hP
            have hD : va_D A [(q_this, .inr (10, [.int mind, .int needle, .int stick, .ref q_years, .ref q_months, .ref q_presses, .ref q_winds, .ref q_skies, .ref q_rains, .ref q_wires, .int days, .ref q_signs, .int signMany, .ref q_cases, .ref q_caseFrom, .ref q_caseTells, .ref q_testAsks, .ref q_testHow, .ref q_testNumber, .int keys, .int weight, .int care, .long scoreSum, .long scoreDays, .int triedSpoken, .int triedRain, .int triedTaken, .int triedBoth, .ref q_glassX, .ref q_glassY, .ref q_glassPress, .ref q_glassWind, .int glasses, .ref q_dry, .ref q_value, .ref q_doing, .ref q_kept, .ref q_isKept, .int keptAt, .int isWriting])), (q_glassX, .inl (xy G 0, 4, .inl glassX)), (q_glassY, .inl (xy G 0, 4, .inl glassY)), (q_glassPress, .inl (xy G 0, 4, .inl glassPress)), (q_glassWind, .inl (xy G 0, 4, .inl glassWind))] := hD
            exact x_iretw hx hb hr hlk hP hD hS rfl dX10_glass_62
        · replace h := (if_pos hc508).symm.trans h
          refine lv_bipush (v := (-2)) hx hb dX10_glass_49 (by decide) ?_
          have hq : ((-2), glasses, glassX, glassY, glassPress, glassWind) = out := by cases h; exact ho
          subst hq
          have hP : va_P (xD G) vwCl [(q_this, .inr (10, [.int mind, .int needle, .int stick, .ref q_years, .ref q_months, .ref q_presses, .ref q_winds, .ref q_skies, .ref q_rains, .ref q_wires, .int days, .ref q_signs, .int signMany, .ref q_cases, .ref q_caseFrom, .ref q_caseTells, .ref q_testAsks, .ref q_testHow, .ref q_testNumber, .int keys, .int weight, .int care, .long scoreSum, .long scoreDays, .int triedSpoken, .int triedRain, .int triedTaken, .int triedBoth, .ref q_glassX, .ref q_glassY, .ref q_glassPress, .ref q_glassWind, .int glasses, .ref q_dry, .ref q_value, .ref q_doing, .ref q_kept, .ref q_isKept, .int keptAt, .int isWriting])), (q_glassX, .inl (xy G 0, 4, .inl glassX)), (q_glassY, .inl (xy G 0, 4, .inl glassY)), (q_glassPress, .inl (xy G 0, 4, .inl glassPress)), (q_glassWind, .inl (xy G 0, 4, .inl glassWind))] H := hP
          have hD : va_D A [(q_this, .inr (10, [.int mind, .int needle, .int stick, .ref q_years, .ref q_months, .ref q_presses, .ref q_winds, .ref q_skies, .ref q_rains, .ref q_wires, .int days, .ref q_signs, .int signMany, .ref q_cases, .ref q_caseFrom, .ref q_caseTells, .ref q_testAsks, .ref q_testHow, .ref q_testNumber, .int keys, .int weight, .int care, .long scoreSum, .long scoreDays, .int triedSpoken, .int triedRain, .int triedTaken, .int triedBoth, .ref q_glassX, .ref q_glassY, .ref q_glassPress, .ref q_glassWind, .int glasses, .ref q_dry, .ref q_value, .ref q_doing, .ref q_kept, .ref q_isKept, .int keptAt, .int isWriting])), (q_glassX, .inl (xy G 0, 4, .inl glassX)), (q_glassY, .inl (xy G 0, 4, .inl glassY)), (q_glassPress, .inl (xy G 0, 4, .inl glassPress)), (q_glassWind, .inl (xy G 0, 4, .inl glassWind))] := hD
          exact x_iretw hx hb hr hlk hP hD hS rfl dX10_glass_51
noncomputable def mX10_clear (glasses : Int32)  : Option (Int32 × Int32) :=
  some (glasses, 0)
set_option maxHeartbeats 4000000 in
set_option maxRecDepth 100000 in
theorem kX10_clear (l : Launch) (G : xG) (H0 : Heap) {q_this q_years q_months q_presses q_winds q_skies q_rains q_wires q_signs q_cases q_caseFrom q_caseTells q_testAsks q_testHow q_testNumber q_glassX q_glassY q_glassPress q_glassWind q_dry q_value q_doing q_kept q_isKept : Nat} {mind : Int32} {needle : Int32} {stick : Int32} {days : Int32} {signMany : Int32} {keys : Int32} {weight : Int32} {care : Int32} {scoreSum : Int64} {scoreDays : Int64} {triedSpoken : Int32} {triedRain : Int32} {triedTaken : Int32} {triedBoth : Int32} {glasses : Int32} {keptAt : Int32} {isWriting : Int32} (w0 : va_W) (hw0 : w0 = [(q_this, .inr (10, [.int mind, .int needle, .int stick, .ref q_years, .ref q_months, .ref q_presses, .ref q_winds, .ref q_skies, .ref q_rains, .ref q_wires, .int days, .ref q_signs, .int signMany, .ref q_cases, .ref q_caseFrom, .ref q_caseTells, .ref q_testAsks, .ref q_testHow, .ref q_testNumber, .int keys, .int weight, .int care, .long scoreSum, .long scoreDays, .int triedSpoken, .int triedRain, .int triedTaken, .int triedBoth, .ref q_glassX, .ref q_glassY, .ref q_glassPress, .ref q_glassWind, .int glasses, .ref q_dry, .ref q_value, .ref q_doing, .ref q_kept, .ref q_isKept, .int keptAt, .int isWriting]))]) (hP : va_P (xD G) vwCl w0 H0) (hD : va_D (fun _ => True) w0) {out : Int32 × Int32} (h : mX10_clear glasses = some out) : Met l yX10_clear wsX10_clear ({ frames := 0, cells := 0, slots := 0, locals := 0 }) (xPcw G (va_A w0 H0.size) H0 [.ref q_this]) (xRi G (va_A w0 H0.size) [(q_this, .inr (10, [.int mind, .int needle, .int stick, .ref q_years, .ref q_months, .ref q_presses, .ref q_winds, .ref q_skies, .ref q_rains, .ref q_wires, .int days, .ref q_signs, .int signMany, .ref q_cases, .ref q_caseFrom, .ref q_caseTells, .ref q_testAsks, .ref q_testHow, .ref q_testNumber, .int keys, .int weight, .int care, .long scoreSum, .long scoreDays, .int triedSpoken, .int triedRain, .int triedTaken, .int triedBoth, .ref q_glassX, .ref q_glassY, .ref q_glassPress, .ref q_glassWind, .int out.2, .ref q_dry, .ref q_value, .ref q_doing, .ref q_kept, .ref q_isKept, .int keptAt, .int isWriting]))] (out.1)) 0 0 (va_A w0 H0.size) := by
  refine x_metw (y := yX10_clear) (ws := wsX10_clear) (rm := { frames := 0, cells := 0, slots := 0, locals := 0 }) (G := G) (H0 := H0) (w0 := w0) (av := [.ref q_this]) (mc := 0) (ms := 0) (Qc := (fun A => (xRi G A [(q_this, .inr (10, [.int mind, .int needle, .int stick, .ref q_years, .ref q_months, .ref q_presses, .ref q_winds, .ref q_skies, .ref q_rains, .ref q_wires, .int days, .ref q_signs, .int signMany, .ref q_cases, .ref q_caseFrom, .ref q_caseTells, .ref q_testAsks, .ref q_testHow, .ref q_testNumber, .int keys, .int weight, .int care, .long scoreSum, .long scoreDays, .int triedSpoken, .int triedRain, .int triedTaken, .int triedBoth, .ref q_glassX, .ref q_glassY, .ref q_glassPress, .ref q_glassWind, .int out.2, .ref q_dry, .ref q_value, .ref q_doing, .ref q_kept, .ref q_isKept, .int keptAt, .int isWriting]))] (out.1)))) (by decide) rfl (Nat.le_of_ble_eq_true rfl) hP hD ?_
  clear hP hD
  intro p e s m below meth c ls A H locs hA hAt hnm hl hP hD hS
  subst hw0
  obtain ⟨hx, hb, hr, hlk, hml, hown, hts, hE⟩ := hAt
  have hown : s.vm.findClass RX10 = some m.cls := hown
  have hl : lv_has ls 2 [(0, .ref q_this)] := hl
  have ho : out = out := rfl
  unfold mX10_clear at h
  refine lv_aload_n hx hb dX10_clear_0 rfl (lv_at hl 0 rfl) ?_
  refine va_get (D := xD G) (ci := 10) (v := .int glasses) (C := RX10) (T := TX10) (N := 40) hx hb hts (fun w9 h9 => (List.mem_cons_of_mem _ (List.mem_append_right _ h9))) hown hE.1 hP 0 rfl rfl 32 (by decide) (hts (.fieldLink RX10 262 "FallingGlassModel" "glasses" "I") (List.mem_of_getElem? (i := 1) rfl)) (fun _ h9 => h9) rfl dX10_clear_1 ?_
  refine lv_istore_n (lv' := [(1, .int glasses), (0, .ref q_this)]) hx hb dX10_clear_4 rfl hl (by decide) rfl (fun ls hl => ?_)
  refine lv_aload_n hx hb dX10_clear_5 rfl (lv_at hl 1 rfl) ?_
  refine lv_iconst (v := 0) hx hb dX10_clear_6 (by decide) ?_
  refine va_put (D := xD G) (ci := 10) (v := .int 0) (ty := .int) (C := RX10) (T := TX10) (N := 40) hx hb hts (fun w9 h9 => (List.mem_cons_of_mem _ (List.mem_append_right _ h9))) tyX10 tyX10_ok nmX10 hown hE.1 hP hD hS 0 rfl rfl 32 (by decide) (hts (.fieldLink RX10 262 "FallingGlassModel" "glasses" "I") (List.mem_of_getElem? (i := 1) rfl)) (fun _ h9 => h9) rfl (by decide +kernel) rfl rfl (Nat.le_of_ble_eq_true rfl) dX10_clear_7 (fun H locs hP hD hS => ?_)
  have hP : va_P (xD G) vwCl [(q_this, .inr (10, [.int mind, .int needle, .int stick, .ref q_years, .ref q_months, .ref q_presses, .ref q_winds, .ref q_skies, .ref q_rains, .ref q_wires, .int days, .ref q_signs, .int signMany, .ref q_cases, .ref q_caseFrom, .ref q_caseTells, .ref q_testAsks, .ref q_testHow, .ref q_testNumber, .int keys, .int weight, .int care, .long scoreSum, .long scoreDays, .int triedSpoken, .int triedRain, .int triedTaken, .int triedBoth, .ref q_glassX, .ref q_glassY, .ref q_glassPress, .ref q_glassWind, .int 0, .ref q_dry, .ref q_value, .ref q_doing, .ref q_kept, .ref q_isKept, .int keptAt, .int isWriting]))] H := hP
  have hD : va_D A [(q_this, .inr (10, [.int mind, .int needle, .int stick, .ref q_years, .ref q_months, .ref q_presses, .ref q_winds, .ref q_skies, .ref q_rains, .ref q_wires, .int days, .ref q_signs, .int signMany, .ref q_cases, .ref q_caseFrom, .ref q_caseTells, .ref q_testAsks, .ref q_testHow, .ref q_testNumber, .int keys, .int weight, .int care, .long scoreSum, .long scoreDays, .int triedSpoken, .int triedRain, .int triedTaken, .int triedBoth, .ref q_glassX, .ref q_glassY, .ref q_glassPress, .ref q_glassWind, .int 0, .ref q_dry, .ref q_value, .ref q_doing, .ref q_kept, .ref q_isKept, .int keptAt, .int isWriting]))] := hD
  refine lv_iload_n hx hb dX10_clear_10 rfl (lv_at hl 0 rfl) ?_
  have hq : (glasses, 0) = out := by cases h; exact ho
  subst hq
  have hP : va_P (xD G) vwCl [(q_this, .inr (10, [.int mind, .int needle, .int stick, .ref q_years, .ref q_months, .ref q_presses, .ref q_winds, .ref q_skies, .ref q_rains, .ref q_wires, .int days, .ref q_signs, .int signMany, .ref q_cases, .ref q_caseFrom, .ref q_caseTells, .ref q_testAsks, .ref q_testHow, .ref q_testNumber, .int keys, .int weight, .int care, .long scoreSum, .long scoreDays, .int triedSpoken, .int triedRain, .int triedTaken, .int triedBoth, .ref q_glassX, .ref q_glassY, .ref q_glassPress, .ref q_glassWind, .int 0, .ref q_dry, .ref q_value, .ref q_doing, .ref q_kept, .ref q_isKept, .int keptAt, .int isWriting]))] H := hP
  have hD : va_D A [(q_this, .inr (10, [.int mind, .int needle, .int stick, .ref q_years, .ref q_months, .ref q_presses, .ref q_winds, .ref q_skies, .ref q_rains, .ref q_wires, .int days, .ref q_signs, .int signMany, .ref q_cases, .ref q_caseFrom, .ref q_caseTells, .ref q_testAsks, .ref q_testHow, .ref q_testNumber, .int keys, .int weight, .int care, .long scoreSum, .long scoreDays, .int triedSpoken, .int triedRain, .int triedTaken, .int triedBoth, .ref q_glassX, .ref q_glassY, .ref q_glassPress, .ref q_glassWind, .int 0, .ref q_dry, .ref q_value, .ref q_doing, .ref q_kept, .ref q_isKept, .int keptAt, .int isWriting]))] := hD
  exact x_iretw hx hb hr hlk hP hD hS rfl dX10_clear_11
noncomputable def mX10_towards_b33  (v0 : Int32) (v1 : Int32) (v2 : Int32) (v3 : Int32) : Option (Int32) :=
  if v3 ≤ (2 * v2) then (if v2 ≤ (2 * v3) then (if v0 ≤ 0 then (if v1 ≤ 0 then (some 5) else (some 7)) else (if v1 ≤ 0 then (some 3) else (some 1))) else (if v0 ≤ 0 then (some 6) else (some 2))) else (if v1 ≤ 0 then (some 4) else (some 0))
noncomputable def mX10_towards_b21  (v0 : Int32) (v1 : Int32) (v2 : Int32) (t0 : Int32) : Option (Int32) :=
  if v2 = 0 then (if t0 = 0 then (some ((-6))) else (mX10_towards_b33 v0 v1 v2 t0)) else (mX10_towards_b33 v0 v1 v2 t0)
noncomputable def mX10_towards_b10  (v0 : Int32) (v1 : Int32) (t0 : Int32) : Option (Int32) :=
  if 0 ≤ v1 then (mX10_towards_b21 v0 v1 t0 v1) else (mX10_towards_b21 v0 v1 t0 ((-v1)))
noncomputable def mX10_towards  (p0 : Int32) (p1 : Int32) : Option (Int32) :=
  if 0 ≤ p0 then (mX10_towards_b10 p0 p1 p0) else (mX10_towards_b10 p0 p1 ((-p0)))
set_option maxHeartbeats 4000000 in
set_option maxRecDepth 100000 in
theorem kX10_towards (l : Launch) (G : xG) (H0 : Heap) {p0 : Int32} {p1 : Int32} {out : Int32} (h : mX10_towards p0 p1 = some out) : Met l yX10_towards wsX10_towards ({ frames := 0, cells := 0, slots := 0, locals := 0 }) (xPc G H0 [.int p0, .int p1]) (xQi H0 (out)) 0 0 xN := by
  refine x_met (by decide) rfl (Nat.le_of_ble_eq_true rfl) ?_
  intro p e s m below meth c ls hH hA hl
  obtain ⟨hx, hb, hr, hlk, hml, hown, hts, hE⟩ := hA
  subst hH
  have hown : s.vm.findClass RX10 = some m.cls := hown
  have hl : lv_has ls 4 [(0, .int p0), (1, .int p1)] := hl
  have hS : va_S xN s.heap s.heap [] := va_S.rf
  have ho : out = out := rfl
  have J33 : ∀ (v0 : Int32) (v1 : Int32) (v2 : Int32) (v3 : Int32) (ls : Array Slot), lv_has ls 4 [(0, .int v0), (1, .int v1), (2, .int v2), (3, .int v3)] → ∀ o : Int32, mX10_towards_b33  v0 v1 v2 v3 = some o → (fun z => z = out) o → xW p l e ({ frames := 0, cells := 0, slots := 0, locals := 0 }) s m [.int p0, .int p1] below meth c (xQi s.heap (out)) (F0 m 33 ls []) := by
    intro v0 v1 v2 v3 ls hl o h ho
    unfold mX10_towards_b33 at h
    refine lv_iconst (v := 2) hx hb dX10_towards_33 (by decide) ?_
    refine lv_iload_n hx hb dX10_towards_34 rfl (lv_at hl 2 rfl) ?_
    refine lv_imul hx hb dX10_towards_35 ?_
    refine lv_iload_n hx hb dX10_towards_36 rfl (lv_at hl 3 rfl) ?_
    refine lv_icmp_ge (tgt := 50) hx hb dX10_towards_37 (by decide) (fun hc101 => ?_) (fun hc101 => ?_)
    · replace h := (if_pos hc101).symm.trans h
      refine lv_iconst (v := 2) hx hb dX10_towards_50 (by decide) ?_
      refine lv_iload_n hx hb dX10_towards_51 rfl (lv_at hl 3 rfl) ?_
      refine lv_imul hx hb dX10_towards_52 ?_
      refine lv_iload_n hx hb dX10_towards_53 rfl (lv_at hl 2 rfl) ?_
      refine lv_icmp_ge (tgt := 68) hx hb dX10_towards_54 (by decide) (fun hc102 => ?_) (fun hc102 => ?_)
      · replace h := (if_pos hc102).symm.trans h
        refine lv_iload_n hx hb dX10_towards_68 rfl (lv_at hl 0 rfl) ?_
        refine lv_if_le (tgt := 84) hx hb dX10_towards_69 (by decide) (fun hc103 => ?_) (fun hc103 => ?_)
        · replace h := (if_pos hc103).symm.trans h
          refine lv_iload_n hx hb dX10_towards_84 rfl (lv_at hl 1 rfl) ?_
          refine lv_if_le (tgt := 93) hx hb dX10_towards_85 (by decide) (fun hc104 => ?_) (fun hc104 => ?_)
          · replace h := (if_pos hc104).symm.trans h
            refine lv_iconst (v := 5) hx hb dX10_towards_93 (by decide) ?_
            have hq : 5 = out := by cases h; exact ho
            subst hq
            exact x_iret hx hb hr hlk rfl rfl dX10_towards_94
          · replace h := (if_neg hc104).symm.trans h
            refine lv_bipush (v := 7) hx hb dX10_towards_88 (by decide) ?_
            refine lv_goto (tgt := 94) hx hb dX10_towards_90 (by decide) ?_
            have hq : 7 = out := by cases h; exact ho
            subst hq
            exact x_iret hx hb hr hlk rfl rfl dX10_towards_94
        · replace h := (if_neg hc103).symm.trans h
          refine lv_iload_n hx hb dX10_towards_72 rfl (lv_at hl 1 rfl) ?_
          refine lv_if_le (tgt := 80) hx hb dX10_towards_73 (by decide) (fun hc105 => ?_) (fun hc105 => ?_)
          · replace h := (if_pos hc105).symm.trans h
            refine lv_iconst (v := 3) hx hb dX10_towards_80 (by decide) ?_
            refine lv_goto (tgt := 94) hx hb dX10_towards_81 (by decide) ?_
            have hq : 3 = out := by cases h; exact ho
            subst hq
            exact x_iret hx hb hr hlk rfl rfl dX10_towards_94
          · replace h := (if_neg hc105).symm.trans h
            refine lv_iconst (v := 1) hx hb dX10_towards_76 (by decide) ?_
            refine lv_goto (tgt := 94) hx hb dX10_towards_77 (by decide) ?_
            have hq : 1 = out := by cases h; exact ho
            subst hq
            exact x_iret hx hb hr hlk rfl rfl dX10_towards_94
      · replace h := (if_neg hc102).symm.trans h
        refine lv_iload_n hx hb dX10_towards_57 rfl (lv_at hl 0 rfl) ?_
        refine lv_if_le (tgt := 65) hx hb dX10_towards_58 (by decide) (fun hc106 => ?_) (fun hc106 => ?_)
        · replace h := (if_pos hc106).symm.trans h
          refine lv_bipush (v := 6) hx hb dX10_towards_65 (by decide) ?_
          have hq : 6 = out := by cases h; exact ho
          subst hq
          exact x_iret hx hb hr hlk rfl rfl dX10_towards_67
        · replace h := (if_neg hc106).symm.trans h
          refine lv_iconst (v := 2) hx hb dX10_towards_61 (by decide) ?_
          refine lv_goto (tgt := 67) hx hb dX10_towards_62 (by decide) ?_
          have hq : 2 = out := by cases h; exact ho
          subst hq
          exact x_iret hx hb hr hlk rfl rfl dX10_towards_67
    · replace h := (if_neg hc101).symm.trans h
      refine lv_iload_n hx hb dX10_towards_40 rfl (lv_at hl 1 rfl) ?_
      refine lv_if_le (tgt := 48) hx hb dX10_towards_41 (by decide) (fun hc107 => ?_) (fun hc107 => ?_)
      · replace h := (if_pos hc107).symm.trans h
        refine lv_iconst (v := 4) hx hb dX10_towards_48 (by decide) ?_
        have hq : 4 = out := by cases h; exact ho
        subst hq
        exact x_iret hx hb hr hlk rfl rfl dX10_towards_49
      · replace h := (if_neg hc107).symm.trans h
        refine lv_iconst (v := 0) hx hb dX10_towards_44 (by decide) ?_
        refine lv_goto (tgt := 49) hx hb dX10_towards_45 (by decide) ?_
        have hq : 0 = out := by cases h; exact ho
        subst hq
        exact x_iret hx hb hr hlk rfl rfl dX10_towards_49
  have J21 : ∀ (v0 : Int32) (v1 : Int32) (v2 : Int32) (t0 : Int32) (ls : Array Slot), lv_has ls 4 [(0, .int v0), (1, .int v1), (2, .int v2)] → ∀ o : Int32, mX10_towards_b21  v0 v1 v2 t0 = some o → (fun z => z = out) o → xW p l e ({ frames := 0, cells := 0, slots := 0, locals := 0 }) s m [.int p0, .int p1] below meth c (xQi s.heap (out)) (F0 m 21 ls [.int t0]) := by
    intro v0 v1 v2 t0 ls hl o h ho
    unfold mX10_towards_b21 at h
    refine lv_istore_n (lv' := [(3, .int t0), (0, .int v0), (1, .int v1), (2, .int v2)]) hx hb dX10_towards_21 rfl hl (by decide) rfl (fun ls hl => ?_)
    refine lv_iload_n hx hb dX10_towards_22 rfl (lv_at hl 3 rfl) ?_
    refine lv_if_ne (tgt := 33) hx hb dX10_towards_23 (by decide) (fun hc208 => ?_) (fun hc208 => ?_)
    · replace h := (if_neg hc208).symm.trans h
      exact J33 v0 v1 v2 t0 ls (lv_sub hl [1, 2, 3, 0] rfl) _ h ho
    · replace h := (if_pos hc208).symm.trans h
      refine lv_iload_n hx hb dX10_towards_26 rfl (lv_at hl 0 rfl) ?_
      refine lv_if_ne (tgt := 33) hx hb dX10_towards_27 (by decide) (fun hc209 => ?_) (fun hc209 => ?_)
      · replace h := (if_neg hc209).symm.trans h
        exact J33 v0 v1 v2 t0 ls (lv_sub hl [1, 2, 3, 0] rfl) _ h ho
      · replace h := (if_pos hc209).symm.trans h
        refine lv_bipush (v := (-6)) hx hb dX10_towards_30 (by decide) ?_
        have hq : (-6) = out := by cases h; exact ho
        clear J33
        subst hq
        exact x_iret hx hb hr hlk rfl rfl dX10_towards_32
  have J10 : ∀ (v0 : Int32) (v1 : Int32) (t0 : Int32) (ls : Array Slot), lv_has ls 4 [(0, .int v0), (1, .int v1)] → ∀ o : Int32, mX10_towards_b10  v0 v1 t0 = some o → (fun z => z = out) o → xW p l e ({ frames := 0, cells := 0, slots := 0, locals := 0 }) s m [.int p0, .int p1] below meth c (xQi s.heap (out)) (F0 m 10 ls [.int t0]) := by
    intro v0 v1 t0 ls hl o h ho
    unfold mX10_towards_b10 at h
    refine lv_istore_n (lv' := [(2, .int t0), (0, .int v0), (1, .int v1)]) hx hb dX10_towards_10 rfl hl (by decide) rfl (fun ls hl => ?_)
    refine lv_iload_n hx hb dX10_towards_11 rfl (lv_at hl 2 rfl) ?_
    refine lv_if_ge (tgt := 20) hx hb dX10_towards_12 (by decide) (fun hc310 => ?_) (fun hc310 => ?_)
    · replace h := (if_pos hc310).symm.trans h
      refine lv_iload_n hx hb dX10_towards_20 rfl (lv_at hl 2 rfl) ?_
      exact J21 v0 v1 t0 v1 ls (lv_sub hl [1, 2, 0] rfl) _ h ho
    · replace h := (if_neg hc310).symm.trans h
      refine lv_iload_n hx hb dX10_towards_15 rfl (lv_at hl 2 rfl) ?_
      refine lv_ineg hx hb dX10_towards_16 ?_
      refine lv_goto (tgt := 21) hx hb dX10_towards_17 (by decide) ?_
      exact J21 v0 v1 t0 ((-v1)) ls (lv_sub hl [1, 2, 0] rfl) _ h ho
  unfold mX10_towards at h
  refine lv_iload_n hx hb dX10_towards_0 rfl (lv_at hl 0 rfl) ?_
  refine lv_if_ge (tgt := 9) hx hb dX10_towards_1 (by decide) (fun hc501 => ?_) (fun hc501 => ?_)
  · replace h := (if_pos hc501).symm.trans h
    refine lv_iload_n hx hb dX10_towards_9 rfl (lv_at hl 0 rfl) ?_
    exact J10 p0 p1 p0 ls (lv_sub hl [0, 1] rfl) _ h ho
  · replace h := (if_neg hc501).symm.trans h
    refine lv_iload_n hx hb dX10_towards_4 rfl (lv_at hl 0 rfl) ?_
    refine lv_ineg hx hb dX10_towards_5 ?_
    refine lv_goto (tgt := 10) hx hb dX10_towards_6 (by decide) ?_
    exact J10 p0 p1 ((-p0)) ls (lv_sub hl [0, 1] rfl) _ h ho
noncomputable def mX10_fits_b90 (care : Int32) (glassX : Nat → Int32) (glassY : Nat → Int32) (glassPress : Nat → Int32) (glassWind : Nat → Int32) (v1 : Int32) (v5 : Int32) (v6 : Int32) (t0 : Int32) (t1 : Int32) : Option (Bool) :=
  x_need (x_in v1 4) ((mX10_apart ((t0 - t1)) ((glassPress (Int32.toNatClampNeg v1)))).bind (fun r102 => if care < r102 then (some false) else ((mX10_towards v5 v6).bind (fun r104 => x_need (x_in v1 4) (if r104 = (((glassWind (Int32.toNatClampNeg v1)) + 2) - ((glassWind (Int32.toNatClampNeg v1)) + 2) / 8 * 8) then (some true) else (some false))))))
noncomputable def mX10_fits_b62 (care : Int32) (glassX : Nat → Int32) (glassY : Nat → Int32) (glassPress : Nat → Int32) (glassWind : Nat → Int32) (v1 : Int32) (v4 : Int32) (v5 : Int32) (v6 : Int32) (t0 : Int32) : Option (Bool) :=
  if 0 ≤ ((10 * v4) - (8 * t0)) then (mX10_fits_b90 care glassX glassY glassPress glassWind v1 v5 v6 90 (((10 * v4) - (8 * t0)))) else (mX10_fits_b90 care glassX glassY glassPress glassWind v1 v5 v6 90 0)
noncomputable def mX10_fits (care : Int32) (glassX : Nat → Int32) (glassY : Nat → Int32) (glassPress : Nat → Int32) (glassWind : Nat → Int32) (p0 : Int32) (p1 : Int32) (p2 : Int32) (p3 : Int32) : Option (Bool) :=
  x_need (x_in p0 4) (x_need (x_in p0 4) (x_need (x_in p0 4) ((mX10_apart p1 ((glassX (Int32.toNatClampNeg p0)))).bind (fun r504 => x_need (x_in p0 4) ((mX10_apart p2 ((glassY (Int32.toNatClampNeg p0)))).bind (fun r506 => if r506 ≤ r504 then (mX10_fits_b62 care glassX glassY glassPress glassWind p0 p3 ((p1 - (glassX (Int32.toNatClampNeg p0)))) ((p2 - (glassY (Int32.toNatClampNeg p0)))) r504) else (x_need (x_in p0 4) ((mX10_apart p2 ((glassY (Int32.toNatClampNeg p0)))).bind (fun r509 => mX10_fits_b62 care glassX glassY glassPress glassWind p0 p3 ((p1 - (glassX (Int32.toNatClampNeg p0)))) ((p2 - (glassY (Int32.toNatClampNeg p0)))) r509)))))))))
set_option maxHeartbeats 4000000 in
set_option maxRecDepth 100000 in
theorem kX10_fits (l : Launch) (G : xG) (H0 : Heap) {q_this q_years q_months q_presses q_winds q_skies q_rains q_wires q_signs q_cases q_caseFrom q_caseTells q_testAsks q_testHow q_testNumber q_glassX q_glassY q_glassPress q_glassWind q_dry q_value q_doing q_kept q_isKept : Nat} {mind : Int32} {needle : Int32} {stick : Int32} {days : Int32} {signMany : Int32} {keys : Int32} {weight : Int32} {care : Int32} {scoreSum : Int64} {scoreDays : Int64} {triedSpoken : Int32} {triedRain : Int32} {triedTaken : Int32} {triedBoth : Int32} {glasses : Int32} {keptAt : Int32} {isWriting : Int32} {glassX : Nat → Int32} {glassY : Nat → Int32} {glassPress : Nat → Int32} {glassWind : Nat → Int32} {p0 : Int32} {p1 : Int32} {p2 : Int32} {p3 : Int32} (hP : va_P (xD G) vwCl [(q_this, .inr (10, [.int mind, .int needle, .int stick, .ref q_years, .ref q_months, .ref q_presses, .ref q_winds, .ref q_skies, .ref q_rains, .ref q_wires, .int days, .ref q_signs, .int signMany, .ref q_cases, .ref q_caseFrom, .ref q_caseTells, .ref q_testAsks, .ref q_testHow, .ref q_testNumber, .int keys, .int weight, .int care, .long scoreSum, .long scoreDays, .int triedSpoken, .int triedRain, .int triedTaken, .int triedBoth, .ref q_glassX, .ref q_glassY, .ref q_glassPress, .ref q_glassWind, .int glasses, .ref q_dry, .ref q_value, .ref q_doing, .ref q_kept, .ref q_isKept, .int keptAt, .int isWriting])), (q_glassX, .inl (xy G 0, 4, .inl glassX)), (q_glassY, .inl (xy G 0, 4, .inl glassY)), (q_glassPress, .inl (xy G 0, 4, .inl glassPress)), (q_glassWind, .inl (xy G 0, 4, .inl glassWind))] H0) {out : Bool} (h : mX10_fits care glassX glassY glassPress glassWind p0 p1 p2 p3 = some out) : Met l yX10_fits wsX10_fits ({ frames := 1, cells := 0, slots := 0, locals := 23 }) (xPc G H0 [.ref q_this, .int p0, .int p1, .int p2, .int p3]) (xQi H0 (xb out)) 0 0 xN := by
  refine x_met (by decide) rfl (Nat.le_of_ble_eq_true rfl) ?_
  intro p e s m below meth c ls hH hA hl
  obtain ⟨hx, hb, hr, hlk, hml, hown, hts, hE⟩ := hA
  subst hH
  have hown : s.vm.findClass RX10 = some m.cls := hown
  have hl : lv_has ls 10 [(0, .ref q_this), (1, .int p0), (2, .int p1), (3, .int p2), (4, .int p3)] := hl
  have hS : va_S xN s.heap s.heap [] := va_S.rf
  have ho : out = out := rfl
  have J90 : ∀ (v1 : Int32) (v5 : Int32) (v6 : Int32) (t0 : Int32) (t1 : Int32) (ls : Array Slot), lv_has ls 10 [(0, .ref q_this), (1, .int v1), (5, .int v5), (6, .int v6)] → ∀ o : Bool, mX10_fits_b90 care glassX glassY glassPress glassWind v1 v5 v6 t0 t1 = some o → (fun z => z = out) o → xW p l e ({ frames := 1, cells := 0, slots := 0, locals := 23 }) s m [.ref q_this, .int p0, .int p1, .int p2, .int p3] below meth c (xQi s.heap (xb out)) (F0 m 90 ls [.int t1, .int t0]) := by
    intro v1 v5 v6 t0 t1 ls hl o h ho
    unfold mX10_fits_b90 at h
    refine lv_isub hx hb dX10_fits_90 ?_
    refine lv_istore (lv' := [(9, .int (t0 - t1)), (0, .ref q_this), (1, .int v1), (5, .int v5), (6, .int v6)]) hx hb dX10_fits_91 hl (by decide) rfl (fun ls hl => ?_)
    refine lv_iload hx hb dX10_fits_93 (lv_at hl 0 rfl) ?_
    refine lv_aload_n hx hb dX10_fits_95 rfl (lv_at hl 1 rfl) ?_
    refine va_get (D := xD G) (ci := 10) (v := .ref q_glassPress) (C := RX10) (T := TX10) (N := 40) hx hb hts (fun w9 h9 => (List.mem_cons_of_mem _ (List.mem_append_right _ h9))) hown hE.1 hP 0 rfl rfl 30 (by decide) (hts (.fieldLink RX10 58 "FallingGlassModel" "glassPress" "[I") (List.mem_of_getElem? (i := 3) rfl)) (fun _ h9 => h9) rfl dX10_fits_96 ?_
    refine lv_iload_n hx hb dX10_fits_99 rfl (lv_at hl 2 rfl) ?_
    obtain ⟨hi101, h⟩ := x_needs h
    refine va_iald (D := xD G) hx hb hE.1 hP 3 0 rfl rfl hi101 dX10_fits_100 ?_
    obtain ⟨r102, hr102, h⟩ := x_bind h
    refine x_calli (va_runS (As := [.int (t0 - t1), .int (glassPress (Int32.toNatClampNeg v1))]) (rest := []) ⟨hx, hb, hml, hown, hts⟩ (kX10_apart l G s.heap hr102) (va_cwS 2 hts gX10_fits_X10_apart rfl rfl rfl (by decide +kernel) ⟨Nat.le_of_ble_eq_true rfl, Nat.le_of_ble_eq_true rfl⟩) (x_preS hE hS) rfl rfl hl.1 rfl (lv_room (Nat.le_of_ble_eq_true rfl)) dX10_fits_101 ⟨Nat.le_of_ble_eq_true rfl, Nat.le_of_ble_eq_true rfl⟩) ?_
    refine lv_aload_n hx hb dX10_fits_104 rfl (lv_at hl 1 rfl) ?_
    refine va_get (D := xD G) (ci := 10) (v := .int care) (C := RX10) (T := TX10) (N := 40) hx hb hts (fun w9 h9 => (List.mem_cons_of_mem _ (List.mem_append_right _ h9))) hown hE.1 hP 0 rfl rfl 21 (by decide) (hts (.fieldLink RX10 96 "FallingGlassModel" "care" "I") (List.mem_of_getElem? (i := 4) rfl)) (fun _ h9 => h9) rfl dX10_fits_105 ?_
    refine lv_icmp_gt (tgt := 136) hx hb dX10_fits_108 (by decide) (fun hc103 => ?_) (fun hc103 => ?_)
    · replace h := (if_pos hc103).symm.trans h
      refine lv_iconst (v := 0) hx hb dX10_fits_136 (by decide) ?_
      have hq : false = out := by cases h; exact ho
      subst hq
      exact x_zret (b := false) hx hb hr hlk rfl rfl rfl dX10_fits_137
    · replace h := (if_neg hc103).symm.trans h
      refine lv_iload hx hb dX10_fits_111 (lv_at hl 3 rfl) ?_
      refine lv_iload hx hb dX10_fits_113 (lv_at hl 4 rfl) ?_
      obtain ⟨r104, hr104, h⟩ := x_bind h
      refine x_calli (va_runS (As := [.int v5, .int v6]) (rest := []) ⟨hx, hb, hml, hown, hts⟩ (kX10_towards l G s.heap hr104) (va_cwS 2 hts gX10_fits_X10_towards rfl rfl rfl (by decide +kernel) ⟨Nat.le_of_ble_eq_true rfl, Nat.le_of_ble_eq_true rfl⟩) (x_preS hE hS) rfl rfl hl.1 rfl (lv_room (Nat.le_of_ble_eq_true rfl)) dX10_fits_115 ⟨Nat.le_of_ble_eq_true rfl, Nat.le_of_ble_eq_true rfl⟩) ?_
      refine lv_aload_n hx hb dX10_fits_118 rfl (lv_at hl 1 rfl) ?_
      refine va_get (D := xD G) (ci := 10) (v := .ref q_glassWind) (C := RX10) (T := TX10) (N := 40) hx hb hts (fun w9 h9 => (List.mem_cons_of_mem _ (List.mem_append_right _ h9))) hown hE.1 hP 0 rfl rfl 31 (by decide) (hts (.fieldLink RX10 61 "FallingGlassModel" "glassWind" "[I") (List.mem_of_getElem? (i := 5) rfl)) (fun _ h9 => h9) rfl dX10_fits_119 ?_
      refine lv_iload_n hx hb dX10_fits_122 rfl (lv_at hl 2 rfl) ?_
      obtain ⟨hi105, h⟩ := x_needs h
      refine va_iald (D := xD G) hx hb hE.1 hP 4 0 rfl rfl hi105 dX10_fits_123 ?_
      refine lv_iconst (v := 2) hx hb dX10_fits_124 (by decide) ?_
      refine lv_iadd hx hb dX10_fits_125 ?_
      refine lv_bipush (v := 8) hx hb dX10_fits_126 (by decide) ?_
      refine lv_irem hx hb dX10_fits_128 (by decide) ?_
      refine lv_icmp_ne (tgt := 136) hx hb dX10_fits_129 (by decide) (fun hc106 => ?_) (fun hc106 => ?_)
      · replace h := (if_neg hc106).symm.trans h
        refine lv_iconst (v := 0) hx hb dX10_fits_136 (by decide) ?_
        have hq : false = out := by cases h; exact ho
        subst hq
        exact x_zret (b := false) hx hb hr hlk rfl rfl rfl dX10_fits_137
      · replace h := (if_pos hc106).symm.trans h
        refine lv_iconst (v := 1) hx hb dX10_fits_132 (by decide) ?_
        refine lv_goto (tgt := 137) hx hb dX10_fits_133 (by decide) ?_
        have hq : true = out := by cases h; exact ho
        subst hq
        exact x_zret (b := true) hx hb hr hlk rfl rfl rfl dX10_fits_137
  have J62 : ∀ (v1 : Int32) (v4 : Int32) (v5 : Int32) (v6 : Int32) (t0 : Int32) (ls : Array Slot), lv_has ls 10 [(0, .ref q_this), (1, .int v1), (4, .int v4), (5, .int v5), (6, .int v6)] → ∀ o : Bool, mX10_fits_b62 care glassX glassY glassPress glassWind v1 v4 v5 v6 t0 = some o → (fun z => z = out) o → xW p l e ({ frames := 1, cells := 0, slots := 0, locals := 23 }) s m [.ref q_this, .int p0, .int p1, .int p2, .int p3] below meth c (xQi s.heap (xb out)) (F0 m 62 ls [.int t0]) := by
    intro v1 v4 v5 v6 t0 ls hl o h ho
    unfold mX10_fits_b62 at h
    refine lv_istore (lv' := [(7, .int t0), (0, .ref q_this), (1, .int v1), (4, .int v4), (5, .int v5), (6, .int v6)]) hx hb dX10_fits_62 hl (by decide) rfl (fun ls hl => ?_)
    refine lv_bipush (v := 10) hx hb dX10_fits_64 (by decide) ?_
    refine lv_iload hx hb dX10_fits_66 (lv_at hl 3 rfl) ?_
    refine lv_imul hx hb dX10_fits_68 ?_
    refine lv_bipush (v := 8) hx hb dX10_fits_69 (by decide) ?_
    refine lv_iload hx hb dX10_fits_71 (lv_at hl 0 rfl) ?_
    refine lv_imul hx hb dX10_fits_73 ?_
    refine lv_isub hx hb dX10_fits_74 ?_
    refine lv_istore (lv' := [(8, .int ((10 * v4) - (8 * t0))), (7, .int t0), (0, .ref q_this), (1, .int v1), (4, .int v4), (5, .int v5), (6, .int v6)]) hx hb dX10_fits_75 hl (by decide) rfl (fun ls hl => ?_)
    refine lv_bipush (v := 90) hx hb dX10_fits_77 (by decide) ?_
    refine lv_iload hx hb dX10_fits_79 (lv_at hl 0 rfl) ?_
    refine lv_if_ge (tgt := 88) hx hb dX10_fits_81 (by decide) (fun hc207 => ?_) (fun hc207 => ?_)
    · replace h := (if_pos hc207).symm.trans h
      refine lv_iload hx hb dX10_fits_88 (lv_at hl 0 rfl) ?_
      exact J90 v1 v5 v6 90 (((10 * v4) - (8 * t0))) ls (lv_sub hl [2, 3, 5, 6] rfl) _ h ho
    · replace h := (if_neg hc207).symm.trans h
      refine lv_iconst (v := 0) hx hb dX10_fits_84 (by decide) ?_
      refine lv_goto (tgt := 90) hx hb dX10_fits_85 (by decide) ?_
      exact J90 v1 v5 v6 90 0 ls (lv_sub hl [2, 3, 5, 6] rfl) _ h ho
  unfold mX10_fits at h
  refine lv_iload_n hx hb dX10_fits_0 rfl (lv_at hl 2 rfl) ?_
  refine lv_aload_n hx hb dX10_fits_1 rfl (lv_at hl 0 rfl) ?_
  refine va_get (D := xD G) (ci := 10) (v := .ref q_glassX) (C := RX10) (T := TX10) (N := 40) hx hb hts (fun w9 h9 => (List.mem_cons_of_mem _ (List.mem_append_right _ h9))) hown hE.1 hP 0 rfl rfl 28 (by decide) (hts (.fieldLink RX10 52 "FallingGlassModel" "glassX" "[I") (List.mem_of_getElem? (i := 1) rfl)) (fun _ h9 => h9) rfl dX10_fits_2 ?_
  refine lv_iload_n hx hb dX10_fits_5 rfl (lv_at hl 1 rfl) ?_
  obtain ⟨hi501, h⟩ := x_needs h
  refine va_iald (D := xD G) hx hb hE.1 hP 1 0 rfl rfl hi501 dX10_fits_6 ?_
  refine lv_isub hx hb dX10_fits_7 ?_
  refine lv_istore (lv' := [(5, .int (p1 - (glassX (Int32.toNatClampNeg p0)))), (0, .ref q_this), (1, .int p0), (2, .int p1), (3, .int p2), (4, .int p3)]) hx hb dX10_fits_8 hl (by decide) rfl (fun ls hl => ?_)
  refine lv_iload_n hx hb dX10_fits_10 rfl (lv_at hl 4 rfl) ?_
  refine lv_aload_n hx hb dX10_fits_11 rfl (lv_at hl 1 rfl) ?_
  refine va_get (D := xD G) (ci := 10) (v := .ref q_glassY) (C := RX10) (T := TX10) (N := 40) hx hb hts (fun w9 h9 => (List.mem_cons_of_mem _ (List.mem_append_right _ h9))) hown hE.1 hP 0 rfl rfl 29 (by decide) (hts (.fieldLink RX10 55 "FallingGlassModel" "glassY" "[I") (List.mem_of_getElem? (i := 2) rfl)) (fun _ h9 => h9) rfl dX10_fits_12 ?_
  refine lv_iload_n hx hb dX10_fits_15 rfl (lv_at hl 2 rfl) ?_
  obtain ⟨hi502, h⟩ := x_needs h
  refine va_iald (D := xD G) hx hb hE.1 hP 2 0 rfl rfl hi502 dX10_fits_16 ?_
  refine lv_isub hx hb dX10_fits_17 ?_
  refine lv_istore (lv' := [(6, .int (p2 - (glassY (Int32.toNatClampNeg p0)))), (5, .int (p1 - (glassX (Int32.toNatClampNeg p0)))), (0, .ref q_this), (1, .int p0), (2, .int p1), (3, .int p2), (4, .int p3)]) hx hb dX10_fits_18 hl (by decide) rfl (fun ls hl => ?_)
  refine lv_iload_n hx hb dX10_fits_20 rfl (lv_at hl 4 rfl) ?_
  refine lv_aload_n hx hb dX10_fits_21 rfl (lv_at hl 2 rfl) ?_
  refine va_get (D := xD G) (ci := 10) (v := .ref q_glassX) (C := RX10) (T := TX10) (N := 40) hx hb hts (fun w9 h9 => (List.mem_cons_of_mem _ (List.mem_append_right _ h9))) hown hE.1 hP 0 rfl rfl 28 (by decide) (hts (.fieldLink RX10 52 "FallingGlassModel" "glassX" "[I") (List.mem_of_getElem? (i := 1) rfl)) (fun _ h9 => h9) rfl dX10_fits_22 ?_
  refine lv_iload_n hx hb dX10_fits_25 rfl (lv_at hl 3 rfl) ?_
  obtain ⟨hi503, h⟩ := x_needs h
  refine va_iald (D := xD G) hx hb hE.1 hP 1 0 rfl rfl hi503 dX10_fits_26 ?_
  obtain ⟨r504, hr504, h⟩ := x_bind h
  refine x_calli (va_runS (As := [.int p1, .int (glassX (Int32.toNatClampNeg p0))]) (rest := []) ⟨hx, hb, hml, hown, hts⟩ (kX10_apart l G s.heap hr504) (va_cwS 2 hts gX10_fits_X10_apart rfl rfl rfl (by decide +kernel) ⟨Nat.le_of_ble_eq_true rfl, Nat.le_of_ble_eq_true rfl⟩) (x_preS hE hS) rfl rfl hl.1 rfl (lv_room (Nat.le_of_ble_eq_true rfl)) dX10_fits_27 ⟨Nat.le_of_ble_eq_true rfl, Nat.le_of_ble_eq_true rfl⟩) ?_
  refine lv_istore (lv' := [(7, .int r504), (6, .int (p2 - (glassY (Int32.toNatClampNeg p0)))), (5, .int (p1 - (glassX (Int32.toNatClampNeg p0)))), (0, .ref q_this), (1, .int p0), (2, .int p1), (3, .int p2), (4, .int p3)]) hx hb dX10_fits_30 hl (by decide) rfl (fun ls hl => ?_)
  refine lv_iload_n hx hb dX10_fits_32 rfl (lv_at hl 6 rfl) ?_
  refine lv_aload_n hx hb dX10_fits_33 rfl (lv_at hl 3 rfl) ?_
  refine va_get (D := xD G) (ci := 10) (v := .ref q_glassY) (C := RX10) (T := TX10) (N := 40) hx hb hts (fun w9 h9 => (List.mem_cons_of_mem _ (List.mem_append_right _ h9))) hown hE.1 hP 0 rfl rfl 29 (by decide) (hts (.fieldLink RX10 55 "FallingGlassModel" "glassY" "[I") (List.mem_of_getElem? (i := 2) rfl)) (fun _ h9 => h9) rfl dX10_fits_34 ?_
  refine lv_iload_n hx hb dX10_fits_37 rfl (lv_at hl 4 rfl) ?_
  obtain ⟨hi505, h⟩ := x_needs h
  refine va_iald (D := xD G) hx hb hE.1 hP 2 0 rfl rfl hi505 dX10_fits_38 ?_
  obtain ⟨r506, hr506, h⟩ := x_bind h
  refine x_calli (va_runS (As := [.int p2, .int (glassY (Int32.toNatClampNeg p0))]) (rest := []) ⟨hx, hb, hml, hown, hts⟩ (kX10_apart l G s.heap hr506) (va_cwS 2 hts gX10_fits_X10_apart rfl rfl rfl (by decide +kernel) ⟨Nat.le_of_ble_eq_true rfl, Nat.le_of_ble_eq_true rfl⟩) (x_preS hE hS) rfl rfl hl.1 rfl (lv_room (Nat.le_of_ble_eq_true rfl)) dX10_fits_39 ⟨Nat.le_of_ble_eq_true rfl, Nat.le_of_ble_eq_true rfl⟩) ?_
  refine lv_iload hx hb dX10_fits_42 (lv_at hl 0 rfl) ?_
  refine lv_icmp_le (tgt := 60) hx hb dX10_fits_44 (by decide) (fun hc507 => ?_) (fun hc507 => ?_)
  · replace h := (if_pos hc507).symm.trans h
    refine lv_iload hx hb dX10_fits_60 (lv_at hl 0 rfl) ?_
    exact J62 p0 p3 ((p1 - (glassX (Int32.toNatClampNeg p0)))) ((p2 - (glassY (Int32.toNatClampNeg p0)))) r504 ls (lv_sub hl [3, 4, 7, 2, 1] rfl) _ h ho
  · replace h := (if_neg hc507).symm.trans h
    refine lv_iload_n hx hb dX10_fits_47 rfl (lv_at hl 6 rfl) ?_
    refine lv_aload_n hx hb dX10_fits_48 rfl (lv_at hl 3 rfl) ?_
    refine va_get (D := xD G) (ci := 10) (v := .ref q_glassY) (C := RX10) (T := TX10) (N := 40) hx hb hts (fun w9 h9 => (List.mem_cons_of_mem _ (List.mem_append_right _ h9))) hown hE.1 hP 0 rfl rfl 29 (by decide) (hts (.fieldLink RX10 55 "FallingGlassModel" "glassY" "[I") (List.mem_of_getElem? (i := 2) rfl)) (fun _ h9 => h9) rfl dX10_fits_49 ?_
    refine lv_iload_n hx hb dX10_fits_52 rfl (lv_at hl 4 rfl) ?_
    obtain ⟨hi508, h⟩ := x_needs h
    refine va_iald (D := xD G) hx hb hE.1 hP 2 0 rfl rfl hi508 dX10_fits_53 ?_
    obtain ⟨r509, hr509, h⟩ := x_bind h
    refine x_calli (va_runS (As := [.int p2, .int (glassY (Int32.toNatClampNeg p0))]) (rest := []) ⟨hx, hb, hml, hown, hts⟩ (kX10_apart l G s.heap hr509) (va_cwS 2 hts gX10_fits_X10_apart rfl rfl rfl (by decide +kernel) ⟨Nat.le_of_ble_eq_true rfl, Nat.le_of_ble_eq_true rfl⟩) (x_preS hE hS) rfl rfl hl.1 rfl (lv_room (Nat.le_of_ble_eq_true rfl)) dX10_fits_54 ⟨Nat.le_of_ble_eq_true rfl, Nat.le_of_ble_eq_true rfl⟩) ?_
    refine lv_goto (tgt := 62) hx hb dX10_fits_57 (by decide) ?_
    exact J62 p0 p3 ((p1 - (glassX (Int32.toNatClampNeg p0)))) ((p2 - (glassY (Int32.toNatClampNeg p0)))) r509 ls (lv_sub hl [3, 4, 7, 2, 1] rfl) _ h ho
noncomputable def mX10_waysAt_b61 (care : Int32) (glasses : Int32) (glassX : Nat → Int32) (glassY : Nat → Int32) (glassPress : Nat → Int32) (glassWind : Nat → Int32) (v1 : Int32) (v2 : Int32) (v4 : Int32) (t0 : Int32) (t1 : Int32) : Option (((Int32) ⊕ (Int32 × Int32))) :=
  some (.inr ((t0 + t1), (v4 + 1)))
noncomputable def mX10_waysAt_b50 (care : Int32) (glasses : Int32) (glassX : Nat → Int32) (glassY : Nat → Int32) (glassPress : Nat → Int32) (glassWind : Nat → Int32) (v1 : Int32) (v2 : Int32) (v3 : Int32) (v4 : Int32) (v5 : Int32) : Option (((Int32) ⊕ (Int32 × Int32))) :=
  if v5 = 0 then (mX10_waysAt_b61 care glasses glassX glassY glassPress glassWind v1 v2 v4 v3 0) else (mX10_waysAt_b61 care glasses glassX glassY glassPress glassWind v1 v2 v4 v3 1)
noncomputable def mX10_waysAt_s18 (care : Int32) (glasses : Int32) (glassX : Nat → Int32) (glassY : Nat → Int32) (glassPress : Nat → Int32) (glassWind : Nat → Int32) (v1 : Int32) (v2 : Int32) (v3 : Int32) (v4 : Int32) (v5 : Int32) (v6 : Int32) : Option (((((Int32) ⊕ (Int32 × Int32))) ⊕ (Int32 × Int32))) :=
  if glasses ≤ v6 then (x_up (mX10_waysAt_b50 care glasses glassX glassY glassPress glassWind v1 v2 v3 v4 v5)) else (if v5 = 0 then (x_up (mX10_waysAt_b50 care glasses glassX glassY glassPress glassWind v1 v2 v3 v4 v5)) else ((mX10_fits care glassX glassY glassPress glassWind v6 v1 v2 v4).bind (fun r306 => some (.inr ((xb r306), (v6 + 1))))))
noncomputable def mX10_waysAt_b18 (care : Int32) (glasses : Int32) (glassX : Nat → Int32) (glassY : Nat → Int32) (glassPress : Nat → Int32) (glassWind : Nat → Int32) (v1 : Int32) (v2 : Int32) (v3 : Int32) (v4 : Int32) (v5 : Int32) (v6 : Int32) : Option (((Int32) ⊕ (Int32 × Int32))) :=
  x_loop (fun q : Int32 × Int32 => mX10_waysAt_s18 care glasses glassX glassY glassPress glassWind v1 v2 v3 v4 (q.1) (q.2)) (v5, v6)
noncomputable def mX10_waysAt_s5 (care : Int32) (glasses : Int32) (glassX : Nat → Int32) (glassY : Nat → Int32) (glassPress : Nat → Int32) (glassWind : Nat → Int32) (v1 : Int32) (v2 : Int32) (v3 : Int32) (v4 : Int32) : Option (((Int32) ⊕ (Int32 × Int32))) :=
  if 9 < v4 then (some (.inl v3)) else (mX10_waysAt_b18 care glasses glassX glassY glassPress glassWind v1 v2 v3 v4 1 0)
noncomputable def mX10_waysAt_b5 (care : Int32) (glasses : Int32) (glassX : Nat → Int32) (glassY : Nat → Int32) (glassPress : Nat → Int32) (glassWind : Nat → Int32) (v1 : Int32) (v2 : Int32) (v3 : Int32) (v4 : Int32) : Option (Int32) :=
  x_loop (fun q : Int32 × Int32 => mX10_waysAt_s5 care glasses glassX glassY glassPress glassWind v1 v2 (q.1) (q.2)) (v3, v4)
noncomputable def mX10_waysAt (care : Int32) (glasses : Int32) (glassX : Nat → Int32) (glassY : Nat → Int32) (glassPress : Nat → Int32) (glassWind : Nat → Int32) (p0 : Int32) (p1 : Int32) : Option (Int32) :=
  mX10_waysAt_b5 care glasses glassX glassY glassPress glassWind p0 p1 0 1
set_option maxHeartbeats 4000000 in
set_option maxRecDepth 100000 in
theorem kX10_waysAt (l : Launch) (G : xG) (H0 : Heap) {q_this q_years q_months q_presses q_winds q_skies q_rains q_wires q_signs q_cases q_caseFrom q_caseTells q_testAsks q_testHow q_testNumber q_glassX q_glassY q_glassPress q_glassWind q_dry q_value q_doing q_kept q_isKept : Nat} {mind : Int32} {needle : Int32} {stick : Int32} {days : Int32} {signMany : Int32} {keys : Int32} {weight : Int32} {care : Int32} {scoreSum : Int64} {scoreDays : Int64} {triedSpoken : Int32} {triedRain : Int32} {triedTaken : Int32} {triedBoth : Int32} {glasses : Int32} {keptAt : Int32} {isWriting : Int32} {glassX : Nat → Int32} {glassY : Nat → Int32} {glassPress : Nat → Int32} {glassWind : Nat → Int32} {p0 : Int32} {p1 : Int32} (hP : va_P (xD G) vwCl [(q_this, .inr (10, [.int mind, .int needle, .int stick, .ref q_years, .ref q_months, .ref q_presses, .ref q_winds, .ref q_skies, .ref q_rains, .ref q_wires, .int days, .ref q_signs, .int signMany, .ref q_cases, .ref q_caseFrom, .ref q_caseTells, .ref q_testAsks, .ref q_testHow, .ref q_testNumber, .int keys, .int weight, .int care, .long scoreSum, .long scoreDays, .int triedSpoken, .int triedRain, .int triedTaken, .int triedBoth, .ref q_glassX, .ref q_glassY, .ref q_glassPress, .ref q_glassWind, .int glasses, .ref q_dry, .ref q_value, .ref q_doing, .ref q_kept, .ref q_isKept, .int keptAt, .int isWriting])), (q_glassX, .inl (xy G 0, 4, .inl glassX)), (q_glassY, .inl (xy G 0, 4, .inl glassY)), (q_glassPress, .inl (xy G 0, 4, .inl glassPress)), (q_glassWind, .inl (xy G 0, 4, .inl glassWind))] H0) {out : Int32} (h : mX10_waysAt care glasses glassX glassY glassPress glassWind p0 p1 = some out) : Met l yX10_waysAt wsX10_waysAt ({ frames := 2, cells := 0, slots := 0, locals := 52 }) (xPc G H0 [.ref q_this, .int p0, .int p1]) (xQi H0 (out)) 0 0 xN := by
  refine x_met (by decide) rfl (Nat.le_of_ble_eq_true rfl) ?_
  intro p e s m below meth c ls hH hA hl
  obtain ⟨hx, hb, hr, hlk, hml, hown, hts, hE⟩ := hA
  subst hH
  have hown : s.vm.findClass RX10 = some m.cls := hown
  have hl : lv_has ls 7 [(0, .ref q_this), (1, .int p0), (2, .int p1)] := hl
  have hS : va_S xN s.heap s.heap [] := va_S.rf
  have ho : out = out := rfl
  have J5 : ∀ (v1 : Int32) (v2 : Int32) (v3 : Int32) (v4 : Int32) (ls : Array Slot), lv_has ls 7 [(0, .ref q_this), (1, .int v1), (2, .int v2), (3, .int v3), (4, .int v4)] → ∀ o : Int32, mX10_waysAt_b5 care glasses glassX glassY glassPress glassWind v1 v2 v3 v4 = some o → (fun z => z = out) o → xW p l e ({ frames := 2, cells := 0, slots := 0, locals := 52 }) s m [.ref q_this, .int p0, .int p1] below meth c (xQi s.heap (out)) (F0 m 5 ls []) := by
    intro v1 v2 v3 v4 ls hl o h ho
    unfold mX10_waysAt_b5 at h
    refine x_loop_walk (K := (fun z => z = out)) (motive := fun q : Int32 × Int32 => ∀ ls : Array Slot, lv_has ls 7 [(0, .ref q_this), (1, .int (v1)), (2, .int (v2)), (3, .int (q.1)), (4, .int (q.2))] → xW p l e ({ frames := 2, cells := 0, slots := 0, locals := 52 }) s m [.ref q_this, .int p0, .int p1] below meth c (xQi s.heap (out)) (F0 m 5 ls [])) ?_ h ho ls hl
    intro K1 e1 i1 q o h ho
    obtain ⟨v3, v4⟩ := q
    intro ls hl
    have hl : lv_has ls 7 [(0, .ref q_this), (1, .int v1), (2, .int v2), (3, .int v3), (4, .int v4)] := hl
    replace h : mX10_waysAt_s5 care glasses glassX glassY glassPress glassWind v1 v2 v3 v4 = some o := h
    unfold mX10_waysAt_s5 at h
    have J61 : ∀ (v4 : Int32) (t0 : Int32) (t1 : Int32) (ls : Array Slot), lv_has ls 7 [(0, .ref q_this), (1, .int v1), (2, .int v2), (4, .int v4)] → ∀ o : ((Int32) ⊕ (Int32 × Int32)), mX10_waysAt_b61 care glasses glassX glassY glassPress glassWind v1 v2 v4 t0 t1 = some o → K1 o → xW p l e ({ frames := 2, cells := 0, slots := 0, locals := 52 }) s m [.ref q_this, .int p0, .int p1] below meth c (xQi s.heap (out)) (F0 m 61 ls [.int t1, .int t0]) := by
      intro v4 t0 t1 ls hl o h ho
      unfold mX10_waysAt_b61 at h
      refine lv_iadd hx hb dX10_waysAt_61 ?_
      refine lv_istore_n (lv' := [(3, .int (t0 + t1)), (0, .ref q_this), (1, .int v1), (2, .int v2), (4, .int v4)]) hx hb dX10_waysAt_62 rfl hl (by decide) rfl (fun ls hl => ?_)
      refine lv_iinc (v := (v4 + 1)) (lv' := [(4, .int (v4 + 1)), (3, .int (t0 + t1)), (0, .ref q_this), (1, .int v1), (2, .int v2)]) hx hb dX10_waysAt_63 hl (k := 4) rfl rfl (by decide) rfl (fun ls hl => ?_)
      refine lv_goto (tgt := 5) hx hb dX10_waysAt_66 (by decide) ?_
      exact i1 ((t0 + t1), (v4 + 1)) (by cases h; exact ho) ls (lv_sub hl [2, 3, 4, 1, 0] rfl)
    have J50 : ∀ (v3 : Int32) (v4 : Int32) (v5 : Int32) (ls : Array Slot), lv_has ls 7 [(0, .ref q_this), (1, .int v1), (2, .int v2), (3, .int v3), (4, .int v4), (5, .int v5)] → ∀ o : ((Int32) ⊕ (Int32 × Int32)), mX10_waysAt_b50 care glasses glassX glassY glassPress glassWind v1 v2 v3 v4 v5 = some o → K1 o → xW p l e ({ frames := 2, cells := 0, slots := 0, locals := 52 }) s m [.ref q_this, .int p0, .int p1] below meth c (xQi s.heap (out)) (F0 m 50 ls []) := by
      intro v3 v4 v5 ls hl o h ho
      unfold mX10_waysAt_b50 at h
      refine lv_iload_n hx hb dX10_waysAt_50 rfl (lv_at hl 3 rfl) ?_
      refine lv_iload hx hb dX10_waysAt_51 (lv_at hl 5 rfl) ?_
      refine lv_if_eq (tgt := 60) hx hb dX10_waysAt_53 (by decide) (fun hc201 => ?_) (fun hc201 => ?_)
      · replace h := (if_pos hc201).symm.trans h
        refine lv_iconst (v := 0) hx hb dX10_waysAt_60 (by decide) ?_
        exact J61 v4 v3 0 ls (lv_sub hl [0, 1, 2, 4] rfl) _ h ho
      · replace h := (if_neg hc201).symm.trans h
        refine lv_iconst (v := 1) hx hb dX10_waysAt_56 (by decide) ?_
        refine lv_goto (tgt := 61) hx hb dX10_waysAt_57 (by decide) ?_
        exact J61 v4 v3 1 ls (lv_sub hl [0, 1, 2, 4] rfl) _ h ho
    have J18 : ∀ (v3 : Int32) (v4 : Int32) (v5 : Int32) (v6 : Int32) (ls : Array Slot), lv_has ls 7 [(0, .ref q_this), (1, .int v1), (2, .int v2), (3, .int v3), (4, .int v4), (5, .int v5), (6, .int v6)] → ∀ o : ((Int32) ⊕ (Int32 × Int32)), mX10_waysAt_b18 care glasses glassX glassY glassPress glassWind v1 v2 v3 v4 v5 v6 = some o → K1 o → xW p l e ({ frames := 2, cells := 0, slots := 0, locals := 52 }) s m [.ref q_this, .int p0, .int p1] below meth c (xQi s.heap (out)) (F0 m 18 ls []) := by
      intro v3 v4 v5 v6 ls hl o h ho
      unfold mX10_waysAt_b18 at h
      refine x_loop_walk (K := K1) (motive := fun q : Int32 × Int32 => ∀ ls : Array Slot, lv_has ls 7 [(0, .ref q_this), (1, .int (v1)), (2, .int (v2)), (3, .int (v3)), (4, .int (v4)), (5, .int (q.1)), (6, .int (q.2))] → xW p l e ({ frames := 2, cells := 0, slots := 0, locals := 52 }) s m [.ref q_this, .int p0, .int p1] below meth c (xQi s.heap (out)) (F0 m 18 ls [])) ?_ h ho ls hl
      intro K2 e2 i2 q o h ho
      obtain ⟨v5, v6⟩ := q
      intro ls hl
      have hl : lv_has ls 7 [(0, .ref q_this), (1, .int v1), (2, .int v2), (3, .int v3), (4, .int v4), (5, .int v5), (6, .int v6)] := hl
      replace h : mX10_waysAt_s18 care glasses glassX glassY glassPress glassWind v1 v2 v3 v4 v5 v6 = some o := h
      unfold mX10_waysAt_s18 at h
      refine lv_iload hx hb dX10_waysAt_18 (lv_at hl 6 rfl) ?_
      refine lv_aload_n hx hb dX10_waysAt_20 rfl (lv_at hl 0 rfl) ?_
      refine va_get (D := xD G) (ci := 10) (v := .int glasses) (C := RX10) (T := TX10) (N := 40) hx hb hts (fun w9 h9 => (List.mem_cons_of_mem _ (List.mem_append_right _ h9))) hown hE.1 hP 0 rfl rfl 32 (by decide) (hts (.fieldLink RX10 262 "FallingGlassModel" "glasses" "I") (List.mem_of_getElem? (i := 1) rfl)) (fun _ h9 => h9) rfl dX10_waysAt_21 ?_
      refine lv_icmp_ge (tgt := 50) hx hb dX10_waysAt_24 (by decide) (fun hc302 => ?_) (fun hc302 => ?_)
      · replace h := (if_pos hc302).symm.trans h
        obtain ⟨o303, ho303, rfl⟩ := x_up_some h
        replace h := ho303
        exact J50 v3 v4 v5 ls (lv_sub hl [0, 1, 2, 3, 4, 5] rfl) _ h (e2 _ ho)
      · replace h := (if_neg hc302).symm.trans h
        refine lv_iload hx hb dX10_waysAt_27 (lv_at hl 5 rfl) ?_
        refine lv_if_eq (tgt := 50) hx hb dX10_waysAt_29 (by decide) (fun hc304 => ?_) (fun hc304 => ?_)
        · replace h := (if_pos hc304).symm.trans h
          obtain ⟨o305, ho305, rfl⟩ := x_up_some h
          replace h := ho305
          exact J50 v3 v4 v5 ls (lv_sub hl [0, 1, 2, 3, 4, 5] rfl) _ h (e2 _ ho)
        · replace h := (if_neg hc304).symm.trans h
          refine lv_aload_n hx hb dX10_waysAt_32 rfl (lv_at hl 0 rfl) ?_
          refine lv_iload hx hb dX10_waysAt_33 (lv_at hl 6 rfl) ?_
          refine lv_iload_n hx hb dX10_waysAt_35 rfl (lv_at hl 1 rfl) ?_
          refine lv_iload_n hx hb dX10_waysAt_36 rfl (lv_at hl 2 rfl) ?_
          refine lv_iload hx hb dX10_waysAt_37 (lv_at hl 4 rfl) ?_
          obtain ⟨r306, hr306, h⟩ := x_bind h
          have hPr306 : va_P (xD G) vwCl [(q_this, .inr (10, [.int mind, .int needle, .int stick, .ref q_years, .ref q_months, .ref q_presses, .ref q_winds, .ref q_skies, .ref q_rains, .ref q_wires, .int days, .ref q_signs, .int signMany, .ref q_cases, .ref q_caseFrom, .ref q_caseTells, .ref q_testAsks, .ref q_testHow, .ref q_testNumber, .int keys, .int weight, .int care, .long scoreSum, .long scoreDays, .int triedSpoken, .int triedRain, .int triedTaken, .int triedBoth, .ref q_glassX, .ref q_glassY, .ref q_glassPress, .ref q_glassWind, .int glasses, .ref q_dry, .ref q_value, .ref q_doing, .ref q_kept, .ref q_isKept, .int keptAt, .int isWriting])), (q_glassX, .inl (xy G 0, 4, .inl glassX)), (q_glassY, .inl (xy G 0, 4, .inl glassY)), (q_glassPress, .inl (xy G 0, 4, .inl glassPress)), (q_glassWind, .inl (xy G 0, 4, .inl glassWind))] s.heap := hP.sub [0, 1, 2, 3, 4] rfl
          refine x_calli (va_runV (As := [.int v6, .int v1, .int v2, .int v4]) (rest := []) ⟨hx, hb, hml, hown, hts⟩ (kX10_fits l G s.heap hPr306 hr306) (cwV 4 hts gX10_waysAt_X10_fits rfl rfl rfl (by decide +kernel) ⟨Nat.le_of_ble_eq_true rfl, Nat.le_of_ble_eq_true rfl⟩) (x_preV hE hS hP (ci := 10) (q0 := 0) rfl rfl) rfl rfl hl.1 rfl (lv_room (Nat.le_of_ble_eq_true rfl)) dX10_waysAt_39 ⟨Nat.le_of_ble_eq_true rfl, Nat.le_of_ble_eq_true rfl⟩) ?_
          refine lv_istore (lv' := [(5, .int (xb r306)), (0, .ref q_this), (1, .int v1), (2, .int v2), (3, .int v3), (4, .int v4), (6, .int v6)]) hx hb dX10_waysAt_42 hl (by decide) rfl (fun ls hl => ?_)
          refine lv_iinc (v := (v6 + 1)) (lv' := [(6, .int (v6 + 1)), (5, .int (xb r306)), (0, .ref q_this), (1, .int v1), (2, .int v2), (3, .int v3), (4, .int v4)]) hx hb dX10_waysAt_44 hl (k := 6) rfl rfl (by decide) rfl (fun ls hl => ?_)
          refine lv_goto (tgt := 18) hx hb dX10_waysAt_47 (by decide) ?_
          exact i2 ((xb r306), (v6 + 1)) (by cases h; exact ho) ls (lv_sub hl [2, 3, 4, 5, 6, 1, 0] rfl)
    refine lv_iload hx hb dX10_waysAt_5 (lv_at hl 4 rfl) ?_
    refine lv_bipush (v := 9) hx hb dX10_waysAt_7 (by decide) ?_
    refine lv_icmp_gt (tgt := 69) hx hb dX10_waysAt_9 (by decide) (fun hc407 => ?_) (fun hc407 => ?_)
    · replace h := (if_pos hc407).symm.trans h
      refine lv_iload_n hx hb dX10_waysAt_69 rfl (lv_at hl 3 rfl) ?_
      have hq : v3 = out := by cases h; exact (e1 _ ho)
      clear J61 J50 J18
      subst hq
      exact x_iret hx hb hr hlk rfl rfl dX10_waysAt_70
    · replace h := (if_neg hc407).symm.trans h
      refine lv_iconst (v := 1) hx hb dX10_waysAt_12 (by decide) ?_
      refine lv_istore (lv' := [(5, .int 1), (0, .ref q_this), (1, .int v1), (2, .int v2), (3, .int v3), (4, .int v4)]) hx hb dX10_waysAt_13 hl (by decide) rfl (fun ls hl => ?_)
      refine lv_iconst (v := 0) hx hb dX10_waysAt_15 (by decide) ?_
      refine lv_istore (lv' := [(6, .int 0), (5, .int 1), (0, .ref q_this), (1, .int v1), (2, .int v2), (3, .int v3), (4, .int v4)]) hx hb dX10_waysAt_16 hl (by decide) rfl (fun ls hl => ?_)
      exact J18 v3 v4 1 0 ls (lv_sub hl [2, 3, 4, 5, 6, 1, 0] rfl) _ h ho
  unfold mX10_waysAt at h
  refine lv_iconst (v := 0) hx hb dX10_waysAt_0 (by decide) ?_
  refine lv_istore_n (lv' := [(3, .int 0), (0, .ref q_this), (1, .int p0), (2, .int p1)]) hx hb dX10_waysAt_1 rfl hl (by decide) rfl (fun ls hl => ?_)
  refine lv_iconst (v := 1) hx hb dX10_waysAt_2 (by decide) ?_
  refine lv_istore (lv' := [(4, .int 1), (3, .int 0), (0, .ref q_this), (1, .int p0), (2, .int p1)]) hx hb dX10_waysAt_3 hl (by decide) rfl (fun ls hl => ?_)
  exact J5 p0 p1 0 1 ls (lv_sub hl [2, 3, 4, 1, 0] rfl) _ h ho
