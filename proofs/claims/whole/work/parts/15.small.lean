/-! laid by program out of the bytecode: for each method its function (m..) and its contract (k..) -/
noncomputable def mX3_isAsTold_b89 (odds : Int32) (days : Int32) (dryDays : Int32) (gain : Int32) (loss : Int32) (cost : Int32) (v1 : Int32) (t0 : Int32) : Option (Bool) :=
  if v1 = 0 then (some false) else (if t0 = 0 then (some false) else ((mX9_within dryDays 1 3).bind (fun r103 => if (xb r103) = 0 then (some false) else (some true))))
noncomputable def mX3_isAsTold_b88 (odds : Int32) (days : Int32) (dryDays : Int32) (gain : Int32) (loss : Int32) (cost : Int32) (v1 : Int32) : Option (Bool) :=
  mX3_isAsTold_b89 odds days dryDays gain loss cost v1 0
noncomputable def mX3_isAsTold_b42 (odds : Int32) (days : Int32) (dryDays : Int32) (gain : Int32) (loss : Int32) (cost : Int32) (t0 : Int32) : Option (Bool) :=
  (mX9_within gain 0 999).bind (fun r305 => if (xb r305) = 0 then (mX3_isAsTold_b88 odds days dryDays gain loss cost t0) else ((mX9_within loss 0 999).bind (fun r307 => if (xb r307) = 0 then (mX3_isAsTold_b88 odds days dryDays gain loss cost t0) else ((mX9_within cost 0 99).bind (fun r309 => if (xb r309) = 0 then (mX3_isAsTold_b88 odds days dryDays gain loss cost t0) else (mX3_isAsTold_b89 odds days dryDays gain loss cost t0 1))))))
noncomputable def mX3_isAsTold_b41 (odds : Int32) (days : Int32) (dryDays : Int32) (gain : Int32) (loss : Int32) (cost : Int32)  : Option (Bool) :=
  mX3_isAsTold_b42 odds days dryDays gain loss cost 0
noncomputable def mX3_isAsTold (odds : Int32) (days : Int32) (dryDays : Int32) (gain : Int32) (loss : Int32) (cost : Int32)  : Option (Bool) :=
  (mX9_within days 1 9).bind (fun r501 => if (xb r501) = 0 then (mX3_isAsTold_b41 odds days dryDays gain loss cost) else (if odds < 0 then (mX3_isAsTold_b41 odds days dryDays gain loss cost) else ((mX9_atT2 days).bind (fun r504 => if r504 ≤ odds then (mX3_isAsTold_b41 odds days dryDays gain loss cost) else (mX3_isAsTold_b42 odds days dryDays gain loss cost 1)))))
set_option maxHeartbeats 4000000 in
set_option maxRecDepth 100000 in
theorem kX3_isAsTold (l : Launch) (G : xG) (H0 : Heap) {q_this : Nat} {odds : Int32} {days : Int32} {dryDays : Int32} {gain : Int32} {loss : Int32} {cost : Int32} (hP : va_P (xD G) vwCl [(q_this, .inr (3, [.int odds, .int days, .int dryDays, .int gain, .int loss, .int cost]))] H0) {out : Bool} (h : mX3_isAsTold odds days dryDays gain loss cost = some out) : Met l yX3_isAsTold wsX3_isAsTold ({ frames := 1, cells := 0, slots := 0, locals := 22 }) (xPc G H0 [.ref q_this]) (xQi H0 (xb out)) 0 0 xN := by
  refine x_met (by decide) rfl (Nat.le_of_ble_eq_true rfl) ?_
  intro p e s m below meth c ls hH hA hl
  obtain ⟨hx, hb, hr, hlk, hml, hown, hts, hE⟩ := hA
  subst hH
  have hown : s.vm.findClass RX3 = some m.cls := hown
  have hl : lv_has ls 3 [(0, .ref q_this)] := hl
  have hS : va_S xN s.heap s.heap [] := va_S.rf
  have ho : out = out := rfl
  have J89 : ∀ (v1 : Int32) (t0 : Int32) (ls : Array Slot), lv_has ls 3 [(0, .ref q_this), (1, .int v1)] → ∀ o : Bool, mX3_isAsTold_b89 odds days dryDays gain loss cost v1 t0 = some o → (fun z => z = out) o → xW p l e ({ frames := 1, cells := 0, slots := 0, locals := 22 }) s m [.ref q_this] below meth c (xQi s.heap (xb out)) (F0 m 89 ls [.int t0]) := by
    intro v1 t0 ls hl o h ho
    unfold mX3_isAsTold_b89 at h
    refine lv_istore_n (lv' := [(2, .int t0), (0, .ref q_this), (1, .int v1)]) hx hb dX3_isAsTold_89 rfl hl (by decide) rfl (fun ls hl => ?_)
    refine lv_iload_n hx hb dX3_isAsTold_90 rfl (lv_at hl 2 rfl) ?_
    refine lv_if_eq (tgt := 114) hx hb dX3_isAsTold_91 (by decide) (fun hc101 => ?_) (fun hc101 => ?_)
    · replace h := (if_pos hc101).symm.trans h
      refine lv_iconst (v := 0) hx hb dX3_isAsTold_114 (by decide) ?_
      have hq : false = out := by cases h; exact ho
      subst hq
      exact x_zret (b := false) hx hb hr hlk rfl rfl rfl dX3_isAsTold_115
    · replace h := (if_neg hc101).symm.trans h
      refine lv_iload_n hx hb dX3_isAsTold_94 rfl (lv_at hl 0 rfl) ?_
      refine lv_if_eq (tgt := 114) hx hb dX3_isAsTold_95 (by decide) (fun hc102 => ?_) (fun hc102 => ?_)
      · replace h := (if_pos hc102).symm.trans h
        refine lv_iconst (v := 0) hx hb dX3_isAsTold_114 (by decide) ?_
        have hq : false = out := by cases h; exact ho
        subst hq
        exact x_zret (b := false) hx hb hr hlk rfl rfl rfl dX3_isAsTold_115
      · replace h := (if_neg hc102).symm.trans h
        refine lv_aload_n hx hb dX3_isAsTold_98 rfl (lv_at hl 1 rfl) ?_
        refine va_get (D := xD G) (ci := 3) (v := .int dryDays) (C := RX3) (T := TX3) (N := 6) hx hb hts (fun w9 h9 => (List.mem_cons_of_mem _ (List.mem_append_right _ h9))) hown hE.1 hP 0 rfl rfl 2 (by decide) (hts (.fieldLink RX3 18 "FallingGlass$Hay" "dryDays" "I") (List.mem_of_getElem? (i := 6) rfl)) (fun _ h9 => h9) rfl dX3_isAsTold_99 ?_
        refine lv_iconst (v := 1) hx hb dX3_isAsTold_102 (by decide) ?_
        refine lv_iconst (v := 3) hx hb dX3_isAsTold_103 (by decide) ?_
        obtain ⟨r103, hr103, h⟩ := x_bind h
        refine x_calli (va_runSN (As := [.int dryDays, .int 1, .int 3]) (rest := []) ⟨hx, hb, hml, hown, hts⟩ (kX9_within l G s.heap hr103) ⟨va_cnB 3 hts gX3_isAsTold_X9_within_n30 rfl rfl rfl (hE.nm 10 rfl) (hts (.initialized RX9) (List.mem_of_getElem? (i := 8) rfl)) (by decide +kernel) ⟨Nat.le_of_ble_eq_true rfl, Nat.le_of_ble_eq_true rfl⟩, (hts (.static yX9_within) (List.mem_of_getElem? (i := 7) rfl)), trivial⟩ (x_preS hE hS) rfl rfl hl.1 rfl (lv_room (Nat.le_of_ble_eq_true rfl)) dX3_isAsTold_104 ⟨Nat.le_of_ble_eq_true rfl, Nat.le_of_ble_eq_true rfl⟩) ?_
        refine lv_if_eq (tgt := 114) hx hb dX3_isAsTold_107 (by decide) (fun hc104 => ?_) (fun hc104 => ?_)
        · replace h := (if_pos hc104).symm.trans h
          refine lv_iconst (v := 0) hx hb dX3_isAsTold_114 (by decide) ?_
          have hq : false = out := by cases h; exact ho
          subst hq
          exact x_zret (b := false) hx hb hr hlk rfl rfl rfl dX3_isAsTold_115
        · replace h := (if_neg hc104).symm.trans h
          refine lv_iconst (v := 1) hx hb dX3_isAsTold_110 (by decide) ?_
          refine lv_goto (tgt := 115) hx hb dX3_isAsTold_111 (by decide) ?_
          have hq : true = out := by cases h; exact ho
          subst hq
          exact x_zret (b := true) hx hb hr hlk rfl rfl rfl dX3_isAsTold_115
  have J88 : ∀ (v1 : Int32) (ls : Array Slot), lv_has ls 3 [(0, .ref q_this), (1, .int v1)] → ∀ o : Bool, mX3_isAsTold_b88 odds days dryDays gain loss cost v1 = some o → (fun z => z = out) o → xW p l e ({ frames := 1, cells := 0, slots := 0, locals := 22 }) s m [.ref q_this] below meth c (xQi s.heap (xb out)) (F0 m 88 ls []) := by
    intro v1 ls hl o h ho
    unfold mX3_isAsTold_b88 at h
    refine lv_iconst (v := 0) hx hb dX3_isAsTold_88 (by decide) ?_
    exact J89 v1 0 ls (lv_sub hl [0, 1] rfl) _ h ho
  have J42 : ∀ (t0 : Int32) (ls : Array Slot), lv_has ls 3 [(0, .ref q_this)] → ∀ o : Bool, mX3_isAsTold_b42 odds days dryDays gain loss cost t0 = some o → (fun z => z = out) o → xW p l e ({ frames := 1, cells := 0, slots := 0, locals := 22 }) s m [.ref q_this] below meth c (xQi s.heap (xb out)) (F0 m 42 ls [.int t0]) := by
    intro t0 ls hl o h ho
    unfold mX3_isAsTold_b42 at h
    refine lv_istore_n (lv' := [(1, .int t0), (0, .ref q_this)]) hx hb dX3_isAsTold_42 rfl hl (by decide) rfl (fun ls hl => ?_)
    refine lv_aload_n hx hb dX3_isAsTold_43 rfl (lv_at hl 1 rfl) ?_
    refine va_get (D := xD G) (ci := 3) (v := .int gain) (C := RX3) (T := TX3) (N := 6) hx hb hts (fun w9 h9 => (List.mem_cons_of_mem _ (List.mem_append_right _ h9))) hown hE.1 hP 0 rfl rfl 3 (by decide) (hts (.fieldLink RX3 21 "FallingGlass$Hay" "gain" "I") (List.mem_of_getElem? (i := 3) rfl)) (fun _ h9 => h9) rfl dX3_isAsTold_44 ?_
    refine lv_iconst (v := 0) hx hb dX3_isAsTold_47 (by decide) ?_
    refine lv_sipush (v := 999) hx hb dX3_isAsTold_48 (by decide) ?_
    obtain ⟨r305, hr305, h⟩ := x_bind h
    refine x_calli (va_runSN (As := [.int gain, .int 0, .int 999]) (rest := []) ⟨hx, hb, hml, hown, hts⟩ (kX9_within l G s.heap hr305) ⟨va_cnB 3 hts gX3_isAsTold_X9_within_n30 rfl rfl rfl (hE.nm 10 rfl) (hts (.initialized RX9) (List.mem_of_getElem? (i := 8) rfl)) (by decide +kernel) ⟨Nat.le_of_ble_eq_true rfl, Nat.le_of_ble_eq_true rfl⟩, (hts (.static yX9_within) (List.mem_of_getElem? (i := 7) rfl)), trivial⟩ (x_preS hE hS) rfl rfl hl.1 rfl (lv_room (Nat.le_of_ble_eq_true rfl)) dX3_isAsTold_51 ⟨Nat.le_of_ble_eq_true rfl, Nat.le_of_ble_eq_true rfl⟩) ?_
    refine lv_if_eq (tgt := 88) hx hb dX3_isAsTold_54 (by decide) (fun hc306 => ?_) (fun hc306 => ?_)
    · replace h := (if_pos hc306).symm.trans h
      exact J88 t0 ls (lv_sub hl [1, 0] rfl) _ h ho
    · replace h := (if_neg hc306).symm.trans h
      refine lv_aload_n hx hb dX3_isAsTold_57 rfl (lv_at hl 1 rfl) ?_
      refine va_get (D := xD G) (ci := 3) (v := .int loss) (C := RX3) (T := TX3) (N := 6) hx hb hts (fun w9 h9 => (List.mem_cons_of_mem _ (List.mem_append_right _ h9))) hown hE.1 hP 0 rfl rfl 4 (by decide) (hts (.fieldLink RX3 24 "FallingGlass$Hay" "loss" "I") (List.mem_of_getElem? (i := 4) rfl)) (fun _ h9 => h9) rfl dX3_isAsTold_58 ?_
      refine lv_iconst (v := 0) hx hb dX3_isAsTold_61 (by decide) ?_
      refine lv_sipush (v := 999) hx hb dX3_isAsTold_62 (by decide) ?_
      obtain ⟨r307, hr307, h⟩ := x_bind h
      refine x_calli (va_runSN (As := [.int loss, .int 0, .int 999]) (rest := []) ⟨hx, hb, hml, hown, hts⟩ (kX9_within l G s.heap hr307) ⟨va_cnB 3 hts gX3_isAsTold_X9_within_n30 rfl rfl rfl (hE.nm 10 rfl) (hts (.initialized RX9) (List.mem_of_getElem? (i := 8) rfl)) (by decide +kernel) ⟨Nat.le_of_ble_eq_true rfl, Nat.le_of_ble_eq_true rfl⟩, (hts (.static yX9_within) (List.mem_of_getElem? (i := 7) rfl)), trivial⟩ (x_preS hE hS) rfl rfl hl.1 rfl (lv_room (Nat.le_of_ble_eq_true rfl)) dX3_isAsTold_65 ⟨Nat.le_of_ble_eq_true rfl, Nat.le_of_ble_eq_true rfl⟩) ?_
      refine lv_if_eq (tgt := 88) hx hb dX3_isAsTold_68 (by decide) (fun hc308 => ?_) (fun hc308 => ?_)
      · replace h := (if_pos hc308).symm.trans h
        exact J88 t0 ls (lv_sub hl [1, 0] rfl) _ h ho
      · replace h := (if_neg hc308).symm.trans h
        refine lv_aload_n hx hb dX3_isAsTold_71 rfl (lv_at hl 1 rfl) ?_
        refine va_get (D := xD G) (ci := 3) (v := .int cost) (C := RX3) (T := TX3) (N := 6) hx hb hts (fun w9 h9 => (List.mem_cons_of_mem _ (List.mem_append_right _ h9))) hown hE.1 hP 0 rfl rfl 5 (by decide) (hts (.fieldLink RX3 27 "FallingGlass$Hay" "cost" "I") (List.mem_of_getElem? (i := 5) rfl)) (fun _ h9 => h9) rfl dX3_isAsTold_72 ?_
        refine lv_iconst (v := 0) hx hb dX3_isAsTold_75 (by decide) ?_
        refine lv_bipush (v := 99) hx hb dX3_isAsTold_76 (by decide) ?_
        obtain ⟨r309, hr309, h⟩ := x_bind h
        refine x_calli (va_runSN (As := [.int cost, .int 0, .int 99]) (rest := []) ⟨hx, hb, hml, hown, hts⟩ (kX9_within l G s.heap hr309) ⟨va_cnB 3 hts gX3_isAsTold_X9_within_n30 rfl rfl rfl (hE.nm 10 rfl) (hts (.initialized RX9) (List.mem_of_getElem? (i := 8) rfl)) (by decide +kernel) ⟨Nat.le_of_ble_eq_true rfl, Nat.le_of_ble_eq_true rfl⟩, (hts (.static yX9_within) (List.mem_of_getElem? (i := 7) rfl)), trivial⟩ (x_preS hE hS) rfl rfl hl.1 rfl (lv_room (Nat.le_of_ble_eq_true rfl)) dX3_isAsTold_78 ⟨Nat.le_of_ble_eq_true rfl, Nat.le_of_ble_eq_true rfl⟩) ?_
        refine lv_if_eq (tgt := 88) hx hb dX3_isAsTold_81 (by decide) (fun hc310 => ?_) (fun hc310 => ?_)
        · replace h := (if_pos hc310).symm.trans h
          exact J88 t0 ls (lv_sub hl [1, 0] rfl) _ h ho
        · replace h := (if_neg hc310).symm.trans h
          refine lv_iconst (v := 1) hx hb dX3_isAsTold_84 (by decide) ?_
          refine lv_goto (tgt := 89) hx hb dX3_isAsTold_85 (by decide) ?_
          exact J89 t0 1 ls (lv_sub hl [1, 0] rfl) _ h ho
  have J41 : ∀ (ls : Array Slot), lv_has ls 3 [(0, .ref q_this)] → ∀ o : Bool, mX3_isAsTold_b41 odds days dryDays gain loss cost = some o → (fun z => z = out) o → xW p l e ({ frames := 1, cells := 0, slots := 0, locals := 22 }) s m [.ref q_this] below meth c (xQi s.heap (xb out)) (F0 m 41 ls []) := by
    intro  ls hl o h ho
    unfold mX3_isAsTold_b41 at h
    refine lv_iconst (v := 0) hx hb dX3_isAsTold_41 (by decide) ?_
    exact J42 0 ls (lv_sub hl [0] rfl) _ h ho
  unfold mX3_isAsTold at h
  refine lv_aload_n hx hb dX3_isAsTold_0 rfl (lv_at hl 0 rfl) ?_
  refine va_get (D := xD G) (ci := 3) (v := .int days) (C := RX3) (T := TX3) (N := 6) hx hb hts (fun w9 h9 => (List.mem_cons_of_mem _ (List.mem_append_right _ h9))) hown hE.1 hP 0 rfl rfl 1 (by decide) (hts (.fieldLink RX3 15 "FallingGlass$Hay" "days" "I") (List.mem_of_getElem? (i := 1) rfl)) (fun _ h9 => h9) rfl dX3_isAsTold_1 ?_
  refine lv_iconst (v := 1) hx hb dX3_isAsTold_4 (by decide) ?_
  refine lv_bipush (v := 9) hx hb dX3_isAsTold_5 (by decide) ?_
  obtain ⟨r501, hr501, h⟩ := x_bind h
  refine x_calli (va_runSN (As := [.int days, .int 1, .int 9]) (rest := []) ⟨hx, hb, hml, hown, hts⟩ (kX9_within l G s.heap hr501) ⟨va_cnB 3 hts gX3_isAsTold_X9_within_n30 rfl rfl rfl (hE.nm 10 rfl) (hts (.initialized RX9) (List.mem_of_getElem? (i := 8) rfl)) (by decide +kernel) ⟨Nat.le_of_ble_eq_true rfl, Nat.le_of_ble_eq_true rfl⟩, (hts (.static yX9_within) (List.mem_of_getElem? (i := 7) rfl)), trivial⟩ (x_preS hE hS) rfl rfl hl.1 rfl (lv_room (Nat.le_of_ble_eq_true rfl)) dX3_isAsTold_7 ⟨Nat.le_of_ble_eq_true rfl, Nat.le_of_ble_eq_true rfl⟩) ?_
  refine lv_if_eq (tgt := 41) hx hb dX3_isAsTold_10 (by decide) (fun hc502 => ?_) (fun hc502 => ?_)
  · replace h := (if_pos hc502).symm.trans h
    exact J41  ls (lv_sub hl [0] rfl) _ h ho
  · replace h := (if_neg hc502).symm.trans h
    refine lv_aload_n hx hb dX3_isAsTold_13 rfl (lv_at hl 0 rfl) ?_
    refine va_get (D := xD G) (ci := 3) (v := .int odds) (C := RX3) (T := TX3) (N := 6) hx hb hts (fun w9 h9 => (List.mem_cons_of_mem _ (List.mem_append_right _ h9))) hown hE.1 hP 0 rfl rfl 0 (by decide) (hts (.fieldLink RX3 9 "FallingGlass$Hay" "odds" "I") (List.mem_of_getElem? (i := 2) rfl)) (fun _ h9 => h9) rfl dX3_isAsTold_14 ?_
    refine lv_if_lt (tgt := 41) hx hb dX3_isAsTold_17 (by decide) (fun hc503 => ?_) (fun hc503 => ?_)
    · replace h := (if_pos hc503).symm.trans h
      exact J41  ls (lv_sub hl [0] rfl) _ h ho
    · replace h := (if_neg hc503).symm.trans h
      refine lv_aload_n hx hb dX3_isAsTold_20 rfl (lv_at hl 0 rfl) ?_
      refine va_get (D := xD G) (ci := 3) (v := .int odds) (C := RX3) (T := TX3) (N := 6) hx hb hts (fun w9 h9 => (List.mem_cons_of_mem _ (List.mem_append_right _ h9))) hown hE.1 hP 0 rfl rfl 0 (by decide) (hts (.fieldLink RX3 9 "FallingGlass$Hay" "odds" "I") (List.mem_of_getElem? (i := 2) rfl)) (fun _ h9 => h9) rfl dX3_isAsTold_21 ?_
      refine va_getsN hx hb hE.t2.1 hS hown (va_Nw.use rfl (hE.nf 2 rfl)) (fun _ h9 => h9) dX3_isAsTold_24 ?_
      refine lv_aload_n hx hb dX3_isAsTold_27 rfl (lv_at hl 0 rfl) ?_
      refine va_get (D := xD G) (ci := 3) (v := .int days) (C := RX3) (T := TX3) (N := 6) hx hb hts (fun w9 h9 => (List.mem_cons_of_mem _ (List.mem_append_right _ h9))) hown hE.1 hP 0 rfl rfl 1 (by decide) (hts (.fieldLink RX3 15 "FallingGlass$Hay" "days" "I") (List.mem_of_getElem? (i := 1) rfl)) (fun _ h9 => h9) rfl dX3_isAsTold_28 ?_
      obtain ⟨r504, hr504, h⟩ := x_bind h
      refine x_calli (va_runSN (As := [.ref (xa G 2), .int days]) (rest := [.int odds]) ⟨hx, hb, hml, hown, hts⟩ (kX9_atT2 l G s.heap hr504) ⟨va_cnB 2 hts gX3_isAsTold_X9_at_n38 rfl rfl rfl (hE.nm 11 rfl) (hts (.initialized RX9) (List.mem_of_getElem? (i := 8) rfl)) (by decide +kernel) ⟨Nat.le_of_ble_eq_true rfl, Nat.le_of_ble_eq_true rfl⟩, (hts (.static yX9_at) (List.mem_of_getElem? (i := 10) rfl)), trivial⟩ (x_preS hE hS) rfl rfl hl.1 rfl (lv_room (Nat.le_of_ble_eq_true rfl)) dX3_isAsTold_31 ⟨Nat.le_of_ble_eq_true rfl, Nat.le_of_ble_eq_true rfl⟩) ?_
      refine lv_icmp_ge (tgt := 41) hx hb dX3_isAsTold_34 (by decide) (fun hc505 => ?_) (fun hc505 => ?_)
      · replace h := (if_pos hc505).symm.trans h
        exact J41  ls (lv_sub hl [0] rfl) _ h ho
      · replace h := (if_neg hc505).symm.trans h
        refine lv_iconst (v := 1) hx hb dX3_isAsTold_37 (by decide) ?_
        refine lv_goto (tgt := 42) hx hb dX3_isAsTold_38 (by decide) ?_
        exact J42 1 ls (lv_sub hl [0] rfl) _ h ho
noncomputable def mX3_canCut (days : Int32) (dryDays : Int32) (p0 : Int32) : Option (Bool) :=
  if days < (p0 + dryDays) then (some false) else (some true)
set_option maxHeartbeats 4000000 in
set_option maxRecDepth 100000 in
theorem kX3_canCut (l : Launch) (G : xG) (H0 : Heap) {q_this : Nat} {odds : Int32} {days : Int32} {dryDays : Int32} {gain : Int32} {loss : Int32} {cost : Int32} {p0 : Int32} (hP : va_P (xD G) vwCl [(q_this, .inr (3, [.int odds, .int days, .int dryDays, .int gain, .int loss, .int cost]))] H0) {out : Bool} (h : mX3_canCut days dryDays p0 = some out) : Met l yX3_canCut wsX3_canCut ({ frames := 0, cells := 0, slots := 0, locals := 0 }) (xPc G H0 [.ref q_this, .int p0]) (xQi H0 (xb out)) 0 0 xN := by
  refine x_met (by decide) rfl (Nat.le_of_ble_eq_true rfl) ?_
  intro p e s m below meth c ls hH hA hl
  obtain ⟨hx, hb, hr, hlk, hml, hown, hts, hE⟩ := hA
  subst hH
  have hown : s.vm.findClass RX3 = some m.cls := hown
  have hl : lv_has ls 2 [(0, .ref q_this), (1, .int p0)] := hl
  have hS : va_S xN s.heap s.heap [] := va_S.rf
  have ho : out = out := rfl
  unfold mX3_canCut at h
  refine lv_iload_n hx hb dX3_canCut_0 rfl (lv_at hl 1 rfl) ?_
  refine lv_aload_n hx hb dX3_canCut_1 rfl (lv_at hl 0 rfl) ?_
  refine va_get (D := xD G) (ci := 3) (v := .int dryDays) (C := RX3) (T := TX3) (N := 6) hx hb hts (fun w9 h9 => (List.mem_cons_of_mem _ (List.mem_append_right _ h9))) hown hE.1 hP 0 rfl rfl 2 (by decide) (hts (.fieldLink RX3 18 "FallingGlass$Hay" "dryDays" "I") (List.mem_of_getElem? (i := 1) rfl)) (fun _ h9 => h9) rfl dX3_canCut_2 ?_
  refine lv_iadd hx hb dX3_canCut_5 ?_
  refine lv_aload_n hx hb dX3_canCut_6 rfl (lv_at hl 0 rfl) ?_
  refine va_get (D := xD G) (ci := 3) (v := .int days) (C := RX3) (T := TX3) (N := 6) hx hb hts (fun w9 h9 => (List.mem_cons_of_mem _ (List.mem_append_right _ h9))) hown hE.1 hP 0 rfl rfl 1 (by decide) (hts (.fieldLink RX3 15 "FallingGlass$Hay" "days" "I") (List.mem_of_getElem? (i := 2) rfl)) (fun _ h9 => h9) rfl dX3_canCut_7 ?_
  refine lv_icmp_gt (tgt := 17) hx hb dX3_canCut_10 (by decide) (fun hc501 => ?_) (fun hc501 => ?_)
  · replace h := (if_pos hc501).symm.trans h
    refine lv_iconst (v := 0) hx hb dX3_canCut_17 (by decide) ?_
    have hq : false = out := by cases h; exact ho
    subst hq
    exact x_zret (b := false) hx hb hr hlk rfl rfl rfl dX3_canCut_18
  · replace h := (if_neg hc501).symm.trans h
    refine lv_iconst (v := 1) hx hb dX3_canCut_13 (by decide) ?_
    refine lv_goto (tgt := 18) hx hb dX3_canCut_14 (by decide) ?_
    have hq : true = out := by cases h; exact ho
    subst hq
    exact x_zret (b := true) hx hb hr hlk rfl rfl rfl dX3_canCut_18
noncomputable def mX3_tenthsOf (odds : Int32) (days : Int32) (p0 : Int32) : Option (Int32) :=
  (mX9_atT2 (((days - 1) - p0))).bind (fun r501 => if r501 ≤ 0 then (some 0) else (x_need (¬ r501 = 0) (some (((odds / r501) - (odds / r501) / 10 * 10)))))
set_option maxHeartbeats 4000000 in
set_option maxRecDepth 100000 in
theorem kX3_tenthsOf (l : Launch) (G : xG) (H0 : Heap) {q_this : Nat} {odds : Int32} {days : Int32} {dryDays : Int32} {gain : Int32} {loss : Int32} {cost : Int32} {p0 : Int32} (hP : va_P (xD G) vwCl [(q_this, .inr (3, [.int odds, .int days, .int dryDays, .int gain, .int loss, .int cost]))] H0) {out : Int32} (h : mX3_tenthsOf odds days p0 = some out) : Met l yX3_tenthsOf wsX3_tenthsOf ({ frames := 1, cells := 0, slots := 0, locals := 21 }) (xPc G H0 [.ref q_this, .int p0]) (xQi H0 (out)) 0 0 xN := by
  refine x_met (by decide) rfl (Nat.le_of_ble_eq_true rfl) ?_
  intro p e s m below meth c ls hH hA hl
  obtain ⟨hx, hb, hr, hlk, hml, hown, hts, hE⟩ := hA
  subst hH
  have hown : s.vm.findClass RX3 = some m.cls := hown
  have hl : lv_has ls 3 [(0, .ref q_this), (1, .int p0)] := hl
  have hS : va_S xN s.heap s.heap [] := va_S.rf
  have ho : out = out := rfl
  unfold mX3_tenthsOf at h
  refine va_getsN hx hb hE.t2.1 hS hown (va_Nw.use rfl (hE.nf 2 rfl)) (fun _ h9 => h9) dX3_tenthsOf_0 ?_
  refine lv_aload_n hx hb dX3_tenthsOf_3 rfl (lv_at hl 0 rfl) ?_
  refine va_get (D := xD G) (ci := 3) (v := .int days) (C := RX3) (T := TX3) (N := 6) hx hb hts (fun w9 h9 => (List.mem_cons_of_mem _ (List.mem_append_right _ h9))) hown hE.1 hP 0 rfl rfl 1 (by decide) (hts (.fieldLink RX3 15 "FallingGlass$Hay" "days" "I") (List.mem_of_getElem? (i := 1) rfl)) (fun _ h9 => h9) rfl dX3_tenthsOf_4 ?_
  refine lv_iconst (v := 1) hx hb dX3_tenthsOf_7 (by decide) ?_
  refine lv_isub hx hb dX3_tenthsOf_8 ?_
  refine lv_iload_n hx hb dX3_tenthsOf_9 rfl (lv_at hl 1 rfl) ?_
  refine lv_isub hx hb dX3_tenthsOf_10 ?_
  obtain ⟨r501, hr501, h⟩ := x_bind h
  refine x_calli (va_runSN (As := [.ref (xa G 2), .int ((days - 1) - p0)]) (rest := []) ⟨hx, hb, hml, hown, hts⟩ (kX9_atT2 l G s.heap hr501) ⟨va_cnB 2 hts gX3_tenthsOf_X9_at_n38 rfl rfl rfl (hE.nm 11 rfl) (hts (.initialized RX9) (List.mem_of_getElem? (i := 4) rfl)) (by decide +kernel) ⟨Nat.le_of_ble_eq_true rfl, Nat.le_of_ble_eq_true rfl⟩, (hts (.static yX9_at) (List.mem_of_getElem? (i := 3) rfl)), trivial⟩ (x_preS hE hS) rfl rfl hl.1 rfl (lv_room (Nat.le_of_ble_eq_true rfl)) dX3_tenthsOf_11 ⟨Nat.le_of_ble_eq_true rfl, Nat.le_of_ble_eq_true rfl⟩) ?_
  refine lv_istore_n (lv' := [(2, .int r501), (0, .ref q_this), (1, .int p0)]) hx hb dX3_tenthsOf_14 rfl hl (by decide) rfl (fun ls hl => ?_)
  refine lv_iload_n hx hb dX3_tenthsOf_15 rfl (lv_at hl 0 rfl) ?_
  refine lv_if_le (tgt := 31) hx hb dX3_tenthsOf_16 (by decide) (fun hc502 => ?_) (fun hc502 => ?_)
  · replace h := (if_pos hc502).symm.trans h
    refine lv_iconst (v := 0) hx hb dX3_tenthsOf_31 (by decide) ?_
    have hq : 0 = out := by cases h; exact ho
    subst hq
    exact x_iret hx hb hr hlk rfl rfl dX3_tenthsOf_32
  · replace h := (if_neg hc502).symm.trans h
    refine lv_aload_n hx hb dX3_tenthsOf_19 rfl (lv_at hl 1 rfl) ?_
    refine va_get (D := xD G) (ci := 3) (v := .int odds) (C := RX3) (T := TX3) (N := 6) hx hb hts (fun w9 h9 => (List.mem_cons_of_mem _ (List.mem_append_right _ h9))) hown hE.1 hP 0 rfl rfl 0 (by decide) (hts (.fieldLink RX3 9 "FallingGlass$Hay" "odds" "I") (List.mem_of_getElem? (i := 2) rfl)) (fun _ h9 => h9) rfl dX3_tenthsOf_20 ?_
    refine lv_iload_n hx hb dX3_tenthsOf_23 rfl (lv_at hl 0 rfl) ?_
    obtain ⟨hz503, h⟩ := x_needs h
    refine lv_idiv hx hb dX3_tenthsOf_24 hz503 ?_
    refine lv_bipush (v := 10) hx hb dX3_tenthsOf_25 (by decide) ?_
    refine lv_irem hx hb dX3_tenthsOf_27 (by decide) ?_
    refine lv_goto (tgt := 32) hx hb dX3_tenthsOf_28 (by decide) ?_
    have hq : ((odds / r501) - (odds / r501) / 10 * 10) = out := by cases h; exact ho
    subst hq
    exact x_iret hx hb hr hlk rfl rfl dX3_tenthsOf_32
noncomputable def mX3_valueOfCutting_s6 (odds : Int32) (days : Int32) (dryDays : Int32) (gain : Int32) (loss : Int32) (v1 : Int32) (v2 : Int32) (v3 : Int32) : Option (((Int32) ⊕ (Int32 × Int32))) :=
  if (v1 + dryDays) ≤ v3 then (some (.inl ((((gain + loss) * v2) - (1000 * loss))))) else ((mX3_tenthsOf odds days v3).bind (fun r102 => some (.inr (((v2 * (1000 - (100 * r102))) / 1000), (v3 + 1)))))
noncomputable def mX3_valueOfCutting_b6 (odds : Int32) (days : Int32) (dryDays : Int32) (gain : Int32) (loss : Int32) (v1 : Int32) (v2 : Int32) (v3 : Int32) : Option (Int32) :=
  x_loop (fun q : Int32 × Int32 => mX3_valueOfCutting_s6 odds days dryDays gain loss v1 (q.1) (q.2)) (v2, v3)
noncomputable def mX3_valueOfCutting (odds : Int32) (days : Int32) (dryDays : Int32) (gain : Int32) (loss : Int32) (p0 : Int32) : Option (Int32) :=
  mX3_valueOfCutting_b6 odds days dryDays gain loss p0 1000 p0
set_option maxHeartbeats 4000000 in
set_option maxRecDepth 100000 in
theorem kX3_valueOfCutting (l : Launch) (G : xG) (H0 : Heap) {q_this : Nat} {odds : Int32} {days : Int32} {dryDays : Int32} {gain : Int32} {loss : Int32} {cost : Int32} {p0 : Int32} (hP : va_P (xD G) vwCl [(q_this, .inr (3, [.int odds, .int days, .int dryDays, .int gain, .int loss, .int cost]))] H0) {out : Int32} (h : mX3_valueOfCutting odds days dryDays gain loss p0 = some out) : Met l yX3_valueOfCutting wsX3_valueOfCutting ({ frames := 2, cells := 0, slots := 0, locals := 43 }) (xPc G H0 [.ref q_this, .int p0]) (xQi H0 (out)) 0 0 xN := by
  refine x_met (by decide) rfl (Nat.le_of_ble_eq_true rfl) ?_
  intro p e s m below meth c ls hH hA hl
  obtain ⟨hx, hb, hr, hlk, hml, hown, hts, hE⟩ := hA
  subst hH
  have hown : s.vm.findClass RX3 = some m.cls := hown
  have hl : lv_has ls 4 [(0, .ref q_this), (1, .int p0)] := hl
  have hS : va_S xN s.heap s.heap [] := va_S.rf
  have ho : out = out := rfl
  have J6 : ∀ (v1 : Int32) (v2 : Int32) (v3 : Int32) (ls : Array Slot), lv_has ls 4 [(0, .ref q_this), (1, .int v1), (2, .int v2), (3, .int v3)] → ∀ o : Int32, mX3_valueOfCutting_b6 odds days dryDays gain loss v1 v2 v3 = some o → (fun z => z = out) o → xW p l e ({ frames := 2, cells := 0, slots := 0, locals := 43 }) s m [.ref q_this, .int p0] below meth c (xQi s.heap (out)) (F0 m 6 ls []) := by
    intro v1 v2 v3 ls hl o h ho
    unfold mX3_valueOfCutting_b6 at h
    refine x_loop_walk (K := (fun z => z = out)) (motive := fun q : Int32 × Int32 => ∀ ls : Array Slot, lv_has ls 4 [(0, .ref q_this), (1, .int (v1)), (2, .int (q.1)), (3, .int (q.2))] → xW p l e ({ frames := 2, cells := 0, slots := 0, locals := 43 }) s m [.ref q_this, .int p0] below meth c (xQi s.heap (out)) (F0 m 6 ls [])) ?_ h ho ls hl
    intro K1 e1 i1 q o h ho
    obtain ⟨v2, v3⟩ := q
    intro ls hl
    have hl : lv_has ls 4 [(0, .ref q_this), (1, .int v1), (2, .int v2), (3, .int v3)] := hl
    replace h : mX3_valueOfCutting_s6 odds days dryDays gain loss v1 v2 v3 = some o := h
    unfold mX3_valueOfCutting_s6 at h
    refine lv_iload_n hx hb dX3_valueOfCutting_6 rfl (lv_at hl 3 rfl) ?_
    refine lv_iload_n hx hb dX3_valueOfCutting_7 rfl (lv_at hl 1 rfl) ?_
    refine lv_aload_n hx hb dX3_valueOfCutting_8 rfl (lv_at hl 0 rfl) ?_
    refine va_get (D := xD G) (ci := 3) (v := .int dryDays) (C := RX3) (T := TX3) (N := 6) hx hb hts (fun w9 h9 => (List.mem_cons_of_mem _ (List.mem_append_right _ h9))) hown hE.1 hP 0 rfl rfl 2 (by decide) (hts (.fieldLink RX3 18 "FallingGlass$Hay" "dryDays" "I") (List.mem_of_getElem? (i := 1) rfl)) (fun _ h9 => h9) rfl dX3_valueOfCutting_9 ?_
    refine lv_iadd hx hb dX3_valueOfCutting_12 ?_
    refine lv_icmp_ge (tgt := 41) hx hb dX3_valueOfCutting_13 (by decide) (fun hc101 => ?_) (fun hc101 => ?_)
    · replace h := (if_pos hc101).symm.trans h
      refine lv_aload_n hx hb dX3_valueOfCutting_41 rfl (lv_at hl 0 rfl) ?_
      refine va_get (D := xD G) (ci := 3) (v := .int gain) (C := RX3) (T := TX3) (N := 6) hx hb hts (fun w9 h9 => (List.mem_cons_of_mem _ (List.mem_append_right _ h9))) hown hE.1 hP 0 rfl rfl 3 (by decide) (hts (.fieldLink RX3 21 "FallingGlass$Hay" "gain" "I") (List.mem_of_getElem? (i := 2) rfl)) (fun _ h9 => h9) rfl dX3_valueOfCutting_42 ?_
      refine lv_aload_n hx hb dX3_valueOfCutting_45 rfl (lv_at hl 0 rfl) ?_
      refine va_get (D := xD G) (ci := 3) (v := .int loss) (C := RX3) (T := TX3) (N := 6) hx hb hts (fun w9 h9 => (List.mem_cons_of_mem _ (List.mem_append_right _ h9))) hown hE.1 hP 0 rfl rfl 4 (by decide) (hts (.fieldLink RX3 24 "FallingGlass$Hay" "loss" "I") (List.mem_of_getElem? (i := 3) rfl)) (fun _ h9 => h9) rfl dX3_valueOfCutting_46 ?_
      refine lv_iadd hx hb dX3_valueOfCutting_49 ?_
      refine lv_iload_n hx hb dX3_valueOfCutting_50 rfl (lv_at hl 2 rfl) ?_
      refine lv_imul hx hb dX3_valueOfCutting_51 ?_
      refine lv_sipush (v := 1000) hx hb dX3_valueOfCutting_52 (by decide) ?_
      refine lv_aload_n hx hb dX3_valueOfCutting_55 rfl (lv_at hl 0 rfl) ?_
      refine va_get (D := xD G) (ci := 3) (v := .int loss) (C := RX3) (T := TX3) (N := 6) hx hb hts (fun w9 h9 => (List.mem_cons_of_mem _ (List.mem_append_right _ h9))) hown hE.1 hP 0 rfl rfl 4 (by decide) (hts (.fieldLink RX3 24 "FallingGlass$Hay" "loss" "I") (List.mem_of_getElem? (i := 3) rfl)) (fun _ h9 => h9) rfl dX3_valueOfCutting_56 ?_
      refine lv_imul hx hb dX3_valueOfCutting_59 ?_
      refine lv_isub hx hb dX3_valueOfCutting_60 ?_
      have hq : (((gain + loss) * v2) - (1000 * loss)) = out := by cases h; exact (e1 _ ho)
      subst hq
      exact x_iret hx hb hr hlk rfl rfl dX3_valueOfCutting_61
    · replace h := (if_neg hc101).symm.trans h
      refine lv_iload_n hx hb dX3_valueOfCutting_16 rfl (lv_at hl 2 rfl) ?_
      refine lv_sipush (v := 1000) hx hb dX3_valueOfCutting_17 (by decide) ?_
      refine lv_bipush (v := 100) hx hb dX3_valueOfCutting_20 (by decide) ?_
      refine lv_aload_n hx hb dX3_valueOfCutting_22 rfl (lv_at hl 0 rfl) ?_
      refine lv_iload_n hx hb dX3_valueOfCutting_23 rfl (lv_at hl 3 rfl) ?_
      obtain ⟨r102, hr102, h⟩ := x_bind h
      have hPr102 : va_P (xD G) vwCl [(q_this, .inr (3, [.int odds, .int days, .int dryDays, .int gain, .int loss, .int cost]))] s.heap := hP.sub [0] rfl
      refine x_calli (va_runV (As := [.int v3]) (rest := [.int 100, .int 1000, .int v2]) ⟨hx, hb, hml, hown, hts⟩ (kX3_tenthsOf l G s.heap hPr102 hr102) (cwV 1 hts gX3_valueOfCutting_X3_tenthsOf rfl rfl rfl (by decide +kernel) ⟨Nat.le_of_ble_eq_true rfl, Nat.le_of_ble_eq_true rfl⟩) (x_preV hE hS hP (ci := 3) (q0 := 0) rfl rfl) rfl rfl hl.1 rfl (lv_room (Nat.le_of_ble_eq_true rfl)) dX3_valueOfCutting_24 ⟨Nat.le_of_ble_eq_true rfl, Nat.le_of_ble_eq_true rfl⟩) ?_
      refine lv_imul hx hb dX3_valueOfCutting_27 ?_
      refine lv_isub hx hb dX3_valueOfCutting_28 ?_
      refine lv_imul hx hb dX3_valueOfCutting_29 ?_
      refine lv_sipush (v := 1000) hx hb dX3_valueOfCutting_30 (by decide) ?_
      refine lv_idiv hx hb dX3_valueOfCutting_33 (by decide) ?_
      refine lv_istore_n (lv' := [(2, .int ((v2 * (1000 - (100 * r102))) / 1000)), (0, .ref q_this), (1, .int v1), (3, .int v3)]) hx hb dX3_valueOfCutting_34 rfl hl (by decide) rfl (fun ls hl => ?_)
      refine lv_iinc (v := (v3 + 1)) (lv' := [(3, .int (v3 + 1)), (2, .int ((v2 * (1000 - (100 * r102))) / 1000)), (0, .ref q_this), (1, .int v1)]) hx hb dX3_valueOfCutting_35 hl (k := 3) rfl rfl (by decide) rfl (fun ls hl => ?_)
      refine lv_goto (tgt := 6) hx hb dX3_valueOfCutting_38 (by decide) ?_
      exact i1 (((v2 * (1000 - (100 * r102))) / 1000), (v3 + 1)) (by cases h; exact ho) ls (lv_sub hl [2, 3, 1, 0] rfl)
  unfold mX3_valueOfCutting at h
  refine lv_sipush (v := 1000) hx hb dX3_valueOfCutting_0 (by decide) ?_
  refine lv_istore_n (lv' := [(2, .int 1000), (0, .ref q_this), (1, .int p0)]) hx hb dX3_valueOfCutting_3 rfl hl (by decide) rfl (fun ls hl => ?_)
  refine lv_iload_n hx hb dX3_valueOfCutting_4 rfl (lv_at hl 2 rfl) ?_
  refine lv_istore_n (lv' := [(3, .int p0), (2, .int 1000), (0, .ref q_this), (1, .int p0)]) hx hb dX3_valueOfCutting_5 rfl hl (by decide) rfl (fun ls hl => ?_)
  exact J6 p0 1000 p0 ls (lv_sub hl [2, 3, 1, 0] rfl) _ h ho
noncomputable def mX3_valueFrom_b47 (odds : Int32) (days : Int32) (dryDays : Int32) (gain : Int32) (loss : Int32) (cost : Int32) (v1 : Int32) (v2 : Int32) (v3 : Int32) : Option (((Int32) ⊕ (Int32 × Int32))) :=
  some (.inr (v2, (v3 + (-1))))
noncomputable def mX3_valueFrom_s9 (odds : Int32) (days : Int32) (dryDays : Int32) (gain : Int32) (loss : Int32) (cost : Int32) (v1 : Int32) (v2 : Int32) (v3 : Int32) : Option (((Int32) ⊕ (Int32 × Int32))) :=
  if v3 < v1 then (some (.inl v2)) else ((mX3_canCut days dryDays v3).bind (fun r202 => if (xb r202) = 0 then (mX3_valueFrom_b47 odds days dryDays gain loss cost v1 ((if 0 < (v2 - (1000 * cost)) then (v2 - (1000 * cost)) else 0)) v3) else ((mX3_valueOfCutting odds days dryDays gain loss v3).bind (fun r204 => mX3_valueFrom_b47 odds days dryDays gain loss cost v1 ((if (if 0 < (v2 - (1000 * cost)) then (v2 - (1000 * cost)) else 0) < r204 then r204 else (if 0 < (v2 - (1000 * cost)) then (v2 - (1000 * cost)) else 0))) v3))))
noncomputable def mX3_valueFrom_b9 (odds : Int32) (days : Int32) (dryDays : Int32) (gain : Int32) (loss : Int32) (cost : Int32) (v1 : Int32) (v2 : Int32) (v3 : Int32) : Option (Int32) :=
  x_loop (fun q : Int32 × Int32 => mX3_valueFrom_s9 odds days dryDays gain loss cost v1 (q.1) (q.2)) (v2, v3)
noncomputable def mX3_valueFrom (odds : Int32) (days : Int32) (dryDays : Int32) (gain : Int32) (loss : Int32) (cost : Int32) (p0 : Int32) : Option (Int32) :=
  mX3_valueFrom_b9 odds days dryDays gain loss cost p0 0 ((days - 1))
set_option maxHeartbeats 4000000 in
set_option maxRecDepth 100000 in
theorem kX3_valueFrom (l : Launch) (G : xG) (H0 : Heap) {q_this : Nat} {odds : Int32} {days : Int32} {dryDays : Int32} {gain : Int32} {loss : Int32} {cost : Int32} {p0 : Int32} (hP : va_P (xD G) vwCl [(q_this, .inr (3, [.int odds, .int days, .int dryDays, .int gain, .int loss, .int cost]))] H0) {out : Int32} (h : mX3_valueFrom odds days dryDays gain loss cost p0 = some out) : Met l yX3_valueFrom wsX3_valueFrom ({ frames := 3, cells := 0, slots := 0, locals := 66 }) (xPc G H0 [.ref q_this, .int p0]) (xQi H0 (out)) 0 0 xN := by
  refine x_met (by decide) rfl (Nat.le_of_ble_eq_true rfl) ?_
  intro p e s m below meth c ls hH hA hl
  obtain ⟨hx, hb, hr, hlk, hml, hown, hts, hE⟩ := hA
  subst hH
  have hown : s.vm.findClass RX3 = some m.cls := hown
  have hl : lv_has ls 4 [(0, .ref q_this), (1, .int p0)] := hl
  have hS : va_S xN s.heap s.heap [] := va_S.rf
  have ho : out = out := rfl
  have J9 : ∀ (v1 : Int32) (v2 : Int32) (v3 : Int32) (ls : Array Slot), lv_has ls 4 [(0, .ref q_this), (1, .int v1), (2, .int v2), (3, .int v3)] → ∀ o : Int32, mX3_valueFrom_b9 odds days dryDays gain loss cost v1 v2 v3 = some o → (fun z => z = out) o → xW p l e ({ frames := 3, cells := 0, slots := 0, locals := 66 }) s m [.ref q_this, .int p0] below meth c (xQi s.heap (out)) (F0 m 9 ls []) := by
    intro v1 v2 v3 ls hl o h ho
    unfold mX3_valueFrom_b9 at h
    refine x_loop_walk (K := (fun z => z = out)) (motive := fun q : Int32 × Int32 => ∀ ls : Array Slot, lv_has ls 4 [(0, .ref q_this), (1, .int (v1)), (2, .int (q.1)), (3, .int (q.2))] → xW p l e ({ frames := 3, cells := 0, slots := 0, locals := 66 }) s m [.ref q_this, .int p0] below meth c (xQi s.heap (out)) (F0 m 9 ls [])) ?_ h ho ls hl
    intro K1 e1 i1 q o h ho
    obtain ⟨v2, v3⟩ := q
    intro ls hl
    have hl : lv_has ls 4 [(0, .ref q_this), (1, .int v1), (2, .int v2), (3, .int v3)] := hl
    replace h : mX3_valueFrom_s9 odds days dryDays gain loss cost v1 v2 v3 = some o := h
    unfold mX3_valueFrom_s9 at h
    have J47 : ∀ (v2 : Int32) (v3 : Int32) (ls : Array Slot), lv_has ls 4 [(0, .ref q_this), (1, .int v1), (2, .int v2), (3, .int v3)] → ∀ o : ((Int32) ⊕ (Int32 × Int32)), mX3_valueFrom_b47 odds days dryDays gain loss cost v1 v2 v3 = some o → K1 o → xW p l e ({ frames := 3, cells := 0, slots := 0, locals := 66 }) s m [.ref q_this, .int p0] below meth c (xQi s.heap (out)) (F0 m 47 ls []) := by
      intro v2 v3 ls hl o h ho
      unfold mX3_valueFrom_b47 at h
      refine lv_iinc (v := (v3 + (-1))) (lv' := [(3, .int (v3 + (-1))), (0, .ref q_this), (1, .int v1), (2, .int v2)]) hx hb dX3_valueFrom_47 hl (k := 3) rfl rfl (by decide) rfl (fun ls hl => ?_)
      refine lv_goto (tgt := 9) hx hb dX3_valueFrom_50 (by decide) ?_
      exact i1 (v2, (v3 + (-1))) (by cases h; exact ho) ls (lv_sub hl [1, 2, 3, 0] rfl)
    refine lv_iload_n hx hb dX3_valueFrom_9 rfl (lv_at hl 3 rfl) ?_
    refine lv_iload_n hx hb dX3_valueFrom_10 rfl (lv_at hl 1 rfl) ?_
    refine lv_icmp_lt (tgt := 53) hx hb dX3_valueFrom_11 (by decide) (fun hc201 => ?_) (fun hc201 => ?_)
    · replace h := (if_pos hc201).symm.trans h
      refine lv_iload_n hx hb dX3_valueFrom_53 rfl (lv_at hl 2 rfl) ?_
      have hq : v2 = out := by cases h; exact (e1 _ ho)
      subst hq
      exact x_iret hx hb hr hlk rfl rfl dX3_valueFrom_54
    · replace h := (if_neg hc201).symm.trans h
      refine lv_iconst (v := 0) hx hb dX3_valueFrom_14 (by decide) ?_
      refine lv_iload_n hx hb dX3_valueFrom_15 rfl (lv_at hl 2 rfl) ?_
      refine lv_sipush (v := 1000) hx hb dX3_valueFrom_16 (by decide) ?_
      refine lv_aload_n hx hb dX3_valueFrom_19 rfl (lv_at hl 0 rfl) ?_
      refine va_get (D := xD G) (ci := 3) (v := .int cost) (C := RX3) (T := TX3) (N := 6) hx hb hts (fun w9 h9 => (List.mem_cons_of_mem _ (List.mem_append_right _ h9))) hown hE.1 hP 0 rfl rfl 5 (by decide) (hts (.fieldLink RX3 27 "FallingGlass$Hay" "cost" "I") (List.mem_of_getElem? (i := 2) rfl)) (fun _ h9 => h9) rfl dX3_valueFrom_20 ?_
      refine lv_imul hx hb dX3_valueFrom_23 ?_
      refine lv_isub hx hb dX3_valueFrom_24 ?_
      refine va_mmax hx hb (hml.trans hl.1.symm) hown (hts (.methodLink RX3 42 Lib.Math.max.name) (List.mem_of_getElem? (i := 3) rfl)) (hts (.static Lib.Math.max.name) (List.mem_of_getElem? (i := 4) rfl)) (hts (.initialized "java/lang/Math") (List.mem_of_getElem? (i := 5) rfl)) (hts (.code Lib.Math.max.name Lib.Math.max.code 2 (some .int)) (List.mem_of_getElem? (i := 6) rfl)) (Nat.le_of_ble_eq_true rfl) (Nat.le_of_ble_eq_true rfl) (Nat.le_of_ble_eq_true rfl) (Nat.le_of_ble_eq_true rfl) dX3_valueFrom_25 ?_
      refine lv_istore_n (lv' := [(2, .int (if 0 < (v2 - (1000 * cost)) then (v2 - (1000 * cost)) else 0)), (0, .ref q_this), (1, .int v1), (3, .int v3)]) hx hb dX3_valueFrom_28 rfl hl (by decide) rfl (fun ls hl => ?_)
      refine lv_aload_n hx hb dX3_valueFrom_29 rfl (lv_at hl 1 rfl) ?_
      refine lv_iload_n hx hb dX3_valueFrom_30 rfl (lv_at hl 3 rfl) ?_
      obtain ⟨r202, hr202, h⟩ := x_bind h
      have hPr202 : va_P (xD G) vwCl [(q_this, .inr (3, [.int odds, .int days, .int dryDays, .int gain, .int loss, .int cost]))] s.heap := hP.sub [0] rfl
      refine x_calli (va_runV (As := [.int v3]) (rest := []) ⟨hx, hb, hml, hown, hts⟩ (kX3_canCut l G s.heap hPr202 hr202) (cwV 1 hts gX3_valueFrom_X3_canCut rfl rfl rfl (by decide +kernel) ⟨Nat.le_of_ble_eq_true rfl, Nat.le_of_ble_eq_true rfl⟩) (x_preV hE hS hP (ci := 3) (q0 := 0) rfl rfl) rfl rfl hl.1 rfl (lv_room (Nat.le_of_ble_eq_true rfl)) dX3_valueFrom_31 ⟨Nat.le_of_ble_eq_true rfl, Nat.le_of_ble_eq_true rfl⟩) ?_
      refine lv_if_eq (tgt := 47) hx hb dX3_valueFrom_34 (by decide) (fun hc203 => ?_) (fun hc203 => ?_)
      · replace h := (if_pos hc203).symm.trans h
        exact J47 ((if 0 < (v2 - (1000 * cost)) then (v2 - (1000 * cost)) else 0)) v3 ls (lv_sub hl [1, 2, 0, 3] rfl) _ h ho
      · replace h := (if_neg hc203).symm.trans h
        refine lv_iload_n hx hb dX3_valueFrom_37 rfl (lv_at hl 0 rfl) ?_
        refine lv_aload_n hx hb dX3_valueFrom_38 rfl (lv_at hl 1 rfl) ?_
        refine lv_iload_n hx hb dX3_valueFrom_39 rfl (lv_at hl 3 rfl) ?_
        obtain ⟨r204, hr204, h⟩ := x_bind h
        have hPr204 : va_P (xD G) vwCl [(q_this, .inr (3, [.int odds, .int days, .int dryDays, .int gain, .int loss, .int cost]))] s.heap := hP.sub [0] rfl
        refine x_calli (va_runV (As := [.int v3]) (rest := [.int (if 0 < (v2 - (1000 * cost)) then (v2 - (1000 * cost)) else 0)]) ⟨hx, hb, hml, hown, hts⟩ (kX3_valueOfCutting l G s.heap hPr204 hr204) (cwV 1 hts gX3_valueFrom_X3_valueOfCutting rfl rfl rfl (by decide +kernel) ⟨Nat.le_of_ble_eq_true rfl, Nat.le_of_ble_eq_true rfl⟩) (x_preV hE hS hP (ci := 3) (q0 := 0) rfl rfl) rfl rfl hl.1 rfl (lv_room (Nat.le_of_ble_eq_true rfl)) dX3_valueFrom_40 ⟨Nat.le_of_ble_eq_true rfl, Nat.le_of_ble_eq_true rfl⟩) ?_
        refine va_mmax hx hb (hml.trans hl.1.symm) hown (hts (.methodLink RX3 42 Lib.Math.max.name) (List.mem_of_getElem? (i := 3) rfl)) (hts (.static Lib.Math.max.name) (List.mem_of_getElem? (i := 4) rfl)) (hts (.initialized "java/lang/Math") (List.mem_of_getElem? (i := 5) rfl)) (hts (.code Lib.Math.max.name Lib.Math.max.code 2 (some .int)) (List.mem_of_getElem? (i := 6) rfl)) (Nat.le_of_ble_eq_true rfl) (Nat.le_of_ble_eq_true rfl) (Nat.le_of_ble_eq_true rfl) (Nat.le_of_ble_eq_true rfl) dX3_valueFrom_43 ?_
        refine lv_istore_n (lv' := [(2, .int (if (if 0 < (v2 - (1000 * cost)) then (v2 - (1000 * cost)) else 0) < r204 then r204 else (if 0 < (v2 - (1000 * cost)) then (v2 - (1000 * cost)) else 0))), (0, .ref q_this), (1, .int v1), (3, .int v3)]) hx hb dX3_valueFrom_46 rfl hl (by decide) rfl (fun ls hl => ?_)
        exact J47 ((if (if 0 < (v2 - (1000 * cost)) then (v2 - (1000 * cost)) else 0) < r204 then r204 else (if 0 < (v2 - (1000 * cost)) then (v2 - (1000 * cost)) else 0))) v3 ls (lv_sub hl [1, 2, 0, 3] rfl) _ h ho
  unfold mX3_valueFrom at h
  refine lv_iconst (v := 0) hx hb dX3_valueFrom_0 (by decide) ?_
  refine lv_istore_n (lv' := [(2, .int 0), (0, .ref q_this), (1, .int p0)]) hx hb dX3_valueFrom_1 rfl hl (by decide) rfl (fun ls hl => ?_)
  refine lv_aload_n hx hb dX3_valueFrom_2 rfl (lv_at hl 1 rfl) ?_
  refine va_get (D := xD G) (ci := 3) (v := .int days) (C := RX3) (T := TX3) (N := 6) hx hb hts (fun w9 h9 => (List.mem_cons_of_mem _ (List.mem_append_right _ h9))) hown hE.1 hP 0 rfl rfl 1 (by decide) (hts (.fieldLink RX3 15 "FallingGlass$Hay" "days" "I") (List.mem_of_getElem? (i := 1) rfl)) (fun _ h9 => h9) rfl dX3_valueFrom_3 ?_
  refine lv_iconst (v := 1) hx hb dX3_valueFrom_6 (by decide) ?_
  refine lv_isub hx hb dX3_valueFrom_7 ?_
  refine lv_istore_n (lv' := [(3, .int (days - 1)), (2, .int 0), (0, .ref q_this), (1, .int p0)]) hx hb dX3_valueFrom_8 rfl hl (by decide) rfl (fun ls hl => ?_)
  exact J9 p0 0 ((days - 1)) ls (lv_sub hl [2, 3, 1, 0] rfl) _ h ho
noncomputable def mX3_choiceOn (odds : Int32) (days : Int32) (dryDays : Int32) (gain : Int32) (loss : Int32) (cost : Int32) (p0 : Int32) : Option (Int32) :=
  (mX3_valueFrom odds days dryDays gain loss cost p0).bind (fun r501 => if r501 = 0 then (some 0) else ((mX3_canCut days dryDays p0).bind (fun r503 => if (xb r503) = 0 then (some 2) else ((mX3_valueOfCutting odds days dryDays gain loss p0).bind (fun r505 => if r501 = r505 then (some 1) else (some 2))))))
set_option maxHeartbeats 4000000 in
set_option maxRecDepth 100000 in
theorem kX3_choiceOn (l : Launch) (G : xG) (H0 : Heap) {q_this : Nat} {odds : Int32} {days : Int32} {dryDays : Int32} {gain : Int32} {loss : Int32} {cost : Int32} {p0 : Int32} (hP : va_P (xD G) vwCl [(q_this, .inr (3, [.int odds, .int days, .int dryDays, .int gain, .int loss, .int cost]))] H0) {out : Int32} (h : mX3_choiceOn odds days dryDays gain loss cost p0 = some out) : Met l yX3_choiceOn wsX3_choiceOn ({ frames := 4, cells := 0, slots := 0, locals := 89 }) (xPc G H0 [.ref q_this, .int p0]) (xQi H0 (out)) 0 0 xN := by
  refine x_met (by decide) rfl (Nat.le_of_ble_eq_true rfl) ?_
  intro p e s m below meth c ls hH hA hl
  obtain ⟨hx, hb, hr, hlk, hml, hown, hts, hE⟩ := hA
  subst hH
  have hown : s.vm.findClass RX3 = some m.cls := hown
  have hl : lv_has ls 3 [(0, .ref q_this), (1, .int p0)] := hl
  have hS : va_S xN s.heap s.heap [] := va_S.rf
  have ho : out = out := rfl
  unfold mX3_choiceOn at h
  refine lv_aload_n hx hb dX3_choiceOn_0 rfl (lv_at hl 0 rfl) ?_
  refine lv_iload_n hx hb dX3_choiceOn_1 rfl (lv_at hl 1 rfl) ?_
  obtain ⟨r501, hr501, h⟩ := x_bind h
  have hPr501 : va_P (xD G) vwCl [(q_this, .inr (3, [.int odds, .int days, .int dryDays, .int gain, .int loss, .int cost]))] s.heap := hP.sub [0] rfl
  refine x_calli (va_runV (As := [.int p0]) (rest := []) ⟨hx, hb, hml, hown, hts⟩ (kX3_valueFrom l G s.heap hPr501 hr501) (cwV 1 hts gX3_choiceOn_X3_valueFrom rfl rfl rfl (by decide +kernel) ⟨Nat.le_of_ble_eq_true rfl, Nat.le_of_ble_eq_true rfl⟩) (x_preV hE hS hP (ci := 3) (q0 := 0) rfl rfl) rfl rfl hl.1 rfl (lv_room (Nat.le_of_ble_eq_true rfl)) dX3_choiceOn_2 ⟨Nat.le_of_ble_eq_true rfl, Nat.le_of_ble_eq_true rfl⟩) ?_
  refine lv_istore_n (lv' := [(2, .int r501), (0, .ref q_this), (1, .int p0)]) hx hb dX3_choiceOn_5 rfl hl (by decide) rfl (fun ls hl => ?_)
  refine lv_iload_n hx hb dX3_choiceOn_6 rfl (lv_at hl 0 rfl) ?_
  refine lv_if_ne (tgt := 12) hx hb dX3_choiceOn_7 (by decide) (fun hc502 => ?_) (fun hc502 => ?_)
  · replace h := (if_neg hc502).symm.trans h
    refine lv_aload_n hx hb dX3_choiceOn_12 rfl (lv_at hl 1 rfl) ?_
    refine lv_iload_n hx hb dX3_choiceOn_13 rfl (lv_at hl 2 rfl) ?_
    obtain ⟨r503, hr503, h⟩ := x_bind h
    have hPr503 : va_P (xD G) vwCl [(q_this, .inr (3, [.int odds, .int days, .int dryDays, .int gain, .int loss, .int cost]))] s.heap := hP.sub [0] rfl
    refine x_calli (va_runV (As := [.int p0]) (rest := []) ⟨hx, hb, hml, hown, hts⟩ (kX3_canCut l G s.heap hPr503 hr503) (cwV 1 hts gX3_choiceOn_X3_canCut rfl rfl rfl (by decide +kernel) ⟨Nat.le_of_ble_eq_true rfl, Nat.le_of_ble_eq_true rfl⟩) (x_preV hE hS hP (ci := 3) (q0 := 0) rfl rfl) rfl rfl hl.1 rfl (lv_room (Nat.le_of_ble_eq_true rfl)) dX3_choiceOn_14 ⟨Nat.le_of_ble_eq_true rfl, Nat.le_of_ble_eq_true rfl⟩) ?_
    refine lv_if_eq (tgt := 33) hx hb dX3_choiceOn_17 (by decide) (fun hc504 => ?_) (fun hc504 => ?_)
    · replace h := (if_pos hc504).symm.trans h
      refine lv_iconst (v := 2) hx hb dX3_choiceOn_33 (by decide) ?_
      have hq : 2 = out := by cases h; exact ho
      subst hq
      exact x_iret hx hb hr hlk rfl rfl dX3_choiceOn_34
    · replace h := (if_neg hc504).symm.trans h
      refine lv_iload_n hx hb dX3_choiceOn_20 rfl (lv_at hl 0 rfl) ?_
      refine lv_aload_n hx hb dX3_choiceOn_21 rfl (lv_at hl 1 rfl) ?_
      refine lv_iload_n hx hb dX3_choiceOn_22 rfl (lv_at hl 2 rfl) ?_
      obtain ⟨r505, hr505, h⟩ := x_bind h
      have hPr505 : va_P (xD G) vwCl [(q_this, .inr (3, [.int odds, .int days, .int dryDays, .int gain, .int loss, .int cost]))] s.heap := hP.sub [0] rfl
      refine x_calli (va_runV (As := [.int p0]) (rest := [.int r501]) ⟨hx, hb, hml, hown, hts⟩ (kX3_valueOfCutting l G s.heap hPr505 hr505) (cwV 1 hts gX3_choiceOn_X3_valueOfCutting rfl rfl rfl (by decide +kernel) ⟨Nat.le_of_ble_eq_true rfl, Nat.le_of_ble_eq_true rfl⟩) (x_preV hE hS hP (ci := 3) (q0 := 0) rfl rfl) rfl rfl hl.1 rfl (lv_room (Nat.le_of_ble_eq_true rfl)) dX3_choiceOn_23 ⟨Nat.le_of_ble_eq_true rfl, Nat.le_of_ble_eq_true rfl⟩) ?_
      refine lv_icmp_ne (tgt := 33) hx hb dX3_choiceOn_26 (by decide) (fun hc506 => ?_) (fun hc506 => ?_)
      · replace h := (if_neg hc506).symm.trans h
        refine lv_iconst (v := 2) hx hb dX3_choiceOn_33 (by decide) ?_
        have hq : 2 = out := by cases h; exact ho
        subst hq
        exact x_iret hx hb hr hlk rfl rfl dX3_choiceOn_34
      · replace h := (if_pos hc506).symm.trans h
        refine lv_iconst (v := 1) hx hb dX3_choiceOn_29 (by decide) ?_
        refine lv_goto (tgt := 34) hx hb dX3_choiceOn_30 (by decide) ?_
        have hq : 1 = out := by cases h; exact ho
        subst hq
        exact x_iret hx hb hr hlk rfl rfl dX3_choiceOn_34
  · replace h := (if_pos hc502).symm.trans h
    refine lv_iconst (v := 0) hx hb dX3_choiceOn_10 (by decide) ?_
    have hq : 0 = out := by cases h; exact ho
    subst hq
    exact x_iret hx hb hr hlk rfl rfl dX3_choiceOn_11
noncomputable def mX6_erase_s2 (n_this : Nat)  (v1 : Int32) (squares : (Nat → Int32)) (days : (Nat → Int32)) : Option ((((Nat → Int32) × (Nat → Int32)) ⊕ (Int32 × (Nat → Int32) × (Nat → Int32)))) :=
  if (Int32.ofNat n_this) ≤ v1 then (some (.inl (squares, days))) else ((mX9_put n_this squares v1 0).bind (fun r102 => (mX9_put n_this days v1 0).bind (fun r103 => some (.inr ((v1 + 1), r102, r103)))))
noncomputable def mX6_erase_b2 (n_this : Nat) (squares : Nat → Int32) (days : Nat → Int32) (v1 : Int32) : Option ((Nat → Int32) × (Nat → Int32)) :=
  x_loop (fun q : Int32 × (Nat → Int32) × (Nat → Int32) => mX6_erase_s2 n_this (q.1) (q.2.1) (q.2.2)) (v1, squares, days)
noncomputable def mX6_erase (n_this : Nat) (squares : Nat → Int32) (days : Nat → Int32)  : Option ((Nat → Int32) × (Nat → Int32)) :=
  mX6_erase_b2 n_this squares days 0
set_option maxHeartbeats 4000000 in
set_option maxRecDepth 100000 in
theorem kX6_erase (l : Launch) (G : xG) (H0 : Heap) {q_this q_squares q_days n_this : Nat} {squares : Nat → Int32} {days : Nat → Int32} (w0 : va_W) (hw0 : w0 = [(q_this, .inr (6, [.ref q_squares, .ref q_days])), (q_squares, .inl (xy G 0, n_this, .inl squares)), (q_days, .inl (xy G 0, n_this, .inl days))]) (hP : va_P (xD G) vwCl w0 H0) (hD : va_D (fun _ => True) w0) {out : (Nat → Int32) × (Nat → Int32)} (h : mX6_erase n_this squares days = some out) : Met l yX6_erase wsX6_erase ({ frames := 1, cells := 0, slots := 0, locals := 22 }) (xPcw G (va_A w0 H0.size) H0 [.ref q_this]) (xRv G (va_A w0 H0.size) [(q_this, .inr (6, [.ref q_squares, .ref q_days])), (q_squares, .inl (xy G 0, n_this, .inl out.1)), (q_days, .inl (xy G 0, n_this, .inl out.2))]) 0 0 (va_A w0 H0.size) := by
  refine x_metw (y := yX6_erase) (ws := wsX6_erase) (rm := { frames := 1, cells := 0, slots := 0, locals := 22 }) (G := G) (H0 := H0) (w0 := w0) (av := [.ref q_this]) (mc := 0) (ms := 0) (Qc := (fun A => (xRv G A [(q_this, .inr (6, [.ref q_squares, .ref q_days])), (q_squares, .inl (xy G 0, n_this, .inl out.1)), (q_days, .inl (xy G 0, n_this, .inl out.2))]))) (by decide) rfl (Nat.le_of_ble_eq_true rfl) hP hD ?_
  clear hP hD
  intro p e s m below meth c ls A H locs hA hAt hnm hl hP hD hS
  subst hw0
  obtain ⟨hx, hb, hr, hlk, hml, hown, hts, hE⟩ := hAt
  have hown : s.vm.findClass RX6 = some m.cls := hown
  have hl : lv_has ls 2 [(0, .ref q_this)] := hl
  have ho : out = out := rfl
  have J2 : ∀ (squares : Nat → Int32) (days : Nat → Int32) (v1 : Int32) (ls : Array Slot), lv_has ls 2 [(0, .ref q_this), (1, .int v1)] → ∀ o : (Nat → Int32) × (Nat → Int32), mX6_erase_b2 n_this squares days v1 = some o → (fun z => z = out) o → ∀ (H : Heap) (locs : List Loc), va_P (xD G) vwCl [(q_this, .inr (6, [.ref q_squares, .ref q_days])), (q_squares, .inl (xy G 0, n_this, .inl squares)), (q_days, .inl (xy G 0, n_this, .inl days))] H → va_D A [(q_this, .inr (6, [.ref q_squares, .ref q_days])), (q_squares, .inl (xy G 0, n_this, .inl squares)), (q_days, .inl (xy G 0, n_this, .inl days))] → va_S A s.heap H locs → xV p l e ({ frames := 1, cells := 0, slots := 0, locals := 22 }) s m [.ref q_this] below meth c H locs 0 0 0 0 A (xRv G A [(q_this, .inr (6, [.ref q_squares, .ref q_days])), (q_squares, .inl (xy G 0, n_this, .inl out.1)), (q_days, .inl (xy G 0, n_this, .inl out.2))]) (F0 m 2 ls []) := by
    intro squares days v1 ls hl o h ho H locs hP hD hS
    unfold mX6_erase_b2 at h
    refine x_loop_walk (K := (fun z => z = out)) (motive := fun q : Int32 × (Nat → Int32) × (Nat → Int32) => ∀ ls : Array Slot, lv_has ls 2 [(0, .ref q_this), (1, .int (q.1))] → ∀ (H : Heap) (locs : List Loc), va_P (xD G) vwCl [(q_this, .inr (6, [.ref q_squares, .ref q_days])), (q_squares, .inl (xy G 0, n_this, .inl (q.2.1))), (q_days, .inl (xy G 0, n_this, .inl (q.2.2)))] H → va_D A [(q_this, .inr (6, [.ref q_squares, .ref q_days])), (q_squares, .inl (xy G 0, n_this, .inl (q.2.1))), (q_days, .inl (xy G 0, n_this, .inl (q.2.2)))] → va_S A s.heap H locs → xV p l e ({ frames := 1, cells := 0, slots := 0, locals := 22 }) s m [.ref q_this] below meth c H locs 0 0 0 0 A (xRv G A [(q_this, .inr (6, [.ref q_squares, .ref q_days])), (q_squares, .inl (xy G 0, n_this, .inl out.1)), (q_days, .inl (xy G 0, n_this, .inl out.2))]) (F0 m 2 ls [])) ?_ h ho ls hl H locs hP hD hS
    clear hP hD hS
    intro K1 e1 i1 q o h ho
    obtain ⟨v1, squares, days⟩ := q
    intro ls hl H locs hP hD hS
    have hl : lv_has ls 2 [(0, .ref q_this), (1, .int v1)] := hl
    have hP : va_P (xD G) vwCl [(q_this, .inr (6, [.ref q_squares, .ref q_days])), (q_squares, .inl (xy G 0, n_this, .inl squares)), (q_days, .inl (xy G 0, n_this, .inl days))] H := hP
    have hD : va_D A [(q_this, .inr (6, [.ref q_squares, .ref q_days])), (q_squares, .inl (xy G 0, n_this, .inl squares)), (q_days, .inl (xy G 0, n_this, .inl days))] := hD
    replace h : mX6_erase_s2 n_this v1 squares days = some o := h
    unfold mX6_erase_s2 at h
    refine lv_iload_n hx hb dX6_erase_2 rfl (lv_at hl 1 rfl) ?_
    refine lv_aload_n hx hb dX6_erase_3 rfl (lv_at hl 0 rfl) ?_
    refine va_get (D := xD G) (ci := 6) (v := .ref q_days) (C := RX6) (T := TX6) (N := 2) hx hb hts (fun w9 h9 => (List.mem_cons_of_mem _ (List.mem_append_right _ h9))) hown hE.1 hP 0 rfl rfl 1 (by decide) (hts (.fieldLink RX6 21 "FallingGlass$Scores" "days" "[I") (List.mem_of_getElem? (i := 1) rfl)) (fun _ h9 => h9) rfl dX6_erase_4 ?_
    refine va_alen (D := xD G) (v := (Int32.ofNat n_this)) hx hb hE.1 hP 2 0 rfl rfl rfl dX6_erase_7 ?_
    refine lv_icmp_ge (tgt := 35) hx hb dX6_erase_8 (by decide) (fun hc101 => ?_) (fun hc101 => ?_)
    · replace h := (if_pos hc101).symm.trans h
      have hq : (squares, days) = out := by cases h; exact (e1 _ ho)
      subst hq
      have hP : va_P (xD G) vwCl [(q_this, .inr (6, [.ref q_squares, .ref q_days])), (q_squares, .inl (xy G 0, n_this, .inl squares)), (q_days, .inl (xy G 0, n_this, .inl days))] H := hP
      have hD : va_D A [(q_this, .inr (6, [.ref q_squares, .ref q_days])), (q_squares, .inl (xy G 0, n_this, .inl squares)), (q_days, .inl (xy G 0, n_this, .inl days))] := hD
      exact x_vretw hx hb hr hlk hP hD hS dX6_erase_35
    · replace h := (if_neg hc101).symm.trans h
      refine lv_aload_n hx hb dX6_erase_11 rfl (lv_at hl 0 rfl) ?_
      refine va_get (D := xD G) (ci := 6) (v := .ref q_squares) (C := RX6) (T := TX6) (N := 2) hx hb hts (fun w9 h9 => (List.mem_cons_of_mem _ (List.mem_append_right _ h9))) hown hE.1 hP 0 rfl rfl 0 (by decide) (hts (.fieldLink RX6 15 "FallingGlass$Scores" "squares" "[I") (List.mem_of_getElem? (i := 2) rfl)) (fun _ h9 => h9) rfl dX6_erase_12 ?_
      refine lv_iload_n hx hb dX6_erase_15 rfl (lv_at hl 1 rfl) ?_
      refine lv_iconst (v := 0) hx hb dX6_erase_16 (by decide) ?_
      obtain ⟨r102, hr102, h⟩ := x_bind h
      have hPr102 : va_P (xD G) vwCl [(q_squares, .inl (xy G 0, n_this, .inl squares))] H := hP.sub [1] rfl
      have hDr102 : va_D A [(q_squares, .inl (xy G 0, n_this, .inl squares))] := hD.sub [1] (by decide) rfl
      have hFr102 := va_free (wc := [(q_squares, .inl (xy G 0, n_this, .inl squares))]) hD hS hA [1] rfl
      refine x_callwv (wc := [(q_squares, .inl (xy G 0, n_this, .inl squares))]) (w1 := [(q_squares, .inl (xy G 0, n_this, .inl r102))]) (ws' := [(q_this, .inr (6, [.ref q_squares, .ref q_days])), (q_squares, .inl (xy G 0, n_this, .inl r102)), (q_days, .inl (xy G 0, n_this, .inl days))]) (va_runSN (As := [.ref q_squares, .int v1, .int 0]) (rest := []) ⟨hx, hb, hml, hown, hts⟩ (kX9_put l G H [(q_squares, .inl (xy G 0, n_this, .inl squares))] rfl hPr102 (hDr102.weaken (fun _ _ _ _ => trivial)) hr102) ⟨va_cnB 3 hts gX6_erase_X9_put_n24 rfl rfl rfl (hE.nm 16 rfl) (hts (.initialized RX9) (List.mem_of_getElem? (i := 4) rfl)) (by decide +kernel) ⟨Nat.le_of_ble_eq_true rfl, Nat.le_of_ble_eq_true rfl⟩, (hts (.static yX9_put) (List.mem_of_getElem? (i := 3) rfl)), trivial⟩ (x_preSw hE hS hFr102) rfl rfl hl.1 rfl (lv_room (Nat.le_of_ble_eq_true rfl)) dX6_erase_17 ⟨Nat.le_of_ble_eq_true rfl, Nat.le_of_ble_eq_true rfl⟩) hP hD hS hFr102 [1] [none, some 0, none] (n := 3) (by decide) rfl rfl rfl (fun H locs hP hD hS => ?_)
      refine lv_aload_n hx hb dX6_erase_20 rfl (lv_at hl 0 rfl) ?_
      refine va_get (D := xD G) (ci := 6) (v := .ref q_days) (C := RX6) (T := TX6) (N := 2) hx hb hts (fun w9 h9 => (List.mem_cons_of_mem _ (List.mem_append_right _ h9))) hown hE.1 hP 0 rfl rfl 1 (by decide) (hts (.fieldLink RX6 21 "FallingGlass$Scores" "days" "[I") (List.mem_of_getElem? (i := 1) rfl)) (fun _ h9 => h9) rfl dX6_erase_21 ?_
      refine lv_iload_n hx hb dX6_erase_24 rfl (lv_at hl 1 rfl) ?_
      refine lv_iconst (v := 0) hx hb dX6_erase_25 (by decide) ?_
      obtain ⟨r103, hr103, h⟩ := x_bind h
      have hPr103 : va_P (xD G) vwCl [(q_days, .inl (xy G 0, n_this, .inl days))] H := hP.sub [2] rfl
      have hDr103 : va_D A [(q_days, .inl (xy G 0, n_this, .inl days))] := hD.sub [2] (by decide) rfl
      have hFr103 := va_free (wc := [(q_days, .inl (xy G 0, n_this, .inl days))]) hD hS hA [2] rfl
      refine x_callwv (wc := [(q_days, .inl (xy G 0, n_this, .inl days))]) (w1 := [(q_days, .inl (xy G 0, n_this, .inl r103))]) (ws' := [(q_this, .inr (6, [.ref q_squares, .ref q_days])), (q_squares, .inl (xy G 0, n_this, .inl r102)), (q_days, .inl (xy G 0, n_this, .inl r103))]) (va_runSN (As := [.ref q_days, .int v1, .int 0]) (rest := []) ⟨hx, hb, hml, hown, hts⟩ (kX9_put l G H [(q_days, .inl (xy G 0, n_this, .inl days))] rfl hPr103 (hDr103.weaken (fun _ _ _ _ => trivial)) hr103) ⟨va_cnB 3 hts gX6_erase_X9_put_n24 rfl rfl rfl (hE.nm 16 rfl) (hts (.initialized RX9) (List.mem_of_getElem? (i := 4) rfl)) (by decide +kernel) ⟨Nat.le_of_ble_eq_true rfl, Nat.le_of_ble_eq_true rfl⟩, (hts (.static yX9_put) (List.mem_of_getElem? (i := 3) rfl)), trivial⟩ (x_preSw hE hS hFr103) rfl rfl hl.1 rfl (lv_room (Nat.le_of_ble_eq_true rfl)) dX6_erase_26 ⟨Nat.le_of_ble_eq_true rfl, Nat.le_of_ble_eq_true rfl⟩) hP hD hS hFr103 [2] [none, none, some 0] (n := 3) (by decide) rfl rfl rfl (fun H locs hP hD hS => ?_)
      refine lv_iinc (v := (v1 + 1)) (lv' := [(1, .int (v1 + 1)), (0, .ref q_this)]) hx hb dX6_erase_29 hl (k := 1) rfl rfl (by decide) rfl (fun ls hl => ?_)
      refine lv_goto (tgt := 2) hx hb dX6_erase_32 (by decide) ?_
      have hP : va_P (xD G) vwCl [(q_this, .inr (6, [.ref q_squares, .ref q_days])), (q_squares, .inl (xy G 0, n_this, .inl r102)), (q_days, .inl (xy G 0, n_this, .inl r103))] H := hP
      exact i1 ((v1 + 1), r102, r103) (by cases h; exact ho) ls (lv_sub hl [1, 0] rfl) H locs hP hD hS
  unfold mX6_erase at h
  refine lv_iconst (v := 0) hx hb dX6_erase_0 (by decide) ?_
  refine lv_istore_n (lv' := [(1, .int 0), (0, .ref q_this)]) hx hb dX6_erase_1 rfl hl (by decide) rfl (fun ls hl => ?_)
  have hP : va_P (xD G) vwCl [(q_this, .inr (6, [.ref q_squares, .ref q_days])), (q_squares, .inl (xy G 0, n_this, .inl squares)), (q_days, .inl (xy G 0, n_this, .inl days))] H := hP
  exact J2  squares days 0 ls (lv_sub hl [1, 0] rfl) _ h ho H locs hP hD hS
noncomputable def mX4_addSupersets_b44 (n_a0 : Nat) (a0 : Nat → Int32) (v1 : Int32) (v2 : Int32) (v3 : Int32) : Option ((((((Nat → Int32)) ⊕ (Int32 × (Nat → Int32)))) ⊕ (Int32 × (Nat → Int32)))) :=
  some (.inr ((v3 + 1), a0))
noncomputable def mX4_addSupersets_s14 (n_a0 : Nat) (v1 : Int32) (v2 : Int32) (v3 : Int32) (a0 : (Nat → Int32)) : Option ((((((Nat → Int32)) ⊕ (Int32 × (Nat → Int32)))) ⊕ (Int32 × (Nat → Int32)))) :=
  if 64 ≤ v3 then (some (.inl (.inr ((v1 + 1), a0)))) else (if (v3 &&& v2) = 0 then ((mX9_at n_a0 a0 v3).bind (fun r203 => (mX9_at n_a0 a0 ((v3 ||| v2))).bind (fun r204 => (mX9_put n_a0 a0 v3 ((r203 + r204))).bind (fun r205 => mX4_addSupersets_b44 n_a0 r205 v1 v2 v3)))) else (mX4_addSupersets_b44 n_a0 a0 v1 v2 v3))
noncomputable def mX4_addSupersets_b14 (n_a0 : Nat) (a0 : Nat → Int32) (v1 : Int32) (v2 : Int32) (v3 : Int32) : Option ((((Nat → Int32)) ⊕ (Int32 × (Nat → Int32)))) :=
  x_loop (fun q : Int32 × (Nat → Int32) => mX4_addSupersets_s14 n_a0 v1 v2 (q.1) (q.2)) (v3, a0)
noncomputable def mX4_addSupersets_s2 (n_a0 : Nat)  (v1 : Int32) (a0 : (Nat → Int32)) : Option ((((Nat → Int32)) ⊕ (Int32 × (Nat → Int32)))) :=
  if 6 ≤ v1 then (some (.inl a0)) else (mX4_addSupersets_b14 n_a0 a0 v1 ((1 <<< (v1 &&& 31))) 0)
noncomputable def mX4_addSupersets_b2 (n_a0 : Nat) (a0 : Nat → Int32) (v1 : Int32) : Option ((Nat → Int32)) :=
  x_loop (fun q : Int32 × (Nat → Int32) => mX4_addSupersets_s2 n_a0 (q.1) (q.2)) (v1, a0)
noncomputable def mX4_addSupersets (n_a0 : Nat) (a0 : Nat → Int32)  : Option ((Nat → Int32)) :=
  mX4_addSupersets_b2 n_a0 a0 0
set_option maxHeartbeats 4000000 in
set_option maxRecDepth 100000 in
theorem kX4_addSupersets (l : Launch) (G : xG) (H0 : Heap) {q_a0 n_a0 : Nat} {a0 : Nat → Int32} (w0 : va_W) (hw0 : w0 = [(q_a0, .inl (xy G 0, n_a0, .inl a0))]) (hP : va_P (xD G) vwCl w0 H0) (hD : va_D (fun _ => True) w0) {out : (Nat → Int32)} (h : mX4_addSupersets n_a0 a0 = some out) : Met l yX4_addSupersets wsX4_addSupersets ({ frames := 1, cells := 0, slots := 0, locals := 22 }) (xPcw G (va_A w0 H0.size) H0 [.ref q_a0]) (xRv G (va_A w0 H0.size) [(q_a0, .inl (xy G 0, n_a0, .inl out))]) 0 0 (va_A w0 H0.size) := by
  refine x_metw (y := yX4_addSupersets) (ws := wsX4_addSupersets) (rm := { frames := 1, cells := 0, slots := 0, locals := 22 }) (G := G) (H0 := H0) (w0 := w0) (av := [.ref q_a0]) (mc := 0) (ms := 0) (Qc := (fun A => (xRv G A [(q_a0, .inl (xy G 0, n_a0, .inl out))]))) (by decide) rfl (Nat.le_of_ble_eq_true rfl) hP hD ?_
  clear hP hD
  intro p e s m below meth c ls A H locs hA hAt hnm hl hP hD hS
  subst hw0
  obtain ⟨hx, hb, hr, hlk, hml, hown, hts, hE⟩ := hAt
  have hown : s.vm.findClass RX4 = some m.cls := hown
  have hl : lv_has ls 4 [(0, .ref q_a0)] := hl
  have ho : out = out := rfl
  have J2 : ∀ (a0 : Nat → Int32) (v1 : Int32) (ls : Array Slot), lv_has ls 4 [(0, .ref q_a0), (1, .int v1)] → ∀ o : (Nat → Int32), mX4_addSupersets_b2 n_a0 a0 v1 = some o → (fun z => z = out) o → ∀ (H : Heap) (locs : List Loc), va_P (xD G) vwCl [(q_a0, .inl (xy G 0, n_a0, .inl a0))] H → va_D A [(q_a0, .inl (xy G 0, n_a0, .inl a0))] → va_S A s.heap H locs → xV p l e ({ frames := 1, cells := 0, slots := 0, locals := 22 }) s m [.ref q_a0] below meth c H locs 0 0 0 0 A (xRv G A [(q_a0, .inl (xy G 0, n_a0, .inl out))]) (F0 m 2 ls []) := by
    intro a0 v1 ls hl o h ho H locs hP hD hS
    unfold mX4_addSupersets_b2 at h
    refine x_loop_walk (K := (fun z => z = out)) (motive := fun q : Int32 × (Nat → Int32) => ∀ ls : Array Slot, lv_has ls 4 [(0, .ref q_a0), (1, .int (q.1))] → ∀ (H : Heap) (locs : List Loc), va_P (xD G) vwCl [(q_a0, .inl (xy G 0, n_a0, .inl (q.2)))] H → va_D A [(q_a0, .inl (xy G 0, n_a0, .inl (q.2)))] → va_S A s.heap H locs → xV p l e ({ frames := 1, cells := 0, slots := 0, locals := 22 }) s m [.ref q_a0] below meth c H locs 0 0 0 0 A (xRv G A [(q_a0, .inl (xy G 0, n_a0, .inl out))]) (F0 m 2 ls [])) ?_ h ho ls hl H locs hP hD hS
    clear hP hD hS
    intro K1 e1 i1 q o h ho
    obtain ⟨v1, a0⟩ := q
    intro ls hl H locs hP hD hS
    have hl : lv_has ls 4 [(0, .ref q_a0), (1, .int v1)] := hl
    have hP : va_P (xD G) vwCl [(q_a0, .inl (xy G 0, n_a0, .inl a0))] H := hP
    have hD : va_D A [(q_a0, .inl (xy G 0, n_a0, .inl a0))] := hD
    replace h : mX4_addSupersets_s2 n_a0 v1 a0 = some o := h
    unfold mX4_addSupersets_s2 at h
    have J14 : ∀ (a0 : Nat → Int32) (v1 : Int32) (v2 : Int32) (v3 : Int32) (ls : Array Slot), lv_has ls 4 [(0, .ref q_a0), (1, .int v1), (2, .int v2), (3, .int v3)] → ∀ o : (((Nat → Int32)) ⊕ (Int32 × (Nat → Int32))), mX4_addSupersets_b14 n_a0 a0 v1 v2 v3 = some o → K1 o → ∀ (H : Heap) (locs : List Loc), va_P (xD G) vwCl [(q_a0, .inl (xy G 0, n_a0, .inl a0))] H → va_D A [(q_a0, .inl (xy G 0, n_a0, .inl a0))] → va_S A s.heap H locs → xV p l e ({ frames := 1, cells := 0, slots := 0, locals := 22 }) s m [.ref q_a0] below meth c H locs 0 0 0 0 A (xRv G A [(q_a0, .inl (xy G 0, n_a0, .inl out))]) (F0 m 14 ls []) := by
      intro a0 v1 v2 v3 ls hl o h ho H locs hP hD hS
      unfold mX4_addSupersets_b14 at h
      refine x_loop_walk (K := K1) (motive := fun q : Int32 × (Nat → Int32) => ∀ ls : Array Slot, lv_has ls 4 [(0, .ref q_a0), (1, .int (v1)), (2, .int (v2)), (3, .int (q.1))] → ∀ (H : Heap) (locs : List Loc), va_P (xD G) vwCl [(q_a0, .inl (xy G 0, n_a0, .inl (q.2)))] H → va_D A [(q_a0, .inl (xy G 0, n_a0, .inl (q.2)))] → va_S A s.heap H locs → xV p l e ({ frames := 1, cells := 0, slots := 0, locals := 22 }) s m [.ref q_a0] below meth c H locs 0 0 0 0 A (xRv G A [(q_a0, .inl (xy G 0, n_a0, .inl out))]) (F0 m 14 ls [])) ?_ h ho ls hl H locs hP hD hS
      clear hP hD hS
      intro K2 e2 i2 q o h ho
      obtain ⟨v3, a0⟩ := q
      intro ls hl H locs hP hD hS
      have hl : lv_has ls 4 [(0, .ref q_a0), (1, .int v1), (2, .int v2), (3, .int v3)] := hl
      have hP : va_P (xD G) vwCl [(q_a0, .inl (xy G 0, n_a0, .inl a0))] H := hP
      have hD : va_D A [(q_a0, .inl (xy G 0, n_a0, .inl a0))] := hD
      replace h : mX4_addSupersets_s14 n_a0 v1 v2 v3 a0 = some o := h
      unfold mX4_addSupersets_s14 at h
      have J44 : ∀ (a0 : Nat → Int32) (v3 : Int32) (ls : Array Slot), lv_has ls 4 [(0, .ref q_a0), (1, .int v1), (2, .int v2), (3, .int v3)] → ∀ o : (((((Nat → Int32)) ⊕ (Int32 × (Nat → Int32)))) ⊕ (Int32 × (Nat → Int32))), mX4_addSupersets_b44 n_a0 a0 v1 v2 v3 = some o → K2 o → ∀ (H : Heap) (locs : List Loc), va_P (xD G) vwCl [(q_a0, .inl (xy G 0, n_a0, .inl a0))] H → va_D A [(q_a0, .inl (xy G 0, n_a0, .inl a0))] → va_S A s.heap H locs → xV p l e ({ frames := 1, cells := 0, slots := 0, locals := 22 }) s m [.ref q_a0] below meth c H locs 0 0 0 0 A (xRv G A [(q_a0, .inl (xy G 0, n_a0, .inl out))]) (F0 m 44 ls []) := by
        intro a0 v3 ls hl o h ho H locs hP hD hS
        unfold mX4_addSupersets_b44 at h
        refine lv_iinc (v := (v3 + 1)) (lv' := [(3, .int (v3 + 1)), (0, .ref q_a0), (1, .int v1), (2, .int v2)]) hx hb dX4_addSupersets_44 hl (k := 3) rfl rfl (by decide) rfl (fun ls hl => ?_)
        refine lv_goto (tgt := 14) hx hb dX4_addSupersets_47 (by decide) ?_
        have hP : va_P (xD G) vwCl [(q_a0, .inl (xy G 0, n_a0, .inl a0))] H := hP
        exact i2 ((v3 + 1), a0) (by cases h; exact ho) ls (lv_sub hl [1, 2, 3, 0] rfl) H locs hP hD hS
      refine lv_iload_n hx hb dX4_addSupersets_14 rfl (lv_at hl 3 rfl) ?_
      refine lv_bipush (v := 64) hx hb dX4_addSupersets_15 (by decide) ?_
      refine lv_icmp_ge (tgt := 50) hx hb dX4_addSupersets_17 (by decide) (fun hc201 => ?_) (fun hc201 => ?_)
      · replace h := (if_pos hc201).symm.trans h
        refine lv_iinc (v := (v1 + 1)) (lv' := [(1, .int (v1 + 1)), (0, .ref q_a0), (2, .int v2), (3, .int v3)]) hx hb dX4_addSupersets_50 hl (k := 1) rfl rfl (by decide) rfl (fun ls hl => ?_)
        refine lv_goto (tgt := 2) hx hb dX4_addSupersets_53 (by decide) ?_
        have hP : va_P (xD G) vwCl [(q_a0, .inl (xy G 0, n_a0, .inl a0))] H := hP
        exact i1 ((v1 + 1), a0) (by cases h; exact (e2 _ ho)) ls (lv_sub hl [1, 0] rfl) H locs hP hD hS
      · replace h := (if_neg hc201).symm.trans h
        refine lv_iload_n hx hb dX4_addSupersets_20 rfl (lv_at hl 3 rfl) ?_
        refine lv_iload_n hx hb dX4_addSupersets_21 rfl (lv_at hl 2 rfl) ?_
        refine lv_iand hx hb dX4_addSupersets_22 ?_
        refine lv_if_ne (tgt := 44) hx hb dX4_addSupersets_23 (by decide) (fun hc202 => ?_) (fun hc202 => ?_)
        · replace h := (if_neg hc202).symm.trans h
          have hP : va_P (xD G) vwCl [(q_a0, .inl (xy G 0, n_a0, .inl a0))] H := hP
          exact J44  a0 v3 ls (lv_sub hl [0, 1, 2, 3] rfl) _ h ho H locs hP hD hS
        · replace h := (if_pos hc202).symm.trans h
          refine lv_aload_n hx hb dX4_addSupersets_26 rfl (lv_at hl 0 rfl) ?_
          refine lv_iload_n hx hb dX4_addSupersets_27 rfl (lv_at hl 3 rfl) ?_
          refine lv_aload_n hx hb dX4_addSupersets_28 rfl (lv_at hl 0 rfl) ?_
          refine lv_iload_n hx hb dX4_addSupersets_29 rfl (lv_at hl 3 rfl) ?_
          obtain ⟨r203, hr203, h⟩ := x_bind h
          have hPr203 : va_P (xD G) vwCl [(q_a0, .inl (xy G 0, n_a0, .inl a0))] H := hP.sub [0] rfl
          refine x_calli (va_runSN (As := [.ref q_a0, .int v3]) (rest := [.int v3, .ref q_a0]) ⟨hx, hb, hml, hown, hts⟩ (kX9_at l G H hPr203 hr203) ⟨va_cnB 2 hts gX4_addSupersets_X9_at_n40 rfl rfl rfl (hE.nm 12 rfl) (hts (.initialized RX9) (List.mem_of_getElem? (i := 2) rfl)) (by decide +kernel) ⟨Nat.le_of_ble_eq_true rfl, Nat.le_of_ble_eq_true rfl⟩, (hts (.static yX9_at) (List.mem_of_getElem? (i := 1) rfl)), trivial⟩ (x_preS hE hS) rfl rfl hl.1 rfl (lv_room (Nat.le_of_ble_eq_true rfl)) dX4_addSupersets_30 ⟨Nat.le_of_ble_eq_true rfl, Nat.le_of_ble_eq_true rfl⟩) ?_
          refine lv_aload_n hx hb dX4_addSupersets_33 rfl (lv_at hl 0 rfl) ?_
          refine lv_iload_n hx hb dX4_addSupersets_34 rfl (lv_at hl 3 rfl) ?_
          refine lv_iload_n hx hb dX4_addSupersets_35 rfl (lv_at hl 2 rfl) ?_
          refine lv_ior hx hb dX4_addSupersets_36 ?_
          obtain ⟨r204, hr204, h⟩ := x_bind h
          have hPr204 : va_P (xD G) vwCl [(q_a0, .inl (xy G 0, n_a0, .inl a0))] H := hP.sub [0] rfl
          refine x_calli (va_runSN (As := [.ref q_a0, .int (v3 ||| v2)]) (rest := [.int r203, .int v3, .ref q_a0]) ⟨hx, hb, hml, hown, hts⟩ (kX9_at l G H hPr204 hr204) ⟨va_cnB 2 hts gX4_addSupersets_X9_at_n40 rfl rfl rfl (hE.nm 12 rfl) (hts (.initialized RX9) (List.mem_of_getElem? (i := 2) rfl)) (by decide +kernel) ⟨Nat.le_of_ble_eq_true rfl, Nat.le_of_ble_eq_true rfl⟩, (hts (.static yX9_at) (List.mem_of_getElem? (i := 1) rfl)), trivial⟩ (x_preS hE hS) rfl rfl hl.1 rfl (lv_room (Nat.le_of_ble_eq_true rfl)) dX4_addSupersets_37 ⟨Nat.le_of_ble_eq_true rfl, Nat.le_of_ble_eq_true rfl⟩) ?_
          refine lv_iadd hx hb dX4_addSupersets_40 ?_
          obtain ⟨r205, hr205, h⟩ := x_bind h
          have hPr205 : va_P (xD G) vwCl [(q_a0, .inl (xy G 0, n_a0, .inl a0))] H := hP.sub [0] rfl
          have hDr205 : va_D A [(q_a0, .inl (xy G 0, n_a0, .inl a0))] := hD.sub [0] (by decide) rfl
          have hFr205 := va_free (wc := [(q_a0, .inl (xy G 0, n_a0, .inl a0))]) hD hS hA [0] rfl
          refine x_callwv (wc := [(q_a0, .inl (xy G 0, n_a0, .inl a0))]) (w1 := [(q_a0, .inl (xy G 0, n_a0, .inl r205))]) (ws' := [(q_a0, .inl (xy G 0, n_a0, .inl r205))]) (va_runSN (As := [.ref q_a0, .int v3, .int (r203 + r204)]) (rest := []) ⟨hx, hb, hml, hown, hts⟩ (kX9_put l G H [(q_a0, .inl (xy G 0, n_a0, .inl a0))] rfl hPr205 (hDr205.weaken (fun _ _ _ _ => trivial)) hr205) ⟨va_cnB 3 hts gX4_addSupersets_X9_put_n60 rfl rfl rfl (hE.nm 14 rfl) (hts (.initialized RX9) (List.mem_of_getElem? (i := 2) rfl)) (by decide +kernel) ⟨Nat.le_of_ble_eq_true rfl, Nat.le_of_ble_eq_true rfl⟩, (hts (.static yX9_put) (List.mem_of_getElem? (i := 4) rfl)), trivial⟩ (x_preSw hE hS hFr205) rfl rfl hl.1 rfl (lv_room (Nat.le_of_ble_eq_true rfl)) dX4_addSupersets_41 ⟨Nat.le_of_ble_eq_true rfl, Nat.le_of_ble_eq_true rfl⟩) hP hD hS hFr205 [0] [some 0] (n := 1) (by decide) rfl rfl rfl (fun H locs hP hD hS => ?_)
          have hP : va_P (xD G) vwCl [(q_a0, .inl (xy G 0, n_a0, .inl r205))] H := hP
          exact J44  r205 v3 ls (lv_sub hl [0, 1, 2, 3] rfl) _ h ho H locs hP hD hS
    refine lv_iload_n hx hb dX4_addSupersets_2 rfl (lv_at hl 1 rfl) ?_
    refine lv_bipush (v := 6) hx hb dX4_addSupersets_3 (by decide) ?_
    refine lv_icmp_ge (tgt := 56) hx hb dX4_addSupersets_5 (by decide) (fun hc306 => ?_) (fun hc306 => ?_)
    · replace h := (if_pos hc306).symm.trans h
      have hq : a0 = out := by cases h; exact (e1 _ ho)
      subst hq
      have hP : va_P (xD G) vwCl [(q_a0, .inl (xy G 0, n_a0, .inl a0))] H := hP
      have hD : va_D A [(q_a0, .inl (xy G 0, n_a0, .inl a0))] := hD
      exact x_vretw hx hb hr hlk hP hD hS dX4_addSupersets_56
    · replace h := (if_neg hc306).symm.trans h
      refine lv_iconst (v := 1) hx hb dX4_addSupersets_8 (by decide) ?_
      refine lv_iload_n hx hb dX4_addSupersets_9 rfl (lv_at hl 1 rfl) ?_
      refine lv_ishl hx hb dX4_addSupersets_10 ?_
      refine lv_istore_n (lv' := [(2, .int (1 <<< (v1 &&& 31))), (0, .ref q_a0), (1, .int v1)]) hx hb dX4_addSupersets_11 rfl hl (by decide) rfl (fun ls hl => ?_)
      refine lv_iconst (v := 0) hx hb dX4_addSupersets_12 (by decide) ?_
      refine lv_istore_n (lv' := [(3, .int 0), (2, .int (1 <<< (v1 &&& 31))), (0, .ref q_a0), (1, .int v1)]) hx hb dX4_addSupersets_13 rfl hl (by decide) rfl (fun ls hl => ?_)
      have hP : va_P (xD G) vwCl [(q_a0, .inl (xy G 0, n_a0, .inl a0))] H := hP
      exact J14  a0 v1 ((1 <<< (v1 &&& 31))) 0 ls (lv_sub hl [2, 3, 1, 0] rfl) _ h ho H locs hP hD hS
  unfold mX4_addSupersets at h
  refine lv_iconst (v := 0) hx hb dX4_addSupersets_0 (by decide) ?_
  refine lv_istore_n (lv' := [(1, .int 0), (0, .ref q_a0)]) hx hb dX4_addSupersets_1 rfl hl (by decide) rfl (fun ls hl => ?_)
  have hP : va_P (xD G) vwCl [(q_a0, .inl (xy G 0, n_a0, .inl a0))] H := hP
  exact J2  a0 0 ls (lv_sub hl [1, 0] rfl) _ h ho H locs hP hD hS
noncomputable def mX4_countByKeys_b103 (all : Nat → Int32) (wet : Nat → Int32) (a0_days : Int32) (a0_years : Nat → Int32) (a0_rains : Nat → Int32) (a0_kinds : Nat → Int32) (v2 : Int32) (v3 : Int32) : Option ((((Nat → Int32) × (Nat → Int32)) ⊕ (Int32 × (Nat → Int32) × (Nat → Int32)))) :=
  some (.inr ((v3 + 1), all, wet))
noncomputable def mX4_countByKeys_s34 (a0_days : Int32) (a0_years : Nat → Int32) (a0_rains : Nat → Int32) (a0_kinds : Nat → Int32) (v2 : Int32) (v3 : Int32) (all : (Nat → Int32)) (wet : (Nat → Int32)) : Option ((((Nat → Int32) × (Nat → Int32)) ⊕ (Int32 × (Nat → Int32) × (Nat → Int32)))) :=
  if a0_days ≤ v3 then ((mX4_addSupersets 64 all).bind (fun r202 => (mX4_addSupersets 64 wet).bind (fun r203 => some (.inl (r202, r203))))) else ((mX0_inOtherYears a0_years v2 v3).bind (fun r204 => if (xb r204) = 0 then (mX4_countByKeys_b103 all wet a0_days a0_years a0_rains a0_kinds v2 v3) else ((mX0_alikeKeys a0_kinds v2 v3).bind (fun r206 => (mX9_at 64 all r206).bind (fun r207 => (mX9_put 64 all r206 ((r207 + 1))).bind (fun r208 => (mX9_at 64 wet r206).bind (fun r209 => (mX0_rainOf a0_rains v3).bind (fun r210 => (mX9_put 64 wet r206 ((r209 + r210))).bind (fun r211 => mX4_countByKeys_b103 r208 r211 a0_days a0_years a0_rains a0_kinds v2 v3)))))))))
noncomputable def mX4_countByKeys_b34 (all : Nat → Int32) (wet : Nat → Int32) (a0_days : Int32) (a0_years : Nat → Int32) (a0_rains : Nat → Int32) (a0_kinds : Nat → Int32) (v2 : Int32) (v3 : Int32) : Option ((Nat → Int32) × (Nat → Int32)) :=
  x_loop (fun q : Int32 × (Nat → Int32) × (Nat → Int32) => mX4_countByKeys_s34 a0_days a0_years a0_rains a0_kinds v2 (q.1) (q.2.1) (q.2.2)) (v3, all, wet)
noncomputable def mX4_countByKeys_s2 (a0_days : Int32) (a0_years : Nat → Int32) (a0_rains : Nat → Int32) (a0_kinds : Nat → Int32) (v2 : Int32) (v3 : Int32) (all : (Nat → Int32)) (wet : (Nat → Int32)) : Option ((((Nat → Int32) × (Nat → Int32)) ⊕ (Int32 × (Nat → Int32) × (Nat → Int32)))) :=
  if 64 ≤ v3 then (x_up (mX4_countByKeys_b34 all wet a0_days a0_years a0_rains a0_kinds v2 0)) else ((mX9_put 64 all v3 0).bind (fun r314 => (mX9_put 64 wet v3 0).bind (fun r315 => some (.inr ((v3 + 1), r314, r315)))))
noncomputable def mX4_countByKeys_b2 (all : Nat → Int32) (wet : Nat → Int32) (a0_days : Int32) (a0_years : Nat → Int32) (a0_rains : Nat → Int32) (a0_kinds : Nat → Int32) (v2 : Int32) (v3 : Int32) : Option ((Nat → Int32) × (Nat → Int32)) :=
  x_loop (fun q : Int32 × (Nat → Int32) × (Nat → Int32) => mX4_countByKeys_s2 a0_days a0_years a0_rains a0_kinds v2 (q.1) (q.2.1) (q.2.2)) (v3, all, wet)
noncomputable def mX4_countByKeys (all : Nat → Int32) (wet : Nat → Int32) (a0_days : Int32) (a0_years : Nat → Int32) (a0_rains : Nat → Int32) (a0_kinds : Nat → Int32) (p1 : Int32) : Option ((Nat → Int32) × (Nat → Int32)) :=
  mX4_countByKeys_b2 all wet a0_days a0_years a0_rains a0_kinds p1 0
set_option maxHeartbeats 4000000 in
set_option maxRecDepth 100000 in
theorem kX4_countByKeys (l : Launch) (G : xG) (H0 : Heap) {q_this q_all q_wet q_scores q_a0 q_a0_years q_a0_months q_a0_presses q_a0_winds q_a0_skies q_a0_rains q_a0_wires q_a0_kinds : Nat} {all : Nat → Int32} {wet : Nat → Int32} {a0_days : Int32} {a0_years : Nat → Int32} {a0_rains : Nat → Int32} {a0_kinds : Nat → Int32} {p1 : Int32} (w0 : va_W) (hw0 : w0 = [(q_this, .inr (4, [.ref q_all, .ref q_wet, .ref q_scores])), (q_all, .inl (xy G 0, 64, .inl all)), (q_wet, .inl (xy G 0, 64, .inl wet)), (q_a0, .inr (0, [.int a0_days, .ref q_a0_years, .ref q_a0_months, .ref q_a0_presses, .ref q_a0_winds, .ref q_a0_skies, .ref q_a0_rains, .ref q_a0_wires, .ref q_a0_kinds])), (q_a0_years, .inl (xy G 0, 60, .inl a0_years)), (q_a0_rains, .inl (xy G 0, 60, .inl a0_rains)), (q_a0_kinds, .inl (xy G 0, 60, .inl a0_kinds))]) (hP : va_P (xD G) vwCl w0 H0) (hD : va_D (fun _ => True) w0) {out : (Nat → Int32) × (Nat → Int32)} (h : mX4_countByKeys all wet a0_days a0_years a0_rains a0_kinds p1 = some out) : Met l yX4_countByKeys wsX4_countByKeys ({ frames := 2, cells := 0, slots := 0, locals := 48 }) (xPcw G (va_A w0 H0.size) H0 [.ref q_this, .ref q_a0, .int p1]) (xRv G (va_A w0 H0.size) [(q_this, .inr (4, [.ref q_all, .ref q_wet, .ref q_scores])), (q_all, .inl (xy G 0, 64, .inl out.1)), (q_wet, .inl (xy G 0, 64, .inl out.2)), (q_a0, .inr (0, [.int a0_days, .ref q_a0_years, .ref q_a0_months, .ref q_a0_presses, .ref q_a0_winds, .ref q_a0_skies, .ref q_a0_rains, .ref q_a0_wires, .ref q_a0_kinds])), (q_a0_years, .inl (xy G 0, 60, .inl a0_years)), (q_a0_rains, .inl (xy G 0, 60, .inl a0_rains)), (q_a0_kinds, .inl (xy G 0, 60, .inl a0_kinds))]) 0 0 (va_A w0 H0.size) := by
  refine x_metw (y := yX4_countByKeys) (ws := wsX4_countByKeys) (rm := { frames := 2, cells := 0, slots := 0, locals := 48 }) (G := G) (H0 := H0) (w0 := w0) (av := [.ref q_this, .ref q_a0, .int p1]) (mc := 0) (ms := 0) (Qc := (fun A => (xRv G A [(q_this, .inr (4, [.ref q_all, .ref q_wet, .ref q_scores])), (q_all, .inl (xy G 0, 64, .inl out.1)), (q_wet, .inl (xy G 0, 64, .inl out.2)), (q_a0, .inr (0, [.int a0_days, .ref q_a0_years, .ref q_a0_months, .ref q_a0_presses, .ref q_a0_winds, .ref q_a0_skies, .ref q_a0_rains, .ref q_a0_wires, .ref q_a0_kinds])), (q_a0_years, .inl (xy G 0, 60, .inl a0_years)), (q_a0_rains, .inl (xy G 0, 60, .inl a0_rains)), (q_a0_kinds, .inl (xy G 0, 60, .inl a0_kinds))]))) (by decide) rfl (Nat.le_of_ble_eq_true rfl) hP hD ?_
  clear hP hD
  intro p e s m below meth c ls A H locs hA hAt hnm hl hP hD hS
  subst hw0
  obtain ⟨hx, hb, hr, hlk, hml, hown, hts, hE⟩ := hAt
  have hown : s.vm.findClass RX4 = some m.cls := hown
  have hl : lv_has ls 5 [(0, .ref q_this), (1, .ref q_a0), (2, .int p1)] := hl
  have ho : out = out := rfl
  have J34 : ∀ (all : Nat → Int32) (wet : Nat → Int32) (v2 : Int32) (v3 : Int32) (ls : Array Slot), lv_has ls 5 [(0, .ref q_this), (1, .ref q_a0), (2, .int v2), (3, .int v3)] → ∀ o : (Nat → Int32) × (Nat → Int32), mX4_countByKeys_b34 all wet a0_days a0_years a0_rains a0_kinds v2 v3 = some o → (fun z => z = out) o → ∀ (H : Heap) (locs : List Loc), va_P (xD G) vwCl [(q_this, .inr (4, [.ref q_all, .ref q_wet, .ref q_scores])), (q_all, .inl (xy G 0, 64, .inl all)), (q_wet, .inl (xy G 0, 64, .inl wet)), (q_a0, .inr (0, [.int a0_days, .ref q_a0_years, .ref q_a0_months, .ref q_a0_presses, .ref q_a0_winds, .ref q_a0_skies, .ref q_a0_rains, .ref q_a0_wires, .ref q_a0_kinds])), (q_a0_years, .inl (xy G 0, 60, .inl a0_years)), (q_a0_rains, .inl (xy G 0, 60, .inl a0_rains)), (q_a0_kinds, .inl (xy G 0, 60, .inl a0_kinds))] H → va_D A [(q_this, .inr (4, [.ref q_all, .ref q_wet, .ref q_scores])), (q_all, .inl (xy G 0, 64, .inl all)), (q_wet, .inl (xy G 0, 64, .inl wet)), (q_a0, .inr (0, [.int a0_days, .ref q_a0_years, .ref q_a0_months, .ref q_a0_presses, .ref q_a0_winds, .ref q_a0_skies, .ref q_a0_rains, .ref q_a0_wires, .ref q_a0_kinds])), (q_a0_years, .inl (xy G 0, 60, .inl a0_years)), (q_a0_rains, .inl (xy G 0, 60, .inl a0_rains)), (q_a0_kinds, .inl (xy G 0, 60, .inl a0_kinds))] → va_S A s.heap H locs → xV p l e ({ frames := 2, cells := 0, slots := 0, locals := 48 }) s m [.ref q_this, .ref q_a0, .int p1] below meth c H locs 0 0 0 0 A (xRv G A [(q_this, .inr (4, [.ref q_all, .ref q_wet, .ref q_scores])), (q_all, .inl (xy G 0, 64, .inl out.1)), (q_wet, .inl (xy G 0, 64, .inl out.2)), (q_a0, .inr (0, [.int a0_days, .ref q_a0_years, .ref q_a0_months, .ref q_a0_presses, .ref q_a0_winds, .ref q_a0_skies, .ref q_a0_rains, .ref q_a0_wires, .ref q_a0_kinds])), (q_a0_years, .inl (xy G 0, 60, .inl a0_years)), (q_a0_rains, .inl (xy G 0, 60, .inl a0_rains)), (q_a0_kinds, .inl (xy G 0, 60, .inl a0_kinds))]) (F0 m 34 ls []) := by
    intro all wet v2 v3 ls hl o h ho H locs hP hD hS
    unfold mX4_countByKeys_b34 at h
    refine x_loop_walk (K := (fun z => z = out)) (motive := fun q : Int32 × (Nat → Int32) × (Nat → Int32) => ∀ ls : Array Slot, lv_has ls 5 [(0, .ref q_this), (1, .ref q_a0), (2, .int (v2)), (3, .int (q.1))] → ∀ (H : Heap) (locs : List Loc), va_P (xD G) vwCl [(q_this, .inr (4, [.ref q_all, .ref q_wet, .ref q_scores])), (q_all, .inl (xy G 0, 64, .inl (q.2.1))), (q_wet, .inl (xy G 0, 64, .inl (q.2.2))), (q_a0, .inr (0, [.int a0_days, .ref q_a0_years, .ref q_a0_months, .ref q_a0_presses, .ref q_a0_winds, .ref q_a0_skies, .ref q_a0_rains, .ref q_a0_wires, .ref q_a0_kinds])), (q_a0_years, .inl (xy G 0, 60, .inl a0_years)), (q_a0_rains, .inl (xy G 0, 60, .inl a0_rains)), (q_a0_kinds, .inl (xy G 0, 60, .inl a0_kinds))] H → va_D A [(q_this, .inr (4, [.ref q_all, .ref q_wet, .ref q_scores])), (q_all, .inl (xy G 0, 64, .inl (q.2.1))), (q_wet, .inl (xy G 0, 64, .inl (q.2.2))), (q_a0, .inr (0, [.int a0_days, .ref q_a0_years, .ref q_a0_months, .ref q_a0_presses, .ref q_a0_winds, .ref q_a0_skies, .ref q_a0_rains, .ref q_a0_wires, .ref q_a0_kinds])), (q_a0_years, .inl (xy G 0, 60, .inl a0_years)), (q_a0_rains, .inl (xy G 0, 60, .inl a0_rains)), (q_a0_kinds, .inl (xy G 0, 60, .inl a0_kinds))] → va_S A s.heap H locs → xV p l e ({ frames := 2, cells := 0, slots := 0, locals := 48 }) s m [.ref q_this, .ref q_a0, .int p1] below meth c H locs 0 0 0 0 A (xRv G A [(q_this, .inr (4, [.ref q_all, .ref q_wet, .ref q_scores])), (q_all, .inl (xy G 0, 64, .inl out.1)), (q_wet, .inl (xy G 0, 64, .inl out.2)), (q_a0, .inr (0, [.int a0_days, .ref q_a0_years, .ref q_a0_months, .ref q_a0_presses, .ref q_a0_winds, .ref q_a0_skies, .ref q_a0_rains, .ref q_a0_wires, .ref q_a0_kinds])), (q_a0_years, .inl (xy G 0, 60, .inl a0_years)), (q_a0_rains, .inl (xy G 0, 60, .inl a0_rains)), (q_a0_kinds, .inl (xy G 0, 60, .inl a0_kinds))]) (F0 m 34 ls [])) ?_ h ho ls hl H locs hP hD hS
    clear hP hD hS
    intro K1 e1 i1 q o h ho
    obtain ⟨v3, all, wet⟩ := q
    intro ls hl H locs hP hD hS
    have hl : lv_has ls 5 [(0, .ref q_this), (1, .ref q_a0), (2, .int v2), (3, .int v3)] := hl
    have hP : va_P (xD G) vwCl [(q_this, .inr (4, [.ref q_all, .ref q_wet, .ref q_scores])), (q_all, .inl (xy G 0, 64, .inl all)), (q_wet, .inl (xy G 0, 64, .inl wet)), (q_a0, .inr (0, [.int a0_days, .ref q_a0_years, .ref q_a0_months, .ref q_a0_presses, .ref q_a0_winds, .ref q_a0_skies, .ref q_a0_rains, .ref q_a0_wires, .ref q_a0_kinds])), (q_a0_years, .inl (xy G 0, 60, .inl a0_years)), (q_a0_rains, .inl (xy G 0, 60, .inl a0_rains)), (q_a0_kinds, .inl (xy G 0, 60, .inl a0_kinds))] H := hP
    have hD : va_D A [(q_this, .inr (4, [.ref q_all, .ref q_wet, .ref q_scores])), (q_all, .inl (xy G 0, 64, .inl all)), (q_wet, .inl (xy G 0, 64, .inl wet)), (q_a0, .inr (0, [.int a0_days, .ref q_a0_years, .ref q_a0_months, .ref q_a0_presses, .ref q_a0_winds, .ref q_a0_skies, .ref q_a0_rains, .ref q_a0_wires, .ref q_a0_kinds])), (q_a0_years, .inl (xy G 0, 60, .inl a0_years)), (q_a0_rains, .inl (xy G 0, 60, .inl a0_rains)), (q_a0_kinds, .inl (xy G 0, 60, .inl a0_kinds))] := hD
    replace h : mX4_countByKeys_s34 a0_days a0_years a0_rains a0_kinds v2 v3 all wet = some o := h
    unfold mX4_countByKeys_s34 at h
    have J103 : ∀ (all : Nat → Int32) (wet : Nat → Int32) (v3 : Int32) (ls : Array Slot), lv_has ls 5 [(0, .ref q_this), (1, .ref q_a0), (2, .int v2), (3, .int v3)] → ∀ o : (((Nat → Int32) × (Nat → Int32)) ⊕ (Int32 × (Nat → Int32) × (Nat → Int32))), mX4_countByKeys_b103 all wet a0_days a0_years a0_rains a0_kinds v2 v3 = some o → K1 o → ∀ (H : Heap) (locs : List Loc), va_P (xD G) vwCl [(q_this, .inr (4, [.ref q_all, .ref q_wet, .ref q_scores])), (q_all, .inl (xy G 0, 64, .inl all)), (q_wet, .inl (xy G 0, 64, .inl wet)), (q_a0, .inr (0, [.int a0_days, .ref q_a0_years, .ref q_a0_months, .ref q_a0_presses, .ref q_a0_winds, .ref q_a0_skies, .ref q_a0_rains, .ref q_a0_wires, .ref q_a0_kinds])), (q_a0_years, .inl (xy G 0, 60, .inl a0_years)), (q_a0_rains, .inl (xy G 0, 60, .inl a0_rains)), (q_a0_kinds, .inl (xy G 0, 60, .inl a0_kinds))] H → va_D A [(q_this, .inr (4, [.ref q_all, .ref q_wet, .ref q_scores])), (q_all, .inl (xy G 0, 64, .inl all)), (q_wet, .inl (xy G 0, 64, .inl wet)), (q_a0, .inr (0, [.int a0_days, .ref q_a0_years, .ref q_a0_months, .ref q_a0_presses, .ref q_a0_winds, .ref q_a0_skies, .ref q_a0_rains, .ref q_a0_wires, .ref q_a0_kinds])), (q_a0_years, .inl (xy G 0, 60, .inl a0_years)), (q_a0_rains, .inl (xy G 0, 60, .inl a0_rains)), (q_a0_kinds, .inl (xy G 0, 60, .inl a0_kinds))] → va_S A s.heap H locs → xV p l e ({ frames := 2, cells := 0, slots := 0, locals := 48 }) s m [.ref q_this, .ref q_a0, .int p1] below meth c H locs 0 0 0 0 A (xRv G A [(q_this, .inr (4, [.ref q_all, .ref q_wet, .ref q_scores])), (q_all, .inl (xy G 0, 64, .inl out.1)), (q_wet, .inl (xy G 0, 64, .inl out.2)), (q_a0, .inr (0, [.int a0_days, .ref q_a0_years, .ref q_a0_months, .ref q_a0_presses, .ref q_a0_winds, .ref q_a0_skies, .ref q_a0_rains, .ref q_a0_wires, .ref q_a0_kinds])), (q_a0_years, .inl (xy G 0, 60, .inl a0_years)), (q_a0_rains, .inl (xy G 0, 60, .inl a0_rains)), (q_a0_kinds, .inl (xy G 0, 60, .inl a0_kinds))]) (F0 m 103 ls []) := by
      intro all wet v3 ls hl o h ho H locs hP hD hS
      unfold mX4_countByKeys_b103 at h
      refine lv_iinc (v := (v3 + 1)) (lv' := [(3, .int (v3 + 1)), (0, .ref q_this), (1, .ref q_a0), (2, .int v2)]) hx hb dX4_countByKeys_103 hl (k := 3) rfl rfl (by decide) rfl (fun ls hl => ?_)
      refine lv_goto (tgt := 34) hx hb dX4_countByKeys_106 (by decide) ?_
      have hP : va_P (xD G) vwCl [(q_this, .inr (4, [.ref q_all, .ref q_wet, .ref q_scores])), (q_all, .inl (xy G 0, 64, .inl all)), (q_wet, .inl (xy G 0, 64, .inl wet)), (q_a0, .inr (0, [.int a0_days, .ref q_a0_years, .ref q_a0_months, .ref q_a0_presses, .ref q_a0_winds, .ref q_a0_skies, .ref q_a0_rains, .ref q_a0_wires, .ref q_a0_kinds])), (q_a0_years, .inl (xy G 0, 60, .inl a0_years)), (q_a0_rains, .inl (xy G 0, 60, .inl a0_rains)), (q_a0_kinds, .inl (xy G 0, 60, .inl a0_kinds))] H := hP
      exact i1 ((v3 + 1), all, wet) (by cases h; exact ho) ls (lv_sub hl [1, 2, 3, 0] rfl) H locs hP hD hS
    refine lv_iload_n hx hb dX4_countByKeys_34 rfl (lv_at hl 3 rfl) ?_
    refine lv_aload_n hx hb dX4_countByKeys_35 rfl (lv_at hl 1 rfl) ?_
    refine va_get (D := xD G) (ci := 0) (v := .int a0_days) (C := RX0) (T := TX0) (N := 9) hx hb hts (fun w9 h9 => (List.mem_cons_of_mem _ (List.mem_append_right _ h9))) hown hE.1 hP 3 rfl rfl 0 (by decide) (hts (.fieldLink RX4 30 "FallingGlass$Book" "days" "I") (List.mem_of_getElem? (i := 3) rfl)) (fun _ h9 => h9) rfl dX4_countByKeys_36 ?_
    refine lv_icmp_ge (tgt := 109) hx hb dX4_countByKeys_39 (by decide) (fun hc201 => ?_) (fun hc201 => ?_)
    · replace h := (if_pos hc201).symm.trans h
      refine lv_aload_n hx hb dX4_countByKeys_109 rfl (lv_at hl 0 rfl) ?_
      refine va_get (D := xD G) (ci := 4) (v := .ref q_all) (C := RX4) (T := TX4) (N := 3) hx hb hts (fun w9 h9 => (List.mem_cons_of_mem _ (List.mem_append_left _ (List.mem_append_right _ h9)))) hown hE.1 hP 0 rfl rfl 0 (by decide) (hts (.fieldLink RX4 9 "FallingGlass$KeyTrial" "all" "[I") (List.mem_of_getElem? (i := 1) rfl)) (fun _ h9 => h9) rfl dX4_countByKeys_110 ?_
      obtain ⟨r202, hr202, h⟩ := x_bind h
      have hPr202 : va_P (xD G) vwCl [(q_all, .inl (xy G 0, 64, .inl all))] H := hP.sub [1] rfl
      have hDr202 : va_D A [(q_all, .inl (xy G 0, 64, .inl all))] := hD.sub [1] (by decide) rfl
      have hFr202 := va_free (wc := [(q_all, .inl (xy G 0, 64, .inl all))]) hD hS hA [1] rfl
      refine x_callwv (wc := [(q_all, .inl (xy G 0, 64, .inl all))]) (w1 := [(q_all, .inl (xy G 0, 64, .inl r202))]) (ws' := [(q_this, .inr (4, [.ref q_all, .ref q_wet, .ref q_scores])), (q_all, .inl (xy G 0, 64, .inl r202)), (q_wet, .inl (xy G 0, 64, .inl wet)), (q_a0, .inr (0, [.int a0_days, .ref q_a0_years, .ref q_a0_months, .ref q_a0_presses, .ref q_a0_winds, .ref q_a0_skies, .ref q_a0_rains, .ref q_a0_wires, .ref q_a0_kinds])), (q_a0_years, .inl (xy G 0, 60, .inl a0_years)), (q_a0_rains, .inl (xy G 0, 60, .inl a0_rains)), (q_a0_kinds, .inl (xy G 0, 60, .inl a0_kinds))]) (va_runS (As := [.ref q_all]) (rest := []) ⟨hx, hb, hml, hown, hts⟩ (kX4_addSupersets l G H [(q_all, .inl (xy G 0, 64, .inl all))] rfl hPr202 (hDr202.weaken (fun _ _ _ _ => trivial)) hr202) (va_cwS 1 hts gX4_countByKeys_X4_addSupersets rfl rfl rfl (by decide +kernel) ⟨Nat.le_of_ble_eq_true rfl, Nat.le_of_ble_eq_true rfl⟩) (x_preSw hE hS hFr202) rfl rfl hl.1 rfl (lv_room (Nat.le_of_ble_eq_true rfl)) dX4_countByKeys_113 ⟨Nat.le_of_ble_eq_true rfl, Nat.le_of_ble_eq_true rfl⟩) hP hD hS hFr202 [1] [none, some 0, none, none, none, none, none] (n := 7) (by decide) rfl rfl rfl (fun H locs hP hD hS => ?_)
      refine lv_aload_n hx hb dX4_countByKeys_116 rfl (lv_at hl 0 rfl) ?_
      refine va_get (D := xD G) (ci := 4) (v := .ref q_wet) (C := RX4) (T := TX4) (N := 3) hx hb hts (fun w9 h9 => (List.mem_cons_of_mem _ (List.mem_append_left _ (List.mem_append_right _ h9)))) hown hE.1 hP 0 rfl rfl 1 (by decide) (hts (.fieldLink RX4 15 "FallingGlass$KeyTrial" "wet" "[I") (List.mem_of_getElem? (i := 2) rfl)) (fun _ h9 => h9) rfl dX4_countByKeys_117 ?_
      obtain ⟨r203, hr203, h⟩ := x_bind h
      have hPr203 : va_P (xD G) vwCl [(q_wet, .inl (xy G 0, 64, .inl wet))] H := hP.sub [2] rfl
      have hDr203 : va_D A [(q_wet, .inl (xy G 0, 64, .inl wet))] := hD.sub [2] (by decide) rfl
      have hFr203 := va_free (wc := [(q_wet, .inl (xy G 0, 64, .inl wet))]) hD hS hA [2] rfl
      refine x_callwv (wc := [(q_wet, .inl (xy G 0, 64, .inl wet))]) (w1 := [(q_wet, .inl (xy G 0, 64, .inl r203))]) (ws' := [(q_this, .inr (4, [.ref q_all, .ref q_wet, .ref q_scores])), (q_all, .inl (xy G 0, 64, .inl r202)), (q_wet, .inl (xy G 0, 64, .inl r203)), (q_a0, .inr (0, [.int a0_days, .ref q_a0_years, .ref q_a0_months, .ref q_a0_presses, .ref q_a0_winds, .ref q_a0_skies, .ref q_a0_rains, .ref q_a0_wires, .ref q_a0_kinds])), (q_a0_years, .inl (xy G 0, 60, .inl a0_years)), (q_a0_rains, .inl (xy G 0, 60, .inl a0_rains)), (q_a0_kinds, .inl (xy G 0, 60, .inl a0_kinds))]) (va_runS (As := [.ref q_wet]) (rest := []) ⟨hx, hb, hml, hown, hts⟩ (kX4_addSupersets l G H [(q_wet, .inl (xy G 0, 64, .inl wet))] rfl hPr203 (hDr203.weaken (fun _ _ _ _ => trivial)) hr203) (va_cwS 1 hts gX4_countByKeys_X4_addSupersets rfl rfl rfl (by decide +kernel) ⟨Nat.le_of_ble_eq_true rfl, Nat.le_of_ble_eq_true rfl⟩) (x_preSw hE hS hFr203) rfl rfl hl.1 rfl (lv_room (Nat.le_of_ble_eq_true rfl)) dX4_countByKeys_120 ⟨Nat.le_of_ble_eq_true rfl, Nat.le_of_ble_eq_true rfl⟩) hP hD hS hFr203 [2] [none, none, some 0, none, none, none, none] (n := 7) (by decide) rfl rfl rfl (fun H locs hP hD hS => ?_)
      have hq : (r202, r203) = out := by cases h; exact (e1 _ ho)
      subst hq
      have hP : va_P (xD G) vwCl [(q_this, .inr (4, [.ref q_all, .ref q_wet, .ref q_scores])), (q_all, .inl (xy G 0, 64, .inl r202)), (q_wet, .inl (xy G 0, 64, .inl r203)), (q_a0, .inr (0, [.int a0_days, .ref q_a0_years, .ref q_a0_months, .ref q_a0_presses, .ref q_a0_winds, .ref q_a0_skies, .ref q_a0_rains, .ref q_a0_wires, .ref q_a0_kinds])), (q_a0_years, .inl (xy G 0, 60, .inl a0_years)), (q_a0_rains, .inl (xy G 0, 60, .inl a0_rains)), (q_a0_kinds, .inl (xy G 0, 60, .inl a0_kinds))] H := hP
      have hD : va_D A [(q_this, .inr (4, [.ref q_all, .ref q_wet, .ref q_scores])), (q_all, .inl (xy G 0, 64, .inl r202)), (q_wet, .inl (xy G 0, 64, .inl r203)), (q_a0, .inr (0, [.int a0_days, .ref q_a0_years, .ref q_a0_months, .ref q_a0_presses, .ref q_a0_winds, .ref q_a0_skies, .ref q_a0_rains, .ref q_a0_wires, .ref q_a0_kinds])), (q_a0_years, .inl (xy G 0, 60, .inl a0_years)), (q_a0_rains, .inl (xy G 0, 60, .inl a0_rains)), (q_a0_kinds, .inl (xy G 0, 60, .inl a0_kinds))] := hD
      exact x_vretw hx hb hr hlk hP hD hS dX4_countByKeys_123
    · replace h := (if_neg hc201).symm.trans h
      refine lv_aload_n hx hb dX4_countByKeys_42 rfl (lv_at hl 1 rfl) ?_
      refine lv_iload_n hx hb dX4_countByKeys_43 rfl (lv_at hl 2 rfl) ?_
      refine lv_iload_n hx hb dX4_countByKeys_44 rfl (lv_at hl 3 rfl) ?_
      obtain ⟨r204, hr204, h⟩ := x_bind h
      have hPr204 : va_P (xD G) vwCl [(q_a0, .inr (0, [.int a0_days, .ref q_a0_years, .ref q_a0_months, .ref q_a0_presses, .ref q_a0_winds, .ref q_a0_skies, .ref q_a0_rains, .ref q_a0_wires, .ref q_a0_kinds])), (q_a0_years, .inl (xy G 0, 60, .inl a0_years))] H := hP.sub [3, 4] rfl
      refine x_calli (va_runV (As := [.int v2, .int v3]) (rest := []) ⟨hx, hb, hml, hown, hts⟩ (kX0_inOtherYears l G H hPr204 hr204) (cwV 2 hts gX4_countByKeys_X0_inOtherYears rfl rfl rfl (by decide +kernel) ⟨Nat.le_of_ble_eq_true rfl, Nat.le_of_ble_eq_true rfl⟩) (x_preV hE hS hP (ci := 0) (q0 := 3) rfl rfl) rfl rfl hl.1 rfl (lv_room (Nat.le_of_ble_eq_true rfl)) dX4_countByKeys_45 ⟨Nat.le_of_ble_eq_true rfl, Nat.le_of_ble_eq_true rfl⟩) ?_
      refine lv_if_eq (tgt := 103) hx hb dX4_countByKeys_48 (by decide) (fun hc205 => ?_) (fun hc205 => ?_)
      · replace h := (if_pos hc205).symm.trans h
        have hP : va_P (xD G) vwCl [(q_this, .inr (4, [.ref q_all, .ref q_wet, .ref q_scores])), (q_all, .inl (xy G 0, 64, .inl all)), (q_wet, .inl (xy G 0, 64, .inl wet)), (q_a0, .inr (0, [.int a0_days, .ref q_a0_years, .ref q_a0_months, .ref q_a0_presses, .ref q_a0_winds, .ref q_a0_skies, .ref q_a0_rains, .ref q_a0_wires, .ref q_a0_kinds])), (q_a0_years, .inl (xy G 0, 60, .inl a0_years)), (q_a0_rains, .inl (xy G 0, 60, .inl a0_rains)), (q_a0_kinds, .inl (xy G 0, 60, .inl a0_kinds))] H := hP
        exact J103  all wet v3 ls (lv_sub hl [0, 1, 2, 3] rfl) _ h ho H locs hP hD hS
      · replace h := (if_neg hc205).symm.trans h
        refine lv_aload_n hx hb dX4_countByKeys_51 rfl (lv_at hl 1 rfl) ?_
        refine lv_iload_n hx hb dX4_countByKeys_52 rfl (lv_at hl 2 rfl) ?_
        refine lv_iload_n hx hb dX4_countByKeys_53 rfl (lv_at hl 3 rfl) ?_
        obtain ⟨r206, hr206, h⟩ := x_bind h
        have hPr206 : va_P (xD G) vwCl [(q_a0, .inr (0, [.int a0_days, .ref q_a0_years, .ref q_a0_months, .ref q_a0_presses, .ref q_a0_winds, .ref q_a0_skies, .ref q_a0_rains, .ref q_a0_wires, .ref q_a0_kinds])), (q_a0_kinds, .inl (xy G 0, 60, .inl a0_kinds))] H := hP.sub [3, 6] rfl
        refine x_calli (va_runV (As := [.int v2, .int v3]) (rest := []) ⟨hx, hb, hml, hown, hts⟩ (kX0_alikeKeys l G H hPr206 hr206) (cwV 2 hts gX4_countByKeys_X0_alikeKeys rfl rfl rfl (by decide +kernel) ⟨Nat.le_of_ble_eq_true rfl, Nat.le_of_ble_eq_true rfl⟩) (x_preV hE hS hP (ci := 0) (q0 := 3) rfl rfl) rfl rfl hl.1 rfl (lv_room (Nat.le_of_ble_eq_true rfl)) dX4_countByKeys_54 ⟨Nat.le_of_ble_eq_true rfl, Nat.le_of_ble_eq_true rfl⟩) ?_
        refine lv_istore (lv' := [(4, .int r206), (0, .ref q_this), (1, .ref q_a0), (2, .int v2), (3, .int v3)]) hx hb dX4_countByKeys_57 hl (by decide) rfl (fun ls hl => ?_)
        refine lv_aload_n hx hb dX4_countByKeys_59 rfl (lv_at hl 1 rfl) ?_
        refine va_get (D := xD G) (ci := 4) (v := .ref q_all) (C := RX4) (T := TX4) (N := 3) hx hb hts (fun w9 h9 => (List.mem_cons_of_mem _ (List.mem_append_left _ (List.mem_append_right _ h9)))) hown hE.1 hP 0 rfl rfl 0 (by decide) (hts (.fieldLink RX4 9 "FallingGlass$KeyTrial" "all" "[I") (List.mem_of_getElem? (i := 1) rfl)) (fun _ h9 => h9) rfl dX4_countByKeys_60 ?_
        refine lv_iload hx hb dX4_countByKeys_63 (lv_at hl 0 rfl) ?_
        refine lv_aload_n hx hb dX4_countByKeys_65 rfl (lv_at hl 1 rfl) ?_
        refine va_get (D := xD G) (ci := 4) (v := .ref q_all) (C := RX4) (T := TX4) (N := 3) hx hb hts (fun w9 h9 => (List.mem_cons_of_mem _ (List.mem_append_left _ (List.mem_append_right _ h9)))) hown hE.1 hP 0 rfl rfl 0 (by decide) (hts (.fieldLink RX4 9 "FallingGlass$KeyTrial" "all" "[I") (List.mem_of_getElem? (i := 1) rfl)) (fun _ h9 => h9) rfl dX4_countByKeys_66 ?_
        refine lv_iload hx hb dX4_countByKeys_69 (lv_at hl 0 rfl) ?_
        obtain ⟨r207, hr207, h⟩ := x_bind h
        have hPr207 : va_P (xD G) vwCl [(q_all, .inl (xy G 0, 64, .inl all))] H := hP.sub [1] rfl
        refine x_calli (va_runSN (As := [.ref q_all, .int r206]) (rest := [.int r206, .ref q_all]) ⟨hx, hb, hml, hown, hts⟩ (kX9_at l G H hPr207 hr207) ⟨va_cnB 2 hts gX4_countByKeys_X9_at_n40 rfl rfl rfl (hE.nm 12 rfl) (hts (.initialized RX9) (List.mem_of_getElem? (i := 5) rfl)) (by decide +kernel) ⟨Nat.le_of_ble_eq_true rfl, Nat.le_of_ble_eq_true rfl⟩, (hts (.static yX9_at) (List.mem_of_getElem? (i := 13) rfl)), trivial⟩ (x_preS hE hS) rfl rfl hl.1 rfl (lv_room (Nat.le_of_ble_eq_true rfl)) dX4_countByKeys_71 ⟨Nat.le_of_ble_eq_true rfl, Nat.le_of_ble_eq_true rfl⟩) ?_
        refine lv_iconst (v := 1) hx hb dX4_countByKeys_74 (by decide) ?_
        refine lv_iadd hx hb dX4_countByKeys_75 ?_
        obtain ⟨r208, hr208, h⟩ := x_bind h
        have hPr208 : va_P (xD G) vwCl [(q_all, .inl (xy G 0, 64, .inl all))] H := hP.sub [1] rfl
        have hDr208 : va_D A [(q_all, .inl (xy G 0, 64, .inl all))] := hD.sub [1] (by decide) rfl
        have hFr208 := va_free (wc := [(q_all, .inl (xy G 0, 64, .inl all))]) hD hS hA [1] rfl
        refine x_callwv (wc := [(q_all, .inl (xy G 0, 64, .inl all))]) (w1 := [(q_all, .inl (xy G 0, 64, .inl r208))]) (ws' := [(q_this, .inr (4, [.ref q_all, .ref q_wet, .ref q_scores])), (q_all, .inl (xy G 0, 64, .inl r208)), (q_wet, .inl (xy G 0, 64, .inl wet)), (q_a0, .inr (0, [.int a0_days, .ref q_a0_years, .ref q_a0_months, .ref q_a0_presses, .ref q_a0_winds, .ref q_a0_skies, .ref q_a0_rains, .ref q_a0_wires, .ref q_a0_kinds])), (q_a0_years, .inl (xy G 0, 60, .inl a0_years)), (q_a0_rains, .inl (xy G 0, 60, .inl a0_rains)), (q_a0_kinds, .inl (xy G 0, 60, .inl a0_kinds))]) (va_runSN (As := [.ref q_all, .int r206, .int (r207 + 1)]) (rest := []) ⟨hx, hb, hml, hown, hts⟩ (kX9_put l G H [(q_all, .inl (xy G 0, 64, .inl all))] rfl hPr208 (hDr208.weaken (fun _ _ _ _ => trivial)) hr208) ⟨va_cnB 3 hts gX4_countByKeys_X9_put_n60 rfl rfl rfl (hE.nm 14 rfl) (hts (.initialized RX9) (List.mem_of_getElem? (i := 5) rfl)) (by decide +kernel) ⟨Nat.le_of_ble_eq_true rfl, Nat.le_of_ble_eq_true rfl⟩, (hts (.static yX9_put) (List.mem_of_getElem? (i := 4) rfl)), trivial⟩ (x_preSw hE hS hFr208) rfl rfl hl.1 rfl (lv_room (Nat.le_of_ble_eq_true rfl)) dX4_countByKeys_76 ⟨Nat.le_of_ble_eq_true rfl, Nat.le_of_ble_eq_true rfl⟩) hP hD hS hFr208 [1] [none, some 0, none, none, none, none, none] (n := 7) (by decide) rfl rfl rfl (fun H locs hP hD hS => ?_)
        refine lv_aload_n hx hb dX4_countByKeys_79 rfl (lv_at hl 1 rfl) ?_
        refine va_get (D := xD G) (ci := 4) (v := .ref q_wet) (C := RX4) (T := TX4) (N := 3) hx hb hts (fun w9 h9 => (List.mem_cons_of_mem _ (List.mem_append_left _ (List.mem_append_right _ h9)))) hown hE.1 hP 0 rfl rfl 1 (by decide) (hts (.fieldLink RX4 15 "FallingGlass$KeyTrial" "wet" "[I") (List.mem_of_getElem? (i := 2) rfl)) (fun _ h9 => h9) rfl dX4_countByKeys_80 ?_
        refine lv_iload hx hb dX4_countByKeys_83 (lv_at hl 0 rfl) ?_
        refine lv_aload_n hx hb dX4_countByKeys_85 rfl (lv_at hl 1 rfl) ?_
        refine va_get (D := xD G) (ci := 4) (v := .ref q_wet) (C := RX4) (T := TX4) (N := 3) hx hb hts (fun w9 h9 => (List.mem_cons_of_mem _ (List.mem_append_left _ (List.mem_append_right _ h9)))) hown hE.1 hP 0 rfl rfl 1 (by decide) (hts (.fieldLink RX4 15 "FallingGlass$KeyTrial" "wet" "[I") (List.mem_of_getElem? (i := 2) rfl)) (fun _ h9 => h9) rfl dX4_countByKeys_86 ?_
        refine lv_iload hx hb dX4_countByKeys_89 (lv_at hl 0 rfl) ?_
        obtain ⟨r209, hr209, h⟩ := x_bind h
        have hPr209 : va_P (xD G) vwCl [(q_wet, .inl (xy G 0, 64, .inl wet))] H := hP.sub [2] rfl
        refine x_calli (va_runSN (As := [.ref q_wet, .int r206]) (rest := [.int r206, .ref q_wet]) ⟨hx, hb, hml, hown, hts⟩ (kX9_at l G H hPr209 hr209) ⟨va_cnB 2 hts gX4_countByKeys_X9_at_n40 rfl rfl rfl (hE.nm 12 rfl) (hts (.initialized RX9) (List.mem_of_getElem? (i := 5) rfl)) (by decide +kernel) ⟨Nat.le_of_ble_eq_true rfl, Nat.le_of_ble_eq_true rfl⟩, (hts (.static yX9_at) (List.mem_of_getElem? (i := 13) rfl)), trivial⟩ (x_preS hE hS) rfl rfl hl.1 rfl (lv_room (Nat.le_of_ble_eq_true rfl)) dX4_countByKeys_91 ⟨Nat.le_of_ble_eq_true rfl, Nat.le_of_ble_eq_true rfl⟩) ?_
        refine lv_aload_n hx hb dX4_countByKeys_94 rfl (lv_at hl 2 rfl) ?_
        refine lv_iload_n hx hb dX4_countByKeys_95 rfl (lv_at hl 4 rfl) ?_
        obtain ⟨r210, hr210, h⟩ := x_bind h
        have hPr210 : va_P (xD G) vwCl [(q_a0, .inr (0, [.int a0_days, .ref q_a0_years, .ref q_a0_months, .ref q_a0_presses, .ref q_a0_winds, .ref q_a0_skies, .ref q_a0_rains, .ref q_a0_wires, .ref q_a0_kinds])), (q_a0_rains, .inl (xy G 0, 60, .inl a0_rains))] H := hP.sub [3, 5] rfl
        refine x_calli (va_runV (As := [.int v3]) (rest := [.int r209, .int r206, .ref q_wet]) ⟨hx, hb, hml, hown, hts⟩ (kX0_rainOf l G H hPr210 hr210) (cwV 1 hts gX4_countByKeys_X0_rainOf rfl rfl rfl (by decide +kernel) ⟨Nat.le_of_ble_eq_true rfl, Nat.le_of_ble_eq_true rfl⟩) (x_preV hE hS hP (ci := 0) (q0 := 3) rfl rfl) rfl rfl hl.1 rfl (lv_room (Nat.le_of_ble_eq_true rfl)) dX4_countByKeys_96 ⟨Nat.le_of_ble_eq_true rfl, Nat.le_of_ble_eq_true rfl⟩) ?_
        refine lv_iadd hx hb dX4_countByKeys_99 ?_
        obtain ⟨r211, hr211, h⟩ := x_bind h
        have hPr211 : va_P (xD G) vwCl [(q_wet, .inl (xy G 0, 64, .inl wet))] H := hP.sub [2] rfl
        have hDr211 : va_D A [(q_wet, .inl (xy G 0, 64, .inl wet))] := hD.sub [2] (by decide) rfl
        have hFr211 := va_free (wc := [(q_wet, .inl (xy G 0, 64, .inl wet))]) hD hS hA [2] rfl
        refine x_callwv (wc := [(q_wet, .inl (xy G 0, 64, .inl wet))]) (w1 := [(q_wet, .inl (xy G 0, 64, .inl r211))]) (ws' := [(q_this, .inr (4, [.ref q_all, .ref q_wet, .ref q_scores])), (q_all, .inl (xy G 0, 64, .inl r208)), (q_wet, .inl (xy G 0, 64, .inl r211)), (q_a0, .inr (0, [.int a0_days, .ref q_a0_years, .ref q_a0_months, .ref q_a0_presses, .ref q_a0_winds, .ref q_a0_skies, .ref q_a0_rains, .ref q_a0_wires, .ref q_a0_kinds])), (q_a0_years, .inl (xy G 0, 60, .inl a0_years)), (q_a0_rains, .inl (xy G 0, 60, .inl a0_rains)), (q_a0_kinds, .inl (xy G 0, 60, .inl a0_kinds))]) (va_runSN (As := [.ref q_wet, .int r206, .int (r209 + r210)]) (rest := []) ⟨hx, hb, hml, hown, hts⟩ (kX9_put l G H [(q_wet, .inl (xy G 0, 64, .inl wet))] rfl hPr211 (hDr211.weaken (fun _ _ _ _ => trivial)) hr211) ⟨va_cnB 3 hts gX4_countByKeys_X9_put_n60 rfl rfl rfl (hE.nm 14 rfl) (hts (.initialized RX9) (List.mem_of_getElem? (i := 5) rfl)) (by decide +kernel) ⟨Nat.le_of_ble_eq_true rfl, Nat.le_of_ble_eq_true rfl⟩, (hts (.static yX9_put) (List.mem_of_getElem? (i := 4) rfl)), trivial⟩ (x_preSw hE hS hFr211) rfl rfl hl.1 rfl (lv_room (Nat.le_of_ble_eq_true rfl)) dX4_countByKeys_100 ⟨Nat.le_of_ble_eq_true rfl, Nat.le_of_ble_eq_true rfl⟩) hP hD hS hFr211 [2] [none, none, some 0, none, none, none, none] (n := 7) (by decide) rfl rfl rfl (fun H locs hP hD hS => ?_)
        have hP : va_P (xD G) vwCl [(q_this, .inr (4, [.ref q_all, .ref q_wet, .ref q_scores])), (q_all, .inl (xy G 0, 64, .inl r208)), (q_wet, .inl (xy G 0, 64, .inl r211)), (q_a0, .inr (0, [.int a0_days, .ref q_a0_years, .ref q_a0_months, .ref q_a0_presses, .ref q_a0_winds, .ref q_a0_skies, .ref q_a0_rains, .ref q_a0_wires, .ref q_a0_kinds])), (q_a0_years, .inl (xy G 0, 60, .inl a0_years)), (q_a0_rains, .inl (xy G 0, 60, .inl a0_rains)), (q_a0_kinds, .inl (xy G 0, 60, .inl a0_kinds))] H := hP
        exact J103  r208 r211 v3 ls (lv_sub hl [1, 2, 3, 4] rfl) _ h ho H locs hP hD hS
  have J2 : ∀ (all : Nat → Int32) (wet : Nat → Int32) (v2 : Int32) (v3 : Int32) (ls : Array Slot), lv_has ls 5 [(0, .ref q_this), (1, .ref q_a0), (2, .int v2), (3, .int v3)] → ∀ o : (Nat → Int32) × (Nat → Int32), mX4_countByKeys_b2 all wet a0_days a0_years a0_rains a0_kinds v2 v3 = some o → (fun z => z = out) o → ∀ (H : Heap) (locs : List Loc), va_P (xD G) vwCl [(q_this, .inr (4, [.ref q_all, .ref q_wet, .ref q_scores])), (q_all, .inl (xy G 0, 64, .inl all)), (q_wet, .inl (xy G 0, 64, .inl wet)), (q_a0, .inr (0, [.int a0_days, .ref q_a0_years, .ref q_a0_months, .ref q_a0_presses, .ref q_a0_winds, .ref q_a0_skies, .ref q_a0_rains, .ref q_a0_wires, .ref q_a0_kinds])), (q_a0_years, .inl (xy G 0, 60, .inl a0_years)), (q_a0_rains, .inl (xy G 0, 60, .inl a0_rains)), (q_a0_kinds, .inl (xy G 0, 60, .inl a0_kinds))] H → va_D A [(q_this, .inr (4, [.ref q_all, .ref q_wet, .ref q_scores])), (q_all, .inl (xy G 0, 64, .inl all)), (q_wet, .inl (xy G 0, 64, .inl wet)), (q_a0, .inr (0, [.int a0_days, .ref q_a0_years, .ref q_a0_months, .ref q_a0_presses, .ref q_a0_winds, .ref q_a0_skies, .ref q_a0_rains, .ref q_a0_wires, .ref q_a0_kinds])), (q_a0_years, .inl (xy G 0, 60, .inl a0_years)), (q_a0_rains, .inl (xy G 0, 60, .inl a0_rains)), (q_a0_kinds, .inl (xy G 0, 60, .inl a0_kinds))] → va_S A s.heap H locs → xV p l e ({ frames := 2, cells := 0, slots := 0, locals := 48 }) s m [.ref q_this, .ref q_a0, .int p1] below meth c H locs 0 0 0 0 A (xRv G A [(q_this, .inr (4, [.ref q_all, .ref q_wet, .ref q_scores])), (q_all, .inl (xy G 0, 64, .inl out.1)), (q_wet, .inl (xy G 0, 64, .inl out.2)), (q_a0, .inr (0, [.int a0_days, .ref q_a0_years, .ref q_a0_months, .ref q_a0_presses, .ref q_a0_winds, .ref q_a0_skies, .ref q_a0_rains, .ref q_a0_wires, .ref q_a0_kinds])), (q_a0_years, .inl (xy G 0, 60, .inl a0_years)), (q_a0_rains, .inl (xy G 0, 60, .inl a0_rains)), (q_a0_kinds, .inl (xy G 0, 60, .inl a0_kinds))]) (F0 m 2 ls []) := by
    intro all wet v2 v3 ls hl o h ho H locs hP hD hS
    unfold mX4_countByKeys_b2 at h
    refine x_loop_walk (K := (fun z => z = out)) (motive := fun q : Int32 × (Nat → Int32) × (Nat → Int32) => ∀ ls : Array Slot, lv_has ls 5 [(0, .ref q_this), (1, .ref q_a0), (2, .int (v2)), (3, .int (q.1))] → ∀ (H : Heap) (locs : List Loc), va_P (xD G) vwCl [(q_this, .inr (4, [.ref q_all, .ref q_wet, .ref q_scores])), (q_all, .inl (xy G 0, 64, .inl (q.2.1))), (q_wet, .inl (xy G 0, 64, .inl (q.2.2))), (q_a0, .inr (0, [.int a0_days, .ref q_a0_years, .ref q_a0_months, .ref q_a0_presses, .ref q_a0_winds, .ref q_a0_skies, .ref q_a0_rains, .ref q_a0_wires, .ref q_a0_kinds])), (q_a0_years, .inl (xy G 0, 60, .inl a0_years)), (q_a0_rains, .inl (xy G 0, 60, .inl a0_rains)), (q_a0_kinds, .inl (xy G 0, 60, .inl a0_kinds))] H → va_D A [(q_this, .inr (4, [.ref q_all, .ref q_wet, .ref q_scores])), (q_all, .inl (xy G 0, 64, .inl (q.2.1))), (q_wet, .inl (xy G 0, 64, .inl (q.2.2))), (q_a0, .inr (0, [.int a0_days, .ref q_a0_years, .ref q_a0_months, .ref q_a0_presses, .ref q_a0_winds, .ref q_a0_skies, .ref q_a0_rains, .ref q_a0_wires, .ref q_a0_kinds])), (q_a0_years, .inl (xy G 0, 60, .inl a0_years)), (q_a0_rains, .inl (xy G 0, 60, .inl a0_rains)), (q_a0_kinds, .inl (xy G 0, 60, .inl a0_kinds))] → va_S A s.heap H locs → xV p l e ({ frames := 2, cells := 0, slots := 0, locals := 48 }) s m [.ref q_this, .ref q_a0, .int p1] below meth c H locs 0 0 0 0 A (xRv G A [(q_this, .inr (4, [.ref q_all, .ref q_wet, .ref q_scores])), (q_all, .inl (xy G 0, 64, .inl out.1)), (q_wet, .inl (xy G 0, 64, .inl out.2)), (q_a0, .inr (0, [.int a0_days, .ref q_a0_years, .ref q_a0_months, .ref q_a0_presses, .ref q_a0_winds, .ref q_a0_skies, .ref q_a0_rains, .ref q_a0_wires, .ref q_a0_kinds])), (q_a0_years, .inl (xy G 0, 60, .inl a0_years)), (q_a0_rains, .inl (xy G 0, 60, .inl a0_rains)), (q_a0_kinds, .inl (xy G 0, 60, .inl a0_kinds))]) (F0 m 2 ls [])) ?_ h ho ls hl H locs hP hD hS
    clear hP hD hS
    intro K1 e1 i1 q o h ho
    obtain ⟨v3, all, wet⟩ := q
    intro ls hl H locs hP hD hS
    have hl : lv_has ls 5 [(0, .ref q_this), (1, .ref q_a0), (2, .int v2), (3, .int v3)] := hl
    have hP : va_P (xD G) vwCl [(q_this, .inr (4, [.ref q_all, .ref q_wet, .ref q_scores])), (q_all, .inl (xy G 0, 64, .inl all)), (q_wet, .inl (xy G 0, 64, .inl wet)), (q_a0, .inr (0, [.int a0_days, .ref q_a0_years, .ref q_a0_months, .ref q_a0_presses, .ref q_a0_winds, .ref q_a0_skies, .ref q_a0_rains, .ref q_a0_wires, .ref q_a0_kinds])), (q_a0_years, .inl (xy G 0, 60, .inl a0_years)), (q_a0_rains, .inl (xy G 0, 60, .inl a0_rains)), (q_a0_kinds, .inl (xy G 0, 60, .inl a0_kinds))] H := hP
    have hD : va_D A [(q_this, .inr (4, [.ref q_all, .ref q_wet, .ref q_scores])), (q_all, .inl (xy G 0, 64, .inl all)), (q_wet, .inl (xy G 0, 64, .inl wet)), (q_a0, .inr (0, [.int a0_days, .ref q_a0_years, .ref q_a0_months, .ref q_a0_presses, .ref q_a0_winds, .ref q_a0_skies, .ref q_a0_rains, .ref q_a0_wires, .ref q_a0_kinds])), (q_a0_years, .inl (xy G 0, 60, .inl a0_years)), (q_a0_rains, .inl (xy G 0, 60, .inl a0_rains)), (q_a0_kinds, .inl (xy G 0, 60, .inl a0_kinds))] := hD
    replace h : mX4_countByKeys_s2 a0_days a0_years a0_rains a0_kinds v2 v3 all wet = some o := h
    unfold mX4_countByKeys_s2 at h
    refine lv_iload_n hx hb dX4_countByKeys_2 rfl (lv_at hl 3 rfl) ?_
    refine lv_bipush (v := 64) hx hb dX4_countByKeys_3 (by decide) ?_
    refine lv_icmp_ge (tgt := 32) hx hb dX4_countByKeys_5 (by decide) (fun hc312 => ?_) (fun hc312 => ?_)
    · replace h := (if_pos hc312).symm.trans h
      refine lv_iconst (v := 0) hx hb dX4_countByKeys_32 (by decide) ?_
      refine lv_istore_n (lv' := [(3, .int 0), (0, .ref q_this), (1, .ref q_a0), (2, .int v2)]) hx hb dX4_countByKeys_33 rfl hl (by decide) rfl (fun ls hl => ?_)
      obtain ⟨o313, ho313, rfl⟩ := x_up_some h
      replace h := ho313
      have hP : va_P (xD G) vwCl [(q_this, .inr (4, [.ref q_all, .ref q_wet, .ref q_scores])), (q_all, .inl (xy G 0, 64, .inl all)), (q_wet, .inl (xy G 0, 64, .inl wet)), (q_a0, .inr (0, [.int a0_days, .ref q_a0_years, .ref q_a0_months, .ref q_a0_presses, .ref q_a0_winds, .ref q_a0_skies, .ref q_a0_rains, .ref q_a0_wires, .ref q_a0_kinds])), (q_a0_years, .inl (xy G 0, 60, .inl a0_years)), (q_a0_rains, .inl (xy G 0, 60, .inl a0_rains)), (q_a0_kinds, .inl (xy G 0, 60, .inl a0_kinds))] H := hP
      exact J34  all wet v2 0 ls (lv_sub hl [1, 2, 3, 0] rfl) _ h (e1 _ ho) H locs hP hD hS
    · replace h := (if_neg hc312).symm.trans h
      refine lv_aload_n hx hb dX4_countByKeys_8 rfl (lv_at hl 0 rfl) ?_
      refine va_get (D := xD G) (ci := 4) (v := .ref q_all) (C := RX4) (T := TX4) (N := 3) hx hb hts (fun w9 h9 => (List.mem_cons_of_mem _ (List.mem_append_left _ (List.mem_append_right _ h9)))) hown hE.1 hP 0 rfl rfl 0 (by decide) (hts (.fieldLink RX4 9 "FallingGlass$KeyTrial" "all" "[I") (List.mem_of_getElem? (i := 1) rfl)) (fun _ h9 => h9) rfl dX4_countByKeys_9 ?_
      refine lv_iload_n hx hb dX4_countByKeys_12 rfl (lv_at hl 3 rfl) ?_
      refine lv_iconst (v := 0) hx hb dX4_countByKeys_13 (by decide) ?_
      obtain ⟨r314, hr314, h⟩ := x_bind h
      have hPr314 : va_P (xD G) vwCl [(q_all, .inl (xy G 0, 64, .inl all))] H := hP.sub [1] rfl
      have hDr314 : va_D A [(q_all, .inl (xy G 0, 64, .inl all))] := hD.sub [1] (by decide) rfl
      have hFr314 := va_free (wc := [(q_all, .inl (xy G 0, 64, .inl all))]) hD hS hA [1] rfl
      refine x_callwv (wc := [(q_all, .inl (xy G 0, 64, .inl all))]) (w1 := [(q_all, .inl (xy G 0, 64, .inl r314))]) (ws' := [(q_this, .inr (4, [.ref q_all, .ref q_wet, .ref q_scores])), (q_all, .inl (xy G 0, 64, .inl r314)), (q_wet, .inl (xy G 0, 64, .inl wet)), (q_a0, .inr (0, [.int a0_days, .ref q_a0_years, .ref q_a0_months, .ref q_a0_presses, .ref q_a0_winds, .ref q_a0_skies, .ref q_a0_rains, .ref q_a0_wires, .ref q_a0_kinds])), (q_a0_years, .inl (xy G 0, 60, .inl a0_years)), (q_a0_rains, .inl (xy G 0, 60, .inl a0_rains)), (q_a0_kinds, .inl (xy G 0, 60, .inl a0_kinds))]) (va_runSN (As := [.ref q_all, .int v3, .int 0]) (rest := []) ⟨hx, hb, hml, hown, hts⟩ (kX9_put l G H [(q_all, .inl (xy G 0, 64, .inl all))] rfl hPr314 (hDr314.weaken (fun _ _ _ _ => trivial)) hr314) ⟨va_cnB 3 hts gX4_countByKeys_X9_put_n60 rfl rfl rfl (hE.nm 14 rfl) (hts (.initialized RX9) (List.mem_of_getElem? (i := 5) rfl)) (by decide +kernel) ⟨Nat.le_of_ble_eq_true rfl, Nat.le_of_ble_eq_true rfl⟩, (hts (.static yX9_put) (List.mem_of_getElem? (i := 4) rfl)), trivial⟩ (x_preSw hE hS hFr314) rfl rfl hl.1 rfl (lv_room (Nat.le_of_ble_eq_true rfl)) dX4_countByKeys_14 ⟨Nat.le_of_ble_eq_true rfl, Nat.le_of_ble_eq_true rfl⟩) hP hD hS hFr314 [1] [none, some 0, none, none, none, none, none] (n := 7) (by decide) rfl rfl rfl (fun H locs hP hD hS => ?_)
      refine lv_aload_n hx hb dX4_countByKeys_17 rfl (lv_at hl 0 rfl) ?_
      refine va_get (D := xD G) (ci := 4) (v := .ref q_wet) (C := RX4) (T := TX4) (N := 3) hx hb hts (fun w9 h9 => (List.mem_cons_of_mem _ (List.mem_append_left _ (List.mem_append_right _ h9)))) hown hE.1 hP 0 rfl rfl 1 (by decide) (hts (.fieldLink RX4 15 "FallingGlass$KeyTrial" "wet" "[I") (List.mem_of_getElem? (i := 2) rfl)) (fun _ h9 => h9) rfl dX4_countByKeys_18 ?_
      refine lv_iload_n hx hb dX4_countByKeys_21 rfl (lv_at hl 3 rfl) ?_
      refine lv_iconst (v := 0) hx hb dX4_countByKeys_22 (by decide) ?_
      obtain ⟨r315, hr315, h⟩ := x_bind h
      have hPr315 : va_P (xD G) vwCl [(q_wet, .inl (xy G 0, 64, .inl wet))] H := hP.sub [2] rfl
      have hDr315 : va_D A [(q_wet, .inl (xy G 0, 64, .inl wet))] := hD.sub [2] (by decide) rfl
      have hFr315 := va_free (wc := [(q_wet, .inl (xy G 0, 64, .inl wet))]) hD hS hA [2] rfl
      refine x_callwv (wc := [(q_wet, .inl (xy G 0, 64, .inl wet))]) (w1 := [(q_wet, .inl (xy G 0, 64, .inl r315))]) (ws' := [(q_this, .inr (4, [.ref q_all, .ref q_wet, .ref q_scores])), (q_all, .inl (xy G 0, 64, .inl r314)), (q_wet, .inl (xy G 0, 64, .inl r315)), (q_a0, .inr (0, [.int a0_days, .ref q_a0_years, .ref q_a0_months, .ref q_a0_presses, .ref q_a0_winds, .ref q_a0_skies, .ref q_a0_rains, .ref q_a0_wires, .ref q_a0_kinds])), (q_a0_years, .inl (xy G 0, 60, .inl a0_years)), (q_a0_rains, .inl (xy G 0, 60, .inl a0_rains)), (q_a0_kinds, .inl (xy G 0, 60, .inl a0_kinds))]) (va_runSN (As := [.ref q_wet, .int v3, .int 0]) (rest := []) ⟨hx, hb, hml, hown, hts⟩ (kX9_put l G H [(q_wet, .inl (xy G 0, 64, .inl wet))] rfl hPr315 (hDr315.weaken (fun _ _ _ _ => trivial)) hr315) ⟨va_cnB 3 hts gX4_countByKeys_X9_put_n60 rfl rfl rfl (hE.nm 14 rfl) (hts (.initialized RX9) (List.mem_of_getElem? (i := 5) rfl)) (by decide +kernel) ⟨Nat.le_of_ble_eq_true rfl, Nat.le_of_ble_eq_true rfl⟩, (hts (.static yX9_put) (List.mem_of_getElem? (i := 4) rfl)), trivial⟩ (x_preSw hE hS hFr315) rfl rfl hl.1 rfl (lv_room (Nat.le_of_ble_eq_true rfl)) dX4_countByKeys_23 ⟨Nat.le_of_ble_eq_true rfl, Nat.le_of_ble_eq_true rfl⟩) hP hD hS hFr315 [2] [none, none, some 0, none, none, none, none] (n := 7) (by decide) rfl rfl rfl (fun H locs hP hD hS => ?_)
      refine lv_iinc (v := (v3 + 1)) (lv' := [(3, .int (v3 + 1)), (0, .ref q_this), (1, .ref q_a0), (2, .int v2)]) hx hb dX4_countByKeys_26 hl (k := 3) rfl rfl (by decide) rfl (fun ls hl => ?_)
      refine lv_goto (tgt := 2) hx hb dX4_countByKeys_29 (by decide) ?_
      have hP : va_P (xD G) vwCl [(q_this, .inr (4, [.ref q_all, .ref q_wet, .ref q_scores])), (q_all, .inl (xy G 0, 64, .inl r314)), (q_wet, .inl (xy G 0, 64, .inl r315)), (q_a0, .inr (0, [.int a0_days, .ref q_a0_years, .ref q_a0_months, .ref q_a0_presses, .ref q_a0_winds, .ref q_a0_skies, .ref q_a0_rains, .ref q_a0_wires, .ref q_a0_kinds])), (q_a0_years, .inl (xy G 0, 60, .inl a0_years)), (q_a0_rains, .inl (xy G 0, 60, .inl a0_rains)), (q_a0_kinds, .inl (xy G 0, 60, .inl a0_kinds))] H := hP
      exact i1 ((v3 + 1), r314, r315) (by cases h; exact ho) ls (lv_sub hl [1, 2, 3, 0] rfl) H locs hP hD hS
  unfold mX4_countByKeys at h
  refine lv_iconst (v := 0) hx hb dX4_countByKeys_0 (by decide) ?_
  refine lv_istore_n (lv' := [(3, .int 0), (0, .ref q_this), (1, .ref q_a0), (2, .int p1)]) hx hb dX4_countByKeys_1 rfl hl (by decide) rfl (fun ls hl => ?_)
  have hP : va_P (xD G) vwCl [(q_this, .inr (4, [.ref q_all, .ref q_wet, .ref q_scores])), (q_all, .inl (xy G 0, 64, .inl all)), (q_wet, .inl (xy G 0, 64, .inl wet)), (q_a0, .inr (0, [.int a0_days, .ref q_a0_years, .ref q_a0_months, .ref q_a0_presses, .ref q_a0_winds, .ref q_a0_skies, .ref q_a0_rains, .ref q_a0_wires, .ref q_a0_kinds])), (q_a0_years, .inl (xy G 0, 60, .inl a0_years)), (q_a0_rains, .inl (xy G 0, 60, .inl a0_rains)), (q_a0_kinds, .inl (xy G 0, 60, .inl a0_kinds))] H := hP
  exact J2  all wet p1 0 ls (lv_sub hl [1, 2, 3, 0] rfl) _ h ho H locs hP hD hS
noncomputable def mX6_add (n_this : Nat) (squares : Nat → Int32) (days : Nat → Int32) (p0 : Int32) (p1 : Int32) (p2 : Int32) : Option ((Nat → Int32) × (Nat → Int32)) :=
  if p1 = (-6) then (some (squares, days)) else ((mX9_at n_this squares p0).bind (fun r502 => (mX9_put n_this squares p0 ((r502 + ((p1 - (1000 * p2)) * (p1 - (1000 * p2)))))).bind (fun r503 => (mX9_at n_this days p0).bind (fun r504 => (mX9_put n_this days p0 ((r504 + 1))).bind (fun r505 => some (r503, r505))))))
set_option maxHeartbeats 4000000 in
set_option maxRecDepth 100000 in
theorem kX6_add (l : Launch) (G : xG) (H0 : Heap) {q_this q_squares q_days n_this : Nat} {squares : Nat → Int32} {days : Nat → Int32} {p0 : Int32} {p1 : Int32} {p2 : Int32} (w0 : va_W) (hw0 : w0 = [(q_this, .inr (6, [.ref q_squares, .ref q_days])), (q_squares, .inl (xy G 0, n_this, .inl squares)), (q_days, .inl (xy G 0, n_this, .inl days))]) (hP : va_P (xD G) vwCl w0 H0) (hD : va_D (fun _ => True) w0) {out : (Nat → Int32) × (Nat → Int32)} (h : mX6_add n_this squares days p0 p1 p2 = some out) : Met l yX6_add wsX6_add ({ frames := 1, cells := 0, slots := 0, locals := 22 }) (xPcw G (va_A w0 H0.size) H0 [.ref q_this, .int p0, .int p1, .int p2]) (xRv G (va_A w0 H0.size) [(q_this, .inr (6, [.ref q_squares, .ref q_days])), (q_squares, .inl (xy G 0, n_this, .inl out.1)), (q_days, .inl (xy G 0, n_this, .inl out.2))]) 0 0 (va_A w0 H0.size) := by
  refine x_metw (y := yX6_add) (ws := wsX6_add) (rm := { frames := 1, cells := 0, slots := 0, locals := 22 }) (G := G) (H0 := H0) (w0 := w0) (av := [.ref q_this, .int p0, .int p1, .int p2]) (mc := 0) (ms := 0) (Qc := (fun A => (xRv G A [(q_this, .inr (6, [.ref q_squares, .ref q_days])), (q_squares, .inl (xy G 0, n_this, .inl out.1)), (q_days, .inl (xy G 0, n_this, .inl out.2))]))) (by decide) rfl (Nat.le_of_ble_eq_true rfl) hP hD ?_
  clear hP hD
  intro p e s m below meth c ls A H locs hA hAt hnm hl hP hD hS
  subst hw0
  obtain ⟨hx, hb, hr, hlk, hml, hown, hts, hE⟩ := hAt
  have hown : s.vm.findClass RX6 = some m.cls := hown
  have hl : lv_has ls 5 [(0, .ref q_this), (1, .int p0), (2, .int p1), (3, .int p2)] := hl
  have ho : out = out := rfl
  unfold mX6_add at h
  refine lv_iload_n hx hb dX6_add_0 rfl (lv_at hl 2 rfl) ?_
  refine lv_bipush (v := (-6)) hx hb dX6_add_1 (by decide) ?_
  refine lv_icmp_eq (tgt := 55) hx hb dX6_add_3 (by decide) (fun hc501 => ?_) (fun hc501 => ?_)
  · replace h := (if_pos hc501).symm.trans h
    have hq : (squares, days) = out := by cases h; exact ho
    subst hq
    have hP : va_P (xD G) vwCl [(q_this, .inr (6, [.ref q_squares, .ref q_days])), (q_squares, .inl (xy G 0, n_this, .inl squares)), (q_days, .inl (xy G 0, n_this, .inl days))] H := hP
    have hD : va_D A [(q_this, .inr (6, [.ref q_squares, .ref q_days])), (q_squares, .inl (xy G 0, n_this, .inl squares)), (q_days, .inl (xy G 0, n_this, .inl days))] := hD
    exact x_vretw hx hb hr hlk hP hD hS dX6_add_55
  · replace h := (if_neg hc501).symm.trans h
    refine lv_iload_n hx hb dX6_add_6 rfl (lv_at hl 2 rfl) ?_
    refine lv_sipush (v := 1000) hx hb dX6_add_7 (by decide) ?_
    refine lv_iload_n hx hb dX6_add_10 rfl (lv_at hl 3 rfl) ?_
    refine lv_imul hx hb dX6_add_11 ?_
    refine lv_isub hx hb dX6_add_12 ?_
    refine lv_istore (lv' := [(4, .int (p1 - (1000 * p2))), (0, .ref q_this), (1, .int p0), (2, .int p1), (3, .int p2)]) hx hb dX6_add_13 hl (by decide) rfl (fun ls hl => ?_)
    refine lv_aload_n hx hb dX6_add_15 rfl (lv_at hl 1 rfl) ?_
    refine va_get (D := xD G) (ci := 6) (v := .ref q_squares) (C := RX6) (T := TX6) (N := 2) hx hb hts (fun w9 h9 => (List.mem_cons_of_mem _ (List.mem_append_right _ h9))) hown hE.1 hP 0 rfl rfl 0 (by decide) (hts (.fieldLink RX6 15 "FallingGlass$Scores" "squares" "[I") (List.mem_of_getElem? (i := 1) rfl)) (fun _ h9 => h9) rfl dX6_add_16 ?_
    refine lv_iload_n hx hb dX6_add_19 rfl (lv_at hl 2 rfl) ?_
    refine lv_aload_n hx hb dX6_add_20 rfl (lv_at hl 1 rfl) ?_
    refine va_get (D := xD G) (ci := 6) (v := .ref q_squares) (C := RX6) (T := TX6) (N := 2) hx hb hts (fun w9 h9 => (List.mem_cons_of_mem _ (List.mem_append_right _ h9))) hown hE.1 hP 0 rfl rfl 0 (by decide) (hts (.fieldLink RX6 15 "FallingGlass$Scores" "squares" "[I") (List.mem_of_getElem? (i := 1) rfl)) (fun _ h9 => h9) rfl dX6_add_21 ?_
    refine lv_iload_n hx hb dX6_add_24 rfl (lv_at hl 2 rfl) ?_
    obtain ⟨r502, hr502, h⟩ := x_bind h
    have hPr502 : va_P (xD G) vwCl [(q_squares, .inl (xy G 0, n_this, .inl squares))] H := hP.sub [1] rfl
    refine x_calli (va_runSN (As := [.ref q_squares, .int p0]) (rest := [.int p0, .ref q_squares]) ⟨hx, hb, hml, hown, hts⟩ (kX9_at l G H hPr502 hr502) ⟨va_cnB 2 hts gX6_add_X9_at_n28 rfl rfl rfl (hE.nm 17 rfl) (hts (.initialized RX9) (List.mem_of_getElem? (i := 4) rfl)) (by decide +kernel) ⟨Nat.le_of_ble_eq_true rfl, Nat.le_of_ble_eq_true rfl⟩, (hts (.static yX9_at) (List.mem_of_getElem? (i := 3) rfl)), trivial⟩ (x_preS hE hS) rfl rfl hl.1 rfl (lv_room (Nat.le_of_ble_eq_true rfl)) dX6_add_25 ⟨Nat.le_of_ble_eq_true rfl, Nat.le_of_ble_eq_true rfl⟩) ?_
    refine lv_iload hx hb dX6_add_28 (lv_at hl 0 rfl) ?_
    refine lv_iload hx hb dX6_add_30 (lv_at hl 0 rfl) ?_
    refine lv_imul hx hb dX6_add_32 ?_
    refine lv_iadd hx hb dX6_add_33 ?_
    obtain ⟨r503, hr503, h⟩ := x_bind h
    have hPr503 : va_P (xD G) vwCl [(q_squares, .inl (xy G 0, n_this, .inl squares))] H := hP.sub [1] rfl
    have hDr503 : va_D A [(q_squares, .inl (xy G 0, n_this, .inl squares))] := hD.sub [1] (by decide) rfl
    have hFr503 := va_free (wc := [(q_squares, .inl (xy G 0, n_this, .inl squares))]) hD hS hA [1] rfl
    refine x_callwv (wc := [(q_squares, .inl (xy G 0, n_this, .inl squares))]) (w1 := [(q_squares, .inl (xy G 0, n_this, .inl r503))]) (ws' := [(q_this, .inr (6, [.ref q_squares, .ref q_days])), (q_squares, .inl (xy G 0, n_this, .inl r503)), (q_days, .inl (xy G 0, n_this, .inl days))]) (va_runSN (As := [.ref q_squares, .int p0, .int (r502 + ((p1 - (1000 * p2)) * (p1 - (1000 * p2))))]) (rest := []) ⟨hx, hb, hml, hown, hts⟩ (kX9_put l G H [(q_squares, .inl (xy G 0, n_this, .inl squares))] rfl hPr503 (hDr503.weaken (fun _ _ _ _ => trivial)) hr503) ⟨va_cnB 3 hts gX6_add_X9_put_n24 rfl rfl rfl (hE.nm 16 rfl) (hts (.initialized RX9) (List.mem_of_getElem? (i := 4) rfl)) (by decide +kernel) ⟨Nat.le_of_ble_eq_true rfl, Nat.le_of_ble_eq_true rfl⟩, (hts (.static yX9_put) (List.mem_of_getElem? (i := 6) rfl)), trivial⟩ (x_preSw hE hS hFr503) rfl rfl hl.1 rfl (lv_room (Nat.le_of_ble_eq_true rfl)) dX6_add_34 ⟨Nat.le_of_ble_eq_true rfl, Nat.le_of_ble_eq_true rfl⟩) hP hD hS hFr503 [1] [none, some 0, none] (n := 3) (by decide) rfl rfl rfl (fun H locs hP hD hS => ?_)
    refine lv_aload_n hx hb dX6_add_37 rfl (lv_at hl 1 rfl) ?_
    refine va_get (D := xD G) (ci := 6) (v := .ref q_days) (C := RX6) (T := TX6) (N := 2) hx hb hts (fun w9 h9 => (List.mem_cons_of_mem _ (List.mem_append_right _ h9))) hown hE.1 hP 0 rfl rfl 1 (by decide) (hts (.fieldLink RX6 21 "FallingGlass$Scores" "days" "[I") (List.mem_of_getElem? (i := 2) rfl)) (fun _ h9 => h9) rfl dX6_add_38 ?_
    refine lv_iload_n hx hb dX6_add_41 rfl (lv_at hl 2 rfl) ?_
    refine lv_aload_n hx hb dX6_add_42 rfl (lv_at hl 1 rfl) ?_
    refine va_get (D := xD G) (ci := 6) (v := .ref q_days) (C := RX6) (T := TX6) (N := 2) hx hb hts (fun w9 h9 => (List.mem_cons_of_mem _ (List.mem_append_right _ h9))) hown hE.1 hP 0 rfl rfl 1 (by decide) (hts (.fieldLink RX6 21 "FallingGlass$Scores" "days" "[I") (List.mem_of_getElem? (i := 2) rfl)) (fun _ h9 => h9) rfl dX6_add_43 ?_
    refine lv_iload_n hx hb dX6_add_46 rfl (lv_at hl 2 rfl) ?_
    obtain ⟨r504, hr504, h⟩ := x_bind h
    have hPr504 : va_P (xD G) vwCl [(q_days, .inl (xy G 0, n_this, .inl days))] H := hP.sub [2] rfl
    refine x_calli (va_runSN (As := [.ref q_days, .int p0]) (rest := [.int p0, .ref q_days]) ⟨hx, hb, hml, hown, hts⟩ (kX9_at l G H hPr504 hr504) ⟨va_cnB 2 hts gX6_add_X9_at_n28 rfl rfl rfl (hE.nm 17 rfl) (hts (.initialized RX9) (List.mem_of_getElem? (i := 4) rfl)) (by decide +kernel) ⟨Nat.le_of_ble_eq_true rfl, Nat.le_of_ble_eq_true rfl⟩, (hts (.static yX9_at) (List.mem_of_getElem? (i := 3) rfl)), trivial⟩ (x_preS hE hS) rfl rfl hl.1 rfl (lv_room (Nat.le_of_ble_eq_true rfl)) dX6_add_47 ⟨Nat.le_of_ble_eq_true rfl, Nat.le_of_ble_eq_true rfl⟩) ?_
    refine lv_iconst (v := 1) hx hb dX6_add_50 (by decide) ?_
    refine lv_iadd hx hb dX6_add_51 ?_
    obtain ⟨r505, hr505, h⟩ := x_bind h
    have hPr505 : va_P (xD G) vwCl [(q_days, .inl (xy G 0, n_this, .inl days))] H := hP.sub [2] rfl
    have hDr505 : va_D A [(q_days, .inl (xy G 0, n_this, .inl days))] := hD.sub [2] (by decide) rfl
    have hFr505 := va_free (wc := [(q_days, .inl (xy G 0, n_this, .inl days))]) hD hS hA [2] rfl
    refine x_callwv (wc := [(q_days, .inl (xy G 0, n_this, .inl days))]) (w1 := [(q_days, .inl (xy G 0, n_this, .inl r505))]) (ws' := [(q_this, .inr (6, [.ref q_squares, .ref q_days])), (q_squares, .inl (xy G 0, n_this, .inl r503)), (q_days, .inl (xy G 0, n_this, .inl r505))]) (va_runSN (As := [.ref q_days, .int p0, .int (r504 + 1)]) (rest := []) ⟨hx, hb, hml, hown, hts⟩ (kX9_put l G H [(q_days, .inl (xy G 0, n_this, .inl days))] rfl hPr505 (hDr505.weaken (fun _ _ _ _ => trivial)) hr505) ⟨va_cnB 3 hts gX6_add_X9_put_n24 rfl rfl rfl (hE.nm 16 rfl) (hts (.initialized RX9) (List.mem_of_getElem? (i := 4) rfl)) (by decide +kernel) ⟨Nat.le_of_ble_eq_true rfl, Nat.le_of_ble_eq_true rfl⟩, (hts (.static yX9_put) (List.mem_of_getElem? (i := 6) rfl)), trivial⟩ (x_preSw hE hS hFr505) rfl rfl hl.1 rfl (lv_room (Nat.le_of_ble_eq_true rfl)) dX6_add_52 ⟨Nat.le_of_ble_eq_true rfl, Nat.le_of_ble_eq_true rfl⟩) hP hD hS hFr505 [2] [none, none, some 0] (n := 3) (by decide) rfl rfl rfl (fun H locs hP hD hS => ?_)
    have hq : (r503, r505) = out := by cases h; exact ho
    subst hq
    have hP : va_P (xD G) vwCl [(q_this, .inr (6, [.ref q_squares, .ref q_days])), (q_squares, .inl (xy G 0, n_this, .inl r503)), (q_days, .inl (xy G 0, n_this, .inl r505))] H := hP
    have hD : va_D A [(q_this, .inr (6, [.ref q_squares, .ref q_days])), (q_squares, .inl (xy G 0, n_this, .inl r503)), (q_days, .inl (xy G 0, n_this, .inl r505))] := hD
    exact x_vretw hx hb hr hlk hP hD hS dX6_add_55
noncomputable def mX6_daysOf (n_this : Nat) (days : Nat → Int32) (p0 : Int32) : Option (Int32) :=
  (mX9_at n_this days p0).bind (fun r501 => some r501)
set_option maxHeartbeats 4000000 in
set_option maxRecDepth 100000 in
theorem kX6_daysOf (l : Launch) (G : xG) (H0 : Heap) {q_this q_squares q_days n_this : Nat} {days : Nat → Int32} {p0 : Int32} (hP : va_P (xD G) vwCl [(q_this, .inr (6, [.ref q_squares, .ref q_days])), (q_days, .inl (xy G 0, n_this, .inl days))] H0) {out : Int32} (h : mX6_daysOf n_this days p0 = some out) : Met l yX6_daysOf wsX6_daysOf ({ frames := 1, cells := 0, slots := 0, locals := 21 }) (xPc G H0 [.ref q_this, .int p0]) (xQi H0 (out)) 0 0 xN := by
  refine x_met (by decide) rfl (Nat.le_of_ble_eq_true rfl) ?_
  intro p e s m below meth c ls hH hA hl
  obtain ⟨hx, hb, hr, hlk, hml, hown, hts, hE⟩ := hA
  subst hH
  have hown : s.vm.findClass RX6 = some m.cls := hown
  have hl : lv_has ls 2 [(0, .ref q_this), (1, .int p0)] := hl
  have hS : va_S xN s.heap s.heap [] := va_S.rf
  have ho : out = out := rfl
  unfold mX6_daysOf at h
  refine lv_aload_n hx hb dX6_daysOf_0 rfl (lv_at hl 0 rfl) ?_
  refine va_get (D := xD G) (ci := 6) (v := .ref q_days) (C := RX6) (T := TX6) (N := 2) hx hb hts (fun w9 h9 => (List.mem_cons_of_mem _ (List.mem_append_right _ h9))) hown hE.1 hP 0 rfl rfl 1 (by decide) (hts (.fieldLink RX6 21 "FallingGlass$Scores" "days" "[I") (List.mem_of_getElem? (i := 1) rfl)) (fun _ h9 => h9) rfl dX6_daysOf_1 ?_
  refine lv_iload_n hx hb dX6_daysOf_4 rfl (lv_at hl 1 rfl) ?_
  obtain ⟨r501, hr501, h⟩ := x_bind h
  have hPr501 : va_P (xD G) vwCl [(q_days, .inl (xy G 0, n_this, .inl days))] s.heap := hP.sub [1] rfl
  refine x_calli (va_runSN (As := [.ref q_days, .int p0]) (rest := []) ⟨hx, hb, hml, hown, hts⟩ (kX9_at l G s.heap hPr501 hr501) ⟨va_cnB 2 hts gX6_daysOf_X9_at_n28 rfl rfl rfl (hE.nm 17 rfl) (hts (.initialized RX9) (List.mem_of_getElem? (i := 3) rfl)) (by decide +kernel) ⟨Nat.le_of_ble_eq_true rfl, Nat.le_of_ble_eq_true rfl⟩, (hts (.static yX9_at) (List.mem_of_getElem? (i := 2) rfl)), trivial⟩ (x_preS hE hS) rfl rfl hl.1 rfl (lv_room (Nat.le_of_ble_eq_true rfl)) dX6_daysOf_5 ⟨Nat.le_of_ble_eq_true rfl, Nat.le_of_ble_eq_true rfl⟩) ?_
  have hq : r501 = out := by cases h; exact ho
  subst hq
  exact x_iret hx hb hr hlk rfl rfl dX6_daysOf_8
noncomputable def mX6_squaresOf (n_this : Nat) (squares : Nat → Int32) (p0 : Int32) : Option (Int32) :=
  (mX9_at n_this squares p0).bind (fun r501 => some r501)
set_option maxHeartbeats 4000000 in
set_option maxRecDepth 100000 in
theorem kX6_squaresOf (l : Launch) (G : xG) (H0 : Heap) {q_this q_squares q_days n_this : Nat} {squares : Nat → Int32} {p0 : Int32} (hP : va_P (xD G) vwCl [(q_this, .inr (6, [.ref q_squares, .ref q_days])), (q_squares, .inl (xy G 0, n_this, .inl squares))] H0) {out : Int32} (h : mX6_squaresOf n_this squares p0 = some out) : Met l yX6_squaresOf wsX6_squaresOf ({ frames := 1, cells := 0, slots := 0, locals := 21 }) (xPc G H0 [.ref q_this, .int p0]) (xQi H0 (out)) 0 0 xN := by
  refine x_met (by decide) rfl (Nat.le_of_ble_eq_true rfl) ?_
  intro p e s m below meth c ls hH hA hl
  obtain ⟨hx, hb, hr, hlk, hml, hown, hts, hE⟩ := hA
  subst hH
  have hown : s.vm.findClass RX6 = some m.cls := hown
  have hl : lv_has ls 2 [(0, .ref q_this), (1, .int p0)] := hl
  have hS : va_S xN s.heap s.heap [] := va_S.rf
  have ho : out = out := rfl
  unfold mX6_squaresOf at h
  refine lv_aload_n hx hb dX6_squaresOf_0 rfl (lv_at hl 0 rfl) ?_
  refine va_get (D := xD G) (ci := 6) (v := .ref q_squares) (C := RX6) (T := TX6) (N := 2) hx hb hts (fun w9 h9 => (List.mem_cons_of_mem _ (List.mem_append_right _ h9))) hown hE.1 hP 0 rfl rfl 0 (by decide) (hts (.fieldLink RX6 15 "FallingGlass$Scores" "squares" "[I") (List.mem_of_getElem? (i := 1) rfl)) (fun _ h9 => h9) rfl dX6_squaresOf_1 ?_
  refine lv_iload_n hx hb dX6_squaresOf_4 rfl (lv_at hl 1 rfl) ?_
  obtain ⟨r501, hr501, h⟩ := x_bind h
  have hPr501 : va_P (xD G) vwCl [(q_squares, .inl (xy G 0, n_this, .inl squares))] s.heap := hP.sub [1] rfl
  refine x_calli (va_runSN (As := [.ref q_squares, .int p0]) (rest := []) ⟨hx, hb, hml, hown, hts⟩ (kX9_at l G s.heap hPr501 hr501) ⟨va_cnB 2 hts gX6_squaresOf_X9_at_n28 rfl rfl rfl (hE.nm 17 rfl) (hts (.initialized RX9) (List.mem_of_getElem? (i := 3) rfl)) (by decide +kernel) ⟨Nat.le_of_ble_eq_true rfl, Nat.le_of_ble_eq_true rfl⟩, (hts (.static yX9_at) (List.mem_of_getElem? (i := 2) rfl)), trivial⟩ (x_preS hE hS) rfl rfl hl.1 rfl (lv_room (Nat.le_of_ble_eq_true rfl)) dX6_squaresOf_5 ⟨Nat.le_of_ble_eq_true rfl, Nat.le_of_ble_eq_true rfl⟩) ?_
  have hq : r501 = out := by cases h; exact ho
  subst hq
  exact x_iret hx hb hr hlk rfl rfl dX6_squaresOf_8
noncomputable def mX6_isBetter (n_this : Nat) (squares : Nat → Int32) (days : Nat → Int32) (p0 : Int32) (p1 : Int32) (p2 : Int32) : Option (Bool) :=
  (mX6_squaresOf n_this squares p0).bind (fun r501 => (mX6_daysOf n_this days p1).bind (fun r502 => (mX6_squaresOf n_this squares p1).bind (fun r503 => (mX6_daysOf n_this days p0).bind (fun r504 => if (lg_cmp (((Int32.toInt64 r501) * (Int32.toInt64 r502))) (((Int32.toInt64 r503) * (Int32.toInt64 r504)))) = 0 then (if p2 = 0 then (some false) else ((mJ6_bitCount_0f7a4 p0).bind (fun r507 => (mJ6_bitCount_0f7a4 p1).bind (fun r508 => if r508 ≤ r507 then (some false) else (some true))))) else (if 0 ≤ (lg_cmp (((Int32.toInt64 r501) * (Int32.toInt64 r502))) (((Int32.toInt64 r503) * (Int32.toInt64 r504)))) then (some false) else (some true))))))
set_option maxHeartbeats 4000000 in
set_option maxRecDepth 100000 in
theorem kX6_isBetter (l : Launch) (G : xG) (H0 : Heap) {q_this q_squares q_days n_this : Nat} {squares : Nat → Int32} {days : Nat → Int32} {p0 : Int32} {p1 : Int32} {p2 : Int32} (hP : va_P (xD G) vwCl [(q_this, .inr (6, [.ref q_squares, .ref q_days])), (q_squares, .inl (xy G 0, n_this, .inl squares)), (q_days, .inl (xy G 0, n_this, .inl days))] H0) {out : Bool} (h : mX6_isBetter n_this squares days p0 p1 p2 = some out) : Met l yX6_isBetter wsX6_isBetter ({ frames := 2, cells := 0, slots := 0, locals := 42 }) (xPc G H0 [.ref q_this, .int p0, .int p1, .int p2]) (xQi H0 (xb out)) 0 0 xN := by
  refine x_met (by decide) rfl (Nat.le_of_ble_eq_true rfl) ?_
  intro p e s m below meth c ls hH hA hl
  obtain ⟨hx, hb, hr, hlk, hml, hown, hts, hE⟩ := hA
  subst hH
  have hown : s.vm.findClass RX6 = some m.cls := hown
  have hl : lv_has ls 8 [(0, .ref q_this), (1, .int p0), (2, .int p1), (3, .int p2)] := hl
  have hS : va_S xN s.heap s.heap [] := va_S.rf
  have ho : out = out := rfl
  unfold mX6_isBetter at h
  refine lv_aload_n hx hb dX6_isBetter_0 rfl (lv_at hl 0 rfl) ?_
  refine lv_iload_n hx hb dX6_isBetter_1 rfl (lv_at hl 1 rfl) ?_
  obtain ⟨r501, hr501, h⟩ := x_bind h
  have hPr501 : va_P (xD G) vwCl [(q_this, .inr (6, [.ref q_squares, .ref q_days])), (q_squares, .inl (xy G 0, n_this, .inl squares))] s.heap := hP.sub [0, 1] rfl
  refine x_calli (va_runV (As := [.int p0]) (rest := []) ⟨hx, hb, hml, hown, hts⟩ (kX6_squaresOf l G s.heap hPr501 hr501) (cwV 1 hts gX6_isBetter_X6_squaresOf rfl rfl rfl (by decide +kernel) ⟨Nat.le_of_ble_eq_true rfl, Nat.le_of_ble_eq_true rfl⟩) (x_preV hE hS hP (ci := 6) (q0 := 0) rfl rfl) rfl rfl hl.1 rfl (lv_room (Nat.le_of_ble_eq_true rfl)) dX6_isBetter_2 ⟨Nat.le_of_ble_eq_true rfl, Nat.le_of_ble_eq_true rfl⟩) ?_
  refine lv_i2l (v := (Int32.toInt64 r501)) hx hb dX6_isBetter_5 rfl ?_
  refine lv_aload_n hx hb dX6_isBetter_6 rfl (lv_at hl 0 rfl) ?_
  refine lv_iload_n hx hb dX6_isBetter_7 rfl (lv_at hl 2 rfl) ?_
  obtain ⟨r502, hr502, h⟩ := x_bind h
  have hPr502 : va_P (xD G) vwCl [(q_this, .inr (6, [.ref q_squares, .ref q_days])), (q_days, .inl (xy G 0, n_this, .inl days))] s.heap := hP.sub [0, 2] rfl
  refine x_calli (va_runV (As := [.int p1]) (rest := [.long (Int32.toInt64 r501)]) ⟨hx, hb, hml, hown, hts⟩ (kX6_daysOf l G s.heap hPr502 hr502) (cwV 1 hts gX6_isBetter_X6_daysOf rfl rfl rfl (by decide +kernel) ⟨Nat.le_of_ble_eq_true rfl, Nat.le_of_ble_eq_true rfl⟩) (x_preV hE hS hP (ci := 6) (q0 := 0) rfl rfl) rfl rfl hl.1 rfl (lv_room (Nat.le_of_ble_eq_true rfl)) dX6_isBetter_8 ⟨Nat.le_of_ble_eq_true rfl, Nat.le_of_ble_eq_true rfl⟩) ?_
  refine lv_i2l (v := (Int32.toInt64 r502)) hx hb dX6_isBetter_11 rfl ?_
  refine lv_lmul hx hb dX6_isBetter_12 ?_
  refine lv_lstore (lv' := [(4, .long ((Int32.toInt64 r501) * (Int32.toInt64 r502))), (0, .ref q_this), (1, .int p0), (2, .int p1), (3, .int p2)]) hx hb dX6_isBetter_13 hl (by decide) rfl (fun ls hl => ?_)
  refine lv_aload_n hx hb dX6_isBetter_15 rfl (lv_at hl 1 rfl) ?_
  refine lv_iload_n hx hb dX6_isBetter_16 rfl (lv_at hl 3 rfl) ?_
  obtain ⟨r503, hr503, h⟩ := x_bind h
  have hPr503 : va_P (xD G) vwCl [(q_this, .inr (6, [.ref q_squares, .ref q_days])), (q_squares, .inl (xy G 0, n_this, .inl squares))] s.heap := hP.sub [0, 1] rfl
  refine x_calli (va_runV (As := [.int p1]) (rest := []) ⟨hx, hb, hml, hown, hts⟩ (kX6_squaresOf l G s.heap hPr503 hr503) (cwV 1 hts gX6_isBetter_X6_squaresOf rfl rfl rfl (by decide +kernel) ⟨Nat.le_of_ble_eq_true rfl, Nat.le_of_ble_eq_true rfl⟩) (x_preV hE hS hP (ci := 6) (q0 := 0) rfl rfl) rfl rfl hl.1 rfl (lv_room (Nat.le_of_ble_eq_true rfl)) dX6_isBetter_17 ⟨Nat.le_of_ble_eq_true rfl, Nat.le_of_ble_eq_true rfl⟩) ?_
  refine lv_i2l (v := (Int32.toInt64 r503)) hx hb dX6_isBetter_20 rfl ?_
  refine lv_aload_n hx hb dX6_isBetter_21 rfl (lv_at hl 1 rfl) ?_
  refine lv_iload_n hx hb dX6_isBetter_22 rfl (lv_at hl 2 rfl) ?_
  obtain ⟨r504, hr504, h⟩ := x_bind h
  have hPr504 : va_P (xD G) vwCl [(q_this, .inr (6, [.ref q_squares, .ref q_days])), (q_days, .inl (xy G 0, n_this, .inl days))] s.heap := hP.sub [0, 2] rfl
  refine x_calli (va_runV (As := [.int p0]) (rest := [.long (Int32.toInt64 r503)]) ⟨hx, hb, hml, hown, hts⟩ (kX6_daysOf l G s.heap hPr504 hr504) (cwV 1 hts gX6_isBetter_X6_daysOf rfl rfl rfl (by decide +kernel) ⟨Nat.le_of_ble_eq_true rfl, Nat.le_of_ble_eq_true rfl⟩) (x_preV hE hS hP (ci := 6) (q0 := 0) rfl rfl) rfl rfl hl.1 rfl (lv_room (Nat.le_of_ble_eq_true rfl)) dX6_isBetter_23 ⟨Nat.le_of_ble_eq_true rfl, Nat.le_of_ble_eq_true rfl⟩) ?_
  refine lv_i2l (v := (Int32.toInt64 r504)) hx hb dX6_isBetter_26 rfl ?_
  refine lv_lmul hx hb dX6_isBetter_27 ?_
  refine lv_lstore (lv' := [(6, .long ((Int32.toInt64 r503) * (Int32.toInt64 r504))), (4, .long ((Int32.toInt64 r501) * (Int32.toInt64 r502))), (0, .ref q_this), (1, .int p0), (2, .int p1), (3, .int p2)]) hx hb dX6_isBetter_28 hl (by decide) rfl (fun ls hl => ?_)
  refine lv_lload hx hb dX6_isBetter_30 (lv_at hl 1 rfl) ?_
  refine lv_lload hx hb dX6_isBetter_32 (lv_at hl 0 rfl) ?_
  refine W.lcmp hx hb dX6_isBetter_34 ?_
  refine lv_if_eq (tgt := 52) hx hb dX6_isBetter_35 (by decide) (fun hc505 => ?_) (fun hc505 => ?_)
  · replace h := (if_pos hc505).symm.trans h
    refine lv_iload_n hx hb dX6_isBetter_52 rfl (lv_at hl 5 rfl) ?_
    refine lv_if_eq (tgt := 71) hx hb dX6_isBetter_53 (by decide) (fun hc506 => ?_) (fun hc506 => ?_)
    · replace h := (if_pos hc506).symm.trans h
      refine lv_iconst (v := 0) hx hb dX6_isBetter_71 (by decide) ?_
      have hq : false = out := by cases h; exact ho
      subst hq
      exact x_zret (b := false) hx hb hr hlk rfl rfl rfl dX6_isBetter_72
    · replace h := (if_neg hc506).symm.trans h
      refine lv_iload_n hx hb dX6_isBetter_56 rfl (lv_at hl 3 rfl) ?_
      obtain ⟨r507, hr507, h⟩ := x_bind h
      refine x_calli (va_runS (As := [.int p0]) (rest := []) ⟨hx, hb, hml, hown, hts⟩ (kJ6_bitCount_0f7a4 l G s.heap hr507) (va_cwS 1 hts gX6_isBetter_J6_bitCount_0f7a4 rfl rfl rfl (by decide +kernel) ⟨Nat.le_of_ble_eq_true rfl, Nat.le_of_ble_eq_true rfl⟩) (x_preS hE hS) rfl rfl hl.1 rfl (lv_room (Nat.le_of_ble_eq_true rfl)) dX6_isBetter_57 ⟨Nat.le_of_ble_eq_true rfl, Nat.le_of_ble_eq_true rfl⟩) ?_
      refine lv_iload_n hx hb dX6_isBetter_60 rfl (lv_at hl 4 rfl) ?_
      obtain ⟨r508, hr508, h⟩ := x_bind h
      refine x_calli (va_runS (As := [.int p1]) (rest := [.int r507]) ⟨hx, hb, hml, hown, hts⟩ (kJ6_bitCount_0f7a4 l G s.heap hr508) (va_cwS 1 hts gX6_isBetter_J6_bitCount_0f7a4 rfl rfl rfl (by decide +kernel) ⟨Nat.le_of_ble_eq_true rfl, Nat.le_of_ble_eq_true rfl⟩) (x_preS hE hS) rfl rfl hl.1 rfl (lv_room (Nat.le_of_ble_eq_true rfl)) dX6_isBetter_61 ⟨Nat.le_of_ble_eq_true rfl, Nat.le_of_ble_eq_true rfl⟩) ?_
      refine lv_icmp_ge (tgt := 71) hx hb dX6_isBetter_64 (by decide) (fun hc509 => ?_) (fun hc509 => ?_)
      · replace h := (if_pos hc509).symm.trans h
        refine lv_iconst (v := 0) hx hb dX6_isBetter_71 (by decide) ?_
        have hq : false = out := by cases h; exact ho
        subst hq
        exact x_zret (b := false) hx hb hr hlk rfl rfl rfl dX6_isBetter_72
      · replace h := (if_neg hc509).symm.trans h
        refine lv_iconst (v := 1) hx hb dX6_isBetter_67 (by decide) ?_
        refine lv_goto (tgt := 72) hx hb dX6_isBetter_68 (by decide) ?_
        have hq : true = out := by cases h; exact ho
        subst hq
        exact x_zret (b := true) hx hb hr hlk rfl rfl rfl dX6_isBetter_72
  · replace h := (if_neg hc505).symm.trans h
    refine lv_lload hx hb dX6_isBetter_38 (lv_at hl 1 rfl) ?_
    refine lv_lload hx hb dX6_isBetter_40 (lv_at hl 0 rfl) ?_
    refine W.lcmp hx hb dX6_isBetter_42 ?_
    refine lv_if_ge (tgt := 50) hx hb dX6_isBetter_43 (by decide) (fun hc510 => ?_) (fun hc510 => ?_)
    · replace h := (if_pos hc510).symm.trans h
      refine lv_iconst (v := 0) hx hb dX6_isBetter_50 (by decide) ?_
      have hq : false = out := by cases h; exact ho
      subst hq
      exact x_zret (b := false) hx hb hr hlk rfl rfl rfl dX6_isBetter_51
    · replace h := (if_neg hc510).symm.trans h
      refine lv_iconst (v := 1) hx hb dX6_isBetter_46 (by decide) ?_
      refine lv_goto (tgt := 51) hx hb dX6_isBetter_47 (by decide) ?_
      have hq : true = out := by cases h; exact ho
      subst hq
      exact x_zret (b := true) hx hb hr hlk rfl rfl rfl dX6_isBetter_51
noncomputable def mX6_least_b40 (n_this : Nat) (squares : Nat → Int32) (days : Nat → Int32) (v1 : Int32) (v2 : Int32) (v3 : Int32) : Option (((Int32) ⊕ (Int32 × Int32))) :=
  some (.inr (v2, (v3 + 1)))
noncomputable def mX6_least_b38 (n_this : Nat) (squares : Nat → Int32) (days : Nat → Int32) (v1 : Int32) (v3 : Int32) : Option (((Int32) ⊕ (Int32 × Int32))) :=
  mX6_least_b40 n_this squares days v1 v3 v3
noncomputable def mX6_least_s5 (n_this : Nat) (squares : Nat → Int32) (days : Nat → Int32) (v1 : Int32) (v2 : Int32) (v3 : Int32) : Option (((Int32) ⊕ (Int32 × Int32))) :=
  if (Int32.ofNat n_this) ≤ v3 then (some (.inl v2)) else ((mX6_daysOf n_this days v3).bind (fun r302 => if r302 ≤ 0 then (mX6_least_b40 n_this squares days v1 v2 v3) else (if v2 = (-6) then (mX6_least_b38 n_this squares days v1 v3) else ((mX6_isBetter n_this squares days v3 v2 v1).bind (fun r305 => if (xb r305) = 0 then (mX6_least_b40 n_this squares days v1 v2 v3) else (mX6_least_b38 n_this squares days v1 v3))))))
noncomputable def mX6_least_b5 (n_this : Nat) (squares : Nat → Int32) (days : Nat → Int32) (v1 : Int32) (v2 : Int32) (v3 : Int32) : Option (Int32) :=
  x_loop (fun q : Int32 × Int32 => mX6_least_s5 n_this squares days v1 (q.1) (q.2)) (v2, v3)
noncomputable def mX6_least (n_this : Nat) (squares : Nat → Int32) (days : Nat → Int32) (p0 : Int32) : Option (Int32) :=
  mX6_least_b5 n_this squares days p0 ((-6)) 0
set_option maxHeartbeats 4000000 in
set_option maxRecDepth 100000 in
theorem kX6_least (l : Launch) (G : xG) (H0 : Heap) {q_this q_squares q_days n_this : Nat} {squares : Nat → Int32} {days : Nat → Int32} {p0 : Int32} (hP : va_P (xD G) vwCl [(q_this, .inr (6, [.ref q_squares, .ref q_days])), (q_squares, .inl (xy G 0, n_this, .inl squares)), (q_days, .inl (xy G 0, n_this, .inl days))] H0) {out : Int32} (h : mX6_least n_this squares days p0 = some out) : Met l yX6_least wsX6_least ({ frames := 3, cells := 0, slots := 0, locals := 69 }) (xPc G H0 [.ref q_this, .int p0]) (xQi H0 (out)) 0 0 xN := by
  refine x_met (by decide) rfl (Nat.le_of_ble_eq_true rfl) ?_
  intro p e s m below meth c ls hH hA hl
  obtain ⟨hx, hb, hr, hlk, hml, hown, hts, hE⟩ := hA
  subst hH
  have hown : s.vm.findClass RX6 = some m.cls := hown
  have hl : lv_has ls 4 [(0, .ref q_this), (1, .int p0)] := hl
  have hS : va_S xN s.heap s.heap [] := va_S.rf
  have ho : out = out := rfl
  have J5 : ∀ (v1 : Int32) (v2 : Int32) (v3 : Int32) (ls : Array Slot), lv_has ls 4 [(0, .ref q_this), (1, .int v1), (2, .int v2), (3, .int v3)] → ∀ o : Int32, mX6_least_b5 n_this squares days v1 v2 v3 = some o → (fun z => z = out) o → xW p l e ({ frames := 3, cells := 0, slots := 0, locals := 69 }) s m [.ref q_this, .int p0] below meth c (xQi s.heap (out)) (F0 m 5 ls []) := by
    intro v1 v2 v3 ls hl o h ho
    unfold mX6_least_b5 at h
    refine x_loop_walk (K := (fun z => z = out)) (motive := fun q : Int32 × Int32 => ∀ ls : Array Slot, lv_has ls 4 [(0, .ref q_this), (1, .int (v1)), (2, .int (q.1)), (3, .int (q.2))] → xW p l e ({ frames := 3, cells := 0, slots := 0, locals := 69 }) s m [.ref q_this, .int p0] below meth c (xQi s.heap (out)) (F0 m 5 ls [])) ?_ h ho ls hl
    intro K1 e1 i1 q o h ho
    obtain ⟨v2, v3⟩ := q
    intro ls hl
    have hl : lv_has ls 4 [(0, .ref q_this), (1, .int v1), (2, .int v2), (3, .int v3)] := hl
    replace h : mX6_least_s5 n_this squares days v1 v2 v3 = some o := h
    unfold mX6_least_s5 at h
    have J40 : ∀ (v2 : Int32) (v3 : Int32) (ls : Array Slot), lv_has ls 4 [(0, .ref q_this), (1, .int v1), (2, .int v2), (3, .int v3)] → ∀ o : ((Int32) ⊕ (Int32 × Int32)), mX6_least_b40 n_this squares days v1 v2 v3 = some o → K1 o → xW p l e ({ frames := 3, cells := 0, slots := 0, locals := 69 }) s m [.ref q_this, .int p0] below meth c (xQi s.heap (out)) (F0 m 40 ls []) := by
      intro v2 v3 ls hl o h ho
      unfold mX6_least_b40 at h
      refine lv_iinc (v := (v3 + 1)) (lv' := [(3, .int (v3 + 1)), (0, .ref q_this), (1, .int v1), (2, .int v2)]) hx hb dX6_least_40 hl (k := 3) rfl rfl (by decide) rfl (fun ls hl => ?_)
      refine lv_goto (tgt := 5) hx hb dX6_least_43 (by decide) ?_
      exact i1 (v2, (v3 + 1)) (by cases h; exact ho) ls (lv_sub hl [1, 2, 3, 0] rfl)
    have J38 : ∀ (v3 : Int32) (ls : Array Slot), lv_has ls 4 [(0, .ref q_this), (1, .int v1), (3, .int v3)] → ∀ o : ((Int32) ⊕ (Int32 × Int32)), mX6_least_b38 n_this squares days v1 v3 = some o → K1 o → xW p l e ({ frames := 3, cells := 0, slots := 0, locals := 69 }) s m [.ref q_this, .int p0] below meth c (xQi s.heap (out)) (F0 m 38 ls []) := by
      intro v3 ls hl o h ho
      unfold mX6_least_b38 at h
      refine lv_iload_n hx hb dX6_least_38 rfl (lv_at hl 2 rfl) ?_
      refine lv_istore_n (lv' := [(2, .int v3), (0, .ref q_this), (1, .int v1), (3, .int v3)]) hx hb dX6_least_39 rfl hl (by decide) rfl (fun ls hl => ?_)
      exact J40 v3 v3 ls (lv_sub hl [1, 2, 0, 3] rfl) _ h ho
    refine lv_iload_n hx hb dX6_least_5 rfl (lv_at hl 3 rfl) ?_
    refine lv_aload_n hx hb dX6_least_6 rfl (lv_at hl 0 rfl) ?_
    refine va_get (D := xD G) (ci := 6) (v := .ref q_days) (C := RX6) (T := TX6) (N := 2) hx hb hts (fun w9 h9 => (List.mem_cons_of_mem _ (List.mem_append_right _ h9))) hown hE.1 hP 0 rfl rfl 1 (by decide) (hts (.fieldLink RX6 21 "FallingGlass$Scores" "days" "[I") (List.mem_of_getElem? (i := 1) rfl)) (fun _ h9 => h9) rfl dX6_least_7 ?_
    refine va_alen (D := xD G) (v := (Int32.ofNat n_this)) hx hb hE.1 hP 2 0 rfl rfl rfl dX6_least_10 ?_
    refine lv_icmp_ge (tgt := 46) hx hb dX6_least_11 (by decide) (fun hc301 => ?_) (fun hc301 => ?_)
    · replace h := (if_pos hc301).symm.trans h
      refine lv_iload_n hx hb dX6_least_46 rfl (lv_at hl 2 rfl) ?_
      have hq : v2 = out := by cases h; exact (e1 _ ho)
      subst hq
      exact x_iret hx hb hr hlk rfl rfl dX6_least_47
    · replace h := (if_neg hc301).symm.trans h
      refine lv_aload_n hx hb dX6_least_14 rfl (lv_at hl 0 rfl) ?_
      refine lv_iload_n hx hb dX6_least_15 rfl (lv_at hl 3 rfl) ?_
      obtain ⟨r302, hr302, h⟩ := x_bind h
      have hPr302 : va_P (xD G) vwCl [(q_this, .inr (6, [.ref q_squares, .ref q_days])), (q_days, .inl (xy G 0, n_this, .inl days))] s.heap := hP.sub [0, 2] rfl
      refine x_calli (va_runV (As := [.int v3]) (rest := []) ⟨hx, hb, hml, hown, hts⟩ (kX6_daysOf l G s.heap hPr302 hr302) (cwV 1 hts gX6_least_X6_daysOf rfl rfl rfl (by decide +kernel) ⟨Nat.le_of_ble_eq_true rfl, Nat.le_of_ble_eq_true rfl⟩) (x_preV hE hS hP (ci := 6) (q0 := 0) rfl rfl) rfl rfl hl.1 rfl (lv_room (Nat.le_of_ble_eq_true rfl)) dX6_least_16 ⟨Nat.le_of_ble_eq_true rfl, Nat.le_of_ble_eq_true rfl⟩) ?_
      refine lv_if_le (tgt := 40) hx hb dX6_least_19 (by decide) (fun hc303 => ?_) (fun hc303 => ?_)
      · replace h := (if_pos hc303).symm.trans h
        exact J40 v2 v3 ls (lv_sub hl [0, 1, 2, 3] rfl) _ h ho
      · replace h := (if_neg hc303).symm.trans h
        refine lv_iload_n hx hb dX6_least_22 rfl (lv_at hl 2 rfl) ?_
        refine lv_bipush (v := (-6)) hx hb dX6_least_23 (by decide) ?_
        refine lv_icmp_eq (tgt := 38) hx hb dX6_least_25 (by decide) (fun hc304 => ?_) (fun hc304 => ?_)
        · replace h := (if_pos hc304).symm.trans h
          exact J38 v3 ls (lv_sub hl [0, 1, 3] rfl) _ h ho
        · replace h := (if_neg hc304).symm.trans h
          refine lv_aload_n hx hb dX6_least_28 rfl (lv_at hl 0 rfl) ?_
          refine lv_iload_n hx hb dX6_least_29 rfl (lv_at hl 3 rfl) ?_
          refine lv_iload_n hx hb dX6_least_30 rfl (lv_at hl 2 rfl) ?_
          refine lv_iload_n hx hb dX6_least_31 rfl (lv_at hl 1 rfl) ?_
          obtain ⟨r305, hr305, h⟩ := x_bind h
          have hPr305 : va_P (xD G) vwCl [(q_this, .inr (6, [.ref q_squares, .ref q_days])), (q_squares, .inl (xy G 0, n_this, .inl squares)), (q_days, .inl (xy G 0, n_this, .inl days))] s.heap := hP.sub [0, 1, 2] rfl
          refine x_calli (va_runV (As := [.int v3, .int v2, .int v1]) (rest := []) ⟨hx, hb, hml, hown, hts⟩ (kX6_isBetter l G s.heap hPr305 hr305) (cwV 3 hts gX6_least_X6_isBetter rfl rfl rfl (by decide +kernel) ⟨Nat.le_of_ble_eq_true rfl, Nat.le_of_ble_eq_true rfl⟩) (x_preV hE hS hP (ci := 6) (q0 := 0) rfl rfl) rfl rfl hl.1 rfl (lv_room (Nat.le_of_ble_eq_true rfl)) dX6_least_32 ⟨Nat.le_of_ble_eq_true rfl, Nat.le_of_ble_eq_true rfl⟩) ?_
          refine lv_if_eq (tgt := 40) hx hb dX6_least_35 (by decide) (fun hc306 => ?_) (fun hc306 => ?_)
          · replace h := (if_pos hc306).symm.trans h
            exact J40 v2 v3 ls (lv_sub hl [0, 1, 2, 3] rfl) _ h ho
          · replace h := (if_neg hc306).symm.trans h
            exact J38 v3 ls (lv_sub hl [0, 1, 3] rfl) _ h ho
  unfold mX6_least at h
  refine lv_bipush (v := (-6)) hx hb dX6_least_0 (by decide) ?_
  refine lv_istore_n (lv' := [(2, .int (-6)), (0, .ref q_this), (1, .int p0)]) hx hb dX6_least_2 rfl hl (by decide) rfl (fun ls hl => ?_)
  refine lv_iconst (v := 0) hx hb dX6_least_3 (by decide) ?_
  refine lv_istore_n (lv' := [(3, .int 0), (2, .int (-6)), (0, .ref q_this), (1, .int p0)]) hx hb dX6_least_4 rfl hl (by decide) rfl (fun ls hl => ?_)
  exact J5 p0 ((-6)) 0 ls (lv_sub hl [2, 3, 1, 0] rfl) _ h ho
noncomputable def mX4_leastKeys_s25 (all : Nat → Int32) (wet : Nat → Int32) (n_scores : Nat) (a0_days : Int32) (a0_years : Nat → Int32) (a0_rains : Nat → Int32) (a0_kinds : Nat → Int32) (v2 : Int32) (v3 : Int32) (scores_squares : (Nat → Int32)) (scores_days : (Nat → Int32)) : Option (((((Int32 × (Nat → Int32) × (Nat → Int32) × (Nat → Int32) × (Nat → Int32)) ⊕ (Int32 × (Nat → Int32) × (Nat → Int32) × (Nat → Int32) × (Nat → Int32)))) ⊕ (Int32 × (Nat → Int32) × (Nat → Int32)))) :=
  if 64 ≤ v3 then (some (.inl (.inr ((v2 + 1), all, wet, scores_squares, scores_days)))) else ((mX9_at 64 wet v3).bind (fun r102 => (mX9_at 64 all v3).bind (fun r103 => (mX9_thousandths r102 r103).bind (fun r104 => (mX0_rainOf a0_rains v2).bind (fun r105 => (mX6_add n_scores scores_squares scores_days v3 r104 r105).bind (fun r106 => some (.inr ((v3 + 1), r106.1, r106.2))))))))
noncomputable def mX4_leastKeys_b25 (all : Nat → Int32) (wet : Nat → Int32) (n_scores : Nat) (scores_squares : Nat → Int32) (scores_days : Nat → Int32) (a0_days : Int32) (a0_years : Nat → Int32) (a0_rains : Nat → Int32) (a0_kinds : Nat → Int32) (v2 : Int32) (v3 : Int32) : Option (((Int32 × (Nat → Int32) × (Nat → Int32) × (Nat → Int32) × (Nat → Int32)) ⊕ (Int32 × (Nat → Int32) × (Nat → Int32) × (Nat → Int32) × (Nat → Int32)))) :=
  x_loop (fun q : Int32 × (Nat → Int32) × (Nat → Int32) => mX4_leastKeys_s25 all wet n_scores a0_days a0_years a0_rains a0_kinds v2 (q.1) (q.2.1) (q.2.2)) (v3, scores_squares, scores_days)
noncomputable def mX4_leastKeys_s9 (n_scores : Nat) (a0_days : Int32) (a0_years : Nat → Int32) (a0_rains : Nat → Int32) (a0_kinds : Nat → Int32)  (v2 : Int32) (all : (Nat → Int32)) (wet : (Nat → Int32)) (scores_squares : (Nat → Int32)) (scores_days : (Nat → Int32)) : Option (((Int32 × (Nat → Int32) × (Nat → Int32) × (Nat → Int32) × (Nat → Int32)) ⊕ (Int32 × (Nat → Int32) × (Nat → Int32) × (Nat → Int32) × (Nat → Int32)))) :=
  if a0_days ≤ v2 then ((mX6_least n_scores scores_squares scores_days 1).bind (fun r208 => some (.inl (r208, all, wet, scores_squares, scores_days)))) else ((mX4_countByKeys all wet a0_days a0_years a0_rains a0_kinds v2).bind (fun r209 => mX4_leastKeys_b25 r209.1 r209.2 n_scores scores_squares scores_days a0_days a0_years a0_rains a0_kinds v2 0))
noncomputable def mX4_leastKeys_b9 (all : Nat → Int32) (wet : Nat → Int32) (n_scores : Nat) (scores_squares : Nat → Int32) (scores_days : Nat → Int32) (a0_days : Int32) (a0_years : Nat → Int32) (a0_rains : Nat → Int32) (a0_kinds : Nat → Int32) (v2 : Int32) : Option (Int32 × (Nat → Int32) × (Nat → Int32) × (Nat → Int32) × (Nat → Int32)) :=
  x_loop (fun q : Int32 × (Nat → Int32) × (Nat → Int32) × (Nat → Int32) × (Nat → Int32) => mX4_leastKeys_s9 n_scores a0_days a0_years a0_rains a0_kinds (q.1) (q.2.1) (q.2.2.1) (q.2.2.2.1) (q.2.2.2.2)) (v2, all, wet, scores_squares, scores_days)
noncomputable def mX4_leastKeys (all : Nat → Int32) (wet : Nat → Int32) (n_scores : Nat) (scores_squares : Nat → Int32) (scores_days : Nat → Int32) (a0_days : Int32) (a0_years : Nat → Int32) (a0_rains : Nat → Int32) (a0_kinds : Nat → Int32)  : Option (Int32 × (Nat → Int32) × (Nat → Int32) × (Nat → Int32) × (Nat → Int32)) :=
  (mX6_erase n_scores scores_squares scores_days).bind (fun r501 => mX4_leastKeys_b9 all wet n_scores r501.1 r501.2 a0_days a0_years a0_rains a0_kinds 0)
set_option maxHeartbeats 4000000 in
set_option maxRecDepth 100000 in
theorem kX4_leastKeys (l : Launch) (G : xG) (H0 : Heap) {q_this q_all q_wet q_scores q_scores_squares q_scores_days n_scores q_a0 q_a0_years q_a0_months q_a0_presses q_a0_winds q_a0_skies q_a0_rains q_a0_wires q_a0_kinds : Nat} {all : Nat → Int32} {wet : Nat → Int32} {scores_squares : Nat → Int32} {scores_days : Nat → Int32} {a0_days : Int32} {a0_years : Nat → Int32} {a0_rains : Nat → Int32} {a0_kinds : Nat → Int32} (w0 : va_W) (hw0 : w0 = [(q_this, .inr (4, [.ref q_all, .ref q_wet, .ref q_scores])), (q_all, .inl (xy G 0, 64, .inl all)), (q_wet, .inl (xy G 0, 64, .inl wet)), (q_scores, .inr (6, [.ref q_scores_squares, .ref q_scores_days])), (q_scores_squares, .inl (xy G 0, n_scores, .inl scores_squares)), (q_scores_days, .inl (xy G 0, n_scores, .inl scores_days)), (q_a0, .inr (0, [.int a0_days, .ref q_a0_years, .ref q_a0_months, .ref q_a0_presses, .ref q_a0_winds, .ref q_a0_skies, .ref q_a0_rains, .ref q_a0_wires, .ref q_a0_kinds])), (q_a0_years, .inl (xy G 0, 60, .inl a0_years)), (q_a0_rains, .inl (xy G 0, 60, .inl a0_rains)), (q_a0_kinds, .inl (xy G 0, 60, .inl a0_kinds))]) (hP : va_P (xD G) vwCl w0 H0) (hD : va_D (fun _ => True) w0) {out : Int32 × (Nat → Int32) × (Nat → Int32) × (Nat → Int32) × (Nat → Int32)} (h : mX4_leastKeys all wet n_scores scores_squares scores_days a0_days a0_years a0_rains a0_kinds = some out) : Met l yX4_leastKeys wsX4_leastKeys ({ frames := 4, cells := 0, slots := 0, locals := 92 }) (xPcw G (va_A w0 H0.size) H0 [.ref q_this, .ref q_a0]) (xRi G (va_A w0 H0.size) [(q_this, .inr (4, [.ref q_all, .ref q_wet, .ref q_scores])), (q_all, .inl (xy G 0, 64, .inl out.2.1)), (q_wet, .inl (xy G 0, 64, .inl out.2.2.1)), (q_scores, .inr (6, [.ref q_scores_squares, .ref q_scores_days])), (q_scores_squares, .inl (xy G 0, n_scores, .inl out.2.2.2.1)), (q_scores_days, .inl (xy G 0, n_scores, .inl out.2.2.2.2)), (q_a0, .inr (0, [.int a0_days, .ref q_a0_years, .ref q_a0_months, .ref q_a0_presses, .ref q_a0_winds, .ref q_a0_skies, .ref q_a0_rains, .ref q_a0_wires, .ref q_a0_kinds])), (q_a0_years, .inl (xy G 0, 60, .inl a0_years)), (q_a0_rains, .inl (xy G 0, 60, .inl a0_rains)), (q_a0_kinds, .inl (xy G 0, 60, .inl a0_kinds))] (out.1)) 0 0 (va_A w0 H0.size) := by
  refine x_metw (y := yX4_leastKeys) (ws := wsX4_leastKeys) (rm := { frames := 4, cells := 0, slots := 0, locals := 92 }) (G := G) (H0 := H0) (w0 := w0) (av := [.ref q_this, .ref q_a0]) (mc := 0) (ms := 0) (Qc := (fun A => (xRi G A [(q_this, .inr (4, [.ref q_all, .ref q_wet, .ref q_scores])), (q_all, .inl (xy G 0, 64, .inl out.2.1)), (q_wet, .inl (xy G 0, 64, .inl out.2.2.1)), (q_scores, .inr (6, [.ref q_scores_squares, .ref q_scores_days])), (q_scores_squares, .inl (xy G 0, n_scores, .inl out.2.2.2.1)), (q_scores_days, .inl (xy G 0, n_scores, .inl out.2.2.2.2)), (q_a0, .inr (0, [.int a0_days, .ref q_a0_years, .ref q_a0_months, .ref q_a0_presses, .ref q_a0_winds, .ref q_a0_skies, .ref q_a0_rains, .ref q_a0_wires, .ref q_a0_kinds])), (q_a0_years, .inl (xy G 0, 60, .inl a0_years)), (q_a0_rains, .inl (xy G 0, 60, .inl a0_rains)), (q_a0_kinds, .inl (xy G 0, 60, .inl a0_kinds))] (out.1)))) (by decide) rfl (Nat.le_of_ble_eq_true rfl) hP hD ?_
  clear hP hD
  intro p e s m below meth c ls A H locs hA hAt hnm hl hP hD hS
  subst hw0
  obtain ⟨hx, hb, hr, hlk, hml, hown, hts, hE⟩ := hAt
  have hown : s.vm.findClass RX4 = some m.cls := hown
  have hl : lv_has ls 4 [(0, .ref q_this), (1, .ref q_a0)] := hl
  have ho : out = out := rfl
  have J9 : ∀ (all : Nat → Int32) (wet : Nat → Int32) (scores_squares : Nat → Int32) (scores_days : Nat → Int32) (v2 : Int32) (ls : Array Slot), lv_has ls 4 [(0, .ref q_this), (1, .ref q_a0), (2, .int v2)] → ∀ o : Int32 × (Nat → Int32) × (Nat → Int32) × (Nat → Int32) × (Nat → Int32), mX4_leastKeys_b9 all wet n_scores scores_squares scores_days a0_days a0_years a0_rains a0_kinds v2 = some o → (fun z => z = out) o → ∀ (H : Heap) (locs : List Loc), va_P (xD G) vwCl [(q_this, .inr (4, [.ref q_all, .ref q_wet, .ref q_scores])), (q_all, .inl (xy G 0, 64, .inl all)), (q_wet, .inl (xy G 0, 64, .inl wet)), (q_scores, .inr (6, [.ref q_scores_squares, .ref q_scores_days])), (q_scores_squares, .inl (xy G 0, n_scores, .inl scores_squares)), (q_scores_days, .inl (xy G 0, n_scores, .inl scores_days)), (q_a0, .inr (0, [.int a0_days, .ref q_a0_years, .ref q_a0_months, .ref q_a0_presses, .ref q_a0_winds, .ref q_a0_skies, .ref q_a0_rains, .ref q_a0_wires, .ref q_a0_kinds])), (q_a0_years, .inl (xy G 0, 60, .inl a0_years)), (q_a0_rains, .inl (xy G 0, 60, .inl a0_rains)), (q_a0_kinds, .inl (xy G 0, 60, .inl a0_kinds))] H → va_D A [(q_this, .inr (4, [.ref q_all, .ref q_wet, .ref q_scores])), (q_all, .inl (xy G 0, 64, .inl all)), (q_wet, .inl (xy G 0, 64, .inl wet)), (q_scores, .inr (6, [.ref q_scores_squares, .ref q_scores_days])), (q_scores_squares, .inl (xy G 0, n_scores, .inl scores_squares)), (q_scores_days, .inl (xy G 0, n_scores, .inl scores_days)), (q_a0, .inr (0, [.int a0_days, .ref q_a0_years, .ref q_a0_months, .ref q_a0_presses, .ref q_a0_winds, .ref q_a0_skies, .ref q_a0_rains, .ref q_a0_wires, .ref q_a0_kinds])), (q_a0_years, .inl (xy G 0, 60, .inl a0_years)), (q_a0_rains, .inl (xy G 0, 60, .inl a0_rains)), (q_a0_kinds, .inl (xy G 0, 60, .inl a0_kinds))] → va_S A s.heap H locs → xV p l e ({ frames := 4, cells := 0, slots := 0, locals := 92 }) s m [.ref q_this, .ref q_a0] below meth c H locs 0 0 0 0 A (xRi G A [(q_this, .inr (4, [.ref q_all, .ref q_wet, .ref q_scores])), (q_all, .inl (xy G 0, 64, .inl out.2.1)), (q_wet, .inl (xy G 0, 64, .inl out.2.2.1)), (q_scores, .inr (6, [.ref q_scores_squares, .ref q_scores_days])), (q_scores_squares, .inl (xy G 0, n_scores, .inl out.2.2.2.1)), (q_scores_days, .inl (xy G 0, n_scores, .inl out.2.2.2.2)), (q_a0, .inr (0, [.int a0_days, .ref q_a0_years, .ref q_a0_months, .ref q_a0_presses, .ref q_a0_winds, .ref q_a0_skies, .ref q_a0_rains, .ref q_a0_wires, .ref q_a0_kinds])), (q_a0_years, .inl (xy G 0, 60, .inl a0_years)), (q_a0_rains, .inl (xy G 0, 60, .inl a0_rains)), (q_a0_kinds, .inl (xy G 0, 60, .inl a0_kinds))] (out.1)) (F0 m 9 ls []) := by
    intro all wet scores_squares scores_days v2 ls hl o h ho H locs hP hD hS
    unfold mX4_leastKeys_b9 at h
    refine x_loop_walk (K := (fun z => z = out)) (motive := fun q : Int32 × (Nat → Int32) × (Nat → Int32) × (Nat → Int32) × (Nat → Int32) => ∀ ls : Array Slot, lv_has ls 4 [(0, .ref q_this), (1, .ref q_a0), (2, .int (q.1))] → ∀ (H : Heap) (locs : List Loc), va_P (xD G) vwCl [(q_this, .inr (4, [.ref q_all, .ref q_wet, .ref q_scores])), (q_all, .inl (xy G 0, 64, .inl (q.2.1))), (q_wet, .inl (xy G 0, 64, .inl (q.2.2.1))), (q_scores, .inr (6, [.ref q_scores_squares, .ref q_scores_days])), (q_scores_squares, .inl (xy G 0, n_scores, .inl (q.2.2.2.1))), (q_scores_days, .inl (xy G 0, n_scores, .inl (q.2.2.2.2))), (q_a0, .inr (0, [.int a0_days, .ref q_a0_years, .ref q_a0_months, .ref q_a0_presses, .ref q_a0_winds, .ref q_a0_skies, .ref q_a0_rains, .ref q_a0_wires, .ref q_a0_kinds])), (q_a0_years, .inl (xy G 0, 60, .inl a0_years)), (q_a0_rains, .inl (xy G 0, 60, .inl a0_rains)), (q_a0_kinds, .inl (xy G 0, 60, .inl a0_kinds))] H → va_D A [(q_this, .inr (4, [.ref q_all, .ref q_wet, .ref q_scores])), (q_all, .inl (xy G 0, 64, .inl (q.2.1))), (q_wet, .inl (xy G 0, 64, .inl (q.2.2.1))), (q_scores, .inr (6, [.ref q_scores_squares, .ref q_scores_days])), (q_scores_squares, .inl (xy G 0, n_scores, .inl (q.2.2.2.1))), (q_scores_days, .inl (xy G 0, n_scores, .inl (q.2.2.2.2))), (q_a0, .inr (0, [.int a0_days, .ref q_a0_years, .ref q_a0_months, .ref q_a0_presses, .ref q_a0_winds, .ref q_a0_skies, .ref q_a0_rains, .ref q_a0_wires, .ref q_a0_kinds])), (q_a0_years, .inl (xy G 0, 60, .inl a0_years)), (q_a0_rains, .inl (xy G 0, 60, .inl a0_rains)), (q_a0_kinds, .inl (xy G 0, 60, .inl a0_kinds))] → va_S A s.heap H locs → xV p l e ({ frames := 4, cells := 0, slots := 0, locals := 92 }) s m [.ref q_this, .ref q_a0] below meth c H locs 0 0 0 0 A (xRi G A [(q_this, .inr (4, [.ref q_all, .ref q_wet, .ref q_scores])), (q_all, .inl (xy G 0, 64, .inl out.2.1)), (q_wet, .inl (xy G 0, 64, .inl out.2.2.1)), (q_scores, .inr (6, [.ref q_scores_squares, .ref q_scores_days])), (q_scores_squares, .inl (xy G 0, n_scores, .inl out.2.2.2.1)), (q_scores_days, .inl (xy G 0, n_scores, .inl out.2.2.2.2)), (q_a0, .inr (0, [.int a0_days, .ref q_a0_years, .ref q_a0_months, .ref q_a0_presses, .ref q_a0_winds, .ref q_a0_skies, .ref q_a0_rains, .ref q_a0_wires, .ref q_a0_kinds])), (q_a0_years, .inl (xy G 0, 60, .inl a0_years)), (q_a0_rains, .inl (xy G 0, 60, .inl a0_rains)), (q_a0_kinds, .inl (xy G 0, 60, .inl a0_kinds))] (out.1)) (F0 m 9 ls [])) ?_ h ho ls hl H locs hP hD hS
    clear hP hD hS
    intro K1 e1 i1 q o h ho
    obtain ⟨v2, all, wet, scores_squares, scores_days⟩ := q
    intro ls hl H locs hP hD hS
    have hl : lv_has ls 4 [(0, .ref q_this), (1, .ref q_a0), (2, .int v2)] := hl
    have hP : va_P (xD G) vwCl [(q_this, .inr (4, [.ref q_all, .ref q_wet, .ref q_scores])), (q_all, .inl (xy G 0, 64, .inl all)), (q_wet, .inl (xy G 0, 64, .inl wet)), (q_scores, .inr (6, [.ref q_scores_squares, .ref q_scores_days])), (q_scores_squares, .inl (xy G 0, n_scores, .inl scores_squares)), (q_scores_days, .inl (xy G 0, n_scores, .inl scores_days)), (q_a0, .inr (0, [.int a0_days, .ref q_a0_years, .ref q_a0_months, .ref q_a0_presses, .ref q_a0_winds, .ref q_a0_skies, .ref q_a0_rains, .ref q_a0_wires, .ref q_a0_kinds])), (q_a0_years, .inl (xy G 0, 60, .inl a0_years)), (q_a0_rains, .inl (xy G 0, 60, .inl a0_rains)), (q_a0_kinds, .inl (xy G 0, 60, .inl a0_kinds))] H := hP
    have hD : va_D A [(q_this, .inr (4, [.ref q_all, .ref q_wet, .ref q_scores])), (q_all, .inl (xy G 0, 64, .inl all)), (q_wet, .inl (xy G 0, 64, .inl wet)), (q_scores, .inr (6, [.ref q_scores_squares, .ref q_scores_days])), (q_scores_squares, .inl (xy G 0, n_scores, .inl scores_squares)), (q_scores_days, .inl (xy G 0, n_scores, .inl scores_days)), (q_a0, .inr (0, [.int a0_days, .ref q_a0_years, .ref q_a0_months, .ref q_a0_presses, .ref q_a0_winds, .ref q_a0_skies, .ref q_a0_rains, .ref q_a0_wires, .ref q_a0_kinds])), (q_a0_years, .inl (xy G 0, 60, .inl a0_years)), (q_a0_rains, .inl (xy G 0, 60, .inl a0_rains)), (q_a0_kinds, .inl (xy G 0, 60, .inl a0_kinds))] := hD
    replace h : mX4_leastKeys_s9 n_scores a0_days a0_years a0_rains a0_kinds v2 all wet scores_squares scores_days = some o := h
    unfold mX4_leastKeys_s9 at h
    have J25 : ∀ (all : Nat → Int32) (wet : Nat → Int32) (scores_squares : Nat → Int32) (scores_days : Nat → Int32) (v2 : Int32) (v3 : Int32) (ls : Array Slot), lv_has ls 4 [(0, .ref q_this), (1, .ref q_a0), (2, .int v2), (3, .int v3)] → ∀ o : ((Int32 × (Nat → Int32) × (Nat → Int32) × (Nat → Int32) × (Nat → Int32)) ⊕ (Int32 × (Nat → Int32) × (Nat → Int32) × (Nat → Int32) × (Nat → Int32))), mX4_leastKeys_b25 all wet n_scores scores_squares scores_days a0_days a0_years a0_rains a0_kinds v2 v3 = some o → K1 o → ∀ (H : Heap) (locs : List Loc), va_P (xD G) vwCl [(q_this, .inr (4, [.ref q_all, .ref q_wet, .ref q_scores])), (q_all, .inl (xy G 0, 64, .inl all)), (q_wet, .inl (xy G 0, 64, .inl wet)), (q_scores, .inr (6, [.ref q_scores_squares, .ref q_scores_days])), (q_scores_squares, .inl (xy G 0, n_scores, .inl scores_squares)), (q_scores_days, .inl (xy G 0, n_scores, .inl scores_days)), (q_a0, .inr (0, [.int a0_days, .ref q_a0_years, .ref q_a0_months, .ref q_a0_presses, .ref q_a0_winds, .ref q_a0_skies, .ref q_a0_rains, .ref q_a0_wires, .ref q_a0_kinds])), (q_a0_years, .inl (xy G 0, 60, .inl a0_years)), (q_a0_rains, .inl (xy G 0, 60, .inl a0_rains)), (q_a0_kinds, .inl (xy G 0, 60, .inl a0_kinds))] H → va_D A [(q_this, .inr (4, [.ref q_all, .ref q_wet, .ref q_scores])), (q_all, .inl (xy G 0, 64, .inl all)), (q_wet, .inl (xy G 0, 64, .inl wet)), (q_scores, .inr (6, [.ref q_scores_squares, .ref q_scores_days])), (q_scores_squares, .inl (xy G 0, n_scores, .inl scores_squares)), (q_scores_days, .inl (xy G 0, n_scores, .inl scores_days)), (q_a0, .inr (0, [.int a0_days, .ref q_a0_years, .ref q_a0_months, .ref q_a0_presses, .ref q_a0_winds, .ref q_a0_skies, .ref q_a0_rains, .ref q_a0_wires, .ref q_a0_kinds])), (q_a0_years, .inl (xy G 0, 60, .inl a0_years)), (q_a0_rains, .inl (xy G 0, 60, .inl a0_rains)), (q_a0_kinds, .inl (xy G 0, 60, .inl a0_kinds))] → va_S A s.heap H locs → xV p l e ({ frames := 4, cells := 0, slots := 0, locals := 92 }) s m [.ref q_this, .ref q_a0] below meth c H locs 0 0 0 0 A (xRi G A [(q_this, .inr (4, [.ref q_all, .ref q_wet, .ref q_scores])), (q_all, .inl (xy G 0, 64, .inl out.2.1)), (q_wet, .inl (xy G 0, 64, .inl out.2.2.1)), (q_scores, .inr (6, [.ref q_scores_squares, .ref q_scores_days])), (q_scores_squares, .inl (xy G 0, n_scores, .inl out.2.2.2.1)), (q_scores_days, .inl (xy G 0, n_scores, .inl out.2.2.2.2)), (q_a0, .inr (0, [.int a0_days, .ref q_a0_years, .ref q_a0_months, .ref q_a0_presses, .ref q_a0_winds, .ref q_a0_skies, .ref q_a0_rains, .ref q_a0_wires, .ref q_a0_kinds])), (q_a0_years, .inl (xy G 0, 60, .inl a0_years)), (q_a0_rains, .inl (xy G 0, 60, .inl a0_rains)), (q_a0_kinds, .inl (xy G 0, 60, .inl a0_kinds))] (out.1)) (F0 m 25 ls []) := by
      intro all wet scores_squares scores_days v2 v3 ls hl o h ho H locs hP hD hS
      unfold mX4_leastKeys_b25 at h
      refine x_loop_walk (K := K1) (motive := fun q : Int32 × (Nat → Int32) × (Nat → Int32) => ∀ ls : Array Slot, lv_has ls 4 [(0, .ref q_this), (1, .ref q_a0), (2, .int (v2)), (3, .int (q.1))] → ∀ (H : Heap) (locs : List Loc), va_P (xD G) vwCl [(q_this, .inr (4, [.ref q_all, .ref q_wet, .ref q_scores])), (q_all, .inl (xy G 0, 64, .inl all)), (q_wet, .inl (xy G 0, 64, .inl wet)), (q_scores, .inr (6, [.ref q_scores_squares, .ref q_scores_days])), (q_scores_squares, .inl (xy G 0, n_scores, .inl (q.2.1))), (q_scores_days, .inl (xy G 0, n_scores, .inl (q.2.2))), (q_a0, .inr (0, [.int a0_days, .ref q_a0_years, .ref q_a0_months, .ref q_a0_presses, .ref q_a0_winds, .ref q_a0_skies, .ref q_a0_rains, .ref q_a0_wires, .ref q_a0_kinds])), (q_a0_years, .inl (xy G 0, 60, .inl a0_years)), (q_a0_rains, .inl (xy G 0, 60, .inl a0_rains)), (q_a0_kinds, .inl (xy G 0, 60, .inl a0_kinds))] H → va_D A [(q_this, .inr (4, [.ref q_all, .ref q_wet, .ref q_scores])), (q_all, .inl (xy G 0, 64, .inl all)), (q_wet, .inl (xy G 0, 64, .inl wet)), (q_scores, .inr (6, [.ref q_scores_squares, .ref q_scores_days])), (q_scores_squares, .inl (xy G 0, n_scores, .inl (q.2.1))), (q_scores_days, .inl (xy G 0, n_scores, .inl (q.2.2))), (q_a0, .inr (0, [.int a0_days, .ref q_a0_years, .ref q_a0_months, .ref q_a0_presses, .ref q_a0_winds, .ref q_a0_skies, .ref q_a0_rains, .ref q_a0_wires, .ref q_a0_kinds])), (q_a0_years, .inl (xy G 0, 60, .inl a0_years)), (q_a0_rains, .inl (xy G 0, 60, .inl a0_rains)), (q_a0_kinds, .inl (xy G 0, 60, .inl a0_kinds))] → va_S A s.heap H locs → xV p l e ({ frames := 4, cells := 0, slots := 0, locals := 92 }) s m [.ref q_this, .ref q_a0] below meth c H locs 0 0 0 0 A (xRi G A [(q_this, .inr (4, [.ref q_all, .ref q_wet, .ref q_scores])), (q_all, .inl (xy G 0, 64, .inl out.2.1)), (q_wet, .inl (xy G 0, 64, .inl out.2.2.1)), (q_scores, .inr (6, [.ref q_scores_squares, .ref q_scores_days])), (q_scores_squares, .inl (xy G 0, n_scores, .inl out.2.2.2.1)), (q_scores_days, .inl (xy G 0, n_scores, .inl out.2.2.2.2)), (q_a0, .inr (0, [.int a0_days, .ref q_a0_years, .ref q_a0_months, .ref q_a0_presses, .ref q_a0_winds, .ref q_a0_skies, .ref q_a0_rains, .ref q_a0_wires, .ref q_a0_kinds])), (q_a0_years, .inl (xy G 0, 60, .inl a0_years)), (q_a0_rains, .inl (xy G 0, 60, .inl a0_rains)), (q_a0_kinds, .inl (xy G 0, 60, .inl a0_kinds))] (out.1)) (F0 m 25 ls [])) ?_ h ho ls hl H locs hP hD hS
      clear hP hD hS
      intro K2 e2 i2 q o h ho
      obtain ⟨v3, scores_squares, scores_days⟩ := q
      intro ls hl H locs hP hD hS
      have hl : lv_has ls 4 [(0, .ref q_this), (1, .ref q_a0), (2, .int v2), (3, .int v3)] := hl
      have hP : va_P (xD G) vwCl [(q_this, .inr (4, [.ref q_all, .ref q_wet, .ref q_scores])), (q_all, .inl (xy G 0, 64, .inl all)), (q_wet, .inl (xy G 0, 64, .inl wet)), (q_scores, .inr (6, [.ref q_scores_squares, .ref q_scores_days])), (q_scores_squares, .inl (xy G 0, n_scores, .inl scores_squares)), (q_scores_days, .inl (xy G 0, n_scores, .inl scores_days)), (q_a0, .inr (0, [.int a0_days, .ref q_a0_years, .ref q_a0_months, .ref q_a0_presses, .ref q_a0_winds, .ref q_a0_skies, .ref q_a0_rains, .ref q_a0_wires, .ref q_a0_kinds])), (q_a0_years, .inl (xy G 0, 60, .inl a0_years)), (q_a0_rains, .inl (xy G 0, 60, .inl a0_rains)), (q_a0_kinds, .inl (xy G 0, 60, .inl a0_kinds))] H := hP
      have hD : va_D A [(q_this, .inr (4, [.ref q_all, .ref q_wet, .ref q_scores])), (q_all, .inl (xy G 0, 64, .inl all)), (q_wet, .inl (xy G 0, 64, .inl wet)), (q_scores, .inr (6, [.ref q_scores_squares, .ref q_scores_days])), (q_scores_squares, .inl (xy G 0, n_scores, .inl scores_squares)), (q_scores_days, .inl (xy G 0, n_scores, .inl scores_days)), (q_a0, .inr (0, [.int a0_days, .ref q_a0_years, .ref q_a0_months, .ref q_a0_presses, .ref q_a0_winds, .ref q_a0_skies, .ref q_a0_rains, .ref q_a0_wires, .ref q_a0_kinds])), (q_a0_years, .inl (xy G 0, 60, .inl a0_years)), (q_a0_rains, .inl (xy G 0, 60, .inl a0_rains)), (q_a0_kinds, .inl (xy G 0, 60, .inl a0_kinds))] := hD
      replace h : mX4_leastKeys_s25 all wet n_scores a0_days a0_years a0_rains a0_kinds v2 v3 scores_squares scores_days = some o := h
      unfold mX4_leastKeys_s25 at h
      refine lv_iload_n hx hb dX4_leastKeys_25 rfl (lv_at hl 3 rfl) ?_
      refine lv_bipush (v := 64) hx hb dX4_leastKeys_26 (by decide) ?_
      refine lv_icmp_ge (tgt := 69) hx hb dX4_leastKeys_28 (by decide) (fun hc101 => ?_) (fun hc101 => ?_)
      · replace h := (if_pos hc101).symm.trans h
        refine lv_iinc (v := (v2 + 1)) (lv' := [(2, .int (v2 + 1)), (0, .ref q_this), (1, .ref q_a0), (3, .int v3)]) hx hb dX4_leastKeys_69 hl (k := 2) rfl rfl (by decide) rfl (fun ls hl => ?_)
        refine lv_goto (tgt := 9) hx hb dX4_leastKeys_72 (by decide) ?_
        have hP : va_P (xD G) vwCl [(q_this, .inr (4, [.ref q_all, .ref q_wet, .ref q_scores])), (q_all, .inl (xy G 0, 64, .inl all)), (q_wet, .inl (xy G 0, 64, .inl wet)), (q_scores, .inr (6, [.ref q_scores_squares, .ref q_scores_days])), (q_scores_squares, .inl (xy G 0, n_scores, .inl scores_squares)), (q_scores_days, .inl (xy G 0, n_scores, .inl scores_days)), (q_a0, .inr (0, [.int a0_days, .ref q_a0_years, .ref q_a0_months, .ref q_a0_presses, .ref q_a0_winds, .ref q_a0_skies, .ref q_a0_rains, .ref q_a0_wires, .ref q_a0_kinds])), (q_a0_years, .inl (xy G 0, 60, .inl a0_years)), (q_a0_rains, .inl (xy G 0, 60, .inl a0_rains)), (q_a0_kinds, .inl (xy G 0, 60, .inl a0_kinds))] H := hP
        exact i1 ((v2 + 1), all, wet, scores_squares, scores_days) (by cases h; exact (e2 _ ho)) ls (lv_sub hl [1, 2, 0] rfl) H locs hP hD hS
      · replace h := (if_neg hc101).symm.trans h
        refine lv_aload_n hx hb dX4_leastKeys_31 rfl (lv_at hl 0 rfl) ?_
        refine va_get (D := xD G) (ci := 4) (v := .ref q_scores) (C := RX4) (T := TX4) (N := 3) hx hb hts (fun w9 h9 => (List.mem_cons_of_mem _ (List.mem_append_left _ (List.mem_append_left _ (List.mem_append_right _ h9))))) hown hE.1 hP 0 rfl rfl 2 (by decide) (hts (.fieldLink RX4 23 "FallingGlass$KeyTrial" "scores" "LFallingGlass$Scores;") (List.mem_of_getElem? (i := 1) rfl)) (fun _ h9 => h9) rfl dX4_leastKeys_32 ?_
        refine lv_iload_n hx hb dX4_leastKeys_35 rfl (lv_at hl 3 rfl) ?_
        refine lv_aload_n hx hb dX4_leastKeys_36 rfl (lv_at hl 0 rfl) ?_
        refine va_get (D := xD G) (ci := 4) (v := .ref q_wet) (C := RX4) (T := TX4) (N := 3) hx hb hts (fun w9 h9 => (List.mem_cons_of_mem _ (List.mem_append_left _ (List.mem_append_left _ (List.mem_append_right _ h9))))) hown hE.1 hP 0 rfl rfl 1 (by decide) (hts (.fieldLink RX4 15 "FallingGlass$KeyTrial" "wet" "[I") (List.mem_of_getElem? (i := 3) rfl)) (fun _ h9 => h9) rfl dX4_leastKeys_37 ?_
        refine lv_iload_n hx hb dX4_leastKeys_40 rfl (lv_at hl 3 rfl) ?_
        obtain ⟨r102, hr102, h⟩ := x_bind h
        have hPr102 : va_P (xD G) vwCl [(q_wet, .inl (xy G 0, 64, .inl wet))] H := hP.sub [2] rfl
        refine x_calli (va_runSN (As := [.ref q_wet, .int v3]) (rest := [.int v3, .ref q_scores]) ⟨hx, hb, hml, hown, hts⟩ (kX9_at l G H hPr102 hr102) ⟨va_cnB 2 hts gX4_leastKeys_X9_at_n40 rfl rfl rfl (hE.nm 12 rfl) (hts (.initialized RX9) (List.mem_of_getElem? (i := 13) rfl)) (by decide +kernel) ⟨Nat.le_of_ble_eq_true rfl, Nat.le_of_ble_eq_true rfl⟩, (hts (.static yX9_at) (List.mem_of_getElem? (i := 26) rfl)), trivial⟩ (x_preS hE hS) rfl rfl hl.1 rfl (lv_room (Nat.le_of_ble_eq_true rfl)) dX4_leastKeys_41 ⟨Nat.le_of_ble_eq_true rfl, Nat.le_of_ble_eq_true rfl⟩) ?_
        refine lv_aload_n hx hb dX4_leastKeys_44 rfl (lv_at hl 0 rfl) ?_
        refine va_get (D := xD G) (ci := 4) (v := .ref q_all) (C := RX4) (T := TX4) (N := 3) hx hb hts (fun w9 h9 => (List.mem_cons_of_mem _ (List.mem_append_left _ (List.mem_append_left _ (List.mem_append_right _ h9))))) hown hE.1 hP 0 rfl rfl 0 (by decide) (hts (.fieldLink RX4 9 "FallingGlass$KeyTrial" "all" "[I") (List.mem_of_getElem? (i := 4) rfl)) (fun _ h9 => h9) rfl dX4_leastKeys_45 ?_
        refine lv_iload_n hx hb dX4_leastKeys_48 rfl (lv_at hl 3 rfl) ?_
        obtain ⟨r103, hr103, h⟩ := x_bind h
        have hPr103 : va_P (xD G) vwCl [(q_all, .inl (xy G 0, 64, .inl all))] H := hP.sub [1] rfl
        refine x_calli (va_runSN (As := [.ref q_all, .int v3]) (rest := [.int r102, .int v3, .ref q_scores]) ⟨hx, hb, hml, hown, hts⟩ (kX9_at l G H hPr103 hr103) ⟨va_cnB 2 hts gX4_leastKeys_X9_at_n40 rfl rfl rfl (hE.nm 12 rfl) (hts (.initialized RX9) (List.mem_of_getElem? (i := 13) rfl)) (by decide +kernel) ⟨Nat.le_of_ble_eq_true rfl, Nat.le_of_ble_eq_true rfl⟩, (hts (.static yX9_at) (List.mem_of_getElem? (i := 26) rfl)), trivial⟩ (x_preS hE hS) rfl rfl hl.1 rfl (lv_room (Nat.le_of_ble_eq_true rfl)) dX4_leastKeys_49 ⟨Nat.le_of_ble_eq_true rfl, Nat.le_of_ble_eq_true rfl⟩) ?_
        obtain ⟨r104, hr104, h⟩ := x_bind h
        refine x_calli (va_runSN (As := [.int r102, .int r103]) (rest := [.int v3, .ref q_scores]) ⟨hx, hb, hml, hown, hts⟩ (kX9_thousandths l G H hr104) ⟨va_cnB 2 hts gX4_leastKeys_X9_thousandths_n44 rfl rfl rfl (hE.nm 13 rfl) (hts (.initialized RX9) (List.mem_of_getElem? (i := 13) rfl)) (by decide +kernel) ⟨Nat.le_of_ble_eq_true rfl, Nat.le_of_ble_eq_true rfl⟩, (hts (.static yX9_thousandths) (List.mem_of_getElem? (i := 41) rfl)), trivial⟩ (x_preS hE hS) rfl rfl hl.1 rfl (lv_room (Nat.le_of_ble_eq_true rfl)) dX4_leastKeys_52 ⟨Nat.le_of_ble_eq_true rfl, Nat.le_of_ble_eq_true rfl⟩) ?_
        refine lv_aload_n hx hb dX4_leastKeys_55 rfl (lv_at hl 1 rfl) ?_
        refine lv_iload_n hx hb dX4_leastKeys_56 rfl (lv_at hl 2 rfl) ?_
        obtain ⟨r105, hr105, h⟩ := x_bind h
        have hPr105 : va_P (xD G) vwCl [(q_a0, .inr (0, [.int a0_days, .ref q_a0_years, .ref q_a0_months, .ref q_a0_presses, .ref q_a0_winds, .ref q_a0_skies, .ref q_a0_rains, .ref q_a0_wires, .ref q_a0_kinds])), (q_a0_rains, .inl (xy G 0, 60, .inl a0_rains))] H := hP.sub [6, 8] rfl
        refine x_calli (va_runV (As := [.int v2]) (rest := [.int r104, .int v3, .ref q_scores]) ⟨hx, hb, hml, hown, hts⟩ (kX0_rainOf l G H hPr105 hr105) (cwV 1 hts gX4_leastKeys_X0_rainOf rfl rfl rfl (by decide +kernel) ⟨Nat.le_of_ble_eq_true rfl, Nat.le_of_ble_eq_true rfl⟩) (x_preV hE hS hP (ci := 0) (q0 := 6) rfl rfl) rfl rfl hl.1 rfl (lv_room (Nat.le_of_ble_eq_true rfl)) dX4_leastKeys_57 ⟨Nat.le_of_ble_eq_true rfl, Nat.le_of_ble_eq_true rfl⟩) ?_
        obtain ⟨r106, hr106, h⟩ := x_bind h
        have hPr106 : va_P (xD G) vwCl [(q_scores, .inr (6, [.ref q_scores_squares, .ref q_scores_days])), (q_scores_squares, .inl (xy G 0, n_scores, .inl scores_squares)), (q_scores_days, .inl (xy G 0, n_scores, .inl scores_days))] H := hP.sub [3, 4, 5] rfl
        have hDr106 : va_D A [(q_scores, .inr (6, [.ref q_scores_squares, .ref q_scores_days])), (q_scores_squares, .inl (xy G 0, n_scores, .inl scores_squares)), (q_scores_days, .inl (xy G 0, n_scores, .inl scores_days))] := hD.sub [3, 4, 5] (by decide) rfl
        have hFr106 := va_free (wc := [(q_scores, .inr (6, [.ref q_scores_squares, .ref q_scores_days])), (q_scores_squares, .inl (xy G 0, n_scores, .inl scores_squares)), (q_scores_days, .inl (xy G 0, n_scores, .inl scores_days))]) hD hS hA [3, 4, 5] rfl
        refine x_callwv (wc := [(q_scores, .inr (6, [.ref q_scores_squares, .ref q_scores_days])), (q_scores_squares, .inl (xy G 0, n_scores, .inl scores_squares)), (q_scores_days, .inl (xy G 0, n_scores, .inl scores_days))]) (w1 := [(q_scores, .inr (6, [.ref q_scores_squares, .ref q_scores_days])), (q_scores_squares, .inl (xy G 0, n_scores, .inl r106.1)), (q_scores_days, .inl (xy G 0, n_scores, .inl r106.2))]) (ws' := [(q_this, .inr (4, [.ref q_all, .ref q_wet, .ref q_scores])), (q_all, .inl (xy G 0, 64, .inl all)), (q_wet, .inl (xy G 0, 64, .inl wet)), (q_scores, .inr (6, [.ref q_scores_squares, .ref q_scores_days])), (q_scores_squares, .inl (xy G 0, n_scores, .inl r106.1)), (q_scores_days, .inl (xy G 0, n_scores, .inl r106.2)), (q_a0, .inr (0, [.int a0_days, .ref q_a0_years, .ref q_a0_months, .ref q_a0_presses, .ref q_a0_winds, .ref q_a0_skies, .ref q_a0_rains, .ref q_a0_wires, .ref q_a0_kinds])), (q_a0_years, .inl (xy G 0, 60, .inl a0_years)), (q_a0_rains, .inl (xy G 0, 60, .inl a0_rains)), (q_a0_kinds, .inl (xy G 0, 60, .inl a0_kinds))]) (va_runV (As := [.int v3, .int r104, .int r105]) (rest := []) ⟨hx, hb, hml, hown, hts⟩ (kX6_add l G H [(q_scores, .inr (6, [.ref q_scores_squares, .ref q_scores_days])), (q_scores_squares, .inl (xy G 0, n_scores, .inl scores_squares)), (q_scores_days, .inl (xy G 0, n_scores, .inl scores_days))] rfl hPr106 (hDr106.weaken (fun _ _ _ _ => trivial)) hr106) (cwV 3 hts gX4_leastKeys_X6_add rfl rfl rfl (by decide +kernel) ⟨Nat.le_of_ble_eq_true rfl, Nat.le_of_ble_eq_true rfl⟩) (x_preVw hE hS hFr106 hP (ci := 6) (q0 := 3) rfl rfl) rfl rfl hl.1 rfl (lv_room (Nat.le_of_ble_eq_true rfl)) dX4_leastKeys_60 ⟨Nat.le_of_ble_eq_true rfl, Nat.le_of_ble_eq_true rfl⟩) hP hD hS hFr106 [3, 4, 5] [none, none, none, some 0, some 1, some 2, none, none, none, none] (n := 10) (by decide) rfl rfl rfl (fun H locs hP hD hS => ?_)
        refine lv_iinc (v := (v3 + 1)) (lv' := [(3, .int (v3 + 1)), (0, .ref q_this), (1, .ref q_a0), (2, .int v2)]) hx hb dX4_leastKeys_63 hl (k := 3) rfl rfl (by decide) rfl (fun ls hl => ?_)
        refine lv_goto (tgt := 25) hx hb dX4_leastKeys_66 (by decide) ?_
        have hP : va_P (xD G) vwCl [(q_this, .inr (4, [.ref q_all, .ref q_wet, .ref q_scores])), (q_all, .inl (xy G 0, 64, .inl all)), (q_wet, .inl (xy G 0, 64, .inl wet)), (q_scores, .inr (6, [.ref q_scores_squares, .ref q_scores_days])), (q_scores_squares, .inl (xy G 0, n_scores, .inl r106.1)), (q_scores_days, .inl (xy G 0, n_scores, .inl r106.2)), (q_a0, .inr (0, [.int a0_days, .ref q_a0_years, .ref q_a0_months, .ref q_a0_presses, .ref q_a0_winds, .ref q_a0_skies, .ref q_a0_rains, .ref q_a0_wires, .ref q_a0_kinds])), (q_a0_years, .inl (xy G 0, 60, .inl a0_years)), (q_a0_rains, .inl (xy G 0, 60, .inl a0_rains)), (q_a0_kinds, .inl (xy G 0, 60, .inl a0_kinds))] H := hP
        exact i2 ((v3 + 1), r106.1, r106.2) (by cases h; exact ho) ls (lv_sub hl [1, 2, 3, 0] rfl) H locs hP hD hS
    refine lv_iload_n hx hb dX4_leastKeys_9 rfl (lv_at hl 2 rfl) ?_
    refine lv_aload_n hx hb dX4_leastKeys_10 rfl (lv_at hl 1 rfl) ?_
    refine va_get (D := xD G) (ci := 0) (v := .int a0_days) (C := RX0) (T := TX0) (N := 9) hx hb hts (fun w9 h9 => (List.mem_cons_of_mem _ (List.mem_append_left _ (List.mem_append_right _ h9)))) hown hE.1 hP 6 rfl rfl 0 (by decide) (hts (.fieldLink RX4 30 "FallingGlass$Book" "days" "I") (List.mem_of_getElem? (i := 2) rfl)) (fun _ h9 => h9) rfl dX4_leastKeys_11 ?_
    refine lv_icmp_ge (tgt := 75) hx hb dX4_leastKeys_14 (by decide) (fun hc207 => ?_) (fun hc207 => ?_)
    · replace h := (if_pos hc207).symm.trans h
      refine lv_aload_n hx hb dX4_leastKeys_75 rfl (lv_at hl 0 rfl) ?_
      refine va_get (D := xD G) (ci := 4) (v := .ref q_scores) (C := RX4) (T := TX4) (N := 3) hx hb hts (fun w9 h9 => (List.mem_cons_of_mem _ (List.mem_append_left _ (List.mem_append_left _ (List.mem_append_right _ h9))))) hown hE.1 hP 0 rfl rfl 2 (by decide) (hts (.fieldLink RX4 23 "FallingGlass$KeyTrial" "scores" "LFallingGlass$Scores;") (List.mem_of_getElem? (i := 1) rfl)) (fun _ h9 => h9) rfl dX4_leastKeys_76 ?_
      refine lv_iconst (v := 1) hx hb dX4_leastKeys_79 (by decide) ?_
      obtain ⟨r208, hr208, h⟩ := x_bind h
      have hPr208 : va_P (xD G) vwCl [(q_scores, .inr (6, [.ref q_scores_squares, .ref q_scores_days])), (q_scores_squares, .inl (xy G 0, n_scores, .inl scores_squares)), (q_scores_days, .inl (xy G 0, n_scores, .inl scores_days))] H := hP.sub [3, 4, 5] rfl
      refine x_calli (va_runV (As := [.int 1]) (rest := []) ⟨hx, hb, hml, hown, hts⟩ (kX6_least l G H hPr208 hr208) (cwV 1 hts gX4_leastKeys_X6_least rfl rfl rfl (by decide +kernel) ⟨Nat.le_of_ble_eq_true rfl, Nat.le_of_ble_eq_true rfl⟩) (x_preV hE hS hP (ci := 6) (q0 := 3) rfl rfl) rfl rfl hl.1 rfl (lv_room (Nat.le_of_ble_eq_true rfl)) dX4_leastKeys_80 ⟨Nat.le_of_ble_eq_true rfl, Nat.le_of_ble_eq_true rfl⟩) ?_
      have hq : (r208, all, wet, scores_squares, scores_days) = out := by cases h; exact (e1 _ ho)
      subst hq
      have hP : va_P (xD G) vwCl [(q_this, .inr (4, [.ref q_all, .ref q_wet, .ref q_scores])), (q_all, .inl (xy G 0, 64, .inl all)), (q_wet, .inl (xy G 0, 64, .inl wet)), (q_scores, .inr (6, [.ref q_scores_squares, .ref q_scores_days])), (q_scores_squares, .inl (xy G 0, n_scores, .inl scores_squares)), (q_scores_days, .inl (xy G 0, n_scores, .inl scores_days)), (q_a0, .inr (0, [.int a0_days, .ref q_a0_years, .ref q_a0_months, .ref q_a0_presses, .ref q_a0_winds, .ref q_a0_skies, .ref q_a0_rains, .ref q_a0_wires, .ref q_a0_kinds])), (q_a0_years, .inl (xy G 0, 60, .inl a0_years)), (q_a0_rains, .inl (xy G 0, 60, .inl a0_rains)), (q_a0_kinds, .inl (xy G 0, 60, .inl a0_kinds))] H := hP
      have hD : va_D A [(q_this, .inr (4, [.ref q_all, .ref q_wet, .ref q_scores])), (q_all, .inl (xy G 0, 64, .inl all)), (q_wet, .inl (xy G 0, 64, .inl wet)), (q_scores, .inr (6, [.ref q_scores_squares, .ref q_scores_days])), (q_scores_squares, .inl (xy G 0, n_scores, .inl scores_squares)), (q_scores_days, .inl (xy G 0, n_scores, .inl scores_days)), (q_a0, .inr (0, [.int a0_days, .ref q_a0_years, .ref q_a0_months, .ref q_a0_presses, .ref q_a0_winds, .ref q_a0_skies, .ref q_a0_rains, .ref q_a0_wires, .ref q_a0_kinds])), (q_a0_years, .inl (xy G 0, 60, .inl a0_years)), (q_a0_rains, .inl (xy G 0, 60, .inl a0_rains)), (q_a0_kinds, .inl (xy G 0, 60, .inl a0_kinds))] := hD
      exact x_iretw hx hb hr hlk hP hD hS rfl dX4_leastKeys_83
    · replace h := (if_neg hc207).symm.trans h
      refine lv_aload_n hx hb dX4_leastKeys_17 rfl (lv_at hl 0 rfl) ?_
      refine lv_aload_n hx hb dX4_leastKeys_18 rfl (lv_at hl 1 rfl) ?_
      refine lv_iload_n hx hb dX4_leastKeys_19 rfl (lv_at hl 2 rfl) ?_
      obtain ⟨r209, hr209, h⟩ := x_bind h
      have hPr209 : va_P (xD G) vwCl [(q_this, .inr (4, [.ref q_all, .ref q_wet, .ref q_scores])), (q_all, .inl (xy G 0, 64, .inl all)), (q_wet, .inl (xy G 0, 64, .inl wet)), (q_a0, .inr (0, [.int a0_days, .ref q_a0_years, .ref q_a0_months, .ref q_a0_presses, .ref q_a0_winds, .ref q_a0_skies, .ref q_a0_rains, .ref q_a0_wires, .ref q_a0_kinds])), (q_a0_years, .inl (xy G 0, 60, .inl a0_years)), (q_a0_rains, .inl (xy G 0, 60, .inl a0_rains)), (q_a0_kinds, .inl (xy G 0, 60, .inl a0_kinds))] H := hP.sub [0, 1, 2, 6, 7, 8, 9] rfl
      have hDr209 : va_D A [(q_this, .inr (4, [.ref q_all, .ref q_wet, .ref q_scores])), (q_all, .inl (xy G 0, 64, .inl all)), (q_wet, .inl (xy G 0, 64, .inl wet)), (q_a0, .inr (0, [.int a0_days, .ref q_a0_years, .ref q_a0_months, .ref q_a0_presses, .ref q_a0_winds, .ref q_a0_skies, .ref q_a0_rains, .ref q_a0_wires, .ref q_a0_kinds])), (q_a0_years, .inl (xy G 0, 60, .inl a0_years)), (q_a0_rains, .inl (xy G 0, 60, .inl a0_rains)), (q_a0_kinds, .inl (xy G 0, 60, .inl a0_kinds))] := hD.sub [0, 1, 2, 6, 7, 8, 9] (by decide) rfl
      have hFr209 := va_free (wc := [(q_this, .inr (4, [.ref q_all, .ref q_wet, .ref q_scores])), (q_all, .inl (xy G 0, 64, .inl all)), (q_wet, .inl (xy G 0, 64, .inl wet)), (q_a0, .inr (0, [.int a0_days, .ref q_a0_years, .ref q_a0_months, .ref q_a0_presses, .ref q_a0_winds, .ref q_a0_skies, .ref q_a0_rains, .ref q_a0_wires, .ref q_a0_kinds])), (q_a0_years, .inl (xy G 0, 60, .inl a0_years)), (q_a0_rains, .inl (xy G 0, 60, .inl a0_rains)), (q_a0_kinds, .inl (xy G 0, 60, .inl a0_kinds))]) hD hS hA [0, 1, 2, 6, 7, 8, 9] rfl
      refine x_callwv (wc := [(q_this, .inr (4, [.ref q_all, .ref q_wet, .ref q_scores])), (q_all, .inl (xy G 0, 64, .inl all)), (q_wet, .inl (xy G 0, 64, .inl wet)), (q_a0, .inr (0, [.int a0_days, .ref q_a0_years, .ref q_a0_months, .ref q_a0_presses, .ref q_a0_winds, .ref q_a0_skies, .ref q_a0_rains, .ref q_a0_wires, .ref q_a0_kinds])), (q_a0_years, .inl (xy G 0, 60, .inl a0_years)), (q_a0_rains, .inl (xy G 0, 60, .inl a0_rains)), (q_a0_kinds, .inl (xy G 0, 60, .inl a0_kinds))]) (w1 := [(q_this, .inr (4, [.ref q_all, .ref q_wet, .ref q_scores])), (q_all, .inl (xy G 0, 64, .inl r209.1)), (q_wet, .inl (xy G 0, 64, .inl r209.2)), (q_a0, .inr (0, [.int a0_days, .ref q_a0_years, .ref q_a0_months, .ref q_a0_presses, .ref q_a0_winds, .ref q_a0_skies, .ref q_a0_rains, .ref q_a0_wires, .ref q_a0_kinds])), (q_a0_years, .inl (xy G 0, 60, .inl a0_years)), (q_a0_rains, .inl (xy G 0, 60, .inl a0_rains)), (q_a0_kinds, .inl (xy G 0, 60, .inl a0_kinds))]) (ws' := [(q_this, .inr (4, [.ref q_all, .ref q_wet, .ref q_scores])), (q_all, .inl (xy G 0, 64, .inl r209.1)), (q_wet, .inl (xy G 0, 64, .inl r209.2)), (q_scores, .inr (6, [.ref q_scores_squares, .ref q_scores_days])), (q_scores_squares, .inl (xy G 0, n_scores, .inl scores_squares)), (q_scores_days, .inl (xy G 0, n_scores, .inl scores_days)), (q_a0, .inr (0, [.int a0_days, .ref q_a0_years, .ref q_a0_months, .ref q_a0_presses, .ref q_a0_winds, .ref q_a0_skies, .ref q_a0_rains, .ref q_a0_wires, .ref q_a0_kinds])), (q_a0_years, .inl (xy G 0, 60, .inl a0_years)), (q_a0_rains, .inl (xy G 0, 60, .inl a0_rains)), (q_a0_kinds, .inl (xy G 0, 60, .inl a0_kinds))]) (va_runV (As := [.ref q_a0, .int v2]) (rest := []) ⟨hx, hb, hml, hown, hts⟩ (kX4_countByKeys l G H [(q_this, .inr (4, [.ref q_all, .ref q_wet, .ref q_scores])), (q_all, .inl (xy G 0, 64, .inl all)), (q_wet, .inl (xy G 0, 64, .inl wet)), (q_a0, .inr (0, [.int a0_days, .ref q_a0_years, .ref q_a0_months, .ref q_a0_presses, .ref q_a0_winds, .ref q_a0_skies, .ref q_a0_rains, .ref q_a0_wires, .ref q_a0_kinds])), (q_a0_years, .inl (xy G 0, 60, .inl a0_years)), (q_a0_rains, .inl (xy G 0, 60, .inl a0_rains)), (q_a0_kinds, .inl (xy G 0, 60, .inl a0_kinds))] rfl hPr209 (hDr209.weaken (fun _ _ _ _ => trivial)) hr209) (cwV 2 hts gX4_leastKeys_X4_countByKeys rfl rfl rfl (by decide +kernel) ⟨Nat.le_of_ble_eq_true rfl, Nat.le_of_ble_eq_true rfl⟩) (x_preVw hE hS hFr209 hP (ci := 4) (q0 := 0) rfl rfl) rfl rfl hl.1 rfl (lv_room (Nat.le_of_ble_eq_true rfl)) dX4_leastKeys_20 ⟨Nat.le_of_ble_eq_true rfl, Nat.le_of_ble_eq_true rfl⟩) hP hD hS hFr209 [0, 1, 2, 6, 7, 8, 9] [some 0, some 1, some 2, none, none, none, some 3, some 4, some 5, some 6] (n := 10) (by decide) rfl rfl rfl (fun H locs hP hD hS => ?_)
      refine lv_iconst (v := 0) hx hb dX4_leastKeys_23 (by decide) ?_
      refine lv_istore_n (lv' := [(3, .int 0), (0, .ref q_this), (1, .ref q_a0), (2, .int v2)]) hx hb dX4_leastKeys_24 rfl hl (by decide) rfl (fun ls hl => ?_)
      have hP : va_P (xD G) vwCl [(q_this, .inr (4, [.ref q_all, .ref q_wet, .ref q_scores])), (q_all, .inl (xy G 0, 64, .inl r209.1)), (q_wet, .inl (xy G 0, 64, .inl r209.2)), (q_scores, .inr (6, [.ref q_scores_squares, .ref q_scores_days])), (q_scores_squares, .inl (xy G 0, n_scores, .inl scores_squares)), (q_scores_days, .inl (xy G 0, n_scores, .inl scores_days)), (q_a0, .inr (0, [.int a0_days, .ref q_a0_years, .ref q_a0_months, .ref q_a0_presses, .ref q_a0_winds, .ref q_a0_skies, .ref q_a0_rains, .ref q_a0_wires, .ref q_a0_kinds])), (q_a0_years, .inl (xy G 0, 60, .inl a0_years)), (q_a0_rains, .inl (xy G 0, 60, .inl a0_rains)), (q_a0_kinds, .inl (xy G 0, 60, .inl a0_kinds))] H := hP
      exact J25  r209.1 r209.2 scores_squares scores_days v2 0 ls (lv_sub hl [1, 2, 3, 0] rfl) _ h ho H locs hP hD hS
  unfold mX4_leastKeys at h
  refine lv_aload_n hx hb dX4_leastKeys_0 rfl (lv_at hl 0 rfl) ?_
  refine va_get (D := xD G) (ci := 4) (v := .ref q_scores) (C := RX4) (T := TX4) (N := 3) hx hb hts (fun w9 h9 => (List.mem_cons_of_mem _ (List.mem_append_left _ (List.mem_append_left _ (List.mem_append_right _ h9))))) hown hE.1 hP 0 rfl rfl 2 (by decide) (hts (.fieldLink RX4 23 "FallingGlass$KeyTrial" "scores" "LFallingGlass$Scores;") (List.mem_of_getElem? (i := 1) rfl)) (fun _ h9 => h9) rfl dX4_leastKeys_1 ?_
  obtain ⟨r501, hr501, h⟩ := x_bind h
  have hPr501 : va_P (xD G) vwCl [(q_scores, .inr (6, [.ref q_scores_squares, .ref q_scores_days])), (q_scores_squares, .inl (xy G 0, n_scores, .inl scores_squares)), (q_scores_days, .inl (xy G 0, n_scores, .inl scores_days))] H := hP.sub [3, 4, 5] rfl
  have hDr501 : va_D A [(q_scores, .inr (6, [.ref q_scores_squares, .ref q_scores_days])), (q_scores_squares, .inl (xy G 0, n_scores, .inl scores_squares)), (q_scores_days, .inl (xy G 0, n_scores, .inl scores_days))] := hD.sub [3, 4, 5] (by decide) rfl
  have hFr501 := va_free (wc := [(q_scores, .inr (6, [.ref q_scores_squares, .ref q_scores_days])), (q_scores_squares, .inl (xy G 0, n_scores, .inl scores_squares)), (q_scores_days, .inl (xy G 0, n_scores, .inl scores_days))]) hD hS hA [3, 4, 5] rfl
  refine x_callwv (wc := [(q_scores, .inr (6, [.ref q_scores_squares, .ref q_scores_days])), (q_scores_squares, .inl (xy G 0, n_scores, .inl scores_squares)), (q_scores_days, .inl (xy G 0, n_scores, .inl scores_days))]) (w1 := [(q_scores, .inr (6, [.ref q_scores_squares, .ref q_scores_days])), (q_scores_squares, .inl (xy G 0, n_scores, .inl r501.1)), (q_scores_days, .inl (xy G 0, n_scores, .inl r501.2))]) (ws' := [(q_this, .inr (4, [.ref q_all, .ref q_wet, .ref q_scores])), (q_all, .inl (xy G 0, 64, .inl all)), (q_wet, .inl (xy G 0, 64, .inl wet)), (q_scores, .inr (6, [.ref q_scores_squares, .ref q_scores_days])), (q_scores_squares, .inl (xy G 0, n_scores, .inl r501.1)), (q_scores_days, .inl (xy G 0, n_scores, .inl r501.2)), (q_a0, .inr (0, [.int a0_days, .ref q_a0_years, .ref q_a0_months, .ref q_a0_presses, .ref q_a0_winds, .ref q_a0_skies, .ref q_a0_rains, .ref q_a0_wires, .ref q_a0_kinds])), (q_a0_years, .inl (xy G 0, 60, .inl a0_years)), (q_a0_rains, .inl (xy G 0, 60, .inl a0_rains)), (q_a0_kinds, .inl (xy G 0, 60, .inl a0_kinds))]) (va_runV (As := []) (rest := []) ⟨hx, hb, hml, hown, hts⟩ (kX6_erase l G H [(q_scores, .inr (6, [.ref q_scores_squares, .ref q_scores_days])), (q_scores_squares, .inl (xy G 0, n_scores, .inl scores_squares)), (q_scores_days, .inl (xy G 0, n_scores, .inl scores_days))] rfl hPr501 (hDr501.weaken (fun _ _ _ _ => trivial)) hr501) (cwV 0 hts gX4_leastKeys_X6_erase rfl rfl rfl (by decide +kernel) ⟨Nat.le_of_ble_eq_true rfl, Nat.le_of_ble_eq_true rfl⟩) (x_preVw hE hS hFr501 hP (ci := 6) (q0 := 3) rfl rfl) rfl rfl hl.1 rfl (lv_room (Nat.le_of_ble_eq_true rfl)) dX4_leastKeys_4 ⟨Nat.le_of_ble_eq_true rfl, Nat.le_of_ble_eq_true rfl⟩) hP hD hS hFr501 [3, 4, 5] [none, none, none, some 0, some 1, some 2, none, none, none, none] (n := 10) (by decide) rfl rfl rfl (fun H locs hP hD hS => ?_)
  refine lv_iconst (v := 0) hx hb dX4_leastKeys_7 (by decide) ?_
  refine lv_istore_n (lv' := [(2, .int 0), (0, .ref q_this), (1, .ref q_a0)]) hx hb dX4_leastKeys_8 rfl hl (by decide) rfl (fun ls hl => ?_)
  have hP : va_P (xD G) vwCl [(q_this, .inr (4, [.ref q_all, .ref q_wet, .ref q_scores])), (q_all, .inl (xy G 0, 64, .inl all)), (q_wet, .inl (xy G 0, 64, .inl wet)), (q_scores, .inr (6, [.ref q_scores_squares, .ref q_scores_days])), (q_scores_squares, .inl (xy G 0, n_scores, .inl r501.1)), (q_scores_days, .inl (xy G 0, n_scores, .inl r501.2)), (q_a0, .inr (0, [.int a0_days, .ref q_a0_years, .ref q_a0_months, .ref q_a0_presses, .ref q_a0_winds, .ref q_a0_skies, .ref q_a0_rains, .ref q_a0_wires, .ref q_a0_kinds])), (q_a0_years, .inl (xy G 0, 60, .inl a0_years)), (q_a0_rains, .inl (xy G 0, 60, .inl a0_rains)), (q_a0_kinds, .inl (xy G 0, 60, .inl a0_kinds))] H := hP
  exact J9  all wet r501.1 r501.2 0 ls (lv_sub hl [1, 2, 0] rfl) _ h ho H locs hP hD hS
