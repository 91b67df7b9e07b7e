/-! laid by program out of the bytecode: for each method its function (m..) and its contract (k..) -/
noncomputable def mX10_isDigit  (p0 : Int32) : Option (Bool) :=
  (mX10_in ((Int32.toInt64 p0)) 48 57).bind (fun r501 => some r501)
set_option maxHeartbeats 4000000 in
set_option maxRecDepth 100000 in
theorem kX10_isDigit (l : Launch) (G : xG) (H0 : Heap) {p0 : Int32} {out : Bool} (h : mX10_isDigit p0 = some out) : Met l yX10_isDigit wsX10_isDigit ({ frames := 1, cells := 0, slots := 0, locals := 25 }) (xPc G H0 [.int p0]) (xQi H0 (xb out)) 0 0 xN := by
  refine x_met (by decide) rfl (Nat.le_of_ble_eq_true rfl) ?_
  intro p e s m below meth c ls hH hA hl
  obtain ⟨hx, hb, hr, hlk, hml, hown, hts, hE⟩ := hA
  subst hH
  have hown : s.vm.findClass RX10 = some m.cls := hown
  have hl : lv_has ls 1 [(0, .int p0)] := hl
  have hS : va_S xN s.heap s.heap [] := va_S.rf
  have ho : out = out := rfl
  unfold mX10_isDigit at h
  refine lv_iload_n hx hb dX10_isDigit_0 rfl (lv_at hl 0 rfl) ?_
  refine lv_i2l (v := (Int32.toInt64 p0)) hx hb dX10_isDigit_1 rfl ?_
  refine lv_ldc2 (v := 48) hx hb hown (hts (.constantLong RX10 144 (48)) (List.mem_of_getElem? (i := 1) rfl)) dX10_isDigit_2 ?_
  refine lv_ldc2 (v := 57) hx hb hown (hts (.constantLong RX10 146 (57)) (List.mem_of_getElem? (i := 2) rfl)) dX10_isDigit_5 ?_
  obtain ⟨r501, hr501, h⟩ := x_bind h
  refine x_calli (va_runS (As := [.long (Int32.toInt64 p0), .long 48, .long 57]) (rest := []) ⟨hx, hb, hml, hown, hts⟩ (kX10_in l G s.heap hr501) (va_cwS 3 hts gX10_isDigit_X10_in rfl rfl rfl (by decide +kernel) ⟨Nat.le_of_ble_eq_true rfl, Nat.le_of_ble_eq_true rfl⟩) (x_preS hE hS) rfl rfl hl.1 rfl (lv_room (Nat.le_of_ble_eq_true rfl)) dX10_isDigit_8 ⟨Nat.le_of_ble_eq_true rfl, Nat.le_of_ble_eq_true rfl⟩) ?_
  have hq : r501 = out := by cases h; exact ho
  subst hq
  exact x_zret (b := r501) hx hb hr hlk rfl rfl rfl dX10_isDigit_11
noncomputable def mX10_lookOfLetter  (p0 : Int32) : Option (Int32) :=
  if p0 = 100 then (some 5) else (if p0 = 101 then (some ((-1))) else (if p0 = 102 then (some ((-1))) else (if p0 = 103 then (some ((-1))) else (if p0 = 104 then (some ((-1))) else (if p0 = 105 then (some ((-1))) else (if p0 = 106 then (some ((-1))) else (if p0 = 107 then (some ((-1))) else (if p0 = 108 then (some ((-1))) else (if p0 = 109 then (some 3) else (if p0 = 110 then (some ((-1))) else (if p0 = 111 then (some ((-1))) else (if p0 = 112 then (some 0) else (if p0 = 113 then (some ((-1))) else (if p0 = 114 then (some ((-1))) else (if p0 = 115 then (some 2) else (if p0 = 116 then (some ((-1))) else (if p0 = 117 then (some 6) else (if p0 = 118 then (some ((-1))) else (if p0 = 119 then (some 1) else (if p0 = 120 then (some ((-1))) else (if p0 = 121 then (some 4) else (some ((-1))))))))))))))))))))))))
set_option maxHeartbeats 4000000 in
set_option maxRecDepth 100000 in
theorem kX10_lookOfLetter (l : Launch) (G : xG) (H0 : Heap) {p0 : Int32} {out : Int32} (h : mX10_lookOfLetter p0 = some out) : Met l yX10_lookOfLetter wsX10_lookOfLetter ({ frames := 0, cells := 0, slots := 0, locals := 0 }) (xPc G H0 [.int p0]) (xQi H0 (out)) 0 0 xN := by
  refine x_met (by decide) rfl (Nat.le_of_ble_eq_true rfl) ?_
  intro p e s m below meth c ls hH hA hl
  obtain ⟨hx, hb, hr, hlk, hml, hown, hts, hE⟩ := hA
  subst hH
  have hown : s.vm.findClass RX10 = some m.cls := hown
  have hl : lv_has ls 1 [(0, .int p0)] := hl
  have hS : va_S xN s.heap s.heap [] := va_S.rf
  have ho : out = out := rfl
  unfold mX10_lookOfLetter at h
  refine lv_iload_n hx hb dX10_lookOfLetter_0 rfl (lv_at hl 0 rfl) ?_
  by_cases hk501_0 : p0 = 100
  · replace h := (if_pos hk501_0).symm.trans h
    refine lv_tableIn (tgt := 114) hx hb dX10_lookOfLetter_1 (by rw [hk501_0]; decide) (by rw [hk501_0]; decide) (by rw [hk501_0]; rfl) (by decide) ?_
    refine lv_iconst (v := 5) hx hb dX10_lookOfLetter_114 (by decide) ?_
    have hq : 5 = out := by cases h; exact ho
    subst hq
    exact x_iret hx hb hr hlk rfl rfl dX10_lookOfLetter_115
  · replace h := (if_neg hk501_0).symm.trans h
    by_cases hk501_1 : p0 = 101
    · replace h := (if_pos hk501_1).symm.trans h
      refine lv_tableIn (tgt := 119) hx hb dX10_lookOfLetter_1 (by rw [hk501_1]; decide) (by rw [hk501_1]; decide) (by rw [hk501_1]; rfl) (by decide) ?_
      refine lv_iconst (v := (-1)) hx hb dX10_lookOfLetter_119 (by decide) ?_
      have hq : (-1) = out := by cases h; exact ho
      subst hq
      exact x_iret hx hb hr hlk rfl rfl dX10_lookOfLetter_120
    · replace h := (if_neg hk501_1).symm.trans h
      by_cases hk501_2 : p0 = 102
      · replace h := (if_pos hk501_2).symm.trans h
        refine lv_tableIn (tgt := 119) hx hb dX10_lookOfLetter_1 (by rw [hk501_2]; decide) (by rw [hk501_2]; decide) (by rw [hk501_2]; rfl) (by decide) ?_
        refine lv_iconst (v := (-1)) hx hb dX10_lookOfLetter_119 (by decide) ?_
        have hq : (-1) = out := by cases h; exact ho
        subst hq
        exact x_iret hx hb hr hlk rfl rfl dX10_lookOfLetter_120
      · replace h := (if_neg hk501_2).symm.trans h
        by_cases hk501_3 : p0 = 103
        · replace h := (if_pos hk501_3).symm.trans h
          refine lv_tableIn (tgt := 119) hx hb dX10_lookOfLetter_1 (by rw [hk501_3]; decide) (by rw [hk501_3]; decide) (by rw [hk501_3]; rfl) (by decide) ?_
          refine lv_iconst (v := (-1)) hx hb dX10_lookOfLetter_119 (by decide) ?_
          have hq : (-1) = out := by cases h; exact ho
          subst hq
          exact x_iret hx hb hr hlk rfl rfl dX10_lookOfLetter_120
        · replace h := (if_neg hk501_3).symm.trans h
          by_cases hk501_4 : p0 = 104
          · replace h := (if_pos hk501_4).symm.trans h
            refine lv_tableIn (tgt := 119) hx hb dX10_lookOfLetter_1 (by rw [hk501_4]; decide) (by rw [hk501_4]; decide) (by rw [hk501_4]; rfl) (by decide) ?_
            refine lv_iconst (v := (-1)) hx hb dX10_lookOfLetter_119 (by decide) ?_
            have hq : (-1) = out := by cases h; exact ho
            subst hq
            exact x_iret hx hb hr hlk rfl rfl dX10_lookOfLetter_120
          · replace h := (if_neg hk501_4).symm.trans h
            by_cases hk501_5 : p0 = 105
            · replace h := (if_pos hk501_5).symm.trans h
              refine lv_tableIn (tgt := 119) hx hb dX10_lookOfLetter_1 (by rw [hk501_5]; decide) (by rw [hk501_5]; decide) (by rw [hk501_5]; rfl) (by decide) ?_
              refine lv_iconst (v := (-1)) hx hb dX10_lookOfLetter_119 (by decide) ?_
              have hq : (-1) = out := by cases h; exact ho
              subst hq
              exact x_iret hx hb hr hlk rfl rfl dX10_lookOfLetter_120
            · replace h := (if_neg hk501_5).symm.trans h
              by_cases hk501_6 : p0 = 106
              · replace h := (if_pos hk501_6).symm.trans h
                refine lv_tableIn (tgt := 119) hx hb dX10_lookOfLetter_1 (by rw [hk501_6]; decide) (by rw [hk501_6]; decide) (by rw [hk501_6]; rfl) (by decide) ?_
                refine lv_iconst (v := (-1)) hx hb dX10_lookOfLetter_119 (by decide) ?_
                have hq : (-1) = out := by cases h; exact ho
                subst hq
                exact x_iret hx hb hr hlk rfl rfl dX10_lookOfLetter_120
              · replace h := (if_neg hk501_6).symm.trans h
                by_cases hk501_7 : p0 = 107
                · replace h := (if_pos hk501_7).symm.trans h
                  refine lv_tableIn (tgt := 119) hx hb dX10_lookOfLetter_1 (by rw [hk501_7]; decide) (by rw [hk501_7]; decide) (by rw [hk501_7]; rfl) (by decide) ?_
                  refine lv_iconst (v := (-1)) hx hb dX10_lookOfLetter_119 (by decide) ?_
                  have hq : (-1) = out := by cases h; exact ho
                  subst hq
                  exact x_iret hx hb hr hlk rfl rfl dX10_lookOfLetter_120
                · replace h := (if_neg hk501_7).symm.trans h
                  by_cases hk501_8 : p0 = 108
                  · replace h := (if_pos hk501_8).symm.trans h
                    refine lv_tableIn (tgt := 119) hx hb dX10_lookOfLetter_1 (by rw [hk501_8]; decide) (by rw [hk501_8]; decide) (by rw [hk501_8]; rfl) (by decide) ?_
                    refine lv_iconst (v := (-1)) hx hb dX10_lookOfLetter_119 (by decide) ?_
                    have hq : (-1) = out := by cases h; exact ho
                    subst hq
                    exact x_iret hx hb hr hlk rfl rfl dX10_lookOfLetter_120
                  · replace h := (if_neg hk501_8).symm.trans h
                    by_cases hk501_9 : p0 = 109
                    · replace h := (if_pos hk501_9).symm.trans h
                      refine lv_tableIn (tgt := 110) hx hb dX10_lookOfLetter_1 (by rw [hk501_9]; decide) (by rw [hk501_9]; decide) (by rw [hk501_9]; rfl) (by decide) ?_
                      refine lv_iconst (v := 3) hx hb dX10_lookOfLetter_110 (by decide) ?_
                      have hq : 3 = out := by cases h; exact ho
                      subst hq
                      exact x_iret hx hb hr hlk rfl rfl dX10_lookOfLetter_111
                    · replace h := (if_neg hk501_9).symm.trans h
                      by_cases hk501_10 : p0 = 110
                      · replace h := (if_pos hk501_10).symm.trans h
                        refine lv_tableIn (tgt := 119) hx hb dX10_lookOfLetter_1 (by rw [hk501_10]; decide) (by rw [hk501_10]; decide) (by rw [hk501_10]; rfl) (by decide) ?_
                        refine lv_iconst (v := (-1)) hx hb dX10_lookOfLetter_119 (by decide) ?_
                        have hq : (-1) = out := by cases h; exact ho
                        subst hq
                        exact x_iret hx hb hr hlk rfl rfl dX10_lookOfLetter_120
                      · replace h := (if_neg hk501_10).symm.trans h
                        by_cases hk501_11 : p0 = 111
                        · replace h := (if_pos hk501_11).symm.trans h
                          refine lv_tableIn (tgt := 119) hx hb dX10_lookOfLetter_1 (by rw [hk501_11]; decide) (by rw [hk501_11]; decide) (by rw [hk501_11]; rfl) (by decide) ?_
                          refine lv_iconst (v := (-1)) hx hb dX10_lookOfLetter_119 (by decide) ?_
                          have hq : (-1) = out := by cases h; exact ho
                          subst hq
                          exact x_iret hx hb hr hlk rfl rfl dX10_lookOfLetter_120
                        · replace h := (if_neg hk501_11).symm.trans h
                          by_cases hk501_12 : p0 = 112
                          · replace h := (if_pos hk501_12).symm.trans h
                            refine lv_tableIn (tgt := 104) hx hb dX10_lookOfLetter_1 (by rw [hk501_12]; decide) (by rw [hk501_12]; decide) (by rw [hk501_12]; rfl) (by decide) ?_
                            refine lv_iconst (v := 0) hx hb dX10_lookOfLetter_104 (by decide) ?_
                            have hq : 0 = out := by cases h; exact ho
                            subst hq
                            exact x_iret hx hb hr hlk rfl rfl dX10_lookOfLetter_105
                          · replace h := (if_neg hk501_12).symm.trans h
                            by_cases hk501_13 : p0 = 113
                            · replace h := (if_pos hk501_13).symm.trans h
                              refine lv_tableIn (tgt := 119) hx hb dX10_lookOfLetter_1 (by rw [hk501_13]; decide) (by rw [hk501_13]; decide) (by rw [hk501_13]; rfl) (by decide) ?_
                              refine lv_iconst (v := (-1)) hx hb dX10_lookOfLetter_119 (by decide) ?_
                              have hq : (-1) = out := by cases h; exact ho
                              subst hq
                              exact x_iret hx hb hr hlk rfl rfl dX10_lookOfLetter_120
                            · replace h := (if_neg hk501_13).symm.trans h
                              by_cases hk501_14 : p0 = 114
                              · replace h := (if_pos hk501_14).symm.trans h
                                refine lv_tableIn (tgt := 119) hx hb dX10_lookOfLetter_1 (by rw [hk501_14]; decide) (by rw [hk501_14]; decide) (by rw [hk501_14]; rfl) (by decide) ?_
                                refine lv_iconst (v := (-1)) hx hb dX10_lookOfLetter_119 (by decide) ?_
                                have hq : (-1) = out := by cases h; exact ho
                                subst hq
                                exact x_iret hx hb hr hlk rfl rfl dX10_lookOfLetter_120
                              · replace h := (if_neg hk501_14).symm.trans h
                                by_cases hk501_15 : p0 = 115
                                · replace h := (if_pos hk501_15).symm.trans h
                                  refine lv_tableIn (tgt := 108) hx hb dX10_lookOfLetter_1 (by rw [hk501_15]; decide) (by rw [hk501_15]; decide) (by rw [hk501_15]; rfl) (by decide) ?_
                                  refine lv_iconst (v := 2) hx hb dX10_lookOfLetter_108 (by decide) ?_
                                  have hq : 2 = out := by cases h; exact ho
                                  subst hq
                                  exact x_iret hx hb hr hlk rfl rfl dX10_lookOfLetter_109
                                · replace h := (if_neg hk501_15).symm.trans h
                                  by_cases hk501_16 : p0 = 116
                                  · replace h := (if_pos hk501_16).symm.trans h
                                    refine lv_tableIn (tgt := 119) hx hb dX10_lookOfLetter_1 (by rw [hk501_16]; decide) (by rw [hk501_16]; decide) (by rw [hk501_16]; rfl) (by decide) ?_
                                    refine lv_iconst (v := (-1)) hx hb dX10_lookOfLetter_119 (by decide) ?_
                                    have hq : (-1) = out := by cases h; exact ho
                                    subst hq
                                    exact x_iret hx hb hr hlk rfl rfl dX10_lookOfLetter_120
                                  · replace h := (if_neg hk501_16).symm.trans h
                                    by_cases hk501_17 : p0 = 117
                                    · replace h := (if_pos hk501_17).symm.trans h
                                      refine lv_tableIn (tgt := 116) hx hb dX10_lookOfLetter_1 (by rw [hk501_17]; decide) (by rw [hk501_17]; decide) (by rw [hk501_17]; rfl) (by decide) ?_
                                      refine lv_bipush (v := 6) hx hb dX10_lookOfLetter_116 (by decide) ?_
                                      have hq : 6 = out := by cases h; exact ho
                                      subst hq
                                      exact x_iret hx hb hr hlk rfl rfl dX10_lookOfLetter_118
                                    · replace h := (if_neg hk501_17).symm.trans h
                                      by_cases hk501_18 : p0 = 118
                                      · replace h := (if_pos hk501_18).symm.trans h
                                        refine lv_tableIn (tgt := 119) hx hb dX10_lookOfLetter_1 (by rw [hk501_18]; decide) (by rw [hk501_18]; decide) (by rw [hk501_18]; rfl) (by decide) ?_
                                        refine lv_iconst (v := (-1)) hx hb dX10_lookOfLetter_119 (by decide) ?_
                                        have hq : (-1) = out := by cases h; exact ho
                                        subst hq
                                        exact x_iret hx hb hr hlk rfl rfl dX10_lookOfLetter_120
                                      · replace h := (if_neg hk501_18).symm.trans h
                                        by_cases hk501_19 : p0 = 119
                                        · replace h := (if_pos hk501_19).symm.trans h
                                          refine lv_tableIn (tgt := 106) hx hb dX10_lookOfLetter_1 (by rw [hk501_19]; decide) (by rw [hk501_19]; decide) (by rw [hk501_19]; rfl) (by decide) ?_
                                          refine lv_iconst (v := 1) hx hb dX10_lookOfLetter_106 (by decide) ?_
                                          have hq : 1 = out := by cases h; exact ho
                                          subst hq
                                          exact x_iret hx hb hr hlk rfl rfl dX10_lookOfLetter_107
                                        · replace h := (if_neg hk501_19).symm.trans h
                                          by_cases hk501_20 : p0 = 120
                                          · replace h := (if_pos hk501_20).symm.trans h
                                            refine lv_tableIn (tgt := 119) hx hb dX10_lookOfLetter_1 (by rw [hk501_20]; decide) (by rw [hk501_20]; decide) (by rw [hk501_20]; rfl) (by decide) ?_
                                            refine lv_iconst (v := (-1)) hx hb dX10_lookOfLetter_119 (by decide) ?_
                                            have hq : (-1) = out := by cases h; exact ho
                                            subst hq
                                            exact x_iret hx hb hr hlk rfl rfl dX10_lookOfLetter_120
                                          · replace h := (if_neg hk501_20).symm.trans h
                                            by_cases hk501_21 : p0 = 121
                                            · replace h := (if_pos hk501_21).symm.trans h
                                              refine lv_tableIn (tgt := 112) hx hb dX10_lookOfLetter_1 (by rw [hk501_21]; decide) (by rw [hk501_21]; decide) (by rw [hk501_21]; rfl) (by decide) ?_
                                              refine lv_iconst (v := 4) hx hb dX10_lookOfLetter_112 (by decide) ?_
                                              have hq : 4 = out := by cases h; exact ho
                                              subst hq
                                              exact x_iret hx hb hr hlk rfl rfl dX10_lookOfLetter_113
                                            · replace h := (if_neg hk501_21).symm.trans h
                                              refine lv_tableOut (tgt := 119) hx hb dX10_lookOfLetter_1 (by have z0 : (100 : Int) ≤ p0.toInt ∨ p0.toInt < 100 := (by omega); have z1 : (101 : Int) ≤ p0.toInt ∨ p0.toInt < 100 := x_step rfl z0 (lv_neT hk501_0 (a := 100) (by decide)); have z2 : (102 : Int) ≤ p0.toInt ∨ p0.toInt < 100 := x_step rfl z1 (lv_neT hk501_1 (a := 101) (by decide)); have z3 : (103 : Int) ≤ p0.toInt ∨ p0.toInt < 100 := x_step rfl z2 (lv_neT hk501_2 (a := 102) (by decide)); have z4 : (104 : Int) ≤ p0.toInt ∨ p0.toInt < 100 := x_step rfl z3 (lv_neT hk501_3 (a := 103) (by decide)); have z5 : (105 : Int) ≤ p0.toInt ∨ p0.toInt < 100 := x_step rfl z4 (lv_neT hk501_4 (a := 104) (by decide)); have z6 : (106 : Int) ≤ p0.toInt ∨ p0.toInt < 100 := x_step rfl z5 (lv_neT hk501_5 (a := 105) (by decide)); have z7 : (107 : Int) ≤ p0.toInt ∨ p0.toInt < 100 := x_step rfl z6 (lv_neT hk501_6 (a := 106) (by decide)); have z8 : (108 : Int) ≤ p0.toInt ∨ p0.toInt < 100 := x_step rfl z7 (lv_neT hk501_7 (a := 107) (by decide)); have z9 : (109 : Int) ≤ p0.toInt ∨ p0.toInt < 100 := x_step rfl z8 (lv_neT hk501_8 (a := 108) (by decide)); have z10 : (110 : Int) ≤ p0.toInt ∨ p0.toInt < 100 := x_step rfl z9 (lv_neT hk501_9 (a := 109) (by decide)); have z11 : (111 : Int) ≤ p0.toInt ∨ p0.toInt < 100 := x_step rfl z10 (lv_neT hk501_10 (a := 110) (by decide)); have z12 : (112 : Int) ≤ p0.toInt ∨ p0.toInt < 100 := x_step rfl z11 (lv_neT hk501_11 (a := 111) (by decide)); have z13 : (113 : Int) ≤ p0.toInt ∨ p0.toInt < 100 := x_step rfl z12 (lv_neT hk501_12 (a := 112) (by decide)); have z14 : (114 : Int) ≤ p0.toInt ∨ p0.toInt < 100 := x_step rfl z13 (lv_neT hk501_13 (a := 113) (by decide)); have z15 : (115 : Int) ≤ p0.toInt ∨ p0.toInt < 100 := x_step rfl z14 (lv_neT hk501_14 (a := 114) (by decide)); have z16 : (116 : Int) ≤ p0.toInt ∨ p0.toInt < 100 := x_step rfl z15 (lv_neT hk501_15 (a := 115) (by decide)); have z17 : (117 : Int) ≤ p0.toInt ∨ p0.toInt < 100 := x_step rfl z16 (lv_neT hk501_16 (a := 116) (by decide)); have z18 : (118 : Int) ≤ p0.toInt ∨ p0.toInt < 100 := x_step rfl z17 (lv_neT hk501_17 (a := 117) (by decide)); have z19 : (119 : Int) ≤ p0.toInt ∨ p0.toInt < 100 := x_step rfl z18 (lv_neT hk501_18 (a := 118) (by decide)); have z20 : (120 : Int) ≤ p0.toInt ∨ p0.toInt < 100 := x_step rfl z19 (lv_neT hk501_19 (a := 119) (by decide)); have z21 : (121 : Int) ≤ p0.toInt ∨ p0.toInt < 100 := x_step rfl z20 (lv_neT hk501_20 (a := 120) (by decide)); have z22 : (122 : Int) ≤ p0.toInt ∨ p0.toInt < 100 := x_step rfl z21 (lv_neT hk501_21 (a := 121) (by decide)); omega) (by decide) ?_
                                              refine lv_iconst (v := (-1)) hx hb dX10_lookOfLetter_119 (by decide) ?_
                                              have hq : (-1) = out := by cases h; exact ho
                                              subst hq
                                              exact x_iret hx hb hr hlk rfl rfl dX10_lookOfLetter_120
noncomputable def mX10_stepOf_b145  (v1 : Int32) : Option (Int32) :=
  if v1 = 38 then (some 8) else (if v1 = 58 then (some 6) else (some ((-1))))
noncomputable def mX10_stepOf_b66  (v1 : Int32) : Option (Int32) :=
  (mX10_lookOfLetter v1).bind (fun r203 => if r203 < 0 then (some ((-1))) else (some 2))
noncomputable def mX10_stepOf  (p0 : Int32) (p1 : Int32) : Option (Int32) :=
  if p0 = 0 then (if p1 = 42 then (if p0 = 0 then (some 1) else (mX10_stepOf_b66 p1)) else (mX10_stepOf_b66 p1)) else (if p0 = 1 then (if p1 = 58 then (some 6) else (some ((-1)))) else (if p0 = 2 then (if p1 = 60 then (some 3) else (if p1 = 62 then (some 3) else (if p1 = 61 then (some 3) else (some ((-1)))))) else (if p0 = 3 then ((mX10_isDigit p1).bind (fun r508 => if (xb r508) = 0 then (some ((-1))) else (some 4))) else (if p0 = 4 then ((mX10_isDigit p1).bind (fun r510 => if (xb r510) = 0 then (mX10_stepOf_b145 p1) else (if p0 = 4 then (some 5) else (mX10_stepOf_b145 p1)))) else (if p0 = 5 then ((mX10_isDigit p1).bind (fun r513 => if (xb r513) = 0 then (mX10_stepOf_b145 p1) else (if p0 = 4 then (some 5) else (mX10_stepOf_b145 p1)))) else (if p0 = 6 then ((mX10_isDigit p1).bind (fun r516 => if (xb r516) = 0 then (if p1 = 120 then (some 7) else (some ((-1)))) else (some 7))) else (if p0 = 7 then (if p1 = 59 then (some 0) else (some ((-1)))) else (if p0 = 8 then (if p1 = 42 then (if p0 = 0 then (some 1) else (mX10_stepOf_b66 p1)) else (mX10_stepOf_b66 p1)) else (if p1 = 59 then (some 0) else (some ((-1))))))))))))
set_option maxHeartbeats 4000000 in
set_option maxRecDepth 100000 in
theorem kX10_stepOf (l : Launch) (G : xG) (H0 : Heap) {p0 : Int32} {p1 : Int32} {out : Int32} (h : mX10_stepOf p0 p1 = some out) : Met l yX10_stepOf wsX10_stepOf ({ frames := 2, cells := 0, slots := 0, locals := 45 }) (xPc G H0 [.int p0, .int p1]) (xQi H0 (out)) 0 0 xN := by
  refine x_met (by decide) rfl (Nat.le_of_ble_eq_true rfl) ?_
  intro p e s m below meth c ls hH hA hl
  obtain ⟨hx, hb, hr, hlk, hml, hown, hts, hE⟩ := hA
  subst hH
  have hown : s.vm.findClass RX10 = some m.cls := hown
  have hl : lv_has ls 2 [(0, .int p0), (1, .int p1)] := hl
  have hS : va_S xN s.heap s.heap [] := va_S.rf
  have ho : out = out := rfl
  have J145 : ∀ (v1 : Int32) (ls : Array Slot), lv_has ls 2 [(1, .int v1)] → ∀ o : Int32, mX10_stepOf_b145  v1 = some o → (fun z => z = out) o → xW p l e ({ frames := 2, cells := 0, slots := 0, locals := 45 }) s m [.int p0, .int p1] below meth c (xQi s.heap (out)) (F0 m 145 ls []) := by
    intro v1 ls hl o h ho
    unfold mX10_stepOf_b145 at h
    refine lv_iload_n hx hb dX10_stepOf_145 rfl (lv_at hl 0 rfl) ?_
    refine lv_bipush (v := 38) hx hb dX10_stepOf_146 (by decide) ?_
    refine lv_icmp_ne (tgt := 156) hx hb dX10_stepOf_148 (by decide) (fun hc101 => ?_) (fun hc101 => ?_)
    · replace h := (if_neg hc101).symm.trans h
      refine lv_iload_n hx hb dX10_stepOf_156 rfl (lv_at hl 0 rfl) ?_
      refine lv_bipush (v := 58) hx hb dX10_stepOf_157 (by decide) ?_
      refine lv_icmp_ne (tgt := 167) hx hb dX10_stepOf_159 (by decide) (fun hc102 => ?_) (fun hc102 => ?_)
      · replace h := (if_neg hc102).symm.trans h
        refine lv_iconst (v := (-1)) hx hb dX10_stepOf_167 (by decide) ?_
        have hq : (-1) = out := by cases h; exact ho
        subst hq
        exact x_iret hx hb hr hlk rfl rfl dX10_stepOf_168
      · replace h := (if_pos hc102).symm.trans h
        refine lv_bipush (v := 6) hx hb dX10_stepOf_162 (by decide) ?_
        refine lv_goto (tgt := 168) hx hb dX10_stepOf_164 (by decide) ?_
        have hq : 6 = out := by cases h; exact ho
        subst hq
        exact x_iret hx hb hr hlk rfl rfl dX10_stepOf_168
    · replace h := (if_pos hc101).symm.trans h
      refine lv_bipush (v := 8) hx hb dX10_stepOf_151 (by decide) ?_
      refine lv_goto (tgt := 168) hx hb dX10_stepOf_153 (by decide) ?_
      have hq : 8 = out := by cases h; exact ho
      subst hq
      exact x_iret hx hb hr hlk rfl rfl dX10_stepOf_168
  have J66 : ∀ (v1 : Int32) (ls : Array Slot), lv_has ls 2 [(1, .int v1)] → ∀ o : Int32, mX10_stepOf_b66  v1 = some o → (fun z => z = out) o → xW p l e ({ frames := 2, cells := 0, slots := 0, locals := 45 }) s m [.int p0, .int p1] below meth c (xQi s.heap (out)) (F0 m 66 ls []) := by
    intro v1 ls hl o h ho
    unfold mX10_stepOf_b66 at h
    refine lv_iload_n hx hb dX10_stepOf_66 rfl (lv_at hl 0 rfl) ?_
    obtain ⟨r203, hr203, h⟩ := x_bind h
    refine x_calli (va_runS (As := [.int v1]) (rest := []) ⟨hx, hb, hml, hown, hts⟩ (kX10_lookOfLetter l G s.heap hr203) (va_cwS 1 hts gX10_stepOf_X10_lookOfLetter rfl rfl rfl (by decide +kernel) ⟨Nat.le_of_ble_eq_true rfl, Nat.le_of_ble_eq_true rfl⟩) (x_preS hE hS) rfl rfl hl.1 rfl (lv_room (Nat.le_of_ble_eq_true rfl)) dX10_stepOf_67 ⟨Nat.le_of_ble_eq_true rfl, Nat.le_of_ble_eq_true rfl⟩) ?_
    refine lv_if_lt (tgt := 77) hx hb dX10_stepOf_70 (by decide) (fun hc204 => ?_) (fun hc204 => ?_)
    · replace h := (if_pos hc204).symm.trans h
      refine lv_iconst (v := (-1)) hx hb dX10_stepOf_77 (by decide) ?_
      have hq : (-1) = out := by cases h; exact ho
      subst hq
      exact x_iret hx hb hr hlk rfl rfl dX10_stepOf_78
    · replace h := (if_neg hc204).symm.trans h
      refine lv_iconst (v := 2) hx hb dX10_stepOf_73 (by decide) ?_
      refine lv_goto (tgt := 78) hx hb dX10_stepOf_74 (by decide) ?_
      have hq : 2 = out := by cases h; exact ho
      subst hq
      exact x_iret hx hb hr hlk rfl rfl dX10_stepOf_78
  unfold mX10_stepOf at h
  refine lv_iload_n hx hb dX10_stepOf_0 rfl (lv_at hl 0 rfl) ?_
  by_cases hk501_0 : p0 = 0
  · replace h := (if_pos hk501_0).symm.trans h
    refine lv_tableIn (tgt := 52) hx hb dX10_stepOf_1 (by rw [hk501_0]; decide) (by rw [hk501_0]; decide) (by rw [hk501_0]; rfl) (by decide) ?_
    refine lv_iload_n hx hb dX10_stepOf_52 rfl (lv_at hl 1 rfl) ?_
    refine lv_bipush (v := 42) hx hb dX10_stepOf_53 (by decide) ?_
    refine lv_icmp_ne (tgt := 66) hx hb dX10_stepOf_55 (by decide) (fun hc502 => ?_) (fun hc502 => ?_)
    · replace h := (if_neg hc502).symm.trans h
      exact J66 p1 ls (lv_sub hl [1] rfl) _ h ho
    · replace h := (if_pos hc502).symm.trans h
      refine lv_iload_n hx hb dX10_stepOf_58 rfl (lv_at hl 0 rfl) ?_
      refine lv_if_ne (tgt := 66) hx hb dX10_stepOf_59 (by decide) (fun hc503 => ?_) (fun hc503 => ?_)
      · replace h := (if_neg hc503).symm.trans h
        exact J66 p1 ls (lv_sub hl [1] rfl) _ h ho
      · replace h := (if_pos hc503).symm.trans h
        refine lv_iconst (v := 1) hx hb dX10_stepOf_62 (by decide) ?_
        refine lv_goto (tgt := 78) hx hb dX10_stepOf_63 (by decide) ?_
        have hq : 1 = out := by cases h; exact ho
        subst hq
        exact x_iret hx hb hr hlk rfl rfl dX10_stepOf_78
  · replace h := (if_neg hk501_0).symm.trans h
    by_cases hk501_1 : p0 = 1
    · replace h := (if_pos hk501_1).symm.trans h
      refine lv_tableIn (tgt := 79) hx hb dX10_stepOf_1 (by rw [hk501_1]; decide) (by rw [hk501_1]; decide) (by rw [hk501_1]; rfl) (by decide) ?_
      refine lv_iload_n hx hb dX10_stepOf_79 rfl (lv_at hl 1 rfl) ?_
      refine lv_bipush (v := 58) hx hb dX10_stepOf_80 (by decide) ?_
      refine lv_icmp_ne (tgt := 90) hx hb dX10_stepOf_82 (by decide) (fun hc504 => ?_) (fun hc504 => ?_)
      · replace h := (if_neg hc504).symm.trans h
        refine lv_iconst (v := (-1)) hx hb dX10_stepOf_90 (by decide) ?_
        have hq : (-1) = out := by cases h; exact ho
        subst hq
        exact x_iret hx hb hr hlk rfl rfl dX10_stepOf_91
      · replace h := (if_pos hc504).symm.trans h
        refine lv_bipush (v := 6) hx hb dX10_stepOf_85 (by decide) ?_
        refine lv_goto (tgt := 91) hx hb dX10_stepOf_87 (by decide) ?_
        have hq : 6 = out := by cases h; exact ho
        subst hq
        exact x_iret hx hb hr hlk rfl rfl dX10_stepOf_91
    · replace h := (if_neg hk501_1).symm.trans h
      by_cases hk501_2 : p0 = 2
      · replace h := (if_pos hk501_2).symm.trans h
        refine lv_tableIn (tgt := 92) hx hb dX10_stepOf_1 (by rw [hk501_2]; decide) (by rw [hk501_2]; decide) (by rw [hk501_2]; rfl) (by decide) ?_
        refine lv_iload_n hx hb dX10_stepOf_92 rfl (lv_at hl 1 rfl) ?_
        refine lv_bipush (v := 60) hx hb dX10_stepOf_93 (by decide) ?_
        refine lv_icmp_eq (tgt := 110) hx hb dX10_stepOf_95 (by decide) (fun hc505 => ?_) (fun hc505 => ?_)
        · replace h := (if_pos hc505).symm.trans h
          refine lv_iconst (v := 3) hx hb dX10_stepOf_110 (by decide) ?_
          refine lv_goto (tgt := 115) hx hb dX10_stepOf_111 (by decide) ?_
          have hq : 3 = out := by cases h; exact ho
          subst hq
          exact x_iret hx hb hr hlk rfl rfl dX10_stepOf_115
        · replace h := (if_neg hc505).symm.trans h
          refine lv_iload_n hx hb dX10_stepOf_98 rfl (lv_at hl 1 rfl) ?_
          refine lv_bipush (v := 62) hx hb dX10_stepOf_99 (by decide) ?_
          refine lv_icmp_eq (tgt := 110) hx hb dX10_stepOf_101 (by decide) (fun hc506 => ?_) (fun hc506 => ?_)
          · replace h := (if_pos hc506).symm.trans h
            refine lv_iconst (v := 3) hx hb dX10_stepOf_110 (by decide) ?_
            refine lv_goto (tgt := 115) hx hb dX10_stepOf_111 (by decide) ?_
            have hq : 3 = out := by cases h; exact ho
            subst hq
            exact x_iret hx hb hr hlk rfl rfl dX10_stepOf_115
          · replace h := (if_neg hc506).symm.trans h
            refine lv_iload_n hx hb dX10_stepOf_104 rfl (lv_at hl 1 rfl) ?_
            refine lv_bipush (v := 61) hx hb dX10_stepOf_105 (by decide) ?_
            refine lv_icmp_ne (tgt := 114) hx hb dX10_stepOf_107 (by decide) (fun hc507 => ?_) (fun hc507 => ?_)
            · replace h := (if_neg hc507).symm.trans h
              refine lv_iconst (v := (-1)) hx hb dX10_stepOf_114 (by decide) ?_
              have hq : (-1) = out := by cases h; exact ho
              subst hq
              exact x_iret hx hb hr hlk rfl rfl dX10_stepOf_115
            · replace h := (if_pos hc507).symm.trans h
              refine lv_iconst (v := 3) hx hb dX10_stepOf_110 (by decide) ?_
              refine lv_goto (tgt := 115) hx hb dX10_stepOf_111 (by decide) ?_
              have hq : 3 = out := by cases h; exact ho
              subst hq
              exact x_iret hx hb hr hlk rfl rfl dX10_stepOf_115
      · replace h := (if_neg hk501_2).symm.trans h
        by_cases hk501_3 : p0 = 3
        · replace h := (if_pos hk501_3).symm.trans h
          refine lv_tableIn (tgt := 116) hx hb dX10_stepOf_1 (by rw [hk501_3]; decide) (by rw [hk501_3]; decide) (by rw [hk501_3]; rfl) (by decide) ?_
          refine lv_iload_n hx hb dX10_stepOf_116 rfl (lv_at hl 1 rfl) ?_
          obtain ⟨r508, hr508, h⟩ := x_bind h
          refine x_calli (va_runS (As := [.int p1]) (rest := []) ⟨hx, hb, hml, hown, hts⟩ (kX10_isDigit l G s.heap hr508) (va_cwS 1 hts gX10_stepOf_X10_isDigit rfl rfl rfl (by decide +kernel) ⟨Nat.le_of_ble_eq_true rfl, Nat.le_of_ble_eq_true rfl⟩) (x_preS hE hS) rfl rfl hl.1 rfl (lv_room (Nat.le_of_ble_eq_true rfl)) dX10_stepOf_117 ⟨Nat.le_of_ble_eq_true rfl, Nat.le_of_ble_eq_true rfl⟩) ?_
          refine lv_if_eq (tgt := 127) hx hb dX10_stepOf_120 (by decide) (fun hc509 => ?_) (fun hc509 => ?_)
          · replace h := (if_pos hc509).symm.trans h
            refine lv_iconst (v := (-1)) hx hb dX10_stepOf_127 (by decide) ?_
            have hq : (-1) = out := by cases h; exact ho
            subst hq
            exact x_iret hx hb hr hlk rfl rfl dX10_stepOf_128
          · replace h := (if_neg hc509).symm.trans h
            refine lv_iconst (v := 4) hx hb dX10_stepOf_123 (by decide) ?_
            refine lv_goto (tgt := 128) hx hb dX10_stepOf_124 (by decide) ?_
            have hq : 4 = out := by cases h; exact ho
            subst hq
            exact x_iret hx hb hr hlk rfl rfl dX10_stepOf_128
        · replace h := (if_neg hk501_3).symm.trans h
          by_cases hk501_4 : p0 = 4
          · replace h := (if_pos hk501_4).symm.trans h
            refine lv_tableIn (tgt := 129) hx hb dX10_stepOf_1 (by rw [hk501_4]; decide) (by rw [hk501_4]; decide) (by rw [hk501_4]; rfl) (by decide) ?_
            refine lv_iload_n hx hb dX10_stepOf_129 rfl (lv_at hl 1 rfl) ?_
            obtain ⟨r510, hr510, h⟩ := x_bind h
            refine x_calli (va_runS (As := [.int p1]) (rest := []) ⟨hx, hb, hml, hown, hts⟩ (kX10_isDigit l G s.heap hr510) (va_cwS 1 hts gX10_stepOf_X10_isDigit rfl rfl rfl (by decide +kernel) ⟨Nat.le_of_ble_eq_true rfl, Nat.le_of_ble_eq_true rfl⟩) (x_preS hE hS) rfl rfl hl.1 rfl (lv_room (Nat.le_of_ble_eq_true rfl)) dX10_stepOf_130 ⟨Nat.le_of_ble_eq_true rfl, Nat.le_of_ble_eq_true rfl⟩) ?_
            refine lv_if_eq (tgt := 145) hx hb dX10_stepOf_133 (by decide) (fun hc511 => ?_) (fun hc511 => ?_)
            · replace h := (if_pos hc511).symm.trans h
              exact J145 p1 ls (lv_sub hl [1] rfl) _ h ho
            · replace h := (if_neg hc511).symm.trans h
              refine lv_iload_n hx hb dX10_stepOf_136 rfl (lv_at hl 0 rfl) ?_
              refine lv_iconst (v := 4) hx hb dX10_stepOf_137 (by decide) ?_
              refine lv_icmp_ne (tgt := 145) hx hb dX10_stepOf_138 (by decide) (fun hc512 => ?_) (fun hc512 => ?_)
              · replace h := (if_neg hc512).symm.trans h
                exact J145 p1 ls (lv_sub hl [1] rfl) _ h ho
              · replace h := (if_pos hc512).symm.trans h
                refine lv_iconst (v := 5) hx hb dX10_stepOf_141 (by decide) ?_
                refine lv_goto (tgt := 168) hx hb dX10_stepOf_142 (by decide) ?_
                have hq : 5 = out := by cases h; exact ho
                subst hq
                exact x_iret hx hb hr hlk rfl rfl dX10_stepOf_168
          · replace h := (if_neg hk501_4).symm.trans h
            by_cases hk501_5 : p0 = 5
            · replace h := (if_pos hk501_5).symm.trans h
              refine lv_tableIn (tgt := 129) hx hb dX10_stepOf_1 (by rw [hk501_5]; decide) (by rw [hk501_5]; decide) (by rw [hk501_5]; rfl) (by decide) ?_
              refine lv_iload_n hx hb dX10_stepOf_129 rfl (lv_at hl 1 rfl) ?_
              obtain ⟨r513, hr513, h⟩ := x_bind h
              refine x_calli (va_runS (As := [.int p1]) (rest := []) ⟨hx, hb, hml, hown, hts⟩ (kX10_isDigit l G s.heap hr513) (va_cwS 1 hts gX10_stepOf_X10_isDigit rfl rfl rfl (by decide +kernel) ⟨Nat.le_of_ble_eq_true rfl, Nat.le_of_ble_eq_true rfl⟩) (x_preS hE hS) rfl rfl hl.1 rfl (lv_room (Nat.le_of_ble_eq_true rfl)) dX10_stepOf_130 ⟨Nat.le_of_ble_eq_true rfl, Nat.le_of_ble_eq_true rfl⟩) ?_
              refine lv_if_eq (tgt := 145) hx hb dX10_stepOf_133 (by decide) (fun hc514 => ?_) (fun hc514 => ?_)
              · replace h := (if_pos hc514).symm.trans h
                exact J145 p1 ls (lv_sub hl [1] rfl) _ h ho
              · replace h := (if_neg hc514).symm.trans h
                refine lv_iload_n hx hb dX10_stepOf_136 rfl (lv_at hl 0 rfl) ?_
                refine lv_iconst (v := 4) hx hb dX10_stepOf_137 (by decide) ?_
                refine lv_icmp_ne (tgt := 145) hx hb dX10_stepOf_138 (by decide) (fun hc515 => ?_) (fun hc515 => ?_)
                · replace h := (if_neg hc515).symm.trans h
                  exact J145 p1 ls (lv_sub hl [1] rfl) _ h ho
                · replace h := (if_pos hc515).symm.trans h
                  refine lv_iconst (v := 5) hx hb dX10_stepOf_141 (by decide) ?_
                  refine lv_goto (tgt := 168) hx hb dX10_stepOf_142 (by decide) ?_
                  have hq : 5 = out := by cases h; exact ho
                  subst hq
                  exact x_iret hx hb hr hlk rfl rfl dX10_stepOf_168
            · replace h := (if_neg hk501_5).symm.trans h
              by_cases hk501_6 : p0 = 6
              · replace h := (if_pos hk501_6).symm.trans h
                refine lv_tableIn (tgt := 169) hx hb dX10_stepOf_1 (by rw [hk501_6]; decide) (by rw [hk501_6]; decide) (by rw [hk501_6]; rfl) (by decide) ?_
                refine lv_iload_n hx hb dX10_stepOf_169 rfl (lv_at hl 1 rfl) ?_
                obtain ⟨r516, hr516, h⟩ := x_bind h
                refine x_calli (va_runS (As := [.int p1]) (rest := []) ⟨hx, hb, hml, hown, hts⟩ (kX10_isDigit l G s.heap hr516) (va_cwS 1 hts gX10_stepOf_X10_isDigit rfl rfl rfl (by decide +kernel) ⟨Nat.le_of_ble_eq_true rfl, Nat.le_of_ble_eq_true rfl⟩) (x_preS hE hS) rfl rfl hl.1 rfl (lv_room (Nat.le_of_ble_eq_true rfl)) dX10_stepOf_170 ⟨Nat.le_of_ble_eq_true rfl, Nat.le_of_ble_eq_true rfl⟩) ?_
                refine lv_if_ne (tgt := 182) hx hb dX10_stepOf_173 (by decide) (fun hc517 => ?_) (fun hc517 => ?_)
                · replace h := (if_neg hc517).symm.trans h
                  refine lv_bipush (v := 7) hx hb dX10_stepOf_182 (by decide) ?_
                  refine lv_goto (tgt := 188) hx hb dX10_stepOf_184 (by decide) ?_
                  have hq : 7 = out := by cases h; exact ho
                  subst hq
                  exact x_iret hx hb hr hlk rfl rfl dX10_stepOf_188
                · replace h := (if_pos hc517).symm.trans h
                  refine lv_iload_n hx hb dX10_stepOf_176 rfl (lv_at hl 1 rfl) ?_
                  refine lv_bipush (v := 120) hx hb dX10_stepOf_177 (by decide) ?_
                  refine lv_icmp_ne (tgt := 187) hx hb dX10_stepOf_179 (by decide) (fun hc518 => ?_) (fun hc518 => ?_)
                  · replace h := (if_neg hc518).symm.trans h
                    refine lv_iconst (v := (-1)) hx hb dX10_stepOf_187 (by decide) ?_
                    have hq : (-1) = out := by cases h; exact ho
                    subst hq
                    exact x_iret hx hb hr hlk rfl rfl dX10_stepOf_188
                  · replace h := (if_pos hc518).symm.trans h
                    refine lv_bipush (v := 7) hx hb dX10_stepOf_182 (by decide) ?_
                    refine lv_goto (tgt := 188) hx hb dX10_stepOf_184 (by decide) ?_
                    have hq : 7 = out := by cases h; exact ho
                    subst hq
                    exact x_iret hx hb hr hlk rfl rfl dX10_stepOf_188
              · replace h := (if_neg hk501_6).symm.trans h
                by_cases hk501_7 : p0 = 7
                · replace h := (if_pos hk501_7).symm.trans h
                  refine lv_tableIn (tgt := 189) hx hb dX10_stepOf_1 (by rw [hk501_7]; decide) (by rw [hk501_7]; decide) (by rw [hk501_7]; rfl) (by decide) ?_
                  refine lv_iload_n hx hb dX10_stepOf_189 rfl (lv_at hl 1 rfl) ?_
                  refine lv_bipush (v := 59) hx hb dX10_stepOf_190 (by decide) ?_
                  refine lv_icmp_ne (tgt := 199) hx hb dX10_stepOf_192 (by decide) (fun hc519 => ?_) (fun hc519 => ?_)
                  · replace h := (if_neg hc519).symm.trans h
                    refine lv_iconst (v := (-1)) hx hb dX10_stepOf_199 (by decide) ?_
                    have hq : (-1) = out := by cases h; exact ho
                    subst hq
                    exact x_iret hx hb hr hlk rfl rfl dX10_stepOf_200
                  · replace h := (if_pos hc519).symm.trans h
                    refine lv_iconst (v := 0) hx hb dX10_stepOf_195 (by decide) ?_
                    refine lv_goto (tgt := 200) hx hb dX10_stepOf_196 (by decide) ?_
                    have hq : 0 = out := by cases h; exact ho
                    subst hq
                    exact x_iret hx hb hr hlk rfl rfl dX10_stepOf_200
                · replace h := (if_neg hk501_7).symm.trans h
                  by_cases hk501_8 : p0 = 8
                  · replace h := (if_pos hk501_8).symm.trans h
                    refine lv_tableIn (tgt := 52) hx hb dX10_stepOf_1 (by rw [hk501_8]; decide) (by rw [hk501_8]; decide) (by rw [hk501_8]; rfl) (by decide) ?_
                    refine lv_iload_n hx hb dX10_stepOf_52 rfl (lv_at hl 1 rfl) ?_
                    refine lv_bipush (v := 42) hx hb dX10_stepOf_53 (by decide) ?_
                    refine lv_icmp_ne (tgt := 66) hx hb dX10_stepOf_55 (by decide) (fun hc520 => ?_) (fun hc520 => ?_)
                    · replace h := (if_neg hc520).symm.trans h
                      exact J66 p1 ls (lv_sub hl [1] rfl) _ h ho
                    · replace h := (if_pos hc520).symm.trans h
                      refine lv_iload_n hx hb dX10_stepOf_58 rfl (lv_at hl 0 rfl) ?_
                      refine lv_if_ne (tgt := 66) hx hb dX10_stepOf_59 (by decide) (fun hc521 => ?_) (fun hc521 => ?_)
                      · replace h := (if_neg hc521).symm.trans h
                        exact J66 p1 ls (lv_sub hl [1] rfl) _ h ho
                      · replace h := (if_pos hc521).symm.trans h
                        refine lv_iconst (v := 1) hx hb dX10_stepOf_62 (by decide) ?_
                        refine lv_goto (tgt := 78) hx hb dX10_stepOf_63 (by decide) ?_
                        have hq : 1 = out := by cases h; exact ho
                        subst hq
                        exact x_iret hx hb hr hlk rfl rfl dX10_stepOf_78
                  · replace h := (if_neg hk501_8).symm.trans h
                    refine lv_tableOut (tgt := 189) hx hb dX10_stepOf_1 (by have z0 : (0 : Int) ≤ p0.toInt ∨ p0.toInt < 0 := (by omega); have z1 : (1 : Int) ≤ p0.toInt ∨ p0.toInt < 0 := x_step rfl z0 (lv_neT hk501_0 (a := 0) (by decide)); have z2 : (2 : Int) ≤ p0.toInt ∨ p0.toInt < 0 := x_step rfl z1 (lv_neT hk501_1 (a := 1) (by decide)); have z3 : (3 : Int) ≤ p0.toInt ∨ p0.toInt < 0 := x_step rfl z2 (lv_neT hk501_2 (a := 2) (by decide)); have z4 : (4 : Int) ≤ p0.toInt ∨ p0.toInt < 0 := x_step rfl z3 (lv_neT hk501_3 (a := 3) (by decide)); have z5 : (5 : Int) ≤ p0.toInt ∨ p0.toInt < 0 := x_step rfl z4 (lv_neT hk501_4 (a := 4) (by decide)); have z6 : (6 : Int) ≤ p0.toInt ∨ p0.toInt < 0 := x_step rfl z5 (lv_neT hk501_5 (a := 5) (by decide)); have z7 : (7 : Int) ≤ p0.toInt ∨ p0.toInt < 0 := x_step rfl z6 (lv_neT hk501_6 (a := 6) (by decide)); have z8 : (8 : Int) ≤ p0.toInt ∨ p0.toInt < 0 := x_step rfl z7 (lv_neT hk501_7 (a := 7) (by decide)); have z9 : (9 : Int) ≤ p0.toInt ∨ p0.toInt < 0 := x_step rfl z8 (lv_neT hk501_8 (a := 8) (by decide)); omega) (by decide) ?_
                    refine lv_iload_n hx hb dX10_stepOf_189 rfl (lv_at hl 1 rfl) ?_
                    refine lv_bipush (v := 59) hx hb dX10_stepOf_190 (by decide) ?_
                    refine lv_icmp_ne (tgt := 199) hx hb dX10_stepOf_192 (by decide) (fun hc522 => ?_) (fun hc522 => ?_)
                    · replace h := (if_neg hc522).symm.trans h
                      refine lv_iconst (v := (-1)) hx hb dX10_stepOf_199 (by decide) ?_
                      have hq : (-1) = out := by cases h; exact ho
                      subst hq
                      exact x_iret hx hb hr hlk rfl rfl dX10_stepOf_200
                    · replace h := (if_pos hc522).symm.trans h
                      refine lv_iconst (v := 0) hx hb dX10_stepOf_195 (by decide) ?_
                      refine lv_goto (tgt := 200) hx hb dX10_stepOf_196 (by decide) ?_
                      have hq : 0 = out := by cases h; exact ho
                      subst hq
                      exact x_iret hx hb hr hlk rfl rfl dX10_stepOf_200
noncomputable def mX10_fault_s4 (signMany : Int32) (signs : Nat → Int32)  (v1 : Int32) (v2 : Int32) : Option (((Int32) ⊕ (Int32 × Int32))) :=
  if signMany ≤ v2 then (if v1 = 7 then (some (.inl ((-6)))) else (some (.inl signMany))) else (x_need (x_in v2 50) ((mX10_stepOf v1 ((signs (Int32.toNatClampNeg v2)))).bind (fun r104 => if 0 ≤ r104 then (some (.inr (r104, (v2 + 1)))) else (some (.inl v2)))))
noncomputable def mX10_fault_b4 (signMany : Int32) (signs : Nat → Int32) (v1 : Int32) (v2 : Int32) : Option (Int32) :=
  x_loop (fun q : Int32 × Int32 => mX10_fault_s4 signMany signs (q.1) (q.2)) (v1, v2)
noncomputable def mX10_fault (signMany : Int32) (signs : Nat → Int32)  : Option (Int32) :=
  mX10_fault_b4 signMany signs 0 0
set_option maxHeartbeats 4000000 in
set_option maxRecDepth 100000 in
theorem kX10_fault (l : Launch) (G : xG) (H0 : Heap) {q_this q_years q_months q_presses q_winds q_skies q_rains q_wires q_signs q_cases q_caseFrom q_caseTells q_testAsks q_testHow q_testNumber q_glassX q_glassY q_glassPress q_glassWind q_dry q_value q_doing q_kept q_isKept : Nat} {mind : Int32} {needle : Int32} {stick : Int32} {days : Int32} {signMany : Int32} {keys : Int32} {weight : Int32} {care : Int32} {scoreSum : Int64} {scoreDays : Int64} {triedSpoken : Int32} {triedRain : Int32} {triedTaken : Int32} {triedBoth : Int32} {glasses : Int32} {keptAt : Int32} {isWriting : Int32} {signs : Nat → Int32} (hP : va_P (xD G) vwCl [(q_this, .inr (10, [.int mind, .int needle, .int stick, .ref q_years, .ref q_months, .ref q_presses, .ref q_winds, .ref q_skies, .ref q_rains, .ref q_wires, .int days, .ref q_signs, .int signMany, .ref q_cases, .ref q_caseFrom, .ref q_caseTells, .ref q_testAsks, .ref q_testHow, .ref q_testNumber, .int keys, .int weight, .int care, .long scoreSum, .long scoreDays, .int triedSpoken, .int triedRain, .int triedTaken, .int triedBoth, .ref q_glassX, .ref q_glassY, .ref q_glassPress, .ref q_glassWind, .int glasses, .ref q_dry, .ref q_value, .ref q_doing, .ref q_kept, .ref q_isKept, .int keptAt, .int isWriting])), (q_signs, .inl (xy G 0, 50, .inl signs))] H0) {out : Int32} (h : mX10_fault signMany signs = some out) : Met l yX10_fault wsX10_fault ({ frames := 3, cells := 0, slots := 0, locals := 66 }) (xPc G H0 [.ref q_this]) (xQi H0 (out)) 0 0 xN := by
  refine x_met (by decide) rfl (Nat.le_of_ble_eq_true rfl) ?_
  intro p e s m below meth c ls hH hA hl
  obtain ⟨hx, hb, hr, hlk, hml, hown, hts, hE⟩ := hA
  subst hH
  have hown : s.vm.findClass RX10 = some m.cls := hown
  have hl : lv_has ls 3 [(0, .ref q_this)] := hl
  have hS : va_S xN s.heap s.heap [] := va_S.rf
  have ho : out = out := rfl
  have J4 : ∀ (v1 : Int32) (v2 : Int32) (ls : Array Slot), lv_has ls 3 [(0, .ref q_this), (1, .int v1), (2, .int v2)] → ∀ o : Int32, mX10_fault_b4 signMany signs v1 v2 = some o → (fun z => z = out) o → xW p l e ({ frames := 3, cells := 0, slots := 0, locals := 66 }) s m [.ref q_this] below meth c (xQi s.heap (out)) (F0 m 4 ls []) := by
    intro v1 v2 ls hl o h ho
    unfold mX10_fault_b4 at h
    refine x_loop_walk (K := (fun z => z = out)) (motive := fun q : Int32 × Int32 => ∀ ls : Array Slot, lv_has ls 3 [(0, .ref q_this), (1, .int (q.1)), (2, .int (q.2))] → xW p l e ({ frames := 3, cells := 0, slots := 0, locals := 66 }) s m [.ref q_this] below meth c (xQi s.heap (out)) (F0 m 4 ls [])) ?_ h ho ls hl
    intro K1 e1 i1 q o h ho
    obtain ⟨v1, v2⟩ := q
    intro ls hl
    have hl : lv_has ls 3 [(0, .ref q_this), (1, .int v1), (2, .int v2)] := hl
    replace h : mX10_fault_s4 signMany signs v1 v2 = some o := h
    unfold mX10_fault_s4 at h
    refine lv_iload_n hx hb dX10_fault_4 rfl (lv_at hl 2 rfl) ?_
    refine lv_aload_n hx hb dX10_fault_5 rfl (lv_at hl 0 rfl) ?_
    refine va_get (D := xD G) (ci := 10) (v := .int signMany) (C := RX10) (T := TX10) (N := 40) hx hb hts (fun w9 h9 => (List.mem_cons_of_mem _ (List.mem_append_right _ h9))) hown hE.1 hP 0 rfl rfl 12 (by decide) (hts (.fieldLink RX10 141 "FallingGlassModel" "signMany" "I") (List.mem_of_getElem? (i := 1) rfl)) (fun _ h9 => h9) rfl dX10_fault_6 ?_
    refine lv_icmp_ge (tgt := 35) hx hb dX10_fault_9 (by decide) (fun hc101 => ?_) (fun hc101 => ?_)
    · replace h := (if_pos hc101).symm.trans h
      refine lv_iload_n hx hb dX10_fault_35 rfl (lv_at hl 1 rfl) ?_
      refine lv_bipush (v := 7) hx hb dX10_fault_36 (by decide) ?_
      refine lv_icmp_ne (tgt := 46) hx hb dX10_fault_38 (by decide) (fun hc102 => ?_) (fun hc102 => ?_)
      · replace h := (if_neg hc102).symm.trans h
        refine lv_aload_n hx hb dX10_fault_46 rfl (lv_at hl 0 rfl) ?_
        refine va_get (D := xD G) (ci := 10) (v := .int signMany) (C := RX10) (T := TX10) (N := 40) hx hb hts (fun w9 h9 => (List.mem_cons_of_mem _ (List.mem_append_right _ h9))) hown hE.1 hP 0 rfl rfl 12 (by decide) (hts (.fieldLink RX10 141 "FallingGlassModel" "signMany" "I") (List.mem_of_getElem? (i := 1) rfl)) (fun _ h9 => h9) rfl dX10_fault_47 ?_
        have hq : signMany = out := by cases h; exact (e1 _ ho)
        subst hq
        exact x_iret hx hb hr hlk rfl rfl dX10_fault_50
      · replace h := (if_pos hc102).symm.trans h
        refine lv_bipush (v := (-6)) hx hb dX10_fault_41 (by decide) ?_
        refine lv_goto (tgt := 50) hx hb dX10_fault_43 (by decide) ?_
        have hq : (-6) = out := by cases h; exact (e1 _ ho)
        subst hq
        exact x_iret hx hb hr hlk rfl rfl dX10_fault_50
    · replace h := (if_neg hc101).symm.trans h
      refine lv_iload_n hx hb dX10_fault_12 rfl (lv_at hl 1 rfl) ?_
      refine lv_aload_n hx hb dX10_fault_13 rfl (lv_at hl 0 rfl) ?_
      refine va_get (D := xD G) (ci := 10) (v := .ref q_signs) (C := RX10) (T := TX10) (N := 40) hx hb hts (fun w9 h9 => (List.mem_cons_of_mem _ (List.mem_append_right _ h9))) hown hE.1 hP 0 rfl rfl 11 (by decide) (hts (.fieldLink RX10 31 "FallingGlassModel" "signs" "[I") (List.mem_of_getElem? (i := 2) rfl)) (fun _ h9 => h9) rfl dX10_fault_14 ?_
      refine lv_iload_n hx hb dX10_fault_17 rfl (lv_at hl 2 rfl) ?_
      obtain ⟨hi103, h⟩ := x_needs h
      refine va_iald (D := xD G) hx hb hE.1 hP 1 0 rfl rfl hi103 dX10_fault_18 ?_
      obtain ⟨r104, hr104, h⟩ := x_bind h
      refine x_calli (va_runS (As := [.int v1, .int (signs (Int32.toNatClampNeg v2))]) (rest := []) ⟨hx, hb, hml, hown, hts⟩ (kX10_stepOf l G s.heap hr104) (va_cwS 2 hts gX10_fault_X10_stepOf rfl rfl rfl (by decide +kernel) ⟨Nat.le_of_ble_eq_true rfl, Nat.le_of_ble_eq_true rfl⟩) (x_preS hE hS) rfl rfl hl.1 rfl (lv_room (Nat.le_of_ble_eq_true rfl)) dX10_fault_19 ⟨Nat.le_of_ble_eq_true rfl, Nat.le_of_ble_eq_true rfl⟩) ?_
      refine lv_istore_n (lv' := [(1, .int r104), (0, .ref q_this), (2, .int v2)]) hx hb dX10_fault_22 rfl hl (by decide) rfl (fun ls hl => ?_)
      refine lv_iload_n hx hb dX10_fault_23 rfl (lv_at hl 0 rfl) ?_
      refine lv_if_ge (tgt := 29) hx hb dX10_fault_24 (by decide) (fun hc105 => ?_) (fun hc105 => ?_)
      · replace h := (if_pos hc105).symm.trans h
        refine lv_iinc (v := (v2 + 1)) (lv' := [(2, .int (v2 + 1)), (1, .int r104), (0, .ref q_this)]) hx hb dX10_fault_29 hl (k := 2) rfl rfl (by decide) rfl (fun ls hl => ?_)
        refine lv_goto (tgt := 4) hx hb dX10_fault_32 (by decide) ?_
        exact i1 (r104, (v2 + 1)) (by cases h; exact ho) ls (lv_sub hl [2, 1, 0] rfl)
      · replace h := (if_neg hc105).symm.trans h
        refine lv_iload_n hx hb dX10_fault_27 rfl (lv_at hl 2 rfl) ?_
        have hq : v2 = out := by cases h; exact (e1 _ ho)
        subst hq
        exact x_iret hx hb hr hlk rfl rfl dX10_fault_28
  unfold mX10_fault at h
  refine lv_iconst (v := 0) hx hb dX10_fault_0 (by decide) ?_
  refine lv_istore_n (lv' := [(1, .int 0), (0, .ref q_this)]) hx hb dX10_fault_1 rfl hl (by decide) rfl (fun ls hl => ?_)
  refine lv_iconst (v := 0) hx hb dX10_fault_2 (by decide) ?_
  refine lv_istore_n (lv' := [(2, .int 0), (1, .int 0), (0, .ref q_this)]) hx hb dX10_fault_3 rfl hl (by decide) rfl (fun ls hl => ?_)
  exact J4 0 0 ls (lv_sub hl [2, 1, 0] rfl) _ h ho
noncomputable def mX10_holds (years : Nat → Int32) (months : Nat → Int32) (presses : Nat → Int32) (winds : Nat → Int32) (skies : Nat → Int32) (rains : Nat → Int32) (testAsks : Nat → Int32) (testHow : Nat → Int32) (testNumber : Nat → Int32) (p0 : Int32) (p1 : Int32) : Option (Bool) :=
  x_need (x_in p0 56) ((mX10_lookOf years months presses winds skies rains p1 ((testAsks (Int32.toNatClampNeg p0)))).bind (fun r502 => x_need (x_in p0 56) (x_need (x_in p0 56) (if r502 = (-6) then (some false) else (if (testHow (Int32.toNatClampNeg p0)) = 60 then (if (testNumber (Int32.toNatClampNeg p0)) ≤ r502 then (some false) else (some true)) else (if (testHow (Int32.toNatClampNeg p0)) = 62 then (if r502 ≤ (testNumber (Int32.toNatClampNeg p0)) then (some false) else (some true)) else (if r502 = (testNumber (Int32.toNatClampNeg p0)) then (some true) else (some false))))))))
set_option maxHeartbeats 4000000 in
set_option maxRecDepth 100000 in
theorem kX10_holds (l : Launch) (G : xG) (H0 : Heap) {q_this q_years q_months q_presses q_winds q_skies q_rains q_wires q_signs q_cases q_caseFrom q_caseTells q_testAsks q_testHow q_testNumber q_glassX q_glassY q_glassPress q_glassWind q_dry q_value q_doing q_kept q_isKept : Nat} {mind : Int32} {needle : Int32} {stick : Int32} {days : Int32} {signMany : Int32} {keys : Int32} {weight : Int32} {care : Int32} {scoreSum : Int64} {scoreDays : Int64} {triedSpoken : Int32} {triedRain : Int32} {triedTaken : Int32} {triedBoth : Int32} {glasses : Int32} {keptAt : Int32} {isWriting : Int32} {years : Nat → Int32} {months : Nat → Int32} {presses : Nat → Int32} {winds : Nat → Int32} {skies : Nat → Int32} {rains : Nat → Int32} {testAsks : Nat → Int32} {testHow : Nat → Int32} {testNumber : Nat → Int32} {p0 : Int32} {p1 : Int32} (hP : va_P (xD G) vwCl [(q_this, .inr (10, [.int mind, .int needle, .int stick, .ref q_years, .ref q_months, .ref q_presses, .ref q_winds, .ref q_skies, .ref q_rains, .ref q_wires, .int days, .ref q_signs, .int signMany, .ref q_cases, .ref q_caseFrom, .ref q_caseTells, .ref q_testAsks, .ref q_testHow, .ref q_testNumber, .int keys, .int weight, .int care, .long scoreSum, .long scoreDays, .int triedSpoken, .int triedRain, .int triedTaken, .int triedBoth, .ref q_glassX, .ref q_glassY, .ref q_glassPress, .ref q_glassWind, .int glasses, .ref q_dry, .ref q_value, .ref q_doing, .ref q_kept, .ref q_isKept, .int keptAt, .int isWriting])), (q_years, .inl (xy G 0, 60, .inl years)), (q_months, .inl (xy G 0, 60, .inl months)), (q_presses, .inl (xy G 0, 60, .inl presses)), (q_winds, .inl (xy G 0, 60, .inl winds)), (q_skies, .inl (xy G 0, 60, .inl skies)), (q_rains, .inl (xy G 0, 60, .inl rains)), (q_testAsks, .inl (xy G 0, 56, .inl testAsks)), (q_testHow, .inl (xy G 0, 56, .inl testHow)), (q_testNumber, .inl (xy G 0, 56, .inl testNumber))] H0) {out : Bool} (h : mX10_holds years months presses winds skies rains testAsks testHow testNumber p0 p1 = some out) : Met l yX10_holds wsX10_holds ({ frames := 2, cells := 0, slots := 0, locals := 43 }) (xPc G H0 [.ref q_this, .int p0, .int p1]) (xQi H0 (xb out)) 0 0 xN := by
  refine x_met (by decide) rfl (Nat.le_of_ble_eq_true rfl) ?_
  intro p e s m below meth c ls hH hA hl
  obtain ⟨hx, hb, hr, hlk, hml, hown, hts, hE⟩ := hA
  subst hH
  have hown : s.vm.findClass RX10 = some m.cls := hown
  have hl : lv_has ls 6 [(0, .ref q_this), (1, .int p0), (2, .int p1)] := hl
  have hS : va_S xN s.heap s.heap [] := va_S.rf
  have ho : out = out := rfl
  unfold mX10_holds at h
  refine lv_aload_n hx hb dX10_holds_0 rfl (lv_at hl 0 rfl) ?_
  refine lv_iload_n hx hb dX10_holds_1 rfl (lv_at hl 2 rfl) ?_
  refine lv_aload_n hx hb dX10_holds_2 rfl (lv_at hl 0 rfl) ?_
  refine va_get (D := xD G) (ci := 10) (v := .ref q_testAsks) (C := RX10) (T := TX10) (N := 40) hx hb hts (fun w9 h9 => (List.mem_cons_of_mem _ (List.mem_append_right _ h9))) hown hE.1 hP 0 rfl rfl 16 (by decide) (hts (.fieldLink RX10 43 "FallingGlassModel" "testAsks" "[I") (List.mem_of_getElem? (i := 1) rfl)) (fun _ h9 => h9) rfl dX10_holds_3 ?_
  refine lv_iload_n hx hb dX10_holds_6 rfl (lv_at hl 1 rfl) ?_
  obtain ⟨hi501, h⟩ := x_needs h
  refine va_iald (D := xD G) hx hb hE.1 hP 7 0 rfl rfl hi501 dX10_holds_7 ?_
  obtain ⟨r502, hr502, h⟩ := x_bind h
  have hPr502 : va_P (xD G) vwCl [(q_this, .inr (10, [.int mind, .int needle, .int stick, .ref q_years, .ref q_months, .ref q_presses, .ref q_winds, .ref q_skies, .ref q_rains, .ref q_wires, .int days, .ref q_signs, .int signMany, .ref q_cases, .ref q_caseFrom, .ref q_caseTells, .ref q_testAsks, .ref q_testHow, .ref q_testNumber, .int keys, .int weight, .int care, .long scoreSum, .long scoreDays, .int triedSpoken, .int triedRain, .int triedTaken, .int triedBoth, .ref q_glassX, .ref q_glassY, .ref q_glassPress, .ref q_glassWind, .int glasses, .ref q_dry, .ref q_value, .ref q_doing, .ref q_kept, .ref q_isKept, .int keptAt, .int isWriting])), (q_years, .inl (xy G 0, 60, .inl years)), (q_months, .inl (xy G 0, 60, .inl months)), (q_presses, .inl (xy G 0, 60, .inl presses)), (q_winds, .inl (xy G 0, 60, .inl winds)), (q_skies, .inl (xy G 0, 60, .inl skies)), (q_rains, .inl (xy G 0, 60, .inl rains))] s.heap := hP.sub [0, 1, 2, 3, 4, 5, 6] rfl
  refine x_calli (va_runV (As := [.int p1, .int (testAsks (Int32.toNatClampNeg p0))]) (rest := []) ⟨hx, hb, hml, hown, hts⟩ (kX10_lookOf l G s.heap hPr502 hr502) (cwV 2 hts gX10_holds_X10_lookOf rfl rfl rfl (by decide +kernel) ⟨Nat.le_of_ble_eq_true rfl, Nat.le_of_ble_eq_true rfl⟩) (x_preV hE hS hP (ci := 10) (q0 := 0) rfl rfl) rfl rfl hl.1 rfl (lv_room (Nat.le_of_ble_eq_true rfl)) dX10_holds_8 ⟨Nat.le_of_ble_eq_true rfl, Nat.le_of_ble_eq_true rfl⟩) ?_
  refine lv_istore_n (lv' := [(3, .int r502), (0, .ref q_this), (1, .int p0), (2, .int p1)]) hx hb dX10_holds_11 rfl hl (by decide) rfl (fun ls hl => ?_)
  refine lv_aload_n hx hb dX10_holds_12 rfl (lv_at hl 1 rfl) ?_
  refine va_get (D := xD G) (ci := 10) (v := .ref q_testHow) (C := RX10) (T := TX10) (N := 40) hx hb hts (fun w9 h9 => (List.mem_cons_of_mem _ (List.mem_append_right _ h9))) hown hE.1 hP 0 rfl rfl 17 (by decide) (hts (.fieldLink RX10 46 "FallingGlassModel" "testHow" "[I") (List.mem_of_getElem? (i := 2) rfl)) (fun _ h9 => h9) rfl dX10_holds_13 ?_
  refine lv_iload_n hx hb dX10_holds_16 rfl (lv_at hl 2 rfl) ?_
  obtain ⟨hi503, h⟩ := x_needs h
  refine va_iald (D := xD G) hx hb hE.1 hP 8 0 rfl rfl hi503 dX10_holds_17 ?_
  refine lv_istore (lv' := [(4, .int (testHow (Int32.toNatClampNeg p0))), (3, .int r502), (0, .ref q_this), (1, .int p0), (2, .int p1)]) hx hb dX10_holds_18 hl (by decide) rfl (fun ls hl => ?_)
  refine lv_aload_n hx hb dX10_holds_20 rfl (lv_at hl 2 rfl) ?_
  refine va_get (D := xD G) (ci := 10) (v := .ref q_testNumber) (C := RX10) (T := TX10) (N := 40) hx hb hts (fun w9 h9 => (List.mem_cons_of_mem _ (List.mem_append_right _ h9))) hown hE.1 hP 0 rfl rfl 18 (by decide) (hts (.fieldLink RX10 49 "FallingGlassModel" "testNumber" "[I") (List.mem_of_getElem? (i := 3) rfl)) (fun _ h9 => h9) rfl dX10_holds_21 ?_
  refine lv_iload_n hx hb dX10_holds_24 rfl (lv_at hl 3 rfl) ?_
  obtain ⟨hi504, h⟩ := x_needs h
  refine va_iald (D := xD G) hx hb hE.1 hP 9 0 rfl rfl hi504 dX10_holds_25 ?_
  refine lv_istore (lv' := [(5, .int (testNumber (Int32.toNatClampNeg p0))), (4, .int (testHow (Int32.toNatClampNeg p0))), (3, .int r502), (0, .ref q_this), (1, .int p0), (2, .int p1)]) hx hb dX10_holds_26 hl (by decide) rfl (fun ls hl => ?_)
  refine lv_iload_n hx hb dX10_holds_28 rfl (lv_at hl 2 rfl) ?_
  refine lv_bipush (v := (-6)) hx hb dX10_holds_29 (by decide) ?_
  refine lv_icmp_eq (tgt := 76) hx hb dX10_holds_31 (by decide) (fun hc505 => ?_) (fun hc505 => ?_)
  · replace h := (if_pos hc505).symm.trans h
    refine lv_iconst (v := 0) hx hb dX10_holds_76 (by decide) ?_
    have hq : false = out := by cases h; exact ho
    subst hq
    exact x_zret (b := false) hx hb hr hlk rfl rfl rfl dX10_holds_77
  · replace h := (if_neg hc505).symm.trans h
    refine lv_iload hx hb dX10_holds_34 (lv_at hl 1 rfl) ?_
    refine lv_bipush (v := 60) hx hb dX10_holds_36 (by decide) ?_
    refine lv_icmp_ne (tgt := 50) hx hb dX10_holds_38 (by decide) (fun hc506 => ?_) (fun hc506 => ?_)
    · replace h := (if_neg hc506).symm.trans h
      refine lv_iload hx hb dX10_holds_50 (lv_at hl 1 rfl) ?_
      refine lv_bipush (v := 62) hx hb dX10_holds_52 (by decide) ?_
      refine lv_icmp_ne (tgt := 66) hx hb dX10_holds_54 (by decide) (fun hc507 => ?_) (fun hc507 => ?_)
      · replace h := (if_neg hc507).symm.trans h
        refine lv_iload_n hx hb dX10_holds_66 rfl (lv_at hl 2 rfl) ?_
        refine lv_iload hx hb dX10_holds_67 (lv_at hl 0 rfl) ?_
        refine lv_icmp_ne (tgt := 76) hx hb dX10_holds_69 (by decide) (fun hc508 => ?_) (fun hc508 => ?_)
        · replace h := (if_neg hc508).symm.trans h
          refine lv_iconst (v := 0) hx hb dX10_holds_76 (by decide) ?_
          have hq : false = out := by cases h; exact ho
          subst hq
          exact x_zret (b := false) hx hb hr hlk rfl rfl rfl dX10_holds_77
        · replace h := (if_pos hc508).symm.trans h
          refine lv_iconst (v := 1) hx hb dX10_holds_72 (by decide) ?_
          refine lv_goto (tgt := 77) hx hb dX10_holds_73 (by decide) ?_
          have hq : true = out := by cases h; exact ho
          subst hq
          exact x_zret (b := true) hx hb hr hlk rfl rfl rfl dX10_holds_77
      · replace h := (if_pos hc507).symm.trans h
        refine lv_iload_n hx hb dX10_holds_57 rfl (lv_at hl 2 rfl) ?_
        refine lv_iload hx hb dX10_holds_58 (lv_at hl 0 rfl) ?_
        refine lv_icmp_le (tgt := 76) hx hb dX10_holds_60 (by decide) (fun hc509 => ?_) (fun hc509 => ?_)
        · replace h := (if_pos hc509).symm.trans h
          refine lv_iconst (v := 0) hx hb dX10_holds_76 (by decide) ?_
          have hq : false = out := by cases h; exact ho
          subst hq
          exact x_zret (b := false) hx hb hr hlk rfl rfl rfl dX10_holds_77
        · replace h := (if_neg hc509).symm.trans h
          refine lv_goto (tgt := 72) hx hb dX10_holds_63 (by decide) ?_
          refine lv_iconst (v := 1) hx hb dX10_holds_72 (by decide) ?_
          refine lv_goto (tgt := 77) hx hb dX10_holds_73 (by decide) ?_
          have hq : true = out := by cases h; exact ho
          subst hq
          exact x_zret (b := true) hx hb hr hlk rfl rfl rfl dX10_holds_77
    · replace h := (if_pos hc506).symm.trans h
      refine lv_iload_n hx hb dX10_holds_41 rfl (lv_at hl 2 rfl) ?_
      refine lv_iload hx hb dX10_holds_42 (lv_at hl 0 rfl) ?_
      refine lv_icmp_ge (tgt := 76) hx hb dX10_holds_44 (by decide) (fun hc510 => ?_) (fun hc510 => ?_)
      · replace h := (if_pos hc510).symm.trans h
        refine lv_iconst (v := 0) hx hb dX10_holds_76 (by decide) ?_
        have hq : false = out := by cases h; exact ho
        subst hq
        exact x_zret (b := false) hx hb hr hlk rfl rfl rfl dX10_holds_77
      · replace h := (if_neg hc510).symm.trans h
        refine lv_goto (tgt := 72) hx hb dX10_holds_47 (by decide) ?_
        refine lv_iconst (v := 1) hx hb dX10_holds_72 (by decide) ?_
        refine lv_goto (tgt := 77) hx hb dX10_holds_73 (by decide) ?_
        have hq : true = out := by cases h; exact ho
        subst hq
        exact x_zret (b := true) hx hb hr hlk rfl rfl rfl dX10_holds_77
noncomputable def mX10_saidOf_b71 (years : Nat → Int32) (months : Nat → Int32) (presses : Nat → Int32) (winds : Nat → Int32) (skies : Nat → Int32) (rains : Nat → Int32) (cases : Nat → Int32) (caseFrom : Nat → Int32) (caseTells : Nat → Int32) (testAsks : Nat → Int32) (testHow : Nat → Int32) (testNumber : Nat → Int32) (v1 : Int32) (v2 : Int32) (v3 : Int32) (v5 : Int32) (t0 : Int32) : Option (((((Int32) ⊕ (Int32))) ⊕ (Int32 × Int32))) :=
  some (.inr (t0, (v5 + 1)))
noncomputable def mX10_saidOf_b70 (years : Nat → Int32) (months : Nat → Int32) (presses : Nat → Int32) (winds : Nat → Int32) (skies : Nat → Int32) (rains : Nat → Int32) (cases : Nat → Int32) (caseFrom : Nat → Int32) (caseTells : Nat → Int32) (testAsks : Nat → Int32) (testHow : Nat → Int32) (testNumber : Nat → Int32) (v1 : Int32) (v2 : Int32) (v3 : Int32) (v5 : Int32) : Option (((((Int32) ⊕ (Int32))) ⊕ (Int32 × Int32))) :=
  mX10_saidOf_b71 years months presses winds skies rains cases caseFrom caseTells testAsks testHow testNumber v1 v2 v3 v5 0
noncomputable def mX10_saidOf_s28 (years : Nat → Int32) (months : Nat → Int32) (presses : Nat → Int32) (winds : Nat → Int32) (skies : Nat → Int32) (rains : Nat → Int32) (cases : Nat → Int32) (caseFrom : Nat → Int32) (caseTells : Nat → Int32) (testAsks : Nat → Int32) (testHow : Nat → Int32) (testNumber : Nat → Int32) (v1 : Int32) (v2 : Int32) (v3 : Int32) (v4 : Int32) (v5 : Int32) : Option (((((Int32) ⊕ (Int32))) ⊕ (Int32 × Int32))) :=
  x_need (x_in ((((15 * v1) + v3) + 1)) 60) (if (caseFrom (Int32.toNatClampNeg ((((15 * v1) + v3) + 1)))) ≤ v5 then (if v4 = 0 then (some (.inl (.inr ((v3 + 1))))) else (x_need (x_in (((14 * v1) + v3)) 56) (some (.inl (.inl ((caseTells (Int32.toNatClampNeg (((14 * v1) + v3)))))))))) else (if v4 = 0 then (mX10_saidOf_b70 years months presses winds skies rains cases caseFrom caseTells testAsks testHow testNumber v1 v2 v3 v5) else ((mX10_holds years months presses winds skies rains testAsks testHow testNumber (((14 * v1) + v5)) v2).bind (fun r306 => if (xb r306) = 0 then (mX10_saidOf_b70 years months presses winds skies rains cases caseFrom caseTells testAsks testHow testNumber v1 v2 v3 v5) else (mX10_saidOf_b71 years months presses winds skies rains cases caseFrom caseTells testAsks testHow testNumber v1 v2 v3 v5 1)))))
noncomputable def mX10_saidOf_b28 (years : Nat → Int32) (months : Nat → Int32) (presses : Nat → Int32) (winds : Nat → Int32) (skies : Nat → Int32) (rains : Nat → Int32) (cases : Nat → Int32) (caseFrom : Nat → Int32) (caseTells : Nat → Int32) (testAsks : Nat → Int32) (testHow : Nat → Int32) (testNumber : Nat → Int32) (v1 : Int32) (v2 : Int32) (v3 : Int32) (v4 : Int32) (v5 : Int32) : Option (((Int32) ⊕ (Int32))) :=
  x_loop (fun q : Int32 × Int32 => mX10_saidOf_s28 years months presses winds skies rains cases caseFrom caseTells testAsks testHow testNumber v1 v2 v3 (q.1) (q.2)) (v4, v5)
noncomputable def mX10_saidOf_s2 (years : Nat → Int32) (months : Nat → Int32) (presses : Nat → Int32) (winds : Nat → Int32) (skies : Nat → Int32) (rains : Nat → Int32) (cases : Nat → Int32) (caseFrom : Nat → Int32) (caseTells : Nat → Int32) (testAsks : Nat → Int32) (testHow : Nat → Int32) (testNumber : Nat → Int32) (v1 : Int32) (v2 : Int32) (v3 : Int32) : Option (((Int32) ⊕ (Int32))) :=
  x_need (x_in v1 4) (if (cases (Int32.toNatClampNeg v1)) ≤ v3 then (some (.inl ((-6)))) else (x_need (x_in (((15 * v1) + v3)) 60) (mX10_saidOf_b28 years months presses winds skies rains cases caseFrom caseTells testAsks testHow testNumber v1 v2 v3 1 ((caseFrom (Int32.toNatClampNeg (((15 * v1) + v3))))))))
noncomputable def mX10_saidOf_b2 (years : Nat → Int32) (months : Nat → Int32) (presses : Nat → Int32) (winds : Nat → Int32) (skies : Nat → Int32) (rains : Nat → Int32) (cases : Nat → Int32) (caseFrom : Nat → Int32) (caseTells : Nat → Int32) (testAsks : Nat → Int32) (testHow : Nat → Int32) (testNumber : Nat → Int32) (v1 : Int32) (v2 : Int32) (v3 : Int32) : Option (Int32) :=
  x_loop (fun q : Int32 => mX10_saidOf_s2 years months presses winds skies rains cases caseFrom caseTells testAsks testHow testNumber v1 v2 (q)) v3
noncomputable def mX10_saidOf (years : Nat → Int32) (months : Nat → Int32) (presses : Nat → Int32) (winds : Nat → Int32) (skies : Nat → Int32) (rains : Nat → Int32) (cases : Nat → Int32) (caseFrom : Nat → Int32) (caseTells : Nat → Int32) (testAsks : Nat → Int32) (testHow : Nat → Int32) (testNumber : Nat → Int32) (p0 : Int32) (p1 : Int32) : Option (Int32) :=
  mX10_saidOf_b2 years months presses winds skies rains cases caseFrom caseTells testAsks testHow testNumber p0 p1 0
set_option maxHeartbeats 4000000 in
set_option maxRecDepth 100000 in
theorem kX10_saidOf (l : Launch) (G : xG) (H0 : Heap) {q_this q_years q_months q_presses q_winds q_skies q_rains q_wires q_signs q_cases q_caseFrom q_caseTells q_testAsks q_testHow q_testNumber q_glassX q_glassY q_glassPress q_glassWind q_dry q_value q_doing q_kept q_isKept : Nat} {mind : Int32} {needle : Int32} {stick : Int32} {days : Int32} {signMany : Int32} {keys : Int32} {weight : Int32} {care : Int32} {scoreSum : Int64} {scoreDays : Int64} {triedSpoken : Int32} {triedRain : Int32} {triedTaken : Int32} {triedBoth : Int32} {glasses : Int32} {keptAt : Int32} {isWriting : Int32} {years : Nat → Int32} {months : Nat → Int32} {presses : Nat → Int32} {winds : Nat → Int32} {skies : Nat → Int32} {rains : Nat → Int32} {cases : Nat → Int32} {caseFrom : Nat → Int32} {caseTells : Nat → Int32} {testAsks : Nat → Int32} {testHow : Nat → Int32} {testNumber : Nat → Int32} {p0 : Int32} {p1 : Int32} (hP : va_P (xD G) vwCl [(q_this, .inr (10, [.int mind, .int needle, .int stick, .ref q_years, .ref q_months, .ref q_presses, .ref q_winds, .ref q_skies, .ref q_rains, .ref q_wires, .int days, .ref q_signs, .int signMany, .ref q_cases, .ref q_caseFrom, .ref q_caseTells, .ref q_testAsks, .ref q_testHow, .ref q_testNumber, .int keys, .int weight, .int care, .long scoreSum, .long scoreDays, .int triedSpoken, .int triedRain, .int triedTaken, .int triedBoth, .ref q_glassX, .ref q_glassY, .ref q_glassPress, .ref q_glassWind, .int glasses, .ref q_dry, .ref q_value, .ref q_doing, .ref q_kept, .ref q_isKept, .int keptAt, .int isWriting])), (q_years, .inl (xy G 0, 60, .inl years)), (q_months, .inl (xy G 0, 60, .inl months)), (q_presses, .inl (xy G 0, 60, .inl presses)), (q_winds, .inl (xy G 0, 60, .inl winds)), (q_skies, .inl (xy G 0, 60, .inl skies)), (q_rains, .inl (xy G 0, 60, .inl rains)), (q_cases, .inl (xy G 0, 4, .inl cases)), (q_caseFrom, .inl (xy G 0, 60, .inl caseFrom)), (q_caseTells, .inl (xy G 0, 56, .inl caseTells)), (q_testAsks, .inl (xy G 0, 56, .inl testAsks)), (q_testHow, .inl (xy G 0, 56, .inl testHow)), (q_testNumber, .inl (xy G 0, 56, .inl testNumber))] H0) {out : Int32} (h : mX10_saidOf years months presses winds skies rains cases caseFrom caseTells testAsks testHow testNumber p0 p1 = some out) : Met l yX10_saidOf wsX10_saidOf ({ frames := 3, cells := 0, slots := 0, locals := 68 }) (xPc G H0 [.ref q_this, .int p0, .int p1]) (xQi H0 (out)) 0 0 xN := by
  refine x_met (by decide) rfl (Nat.le_of_ble_eq_true rfl) ?_
  intro p e s m below meth c ls hH hA hl
  obtain ⟨hx, hb, hr, hlk, hml, hown, hts, hE⟩ := hA
  subst hH
  have hown : s.vm.findClass RX10 = some m.cls := hown
  have hl : lv_has ls 6 [(0, .ref q_this), (1, .int p0), (2, .int p1)] := hl
  have hS : va_S xN s.heap s.heap [] := va_S.rf
  have ho : out = out := rfl
  have J2 : ∀ (v1 : Int32) (v2 : Int32) (v3 : Int32) (ls : Array Slot), lv_has ls 6 [(0, .ref q_this), (1, .int v1), (2, .int v2), (3, .int v3)] → ∀ o : Int32, mX10_saidOf_b2 years months presses winds skies rains cases caseFrom caseTells testAsks testHow testNumber v1 v2 v3 = some o → (fun z => z = out) o → xW p l e ({ frames := 3, cells := 0, slots := 0, locals := 68 }) s m [.ref q_this, .int p0, .int p1] below meth c (xQi s.heap (out)) (F0 m 2 ls []) := by
    intro v1 v2 v3 ls hl o h ho
    unfold mX10_saidOf_b2 at h
    refine x_loop_walk (K := (fun z => z = out)) (motive := fun q : Int32 => ∀ ls : Array Slot, lv_has ls 6 [(0, .ref q_this), (1, .int (v1)), (2, .int (v2)), (3, .int (q))] → xW p l e ({ frames := 3, cells := 0, slots := 0, locals := 68 }) s m [.ref q_this, .int p0, .int p1] below meth c (xQi s.heap (out)) (F0 m 2 ls [])) ?_ h ho ls hl
    intro K1 e1 i1 q o h ho
    obtain ⟨v3, hz9⟩ : ∃ z, z = q := ⟨_, rfl⟩
    subst hz9
    intro ls hl
    have hl : lv_has ls 6 [(0, .ref q_this), (1, .int v1), (2, .int v2), (3, .int v3)] := hl
    replace h : mX10_saidOf_s2 years months presses winds skies rains cases caseFrom caseTells testAsks testHow testNumber v1 v2 v3 = some o := h
    unfold mX10_saidOf_s2 at h
    have J28 : ∀ (v3 : Int32) (v4 : Int32) (v5 : Int32) (ls : Array Slot), lv_has ls 6 [(0, .ref q_this), (1, .int v1), (2, .int v2), (3, .int v3), (4, .int v4), (5, .int v5)] → ∀ o : ((Int32) ⊕ (Int32)), mX10_saidOf_b28 years months presses winds skies rains cases caseFrom caseTells testAsks testHow testNumber v1 v2 v3 v4 v5 = some o → K1 o → xW p l e ({ frames := 3, cells := 0, slots := 0, locals := 68 }) s m [.ref q_this, .int p0, .int p1] below meth c (xQi s.heap (out)) (F0 m 28 ls []) := by
      intro v3 v4 v5 ls hl o h ho
      unfold mX10_saidOf_b28 at h
      refine x_loop_walk (K := K1) (motive := fun q : Int32 × Int32 => ∀ ls : Array Slot, lv_has ls 6 [(0, .ref q_this), (1, .int (v1)), (2, .int (v2)), (3, .int (v3)), (4, .int (q.1)), (5, .int (q.2))] → xW p l e ({ frames := 3, cells := 0, slots := 0, locals := 68 }) s m [.ref q_this, .int p0, .int p1] below meth c (xQi s.heap (out)) (F0 m 28 ls [])) ?_ h ho ls hl
      intro K2 e2 i2 q o h ho
      obtain ⟨v4, v5⟩ := q
      intro ls hl
      have hl : lv_has ls 6 [(0, .ref q_this), (1, .int v1), (2, .int v2), (3, .int v3), (4, .int v4), (5, .int v5)] := hl
      replace h : mX10_saidOf_s28 years months presses winds skies rains cases caseFrom caseTells testAsks testHow testNumber v1 v2 v3 v4 v5 = some o := h
      unfold mX10_saidOf_s28 at h
      have J71 : ∀ (v5 : Int32) (t0 : Int32) (ls : Array Slot), lv_has ls 6 [(0, .ref q_this), (1, .int v1), (2, .int v2), (3, .int v3), (5, .int v5)] → ∀ o : ((((Int32) ⊕ (Int32))) ⊕ (Int32 × Int32)), mX10_saidOf_b71 years months presses winds skies rains cases caseFrom caseTells testAsks testHow testNumber v1 v2 v3 v5 t0 = some o → K2 o → xW p l e ({ frames := 3, cells := 0, slots := 0, locals := 68 }) s m [.ref q_this, .int p0, .int p1] below meth c (xQi s.heap (out)) (F0 m 71 ls [.int t0]) := by
        intro v5 t0 ls hl o h ho
        unfold mX10_saidOf_b71 at h
        refine lv_istore (lv' := [(4, .int t0), (0, .ref q_this), (1, .int v1), (2, .int v2), (3, .int v3), (5, .int v5)]) hx hb dX10_saidOf_71 hl (by decide) rfl (fun ls hl => ?_)
        refine lv_iinc (v := (v5 + 1)) (lv' := [(5, .int (v5 + 1)), (4, .int t0), (0, .ref q_this), (1, .int v1), (2, .int v2), (3, .int v3)]) hx hb dX10_saidOf_73 hl (k := 5) rfl rfl (by decide) rfl (fun ls hl => ?_)
        refine lv_goto (tgt := 28) hx hb dX10_saidOf_76 (by decide) ?_
        exact i2 (t0, (v5 + 1)) (by cases h; exact ho) ls (lv_sub hl [2, 3, 4, 5, 1, 0] rfl)
      have J70 : ∀ (v5 : Int32) (ls : Array Slot), lv_has ls 6 [(0, .ref q_this), (1, .int v1), (2, .int v2), (3, .int v3), (5, .int v5)] → ∀ o : ((((Int32) ⊕ (Int32))) ⊕ (Int32 × Int32)), mX10_saidOf_b70 years months presses winds skies rains cases caseFrom caseTells testAsks testHow testNumber v1 v2 v3 v5 = some o → K2 o → xW p l e ({ frames := 3, cells := 0, slots := 0, locals := 68 }) s m [.ref q_this, .int p0, .int p1] below meth c (xQi s.heap (out)) (F0 m 70 ls []) := by
        intro v5 ls hl o h ho
        unfold mX10_saidOf_b70 at h
        refine lv_iconst (v := 0) hx hb dX10_saidOf_70 (by decide) ?_
        exact J71 v5 0 ls (lv_sub hl [0, 1, 2, 3, 4] rfl) _ h ho
      refine lv_iload hx hb dX10_saidOf_28 (lv_at hl 5 rfl) ?_
      refine lv_aload_n hx hb dX10_saidOf_30 rfl (lv_at hl 0 rfl) ?_
      refine va_get (D := xD G) (ci := 10) (v := .ref q_caseFrom) (C := RX10) (T := TX10) (N := 40) hx hb hts (fun w9 h9 => (List.mem_cons_of_mem _ (List.mem_append_right _ h9))) hown hE.1 hP 0 rfl rfl 14 (by decide) (hts (.fieldLink RX10 37 "FallingGlassModel" "caseFrom" "[I") (List.mem_of_getElem? (i := 2) rfl)) (fun _ h9 => h9) rfl dX10_saidOf_31 ?_
      refine lv_bipush (v := 15) hx hb dX10_saidOf_34 (by decide) ?_
      refine lv_iload_n hx hb dX10_saidOf_36 rfl (lv_at hl 1 rfl) ?_
      refine lv_imul hx hb dX10_saidOf_37 ?_
      refine lv_iload_n hx hb dX10_saidOf_38 rfl (lv_at hl 3 rfl) ?_
      refine lv_iadd hx hb dX10_saidOf_39 ?_
      refine lv_iconst (v := 1) hx hb dX10_saidOf_40 (by decide) ?_
      refine lv_iadd hx hb dX10_saidOf_41 ?_
      obtain ⟨hi301, h⟩ := x_needs h
      refine va_iald (D := xD G) hx hb hE.1 hP 8 0 rfl rfl hi301 dX10_saidOf_42 ?_
      refine lv_icmp_ge (tgt := 79) hx hb dX10_saidOf_43 (by decide) (fun hc302 => ?_) (fun hc302 => ?_)
      · replace h := (if_pos hc302).symm.trans h
        refine lv_iload hx hb dX10_saidOf_79 (lv_at hl 4 rfl) ?_
        refine lv_if_eq (tgt := 96) hx hb dX10_saidOf_81 (by decide) (fun hc303 => ?_) (fun hc303 => ?_)
        · replace h := (if_pos hc303).symm.trans h
          refine lv_iinc (v := (v3 + 1)) (lv' := [(3, .int (v3 + 1)), (0, .ref q_this), (1, .int v1), (2, .int v2), (4, .int v4), (5, .int v5)]) hx hb dX10_saidOf_96 hl (k := 3) rfl rfl (by decide) rfl (fun ls hl => ?_)
          refine lv_goto (tgt := 2) hx hb dX10_saidOf_99 (by decide) ?_
          exact i1 ((v3 + 1)) (by cases h; exact (e2 _ ho)) ls (lv_sub hl [1, 2, 3, 0] rfl)
        · replace h := (if_neg hc303).symm.trans h
          refine lv_aload_n hx hb dX10_saidOf_84 rfl (lv_at hl 0 rfl) ?_
          refine va_get (D := xD G) (ci := 10) (v := .ref q_caseTells) (C := RX10) (T := TX10) (N := 40) hx hb hts (fun w9 h9 => (List.mem_cons_of_mem _ (List.mem_append_right _ h9))) hown hE.1 hP 0 rfl rfl 15 (by decide) (hts (.fieldLink RX10 40 "FallingGlassModel" "caseTells" "[I") (List.mem_of_getElem? (i := 3) rfl)) (fun _ h9 => h9) rfl dX10_saidOf_85 ?_
          refine lv_bipush (v := 14) hx hb dX10_saidOf_88 (by decide) ?_
          refine lv_iload_n hx hb dX10_saidOf_90 rfl (lv_at hl 1 rfl) ?_
          refine lv_imul hx hb dX10_saidOf_91 ?_
          refine lv_iload_n hx hb dX10_saidOf_92 rfl (lv_at hl 3 rfl) ?_
          refine lv_iadd hx hb dX10_saidOf_93 ?_
          obtain ⟨hi304, h⟩ := x_needs h
          refine va_iald (D := xD G) hx hb hE.1 hP 9 0 rfl rfl hi304 dX10_saidOf_94 ?_
          have hq : (caseTells (Int32.toNatClampNeg (((14 * v1) + v3)))) = out := by cases h; exact (e1 _ (e2 _ ho))
          subst hq
          exact x_iret hx hb hr hlk rfl rfl dX10_saidOf_95
      · replace h := (if_neg hc302).symm.trans h
        refine lv_iload hx hb dX10_saidOf_46 (lv_at hl 4 rfl) ?_
        refine lv_if_eq (tgt := 70) hx hb dX10_saidOf_48 (by decide) (fun hc305 => ?_) (fun hc305 => ?_)
        · replace h := (if_pos hc305).symm.trans h
          exact J70 v5 ls (lv_sub hl [0, 1, 2, 3, 5] rfl) _ h ho
        · replace h := (if_neg hc305).symm.trans h
          refine lv_aload_n hx hb dX10_saidOf_51 rfl (lv_at hl 0 rfl) ?_
          refine lv_bipush (v := 14) hx hb dX10_saidOf_52 (by decide) ?_
          refine lv_iload_n hx hb dX10_saidOf_54 rfl (lv_at hl 1 rfl) ?_
          refine lv_imul hx hb dX10_saidOf_55 ?_
          refine lv_iload hx hb dX10_saidOf_56 (lv_at hl 5 rfl) ?_
          refine lv_iadd hx hb dX10_saidOf_58 ?_
          refine lv_iload_n hx hb dX10_saidOf_59 rfl (lv_at hl 2 rfl) ?_
          obtain ⟨r306, hr306, h⟩ := x_bind h
          have hPr306 : va_P (xD G) vwCl [(q_this, .inr (10, [.int mind, .int needle, .int stick, .ref q_years, .ref q_months, .ref q_presses, .ref q_winds, .ref q_skies, .ref q_rains, .ref q_wires, .int days, .ref q_signs, .int signMany, .ref q_cases, .ref q_caseFrom, .ref q_caseTells, .ref q_testAsks, .ref q_testHow, .ref q_testNumber, .int keys, .int weight, .int care, .long scoreSum, .long scoreDays, .int triedSpoken, .int triedRain, .int triedTaken, .int triedBoth, .ref q_glassX, .ref q_glassY, .ref q_glassPress, .ref q_glassWind, .int glasses, .ref q_dry, .ref q_value, .ref q_doing, .ref q_kept, .ref q_isKept, .int keptAt, .int isWriting])), (q_years, .inl (xy G 0, 60, .inl years)), (q_months, .inl (xy G 0, 60, .inl months)), (q_presses, .inl (xy G 0, 60, .inl presses)), (q_winds, .inl (xy G 0, 60, .inl winds)), (q_skies, .inl (xy G 0, 60, .inl skies)), (q_rains, .inl (xy G 0, 60, .inl rains)), (q_testAsks, .inl (xy G 0, 56, .inl testAsks)), (q_testHow, .inl (xy G 0, 56, .inl testHow)), (q_testNumber, .inl (xy G 0, 56, .inl testNumber))] s.heap := hP.sub [0, 1, 2, 3, 4, 5, 6, 10, 11, 12] rfl
          refine x_calli (va_runV (As := [.int ((14 * v1) + v5), .int v2]) (rest := []) ⟨hx, hb, hml, hown, hts⟩ (kX10_holds l G s.heap hPr306 hr306) (cwV 2 hts gX10_saidOf_X10_holds rfl rfl rfl (by decide +kernel) ⟨Nat.le_of_ble_eq_true rfl, Nat.le_of_ble_eq_true rfl⟩) (x_preV hE hS hP (ci := 10) (q0 := 0) rfl rfl) rfl rfl hl.1 rfl (lv_room (Nat.le_of_ble_eq_true rfl)) dX10_saidOf_60 ⟨Nat.le_of_ble_eq_true rfl, Nat.le_of_ble_eq_true rfl⟩) ?_
          refine lv_if_eq (tgt := 70) hx hb dX10_saidOf_63 (by decide) (fun hc307 => ?_) (fun hc307 => ?_)
          · replace h := (if_pos hc307).symm.trans h
            exact J70 v5 ls (lv_sub hl [0, 1, 2, 3, 5] rfl) _ h ho
          · replace h := (if_neg hc307).symm.trans h
            refine lv_iconst (v := 1) hx hb dX10_saidOf_66 (by decide) ?_
            refine lv_goto (tgt := 71) hx hb dX10_saidOf_67 (by decide) ?_
            exact J71 v5 1 ls (lv_sub hl [0, 1, 2, 3, 5] rfl) _ h ho
    refine lv_iload_n hx hb dX10_saidOf_2 rfl (lv_at hl 3 rfl) ?_
    refine lv_aload_n hx hb dX10_saidOf_3 rfl (lv_at hl 0 rfl) ?_
    refine va_get (D := xD G) (ci := 10) (v := .ref q_cases) (C := RX10) (T := TX10) (N := 40) hx hb hts (fun w9 h9 => (List.mem_cons_of_mem _ (List.mem_append_right _ h9))) hown hE.1 hP 0 rfl rfl 13 (by decide) (hts (.fieldLink RX10 34 "FallingGlassModel" "cases" "[I") (List.mem_of_getElem? (i := 1) rfl)) (fun _ h9 => h9) rfl dX10_saidOf_4 ?_
    refine lv_iload_n hx hb dX10_saidOf_7 rfl (lv_at hl 1 rfl) ?_
    obtain ⟨hi408, h⟩ := x_needs h
    refine va_iald (D := xD G) hx hb hE.1 hP 7 0 rfl rfl hi408 dX10_saidOf_8 ?_
    refine lv_icmp_ge (tgt := 102) hx hb dX10_saidOf_9 (by decide) (fun hc409 => ?_) (fun hc409 => ?_)
    · replace h := (if_pos hc409).symm.trans h
      refine lv_bipush (v := (-6)) hx hb dX10_saidOf_102 (by decide) ?_
      have hq : (-6) = out := by cases h; exact (e1 _ ho)
      subst hq
      exact x_iret hx hb hr hlk rfl rfl dX10_saidOf_104
    · replace h := (if_neg hc409).symm.trans h
      refine lv_iconst (v := 1) hx hb dX10_saidOf_12 (by decide) ?_
      refine lv_istore (lv' := [(4, .int 1), (0, .ref q_this), (1, .int v1), (2, .int v2), (3, .int v3)]) hx hb dX10_saidOf_13 hl (by decide) rfl (fun ls hl => ?_)
      refine lv_aload_n hx hb dX10_saidOf_15 rfl (lv_at hl 1 rfl) ?_
      refine va_get (D := xD G) (ci := 10) (v := .ref q_caseFrom) (C := RX10) (T := TX10) (N := 40) hx hb hts (fun w9 h9 => (List.mem_cons_of_mem _ (List.mem_append_right _ h9))) hown hE.1 hP 0 rfl rfl 14 (by decide) (hts (.fieldLink RX10 37 "FallingGlassModel" "caseFrom" "[I") (List.mem_of_getElem? (i := 2) rfl)) (fun _ h9 => h9) rfl dX10_saidOf_16 ?_
      refine lv_bipush (v := 15) hx hb dX10_saidOf_19 (by decide) ?_
      refine lv_iload_n hx hb dX10_saidOf_21 rfl (lv_at hl 2 rfl) ?_
      refine lv_imul hx hb dX10_saidOf_22 ?_
      refine lv_iload_n hx hb dX10_saidOf_23 rfl (lv_at hl 4 rfl) ?_
      refine lv_iadd hx hb dX10_saidOf_24 ?_
      obtain ⟨hi410, h⟩ := x_needs h
      refine va_iald (D := xD G) hx hb hE.1 hP 8 0 rfl rfl hi410 dX10_saidOf_25 ?_
      refine lv_istore (lv' := [(5, .int (caseFrom (Int32.toNatClampNeg (((15 * v1) + v3))))), (4, .int 1), (0, .ref q_this), (1, .int v1), (2, .int v2), (3, .int v3)]) hx hb dX10_saidOf_26 hl (by decide) rfl (fun ls hl => ?_)
      exact J28 v3 1 ((caseFrom (Int32.toNatClampNeg (((15 * v1) + v3))))) ls (lv_sub hl [2, 3, 4, 5, 1, 0] rfl) _ h ho
  unfold mX10_saidOf at h
  refine lv_iconst (v := 0) hx hb dX10_saidOf_0 (by decide) ?_
  refine lv_istore_n (lv' := [(3, .int 0), (0, .ref q_this), (1, .int p0), (2, .int p1)]) hx hb dX10_saidOf_1 rfl hl (by decide) rfl (fun ls hl => ?_)
  exact J2 p0 p1 0 ls (lv_sub hl [1, 2, 3, 0] rfl) _ h ho
noncomputable def mX10_share  (p0 : Int32) (p1 : Int32) : Option (Int32) :=
  if p1 = 0 then (some ((-6))) else (x_need (¬ p1 = 0) (some (((1000 * p0) / p1))))
set_option maxHeartbeats 4000000 in
set_option maxRecDepth 100000 in
theorem kX10_share (l : Launch) (G : xG) (H0 : Heap) {p0 : Int32} {p1 : Int32} {out : Int32} (h : mX10_share p0 p1 = some out) : Met l yX10_share wsX10_share ({ frames := 0, cells := 0, slots := 0, locals := 0 }) (xPc G H0 [.int p0, .int p1]) (xQi H0 (out)) 0 0 xN := by
  refine x_met (by decide) rfl (Nat.le_of_ble_eq_true rfl) ?_
  intro p e s m below meth c ls hH hA hl
  obtain ⟨hx, hb, hr, hlk, hml, hown, hts, hE⟩ := hA
  subst hH
  have hown : s.vm.findClass RX10 = some m.cls := hown
  have hl : lv_has ls 2 [(0, .int p0), (1, .int p1)] := hl
  have hS : va_S xN s.heap s.heap [] := va_S.rf
  have ho : out = out := rfl
  unfold mX10_share at h
  refine lv_iload_n hx hb dX10_share_0 rfl (lv_at hl 1 rfl) ?_
  refine lv_if_ne (tgt := 9) hx hb dX10_share_1 (by decide) (fun hc501 => ?_) (fun hc501 => ?_)
  · replace h := (if_neg hc501).symm.trans h
    refine lv_sipush (v := 1000) hx hb dX10_share_9 (by decide) ?_
    refine lv_iload_n hx hb dX10_share_12 rfl (lv_at hl 0 rfl) ?_
    refine lv_imul hx hb dX10_share_13 ?_
    refine lv_iload_n hx hb dX10_share_14 rfl (lv_at hl 1 rfl) ?_
    obtain ⟨hz502, h⟩ := x_needs h
    refine lv_idiv hx hb dX10_share_15 hz502 ?_
    have hq : ((1000 * p0) / p1) = out := by cases h; exact ho
    subst hq
    exact x_iret hx hb hr hlk rfl rfl dX10_share_16
  · replace h := (if_pos hc501).symm.trans h
    refine lv_bipush (v := (-6)) hx hb dX10_share_4 (by decide) ?_
    refine lv_goto (tgt := 16) hx hb dX10_share_6 (by decide) ?_
    have hq : (-6) = out := by cases h; exact ho
    subst hq
    exact x_iret hx hb hr hlk rfl rfl dX10_share_16
