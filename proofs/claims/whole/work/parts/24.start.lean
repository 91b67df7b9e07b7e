/-! what stays the same through the run, at the law's start -/
theorem x_memp {big L : List Cond} (ps : List Nat) (hp : L = ps.filterMap (fun i => big[i]?)) : ∀ w ∈ L, w ∈ big := by
  intro w hw
  rw [hp] at hw
  obtain ⟨i, -, hi⟩ := List.mem_filterMap.mp hw
  exact List.mem_of_getElem? hi
theorem x_arrP {args : Array Value} {s : State} {ty : FieldType} (h : (Cond.arrayClass ty).before args s = true) : ∃ cA : ClassId, ArrOfT s cA ty ∧ s.vm.findClass ("[" ++ ty.toString) = some cA := by
  obtain ⟨cA, kA, comp, h1, h2, h3⟩ := Cond.arrayClass_spec h
  exact ⟨cA, fun n z => ⟨fun k h => (by cases h), kA, h2, comp, h3⟩, h1⟩
theorem x_arrO {args : Array Value} {s : State} {C : String} (h : (Cond.arrayOver (.object C)).before args s = true) : ∃ cA : ClassId, ArrOfT s cA (.object C) ∧ va_RA s cA (.object C) := by
  obtain ⟨comp, cA, kA, h1, h2, h3, h4, h5⟩ := Cond.arrayOver_spec h
  exact ⟨cA, fun n z => ⟨fun k h => (by cases h), kA, h3, comp, h4⟩, kA, comp, h3, h4, h1, h5⟩
set_option maxRecDepth 20000 in
theorem x_nm : ∀ w ∈ xNM.map (fun q => Cond.methodLinkNest q.1 q.2.1 q.2.2 "FallingGlass"), w ∈ lw_tbl := x_memp [188, 208, 851, 277, 286, 488, 693, 856, 721, 746, 795, 798, 606, 611, 603, 677, 558, 565, 589, 67, 644, 85, 123, 147, 453, 325, 342, 434] (by decide +kernel)
set_option maxRecDepth 20000 in
theorem x_nf : ∀ w ∈ xNF.map (fun q => Cond.fieldLinkNest q.1 q.2.1 "FallingGlass" q.2.2.1 q.2.2.2 "FallingGlass"), w ∈ lw_tbl := x_memp [284, 755, 796] (by decide +kernel)
set_option maxHeartbeats 4000000 in
set_option maxRecDepth 100000 in
theorem x_table {args : Array Value} {s : State} {n : String} {N : Nat} {f : Nat → Int32} (hN : N < 2 ^ 31) (hl : (Cond.laysStatic "FallingGlass" n "[I").before args s = true) (hini : (Cond.initialized "FallingGlass").before args s = true) (harr : (Cond.arrayOf (.static "FallingGlass" n "[I") .int).before args s = true) (hlen : (Cond.eq (.length (.static "FallingGlass" n "[I")) (.int (Int32.ofNat N))).before args s = true)
    (hel : ∀ j : Nat, j < N → (Cond.eq (.elem (.static "FallingGlass" n "[I") (.int (Int32.ofNat j))) (.int (f j))).before args s = true) : ∃ t : Nat, va_Z "FallingGlass" n "[I" (.ref t) (fun q : Nat => s.heap.size ≤ q) s s.heap ∧ va_T .int t N (fun j => .int (f j)) (fun q : Nat => s.heap.size ≤ q) s s.heap := by
  have hA : ∀ a : Nat, a < s.heap.size → ¬ (fun q : Nat => s.heap.size ≤ q) a := fun a h q => absurd h (Nat.not_lt.mpr q)
  obtain ⟨t, ht, hT⟩ := va_Tof (f := fun j => .int (f j)) hN harr (va_eqt hlen) (fun j hj => va_eqt (hel j hj)) hA
  exact ⟨t, va_Zref hl hini ht hA, hT⟩
set_option maxHeartbeats 4000000 in
set_option maxRecDepth 100000 in
theorem x_start {args : Array Value} {s : State} (hts : ∀ w ∈ lw_tbl, w.before args s = true) (hgv : (Jvm.Cond.and given_1 narrow_1).before args s = true) : ∃ G : xG, xE G (fun q : Nat => s.heap.size ≤ q) s := by
  have hA : ∀ a : Nat, a < s.heap.size → ¬ (fun q : Nat => s.heap.size ≤ q) a := fun a h q => absurd h (Nat.not_lt.mpr q)
  have hs := flat_of_before _ hgv
  obtain ⟨c0, j0, hk0⟩ := u_known (C := RX0) (T := TX0) (N := 9) (n := 9) hts inX0 (hts (.instantiable RX0 9) (List.mem_of_getElem? (i := 84) (by decide +kernel)))
  obtain ⟨c1, j1, hk1⟩ := u_known (C := RX1) (T := TX1) (N := 3) (n := 3) hts inX1 (hts (.instantiable RX1 3) (List.mem_of_getElem? (i := 66) (by decide +kernel)))
  obtain ⟨c2, j2, hk2⟩ := u_known (C := RX2) (T := TX2) (N := 5) (n := 5) hts inX2 (hts (.instantiable RX2 5) (List.mem_of_getElem? (i := 122) (by decide +kernel)))
  obtain ⟨c3, j3, hk3⟩ := u_known (C := RX3) (T := TX3) (N := 6) (n := 6) hts inX3 (hts (.instantiable RX3 6) (List.mem_of_getElem? (i := 767) (by decide +kernel)))
  obtain ⟨c4, j4, hk4⟩ := u_known (C := RX4) (T := TX4) (N := 3) (n := 3) hts inX4 (hts (.instantiable RX4 3) (List.mem_of_getElem? (i := 207) (by decide +kernel)))
  obtain ⟨c5, j5, hk5⟩ := u_known (C := RX5) (T := TX5) (N := 4) (n := 4) hts inX5 (hts (.instantiable RX5 4) (List.mem_of_getElem? (i := 643) (by decide +kernel)))
  obtain ⟨c6, j6, hk6⟩ := u_known (C := RX6) (T := TX6) (N := 2) (n := 2) hts inX6 (hts (.instantiable RX6 2) (List.mem_of_getElem? (i := 191) (by decide +kernel)))
  obtain ⟨c7, j7, hk7⟩ := u_known (C := RX7) (T := TX7) (N := 7) (n := 7) hts inX7 (hts (.instantiable RX7 7) (List.mem_of_getElem? (i := 60) (by decide +kernel)))
  obtain ⟨c8, j8, hk8⟩ := u_known (C := RX8) (T := TX8) (N := 2) (n := 2) hts inX8 (hts (.instantiable RX8 2) (List.mem_of_getElem? (i := 146) (by decide +kernel)))
  obtain ⟨c9, j9, hk9⟩ := u_known (C := RX9) (T := TX9) (N := 6) (n := 6) hts inX9 (hts (.instantiable RX9 6) (List.mem_of_getElem? (i := 52) (by decide +kernel)))
  obtain ⟨c10, j10, hk10⟩ := u_known (C := RX10) (T := TX10) (N := 40) (n := 40) hts inX10 (hts (.instantiable RX10 40) (List.mem_of_getElem? (i := 867) (by decide +kernel)))
  obtain ⟨y0, ya0, yb0⟩ := x_arrP (hts (.arrayClass .int) (List.mem_of_getElem? (i := 120) (by decide +kernel)))
  obtain ⟨y1, ya1, yb1⟩ := x_arrP (hts (.arrayClass .boolean) (List.mem_of_getElem? (i := 993) (by decide +kernel)))
  have hoS := hts (.arrayOver (.object RX7)) (List.mem_of_getElem? (i := 189) (by decide +kernel))
  have hoT := hts (.arrayOver (.object RX8)) (List.mem_of_getElem? (i := 145) (by decide +kernel))
  obtain ⟨y2, ya2, yb2⟩ := x_arrO hoS
  obtain ⟨y3, ya3, yb3⟩ := x_arrO hoT
  obtain ⟨t0, tz0, tt0⟩ := x_table (n := "KEY_LOOKS") (N := 6) (f := xKL) (by decide) (hts (.laysStatic "FallingGlass" "KEY_LOOKS" "[I") (List.mem_of_getElem? (i := 285) (by decide +kernel))) (hts (.initialized "FallingGlass") (List.mem_of_getElem? (i := 32) (by decide +kernel))) (hs (.arrayOf (.static "FallingGlass" "KEY_LOOKS" "[I") .int) (by decide +kernel)) (hs (.eq (.length (.static "FallingGlass" "KEY_LOOKS" "[I")) (.int 6)) (by decide +kernel)) (fun j hj => match j, hj with | 0, _ => hs (.eq (.elem (.static "FallingGlass" "KEY_LOOKS" "[I") (.int 0)) (.int 0)) (by decide +kernel) | 1, _ => hs (.eq (.elem (.static "FallingGlass" "KEY_LOOKS" "[I") (.int 1)) (.int 5)) (by decide +kernel) | 2, _ => hs (.eq (.elem (.static "FallingGlass" "KEY_LOOKS" "[I") (.int 2)) (.int 1)) (by decide +kernel) | 3, _ => hs (.eq (.elem (.static "FallingGlass" "KEY_LOOKS" "[I") (.int 3)) (.int 2)) (by decide +kernel) | 4, _ => hs (.eq (.elem (.static "FallingGlass" "KEY_LOOKS" "[I") (.int 4)) (.int 3)) (by decide +kernel) | 5, _ => hs (.eq (.elem (.static "FallingGlass" "KEY_LOOKS" "[I") (.int 5)) (.int 4)) (by decide +kernel) | k + 6, h => absurd h (by omega))
  obtain ⟨t1, tz1, tt1⟩ := x_table (n := "EIGHTHS") (N := 9) (f := xEI) (by decide) (hts (.laysStatic "FallingGlass" "EIGHTHS" "[I") (List.mem_of_getElem? (i := 756) (by decide +kernel))) (hts (.initialized "FallingGlass") (List.mem_of_getElem? (i := 32) (by decide +kernel))) (hs (.arrayOf (.static "FallingGlass" "EIGHTHS" "[I") .int) (by decide +kernel)) (hs (.eq (.length (.static "FallingGlass" "EIGHTHS" "[I")) (.int 9)) (by decide +kernel)) (fun j hj => match j, hj with | 0, _ => hs (.eq (.elem (.static "FallingGlass" "EIGHTHS" "[I") (.int 0)) (.int 5)) (by decide +kernel) | 1, _ => hs (.eq (.elem (.static "FallingGlass" "EIGHTHS" "[I") (.int 1)) (.int 4)) (by decide +kernel) | 2, _ => hs (.eq (.elem (.static "FallingGlass" "EIGHTHS" "[I") (.int 2)) (.int 3)) (by decide +kernel) | 3, _ => hs (.eq (.elem (.static "FallingGlass" "EIGHTHS" "[I") (.int 3)) (.int 6)) (by decide +kernel) | 4, _ => hs (.eq (.elem (.static "FallingGlass" "EIGHTHS" "[I") (.int 4)) (.int (-6))) (by decide +kernel) | 5, _ => hs (.eq (.elem (.static "FallingGlass" "EIGHTHS" "[I") (.int 5)) (.int 2)) (by decide +kernel) | 6, _ => hs (.eq (.elem (.static "FallingGlass" "EIGHTHS" "[I") (.int 6)) (.int 7)) (by decide +kernel) | 7, _ => hs (.eq (.elem (.static "FallingGlass" "EIGHTHS" "[I") (.int 7)) (.int 0)) (by decide +kernel) | 8, _ => hs (.eq (.elem (.static "FallingGlass" "EIGHTHS" "[I") (.int 8)) (.int 1)) (by decide +kernel) | k + 9, h => absurd h (by omega))
  obtain ⟨t2, tz2, tt2⟩ := x_table (n := "TENS") (N := 10) (f := xTE) (by decide) (hts (.laysStatic "FallingGlass" "TENS" "[I") (List.mem_of_getElem? (i := 797) (by decide +kernel))) (hts (.initialized "FallingGlass") (List.mem_of_getElem? (i := 32) (by decide +kernel))) (hs (.arrayOf (.static "FallingGlass" "TENS" "[I") .int) (by decide +kernel)) (hs (.eq (.length (.static "FallingGlass" "TENS" "[I")) (.int 10)) (by decide +kernel)) (fun j hj => match j, hj with | 0, _ => hs (.eq (.elem (.static "FallingGlass" "TENS" "[I") (.int 0)) (.int 1)) (by decide +kernel) | 1, _ => hs (.eq (.elem (.static "FallingGlass" "TENS" "[I") (.int 1)) (.int 10)) (by decide +kernel) | 2, _ => hs (.eq (.elem (.static "FallingGlass" "TENS" "[I") (.int 2)) (.int 100)) (by decide +kernel) | 3, _ => hs (.eq (.elem (.static "FallingGlass" "TENS" "[I") (.int 3)) (.int 1000)) (by decide +kernel) | 4, _ => hs (.eq (.elem (.static "FallingGlass" "TENS" "[I") (.int 4)) (.int 10000)) (by decide +kernel) | 5, _ => hs (.eq (.elem (.static "FallingGlass" "TENS" "[I") (.int 5)) (.int 100000)) (by decide +kernel) | 6, _ => hs (.eq (.elem (.static "FallingGlass" "TENS" "[I") (.int 6)) (.int 1000000)) (by decide +kernel) | 7, _ => hs (.eq (.elem (.static "FallingGlass" "TENS" "[I") (.int 7)) (.int 10000000)) (by decide +kernel) | 8, _ => hs (.eq (.elem (.static "FallingGlass" "TENS" "[I") (.int 8)) (.int 100000000)) (by decide +kernel) | 9, _ => hs (.eq (.elem (.static "FallingGlass" "TENS" "[I") (.int 9)) (.int 1000000000)) (by decide +kernel) | k + 10, h => absurd h (by omega))
  have hcs : va_Z "java/lang/String" "COMPACT_STRINGS" "Z" (.int 1) (fun q : Nat => s.heap.size ≤ q) s s.heap := va_Zof (hts (.laysStatic "java/lang/String" "COMPACT_STRINGS" "Z") (List.mem_of_getElem? (i := 363) (by decide +kernel))) (hts (.initialized "java/lang/String") (List.mem_of_getElem? (i := 42) (by decide +kernel))) (va_eqi (hs (.eq (.static "java/lang/String" "COMPACT_STRINGS" "Z") (.int 1)) (by decide +kernel))) hA
  obtain ⟨adK, adV, hS, hev⟩ := vk_Sof (args := args) (s := s) (N := 1) (tm := fun _ => (.string "FallingGlass$Text" 46)) (len := [7]) (byt := [[112, 119, 115, 109, 121, 100, 117]]) (A := fun q : Nat => s.heap.size ≤ q)
    (fun i hi => match i, hi with | 0, _ => (by decide) | k + 1, h => absurd h (by omega))
    (fun i hi => hs (.exactly (.string "FallingGlass$Text" 46) "java/lang/String") (by decide +kernel))
    (fun i hi => hs (.eq (.field (.string "FallingGlass$Text" 46) "java/lang/String" "coder" "B") (.int 0)) (by decide +kernel))
    (fun i hi => hs (.arrayOf (.field (.string "FallingGlass$Text" 46) "java/lang/String" "value" "[B") .byte) (by decide +kernel))
    (fun i hi => match i, hi with | 0, _ => hs (.eq (.length (.field (.string "FallingGlass$Text" 46) "java/lang/String" "value" "[B")) (.int 7)) (by decide +kernel) | k + 1, h => absurd h (by omega))
    (fun i hi => match i, hi with | 0, _ => (fun j hj => match j, hj with | 0, _ => hs (.eq (.elem (.field (.string "FallingGlass$Text" 46) "java/lang/String" "value" "[B") (.int 0)) (.int 112)) (by decide +kernel) | 1, _ => hs (.eq (.elem (.field (.string "FallingGlass$Text" 46) "java/lang/String" "value" "[B") (.int 1)) (.int 119)) (by decide +kernel) | 2, _ => hs (.eq (.elem (.field (.string "FallingGlass$Text" 46) "java/lang/String" "value" "[B") (.int 2)) (.int 115)) (by decide +kernel) | 3, _ => hs (.eq (.elem (.field (.string "FallingGlass$Text" 46) "java/lang/String" "value" "[B") (.int 3)) (.int 109)) (by decide +kernel) | 4, _ => hs (.eq (.elem (.field (.string "FallingGlass$Text" 46) "java/lang/String" "value" "[B") (.int 4)) (.int 121)) (by decide +kernel) | 5, _ => hs (.eq (.elem (.field (.string "FallingGlass$Text" 46) "java/lang/String" "value" "[B") (.int 5)) (.int 100)) (by decide +kernel) | 6, _ => hs (.eq (.elem (.field (.string "FallingGlass$Text" 46) "java/lang/String" "value" "[B") (.int 6)) (.int 117)) (by decide +kernel) | k + 7, h => absurd (show k + 7 < 7 from h) (by omega)) | k + 1, h => absurd h (by omega))
    (fun i j hi hj hij => absurd (show i = j by omega) hij) hA
  refine ⟨(fun k => ([c0, c1, c2, c3, c4, c5, c6, c7, c8, c9, c10] : List ClassId).getD k c0, fun k => ([j0, j1, j2, j3, j4, j5, j6, j7, j8, j9, j10] : List (Nat → Nat)).getD k j0, fun k => ([y0, y1, y2, y3] : List ClassId).getD k y0, fun k => ([t0, t1, t2, adK 0, adV 0] : List Nat).getD k 0), ⟨fun k q hq => ?_, fun k q hq => ?_⟩, fun q hq => ?_, fun q hq => ?_, ⟨?_, va_AO.of hoT, va_AO.of hoS⟩, ⟨tz0, tt0⟩, ⟨tz1, tt1⟩, ⟨tz2, tt2⟩, ⟨fun i hi => ?_, fun i j hi hj _ => by omega⟩, hcs⟩
  · match k, hq with
    | 0, hq => cases hq; exact hk0
    | 1, hq => cases hq; exact hk1
    | 2, hq => cases hq; exact hk2
    | 3, hq => cases hq; exact hk3
    | 4, hq => cases hq; exact hk4
    | 5, hq => cases hq; exact hk5
    | 6, hq => cases hq; exact hk6
    | 7, hq => cases hq; exact hk7
    | 8, hq => cases hq; exact hk8
    | 9, hq => cases hq; exact hk9
    | 10, hq => cases hq; exact hk10
    | k + 11, hq => simp [vwCl] at hq
  · match k, hq with
    | 0, hq => cases hq; exact ⟨ya0, yb0⟩
    | 1, hq => cases hq; exact ⟨ya1, yb1⟩
    | 2, hq => cases hq; exact ⟨ya2, yb2⟩
    | 3, hq => cases hq; exact ⟨ya3, yb3⟩
    | k + 4, hq => simp [xT] at hq
  · exact va_Nw.of rfl (hts _ (x_nm _ (List.mem_map_of_mem hq)))
  · exact va_Nw.of rfl (hts _ (x_nf _ (List.mem_map_of_mem hq)))
  · exact vk_R.of (hts (.stringRef "FallingGlass$Text" 46 "pwsmydu") (List.mem_of_getElem? (i := 349) (by decide +kernel))) (hev 0 (by decide))
  · have h0 : i = 0 := by omega
    subst h0
    exact hS.1 0 hi
