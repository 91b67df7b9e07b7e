/-! the law's loop -/
theorem lw_IS {G : xG} {s : State} {qa : Nat → Nat} {H : Heap} {locs : List Loc} (hI : lw_I G s qa H locs) : va_S (fun q : Nat => s.heap.size ≤ q) s.heap H locs := by
  obtain ⟨n, q, w, ca, z, mi, ne, st, y, mo, f, g, wi, sk, r, wr, ki, xs, ys, ps, ws, z0, g0, z1, g1, z2, g2, z3, g3, cs, fr, te, as, ho, nu, pz, sg, js, jd, jw, jv, ja, jt, jq, je, sA, sB, t1, t2, t3, t4, ka, iw, hd, hv, hw, kp, ik, o0, o1, T0, T1, hP, hD, hS, -⟩ := hI
  exact hS
set_option maxHeartbeats 4000000 in
set_option maxRecDepth 100000 in
theorem law_loop {p : Program} {l : Launch} {e : Env} {s : State} {m : MethodId} {below : List Frame} {meth : Method} {c : Code} {b L : Nat} {sc : Nat → Int32} {G : xG} {qa : Nat → Nat} (hL : L ≤ 4096) (C0 : lw_At p s m meth c b L sc) (hE : xE G (fun q : Nat => s.heap.size ≤ q) s) : ∀ (n j : Nat), 8 * j ≤ L → L + 1 ≤ 8 * j + n → ∀ (cells slots : Nat), cells ≤ 100 + 25 * j → slots ≤ 10000 + 732 * j → ∀ (H : Heap) (locs : List Loc), lw_I G s qa H locs → ∀ (ls : Array Slot), lv_has ls 4 [(0, .ref b), (1, .ref (qa 0)), (2, .ref (qa 41)), (3, .int (nI (8 * j)))] → W p l e room_1 s m #[Value.ref b] below meth c H locs cells slots (lw_Z below #[Value.ref b] s) (F0 m 18 ls []) := by
  obtain ⟨hx, hb, hr, hml, hown, hts0, hX, hbl, hlocks, hgv⟩ := id C0
  have hown : s.vm.findClass RL = some m.cls := hown
  have hts : ∀ w ∈ wsL_law, w.before #[Value.ref b] s = true := fun w hw => hts0 w (wsL_law_in w hw)
  have hA : ∀ q : Nat, s.heap.size ≤ q → (fun q : Nat => s.heap.size ≤ q) q := fun _ h => h
  have hbA : ¬ (fun q : Nat => s.heap.size ≤ q) b := Nat.not_le.mpr hbl
  intro n
  induction n with
  | zero =>
    intro j h1 h2
    exact absurd h2 (by omega)
  | succ n ih =>
    intro j hj hn cells slots hcl hsl H locs hI ls hl
    have hS := lw_IS hI
    refine lv_iload_n hx hb dL_law_18 rfl (lv_at hl 3 rfl) ?_
    refine lv_aload_n hx hb dL_law_19 rfl (lv_at hl 0 rfl) ?_
    refine va_slen hx hb hX hbl hbA hS dL_law_20 ?_
    refine lv_bipush (v := 8) hx hb dL_law_21 (by decide) ?_
    refine lv_isub hx hb dL_law_23 ?_
    refine lv_icmp_gt (tgt := 1252) hx hb dL_law_24 (by decide) (fun c1 => ?_) (fun c1 => ?_)
    · refine lv_iconst (v := 1) hx hb dL_law_1252 (by decide) ?_
      refine va_forget (fun q hq => hS.2.2 q hq) ?_
      refine W.widen (k := 600000) (n := 7302250) (by omega) (by omega) ?_
      exact lw_ret hx hb hr hlocks dL_law_1253
    · have h8 : 8 * j + 8 ≤ L := by
        have eL : (Int32.ofNat L).toInt = L := nI_toInt (by omega)
        have eJ : (nI (8 * j)).toInt = (8 * j : Nat) := nI_toInt (by omega)
        have e8 : (8 : Int32).toInt = 8 := by decide
        rw [i_lt, i_sub (by omega) (by omega), eL, eJ, e8] at c1
        omega
      have hv0 : vp_in (nI (8 * j)) L := vp_in_nI (by omega) (by omega)
      refine lv_aload_n hx hb dL_law_27 rfl (lv_at hl 0 rfl) ?_
      refine lv_iload_n hx hb dL_law_28 rfl (lv_at hl 3 rfl) ?_
      refine va_sld hx hb hX hbl hbA hS hv0 dL_law_29 ?_
      refine lv_bipush (v := 31) hx hb dL_law_30 (by decide) ?_
      refine lv_iand hx hb dL_law_32 ?_
      obtain ⟨t, ht, et⟩ := pk_andE (sc (nI (8 * j)).toNatClampNeg) (m := 31) 5 (by decide)
      rw [et]
      have K : ∀ (H : Heap) (locs : List Loc) (cl sl : Nat), cl ≤ cells + 25 → sl ≤ slots + 732 → lw_I G s qa H locs → W p l e room_1 s m #[Value.ref b] below meth c H locs cl sl (lw_Z below #[Value.ref b] s) (F0 m 1246 ls []) := fun H locs cl sl h1 h2 hI => by
        refine lv_iinc (v := nI (8 * (j + 1))) (lv' := [(3, .int (nI (8 * (j + 1)))), (0, .ref b), (1, .ref (qa 0)), (2, .ref (qa 41))]) hx hb dL_law_1246 hl (k := 3) rfl (by rw [show 8 * (j + 1) = 8 * j + 8 by omega]; exact nI_add (8 * j) 8) (by decide) rfl (fun ls hl => ?_)
        refine lv_goto (tgt := 18) hx hb dL_law_1249 (by decide) ?_
        exact ih (j + 1) (by omega) (by omega) cl sl (by omega) (by omega) H locs hI ls (lv_sub hl [1, 2, 3, 0] rfl)
      have ht : t = 0 ∨ t = 1 ∨ t = 2 ∨ t = 3 ∨ t = 4 ∨ t = 5 ∨ t = 6 ∨ t = 7 ∨ t = 8 ∨ t = 9 ∨ t = 10 ∨ t = 11 ∨ t = 12 ∨ t = 13 ∨ t = 14 ∨ t = 15 ∨ t = 16 ∨ t = 17 ∨ t = 18 ∨ t = 19 ∨ t = 20 ∨ t = 21 ∨ t = 22 ∨ t = 23 ∨ t = 24 ∨ t = 25 ∨ t = 26 ∨ t = 27 ∨ t = 28 ∨ t = 29 ∨ t = 30 ∨ t = 31 := by omega
      rcases ht with rfl | rfl | rfl | rfl | rfl | rfl | rfl | rfl | rfl | rfl | rfl | rfl | rfl | rfl | rfl | rfl | rfl | rfl | rfl | rfl | rfl | rfl | rfl | rfl | rfl | rfl | rfl | rfl | rfl | rfl | rfl | rfl
      · exact lv_tableIn (off := 143) (tgt := 176) hx hb dL_law_33 (by decide) (by decide) (by decide) (by decide) (lc_hour hL C0 hE h8 (by omega) (by omega) hl hI K)
      · exact lv_tableIn (off := 166) (tgt := 199) hx hb dL_law_33 (by decide) (by decide) (by decide) (by decide) (lc_tap hL C0 hE h8 (by omega) (by omega) hl hI K)
      · exact lv_tableIn (off := 179) (tgt := 212) hx hb dL_law_33 (by decide) (by decide) (by decide) (by decide) (lc_stick hL C0 hE h8 (by omega) (by omega) hl hI K)
      · exact lv_tableIn (off := 202) (tgt := 235) hx hb dL_law_33 (by decide) (by decide) (by decide) (by decide) (lc_day hL C0 hE h8 (by omega) (by omega) hl hI K)
      · exact lv_tableIn (off := 277) (tgt := 310) hx hb dL_law_33 (by decide) (by decide) (by decide) (by decide) (lc_tear hL C0 hE h8 (by omega) (by omega) hl hI K)
      · exact lv_tableIn (off := 290) (tgt := 323) hx hb dL_law_33 (by decide) (by decide) (by decide) (by decide) (lc_look hL C0 hE h8 (by omega) (by omega) hl hI K)
      · exact lv_tableIn (off := 323) (tgt := 356) hx hb dL_law_33 (by decide) (by decide) (by decide) (by decide) (lc_say hL C0 hE h8 (by omega) (by omega) hl hI K)
      · exact lv_tableIn (off := 346) (tgt := 379) hx hb dL_law_33 (by decide) (by decide) (by decide) (by decide) (lc_wipe hL C0 hE h8 (by omega) (by omega) hl hI K)
      · exact lv_tableIn (off := 359) (tgt := 392) hx hb dL_law_33 (by decide) (by decide) (by decide) (by decide) (lc_fault hL C0 hE h8 (by omega) (by omega) hl hI K)
      · exact lv_tableIn (off := 372) (tgt := 405) hx hb dL_law_33 (by decide) (by decide) (by decide) (by decide) (lc_saying hL C0 hE h8 (by omega) (by omega) hl hI K)
      · exact lv_tableIn (off := 395) (tgt := 428) hx hb dL_law_33 (by decide) (by decide) (by decide) (by decide) (lc_odds hL C0 hE h8 (by omega) (by omega) hl hI K)
      · exact lv_tableIn (off := 428) (tgt := 461) hx hb dL_law_33 (by decide) (by decide) (by decide) (by decide) (lc_such hL C0 hE h8 (by omega) (by omega) hl hI K)
      · exact lv_tableIn (off := 461) (tgt := 494) hx hb dL_law_33 (by decide) (by decide) (by decide) (by decide) (lc_wire hL C0 hE h8 (by omega) (by omega) hl hI K)
      · exact lv_tableIn (off := 494) (tgt := 527) hx hb dL_law_33 (by decide) (by decide) (by decide) (by decide) (lc_set hL C0 hE h8 (by omega) (by omega) hl hI K)
      · exact lv_tableIn (off := 527) (tgt := 560) hx hb dL_law_33 (by decide) (by decide) (by decide) (by decide) (lc_score hL C0 hE h8 (by omega) (by omega) hl hI K)
      · exact lv_tableIn (off := 561) (tgt := 594) hx hb dL_law_33 (by decide) (by decide) (by decide) (by decide) (lc_means hL C0 hE h8 (by omega) (by omega) hl hI K)
      · exact lv_tableIn (off := 614) (tgt := 647) hx hb dL_law_33 (by decide) (by decide) (by decide) (by decide) (lc_best hL C0 hE h8 (by omega) (by omega) hl hI K)
      · exact lv_tableIn (off := 637) (tgt := 670) hx hb dL_law_33 (by decide) (by decide) (by decide) (by decide) (lc_tried hL C0 hE h8 (by omega) (by omega) hl hI K)
      · exact lv_tableIn (off := 670) (tgt := 703) hx hb dL_law_33 (by decide) (by decide) (by decide) (by decide) (lc_lot hL C0 hE h8 (by omega) (by omega) hl hI K)
      · exact lv_tableIn (off := 704) (tgt := 737) hx hb dL_law_33 (by decide) (by decide) (by decide) (by decide) (lc_changed hL C0 hE h8 (by omega) (by omega) hl hI K)
      · exact lv_tableIn (off := 738) (tgt := 771) hx hb dL_law_33 (by decide) (by decide) (by decide) (by decide) (lc_engraved hL C0 hE h8 (by omega) (by omega) hl hI K)
      · exact lv_tableIn (off := 761) (tgt := 794) hx hb dL_law_33 (by decide) (by decide) (by decide) (by decide) (lc_right hL C0 hE h8 (by omega) (by omega) hl hI K)
      · exact lv_tableIn (off := 784) (tgt := 817) hx hb dL_law_33 (by decide) (by decide) (by decide) (by decide) (lc_glass hL C0 hE h8 (by omega) (by omega) hl hI K)
      · exact lv_tableIn (off := 837) (tgt := 870) hx hb dL_law_33 (by decide) (by decide) (by decide) (by decide) (lc_clear hL C0 hE h8 (by omega) (by omega) hl hI K)
      · exact lv_tableIn (off := 850) (tgt := 883) hx hb dL_law_33 (by decide) (by decide) (by decide) (by decide) (lc_may hL C0 hE h8 (by omega) (by omega) hl hI K)
      · exact lv_tableIn (off := 883) (tgt := 916) hx hb dL_law_33 (by decide) (by decide) (by decide) (by decide) (lc_low hL C0 hE h8 (by omega) (by omega) hl hI K)
      · exact lv_tableIn (off := 927) (tgt := 960) hx hb dL_law_33 (by decide) (by decide) (by decide) (by decide) (lc_hay hL C0 hE h8 (by omega) (by omega) hl hI K)
      · exact lv_tableIn (off := 1014) (tgt := 1047) hx hb dL_law_33 (by decide) (by decide) (by decide) (by decide) (lc_does hL C0 hE h8 (by omega) (by omega) hl hI K)
      · exact lv_tableIn (off := 1101) (tgt := 1134) hx hb dL_law_33 (by decide) (by decide) (by decide) (by decide) (lc_believed hL C0 hE h8 (by omega) (by omega) hl hI K)
      · exact lv_tableIn (off := 1144) (tgt := 1177) hx hb dL_law_33 (by decide) (by decide) (by decide) (by decide) (lc_image hL C0 hE h8 (by omega) (by omega) hl hI K)
      · exact lv_tableIn (off := 1167) (tgt := 1200) hx hb dL_law_33 (by decide) (by decide) (by decide) (by decide) (lc_restore hL C0 hE h8 (by omega) (by omega) hl hI K)
      · exact lv_tableIn (off := 1190) (tgt := 1223) hx hb dL_law_33 (by decide) (by decide) (by decide) (by decide) (lc_told hL C0 hE h8 (by omega) (by omega) hl hI K)
