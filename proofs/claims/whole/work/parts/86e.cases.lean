/-! the law's cases: may, low, hay, does, believed, told -/
set_option maxHeartbeats 4000000 in
set_option maxRecDepth 100000 in
theorem lc_may {p : Program} {l : Launch} {e : Env} {s : State} {m : MethodId} {below : List Frame} {meth : Method} {c : Code} {b L : Nat} {sc : Nat → Int32} {G : xG} {qa : Nat → Nat} {Q : State → Prop} {H : Heap} {locs : List Loc} {cells slots i : Nat} {ls : Array Slot} (hL : L ≤ 4096) (C0 : lw_At p s m meth c b L sc) (hE : xE G (fun q : Nat => s.heap.size ≤ q) s) (hi : i + 8 ≤ L) (hcl : cells ≤ 500000) (hsl : slots ≤ 6000000) (hl : lv_has ls 4 [(0, .ref b), (1, .ref (qa 0)), (2, .ref (qa 41)), (3, .int (nI i))]) (hI : lw_I G s qa H locs) (K : ∀ (H : Heap) (locs : List Loc) (cl sl : Nat), cl ≤ cells + 25 → sl ≤ slots + 732 → lw_I G s qa H locs → W p l e room_1 s m #[Value.ref b] below meth c H locs cl sl Q (F0 m 1246 ls [])) : W p l e room_1 s m #[Value.ref b] below meth c H locs cells slots Q (F0 m 883 ls []) := by
  obtain ⟨hx, hb, hr, hml, hown, hts0, hX, hbl, hlk, hgv⟩ := C0
  have hown : s.vm.findClass RL = some m.cls := hown
  have hts : ∀ w ∈ wsL_law, w.before #[Value.ref b] s = true := fun w hw => hts0 w (wsL_law_in w hw)
  have hA : ∀ q : Nat, s.heap.size ≤ q → (fun q : Nat => s.heap.size ≤ q) q := fun _ h => h
  have hbA : ¬ (fun q : Nat => s.heap.size ≤ q) b := Nat.not_le.mpr hbl
  obtain ⟨n, q, w, ca, z, mi, ne, st, y, mo, f, g, wi, sk, r, wr, ki, xs, ys, ps, ws, z0, g0, z1, g1, z2, g2, z3, g3, cs, fr, te, as, ho, nu, pz, sg, js, jd, jw, jv, ja, jt, jq, je, sA, sB, t1, t2, t3, t4, ka, iw, hd, hv, hw, kp, ik, o0, o1, T0, T1, hP, hD, hS, hR, hp, h0, h1⟩ := hI
  have hv1 : vp_in (nI i + 1) L := by rw [show nI i + 1 = nI (i + 1) from nI_add i 1]; exact vp_in_nI (by omega) (by omega)
  have hv2 : vp_in (nI i + 2) L := by rw [show nI i + 2 = nI (i + 2) from nI_add i 2]; exact vp_in_nI (by omega) (by omega)
  obtain ⟨o, e1, e2⟩ := t_may hR (sc (nI i + 1).toNatClampNeg) (sc (nI i + 2).toNatClampNeg)
  refine lv_aload_n hx hb dL_law_883 rfl (lv_at hl 1 rfl) ?_
  refine lv_aload_n hx hb dL_law_884 rfl (lv_at hl 0 rfl) ?_
  refine lv_iload_n hx hb dL_law_885 rfl (lv_at hl 3 rfl) ?_
  refine lv_iconst (v := 1) hx hb dL_law_886 (by decide) ?_
  refine lv_iadd hx hb dL_law_887 ?_
  refine va_sld hx hb hX hbl hbA hS hv1 dL_law_888 ?_
  refine lv_aload_n hx hb dL_law_889 rfl (lv_at hl 0 rfl) ?_
  refine lv_iload_n hx hb dL_law_890 rfl (lv_at hl 3 rfl) ?_
  refine lv_iconst (v := 2) hx hb dL_law_891 (by decide) ?_
  refine lv_iadd hx hb dL_law_892 ?_
  refine va_sld hx hb hX hbl hbA hS hv2 dL_law_893 ?_
  have hPr9 : va_P (xD G) vwCl [((qa 0), .inr (9, [.ref (qa 1), .ref (qa 27), .ref (qa 26), .ref (qa 29), .ref (qa 32), .ref (qa 35)])), ((qa 1), .inr (7, [.ref (qa 2), .ref (qa 3), .ref (qa 12), .ref (qa 17), .int (nI q), .int (nI w), .int (nI ca)])), ((qa 12), .inr (2, [.int (nI z), .ref (qa 13), .ref (qa 14), .ref (qa 15), .ref (qa 16)])), ((qa 13), .inl (xy G 0, 4, .inl xs)), ((qa 14), .inl (xy G 0, 4, .inl ys)), ((qa 15), .inl (xy G 0, 4, .inl ps)), ((qa 16), .inl (xy G 0, 4, .inl ws))] H := hP.sub [0, 1, 12, 13, 14, 15, 16] rfl
  refine x_calli (r := o) (va_runV (As := [.int (sc (nI i + 1).toNatClampNeg), .int (sc (nI i + 2).toNatClampNeg)]) (rest := []) ⟨hx, hb, hml, hown, hts⟩ (kX9_may l G H hPr9 e1) (cwV 2 hts gL_law_X9_may rfl rfl rfl (by decide +kernel) ⟨Nat.le_of_ble_eq_true rfl, Nat.le_of_ble_eq_true rfl⟩) (x_preV hE hS hP (ci := 9) (q0 := 0) rfl rfl) rfl rfl hl.1 rfl (lv_room (Nat.le_of_ble_eq_true rfl)) dL_law_894 ⟨(show cells + 0 ≤ 600000 by omega), (show slots + 0 ≤ 7302250 by omega)⟩) ?_
  refine lv_aload_n hx hb dL_law_897 rfl (lv_at hl 2 rfl) ?_
  refine lv_aload_n hx hb dL_law_898 rfl (lv_at hl 0 rfl) ?_
  refine lv_iload_n hx hb dL_law_899 rfl (lv_at hl 3 rfl) ?_
  refine lv_iconst (v := 1) hx hb dL_law_900 (by decide) ?_
  refine lv_iadd hx hb dL_law_901 ?_
  refine va_sld hx hb hX hbl hbA hS hv1 dL_law_902 ?_
  refine lv_aload_n hx hb dL_law_903 rfl (lv_at hl 0 rfl) ?_
  refine lv_iload_n hx hb dL_law_904 rfl (lv_at hl 3 rfl) ?_
  refine lv_iconst (v := 2) hx hb dL_law_905 (by decide) ?_
  refine lv_iadd hx hb dL_law_906 ?_
  refine va_sld hx hb hX hbl hbA hS hv2 dL_law_907 ?_
  have hPr10 : va_P (xD G) vwCl [((qa 41), .inr (10, [.int mi, .int ne, .int st, .ref (qa 42), .ref (qa 43), .ref (qa 44), .ref (qa 45), .ref (qa 46), .ref (qa 47), .ref (qa 48), .int (nI n), .ref (qa 49), .int (nI pz), .ref (qa 50), .ref (qa 51), .ref (qa 52), .ref (qa 53), .ref (qa 54), .ref (qa 55), .int (nI q), .int (nI w), .int (nI ca), .long sA, .long sB, .int t1, .int t2, .int t3, .int t4, .ref (qa 56), .ref (qa 57), .ref (qa 58), .ref (qa 59), .int (nI z), .ref (qa 60), .ref (qa 61), .ref (qa 62), .ref (qa 63), .ref (qa 64), .int ka, .int iw])), ((qa 56), .inl (xy G 0, 4, .inl xs)), ((qa 57), .inl (xy G 0, 4, .inl ys)), ((qa 58), .inl (xy G 0, 4, .inl ps)), ((qa 59), .inl (xy G 0, 4, .inl ws))] H := hP.sub [41, 56, 57, 58, 59] rfl
  refine x_calli (r := o) (va_runV (As := [.int (sc (nI i + 1).toNatClampNeg), .int (sc (nI i + 2).toNatClampNeg)]) (rest := [.int o]) ⟨hx, hb, hml, hown, hts⟩ (kX10_may l G H hPr10 e2) (cwV 2 hts gL_law_X10_may rfl rfl rfl (by decide +kernel) ⟨Nat.le_of_ble_eq_true rfl, Nat.le_of_ble_eq_true rfl⟩) (x_preV hE hS hP (ci := 10) (q0 := 41) rfl rfl) rfl rfl hl.1 rfl (lv_room (Nat.le_of_ble_eq_true rfl)) dL_law_908 ⟨(show cells + 0 ≤ 600000 by omega), (show slots + 0 ≤ 7302250 by omega)⟩) ?_
  refine lv_icmp_eq (tgt := 1246) hx hb dL_law_911 (by decide) (fun _ => ?_) (fun hc => absurd rfl hc)
  exact K H locs (cells) (slots) (by omega) (by omega) ⟨n, q, w, ca, z, mi, ne, st, y, mo, f, g, wi, sk, r, wr, ki, xs, ys, ps, ws, z0, g0, z1, g1, z2, g2, z3, g3, cs, fr, te, as, ho, nu, pz, sg, js, jd, jw, jv, ja, jt, jq, je, sA, sB, t1, t2, t3, t4, ka, iw, hd, hv, hw, kp, ik, o0, o1, T0, T1, hP, hD, hS, hR, hp, h0, h1⟩
set_option maxHeartbeats 4000000 in
set_option maxRecDepth 100000 in
theorem lc_low {p : Program} {l : Launch} {e : Env} {s : State} {m : MethodId} {below : List Frame} {meth : Method} {c : Code} {b L : Nat} {sc : Nat → Int32} {G : xG} {qa : Nat → Nat} {Q : State → Prop} {H : Heap} {locs : List Loc} {cells slots i : Nat} {ls : Array Slot} (hL : L ≤ 4096) (C0 : lw_At p s m meth c b L sc) (hE : xE G (fun q : Nat => s.heap.size ≤ q) s) (hi : i + 8 ≤ L) (hcl : cells ≤ 500000) (hsl : slots ≤ 6000000) (hl : lv_has ls 4 [(0, .ref b), (1, .ref (qa 0)), (2, .ref (qa 41)), (3, .int (nI i))]) (hI : lw_I G s qa H locs) (K : ∀ (H : Heap) (locs : List Loc) (cl sl : Nat), cl ≤ cells + 25 → sl ≤ slots + 732 → lw_I G s qa H locs → W p l e room_1 s m #[Value.ref b] below meth c H locs cl sl Q (F0 m 1246 ls [])) : W p l e room_1 s m #[Value.ref b] below meth c H locs cells slots Q (F0 m 916 ls []) := by
  obtain ⟨hx, hb, hr, hml, hown, hts0, hX, hbl, hlk, hgv⟩ := C0
  have hown : s.vm.findClass RL = some m.cls := hown
  have hts : ∀ w ∈ wsL_law, w.before #[Value.ref b] s = true := fun w hw => hts0 w (wsL_law_in w hw)
  have hA : ∀ q : Nat, s.heap.size ≤ q → (fun q : Nat => s.heap.size ≤ q) q := fun _ h => h
  have hbA : ¬ (fun q : Nat => s.heap.size ≤ q) b := Nat.not_le.mpr hbl
  obtain ⟨n, q, w, ca, z, mi, ne, st, y, mo, f, g, wi, sk, r, wr, ki, xs, ys, ps, ws, z0, g0, z1, g1, z2, g2, z3, g3, cs, fr, te, as, ho, nu, pz, sg, js, jd, jw, jv, ja, jt, jq, je, sA, sB, t1, t2, t3, t4, ka, iw, hd, hv, hw, kp, ik, o0, o1, T0, T1, hP, hD, hS, hR, hp, h0, h1⟩ := hI
  have hv1 : vp_in (nI i + 1) L := by rw [show nI i + 1 = nI (i + 1) from nI_add i 1]; exact vp_in_nI (by omega) (by omega)
  have hv2 : vp_in (nI i + 2) L := by rw [show nI i + 2 = nI (i + 2) from nI_add i 2]; exact vp_in_nI (by omega) (by omega)
  have hv3 : vp_in (nI i + 3) L := by rw [show nI i + 3 = nI (i + 3) from nI_add i 3]; exact vp_in_nI (by omega) (by omega)
  obtain ⟨o, e1, e2⟩ := t_low hR (sc (nI i + 1).toNatClampNeg) (sc (nI i + 2).toNatClampNeg) (sc (nI i + 3).toNatClampNeg)
  refine lv_aload_n hx hb dL_law_916 rfl (lv_at hl 1 rfl) ?_
  refine lv_aload_n hx hb dL_law_917 rfl (lv_at hl 0 rfl) ?_
  refine lv_iload_n hx hb dL_law_918 rfl (lv_at hl 3 rfl) ?_
  refine lv_iconst (v := 1) hx hb dL_law_919 (by decide) ?_
  refine lv_iadd hx hb dL_law_920 ?_
  refine va_sld hx hb hX hbl hbA hS hv1 dL_law_921 ?_
  refine lv_aload_n hx hb dL_law_922 rfl (lv_at hl 0 rfl) ?_
  refine lv_iload_n hx hb dL_law_923 rfl (lv_at hl 3 rfl) ?_
  refine lv_iconst (v := 2) hx hb dL_law_924 (by decide) ?_
  refine lv_iadd hx hb dL_law_925 ?_
  refine va_sld hx hb hX hbl hbA hS hv2 dL_law_926 ?_
  refine lv_aload_n hx hb dL_law_927 rfl (lv_at hl 0 rfl) ?_
  refine lv_iload_n hx hb dL_law_928 rfl (lv_at hl 3 rfl) ?_
  refine lv_iconst (v := 3) hx hb dL_law_929 (by decide) ?_
  refine lv_iadd hx hb dL_law_930 ?_
  refine va_sld hx hb hX hbl hbA hS hv3 dL_law_931 ?_
  have hPr9 : va_P (xD G) vwCl [((qa 0), .inr (9, [.ref (qa 1), .ref (qa 27), .ref (qa 26), .ref (qa 29), .ref (qa 32), .ref (qa 35)])), ((qa 1), .inr (7, [.ref (qa 2), .ref (qa 3), .ref (qa 12), .ref (qa 17), .int (nI q), .int (nI w), .int (nI ca)])), ((qa 12), .inr (2, [.int (nI z), .ref (qa 13), .ref (qa 14), .ref (qa 15), .ref (qa 16)])), ((qa 13), .inl (xy G 0, 4, .inl xs)), ((qa 14), .inl (xy G 0, 4, .inl ys)), ((qa 15), .inl (xy G 0, 4, .inl ps)), ((qa 16), .inl (xy G 0, 4, .inl ws))] H := hP.sub [0, 1, 12, 13, 14, 15, 16] rfl
  refine x_calll (r := o) (va_runV (As := [.int (sc (nI i + 1).toNatClampNeg), .int (sc (nI i + 2).toNatClampNeg), .int (sc (nI i + 3).toNatClampNeg)]) (rest := []) ⟨hx, hb, hml, hown, hts⟩ (kX9_low l G H hPr9 e1) (cwV 3 hts gL_law_X9_low rfl rfl rfl (by decide +kernel) ⟨Nat.le_of_ble_eq_true rfl, Nat.le_of_ble_eq_true rfl⟩) (x_preV hE hS hP (ci := 9) (q0 := 0) rfl rfl) rfl rfl hl.1 rfl (lv_room (Nat.le_of_ble_eq_true rfl)) dL_law_932 ⟨(show cells + 0 ≤ 600000 by omega), (show slots + 0 ≤ 7302250 by omega)⟩) ?_
  refine lv_aload_n hx hb dL_law_935 rfl (lv_at hl 2 rfl) ?_
  refine lv_aload_n hx hb dL_law_936 rfl (lv_at hl 0 rfl) ?_
  refine lv_iload_n hx hb dL_law_937 rfl (lv_at hl 3 rfl) ?_
  refine lv_iconst (v := 1) hx hb dL_law_938 (by decide) ?_
  refine lv_iadd hx hb dL_law_939 ?_
  refine va_sld hx hb hX hbl hbA hS hv1 dL_law_940 ?_
  refine lv_aload_n hx hb dL_law_941 rfl (lv_at hl 0 rfl) ?_
  refine lv_iload_n hx hb dL_law_942 rfl (lv_at hl 3 rfl) ?_
  refine lv_iconst (v := 2) hx hb dL_law_943 (by decide) ?_
  refine lv_iadd hx hb dL_law_944 ?_
  refine va_sld hx hb hX hbl hbA hS hv2 dL_law_945 ?_
  refine lv_aload_n hx hb dL_law_946 rfl (lv_at hl 0 rfl) ?_
  refine lv_iload_n hx hb dL_law_947 rfl (lv_at hl 3 rfl) ?_
  refine lv_iconst (v := 3) hx hb dL_law_948 (by decide) ?_
  refine lv_iadd hx hb dL_law_949 ?_
  refine va_sld hx hb hX hbl hbA hS hv3 dL_law_950 ?_
  have hPr10 : va_P (xD G) vwCl [((qa 41), .inr (10, [.int mi, .int ne, .int st, .ref (qa 42), .ref (qa 43), .ref (qa 44), .ref (qa 45), .ref (qa 46), .ref (qa 47), .ref (qa 48), .int (nI n), .ref (qa 49), .int (nI pz), .ref (qa 50), .ref (qa 51), .ref (qa 52), .ref (qa 53), .ref (qa 54), .ref (qa 55), .int (nI q), .int (nI w), .int (nI ca), .long sA, .long sB, .int t1, .int t2, .int t3, .int t4, .ref (qa 56), .ref (qa 57), .ref (qa 58), .ref (qa 59), .int (nI z), .ref (qa 60), .ref (qa 61), .ref (qa 62), .ref (qa 63), .ref (qa 64), .int ka, .int iw])), ((qa 56), .inl (xy G 0, 4, .inl xs)), ((qa 57), .inl (xy G 0, 4, .inl ys)), ((qa 58), .inl (xy G 0, 4, .inl ps)), ((qa 59), .inl (xy G 0, 4, .inl ws))] H := hP.sub [41, 56, 57, 58, 59] rfl
  refine x_calll (r := o) (va_runV (As := [.int (sc (nI i + 1).toNatClampNeg), .int (sc (nI i + 2).toNatClampNeg), .int (sc (nI i + 3).toNatClampNeg)]) (rest := [.long o]) ⟨hx, hb, hml, hown, hts⟩ (kX10_low l G H hPr10 e2) (cwV 3 hts gL_law_X10_low rfl rfl rfl (by decide +kernel) ⟨Nat.le_of_ble_eq_true rfl, Nat.le_of_ble_eq_true rfl⟩) (x_preV hE hS hP (ci := 10) (q0 := 41) rfl rfl) rfl rfl hl.1 rfl (lv_room (Nat.le_of_ble_eq_true rfl)) dL_law_951 ⟨(show cells + 0 ≤ 600000 by omega), (show slots + 0 ≤ 7302250 by omega)⟩) ?_
  refine W.lcmp hx hb dL_law_954 ?_
  refine lv_if_eq (tgt := 1246) hx hb dL_law_955 (by decide) (fun _ => ?_) (fun hc => absurd ((lg_cmp_eq _ _).mpr rfl) hc)
  exact K H locs (cells) (slots) (by omega) (by omega) ⟨n, q, w, ca, z, mi, ne, st, y, mo, f, g, wi, sk, r, wr, ki, xs, ys, ps, ws, z0, g0, z1, g1, z2, g2, z3, g3, cs, fr, te, as, ho, nu, pz, sg, js, jd, jw, jv, ja, jt, jq, je, sA, sB, t1, t2, t3, t4, ka, iw, hd, hv, hw, kp, ik, o0, o1, T0, T1, hP, hD, hS, hR, hp, h0, h1⟩
set_option maxHeartbeats 4000000 in
set_option maxRecDepth 100000 in
theorem lc_hay {p : Program} {l : Launch} {e : Env} {s : State} {m : MethodId} {below : List Frame} {meth : Method} {c : Code} {b L : Nat} {sc : Nat → Int32} {G : xG} {qa : Nat → Nat} {Q : State → Prop} {H : Heap} {locs : List Loc} {cells slots i : Nat} {ls : Array Slot} (hL : L ≤ 4096) (C0 : lw_At p s m meth c b L sc) (hE : xE G (fun q : Nat => s.heap.size ≤ q) s) (hi : i + 8 ≤ L) (hcl : cells ≤ 500000) (hsl : slots ≤ 6000000) (hl : lv_has ls 4 [(0, .ref b), (1, .ref (qa 0)), (2, .ref (qa 41)), (3, .int (nI i))]) (hI : lw_I G s qa H locs) (K : ∀ (H : Heap) (locs : List Loc) (cl sl : Nat), cl ≤ cells + 25 → sl ≤ slots + 732 → lw_I G s qa H locs → W p l e room_1 s m #[Value.ref b] below meth c H locs cl sl Q (F0 m 1246 ls [])) : W p l e room_1 s m #[Value.ref b] below meth c H locs cells slots Q (F0 m 960 ls []) := by
  obtain ⟨hx, hb, hr, hml, hown, hts0, hX, hbl, hlk, hgv⟩ := C0
  have hown : s.vm.findClass RL = some m.cls := hown
  have hts : ∀ w ∈ wsL_law, w.before #[Value.ref b] s = true := fun w hw => hts0 w (wsL_law_in w hw)
  have hA : ∀ q : Nat, s.heap.size ≤ q → (fun q : Nat => s.heap.size ≤ q) q := fun _ h => h
  have hbA : ¬ (fun q : Nat => s.heap.size ≤ q) b := Nat.not_le.mpr hbl
  obtain ⟨n, q, w, ca, z, mi, ne, st, y, mo, f, g, wi, sk, r, wr, ki, xs, ys, ps, ws, z0, g0, z1, g1, z2, g2, z3, g3, cs, fr, te, as, ho, nu, pz, sg, js, jd, jw, jv, ja, jt, jq, je, sA, sB, t1, t2, t3, t4, ka, iw, hd, hv, hw, kp, ik, o0, o1, T0, T1, hP, hD, hS, hR, hp, h0, h1⟩ := hI
  have hv1 : vp_in (nI i + 1) L := by rw [show nI i + 1 = nI (i + 1) from nI_add i 1]; exact vp_in_nI (by omega) (by omega)
  have hv2 : vp_in (nI i + 2) L := by rw [show nI i + 2 = nI (i + 2) from nI_add i 2]; exact vp_in_nI (by omega) (by omega)
  have hv3 : vp_in (nI i + 3) L := by rw [show nI i + 3 = nI (i + 3) from nI_add i 3]; exact vp_in_nI (by omega) (by omega)
  have hv4 : vp_in (nI i + 4) L := by rw [show nI i + 4 = nI (i + 4) from nI_add i 4]; exact vp_in_nI (by omega) (by omega)
  have hv5 : vp_in (nI i + 5) L := by rw [show nI i + 5 = nI (i + 5) from nI_add i 5]; exact vp_in_nI (by omega) (by omega)
  have hv6 : vp_in (nI i + 6) L := by rw [show nI i + 6 = nI (i + 6) from nI_add i 6]; exact vp_in_nI (by omega) (by omega)
  have hv7 : vp_in (nI i + 7) L := by rw [show nI i + 7 = nI (i + 7) from nI_add i 7]; exact vp_in_nI (by omega) (by omega)
  obtain ⟨o, hd', hv', hw', e1, e2⟩ := (m_hayBoth (sc (nI i + 1).toNatClampNeg) (sc (nI i + 2).toNatClampNeg) (sc (nI i + 3).toNatClampNeg) (sc (nI i + 4).toNatClampNeg) (sc (nI i + 5).toNatClampNeg) (sc (nI i + 6).toNatClampNeg) (sc (nI i + 7).toNatClampNeg) hd hv hw).1
  refine lv_aload_n hx hb dL_law_960 rfl (lv_at hl 1 rfl) ?_
  refine lv_aload_n hx hb dL_law_961 rfl (lv_at hl 0 rfl) ?_
  refine lv_iload_n hx hb dL_law_962 rfl (lv_at hl 3 rfl) ?_
  refine lv_iconst (v := 1) hx hb dL_law_963 (by decide) ?_
  refine lv_iadd hx hb dL_law_964 ?_
  refine va_sld hx hb hX hbl hbA hS hv1 dL_law_965 ?_
  refine lv_aload_n hx hb dL_law_966 rfl (lv_at hl 0 rfl) ?_
  refine lv_iload_n hx hb dL_law_967 rfl (lv_at hl 3 rfl) ?_
  refine lv_iconst (v := 2) hx hb dL_law_968 (by decide) ?_
  refine lv_iadd hx hb dL_law_969 ?_
  refine va_sld hx hb hX hbl hbA hS hv2 dL_law_970 ?_
  refine lv_aload_n hx hb dL_law_971 rfl (lv_at hl 0 rfl) ?_
  refine lv_iload_n hx hb dL_law_972 rfl (lv_at hl 3 rfl) ?_
  refine lv_iconst (v := 3) hx hb dL_law_973 (by decide) ?_
  refine lv_iadd hx hb dL_law_974 ?_
  refine va_sld hx hb hX hbl hbA hS hv3 dL_law_975 ?_
  refine lv_aload_n hx hb dL_law_976 rfl (lv_at hl 0 rfl) ?_
  refine lv_iload_n hx hb dL_law_977 rfl (lv_at hl 3 rfl) ?_
  refine lv_iconst (v := 4) hx hb dL_law_978 (by decide) ?_
  refine lv_iadd hx hb dL_law_979 ?_
  refine va_sld hx hb hX hbl hbA hS hv4 dL_law_980 ?_
  refine lv_aload_n hx hb dL_law_981 rfl (lv_at hl 0 rfl) ?_
  refine lv_iload_n hx hb dL_law_982 rfl (lv_at hl 3 rfl) ?_
  refine lv_iconst (v := 5) hx hb dL_law_983 (by decide) ?_
  refine lv_iadd hx hb dL_law_984 ?_
  refine va_sld hx hb hX hbl hbA hS hv5 dL_law_985 ?_
  refine lv_aload_n hx hb dL_law_986 rfl (lv_at hl 0 rfl) ?_
  refine lv_iload_n hx hb dL_law_987 rfl (lv_at hl 3 rfl) ?_
  refine lv_bipush (v := 6) hx hb dL_law_988 (by decide) ?_
  refine lv_iadd hx hb dL_law_990 ?_
  refine va_sld hx hb hX hbl hbA hS hv6 dL_law_991 ?_
  refine lv_aload_n hx hb dL_law_992 rfl (lv_at hl 0 rfl) ?_
  refine lv_iload_n hx hb dL_law_993 rfl (lv_at hl 3 rfl) ?_
  refine lv_bipush (v := 7) hx hb dL_law_994 (by decide) ?_
  refine lv_iadd hx hb dL_law_996 ?_
  refine va_sld hx hb hX hbl hbA hS hv7 dL_law_997 ?_
  have hPr9 : va_P (xD G) vwCl [] H := hP.sub [] rfl
  have hDr9 : va_D (fun q : Nat => s.heap.size ≤ q) [] := hD.sub [] (by decide) rfl
  have hFr9 := va_free (wc := []) hD hS hA [] rfl
  refine x_callwi (r := o) (wc := []) (w1 := []) (ws' := (lw_W2 G qa n q w ca z mi ne st y mo f g wi sk r wr ki xs ys ps ws z0 g0 z1 g1 z2 g2 z3 g3 cs fr te as ho nu pz sg js jd jw jv ja jt jq je sA sB t1 t2 t3 t4 ka iw hd hv hw kp ik o0 o1 n q w ca z mi ne st y mo g wi sk r wr xs ys ps ws cs fr te as ho nu pz sg sA sB t1 t2 t3 t4 ka iw hd hv hw kp ik (T0 ++ T1))) (va_runV (As := [.int (sc (nI i + 1).toNatClampNeg), .int (sc (nI i + 2).toNatClampNeg), .int (sc (nI i + 3).toNatClampNeg), .int (sc (nI i + 4).toNatClampNeg), .int (sc (nI i + 5).toNatClampNeg), .int (sc (nI i + 6).toNatClampNeg), .int (sc (nI i + 7).toNatClampNeg)]) (rest := []) ⟨hx, hb, hml, hown, hts⟩ (kX9_hay l G H [] rfl hPr9 (hDr9.weaken (fun _ _ _ _ => trivial)) e1) (cwV 7 hts gL_law_X9_hay rfl rfl rfl (by decide +kernel) ⟨Nat.le_of_ble_eq_true rfl, Nat.le_of_ble_eq_true rfl⟩) (x_preVw hE hS hFr9 hP (ci := 9) (q0 := 0) rfl rfl) rfl rfl hl.1 rfl (lv_room (Nat.le_of_ble_eq_true rfl)) dL_law_998 ⟨(show cells + 1 ≤ 600000 by omega), (show slots + 6 ≤ 7302250 by omega)⟩) hP hD hS hFr9 [] [] (n := 0) (by decide) rfl rfl rfl (fun H locs hP hD hS => ?_)
  refine lv_aload_n hx hb dL_law_1001 rfl (lv_at hl 2 rfl) ?_
  refine lv_aload_n hx hb dL_law_1002 rfl (lv_at hl 0 rfl) ?_
  refine lv_iload_n hx hb dL_law_1003 rfl (lv_at hl 3 rfl) ?_
  refine lv_iconst (v := 1) hx hb dL_law_1004 (by decide) ?_
  refine lv_iadd hx hb dL_law_1005 ?_
  refine va_sld hx hb hX hbl hbA hS hv1 dL_law_1006 ?_
  refine lv_aload_n hx hb dL_law_1007 rfl (lv_at hl 0 rfl) ?_
  refine lv_iload_n hx hb dL_law_1008 rfl (lv_at hl 3 rfl) ?_
  refine lv_iconst (v := 2) hx hb dL_law_1009 (by decide) ?_
  refine lv_iadd hx hb dL_law_1010 ?_
  refine va_sld hx hb hX hbl hbA hS hv2 dL_law_1011 ?_
  refine lv_aload_n hx hb dL_law_1012 rfl (lv_at hl 0 rfl) ?_
  refine lv_iload_n hx hb dL_law_1013 rfl (lv_at hl 3 rfl) ?_
  refine lv_iconst (v := 3) hx hb dL_law_1014 (by decide) ?_
  refine lv_iadd hx hb dL_law_1015 ?_
  refine va_sld hx hb hX hbl hbA hS hv3 dL_law_1016 ?_
  refine lv_aload_n hx hb dL_law_1017 rfl (lv_at hl 0 rfl) ?_
  refine lv_iload_n hx hb dL_law_1018 rfl (lv_at hl 3 rfl) ?_
  refine lv_iconst (v := 4) hx hb dL_law_1019 (by decide) ?_
  refine lv_iadd hx hb dL_law_1020 ?_
  refine va_sld hx hb hX hbl hbA hS hv4 dL_law_1021 ?_
  refine lv_aload_n hx hb dL_law_1022 rfl (lv_at hl 0 rfl) ?_
  refine lv_iload_n hx hb dL_law_1023 rfl (lv_at hl 3 rfl) ?_
  refine lv_iconst (v := 5) hx hb dL_law_1024 (by decide) ?_
  refine lv_iadd hx hb dL_law_1025 ?_
  refine va_sld hx hb hX hbl hbA hS hv5 dL_law_1026 ?_
  refine lv_aload_n hx hb dL_law_1027 rfl (lv_at hl 0 rfl) ?_
  refine lv_iload_n hx hb dL_law_1028 rfl (lv_at hl 3 rfl) ?_
  refine lv_bipush (v := 6) hx hb dL_law_1029 (by decide) ?_
  refine lv_iadd hx hb dL_law_1031 ?_
  refine va_sld hx hb hX hbl hbA hS hv6 dL_law_1032 ?_
  refine lv_aload_n hx hb dL_law_1033 rfl (lv_at hl 0 rfl) ?_
  refine lv_iload_n hx hb dL_law_1034 rfl (lv_at hl 3 rfl) ?_
  refine lv_bipush (v := 7) hx hb dL_law_1035 (by decide) ?_
  refine lv_iadd hx hb dL_law_1037 ?_
  refine va_sld hx hb hX hbl hbA hS hv7 dL_law_1038 ?_
  have hPr10 : va_P (xD G) vwCl [((qa 41), .inr (10, [.int mi, .int ne, .int st, .ref (qa 42), .ref (qa 43), .ref (qa 44), .ref (qa 45), .ref (qa 46), .ref (qa 47), .ref (qa 48), .int (nI n), .ref (qa 49), .int (nI pz), .ref (qa 50), .ref (qa 51), .ref (qa 52), .ref (qa 53), .ref (qa 54), .ref (qa 55), .int (nI q), .int (nI w), .int (nI ca), .long sA, .long sB, .int t1, .int t2, .int t3, .int t4, .ref (qa 56), .ref (qa 57), .ref (qa 58), .ref (qa 59), .int (nI z), .ref (qa 60), .ref (qa 61), .ref (qa 62), .ref (qa 63), .ref (qa 64), .int ka, .int iw])), ((qa 60), .inl (xy G 0, 9, .inl hd)), ((qa 61), .inl (xy G 0, 10, .inl hv)), ((qa 62), .inl (xy G 0, 10, .inl hw))] H := hP.sub [41, 60, 61, 62] rfl
  have hDr10 : va_D (fun q : Nat => s.heap.size ≤ q) [((qa 41), .inr (10, [.int mi, .int ne, .int st, .ref (qa 42), .ref (qa 43), .ref (qa 44), .ref (qa 45), .ref (qa 46), .ref (qa 47), .ref (qa 48), .int (nI n), .ref (qa 49), .int (nI pz), .ref (qa 50), .ref (qa 51), .ref (qa 52), .ref (qa 53), .ref (qa 54), .ref (qa 55), .int (nI q), .int (nI w), .int (nI ca), .long sA, .long sB, .int t1, .int t2, .int t3, .int t4, .ref (qa 56), .ref (qa 57), .ref (qa 58), .ref (qa 59), .int (nI z), .ref (qa 60), .ref (qa 61), .ref (qa 62), .ref (qa 63), .ref (qa 64), .int ka, .int iw])), ((qa 60), .inl (xy G 0, 9, .inl hd)), ((qa 61), .inl (xy G 0, 10, .inl hv)), ((qa 62), .inl (xy G 0, 10, .inl hw))] := hD.sub [41, 60, 61, 62] (by decide) rfl
  have hFr10 := va_free (wc := [((qa 41), .inr (10, [.int mi, .int ne, .int st, .ref (qa 42), .ref (qa 43), .ref (qa 44), .ref (qa 45), .ref (qa 46), .ref (qa 47), .ref (qa 48), .int (nI n), .ref (qa 49), .int (nI pz), .ref (qa 50), .ref (qa 51), .ref (qa 52), .ref (qa 53), .ref (qa 54), .ref (qa 55), .int (nI q), .int (nI w), .int (nI ca), .long sA, .long sB, .int t1, .int t2, .int t3, .int t4, .ref (qa 56), .ref (qa 57), .ref (qa 58), .ref (qa 59), .int (nI z), .ref (qa 60), .ref (qa 61), .ref (qa 62), .ref (qa 63), .ref (qa 64), .int ka, .int iw])), ((qa 60), .inl (xy G 0, 9, .inl hd)), ((qa 61), .inl (xy G 0, 10, .inl hv)), ((qa 62), .inl (xy G 0, 10, .inl hw))]) hD hS hA [41, 60, 61, 62] rfl
  refine x_callwi (r := o) (wc := [((qa 41), .inr (10, [.int mi, .int ne, .int st, .ref (qa 42), .ref (qa 43), .ref (qa 44), .ref (qa 45), .ref (qa 46), .ref (qa 47), .ref (qa 48), .int (nI n), .ref (qa 49), .int (nI pz), .ref (qa 50), .ref (qa 51), .ref (qa 52), .ref (qa 53), .ref (qa 54), .ref (qa 55), .int (nI q), .int (nI w), .int (nI ca), .long sA, .long sB, .int t1, .int t2, .int t3, .int t4, .ref (qa 56), .ref (qa 57), .ref (qa 58), .ref (qa 59), .int (nI z), .ref (qa 60), .ref (qa 61), .ref (qa 62), .ref (qa 63), .ref (qa 64), .int ka, .int iw])), ((qa 60), .inl (xy G 0, 9, .inl hd)), ((qa 61), .inl (xy G 0, 10, .inl hv)), ((qa 62), .inl (xy G 0, 10, .inl hw))]) (w1 := [((qa 41), .inr (10, [.int mi, .int ne, .int st, .ref (qa 42), .ref (qa 43), .ref (qa 44), .ref (qa 45), .ref (qa 46), .ref (qa 47), .ref (qa 48), .int (nI n), .ref (qa 49), .int (nI pz), .ref (qa 50), .ref (qa 51), .ref (qa 52), .ref (qa 53), .ref (qa 54), .ref (qa 55), .int (nI q), .int (nI w), .int (nI ca), .long sA, .long sB, .int t1, .int t2, .int t3, .int t4, .ref (qa 56), .ref (qa 57), .ref (qa 58), .ref (qa 59), .int (nI z), .ref (qa 60), .ref (qa 61), .ref (qa 62), .ref (qa 63), .ref (qa 64), .int ka, .int iw])), ((qa 60), .inl (xy G 0, 9, .inl (o, hd', hv', hw').2.1)), ((qa 61), .inl (xy G 0, 10, .inl (o, hd', hv', hw').2.2.1)), ((qa 62), .inl (xy G 0, 10, .inl (o, hd', hv', hw').2.2.2))]) (ws' := (lw_W G qa n q w ca z mi ne st y mo f g wi sk r wr ki xs ys ps ws z0 g0 z1 g1 z2 g2 z3 g3 cs fr te as ho nu pz sg js jd jw jv ja jt jq je sA sB t1 t2 t3 t4 ka iw hd' hv' hw' kp ik o0 o1 (T0 ++ T1))) (va_runV (As := [.int (sc (nI i + 1).toNatClampNeg), .int (sc (nI i + 2).toNatClampNeg), .int (sc (nI i + 3).toNatClampNeg), .int (sc (nI i + 4).toNatClampNeg), .int (sc (nI i + 5).toNatClampNeg), .int (sc (nI i + 6).toNatClampNeg), .int (sc (nI i + 7).toNatClampNeg)]) (rest := [.int o]) ⟨hx, hb, hml, hown, hts⟩ (kX10_hay l G H [((qa 41), .inr (10, [.int mi, .int ne, .int st, .ref (qa 42), .ref (qa 43), .ref (qa 44), .ref (qa 45), .ref (qa 46), .ref (qa 47), .ref (qa 48), .int (nI n), .ref (qa 49), .int (nI pz), .ref (qa 50), .ref (qa 51), .ref (qa 52), .ref (qa 53), .ref (qa 54), .ref (qa 55), .int (nI q), .int (nI w), .int (nI ca), .long sA, .long sB, .int t1, .int t2, .int t3, .int t4, .ref (qa 56), .ref (qa 57), .ref (qa 58), .ref (qa 59), .int (nI z), .ref (qa 60), .ref (qa 61), .ref (qa 62), .ref (qa 63), .ref (qa 64), .int ka, .int iw])), ((qa 60), .inl (xy G 0, 9, .inl hd)), ((qa 61), .inl (xy G 0, 10, .inl hv)), ((qa 62), .inl (xy G 0, 10, .inl hw))] rfl hPr10 (hDr10.weaken (fun _ _ _ _ => trivial)) e2) (cwV 7 hts gL_law_X10_hay rfl rfl rfl (by decide +kernel) ⟨Nat.le_of_ble_eq_true rfl, Nat.le_of_ble_eq_true rfl⟩) (x_preVw hE hS hFr10 hP (ci := 10) (q0 := 41) rfl rfl) rfl rfl hl.1 rfl (lv_room (Nat.le_of_ble_eq_true rfl)) dL_law_1039 ⟨(show cells + 1 + 0 ≤ 600000 by omega), (show slots + 6 + 0 ≤ 7302250 by omega)⟩) hP hD hS hFr10 [41, 60, 61, 62] [none, none, none, none, none, none, none, none, none, none, none, none, none, none, none, none, none, none, none, none, none, none, none, none, none, none, none, none, none, none, none, none, none, none, none, none, none, none, none, none, none, some 0, none, none, none, none, none, none, none, none, none, none, none, none, none, none, none, none, none, none, some 1, some 2, some 3] (n := 63) (by decide) rfl rfl rfl (fun H locs hP hD hS => ?_)
  refine lv_icmp_eq (tgt := 1246) hx hb dL_law_1042 (by decide) (fun _ => ?_) (fun hc => absurd rfl hc)
  exact K H locs (cells + 1 + 0) (slots + 6 + 0) (by omega) (by omega) ⟨n, q, w, ca, z, mi, ne, st, y, mo, f, g, wi, sk, r, wr, ki, xs, ys, ps, ws, z0, g0, z1, g1, z2, g2, z3, g3, cs, fr, te, as, ho, nu, pz, sg, js, jd, jw, jv, ja, jt, jq, je, sA, sB, t1, t2, t3, t4, ka, iw, hd', hv', hw', kp, ik, o0, o1, T0, T1, hP, hD, hS, hR, hp, h0, h1⟩
set_option maxHeartbeats 4000000 in
set_option maxRecDepth 100000 in
theorem lc_does {p : Program} {l : Launch} {e : Env} {s : State} {m : MethodId} {below : List Frame} {meth : Method} {c : Code} {b L : Nat} {sc : Nat → Int32} {G : xG} {qa : Nat → Nat} {Q : State → Prop} {H : Heap} {locs : List Loc} {cells slots i : Nat} {ls : Array Slot} (hL : L ≤ 4096) (C0 : lw_At p s m meth c b L sc) (hE : xE G (fun q : Nat => s.heap.size ≤ q) s) (hi : i + 8 ≤ L) (hcl : cells ≤ 500000) (hsl : slots ≤ 6000000) (hl : lv_has ls 4 [(0, .ref b), (1, .ref (qa 0)), (2, .ref (qa 41)), (3, .int (nI i))]) (hI : lw_I G s qa H locs) (K : ∀ (H : Heap) (locs : List Loc) (cl sl : Nat), cl ≤ cells + 25 → sl ≤ slots + 732 → lw_I G s qa H locs → W p l e room_1 s m #[Value.ref b] below meth c H locs cl sl Q (F0 m 1246 ls [])) : W p l e room_1 s m #[Value.ref b] below meth c H locs cells slots Q (F0 m 1047 ls []) := by
  obtain ⟨hx, hb, hr, hml, hown, hts0, hX, hbl, hlk, hgv⟩ := C0
  have hown : s.vm.findClass RL = some m.cls := hown
  have hts : ∀ w ∈ wsL_law, w.before #[Value.ref b] s = true := fun w hw => hts0 w (wsL_law_in w hw)
  have hA : ∀ q : Nat, s.heap.size ≤ q → (fun q : Nat => s.heap.size ≤ q) q := fun _ h => h
  have hbA : ¬ (fun q : Nat => s.heap.size ≤ q) b := Nat.not_le.mpr hbl
  obtain ⟨n, q, w, ca, z, mi, ne, st, y, mo, f, g, wi, sk, r, wr, ki, xs, ys, ps, ws, z0, g0, z1, g1, z2, g2, z3, g3, cs, fr, te, as, ho, nu, pz, sg, js, jd, jw, jv, ja, jt, jq, je, sA, sB, t1, t2, t3, t4, ka, iw, hd, hv, hw, kp, ik, o0, o1, T0, T1, hP, hD, hS, hR, hp, h0, h1⟩ := hI
  have hv1 : vp_in (nI i + 1) L := by rw [show nI i + 1 = nI (i + 1) from nI_add i 1]; exact vp_in_nI (by omega) (by omega)
  have hv2 : vp_in (nI i + 2) L := by rw [show nI i + 2 = nI (i + 2) from nI_add i 2]; exact vp_in_nI (by omega) (by omega)
  have hv3 : vp_in (nI i + 3) L := by rw [show nI i + 3 = nI (i + 3) from nI_add i 3]; exact vp_in_nI (by omega) (by omega)
  have hv4 : vp_in (nI i + 4) L := by rw [show nI i + 4 = nI (i + 4) from nI_add i 4]; exact vp_in_nI (by omega) (by omega)
  have hv5 : vp_in (nI i + 5) L := by rw [show nI i + 5 = nI (i + 5) from nI_add i 5]; exact vp_in_nI (by omega) (by omega)
  have hv6 : vp_in (nI i + 6) L := by rw [show nI i + 6 = nI (i + 6) from nI_add i 6]; exact vp_in_nI (by omega) (by omega)
  have hv7 : vp_in (nI i + 7) L := by rw [show nI i + 7 = nI (i + 7) from nI_add i 7]; exact vp_in_nI (by omega) (by omega)
  obtain ⟨o, hd', hv', hw', e1, e2⟩ := (m_hayBoth (sc (nI i + 1).toNatClampNeg) (sc (nI i + 2).toNatClampNeg) (sc (nI i + 3).toNatClampNeg) (sc (nI i + 4).toNatClampNeg) (sc (nI i + 5).toNatClampNeg) (sc (nI i + 6).toNatClampNeg) (sc (nI i + 7).toNatClampNeg) hd hv hw).2
  refine lv_aload_n hx hb dL_law_1047 rfl (lv_at hl 1 rfl) ?_
  refine lv_aload_n hx hb dL_law_1048 rfl (lv_at hl 0 rfl) ?_
  refine lv_iload_n hx hb dL_law_1049 rfl (lv_at hl 3 rfl) ?_
  refine lv_iconst (v := 1) hx hb dL_law_1050 (by decide) ?_
  refine lv_iadd hx hb dL_law_1051 ?_
  refine va_sld hx hb hX hbl hbA hS hv1 dL_law_1052 ?_
  refine lv_aload_n hx hb dL_law_1053 rfl (lv_at hl 0 rfl) ?_
  refine lv_iload_n hx hb dL_law_1054 rfl (lv_at hl 3 rfl) ?_
  refine lv_iconst (v := 2) hx hb dL_law_1055 (by decide) ?_
  refine lv_iadd hx hb dL_law_1056 ?_
  refine va_sld hx hb hX hbl hbA hS hv2 dL_law_1057 ?_
  refine lv_aload_n hx hb dL_law_1058 rfl (lv_at hl 0 rfl) ?_
  refine lv_iload_n hx hb dL_law_1059 rfl (lv_at hl 3 rfl) ?_
  refine lv_iconst (v := 3) hx hb dL_law_1060 (by decide) ?_
  refine lv_iadd hx hb dL_law_1061 ?_
  refine va_sld hx hb hX hbl hbA hS hv3 dL_law_1062 ?_
  refine lv_aload_n hx hb dL_law_1063 rfl (lv_at hl 0 rfl) ?_
  refine lv_iload_n hx hb dL_law_1064 rfl (lv_at hl 3 rfl) ?_
  refine lv_iconst (v := 4) hx hb dL_law_1065 (by decide) ?_
  refine lv_iadd hx hb dL_law_1066 ?_
  refine va_sld hx hb hX hbl hbA hS hv4 dL_law_1067 ?_
  refine lv_aload_n hx hb dL_law_1068 rfl (lv_at hl 0 rfl) ?_
  refine lv_iload_n hx hb dL_law_1069 rfl (lv_at hl 3 rfl) ?_
  refine lv_iconst (v := 5) hx hb dL_law_1070 (by decide) ?_
  refine lv_iadd hx hb dL_law_1071 ?_
  refine va_sld hx hb hX hbl hbA hS hv5 dL_law_1072 ?_
  refine lv_aload_n hx hb dL_law_1073 rfl (lv_at hl 0 rfl) ?_
  refine lv_iload_n hx hb dL_law_1074 rfl (lv_at hl 3 rfl) ?_
  refine lv_bipush (v := 6) hx hb dL_law_1075 (by decide) ?_
  refine lv_iadd hx hb dL_law_1077 ?_
  refine va_sld hx hb hX hbl hbA hS hv6 dL_law_1078 ?_
  refine lv_aload_n hx hb dL_law_1079 rfl (lv_at hl 0 rfl) ?_
  refine lv_iload_n hx hb dL_law_1080 rfl (lv_at hl 3 rfl) ?_
  refine lv_bipush (v := 7) hx hb dL_law_1081 (by decide) ?_
  refine lv_iadd hx hb dL_law_1083 ?_
  refine va_sld hx hb hX hbl hbA hS hv7 dL_law_1084 ?_
  have hPr9 : va_P (xD G) vwCl [] H := hP.sub [] rfl
  have hDr9 : va_D (fun q : Nat => s.heap.size ≤ q) [] := hD.sub [] (by decide) rfl
  have hFr9 := va_free (wc := []) hD hS hA [] rfl
  refine x_callwi (r := o) (wc := []) (w1 := []) (ws' := (lw_W2 G qa n q w ca z mi ne st y mo f g wi sk r wr ki xs ys ps ws z0 g0 z1 g1 z2 g2 z3 g3 cs fr te as ho nu pz sg js jd jw jv ja jt jq je sA sB t1 t2 t3 t4 ka iw hd hv hw kp ik o0 o1 n q w ca z mi ne st y mo g wi sk r wr xs ys ps ws cs fr te as ho nu pz sg sA sB t1 t2 t3 t4 ka iw hd hv hw kp ik (T0 ++ T1))) (va_runV (As := [.int (sc (nI i + 1).toNatClampNeg), .int (sc (nI i + 2).toNatClampNeg), .int (sc (nI i + 3).toNatClampNeg), .int (sc (nI i + 4).toNatClampNeg), .int (sc (nI i + 5).toNatClampNeg), .int (sc (nI i + 6).toNatClampNeg), .int (sc (nI i + 7).toNatClampNeg)]) (rest := []) ⟨hx, hb, hml, hown, hts⟩ (kX9_does l G H [] rfl hPr9 (hDr9.weaken (fun _ _ _ _ => trivial)) e1) (cwV 7 hts gL_law_X9_does rfl rfl rfl (by decide +kernel) ⟨Nat.le_of_ble_eq_true rfl, Nat.le_of_ble_eq_true rfl⟩) (x_preVw hE hS hFr9 hP (ci := 9) (q0 := 0) rfl rfl) rfl rfl hl.1 rfl (lv_room (Nat.le_of_ble_eq_true rfl)) dL_law_1085 ⟨(show cells + 1 ≤ 600000 by omega), (show slots + 6 ≤ 7302250 by omega)⟩) hP hD hS hFr9 [] [] (n := 0) (by decide) rfl rfl rfl (fun H locs hP hD hS => ?_)
  refine lv_aload_n hx hb dL_law_1088 rfl (lv_at hl 2 rfl) ?_
  refine lv_aload_n hx hb dL_law_1089 rfl (lv_at hl 0 rfl) ?_
  refine lv_iload_n hx hb dL_law_1090 rfl (lv_at hl 3 rfl) ?_
  refine lv_iconst (v := 1) hx hb dL_law_1091 (by decide) ?_
  refine lv_iadd hx hb dL_law_1092 ?_
  refine va_sld hx hb hX hbl hbA hS hv1 dL_law_1093 ?_
  refine lv_aload_n hx hb dL_law_1094 rfl (lv_at hl 0 rfl) ?_
  refine lv_iload_n hx hb dL_law_1095 rfl (lv_at hl 3 rfl) ?_
  refine lv_iconst (v := 2) hx hb dL_law_1096 (by decide) ?_
  refine lv_iadd hx hb dL_law_1097 ?_
  refine va_sld hx hb hX hbl hbA hS hv2 dL_law_1098 ?_
  refine lv_aload_n hx hb dL_law_1099 rfl (lv_at hl 0 rfl) ?_
  refine lv_iload_n hx hb dL_law_1100 rfl (lv_at hl 3 rfl) ?_
  refine lv_iconst (v := 3) hx hb dL_law_1101 (by decide) ?_
  refine lv_iadd hx hb dL_law_1102 ?_
  refine va_sld hx hb hX hbl hbA hS hv3 dL_law_1103 ?_
  refine lv_aload_n hx hb dL_law_1104 rfl (lv_at hl 0 rfl) ?_
  refine lv_iload_n hx hb dL_law_1105 rfl (lv_at hl 3 rfl) ?_
  refine lv_iconst (v := 4) hx hb dL_law_1106 (by decide) ?_
  refine lv_iadd hx hb dL_law_1107 ?_
  refine va_sld hx hb hX hbl hbA hS hv4 dL_law_1108 ?_
  refine lv_aload_n hx hb dL_law_1109 rfl (lv_at hl 0 rfl) ?_
  refine lv_iload_n hx hb dL_law_1110 rfl (lv_at hl 3 rfl) ?_
  refine lv_iconst (v := 5) hx hb dL_law_1111 (by decide) ?_
  refine lv_iadd hx hb dL_law_1112 ?_
  refine va_sld hx hb hX hbl hbA hS hv5 dL_law_1113 ?_
  refine lv_aload_n hx hb dL_law_1114 rfl (lv_at hl 0 rfl) ?_
  refine lv_iload_n hx hb dL_law_1115 rfl (lv_at hl 3 rfl) ?_
  refine lv_bipush (v := 6) hx hb dL_law_1116 (by decide) ?_
  refine lv_iadd hx hb dL_law_1118 ?_
  refine va_sld hx hb hX hbl hbA hS hv6 dL_law_1119 ?_
  refine lv_aload_n hx hb dL_law_1120 rfl (lv_at hl 0 rfl) ?_
  refine lv_iload_n hx hb dL_law_1121 rfl (lv_at hl 3 rfl) ?_
  refine lv_bipush (v := 7) hx hb dL_law_1122 (by decide) ?_
  refine lv_iadd hx hb dL_law_1124 ?_
  refine va_sld hx hb hX hbl hbA hS hv7 dL_law_1125 ?_
  have hPr10 : va_P (xD G) vwCl [((qa 41), .inr (10, [.int mi, .int ne, .int st, .ref (qa 42), .ref (qa 43), .ref (qa 44), .ref (qa 45), .ref (qa 46), .ref (qa 47), .ref (qa 48), .int (nI n), .ref (qa 49), .int (nI pz), .ref (qa 50), .ref (qa 51), .ref (qa 52), .ref (qa 53), .ref (qa 54), .ref (qa 55), .int (nI q), .int (nI w), .int (nI ca), .long sA, .long sB, .int t1, .int t2, .int t3, .int t4, .ref (qa 56), .ref (qa 57), .ref (qa 58), .ref (qa 59), .int (nI z), .ref (qa 60), .ref (qa 61), .ref (qa 62), .ref (qa 63), .ref (qa 64), .int ka, .int iw])), ((qa 60), .inl (xy G 0, 9, .inl hd)), ((qa 61), .inl (xy G 0, 10, .inl hv)), ((qa 62), .inl (xy G 0, 10, .inl hw))] H := hP.sub [41, 60, 61, 62] rfl
  have hDr10 : va_D (fun q : Nat => s.heap.size ≤ q) [((qa 41), .inr (10, [.int mi, .int ne, .int st, .ref (qa 42), .ref (qa 43), .ref (qa 44), .ref (qa 45), .ref (qa 46), .ref (qa 47), .ref (qa 48), .int (nI n), .ref (qa 49), .int (nI pz), .ref (qa 50), .ref (qa 51), .ref (qa 52), .ref (qa 53), .ref (qa 54), .ref (qa 55), .int (nI q), .int (nI w), .int (nI ca), .long sA, .long sB, .int t1, .int t2, .int t3, .int t4, .ref (qa 56), .ref (qa 57), .ref (qa 58), .ref (qa 59), .int (nI z), .ref (qa 60), .ref (qa 61), .ref (qa 62), .ref (qa 63), .ref (qa 64), .int ka, .int iw])), ((qa 60), .inl (xy G 0, 9, .inl hd)), ((qa 61), .inl (xy G 0, 10, .inl hv)), ((qa 62), .inl (xy G 0, 10, .inl hw))] := hD.sub [41, 60, 61, 62] (by decide) rfl
  have hFr10 := va_free (wc := [((qa 41), .inr (10, [.int mi, .int ne, .int st, .ref (qa 42), .ref (qa 43), .ref (qa 44), .ref (qa 45), .ref (qa 46), .ref (qa 47), .ref (qa 48), .int (nI n), .ref (qa 49), .int (nI pz), .ref (qa 50), .ref (qa 51), .ref (qa 52), .ref (qa 53), .ref (qa 54), .ref (qa 55), .int (nI q), .int (nI w), .int (nI ca), .long sA, .long sB, .int t1, .int t2, .int t3, .int t4, .ref (qa 56), .ref (qa 57), .ref (qa 58), .ref (qa 59), .int (nI z), .ref (qa 60), .ref (qa 61), .ref (qa 62), .ref (qa 63), .ref (qa 64), .int ka, .int iw])), ((qa 60), .inl (xy G 0, 9, .inl hd)), ((qa 61), .inl (xy G 0, 10, .inl hv)), ((qa 62), .inl (xy G 0, 10, .inl hw))]) hD hS hA [41, 60, 61, 62] rfl
  refine x_callwi (r := o) (wc := [((qa 41), .inr (10, [.int mi, .int ne, .int st, .ref (qa 42), .ref (qa 43), .ref (qa 44), .ref (qa 45), .ref (qa 46), .ref (qa 47), .ref (qa 48), .int (nI n), .ref (qa 49), .int (nI pz), .ref (qa 50), .ref (qa 51), .ref (qa 52), .ref (qa 53), .ref (qa 54), .ref (qa 55), .int (nI q), .int (nI w), .int (nI ca), .long sA, .long sB, .int t1, .int t2, .int t3, .int t4, .ref (qa 56), .ref (qa 57), .ref (qa 58), .ref (qa 59), .int (nI z), .ref (qa 60), .ref (qa 61), .ref (qa 62), .ref (qa 63), .ref (qa 64), .int ka, .int iw])), ((qa 60), .inl (xy G 0, 9, .inl hd)), ((qa 61), .inl (xy G 0, 10, .inl hv)), ((qa 62), .inl (xy G 0, 10, .inl hw))]) (w1 := [((qa 41), .inr (10, [.int mi, .int ne, .int st, .ref (qa 42), .ref (qa 43), .ref (qa 44), .ref (qa 45), .ref (qa 46), .ref (qa 47), .ref (qa 48), .int (nI n), .ref (qa 49), .int (nI pz), .ref (qa 50), .ref (qa 51), .ref (qa 52), .ref (qa 53), .ref (qa 54), .ref (qa 55), .int (nI q), .int (nI w), .int (nI ca), .long sA, .long sB, .int t1, .int t2, .int t3, .int t4, .ref (qa 56), .ref (qa 57), .ref (qa 58), .ref (qa 59), .int (nI z), .ref (qa 60), .ref (qa 61), .ref (qa 62), .ref (qa 63), .ref (qa 64), .int ka, .int iw])), ((qa 60), .inl (xy G 0, 9, .inl (o, hd', hv', hw').2.1)), ((qa 61), .inl (xy G 0, 10, .inl (o, hd', hv', hw').2.2.1)), ((qa 62), .inl (xy G 0, 10, .inl (o, hd', hv', hw').2.2.2))]) (ws' := (lw_W G qa n q w ca z mi ne st y mo f g wi sk r wr ki xs ys ps ws z0 g0 z1 g1 z2 g2 z3 g3 cs fr te as ho nu pz sg js jd jw jv ja jt jq je sA sB t1 t2 t3 t4 ka iw hd' hv' hw' kp ik o0 o1 (T0 ++ T1))) (va_runV (As := [.int (sc (nI i + 1).toNatClampNeg), .int (sc (nI i + 2).toNatClampNeg), .int (sc (nI i + 3).toNatClampNeg), .int (sc (nI i + 4).toNatClampNeg), .int (sc (nI i + 5).toNatClampNeg), .int (sc (nI i + 6).toNatClampNeg), .int (sc (nI i + 7).toNatClampNeg)]) (rest := [.int o]) ⟨hx, hb, hml, hown, hts⟩ (kX10_does l G H [((qa 41), .inr (10, [.int mi, .int ne, .int st, .ref (qa 42), .ref (qa 43), .ref (qa 44), .ref (qa 45), .ref (qa 46), .ref (qa 47), .ref (qa 48), .int (nI n), .ref (qa 49), .int (nI pz), .ref (qa 50), .ref (qa 51), .ref (qa 52), .ref (qa 53), .ref (qa 54), .ref (qa 55), .int (nI q), .int (nI w), .int (nI ca), .long sA, .long sB, .int t1, .int t2, .int t3, .int t4, .ref (qa 56), .ref (qa 57), .ref (qa 58), .ref (qa 59), .int (nI z), .ref (qa 60), .ref (qa 61), .ref (qa 62), .ref (qa 63), .ref (qa 64), .int ka, .int iw])), ((qa 60), .inl (xy G 0, 9, .inl hd)), ((qa 61), .inl (xy G 0, 10, .inl hv)), ((qa 62), .inl (xy G 0, 10, .inl hw))] rfl hPr10 (hDr10.weaken (fun _ _ _ _ => trivial)) e2) (cwV 7 hts gL_law_X10_does rfl rfl rfl (by decide +kernel) ⟨Nat.le_of_ble_eq_true rfl, Nat.le_of_ble_eq_true rfl⟩) (x_preVw hE hS hFr10 hP (ci := 10) (q0 := 41) rfl rfl) rfl rfl hl.1 rfl (lv_room (Nat.le_of_ble_eq_true rfl)) dL_law_1126 ⟨(show cells + 1 + 0 ≤ 600000 by omega), (show slots + 6 + 0 ≤ 7302250 by omega)⟩) hP hD hS hFr10 [41, 60, 61, 62] [none, none, none, none, none, none, none, none, none, none, none, none, none, none, none, none, none, none, none, none, none, none, none, none, none, none, none, none, none, none, none, none, none, none, none, none, none, none, none, none, none, some 0, none, none, none, none, none, none, none, none, none, none, none, none, none, none, none, none, none, none, some 1, some 2, some 3] (n := 63) (by decide) rfl rfl rfl (fun H locs hP hD hS => ?_)
  refine lv_icmp_eq (tgt := 1246) hx hb dL_law_1129 (by decide) (fun _ => ?_) (fun hc => absurd rfl hc)
  exact K H locs (cells + 1 + 0) (slots + 6 + 0) (by omega) (by omega) ⟨n, q, w, ca, z, mi, ne, st, y, mo, f, g, wi, sk, r, wr, ki, xs, ys, ps, ws, z0, g0, z1, g1, z2, g2, z3, g3, cs, fr, te, as, ho, nu, pz, sg, js, jd, jw, jv, ja, jt, jq, je, sA, sB, t1, t2, t3, t4, ka, iw, hd', hv', hw', kp, ik, o0, o1, T0, T1, hP, hD, hS, hR, hp, h0, h1⟩
set_option maxHeartbeats 4000000 in
set_option maxRecDepth 100000 in
theorem lc_believed {p : Program} {l : Launch} {e : Env} {s : State} {m : MethodId} {below : List Frame} {meth : Method} {c : Code} {b L : Nat} {sc : Nat → Int32} {G : xG} {qa : Nat → Nat} {Q : State → Prop} {H : Heap} {locs : List Loc} {cells slots i : Nat} {ls : Array Slot} (hL : L ≤ 4096) (C0 : lw_At p s m meth c b L sc) (hE : xE G (fun q : Nat => s.heap.size ≤ q) s) (hi : i + 8 ≤ L) (hcl : cells ≤ 500000) (hsl : slots ≤ 6000000) (hl : lv_has ls 4 [(0, .ref b), (1, .ref (qa 0)), (2, .ref (qa 41)), (3, .int (nI i))]) (hI : lw_I G s qa H locs) (K : ∀ (H : Heap) (locs : List Loc) (cl sl : Nat), cl ≤ cells + 25 → sl ≤ slots + 732 → lw_I G s qa H locs → W p l e room_1 s m #[Value.ref b] below meth c H locs cl sl Q (F0 m 1246 ls [])) : W p l e room_1 s m #[Value.ref b] below meth c H locs cells slots Q (F0 m 1134 ls []) := by
  obtain ⟨hx, hb, hr, hml, hown, hts0, hX, hbl, hlk, hgv⟩ := C0
  have hown : s.vm.findClass RL = some m.cls := hown
  have hts : ∀ w ∈ wsL_law, w.before #[Value.ref b] s = true := fun w hw => hts0 w (wsL_law_in w hw)
  have hA : ∀ q : Nat, s.heap.size ≤ q → (fun q : Nat => s.heap.size ≤ q) q := fun _ h => h
  have hbA : ¬ (fun q : Nat => s.heap.size ≤ q) b := Nat.not_le.mpr hbl
  obtain ⟨n, q, w, ca, z, mi, ne, st, y, mo, f, g, wi, sk, r, wr, ki, xs, ys, ps, ws, z0, g0, z1, g1, z2, g2, z3, g3, cs, fr, te, as, ho, nu, pz, sg, js, jd, jw, jv, ja, jt, jq, je, sA, sB, t1, t2, t3, t4, ka, iw, hd, hv, hw, kp, ik, o0, o1, T0, T1, hP, hD, hS, hR, hp, h0, h1⟩ := hI
  have hv1 : vp_in (nI i + 1) L := by rw [show nI i + 1 = nI (i + 1) from nI_add i 1]; exact vp_in_nI (by omega) (by omega)
  have hv2 : vp_in (nI i + 2) L := by rw [show nI i + 2 = nI (i + 2) from nI_add i 2]; exact vp_in_nI (by omega) (by omega)
  have hv3 : vp_in (nI i + 3) L := by rw [show nI i + 3 = nI (i + 3) from nI_add i 3]; exact vp_in_nI (by omega) (by omega)
  obtain ⟨o, e1, e2⟩ := t_believed hR (sc (nI i + 1).toNatClampNeg) (sc (nI i + 2).toNatClampNeg) (sc (nI i + 3).toNatClampNeg)
  refine lv_aload_n hx hb dL_law_1134 rfl (lv_at hl 1 rfl) ?_
  refine lv_aload_n hx hb dL_law_1135 rfl (lv_at hl 0 rfl) ?_
  refine lv_iload_n hx hb dL_law_1136 rfl (lv_at hl 3 rfl) ?_
  refine lv_iconst (v := 1) hx hb dL_law_1137 (by decide) ?_
  refine lv_iadd hx hb dL_law_1138 ?_
  refine va_sld hx hb hX hbl hbA hS hv1 dL_law_1139 ?_
  refine lv_aload_n hx hb dL_law_1140 rfl (lv_at hl 0 rfl) ?_
  refine lv_iload_n hx hb dL_law_1141 rfl (lv_at hl 3 rfl) ?_
  refine lv_iconst (v := 2) hx hb dL_law_1142 (by decide) ?_
  refine lv_iadd hx hb dL_law_1143 ?_
  refine va_sld hx hb hX hbl hbA hS hv2 dL_law_1144 ?_
  refine lv_aload_n hx hb dL_law_1145 rfl (lv_at hl 0 rfl) ?_
  refine lv_iload_n hx hb dL_law_1146 rfl (lv_at hl 3 rfl) ?_
  refine lv_iconst (v := 3) hx hb dL_law_1147 (by decide) ?_
  refine lv_iadd hx hb dL_law_1148 ?_
  refine va_sld hx hb hX hbl hbA hS hv3 dL_law_1149 ?_
  have hPr9 : va_P (xD G) vwCl [((qa 0), .inr (9, [.ref (qa 1), .ref (qa 27), .ref (qa 26), .ref (qa 29), .ref (qa 32), .ref (qa 35)])), ((qa 1), .inr (7, [.ref (qa 2), .ref (qa 3), .ref (qa 12), .ref (qa 17), .int (nI q), .int (nI w), .int (nI ca)])), ((qa 3), .inr (0, [.int (nI n), .ref (qa 4), .ref (qa 5), .ref (qa 6), .ref (qa 7), .ref (qa 8), .ref (qa 9), .ref (qa 10), .ref (qa 11)])), ((qa 4), .inl (xy G 0, 60, .inl y)), ((qa 5), .inl (xy G 0, 60, .inl mo)), ((qa 6), .inl (xy G 0, 60, .inl f)), ((qa 7), .inl (xy G 0, 60, .inl wi)), ((qa 8), .inl (xy G 0, 60, .inl sk)), ((qa 9), .inl (xy G 0, 60, .inl r)), ((qa 10), .inl (xy G 0, 60, .inl wr)), ((qa 11), .inl (xy G 0, 60, .inl ki)), ((qa 17), .inl (xy G 3, 4, .inr (.inr (.inr (.inr (x4 (qa 18) (qa 20) (qa 22) (qa 24))))))), ((qa 18), .inr (8, [.int z0, .ref (qa 19)])), ((qa 19), .inl (xy G 0, 50, .inl g0)), ((qa 20), .inr (8, [.int z1, .ref (qa 21)])), ((qa 21), .inl (xy G 0, 50, .inl g1)), ((qa 22), .inr (8, [.int z2, .ref (qa 23)])), ((qa 23), .inl (xy G 0, 50, .inl g2)), ((qa 24), .inr (8, [.int z3, .ref (qa 25)])), ((qa 25), .inl (xy G 0, 50, .inl g3))] H := hP.sub [0, 1, 3, 4, 5, 6, 7, 8, 9, 10, 11, 17, 18, 19, 20, 21, 22, 23, 24, 25] rfl
  refine x_calli (r := o) (va_runV (As := [.int (sc (nI i + 1).toNatClampNeg), .int (sc (nI i + 2).toNatClampNeg), .int (sc (nI i + 3).toNatClampNeg)]) (rest := []) ⟨hx, hb, hml, hown, hts⟩ (kX9_believed l G H hPr9 e1) (cwV 3 hts gL_law_X9_believed rfl rfl rfl (by decide +kernel) ⟨Nat.le_of_ble_eq_true rfl, Nat.le_of_ble_eq_true rfl⟩) (x_preV hE hS hP (ci := 9) (q0 := 0) rfl rfl) rfl rfl hl.1 rfl (lv_room (Nat.le_of_ble_eq_true rfl)) dL_law_1150 ⟨(show cells + 0 ≤ 600000 by omega), (show slots + 0 ≤ 7302250 by omega)⟩) ?_
  refine lv_aload_n hx hb dL_law_1153 rfl (lv_at hl 2 rfl) ?_
  refine lv_aload_n hx hb dL_law_1154 rfl (lv_at hl 0 rfl) ?_
  refine lv_iload_n hx hb dL_law_1155 rfl (lv_at hl 3 rfl) ?_
  refine lv_iconst (v := 1) hx hb dL_law_1156 (by decide) ?_
  refine lv_iadd hx hb dL_law_1157 ?_
  refine va_sld hx hb hX hbl hbA hS hv1 dL_law_1158 ?_
  refine lv_aload_n hx hb dL_law_1159 rfl (lv_at hl 0 rfl) ?_
  refine lv_iload_n hx hb dL_law_1160 rfl (lv_at hl 3 rfl) ?_
  refine lv_iconst (v := 2) hx hb dL_law_1161 (by decide) ?_
  refine lv_iadd hx hb dL_law_1162 ?_
  refine va_sld hx hb hX hbl hbA hS hv2 dL_law_1163 ?_
  refine lv_aload_n hx hb dL_law_1164 rfl (lv_at hl 0 rfl) ?_
  refine lv_iload_n hx hb dL_law_1165 rfl (lv_at hl 3 rfl) ?_
  refine lv_iconst (v := 3) hx hb dL_law_1166 (by decide) ?_
  refine lv_iadd hx hb dL_law_1167 ?_
  refine va_sld hx hb hX hbl hbA hS hv3 dL_law_1168 ?_
  have hPr10 : va_P (xD G) vwCl [((qa 41), .inr (10, [.int mi, .int ne, .int st, .ref (qa 42), .ref (qa 43), .ref (qa 44), .ref (qa 45), .ref (qa 46), .ref (qa 47), .ref (qa 48), .int (nI n), .ref (qa 49), .int (nI pz), .ref (qa 50), .ref (qa 51), .ref (qa 52), .ref (qa 53), .ref (qa 54), .ref (qa 55), .int (nI q), .int (nI w), .int (nI ca), .long sA, .long sB, .int t1, .int t2, .int t3, .int t4, .ref (qa 56), .ref (qa 57), .ref (qa 58), .ref (qa 59), .int (nI z), .ref (qa 60), .ref (qa 61), .ref (qa 62), .ref (qa 63), .ref (qa 64), .int ka, .int iw])), ((qa 42), .inl (xy G 0, 60, .inl y)), ((qa 43), .inl (xy G 0, 60, .inl mo)), ((qa 44), .inl (xy G 0, 60, .inl g)), ((qa 45), .inl (xy G 0, 60, .inl wi)), ((qa 46), .inl (xy G 0, 60, .inl sk)), ((qa 47), .inl (xy G 0, 60, .inl r)), ((qa 48), .inl (xy G 0, 60, .inl wr)), ((qa 50), .inl (xy G 0, 4, .inl cs)), ((qa 51), .inl (xy G 0, 60, .inl fr)), ((qa 52), .inl (xy G 0, 56, .inl te)), ((qa 53), .inl (xy G 0, 56, .inl as)), ((qa 54), .inl (xy G 0, 56, .inl ho)), ((qa 55), .inl (xy G 0, 56, .inl nu))] H := hP.sub [41, 42, 43, 44, 45, 46, 47, 48, 50, 51, 52, 53, 54, 55] rfl
  refine x_calli (r := o) (va_runV (As := [.int (sc (nI i + 1).toNatClampNeg), .int (sc (nI i + 2).toNatClampNeg), .int (sc (nI i + 3).toNatClampNeg)]) (rest := [.int o]) ⟨hx, hb, hml, hown, hts⟩ (kX10_believed l G H hPr10 e2) (cwV 3 hts gL_law_X10_believed rfl rfl rfl (by decide +kernel) ⟨Nat.le_of_ble_eq_true rfl, Nat.le_of_ble_eq_true rfl⟩) (x_preV hE hS hP (ci := 10) (q0 := 41) rfl rfl) rfl rfl hl.1 rfl (lv_room (Nat.le_of_ble_eq_true rfl)) dL_law_1169 ⟨(show cells + 0 ≤ 600000 by omega), (show slots + 0 ≤ 7302250 by omega)⟩) ?_
  refine lv_icmp_eq (tgt := 1246) hx hb dL_law_1172 (by decide) (fun _ => ?_) (fun hc => absurd rfl hc)
  exact K H locs (cells) (slots) (by omega) (by omega) ⟨n, q, w, ca, z, mi, ne, st, y, mo, f, g, wi, sk, r, wr, ki, xs, ys, ps, ws, z0, g0, z1, g1, z2, g2, z3, g3, cs, fr, te, as, ho, nu, pz, sg, js, jd, jw, jv, ja, jt, jq, je, sA, sB, t1, t2, t3, t4, ka, iw, hd, hv, hw, kp, ik, o0, o1, T0, T1, hP, hD, hS, hR, hp, h0, h1⟩
set_option maxHeartbeats 4000000 in
set_option maxRecDepth 100000 in
theorem lc_told {p : Program} {l : Launch} {e : Env} {s : State} {m : MethodId} {below : List Frame} {meth : Method} {c : Code} {b L : Nat} {sc : Nat → Int32} {G : xG} {qa : Nat → Nat} {Q : State → Prop} {H : Heap} {locs : List Loc} {cells slots i : Nat} {ls : Array Slot} (hL : L ≤ 4096) (C0 : lw_At p s m meth c b L sc) (hE : xE G (fun q : Nat => s.heap.size ≤ q) s) (hi : i + 8 ≤ L) (hcl : cells ≤ 500000) (hsl : slots ≤ 6000000) (hl : lv_has ls 4 [(0, .ref b), (1, .ref (qa 0)), (2, .ref (qa 41)), (3, .int (nI i))]) (hI : lw_I G s qa H locs) (K : ∀ (H : Heap) (locs : List Loc) (cl sl : Nat), cl ≤ cells + 25 → sl ≤ slots + 732 → lw_I G s qa H locs → W p l e room_1 s m #[Value.ref b] below meth c H locs cl sl Q (F0 m 1246 ls [])) : W p l e room_1 s m #[Value.ref b] below meth c H locs cells slots Q (F0 m 1223 ls []) := by
  obtain ⟨hx, hb, hr, hml, hown, hts0, hX, hbl, hlk, hgv⟩ := C0
  have hown : s.vm.findClass RL = some m.cls := hown
  have hts : ∀ w ∈ wsL_law, w.before #[Value.ref b] s = true := fun w hw => hts0 w (wsL_law_in w hw)
  have hA : ∀ q : Nat, s.heap.size ≤ q → (fun q : Nat => s.heap.size ≤ q) q := fun _ h => h
  have hbA : ¬ (fun q : Nat => s.heap.size ≤ q) b := Nat.not_le.mpr hbl
  obtain ⟨n, q, w, ca, z, mi, ne, st, y, mo, f, g, wi, sk, r, wr, ki, xs, ys, ps, ws, z0, g0, z1, g1, z2, g2, z3, g3, cs, fr, te, as, ho, nu, pz, sg, js, jd, jw, jv, ja, jt, jq, je, sA, sB, t1, t2, t3, t4, ka, iw, hd, hv, hw, kp, ik, o0, o1, T0, T1, hP, hD, hS, hR, hp, h0, h1⟩ := hI
  have hv1 : vp_in (nI i + 1) L := by rw [show nI i + 1 = nI (i + 1) from nI_add i 1]; exact vp_in_nI (by omega) (by omega)
  obtain ⟨o, e1, e2⟩ := t_told hR pz (sc (nI i + 1).toNatClampNeg)
  refine lv_aload_n hx hb dL_law_1223 rfl (lv_at hl 1 rfl) ?_
  refine lv_aload_n hx hb dL_law_1224 rfl (lv_at hl 0 rfl) ?_
  refine lv_iload_n hx hb dL_law_1225 rfl (lv_at hl 3 rfl) ?_
  refine lv_iconst (v := 1) hx hb dL_law_1226 (by decide) ?_
  refine lv_iadd hx hb dL_law_1227 ?_
  refine va_sld hx hb hX hbl hbA hS hv1 dL_law_1228 ?_
  have hPr9 : va_P (xD G) vwCl [((qa 0), .inr (9, [.ref (qa 1), .ref (qa 27), .ref (qa 26), .ref (qa 29), .ref (qa 32), .ref (qa 35)])), ((qa 1), .inr (7, [.ref (qa 2), .ref (qa 3), .ref (qa 12), .ref (qa 17), .int (nI q), .int (nI w), .int (nI ca)])), ((qa 2), .inr (1, [.int mi, .int ne, .int st])), ((qa 3), .inr (0, [.int (nI n), .ref (qa 4), .ref (qa 5), .ref (qa 6), .ref (qa 7), .ref (qa 8), .ref (qa 9), .ref (qa 10), .ref (qa 11)])), ((qa 12), .inr (2, [.int (nI z), .ref (qa 13), .ref (qa 14), .ref (qa 15), .ref (qa 16)])), ((qa 17), .inl (xy G 3, 4, .inr (.inr (.inr (.inr (x4 (qa 18) (qa 20) (qa 22) (qa 24))))))), ((qa 18), .inr (8, [.int z0, .ref (qa 19)])), ((qa 19), .inl (xy G 0, 50, .inl g0)), ((qa 20), .inr (8, [.int z1, .ref (qa 21)])), ((qa 21), .inl (xy G 0, 50, .inl g1)), ((qa 22), .inr (8, [.int z2, .ref (qa 23)])), ((qa 23), .inl (xy G 0, 50, .inl g2)), ((qa 24), .inr (8, [.int z3, .ref (qa 25)])), ((qa 25), .inl (xy G 0, 50, .inl g3)), ((qa 27), .inr (8, [.int (nI pz), .ref (qa 28)]))] H := hP.sub [0, 1, 2, 3, 12, 17, 18, 19, 20, 21, 22, 23, 24, 25, 27] rfl
  refine x_calli (r := o) (va_runV (As := [.int (sc (nI i + 1).toNatClampNeg)]) (rest := []) ⟨hx, hb, hml, hown, hts⟩ (kX9_told l G H hPr9 e1) (cwV 1 hts gL_law_X9_told rfl rfl rfl (by decide +kernel) ⟨Nat.le_of_ble_eq_true rfl, Nat.le_of_ble_eq_true rfl⟩) (x_preV hE hS hP (ci := 9) (q0 := 0) rfl rfl) rfl rfl hl.1 rfl (lv_room (Nat.le_of_ble_eq_true rfl)) dL_law_1229 ⟨(show cells + 0 ≤ 600000 by omega), (show slots + 0 ≤ 7302250 by omega)⟩) ?_
  refine lv_aload_n hx hb dL_law_1232 rfl (lv_at hl 2 rfl) ?_
  refine lv_aload_n hx hb dL_law_1233 rfl (lv_at hl 0 rfl) ?_
  refine lv_iload_n hx hb dL_law_1234 rfl (lv_at hl 3 rfl) ?_
  refine lv_iconst (v := 1) hx hb dL_law_1235 (by decide) ?_
  refine lv_iadd hx hb dL_law_1236 ?_
  refine va_sld hx hb hX hbl hbA hS hv1 dL_law_1237 ?_
  have hPr10 : va_P (xD G) vwCl [((qa 41), .inr (10, [.int mi, .int ne, .int st, .ref (qa 42), .ref (qa 43), .ref (qa 44), .ref (qa 45), .ref (qa 46), .ref (qa 47), .ref (qa 48), .int (nI n), .ref (qa 49), .int (nI pz), .ref (qa 50), .ref (qa 51), .ref (qa 52), .ref (qa 53), .ref (qa 54), .ref (qa 55), .int (nI q), .int (nI w), .int (nI ca), .long sA, .long sB, .int t1, .int t2, .int t3, .int t4, .ref (qa 56), .ref (qa 57), .ref (qa 58), .ref (qa 59), .int (nI z), .ref (qa 60), .ref (qa 61), .ref (qa 62), .ref (qa 63), .ref (qa 64), .int ka, .int iw])), ((qa 50), .inl (xy G 0, 4, .inl cs))] H := hP.sub [41, 50] rfl
  refine x_calli (r := o) (va_runV (As := [.int (sc (nI i + 1).toNatClampNeg)]) (rest := [.int o]) ⟨hx, hb, hml, hown, hts⟩ (kX10_told l G H hPr10 e2) (cwV 1 hts gL_law_X10_told rfl rfl rfl (by decide +kernel) ⟨Nat.le_of_ble_eq_true rfl, Nat.le_of_ble_eq_true rfl⟩) (x_preV hE hS hP (ci := 10) (q0 := 41) rfl rfl) rfl rfl hl.1 rfl (lv_room (Nat.le_of_ble_eq_true rfl)) dL_law_1238 ⟨(show cells + 0 ≤ 600000 by omega), (show slots + 0 ≤ 7302250 by omega)⟩) ?_
  refine lv_icmp_eq (tgt := 1246) hx hb dL_law_1241 (by decide) (fun _ => ?_) (fun hc => absurd rfl hc)
  exact K H locs (cells) (slots) (by omega) (by omega) ⟨n, q, w, ca, z, mi, ne, st, y, mo, f, g, wi, sk, r, wr, ki, xs, ys, ps, ws, z0, g0, z1, g1, z2, g2, z3, g3, cs, fr, te, as, ho, nu, pz, sg, js, jd, jw, jv, ja, jt, jq, je, sA, sB, t1, t2, t3, t4, ka, iw, hd, hv, hw, kp, ik, o0, o1, T0, T1, hP, hD, hS, hR, hp, h0, h1⟩
