/-! tools: new cells behind the world at a call that answers an int; the same cells otherwise said -/
section XK
variable {p : Program} {l : Launch} {e : Env} {R : Room} {s : State} {m : MethodId} {args : Array Value} {below : List Frame} {meth : Method} {c : Code} {H : Heap} {locs : List Loc} {cells slots : Nat} {Q : State → Prop}
variable {pc : Nat} {ls : Array Slot} {rest st0 : List Value} {a : Array Value} {G : xG} {A : Nat → Prop} {ws wc w1 : va_W} {mc ms : Nat}
theorem x_callwk {r : Int32} {c0 wn : (Nat → Nat) → va_W} (hr : va_Run p l e R s m args below meth c H locs cells slots mc ms (F0 m pc ls st0) rest (xRk G (va_A wc H.size) (fun ad => c0 ad ++ wn ad) r a) (va_A wc H.size)) (hP : va_P (xD G) vwCl ws H) (hD : va_D A ws) (hS : va_S A s.heap H locs) (hF : ∀ q, va_A wc H.size q → A q) (is : List Nat) (pos : List (Option Nat)) {n : Nat} (hpos : x_ps is n pos = true) (hC : is.map (fun i => ws[i]?) = wc.map some) (ha : ∀ ad, (c0 ad).map Prod.fst = wc.map Prod.fst)
    (kk : ∀ (ad : Nat → Nat) (H : Heap) (locs : List Loc), va_P (xD G) vwCl (x_mk pos (c0 ad) ws ++ wn ad) H → va_D A (x_mk pos (c0 ad) ws ++ wn ad) → va_S A s.heap H locs → W p l e R s m args below meth c H locs (cells + mc) (slots + ms) Q (F0 m (pc + 3) ls (.int r :: rest))) : W p l e R s m args below meth c H locs cells slots Q (F0 m pc ls st0) := by
  refine va_calli hr hS (fun q _ h => hF q h) hF (fun r' u t H1 locs1 ht _ hp hB _ hk hS1 => ?_)
  cases hp
  rw [ht] at hB
  obtain ⟨ad, hB1, hB2⟩ := hB
  obtain ⟨h1, h2⟩ := x_mergeN hP hD is hpos hC (ha ad) hk hF hB1 hB2
  exact kk ad H1 locs1 h1 h2 hS1
end XK
theorem lw_arr {c : ClassId} {N : Nat} {f g : Nat → Value} (h : ∀ j, j < N → g j = f j) : arrV c N g = arrV c N f := by
  unfold arrV
  rw [show (fun j : Fin N => g j.val) = (fun j : Fin N => f j.val) from funext fun j => h j.val j.isLt]
def lw_cs (ws ws' : va_W) : Prop := ws.length = ws'.length ∧ ∀ (k : Nat) (p' : Nat × va_E), ws'[k]? = some p' → ∃ p, ws[k]? = some p ∧ p.1 = p'.1 ∧ ∀ (D : va_G) (cl : List vw_C) (H : Heap), va_at D cl p H → va_at D cl p' H
theorem lw_cs_same (ws : va_W) : lw_cs ws ws := ⟨rfl, fun _ p h => ⟨p, h, rfl, fun _ _ _ v => v⟩⟩
theorem lw_cs_skip {p : Nat × va_E} {ws ws' : va_W} (h : lw_cs ws ws') : lw_cs (p :: ws) (p :: ws') := by
  refine ⟨by rw [List.length_cons, List.length_cons, h.1], fun k p' hk => ?_⟩
  cases k with
  | zero => exact ⟨p', hk, rfl, fun _ _ _ v => v⟩
  | succ k => exact h.2 k p' hk
theorem lw_cs_chg {q : Nat} {c : ClassId} {N : Nat} {f g : Nat → Int32} (hfg : ∀ j, j < N → g j = f j) {ws ws' : va_W} (h : lw_cs ws ws') : lw_cs ((q, .inl (c, N, .inl g)) :: ws) ((q, .inl (c, N, .inl f)) :: ws') := by
  refine ⟨by rw [List.length_cons, List.length_cons, h.1], fun k p' hk => ?_⟩
  cases k with
  | zero =>
    rw [List.getElem?_cons_zero] at hk
    cases hk
    refine ⟨_, rfl, rfl, fun D cl H hv => ?_⟩
    have e : vp_cell c (N, .inl g) = vp_cell c (N, .inl f) := lw_arr (fun j hj => congrArg Value.int (hfg j hj))
    have hv : H[q]? = some (vp_cell c (N, .inl g)) := hv
    show H[q]? = some (vp_cell c (N, .inl f))
    rw [hv, e]
  | succ k => exact h.2 k p' hk
theorem lw_cs_app {a a' b b' : va_W} (h1 : lw_cs a a') (h2 : lw_cs b b') : lw_cs (a ++ b) (a' ++ b') := by
  refine ⟨by rw [List.length_append, List.length_append, h1.1, h2.1], fun k p' hk => ?_⟩
  rw [List.getElem?_append] at hk ⊢
  rw [h1.1]
  by_cases c : k < a'.length
  · rw [if_pos c] at hk ⊢
    exact h1.2 k p' hk
  · rw [if_neg c] at hk ⊢
    exact h2.2 _ p' hk
theorem lw_cs.P {ws ws' : va_W} (h : lw_cs ws ws') {D : va_G} {cl : List vw_C} {H : Heap} (hP : va_P D cl ws H) : va_P D cl ws' H := fun k p' hk => by
  obtain ⟨p, h1, -, h3⟩ := h.2 k p' hk
  exact h3 D cl H (hP k p h1)
theorem lw_cs.D {ws ws' : va_W} (h : lw_cs ws ws') {A : Nat → Prop} (hD : va_D A ws) : va_D A ws' := by
  refine ⟨fun i j x y hi hj hxy => ?_, fun k p' hk => ?_⟩
  · obtain ⟨a, a1, a2, -⟩ := h.2 i x hi
    obtain ⟨b, b1, b2, -⟩ := h.2 j y hj
    exact hD.1 i j a b a1 b1 (a2.trans (hxy.trans b2.symm))
  · obtain ⟨a, a1, a2, -⟩ := h.2 k p' hk
    rw [← a2]
    exact hD.2 k a a1
theorem lw_swapP {D : va_G} {cl : List vw_C} {X Y Z : va_W} {H : Heap} (h : va_P D cl (X ++ (Y ++ Z)) H) : va_P D cl (X ++ (Z ++ Y)) H := fun k q hk => by
  have hm : q ∈ X ++ (Y ++ Z) := by
    have hk2 := List.mem_of_getElem? hk
    rw [List.mem_append, List.mem_append] at hk2 ⊢
    rcases hk2 with a | b | d
    · exact .inl a
    · exact .inr (.inr b)
    · exact .inr (.inl d)
  obtain ⟨i, hi⟩ := List.getElem?_of_mem hm
  exact h i q hi
theorem lw_swapD {A : Nat → Prop} {X Y Z : va_W} (hD : va_D A (X ++ (Y ++ Z))) : va_D A (X ++ (Z ++ Y)) := by
  have key : ∀ (k : Nat) (q : Nat × va_E), (X ++ (Z ++ Y))[k]? = some q → ∃ k', (X ++ (Y ++ Z))[k']? = some q ∧ ((k < X.length ∧ k' = k) ∨ (X.length ≤ k ∧ k < X.length + Z.length ∧ k' = k + Y.length) ∨ (X.length + Z.length ≤ k ∧ k < X.length + Z.length + Y.length ∧ k = k' + Z.length)) := by
    intro k q hk
    rw [List.getElem?_append] at hk
    by_cases c1 : k < X.length
    · rw [if_pos c1] at hk
      refine ⟨k, ?_, .inl ⟨c1, rfl⟩⟩
      rw [List.getElem?_append, if_pos c1]
      exact hk
    · rw [if_neg c1, List.getElem?_append] at hk
      by_cases c2 : k - X.length < Z.length
      · rw [if_pos c2] at hk
        refine ⟨k + Y.length, ?_, .inr (.inl ⟨by omega, by omega, rfl⟩)⟩
        rw [List.getElem?_append, if_neg (by omega), List.getElem?_append, if_neg (by omega), show k + Y.length - X.length - Y.length = k - X.length by omega]
        exact hk
      · rw [if_neg c2] at hk
        have hlt := (List.getElem?_eq_some_iff.mp hk).1
        refine ⟨k - Z.length, ?_, .inr (.inr ⟨by omega, by omega, by omega⟩)⟩
        rw [List.getElem?_append, if_neg (by omega), List.getElem?_append, if_pos (by omega), show k - Z.length - X.length = k - X.length - Z.length by omega]
        exact hk
  refine ⟨fun i j x y hi hj hxy => ?_, fun k q hk => ?_⟩
  · obtain ⟨a, a1, a2⟩ := key i x hi
    obtain ⟨b, b1, b2⟩ := key j y hj
    have hab := hD.1 a b x y a1 b1 hxy
    have la := (List.getElem?_eq_some_iff.mp a1).1
    rw [List.length_append, List.length_append] at la
    omega
  · obtain ⟨a, a1, -⟩ := key k q hk
    exact hD.2 a q a1
set_option maxRecDepth 100000 in
theorem lw_img_cs {G : xG} {ad : Nat → Nat} {n q w ca z : Nat} {mi ne st : Int32} {y mo f wi sk r wr ki xs ys ps ws : Nat → Int32} {z0 : Int32} {g0 : Nat → Int32} {z1 : Int32} {g1 : Nat → Int32} {z2 : Int32} {g2 : Nat → Int32} {z3 : Int32} {g3 : Nat → Int32} {y' mo' f' wi' sk' r' wr' ki' xs' ys' ps' ws' g0' g1' g2' g3' : Nat → Int32} (h_y : ∀ j, j < 60 → y' j = y j) (h_mo : ∀ j, j < 60 → mo' j = mo j) (h_f : ∀ j, j < 60 → f' j = f j) (h_wi : ∀ j, j < 60 → wi' j = wi j) (h_sk : ∀ j, j < 60 → sk' j = sk j) (h_r : ∀ j, j < 60 → r' j = r j) (h_wr : ∀ j, j < 60 → wr' j = wr j) (h_ki : ∀ j, j < 60 → ki' j = ki j) (h_xs : ∀ j, j < 4 → xs' j = xs j) (h_ys : ∀ j, j < 4 → ys' j = ys j) (h_ps : ∀ j, j < 4 → ps' j = ps j) (h_ws : ∀ j, j < 4 → ws' j = ws j) (h_g0 : ∀ j, j < 50 → g0' j = g0 j) (h_g1 : ∀ j, j < 50 → g1' j = g1 j) (h_g2 : ∀ j, j < 50 → g2' j = g2 j) (h_g3 : ∀ j, j < 50 → g3' j = g3 j) : lw_cs (lw_img G ad n q w ca z mi ne st y' mo' f' wi' sk' r' wr' ki' xs' ys' ps' ws' z0 g0' z1 g1' z2 g2' z3 g3') (lw_img G ad n q w ca z mi ne st y mo f wi sk r wr ki xs ys ps ws z0 g0 z1 g1 z2 g2 z3 g3) := lw_cs_skip (lw_cs_skip (lw_cs_skip (lw_cs_chg h_y (lw_cs_chg h_mo (lw_cs_chg h_f (lw_cs_chg h_wi (lw_cs_chg h_sk (lw_cs_chg h_r (lw_cs_chg h_wr (lw_cs_chg h_ki (lw_cs_skip (lw_cs_chg h_xs (lw_cs_chg h_ys (lw_cs_chg h_ps (lw_cs_chg h_ws (lw_cs_skip (lw_cs_skip (lw_cs_chg h_g0 (lw_cs_skip (lw_cs_chg h_g1 (lw_cs_skip (lw_cs_chg h_g2 (lw_cs_skip (lw_cs_chg h_g3 (lw_cs_same _)))))))))))))))))))))))))
set_option maxHeartbeats 4000000 in
set_option maxRecDepth 100000 in
theorem lw_W2_cs {G : xG} {qa : Nat → Nat} {n q w ca z : Nat} {mi ne st : Int32} {y mo f g wi sk r wr ki xs ys ps ws : Nat → Int32} {z0 : Int32} {g0 : Nat → Int32} {z1 : Int32} {g1 : Nat → Int32} {z2 : Int32} {g2 : Nat → Int32} {z3 : Int32} {g3 cs fr te as ho nu : Nat → Int32} {pz : Nat} {sg js jd jw jv ja jt jq je : Nat → Int32} {sA sB : Int64} {t1 t2 t3 t4 ka iw : Int32} {hd hv hw kp ik : Nat → Int32} {o0 o1 : Option Nat} {n_ q_ w_ ca_ z_ : Nat} {mi_ ne_ st_ : Int32} {y_ mo_ g_ wi_ sk_ r_ wr_ xs_ ys_ ps_ ws_ cs_ fr_ te_ as_ ho_ nu_ : Nat → Int32} {pz_ : Nat} {sg_ : Nat → Int32} {sA_ sB_ : Int64} {t1_ t2_ t3_ t4_ ka_ iw_ : Int32} {hd_ hv_ hw_ kp_ ik_ : Nat → Int32} {T : va_W} {y' mo' f' wi' sk' r' wr' ki' xs' ys' ps' ws' g0' g1' g2' g3' y_' mo_' g_' wi_' sk_' r_' wr_' cs_' fr_' te_' as_' ho_' nu_' xs_' ys_' ps_' ws_' : Nat → Int32} (h_y : ∀ j, j < 60 → y' j = y j) (h_mo : ∀ j, j < 60 → mo' j = mo j) (h_f : ∀ j, j < 60 → f' j = f j) (h_wi : ∀ j, j < 60 → wi' j = wi j) (h_sk : ∀ j, j < 60 → sk' j = sk j) (h_r : ∀ j, j < 60 → r' j = r j) (h_wr : ∀ j, j < 60 → wr' j = wr j) (h_ki : ∀ j, j < 60 → ki' j = ki j) (h_xs : ∀ j, j < 4 → xs' j = xs j) (h_ys : ∀ j, j < 4 → ys' j = ys j) (h_ps : ∀ j, j < 4 → ps' j = ps j) (h_ws : ∀ j, j < 4 → ws' j = ws j) (h_g0 : ∀ j, j < 50 → g0' j = g0 j) (h_g1 : ∀ j, j < 50 → g1' j = g1 j) (h_g2 : ∀ j, j < 50 → g2' j = g2 j) (h_g3 : ∀ j, j < 50 → g3' j = g3 j) (h_y_ : ∀ j, j < 60 → y_' j = y_ j) (h_mo_ : ∀ j, j < 60 → mo_' j = mo_ j) (h_g_ : ∀ j, j < 60 → g_' j = g_ j) (h_wi_ : ∀ j, j < 60 → wi_' j = wi_ j) (h_sk_ : ∀ j, j < 60 → sk_' j = sk_ j) (h_r_ : ∀ j, j < 60 → r_' j = r_ j) (h_wr_ : ∀ j, j < 60 → wr_' j = wr_ j) (h_cs_ : ∀ j, j < 4 → cs_' j = cs_ j) (h_fr_ : ∀ j, j < 60 → fr_' j = fr_ j) (h_te_ : ∀ j, j < 56 → te_' j = te_ j) (h_as_ : ∀ j, j < 56 → as_' j = as_ j) (h_ho_ : ∀ j, j < 56 → ho_' j = ho_ j) (h_nu_ : ∀ j, j < 56 → nu_' j = nu_ j) (h_xs_ : ∀ j, j < 4 → xs_' j = xs_ j) (h_ys_ : ∀ j, j < 4 → ys_' j = ys_ j) (h_ps_ : ∀ j, j < 4 → ps_' j = ps_ j) (h_ws_ : ∀ j, j < 4 → ws_' j = ws_ j) : lw_cs (lw_W2 G qa n q w ca z mi ne st y' mo' f' g wi' sk' r' wr' ki' xs' ys' ps' ws' z0 g0' z1 g1' z2 g2' z3 g3' cs fr te as ho nu pz sg js jd jw jv ja jt jq je sA sB t1 t2 t3 t4 ka iw hd hv hw kp ik o0 o1 n_ q_ w_ ca_ z_ mi_ ne_ st_ y_' mo_' g_' wi_' sk_' r_' wr_' xs_' ys_' ps_' ws_' cs_' fr_' te_' as_' ho_' nu_' pz_ sg_ sA_ sB_ t1_ t2_ t3_ t4_ ka_ iw_ hd_ hv_ hw_ kp_ ik_ T) (lw_W2 G qa n q w ca z mi ne st y mo f g wi sk r wr ki xs ys ps ws z0 g0 z1 g1 z2 g2 z3 g3 cs fr te as ho nu pz sg js jd jw jv ja jt jq je sA sB t1 t2 t3 t4 ka iw hd hv hw kp ik o0 o1 n_ q_ w_ ca_ z_ mi_ ne_ st_ y_ mo_ g_ wi_ sk_ r_ wr_ xs_ ys_ ps_ ws_ cs_ fr_ te_ as_ ho_ nu_ pz_ sg_ sA_ sB_ t1_ t2_ t3_ t4_ ka_ iw_ hd_ hv_ hw_ kp_ ik_ T) := lw_cs_skip (lw_cs_skip (lw_cs_skip (lw_cs_skip (lw_cs_chg h_y (lw_cs_chg h_mo (lw_cs_chg h_f (lw_cs_chg h_wi (lw_cs_chg h_sk (lw_cs_chg h_r (lw_cs_chg h_wr (lw_cs_chg h_ki (lw_cs_skip (lw_cs_chg h_xs (lw_cs_chg h_ys (lw_cs_chg h_ps (lw_cs_chg h_ws (lw_cs_skip (lw_cs_skip (lw_cs_chg h_g0 (lw_cs_skip (lw_cs_chg h_g1 (lw_cs_skip (lw_cs_chg h_g2 (lw_cs_skip (lw_cs_chg h_g3 (lw_cs_skip (lw_cs_skip (lw_cs_skip (lw_cs_skip (lw_cs_skip (lw_cs_skip (lw_cs_skip (lw_cs_skip (lw_cs_skip (lw_cs_skip (lw_cs_skip (lw_cs_skip (lw_cs_skip (lw_cs_skip (lw_cs_skip (lw_cs_skip (lw_cs_chg h_y_ (lw_cs_chg h_mo_ (lw_cs_chg h_g_ (lw_cs_chg h_wi_ (lw_cs_chg h_sk_ (lw_cs_chg h_r_ (lw_cs_chg h_wr_ (lw_cs_skip (lw_cs_chg h_cs_ (lw_cs_chg h_fr_ (lw_cs_chg h_te_ (lw_cs_chg h_as_ (lw_cs_chg h_ho_ (lw_cs_chg h_nu_ (lw_cs_chg h_xs_ (lw_cs_chg h_ys_ (lw_cs_chg h_ps_ (lw_cs_chg h_ws_ (lw_cs_skip (lw_cs_skip (lw_cs_skip (lw_cs_skip (lw_cs_skip (lw_cs_same _)))))))))))))))))))))))))))))))))))))))))))))))))))))))))))))))))
theorem lw_im_keep {G : xG} {k k' : Nat} {o : Option Nat} {T : va_W} {kp ik V : Nat → Int32} {v : Int32} (h : lw_im G k' o T kp ik) (hkk : (k = 0 ∧ k' = 1) ∨ (k = 1 ∧ k' = 0)) : lw_im G k' o T (s_K (800 * k) V kp 732) (upd ik k v) := by
  have e : upd ik k v k' = ik k' := pk_un (by omega)
  rcases h with ⟨h1, h2, h3⟩ | ⟨ad, n, q, w, ca, z, mi, ne, st, y, mo, f, g, wi, sk, r, wr, ki, xs, ys, ps, ws, z0, g0, z1, g1, z2, g2, z3, g3, cs, fr, te, as, ho, nu, h1, h2, h3, h4, h5⟩
  · exact .inl ⟨h1, h2, e.trans h3⟩
  · exact .inr ⟨ad, n, q, w, ca, z, mi, ne, st, y, mo, f, g, wi, sk, r, wr, ki, xs, ys, ps, ws, z0, g0, z1, g1, z2, g2, z3, g3, cs, fr, te, as, ho, nu, h1, h2, by rw [e]; exact h3, s_kp_old h4 (by omega), h5⟩
