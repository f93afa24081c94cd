set_option maxHeartbeats 40000000 in
set_option maxRecDepth 100000 in
theorem pD_claim {p : Program} {l : Launch} {e : Env} {s : State} {m : MethodId} {below : List Frame} {meth : Method} {c : Code} (hst : l.stackTraces = false) {D : va_G} {cyI cyZ cyL cyV cyJ : ClassId} {b L : Nat} {xs : Nat → Int32} (hL : L ≤ 260) (CA : lw_At p s m meth c b L xs) {A : Nat → Prop} (hAd : A = fun q : Nat => s.heap.size ≤ q) (hTF : gTF A s s.heap) (hNC : gNC s) (hK : va_K D vwCl (gTy cyI cyZ cyL cyV cyJ) s) {g xn xb xd xa xl xp : Nat} {j : Nat} (hj : j < 60) (tl : pTail p l e s m below meth c D cyI cyZ cyL cyV cyJ b g xn xb xd xa xl xp A j) {gr sh rt ce : Int32} {nl nv : Nat} {am : Int32} {nc : Nat} {cd : Int32} {bud fsd las isB mto maw lno dya amo rfd ord cpa : Nat → Int32} {lnf orf : Nat → Nat} {nf bf df af lf pf : Nat → Int32} {G : va_W} {H : Heap} {locs : List Loc} {ls : Array Slot} {Y LN : Nat} (hY : Y < 2 ^ 27) (hG : gGP cyI cyL cyV gr sh rt ce nl nv am nc cd bud fsd las isB mto maw lno dya amo rfd ord cpa lnf orf g G) (hR : pRB nl nv gr sh rt ce bud fsd las isB mto maw dya amo rfd lnf nf bf df af lf) (hX : pRX nl am nc cd cpa nf bf pf) (hT : pST nv dya orf) (h3 : 3 ≤ nl) (hP : va_P D vwCl ((xn, .inl (cyI, 10, .inl nf)) :: (xb, .inl (cyI, 36, .inl bf)) :: (xd, .inl (cyI, 40, .inl df)) :: (xa, .inl (cyI, 40, .inl af)) :: (xl, .inl (cyI, 40, .inl lf)) :: (xp, .inl (cyI, 40, .inl pf)) :: G) H) (hD : va_D A ((xn, .inl (cyI, 10, .inl nf)) :: (xb, .inl (cyI, 36, .inl bf)) :: (xd, .inl (cyI, 40, .inl df)) :: (xa, .inl (cyI, 40, .inl af)) :: (xl, .inl (cyI, 40, .inl lf)) :: (xp, .inl (cyI, 40, .inl pf)) :: G)) (hS : va_S A s.heap H locs) (hl : lv_has ls 20 [(14, .int (nI (Y / 6 % 100 * 5))), (13, .int (nI LN)), (12, .int (nI Y)), (9, .int (nI j)), (0, .ref b), (1, .ref g), (2, .ref xn), (3, .ref xb), (4, .ref xd), (5, .ref xa), (6, .ref xl), (7, .ref xp)]) : W p l e room_1 s m #[Value.ref b] below meth c H locs (400 + 2000 * j) (2000 + 20000 * j) (lw_Z below #[Value.ref b] s) (F0 m 909 ls []) := by
  obtain ⟨hx, hb, hr, hml, hown, hts0, hX0, hbl, hlocks, hgv⟩ := CA
  have hts : ∀ w ∈ wsL_law, w.before #[Value.ref b] s = true := fun w h => hts0 w (wsL_law_in w h)
  have hA : ∀ q : Nat, s.heap.size ≤ q → A q := fun q h => by rw [hAd]; exact h
  have hbA : ¬ A b := by rw [hAd]; exact Nat.not_le.mpr hbl
  obtain ⟨⟨hnl, hnv⟩, ⟨hn0, hn1, hn2, hn3, hn5⟩, hbl, hvl⟩ := id hR
  obtain ⟨hn4, hn6, hn7, hn8, hn9, hpf, hbz⟩ := id hX
  have hnc : nc ≤ 40 := hG.1.1.2.2
  have hel := pG_el hG hT
  refine lv_iload hx hb dL_law_909 (lv_at hl 0 rfl) ?_
  refine lv_aload_n hx hb dL_law_911 rfl (lv_at hl 6 rfl) ?_
  refine lv_bipush (v := 8) hx hb dL_law_912 (by decide) ?_
  refine gk_iald (i := 8) hx hb hK hP 0 0 rfl rfl (by omega) (by decide) dL_law_914 ?_
  rw [hn8]
  refine lv_icmp_lt (tgt := 922) hx hb dL_law_915 (by decide) (fun c_1 => ?_) (fun c_1 => ?_)
  · refine lv_iconst (v := 0) hx hb dL_law_922 (by decide) ?_
    refine lv_istore (lv' := [(15, .int 0), (14, .int (nI (Y / 6 % 100 * 5))), (13, .int (nI LN)), (12, .int (nI Y)), (9, .int (nI j)), (0, .ref b), (1, .ref g), (2, .ref xn), (3, .ref xb), (4, .ref xd), (5, .ref xa), (6, .ref xl), (7, .ref xp)]) hx hb dL_law_923 hl (by decide) rfl (fun ls hl => ?_)
    refine lv_iload hx hb dL_law_925 (lv_at hl 0 rfl) ?_
    refine lv_if_eq (tgt := 943) hx hb dL_law_927 (by decide) (fun _ => ?_) (fun c => by first | exact absurd c (by decide) | exact absurd (by decide) c)
    refine lv_iconst (v := 0) hx hb dL_law_943 (by decide) ?_
    refine lv_istore (lv' := [(16, .int 0), (15, .int 0), (14, .int (nI (Y / 6 % 100 * 5))), (13, .int (nI LN)), (12, .int (nI Y)), (9, .int (nI j)), (0, .ref b), (1, .ref g), (2, .ref xn), (3, .ref xb), (4, .ref xd), (5, .ref xa), (6, .ref xl), (7, .ref xp)]) hx hb dL_law_944 hl (by decide) rfl (fun ls hl => ?_)
    refine lv_aload_n hx hb dL_law_946 rfl (lv_at hl 8 rfl) ?_
    refine lv_aload_n hx hb dL_law_947 rfl (lv_at hl 9 rfl) ?_
    refine lv_aload hx hb dL_law_948 (lv_at hl 10 rfl) ?_
    refine lv_aload hx hb dL_law_950 (lv_at hl 11 rfl) ?_
    refine lv_aload hx hb dL_law_952 (lv_at hl 12 rfl) ?_
    refine lv_iload hx hb dL_law_954 (lv_at hl 2 rfl) ?_
    refine lv_aload_n hx hb dL_law_956 rfl (lv_at hl 8 rfl) ?_
    refine lv_bipush (v := 6) hx hb dL_law_957 (by decide) ?_
    refine gk_iald (i := 6) hx hb hK hP 0 0 rfl rfl (by omega) (by decide) dL_law_959 ?_
    rw [hn6]
    refine lv_i2l hx hb dL_law_960 rfl ?_
    have hF_3 := gk_all hD hS hA
    refine va_calli (va_runS (As := [.ref xn, .ref xb, .ref xd, .ref xa, .ref xl, .int (nI (Y / 6 % 100 * 5)), .long am.toInt64]) (rest := []) ⟨hx, hb, hml, hown, hts⟩ (kL_earned l D cyI cyZ cyL cyV cyJ xn xb xd xa xl nl nv gr sh rt ce bud fsd las isB mto maw dya amo rfd lnf nf bf df af lf ((xp, .inl (cyI, 40, .inl pf)) :: G : va_W) hR (gEL (fun l => bud l + mto l - maw l) (fun v => gAcc (fsd (lnf v)) (las (lnf v)) (rfd v) (dya v)) lnf amo orf nv) hel (nI (Y / 6 % 100 * 5)) am.toInt64 H.size _ rfl) (va_cwS 7 hts gL_law_L_earned rfl rfl rfl (by decide +kernel) ⟨(Nat.le_of_ble_eq_true rfl), (Nat.le_of_ble_eq_true rfl)⟩) (gk_preS hP hK hD) rfl rfl hl.1 rfl (lv_room (Nat.le_of_ble_eq_true rfl)) dL_law_961 ⟨(by show _ ≤ (706465 : Nat); omega), (by show _ ≤ (6982228 : Nat); omega)⟩) hS (fun q _ h => hF_3 q h) hF_3 (fun r_3 u_3 t_3 H locs ht_3 hvm_3 hw_3 hB_3 hz_3 hk_3 hS => ?_)
    obtain ⟨hP, hD⟩ := gk_back hF_3 hB_3 ht_3
    obtain rfl : r_3 = (gEt sh am (gUb sh gr (gSm (gCx dya isB (gEL (fun l => bud l + mto l - maw l) (fun v => gAcc (fsd (lnf v)) (las (lnf v)) (rfd v) (dya v)) lnf amo orf nv) lnf (nI (Y / 6 % 100 * 5)) 0) nv) (gOw rt ce (gSm (gCx dya isB (gEL (fun l => bud l + mto l - maw l) (fun v => gAcc (fsd (lnf v)) (las (lnf v)) (rfd v) (dya v)) lnf amo orf nv) lnf (nI (Y / 6 % 100 * 5)) 1) nv)))) := hw_3.trans (pG_am hG (nI (Y / 6 % 100 * 5)))
    refine lv_aload_n hx hb dL_law_964 rfl (lv_at hl 8 rfl) ?_
    refine lv_bipush (v := 9) hx hb dL_law_965 (by decide) ?_
    refine gk_iald (i := 9) hx hb hK hP 0 0 rfl rfl (by omega) (by decide) dL_law_967 ?_
    rw [hn9]
    refine lv_isub hx hb dL_law_968 ?_
    refine lv_istore (lv' := [(17, .int ((gEt sh am (gUb sh gr (gSm (gCx dya isB (gEL (fun l => bud l + mto l - maw l) (fun v => gAcc (fsd (lnf v)) (las (lnf v)) (rfd v) (dya v)) lnf amo orf nv) lnf (nI (Y / 6 % 100 * 5)) 0) nv) (gOw rt ce (gSm (gCx dya isB (gEL (fun l => bud l + mto l - maw l) (fun v => gAcc (fsd (lnf v)) (las (lnf v)) (rfd v) (dya v)) lnf amo orf nv) lnf (nI (Y / 6 % 100 * 5)) 1) nv)))) - (gSm cpa nc))), (16, .int 0), (15, .int 0), (14, .int (nI (Y / 6 % 100 * 5))), (13, .int (nI LN)), (12, .int (nI Y)), (9, .int (nI j)), (0, .ref b), (1, .ref g), (2, .ref xn), (3, .ref xb), (4, .ref xd), (5, .ref xa), (6, .ref xl), (7, .ref xp)]) hx hb dL_law_969 hl (by decide) rfl (fun ls hl => ?_)
    refine lv_iload hx hb dL_law_971 (lv_at hl 1 rfl) ?_
    refine lv_if_eq (tgt := 1008) hx hb dL_law_973 (by decide) (fun _ => ?_) (fun c => by first | exact absurd c (by decide) | exact absurd (by decide) c)
    refine lv_aload_n hx hb dL_law_1008 rfl (lv_at hl 8 rfl) ?_
    refine lv_iconst (v := 4) hx hb dL_law_1009 (by decide) ?_
    refine lv_iload hx hb dL_law_1010 (lv_at hl 3 rfl) ?_
    refine lv_iconst (v := 0) hx hb dL_law_1012 (by decide) ?_
    refine lv_iconst (v := 0) hx hb dL_law_1013 (by decide) ?_
    have hP : va_P D vwCl (([(xn, .inl (cyI, 10, .inl nf)), (xb, .inl (cyI, 36, .inl bf)), (xd, .inl (cyI, 40, .inl df)), (xa, .inl (cyI, 40, .inl af)), (xl, .inl (cyI, 40, .inl lf)), (xp, .inl (cyI, 40, .inl pf))] : va_W) ++ G) H := hP
    have hD : va_D A (([(xn, .inl (cyI, 10, .inl nf)), (xb, .inl (cyI, 36, .inl bf)), (xd, .inl (cyI, 40, .inl df)), (xa, .inl (cyI, 40, .inl af)), (xl, .inl (cyI, 40, .inl lf)), (xp, .inl (cyI, 40, .inl pf))] : va_W) ++ G) := hD
    have hF_5 := gk_all hD hS hA
    refine va_calli (vx_runSW (As := [.ref g, .int 4, .int (nI (Y / 6 % 100 * 5)), .int 0, .int 0]) (rest := []) ⟨hx, hb, hml, hown, hts⟩ (kL_does_claim l hst D cyI cyZ cyL cyV cyJ gr sh rt ce nl nv am nc cd bud fsd las isB mto maw lno dya amo rfd ord cpa lnf orf g ([(xn, .inl (cyI, 10, .inl nf)), (xb, .inl (cyI, 36, .inl bf)), (xd, .inl (cyI, 40, .inl df)), (xa, .inl (cyI, 40, .inl af)), (xl, .inl (cyI, 40, .inl lf)), (xp, .inl (cyI, 40, .inl pf))] : va_W) G hG (nI (Y / 6 % 100 * 5)) 0 0 H.size _ rfl) (vx_cwSW 5 hts gL_law_L_does rfl rfl rfl (by decide +kernel) ⟨(Nat.le_of_ble_eq_true rfl), (Nat.le_of_ble_eq_true rfl)⟩) (gk_preSN hNC hTF hS hF_5 hP hK hD) rfl rfl hl.1 rfl (lv_room (Nat.le_of_ble_eq_true rfl)) dL_law_1014 ⟨(by show _ ≤ (706465 : Nat); omega), (by show _ ≤ (6982228 : Nat); omega)⟩) hS (fun q _ h => hF_5 q h) hF_5 (fun r_5 u_5 t_5 H locs ht_5 hvm_5 hw_5 hB_5 hz_5 hk_5 hS => ?_)
    obtain ⟨hP, hD⟩ := gk_back hF_5 hB_5 ht_5
    have hP : va_P D vwCl ((xn, .inl (cyI, 10, .inl nf)) :: (xb, .inl (cyI, 36, .inl bf)) :: (xd, .inl (cyI, 40, .inl df)) :: (xa, .inl (cyI, 40, .inl af)) :: (xl, .inl (cyI, 40, .inl lf)) :: (xp, .inl (cyI, 40, .inl pf)) :: u_5) H := hP
    have hD : va_D A ((xn, .inl (cyI, 10, .inl nf)) :: (xb, .inl (cyI, 36, .inl bf)) :: (xd, .inl (cyI, 40, .inl df)) :: (xa, .inl (cyI, 40, .inl af)) :: (xl, .inl (cyI, 40, .inl lf)) :: (xp, .inl (cyI, 40, .inl pf)) :: u_5) := hD
    have hcd_5 := pA_cl1 (cd := cd) (nc := nc) (D := (Y / 6 % 100 * 5)) c_1
    rcases hw_5 with ⟨hc_5, hr_5, hG_5⟩ | ⟨hc_5, hr_5, hG_5⟩ | ⟨hc_5, hr_5, hG_5⟩
    · exact absurd (hcd_5.symm.trans hc_5) (by decide)
    · subst hr_5
      refine lv_iload hx hb dL_law_1017 (lv_at hl 1 rfl) ?_
      refine lv_if_eq (tgt := 1027) hx hb dL_law_1019 (by decide) (fun _ => ?_) (fun c => by first | exact absurd c (by decide) | exact absurd (by decide) c)
      refine lv_iload hx hb dL_law_1027 (lv_at hl 2 rfl) ?_
      refine lv_if_eq (tgt := 1037) hx hb dL_law_1029 (by decide) (fun _ => ?_) (fun c => by first | exact absurd c (by decide) | exact absurd (by decide) c)
      refine lv_ldc hx hb hown (hts0 (.constant RL 55 (-2000000012)) wq_1_12) dL_law_1037 ?_
      refine lv_icmp_ne (tgt := 1046) hx hb dL_law_1039 (by decide) (fun c => by first | exact absurd c (by decide) | exact absurd (by decide) c) (fun _ => ?_)
      refine lv_iconst (v := 1) hx hb dL_law_1042 (by decide) ?_
      refine lv_goto (tgt := 1047) hx hb dL_law_1043 (by decide) ?_
      refine lv_istore (lv' := [(8, .int 1), (17, .int ((gEt sh am (gUb sh gr (gSm (gCx dya isB (gEL (fun l => bud l + mto l - maw l) (fun v => gAcc (fsd (lnf v)) (las (lnf v)) (rfd v) (dya v)) lnf amo orf nv) lnf (nI (Y / 6 % 100 * 5)) 0) nv) (gOw rt ce (gSm (gCx dya isB (gEL (fun l => bud l + mto l - maw l) (fun v => gAcc (fsd (lnf v)) (las (lnf v)) (rfd v) (dya v)) lnf amo orf nv) lnf (nI (Y / 6 % 100 * 5)) 1) nv)))) - (gSm cpa nc))), (16, .int 0), (15, .int 0), (14, .int (nI (Y / 6 % 100 * 5))), (13, .int (nI LN)), (12, .int (nI Y)), (9, .int (nI j)), (0, .ref b), (1, .ref g), (2, .ref xn), (3, .ref xb), (4, .ref xd), (5, .ref xa), (6, .ref xl), (7, .ref xp)]) hx hb dL_law_1047 hl (by decide) rfl (fun ls hl => ?_)
      refine lv_goto (tgt := 1317) hx hb dL_law_1049 (by decide) ?_
      refine W.widen (k := 400 + 2000 * j + 1000) (n := 2000 + 20000 * j + 10000) (by omega) (by omega) ?_
      exact tl _ _ _ _ _ _ _ _ _ _ _ _ _ _ _ _ _ _ _ _ _ _ _ nf bf df af lf pf u_5 _ _ _ Y hG_5 hR hX hT (by omega) (by omega) hP hD hS (lv_sub hl [0, 6, 7, 8, 9, 10, 11, 12, 13, 14, 15] rfl)
    · exact absurd (hcd_5.symm.trans hc_5) (by decide)
  · refine lv_iconst (v := 1) hx hb dL_law_918 (by decide) ?_
    refine lv_goto (tgt := 923) hx hb dL_law_919 (by decide) ?_
    refine lv_istore (lv' := [(15, .int 1), (14, .int (nI (Y / 6 % 100 * 5))), (13, .int (nI LN)), (12, .int (nI Y)), (9, .int (nI j)), (0, .ref b), (1, .ref g), (2, .ref xn), (3, .ref xb), (4, .ref xd), (5, .ref xa), (6, .ref xl), (7, .ref xp)]) hx hb dL_law_923 hl (by decide) rfl (fun ls hl => ?_)
    refine lv_iload hx hb dL_law_925 (lv_at hl 0 rfl) ?_
    refine lv_if_eq (tgt := 943) hx hb dL_law_927 (by decide) (fun c => by first | exact absurd c (by decide) | exact absurd (by decide) c) (fun _ => ?_)
    refine lv_aload_n hx hb dL_law_930 rfl (lv_at hl 7 rfl) ?_
    refine lv_bipush (v := 7) hx hb dL_law_931 (by decide) ?_
    refine gk_iald (i := 7) hx hb hK hP 0 0 rfl rfl (by omega) (by decide) dL_law_933 ?_
    rw [hn7]
    refine lv_bipush (v := 40) hx hb dL_law_934 (by decide) ?_
    refine lv_icmp_ge (tgt := 943) hx hb dL_law_936 (by decide) (fun c_10 => ?_) (fun c_10 => ?_)
    · have n_10 : 40 ≤ nc := pf_le (a := 40) (b := nc) (by omega) (by omega) c_10
      refine lv_iconst (v := 0) hx hb dL_law_943 (by decide) ?_
      refine lv_istore (lv' := [(16, .int 0), (15, .int 1), (14, .int (nI (Y / 6 % 100 * 5))), (13, .int (nI LN)), (12, .int (nI Y)), (9, .int (nI j)), (0, .ref b), (1, .ref g), (2, .ref xn), (3, .ref xb), (4, .ref xd), (5, .ref xa), (6, .ref xl), (7, .ref xp)]) hx hb dL_law_944 hl (by decide) rfl (fun ls hl => ?_)
      refine lv_aload_n hx hb dL_law_946 rfl (lv_at hl 8 rfl) ?_
      refine lv_aload_n hx hb dL_law_947 rfl (lv_at hl 9 rfl) ?_
      refine lv_aload hx hb dL_law_948 (lv_at hl 10 rfl) ?_
      refine lv_aload hx hb dL_law_950 (lv_at hl 11 rfl) ?_
      refine lv_aload hx hb dL_law_952 (lv_at hl 12 rfl) ?_
      refine lv_iload hx hb dL_law_954 (lv_at hl 2 rfl) ?_
      refine lv_aload_n hx hb dL_law_956 rfl (lv_at hl 8 rfl) ?_
      refine lv_bipush (v := 6) hx hb dL_law_957 (by decide) ?_
      refine gk_iald (i := 6) hx hb hK hP 0 0 rfl rfl (by omega) (by decide) dL_law_959 ?_
      rw [hn6]
      refine lv_i2l hx hb dL_law_960 rfl ?_
      have hF_11 := gk_all hD hS hA
      refine va_calli (va_runS (As := [.ref xn, .ref xb, .ref xd, .ref xa, .ref xl, .int (nI (Y / 6 % 100 * 5)), .long am.toInt64]) (rest := []) ⟨hx, hb, hml, hown, hts⟩ (kL_earned l D cyI cyZ cyL cyV cyJ xn xb xd xa xl nl nv gr sh rt ce bud fsd las isB mto maw dya amo rfd lnf nf bf df af lf ((xp, .inl (cyI, 40, .inl pf)) :: G : va_W) hR (gEL (fun l => bud l + mto l - maw l) (fun v => gAcc (fsd (lnf v)) (las (lnf v)) (rfd v) (dya v)) lnf amo orf nv) hel (nI (Y / 6 % 100 * 5)) am.toInt64 H.size _ rfl) (va_cwS 7 hts gL_law_L_earned rfl rfl rfl (by decide +kernel) ⟨(Nat.le_of_ble_eq_true rfl), (Nat.le_of_ble_eq_true rfl)⟩) (gk_preS hP hK hD) rfl rfl hl.1 rfl (lv_room (Nat.le_of_ble_eq_true rfl)) dL_law_961 ⟨(by show _ ≤ (706465 : Nat); omega), (by show _ ≤ (6982228 : Nat); omega)⟩) hS (fun q _ h => hF_11 q h) hF_11 (fun r_11 u_11 t_11 H locs ht_11 hvm_11 hw_11 hB_11 hz_11 hk_11 hS => ?_)
      obtain ⟨hP, hD⟩ := gk_back hF_11 hB_11 ht_11
      obtain rfl : r_11 = (gEt sh am (gUb sh gr (gSm (gCx dya isB (gEL (fun l => bud l + mto l - maw l) (fun v => gAcc (fsd (lnf v)) (las (lnf v)) (rfd v) (dya v)) lnf amo orf nv) lnf (nI (Y / 6 % 100 * 5)) 0) nv) (gOw rt ce (gSm (gCx dya isB (gEL (fun l => bud l + mto l - maw l) (fun v => gAcc (fsd (lnf v)) (las (lnf v)) (rfd v) (dya v)) lnf amo orf nv) lnf (nI (Y / 6 % 100 * 5)) 1) nv)))) := hw_11.trans (pG_am hG (nI (Y / 6 % 100 * 5)))
      refine lv_aload_n hx hb dL_law_964 rfl (lv_at hl 8 rfl) ?_
      refine lv_bipush (v := 9) hx hb dL_law_965 (by decide) ?_
      refine gk_iald (i := 9) hx hb hK hP 0 0 rfl rfl (by omega) (by decide) dL_law_967 ?_
      rw [hn9]
      refine lv_isub hx hb dL_law_968 ?_
      refine lv_istore (lv' := [(17, .int ((gEt sh am (gUb sh gr (gSm (gCx dya isB (gEL (fun l => bud l + mto l - maw l) (fun v => gAcc (fsd (lnf v)) (las (lnf v)) (rfd v) (dya v)) lnf amo orf nv) lnf (nI (Y / 6 % 100 * 5)) 0) nv) (gOw rt ce (gSm (gCx dya isB (gEL (fun l => bud l + mto l - maw l) (fun v => gAcc (fsd (lnf v)) (las (lnf v)) (rfd v) (dya v)) lnf amo orf nv) lnf (nI (Y / 6 % 100 * 5)) 1) nv)))) - (gSm cpa nc))), (16, .int 0), (15, .int 1), (14, .int (nI (Y / 6 % 100 * 5))), (13, .int (nI LN)), (12, .int (nI Y)), (9, .int (nI j)), (0, .ref b), (1, .ref g), (2, .ref xn), (3, .ref xb), (4, .ref xd), (5, .ref xa), (6, .ref xl), (7, .ref xp)]) hx hb dL_law_969 hl (by decide) rfl (fun ls hl => ?_)
      refine lv_iload hx hb dL_law_971 (lv_at hl 1 rfl) ?_
      refine lv_if_eq (tgt := 1008) hx hb dL_law_973 (by decide) (fun _ => ?_) (fun c => by first | exact absurd c (by decide) | exact absurd (by decide) c)
      refine lv_aload_n hx hb dL_law_1008 rfl (lv_at hl 8 rfl) ?_
      refine lv_iconst (v := 4) hx hb dL_law_1009 (by decide) ?_
      refine lv_iload hx hb dL_law_1010 (lv_at hl 3 rfl) ?_
      refine lv_iconst (v := 0) hx hb dL_law_1012 (by decide) ?_
      refine lv_iconst (v := 0) hx hb dL_law_1013 (by decide) ?_
      have hP : va_P D vwCl (([(xn, .inl (cyI, 10, .inl nf)), (xb, .inl (cyI, 36, .inl bf)), (xd, .inl (cyI, 40, .inl df)), (xa, .inl (cyI, 40, .inl af)), (xl, .inl (cyI, 40, .inl lf)), (xp, .inl (cyI, 40, .inl pf))] : va_W) ++ G) H := hP
      have hD : va_D A (([(xn, .inl (cyI, 10, .inl nf)), (xb, .inl (cyI, 36, .inl bf)), (xd, .inl (cyI, 40, .inl df)), (xa, .inl (cyI, 40, .inl af)), (xl, .inl (cyI, 40, .inl lf)), (xp, .inl (cyI, 40, .inl pf))] : va_W) ++ G) := hD
      have hF_13 := gk_all hD hS hA
      refine va_calli (vx_runSW (As := [.ref g, .int 4, .int (nI (Y / 6 % 100 * 5)), .int 0, .int 0]) (rest := []) ⟨hx, hb, hml, hown, hts⟩ (kL_does_claim l hst D cyI cyZ cyL cyV cyJ gr sh rt ce nl nv am nc cd bud fsd las isB mto maw lno dya amo rfd ord cpa lnf orf g ([(xn, .inl (cyI, 10, .inl nf)), (xb, .inl (cyI, 36, .inl bf)), (xd, .inl (cyI, 40, .inl df)), (xa, .inl (cyI, 40, .inl af)), (xl, .inl (cyI, 40, .inl lf)), (xp, .inl (cyI, 40, .inl pf))] : va_W) G hG (nI (Y / 6 % 100 * 5)) 0 0 H.size _ rfl) (vx_cwSW 5 hts gL_law_L_does rfl rfl rfl (by decide +kernel) ⟨(Nat.le_of_ble_eq_true rfl), (Nat.le_of_ble_eq_true rfl)⟩) (gk_preSN hNC hTF hS hF_13 hP hK hD) rfl rfl hl.1 rfl (lv_room (Nat.le_of_ble_eq_true rfl)) dL_law_1014 ⟨(by show _ ≤ (706465 : Nat); omega), (by show _ ≤ (6982228 : Nat); omega)⟩) hS (fun q _ h => hF_13 q h) hF_13 (fun r_13 u_13 t_13 H locs ht_13 hvm_13 hw_13 hB_13 hz_13 hk_13 hS => ?_)
      obtain ⟨hP, hD⟩ := gk_back hF_13 hB_13 ht_13
      have hP : va_P D vwCl ((xn, .inl (cyI, 10, .inl nf)) :: (xb, .inl (cyI, 36, .inl bf)) :: (xd, .inl (cyI, 40, .inl df)) :: (xa, .inl (cyI, 40, .inl af)) :: (xl, .inl (cyI, 40, .inl lf)) :: (xp, .inl (cyI, 40, .inl pf)) :: u_13) H := hP
      have hD : va_D A ((xn, .inl (cyI, 10, .inl nf)) :: (xb, .inl (cyI, 36, .inl bf)) :: (xd, .inl (cyI, 40, .inl df)) :: (xa, .inl (cyI, 40, .inl af)) :: (xl, .inl (cyI, 40, .inl lf)) :: (xp, .inl (cyI, 40, .inl pf)) :: u_13) := hD
      have hcd_13 := pA_cl2 (cd := cd) (nc := nc) (D := (Y / 6 % 100 * 5)) (by omega) c_1 (by omega)
      rcases hw_13 with ⟨hc_13, hr_13, hG_13⟩ | ⟨hc_13, hr_13, hG_13⟩ | ⟨hc_13, hr_13, hG_13⟩
      · exact absurd (hcd_13.symm.trans hc_13) (by decide)
      · exact absurd (hcd_13.symm.trans hc_13) (by decide)
      · subst hr_13
        refine lv_iload hx hb dL_law_1017 (lv_at hl 1 rfl) ?_
        refine lv_if_eq (tgt := 1027) hx hb dL_law_1019 (by decide) (fun _ => ?_) (fun c => by first | exact absurd c (by decide) | exact absurd (by decide) c)
        refine lv_iload hx hb dL_law_1027 (lv_at hl 2 rfl) ?_
        refine lv_if_eq (tgt := 1037) hx hb dL_law_1029 (by decide) (fun c => by first | exact absurd c (by decide) | exact absurd (by decide) c) (fun _ => ?_)
        refine lv_ldc hx hb hown (hts0 (.constant RL 58 (-2000000013)) wq_1_13) dL_law_1032 ?_
        refine lv_goto (tgt := 1039) hx hb dL_law_1034 (by decide) ?_
        refine lv_icmp_ne (tgt := 1046) hx hb dL_law_1039 (by decide) (fun c => by first | exact absurd c (by decide) | exact absurd (by decide) c) (fun _ => ?_)
        refine lv_iconst (v := 1) hx hb dL_law_1042 (by decide) ?_
        refine lv_goto (tgt := 1047) hx hb dL_law_1043 (by decide) ?_
        refine lv_istore (lv' := [(8, .int 1), (17, .int ((gEt sh am (gUb sh gr (gSm (gCx dya isB (gEL (fun l => bud l + mto l - maw l) (fun v => gAcc (fsd (lnf v)) (las (lnf v)) (rfd v) (dya v)) lnf amo orf nv) lnf (nI (Y / 6 % 100 * 5)) 0) nv) (gOw rt ce (gSm (gCx dya isB (gEL (fun l => bud l + mto l - maw l) (fun v => gAcc (fsd (lnf v)) (las (lnf v)) (rfd v) (dya v)) lnf amo orf nv) lnf (nI (Y / 6 % 100 * 5)) 1) nv)))) - (gSm cpa nc))), (16, .int 0), (15, .int 1), (14, .int (nI (Y / 6 % 100 * 5))), (13, .int (nI LN)), (12, .int (nI Y)), (9, .int (nI j)), (0, .ref b), (1, .ref g), (2, .ref xn), (3, .ref xb), (4, .ref xd), (5, .ref xa), (6, .ref xl), (7, .ref xp)]) hx hb dL_law_1047 hl (by decide) rfl (fun ls hl => ?_)
        refine lv_goto (tgt := 1317) hx hb dL_law_1049 (by decide) ?_
        refine W.widen (k := 400 + 2000 * j + 1000) (n := 2000 + 20000 * j + 10000) (by omega) (by omega) ?_
        exact tl _ _ _ _ _ _ _ _ _ _ _ _ _ _ _ _ _ _ _ _ _ _ _ nf bf df af lf pf u_13 _ _ _ Y hG_13 hR hX hT (by omega) (by omega) hP hD hS (lv_sub hl [0, 6, 7, 8, 9, 10, 11, 12, 13, 14, 15] rfl)
    · have n_10 : nc < 40 := pf_nle (a := 40) (b := nc) (by omega) (by omega) c_10
      refine lv_iconst (v := 1) hx hb dL_law_939 (by decide) ?_
      refine lv_goto (tgt := 944) hx hb dL_law_940 (by decide) ?_
      refine lv_istore (lv' := [(16, .int 1), (15, .int 1), (14, .int (nI (Y / 6 % 100 * 5))), (13, .int (nI LN)), (12, .int (nI Y)), (9, .int (nI j)), (0, .ref b), (1, .ref g), (2, .ref xn), (3, .ref xb), (4, .ref xd), (5, .ref xa), (6, .ref xl), (7, .ref xp)]) hx hb dL_law_944 hl (by decide) rfl (fun ls hl => ?_)
      refine lv_aload_n hx hb dL_law_946 rfl (lv_at hl 8 rfl) ?_
      refine lv_aload_n hx hb dL_law_947 rfl (lv_at hl 9 rfl) ?_
      refine lv_aload hx hb dL_law_948 (lv_at hl 10 rfl) ?_
      refine lv_aload hx hb dL_law_950 (lv_at hl 11 rfl) ?_
      refine lv_aload hx hb dL_law_952 (lv_at hl 12 rfl) ?_
      refine lv_iload hx hb dL_law_954 (lv_at hl 2 rfl) ?_
      refine lv_aload_n hx hb dL_law_956 rfl (lv_at hl 8 rfl) ?_
      refine lv_bipush (v := 6) hx hb dL_law_957 (by decide) ?_
      refine gk_iald (i := 6) hx hb hK hP 0 0 rfl rfl (by omega) (by decide) dL_law_959 ?_
      rw [hn6]
      refine lv_i2l hx hb dL_law_960 rfl ?_
      have hF_17 := gk_all hD hS hA
      refine va_calli (va_runS (As := [.ref xn, .ref xb, .ref xd, .ref xa, .ref xl, .int (nI (Y / 6 % 100 * 5)), .long am.toInt64]) (rest := []) ⟨hx, hb, hml, hown, hts⟩ (kL_earned l D cyI cyZ cyL cyV cyJ xn xb xd xa xl nl nv gr sh rt ce bud fsd las isB mto maw dya amo rfd lnf nf bf df af lf ((xp, .inl (cyI, 40, .inl pf)) :: G : va_W) hR (gEL (fun l => bud l + mto l - maw l) (fun v => gAcc (fsd (lnf v)) (las (lnf v)) (rfd v) (dya v)) lnf amo orf nv) hel (nI (Y / 6 % 100 * 5)) am.toInt64 H.size _ rfl) (va_cwS 7 hts gL_law_L_earned rfl rfl rfl (by decide +kernel) ⟨(Nat.le_of_ble_eq_true rfl), (Nat.le_of_ble_eq_true rfl)⟩) (gk_preS hP hK hD) rfl rfl hl.1 rfl (lv_room (Nat.le_of_ble_eq_true rfl)) dL_law_961 ⟨(by show _ ≤ (706465 : Nat); omega), (by show _ ≤ (6982228 : Nat); omega)⟩) hS (fun q _ h => hF_17 q h) hF_17 (fun r_17 u_17 t_17 H locs ht_17 hvm_17 hw_17 hB_17 hz_17 hk_17 hS => ?_)
      obtain ⟨hP, hD⟩ := gk_back hF_17 hB_17 ht_17
      obtain rfl : r_17 = (gEt sh am (gUb sh gr (gSm (gCx dya isB (gEL (fun l => bud l + mto l - maw l) (fun v => gAcc (fsd (lnf v)) (las (lnf v)) (rfd v) (dya v)) lnf amo orf nv) lnf (nI (Y / 6 % 100 * 5)) 0) nv) (gOw rt ce (gSm (gCx dya isB (gEL (fun l => bud l + mto l - maw l) (fun v => gAcc (fsd (lnf v)) (las (lnf v)) (rfd v) (dya v)) lnf amo orf nv) lnf (nI (Y / 6 % 100 * 5)) 1) nv)))) := hw_17.trans (pG_am hG (nI (Y / 6 % 100 * 5)))
      refine lv_aload_n hx hb dL_law_964 rfl (lv_at hl 8 rfl) ?_
      refine lv_bipush (v := 9) hx hb dL_law_965 (by decide) ?_
      refine gk_iald (i := 9) hx hb hK hP 0 0 rfl rfl (by omega) (by decide) dL_law_967 ?_
      rw [hn9]
      refine lv_isub hx hb dL_law_968 ?_
      refine lv_istore (lv' := [(17, .int ((gEt sh am (gUb sh gr (gSm (gCx dya isB (gEL (fun l => bud l + mto l - maw l) (fun v => gAcc (fsd (lnf v)) (las (lnf v)) (rfd v) (dya v)) lnf amo orf nv) lnf (nI (Y / 6 % 100 * 5)) 0) nv) (gOw rt ce (gSm (gCx dya isB (gEL (fun l => bud l + mto l - maw l) (fun v => gAcc (fsd (lnf v)) (las (lnf v)) (rfd v) (dya v)) lnf amo orf nv) lnf (nI (Y / 6 % 100 * 5)) 1) nv)))) - (gSm cpa nc))), (16, .int 1), (15, .int 1), (14, .int (nI (Y / 6 % 100 * 5))), (13, .int (nI LN)), (12, .int (nI Y)), (9, .int (nI j)), (0, .ref b), (1, .ref g), (2, .ref xn), (3, .ref xb), (4, .ref xd), (5, .ref xa), (6, .ref xl), (7, .ref xp)]) hx hb dL_law_969 hl (by decide) rfl (fun ls hl => ?_)
      refine lv_iload hx hb dL_law_971 (lv_at hl 1 rfl) ?_
      refine lv_if_eq (tgt := 1008) hx hb dL_law_973 (by decide) (fun c => by first | exact absurd c (by decide) | exact absurd (by decide) c) (fun _ => ?_)
      refine lv_aload hx hb dL_law_976 (lv_at hl 14 rfl) ?_
      refine lv_aload_n hx hb dL_law_978 rfl (lv_at hl 9 rfl) ?_
      refine lv_bipush (v := 7) hx hb dL_law_979 (by decide) ?_
      refine gk_iald (i := 7) hx hb hK hP 0 0 rfl rfl (by omega) (by decide) dL_law_981 ?_
      rw [hn7]
      refine lv_iload hx hb dL_law_982 (lv_at hl 0 rfl) ?_
      refine gk_iast (i := nc) hx hb hK hP hD hS 5 0 rfl rfl (by omega) (by decide) dL_law_984 (fun H locs hP hD hS => ?_)
      have hP : va_P D vwCl ((xn, .inl (cyI, 10, .inl nf)) :: (xb, .inl (cyI, 36, .inl bf)) :: (xd, .inl (cyI, 40, .inl df)) :: (xa, .inl (cyI, 40, .inl af)) :: (xl, .inl (cyI, 40, .inl lf)) :: (xp, .inl (cyI, 40, .inl (va_up pf nc ((gEt sh am (gUb sh gr (gSm (gCx dya isB (gEL (fun l => bud l + mto l - maw l) (fun v => gAcc (fsd (lnf v)) (las (lnf v)) (rfd v) (dya v)) lnf amo orf nv) lnf (nI (Y / 6 % 100 * 5)) 0) nv) (gOw rt ce (gSm (gCx dya isB (gEL (fun l => bud l + mto l - maw l) (fun v => gAcc (fsd (lnf v)) (las (lnf v)) (rfd v) (dya v)) lnf amo orf nv) lnf (nI (Y / 6 % 100 * 5)) 1) nv)))) - (gSm cpa nc))))) :: G) H := hP
      have hD : va_D A ((xn, .inl (cyI, 10, .inl nf)) :: (xb, .inl (cyI, 36, .inl bf)) :: (xd, .inl (cyI, 40, .inl df)) :: (xa, .inl (cyI, 40, .inl af)) :: (xl, .inl (cyI, 40, .inl lf)) :: (xp, .inl (cyI, 40, .inl (va_up pf nc ((gEt sh am (gUb sh gr (gSm (gCx dya isB (gEL (fun l => bud l + mto l - maw l) (fun v => gAcc (fsd (lnf v)) (las (lnf v)) (rfd v) (dya v)) lnf amo orf nv) lnf (nI (Y / 6 % 100 * 5)) 0) nv) (gOw rt ce (gSm (gCx dya isB (gEL (fun l => bud l + mto l - maw l) (fun v => gAcc (fsd (lnf v)) (las (lnf v)) (rfd v) (dya v)) lnf amo orf nv) lnf (nI (Y / 6 % 100 * 5)) 1) nv)))) - (gSm cpa nc))))) :: G) := hD
      obtain ⟨pf_19, epf_19⟩ : ∃ z, z = (va_up pf nc ((gEt sh am (gUb sh gr (gSm (gCx dya isB (gEL (fun l => bud l + mto l - maw l) (fun v => gAcc (fsd (lnf v)) (las (lnf v)) (rfd v) (dya v)) lnf amo orf nv) lnf (nI (Y / 6 % 100 * 5)) 0) nv) (gOw rt ce (gSm (gCx dya isB (gEL (fun l => bud l + mto l - maw l) (fun v => gAcc (fsd (lnf v)) (las (lnf v)) (rfd v) (dya v)) lnf amo orf nv) lnf (nI (Y / 6 % 100 * 5)) 1) nv)))) - (gSm cpa nc))) := ⟨_, rfl⟩
      rw [← epf_19] at hP hD
      refine lv_aload_n hx hb dL_law_985 rfl (lv_at hl 9 rfl) ?_
      refine lv_bipush (v := 7) hx hb dL_law_986 (by decide) ?_
      refine lv_dup2_11 hx hb dL_law_988 rfl rfl ?_
      refine gk_iald (i := 7) hx hb hK hP 0 0 rfl rfl (by omega) (by decide) dL_law_989 ?_
      rw [hn7]
      refine lv_iconst (v := 1) hx hb dL_law_990 (by decide) ?_
      refine lv_iadd hx hb dL_law_991 ?_
      refine lv_topi (fun y_20 h_20 => ?_)
      obtain rfl : y_20 = (nI (nc + 1)) := h_20.trans (nI_add nc 1)
      refine gk_iast (i := 7) hx hb hK hP hD hS 0 0 rfl rfl (by omega) (by decide) dL_law_992 (fun H locs hP hD hS => ?_)
      have hP : va_P D vwCl ((xn, .inl (cyI, 10, .inl (va_up nf 7 (nI (nc + 1))))) :: (xb, .inl (cyI, 36, .inl bf)) :: (xd, .inl (cyI, 40, .inl df)) :: (xa, .inl (cyI, 40, .inl af)) :: (xl, .inl (cyI, 40, .inl lf)) :: (xp, .inl (cyI, 40, .inl pf_19)) :: G) H := hP
      have hD : va_D A ((xn, .inl (cyI, 10, .inl (va_up nf 7 (nI (nc + 1))))) :: (xb, .inl (cyI, 36, .inl bf)) :: (xd, .inl (cyI, 40, .inl df)) :: (xa, .inl (cyI, 40, .inl af)) :: (xl, .inl (cyI, 40, .inl lf)) :: (xp, .inl (cyI, 40, .inl pf_19)) :: G) := hD
      obtain ⟨nf_21, enf_21⟩ : ∃ z, z = (va_up nf 7 (nI (nc + 1))) := ⟨_, rfl⟩
      rw [← enf_21] at hP hD
      refine lv_aload_n hx hb dL_law_993 rfl (lv_at hl 9 rfl) ?_
      refine lv_bipush (v := 8) hx hb dL_law_994 (by decide) ?_
      refine lv_iload hx hb dL_law_996 (lv_at hl 3 rfl) ?_
      refine gk_iast (i := 8) hx hb hK hP hD hS 0 0 rfl rfl (by omega) (by decide) dL_law_998 (fun H locs hP hD hS => ?_)
      have hP : va_P D vwCl ((xn, .inl (cyI, 10, .inl (va_up nf_21 8 (nI (Y / 6 % 100 * 5))))) :: (xb, .inl (cyI, 36, .inl bf)) :: (xd, .inl (cyI, 40, .inl df)) :: (xa, .inl (cyI, 40, .inl af)) :: (xl, .inl (cyI, 40, .inl lf)) :: (xp, .inl (cyI, 40, .inl pf_19)) :: G) H := hP
      have hD : va_D A ((xn, .inl (cyI, 10, .inl (va_up nf_21 8 (nI (Y / 6 % 100 * 5))))) :: (xb, .inl (cyI, 36, .inl bf)) :: (xd, .inl (cyI, 40, .inl df)) :: (xa, .inl (cyI, 40, .inl af)) :: (xl, .inl (cyI, 40, .inl lf)) :: (xp, .inl (cyI, 40, .inl pf_19)) :: G) := hD
      obtain ⟨nf_22, enf_22⟩ : ∃ z, z = (va_up nf_21 8 (nI (Y / 6 % 100 * 5))) := ⟨_, rfl⟩
      rw [← enf_22] at hP hD
      refine lv_aload_n hx hb dL_law_999 rfl (lv_at hl 9 rfl) ?_
      refine lv_bipush (v := 9) hx hb dL_law_1000 (by decide) ?_
      refine lv_dup2_11 hx hb dL_law_1002 rfl rfl ?_
      refine gk_iald (i := 9) hx hb hK hP 0 0 rfl rfl (by omega) (by decide) dL_law_1003 ?_
      rw [show nf_22 9 = nf_21 9 from by rw [enf_22, va_up_ne _ _ (by omega)]]
      rw [show nf_21 9 = nf 9 from by rw [enf_21, va_up_ne _ _ (by omega)]]
      rw [hn9]
      refine lv_iload hx hb dL_law_1004 (lv_at hl 0 rfl) ?_
      refine lv_iadd hx hb dL_law_1006 ?_
      refine gk_iast (i := 9) hx hb hK hP hD hS 0 0 rfl rfl (by omega) (by decide) dL_law_1007 (fun H locs hP hD hS => ?_)
      have hP : va_P D vwCl ((xn, .inl (cyI, 10, .inl (va_up nf_22 9 ((gSm cpa nc) + ((gEt sh am (gUb sh gr (gSm (gCx dya isB (gEL (fun l => bud l + mto l - maw l) (fun v => gAcc (fsd (lnf v)) (las (lnf v)) (rfd v) (dya v)) lnf amo orf nv) lnf (nI (Y / 6 % 100 * 5)) 0) nv) (gOw rt ce (gSm (gCx dya isB (gEL (fun l => bud l + mto l - maw l) (fun v => gAcc (fsd (lnf v)) (las (lnf v)) (rfd v) (dya v)) lnf amo orf nv) lnf (nI (Y / 6 % 100 * 5)) 1) nv)))) - (gSm cpa nc)))))) :: (xb, .inl (cyI, 36, .inl bf)) :: (xd, .inl (cyI, 40, .inl df)) :: (xa, .inl (cyI, 40, .inl af)) :: (xl, .inl (cyI, 40, .inl lf)) :: (xp, .inl (cyI, 40, .inl pf_19)) :: G) H := hP
      have hD : va_D A ((xn, .inl (cyI, 10, .inl (va_up nf_22 9 ((gSm cpa nc) + ((gEt sh am (gUb sh gr (gSm (gCx dya isB (gEL (fun l => bud l + mto l - maw l) (fun v => gAcc (fsd (lnf v)) (las (lnf v)) (rfd v) (dya v)) lnf amo orf nv) lnf (nI (Y / 6 % 100 * 5)) 0) nv) (gOw rt ce (gSm (gCx dya isB (gEL (fun l => bud l + mto l - maw l) (fun v => gAcc (fsd (lnf v)) (las (lnf v)) (rfd v) (dya v)) lnf amo orf nv) lnf (nI (Y / 6 % 100 * 5)) 1) nv)))) - (gSm cpa nc)))))) :: (xb, .inl (cyI, 36, .inl bf)) :: (xd, .inl (cyI, 40, .inl df)) :: (xa, .inl (cyI, 40, .inl af)) :: (xl, .inl (cyI, 40, .inl lf)) :: (xp, .inl (cyI, 40, .inl pf_19)) :: G) := hD
      obtain ⟨nf_23, enf_23⟩ : ∃ z, z = (va_up nf_22 9 ((gSm cpa nc) + ((gEt sh am (gUb sh gr (gSm (gCx dya isB (gEL (fun l => bud l + mto l - maw l) (fun v => gAcc (fsd (lnf v)) (las (lnf v)) (rfd v) (dya v)) lnf amo orf nv) lnf (nI (Y / 6 % 100 * 5)) 0) nv) (gOw rt ce (gSm (gCx dya isB (gEL (fun l => bud l + mto l - maw l) (fun v => gAcc (fsd (lnf v)) (las (lnf v)) (rfd v) (dya v)) lnf amo orf nv) lnf (nI (Y / 6 % 100 * 5)) 1) nv)))) - (gSm cpa nc)))) := ⟨_, rfl⟩
      rw [← enf_23] at hP hD
      refine lv_aload_n hx hb dL_law_1008 rfl (lv_at hl 8 rfl) ?_
      refine lv_iconst (v := 4) hx hb dL_law_1009 (by decide) ?_
      refine lv_iload hx hb dL_law_1010 (lv_at hl 3 rfl) ?_
      refine lv_iconst (v := 0) hx hb dL_law_1012 (by decide) ?_
      refine lv_iconst (v := 0) hx hb dL_law_1013 (by decide) ?_
      have hP : va_P D vwCl (([(xn, .inl (cyI, 10, .inl nf_23)), (xb, .inl (cyI, 36, .inl bf)), (xd, .inl (cyI, 40, .inl df)), (xa, .inl (cyI, 40, .inl af)), (xl, .inl (cyI, 40, .inl lf)), (xp, .inl (cyI, 40, .inl pf_19))] : va_W) ++ G) H := hP
      have hD : va_D A (([(xn, .inl (cyI, 10, .inl nf_23)), (xb, .inl (cyI, 36, .inl bf)), (xd, .inl (cyI, 40, .inl df)), (xa, .inl (cyI, 40, .inl af)), (xl, .inl (cyI, 40, .inl lf)), (xp, .inl (cyI, 40, .inl pf_19))] : va_W) ++ G) := hD
      have hF_24 := gk_all hD hS hA
      refine va_calli (vx_runSW (As := [.ref g, .int 4, .int (nI (Y / 6 % 100 * 5)), .int 0, .int 0]) (rest := []) ⟨hx, hb, hml, hown, hts⟩ (kL_does_claim l hst D cyI cyZ cyL cyV cyJ gr sh rt ce nl nv am nc cd bud fsd las isB mto maw lno dya amo rfd ord cpa lnf orf g ([(xn, .inl (cyI, 10, .inl nf_23)), (xb, .inl (cyI, 36, .inl bf)), (xd, .inl (cyI, 40, .inl df)), (xa, .inl (cyI, 40, .inl af)), (xl, .inl (cyI, 40, .inl lf)), (xp, .inl (cyI, 40, .inl pf_19))] : va_W) G hG (nI (Y / 6 % 100 * 5)) 0 0 H.size _ rfl) (vx_cwSW 5 hts gL_law_L_does rfl rfl rfl (by decide +kernel) ⟨(Nat.le_of_ble_eq_true rfl), (Nat.le_of_ble_eq_true rfl)⟩) (gk_preSN hNC hTF hS hF_24 hP hK hD) rfl rfl hl.1 rfl (lv_room (Nat.le_of_ble_eq_true rfl)) dL_law_1014 ⟨(by show _ ≤ (706465 : Nat); omega), (by show _ ≤ (6982228 : Nat); omega)⟩) hS (fun q _ h => hF_24 q h) hF_24 (fun r_24 u_24 t_24 H locs ht_24 hvm_24 hw_24 hB_24 hz_24 hk_24 hS => ?_)
      obtain ⟨hP, hD⟩ := gk_back hF_24 hB_24 ht_24
      have hP : va_P D vwCl ((xn, .inl (cyI, 10, .inl nf_23)) :: (xb, .inl (cyI, 36, .inl bf)) :: (xd, .inl (cyI, 40, .inl df)) :: (xa, .inl (cyI, 40, .inl af)) :: (xl, .inl (cyI, 40, .inl lf)) :: (xp, .inl (cyI, 40, .inl pf_19)) :: u_24) H := hP
      have hD : va_D A ((xn, .inl (cyI, 10, .inl nf_23)) :: (xb, .inl (cyI, 36, .inl bf)) :: (xd, .inl (cyI, 40, .inl df)) :: (xa, .inl (cyI, 40, .inl af)) :: (xl, .inl (cyI, 40, .inl lf)) :: (xp, .inl (cyI, 40, .inl pf_19)) :: u_24) := hD
      have hcd_24 := pA_cl0 (cd := cd) (nc := nc) (D := (Y / 6 % 100 * 5)) (by omega) c_1 n_10
      rcases hw_24 with ⟨hc_24, hr_24, hG_24⟩ | ⟨hc_24, hr_24, hG_24⟩ | ⟨hc_24, hr_24, hG_24⟩
      · subst hr_24
        have hX9 := pX_claim hX (x := ((gEt sh am (gUb sh gr (gSm (gCx dya isB (gEL (fun l => bud l + mto l - maw l) (fun v => gAcc (fsd (lnf v)) (las (lnf v)) (rfd v) (dya v)) lnf amo orf nv) lnf (nI (Y / 6 % 100 * 5)) 0) nv) (gOw rt ce (gSm (gCx dya isB (gEL (fun l => bud l + mto l - maw l) (fun v => gAcc (fsd (lnf v)) (las (lnf v)) (rfd v) (dya v)) lnf amo orf nv) lnf (nI (Y / 6 % 100 * 5)) 1) nv)))) - (gSm cpa nc))) (d := nI (Y / 6 % 100 * 5)) (nf' := nf_23) (by rw [enf_23, enf_22, enf_21]) epf_19
        have hR9 := pR_nf hR (nf' := nf_23) (fun k hk => by rw [enf_23, enf_22, enf_21, va_up_ne _ _ (by omega), va_up_ne _ _ (by omega), va_up_ne _ _ (by omega)])
        refine lv_iload hx hb dL_law_1017 (lv_at hl 1 rfl) ?_
        refine lv_if_eq (tgt := 1027) hx hb dL_law_1019 (by decide) (fun c => by first | exact absurd c (by decide) | exact absurd (by decide) c) (fun _ => ?_)
        refine lv_iload hx hb dL_law_1022 (lv_at hl 0 rfl) ?_
        refine lv_goto (tgt := 1039) hx hb dL_law_1024 (by decide) ?_
        refine lv_icmp_ne (tgt := 1046) hx hb dL_law_1039 (by decide) (fun c9 => absurd rfl c9) (fun _ => ?_)
        refine lv_iconst (v := 1) hx hb dL_law_1042 (by decide) ?_
        refine lv_goto (tgt := 1047) hx hb dL_law_1043 (by decide) ?_
        refine lv_istore (lv' := [(8, .int 1), (17, .int ((gEt sh am (gUb sh gr (gSm (gCx dya isB (gEL (fun l => bud l + mto l - maw l) (fun v => gAcc (fsd (lnf v)) (las (lnf v)) (rfd v) (dya v)) lnf amo orf nv) lnf (nI (Y / 6 % 100 * 5)) 0) nv) (gOw rt ce (gSm (gCx dya isB (gEL (fun l => bud l + mto l - maw l) (fun v => gAcc (fsd (lnf v)) (las (lnf v)) (rfd v) (dya v)) lnf amo orf nv) lnf (nI (Y / 6 % 100 * 5)) 1) nv)))) - (gSm cpa nc))), (16, .int 1), (15, .int 1), (14, .int (nI (Y / 6 % 100 * 5))), (13, .int (nI LN)), (12, .int (nI Y)), (9, .int (nI j)), (0, .ref b), (1, .ref g), (2, .ref xn), (3, .ref xb), (4, .ref xd), (5, .ref xa), (6, .ref xl), (7, .ref xp)]) hx hb dL_law_1047 hl (by decide) rfl (fun ls hl => ?_)
        refine lv_goto (tgt := 1317) hx hb dL_law_1049 (by decide) ?_
        refine W.widen (k := 400 + 2000 * j + 1000) (n := 2000 + 20000 * j + 10000) (by omega) (by omega) ?_
        exact tl _ _ _ _ _ _ _ _ _ _ _ _ _ _ _ _ _ _ _ _ _ _ _ nf_23 bf df af lf pf_19 u_24 _ _ _ Y hG_24 hR9 hX9 hT (by omega) (by omega) hP hD hS (lv_sub hl [0, 6, 7, 8, 9, 10, 11, 12, 13, 14, 15] rfl)
      · exact absurd (hcd_24.symm.trans hc_24) (by decide)
      · exact absurd (hcd_24.symm.trans hc_24) (by decide)
