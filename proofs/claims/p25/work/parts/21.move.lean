set_option maxHeartbeats 40000000 in
set_option maxRecDepth 100000 in
theorem pD_move {p : Program} {l : Launch} {e : Env} {s : State} {m : MethodId} {below : List Frame} {meth : Method} {c : Code} (hst : l.stackTraces = false) {D : va_G} {cyI cyZ cyL cyV cyJ : ClassId} {b L : Nat} {xs : Nat → Int32} (hL : L ≤ 260) (CA : lw_At p s m meth c b L xs) {A : Nat → Prop} (hAd : A = fun q : Nat => s.heap.size ≤ q) (hTF : gTF A s s.heap) (hNC : gNC s) (hK : va_K D vwCl (gTy cyI cyZ cyL cyV cyJ) s) {g xn xb xd xa xl xp : Nat} {j : Nat} (hj : j < 60) (tl : pTail p l e s m below meth c D cyI cyZ cyL cyV cyJ b g xn xb xd xa xl xp A j) {gr sh rt ce : Int32} {nl nv : Nat} {am : Int32} {nc : Nat} {cd : Int32} {bud fsd las isB mto maw lno dya amo rfd ord cpa : Nat → Int32} {lnf orf : Nat → Nat} {nf bf df af lf pf : Nat → Int32} {G : va_W} {H : Heap} {locs : List Loc} {ls : Array Slot} {Y LN : Nat} (hY : Y < 2 ^ 27) (hG : gGP cyI cyL cyV gr sh rt ce nl nv am nc cd bud fsd las isB mto maw lno dya amo rfd ord cpa lnf orf g G) (hR : pRB nl nv gr sh rt ce bud fsd las isB mto maw dya amo rfd lnf nf bf df af lf) (hX : pRX nl am nc cd cpa nf bf pf) (hT : pST nv dya orf) (hLN : LN < nl) (h3 : 3 ≤ nl) (hP : va_P D vwCl ((xn, .inl (cyI, 10, .inl nf)) :: (xb, .inl (cyI, 36, .inl bf)) :: (xd, .inl (cyI, 40, .inl df)) :: (xa, .inl (cyI, 40, .inl af)) :: (xl, .inl (cyI, 40, .inl lf)) :: (xp, .inl (cyI, 40, .inl pf)) :: G) H) (hD : va_D A ((xn, .inl (cyI, 10, .inl nf)) :: (xb, .inl (cyI, 36, .inl bf)) :: (xd, .inl (cyI, 40, .inl df)) :: (xa, .inl (cyI, 40, .inl af)) :: (xl, .inl (cyI, 40, .inl lf)) :: (xp, .inl (cyI, 40, .inl pf)) :: G)) (hS : va_S A s.heap H locs) (hl : lv_has ls 20 [(14, .int (nI (Y / 6 % 100 * 5))), (13, .int (nI LN)), (12, .int (nI Y)), (9, .int (nI j)), (0, .ref b), (1, .ref g), (2, .ref xn), (3, .ref xb), (4, .ref xd), (5, .ref xa), (6, .ref xl), (7, .ref xp)]) : W p l e room_1 s m #[Value.ref b] below meth c H locs (400 + 2000 * j) (2000 + 20000 * j) (lw_Z below #[Value.ref b] s) (F0 m 466 ls []) := by
  obtain ⟨hx, hb, hr, hml, hown, hts0, hX0, hbl, hlocks, hgv⟩ := CA
  have hts : ∀ w ∈ wsL_law, w.before #[Value.ref b] s = true := fun w h => hts0 w (wsL_law_in w h)
  have hA : ∀ q : Nat, s.heap.size ≤ q → A q := fun q h => by rw [hAd]; exact h
  have hbA : ¬ A b := by rw [hAd]; exact Nat.not_le.mpr hbl
  obtain ⟨⟨hnl, hnv⟩, ⟨hn0, hn1, hn2, hn3, hn5⟩, hbl, hvl⟩ := id hR
  obtain ⟨hn4, hn6, hn7, hn8, hn9, hpf, hbz⟩ := id hX
  have hnc : nc ≤ 40 := hG.1.1.2.2
  have hel := pG_el hG hT
  refine lv_iload hx hb dL_law_466 (lv_at hl 2 rfl) ?_
  refine lv_bipush (v := 7) hx hb dL_law_468 (by decide) ?_
  refine lv_idiv hx hb dL_law_470 (by decide) ?_
  refine lv_topi (fun y_1 h_1 => ?_)
  obtain rfl : y_1 = (nI (Y / 7)) := h_1.trans (pk_div (a := Y) (d := 7) (by omega) (by omega) (by omega))
  refine lv_aload_n hx hb dL_law_471 rfl (lv_at hl 6 rfl) ?_
  refine lv_iconst (v := 4) hx hb dL_law_472 (by decide) ?_
  refine gk_iald (i := 4) hx hb hK hP 0 0 rfl rfl (by omega) (by decide) dL_law_473 ?_
  rw [hn4]
  refine lv_irem hx hb dL_law_474 (nI_ne0 (by omega) (by omega)) ?_
  refine lv_topi (fun y_2 h_2 => ?_)
  obtain rfl : y_2 = (nI ((Y / 7) % nl)) := h_2.trans (pk_rem (a := (Y / 7)) (d := nl) (by omega) (by omega) (by omega))
  obtain ⟨TO, hTO, hTOe⟩ : ∃ TO, TO < nl ∧ Y / 7 % nl = TO := ⟨_, Nat.mod_lt _ (by omega), rfl⟩
  rw [hTOe]
  refine lv_istore (lv' := [(15, .int (nI TO)), (14, .int (nI (Y / 6 % 100 * 5))), (13, .int (nI LN)), (12, .int (nI Y)), (9, .int (nI j)), (0, .ref b), (1, .ref g), (2, .ref xn), (3, .ref xb), (4, .ref xd), (5, .ref xa), (6, .ref xl), (7, .ref xp)]) hx hb dL_law_475 hl (by decide) rfl (fun ls hl => ?_)
  have cutA : ∀ (AM : Nat) (hA1 : 1 ≤ AM) (hA2 : AM ≤ 10000000) (ls : Array Slot), lv_has ls 20 [(15, .int (nI TO)), (14, .int (nI (Y / 6 % 100 * 5))), (13, .int (nI LN)), (12, .int (nI Y)), (9, .int (nI j)), (0, .ref b), (1, .ref g), (2, .ref xn), (3, .ref xb), (4, .ref xd), (5, .ref xa), (6, .ref xl), (7, .ref xp)] → W p l e room_1 s m #[Value.ref b] below meth c H locs (400 + 2000 * j) (2000 + 20000 * j) (lw_Z below #[Value.ref b] s) (F0 m 500 ls [.int (nI AM)]) := by
    intro AM hA1 hA2 ls hl
    refine lv_istore (lv' := [(16, .int (nI AM)), (15, .int (nI TO)), (14, .int (nI (Y / 6 % 100 * 5))), (13, .int (nI LN)), (12, .int (nI Y)), (9, .int (nI j)), (0, .ref b), (1, .ref g), (2, .ref xn), (3, .ref xb), (4, .ref xd), (5, .ref xa), (6, .ref xl), (7, .ref xp)]) hx hb dL_law_500 hl (by decide) rfl (fun ls hl => ?_)
    refine lv_aload_n hx hb dL_law_502 rfl (lv_at hl 9 rfl) ?_
    refine lv_bipush (v := 6) hx hb dL_law_503 (by decide) ?_
    refine lv_iload hx hb dL_law_505 (lv_at hl 3 rfl) ?_
    refine lv_imul hx hb dL_law_507 ?_
    refine lv_topi (fun y_3 h_3 => ?_)
    obtain rfl : y_3 = (nI (6 * LN)) := h_3.trans (pk_mul 6 LN)
    refine lv_iconst (v := 5) hx hb dL_law_508 (by decide) ?_
    refine lv_iadd hx hb dL_law_509 ?_
    refine lv_topi (fun y_4 h_4 => ?_)
    obtain rfl : y_4 = (nI ((6 * LN) + 5)) := h_4.trans (nI_add (6 * LN) 5)
    refine gk_iald (i := ((6 * LN) + 5)) hx hb hK hP 1 0 rfl rfl (by omega) (by decide) dL_law_510 ?_
    rw [(hbl LN (by omega)).2.2.2.2.2.1]
    refine lv_iload hx hb dL_law_511 (lv_at hl 0 rfl) ?_
    refine lv_iadd hx hb dL_law_513 ?_
    refine lv_aload_n hx hb dL_law_514 rfl (lv_at hl 9 rfl) ?_
    refine lv_bipush (v := 6) hx hb dL_law_515 (by decide) ?_
    refine lv_iload hx hb dL_law_517 (lv_at hl 3 rfl) ?_
    refine lv_imul hx hb dL_law_519 ?_
    refine lv_topi (fun y_5 h_5 => ?_)
    obtain rfl : y_5 = (nI (6 * LN)) := h_5.trans (pk_mul 6 LN)
    refine gk_iald (i := (6 * LN)) hx hb hK hP 1 0 rfl rfl (by omega) (by decide) dL_law_520 ?_
    rw [(hbl LN (by omega)).1]
    refine lv_bipush (v := 10) hx hb dL_law_521 (by decide) ?_
    refine lv_idiv hx hb dL_law_523 (by decide) ?_
    refine lv_icmp_gt (tgt := 531) hx hb dL_law_524 (by decide) (fun c_6 => ?_) (fun c_6 => ?_)
    · refine lv_iconst (v := 0) hx hb dL_law_531 (by decide) ?_
      refine lv_istore (lv' := [(17, .int 0), (16, .int (nI AM)), (15, .int (nI TO)), (14, .int (nI (Y / 6 % 100 * 5))), (13, .int (nI LN)), (12, .int (nI Y)), (9, .int (nI j)), (0, .ref b), (1, .ref g), (2, .ref xn), (3, .ref xb), (4, .ref xd), (5, .ref xa), (6, .ref xl), (7, .ref xp)]) hx hb dL_law_532 hl (by decide) rfl (fun ls hl => ?_)
      refine lv_iload hx hb dL_law_534 (lv_at hl 4 rfl) ?_
      refine lv_iload hx hb dL_law_536 (lv_at hl 2 rfl) ?_
      refine lv_icmp_eq (tgt := 574) hx hb dL_law_538 (by decide) (fun c_7 => ?_) (fun c_7 => ?_)
      · have n_7 : LN = TO := pf_eq (a := LN) (b := TO) (by omega) (by omega) c_7
        refine lv_aload_n hx hb dL_law_574 rfl (lv_at hl 8 rfl) ?_
        refine lv_iconst (v := 0) hx hb dL_law_575 (by decide) ?_
        refine lv_iload hx hb dL_law_576 (lv_at hl 4 rfl) ?_
        refine lv_iload hx hb dL_law_578 (lv_at hl 2 rfl) ?_
        refine lv_iload hx hb dL_law_580 (lv_at hl 1 rfl) ?_
        have hP : va_P D vwCl (([(xn, .inl (cyI, 10, .inl nf)), (xb, .inl (cyI, 36, .inl bf)), (xd, .inl (cyI, 40, .inl df)), (xa, .inl (cyI, 40, .inl af)), (xl, .inl (cyI, 40, .inl lf)), (xp, .inl (cyI, 40, .inl pf))] : va_W) ++ G) H := hP
        have hD : va_D A (([(xn, .inl (cyI, 10, .inl nf)), (xb, .inl (cyI, 36, .inl bf)), (xd, .inl (cyI, 40, .inl df)), (xa, .inl (cyI, 40, .inl af)), (xl, .inl (cyI, 40, .inl lf)), (xp, .inl (cyI, 40, .inl pf))] : va_W) ++ G) := hD
        have hF_8 := gk_all hD hS hA
        refine va_calli (vx_runSW (As := [.ref g, .int 0, .int (nI LN), .int (nI TO), .int (nI AM)]) (rest := []) ⟨hx, hb, hml, hown, hts⟩ (kL_does_move l hst D cyI cyZ cyL cyV cyJ gr sh rt ce nl nv am nc cd bud fsd las isB mto maw lno dya amo rfd ord cpa lnf orf g ([(xn, .inl (cyI, 10, .inl nf)), (xb, .inl (cyI, 36, .inl bf)), (xd, .inl (cyI, 40, .inl df)), (xa, .inl (cyI, 40, .inl af)), (xl, .inl (cyI, 40, .inl lf)), (xp, .inl (cyI, 40, .inl pf))] : va_W) G hG (nI LN) (nI TO) (nI AM) (pA_mv1 (by omega) hLN hTO) H.size _ rfl) (vx_cwSW 5 hts gL_law_L_does rfl rfl rfl (by decide +kernel) ⟨(Nat.le_of_ble_eq_true rfl), (Nat.le_of_ble_eq_true rfl)⟩) (gk_preSN hNC hTF hS hF_8 hP hK hD) rfl rfl hl.1 rfl (lv_room (Nat.le_of_ble_eq_true rfl)) dL_law_582 ⟨(by show _ ≤ (706465 : Nat); omega), (by show _ ≤ (6982228 : Nat); omega)⟩) hS (fun q _ h => hF_8 q h) hF_8 (fun r_8 u_8 t_8 H locs ht_8 hvm_8 hw_8 hB_8 hz_8 hk_8 hS => ?_)
        obtain ⟨hP, hD⟩ := gk_back hF_8 hB_8 ht_8
        have hP : va_P D vwCl ((xn, .inl (cyI, 10, .inl nf)) :: (xb, .inl (cyI, 36, .inl bf)) :: (xd, .inl (cyI, 40, .inl df)) :: (xa, .inl (cyI, 40, .inl af)) :: (xl, .inl (cyI, 40, .inl lf)) :: (xp, .inl (cyI, 40, .inl pf)) :: u_8) H := hP
        have hD : va_D A ((xn, .inl (cyI, 10, .inl nf)) :: (xb, .inl (cyI, 36, .inl bf)) :: (xd, .inl (cyI, 40, .inl df)) :: (xa, .inl (cyI, 40, .inl af)) :: (xl, .inl (cyI, 40, .inl lf)) :: (xp, .inl (cyI, 40, .inl pf)) :: u_8) := hD
        have hcd_8 := pA_mv2 (bud := bud) (maw := maw) (p := nI AM) (i := LN) (k := TO) (nl := nl) (by omega) hLN hTO n_7
        rcases hw_8 with ⟨hc_8, hr_8, hG_8⟩ | ⟨hc_8, hr_8, hG_8⟩ | ⟨hc_8, hr_8, hG_8⟩
        · exact absurd (hcd_8.symm.trans hc_8) (by decide)
        · subst hr_8
          refine lv_iload hx hb dL_law_585 (lv_at hl 4 rfl) ?_
          refine lv_iload hx hb dL_law_587 (lv_at hl 2 rfl) ?_
          refine lv_icmp_ne (tgt := 597) hx hb dL_law_589 (by decide) (fun c9 => absurd c_7 c9) (fun _ => ?_)
          refine lv_ldc hx hb hown (hts0 (.constant RL 55 (-2000000012)) wq_1_12) dL_law_592 ?_
          refine lv_goto (tgt := 613) hx hb dL_law_594 (by decide) ?_
          refine lv_icmp_ne (tgt := 620) hx hb dL_law_613 (by decide) (fun c => by first | exact absurd c (by decide) | exact absurd (by decide) c) (fun _ => ?_)
          refine lv_iconst (v := 1) hx hb dL_law_616 (by decide) ?_
          refine lv_goto (tgt := 621) hx hb dL_law_617 (by decide) ?_
          refine lv_istore (lv' := [(8, .int 1), (17, .int 0), (16, .int (nI AM)), (15, .int (nI TO)), (14, .int (nI (Y / 6 % 100 * 5))), (13, .int (nI LN)), (12, .int (nI Y)), (9, .int (nI j)), (0, .ref b), (1, .ref g), (2, .ref xn), (3, .ref xb), (4, .ref xd), (5, .ref xa), (6, .ref xl), (7, .ref xp)]) hx hb dL_law_621 hl (by decide) rfl (fun ls hl => ?_)
          refine lv_goto (tgt := 1317) hx hb dL_law_623 (by decide) ?_
          refine W.widen (k := 400 + 2000 * j + 1000) (n := 2000 + 20000 * j + 10000) (by omega) (by omega) ?_
          exact tl _ _ _ _ _ _ _ _ _ _ _ _ _ _ _ _ _ _ _ _ _ _ _ nf bf df af lf pf u_8 _ _ _ Y hG_8 hR hX hT (by omega) (by omega) hP hD hS (lv_sub hl [0, 6, 7, 8, 9, 10, 11, 12, 13, 14, 15] rfl)
        · exact absurd (hcd_8.symm.trans hc_8) (by decide)
      · have n_7 : ¬ LN = TO := pf_neq (a := LN) (b := TO) (by omega) (by omega) c_7
        refine lv_iload hx hb dL_law_541 (lv_at hl 0 rfl) ?_
        refine lv_if_eq (tgt := 574) hx hb dL_law_543 (by decide) (fun _ => ?_) (fun c => by first | exact absurd c (by decide) | exact absurd (by decide) c)
        refine lv_aload_n hx hb dL_law_574 rfl (lv_at hl 8 rfl) ?_
        refine lv_iconst (v := 0) hx hb dL_law_575 (by decide) ?_
        refine lv_iload hx hb dL_law_576 (lv_at hl 4 rfl) ?_
        refine lv_iload hx hb dL_law_578 (lv_at hl 2 rfl) ?_
        refine lv_iload hx hb dL_law_580 (lv_at hl 1 rfl) ?_
        have hP : va_P D vwCl (([(xn, .inl (cyI, 10, .inl nf)), (xb, .inl (cyI, 36, .inl bf)), (xd, .inl (cyI, 40, .inl df)), (xa, .inl (cyI, 40, .inl af)), (xl, .inl (cyI, 40, .inl lf)), (xp, .inl (cyI, 40, .inl pf))] : va_W) ++ G) H := hP
        have hD : va_D A (([(xn, .inl (cyI, 10, .inl nf)), (xb, .inl (cyI, 36, .inl bf)), (xd, .inl (cyI, 40, .inl df)), (xa, .inl (cyI, 40, .inl af)), (xl, .inl (cyI, 40, .inl lf)), (xp, .inl (cyI, 40, .inl pf))] : va_W) ++ G) := hD
        have hF_11 := gk_all hD hS hA
        refine va_calli (vx_runSW (As := [.ref g, .int 0, .int (nI LN), .int (nI TO), .int (nI AM)]) (rest := []) ⟨hx, hb, hml, hown, hts⟩ (kL_does_move l hst D cyI cyZ cyL cyV cyJ gr sh rt ce nl nv am nc cd bud fsd las isB mto maw lno dya amo rfd ord cpa lnf orf g ([(xn, .inl (cyI, 10, .inl nf)), (xb, .inl (cyI, 36, .inl bf)), (xd, .inl (cyI, 40, .inl df)), (xa, .inl (cyI, 40, .inl af)), (xl, .inl (cyI, 40, .inl lf)), (xp, .inl (cyI, 40, .inl pf))] : va_W) G hG (nI LN) (nI TO) (nI AM) (pA_mv1 (by omega) hLN hTO) H.size _ rfl) (vx_cwSW 5 hts gL_law_L_does rfl rfl rfl (by decide +kernel) ⟨(Nat.le_of_ble_eq_true rfl), (Nat.le_of_ble_eq_true rfl)⟩) (gk_preSN hNC hTF hS hF_11 hP hK hD) rfl rfl hl.1 rfl (lv_room (Nat.le_of_ble_eq_true rfl)) dL_law_582 ⟨(by show _ ≤ (706465 : Nat); omega), (by show _ ≤ (6982228 : Nat); omega)⟩) hS (fun q _ h => hF_11 q h) hF_11 (fun r_11 u_11 t_11 H locs ht_11 hvm_11 hw_11 hB_11 hz_11 hk_11 hS => ?_)
        obtain ⟨hP, hD⟩ := gk_back hF_11 hB_11 ht_11
        have hP : va_P D vwCl ((xn, .inl (cyI, 10, .inl nf)) :: (xb, .inl (cyI, 36, .inl bf)) :: (xd, .inl (cyI, 40, .inl df)) :: (xa, .inl (cyI, 40, .inl af)) :: (xl, .inl (cyI, 40, .inl lf)) :: (xp, .inl (cyI, 40, .inl pf)) :: u_11) H := hP
        have hD : va_D A ((xn, .inl (cyI, 10, .inl nf)) :: (xb, .inl (cyI, 36, .inl bf)) :: (xd, .inl (cyI, 40, .inl df)) :: (xa, .inl (cyI, 40, .inl af)) :: (xl, .inl (cyI, 40, .inl lf)) :: (xp, .inl (cyI, 40, .inl pf)) :: u_11) := hD
        have hcd_11 := pA_mv3 (bud := bud) (maw := maw) (i := LN) (k := TO) (nl := nl) (M := AM) (by omega) hLN hTO n_7 hA1 hA2 (Int32.not_le.mpr c_6)
        rcases hw_11 with ⟨hc_11, hr_11, hG_11⟩ | ⟨hc_11, hr_11, hG_11⟩ | ⟨hc_11, hr_11, hG_11⟩
        · exact absurd (hcd_11.symm.trans hc_11) (by decide)
        · exact absurd (hcd_11.symm.trans hc_11) (by decide)
        · subst hr_11
          refine lv_iload hx hb dL_law_585 (lv_at hl 4 rfl) ?_
          refine lv_iload hx hb dL_law_587 (lv_at hl 2 rfl) ?_
          refine lv_icmp_ne (tgt := 597) hx hb dL_law_589 (by decide) (fun _ => ?_) (fun c9 => absurd c9 c_7)
          refine lv_iload hx hb dL_law_597 (lv_at hl 0 rfl) ?_
          refine lv_if_eq (tgt := 611) hx hb dL_law_599 (by decide) (fun _ => ?_) (fun c => by first | exact absurd c (by decide) | exact absurd (by decide) c)
          refine lv_ldc hx hb hown (hts0 (.constant RL 58 (-2000000013)) wq_1_13) dL_law_611 ?_
          refine lv_icmp_ne (tgt := 620) hx hb dL_law_613 (by decide) (fun c => by first | exact absurd c (by decide) | exact absurd (by decide) c) (fun _ => ?_)
          refine lv_iconst (v := 1) hx hb dL_law_616 (by decide) ?_
          refine lv_goto (tgt := 621) hx hb dL_law_617 (by decide) ?_
          refine lv_istore (lv' := [(8, .int 1), (17, .int 0), (16, .int (nI AM)), (15, .int (nI TO)), (14, .int (nI (Y / 6 % 100 * 5))), (13, .int (nI LN)), (12, .int (nI Y)), (9, .int (nI j)), (0, .ref b), (1, .ref g), (2, .ref xn), (3, .ref xb), (4, .ref xd), (5, .ref xa), (6, .ref xl), (7, .ref xp)]) hx hb dL_law_621 hl (by decide) rfl (fun ls hl => ?_)
          refine lv_goto (tgt := 1317) hx hb dL_law_623 (by decide) ?_
          refine W.widen (k := 400 + 2000 * j + 1000) (n := 2000 + 20000 * j + 10000) (by omega) (by omega) ?_
          exact tl _ _ _ _ _ _ _ _ _ _ _ _ _ _ _ _ _ _ _ _ _ _ _ nf bf df af lf pf u_11 _ _ _ Y hG_11 hR hX hT (by omega) (by omega) hP hD hS (lv_sub hl [0, 6, 7, 8, 9, 10, 11, 12, 13, 14, 15] rfl)
    · refine lv_iconst (v := 1) hx hb dL_law_527 (by decide) ?_
      refine lv_goto (tgt := 532) hx hb dL_law_528 (by decide) ?_
      refine lv_istore (lv' := [(17, .int 1), (16, .int (nI AM)), (15, .int (nI TO)), (14, .int (nI (Y / 6 % 100 * 5))), (13, .int (nI LN)), (12, .int (nI Y)), (9, .int (nI j)), (0, .ref b), (1, .ref g), (2, .ref xn), (3, .ref xb), (4, .ref xd), (5, .ref xa), (6, .ref xl), (7, .ref xp)]) hx hb dL_law_532 hl (by decide) rfl (fun ls hl => ?_)
      refine lv_iload hx hb dL_law_534 (lv_at hl 4 rfl) ?_
      refine lv_iload hx hb dL_law_536 (lv_at hl 2 rfl) ?_
      refine lv_icmp_eq (tgt := 574) hx hb dL_law_538 (by decide) (fun c_14 => ?_) (fun c_14 => ?_)
      · have n_14 : LN = TO := pf_eq (a := LN) (b := TO) (by omega) (by omega) c_14
        refine lv_aload_n hx hb dL_law_574 rfl (lv_at hl 8 rfl) ?_
        refine lv_iconst (v := 0) hx hb dL_law_575 (by decide) ?_
        refine lv_iload hx hb dL_law_576 (lv_at hl 4 rfl) ?_
        refine lv_iload hx hb dL_law_578 (lv_at hl 2 rfl) ?_
        refine lv_iload hx hb dL_law_580 (lv_at hl 1 rfl) ?_
        have hP : va_P D vwCl (([(xn, .inl (cyI, 10, .inl nf)), (xb, .inl (cyI, 36, .inl bf)), (xd, .inl (cyI, 40, .inl df)), (xa, .inl (cyI, 40, .inl af)), (xl, .inl (cyI, 40, .inl lf)), (xp, .inl (cyI, 40, .inl pf))] : va_W) ++ G) H := hP
        have hD : va_D A (([(xn, .inl (cyI, 10, .inl nf)), (xb, .inl (cyI, 36, .inl bf)), (xd, .inl (cyI, 40, .inl df)), (xa, .inl (cyI, 40, .inl af)), (xl, .inl (cyI, 40, .inl lf)), (xp, .inl (cyI, 40, .inl pf))] : va_W) ++ G) := hD
        have hF_15 := gk_all hD hS hA
        refine va_calli (vx_runSW (As := [.ref g, .int 0, .int (nI LN), .int (nI TO), .int (nI AM)]) (rest := []) ⟨hx, hb, hml, hown, hts⟩ (kL_does_move l hst D cyI cyZ cyL cyV cyJ gr sh rt ce nl nv am nc cd bud fsd las isB mto maw lno dya amo rfd ord cpa lnf orf g ([(xn, .inl (cyI, 10, .inl nf)), (xb, .inl (cyI, 36, .inl bf)), (xd, .inl (cyI, 40, .inl df)), (xa, .inl (cyI, 40, .inl af)), (xl, .inl (cyI, 40, .inl lf)), (xp, .inl (cyI, 40, .inl pf))] : va_W) G hG (nI LN) (nI TO) (nI AM) (pA_mv1 (by omega) hLN hTO) H.size _ rfl) (vx_cwSW 5 hts gL_law_L_does rfl rfl rfl (by decide +kernel) ⟨(Nat.le_of_ble_eq_true rfl), (Nat.le_of_ble_eq_true rfl)⟩) (gk_preSN hNC hTF hS hF_15 hP hK hD) rfl rfl hl.1 rfl (lv_room (Nat.le_of_ble_eq_true rfl)) dL_law_582 ⟨(by show _ ≤ (706465 : Nat); omega), (by show _ ≤ (6982228 : Nat); omega)⟩) hS (fun q _ h => hF_15 q h) hF_15 (fun r_15 u_15 t_15 H locs ht_15 hvm_15 hw_15 hB_15 hz_15 hk_15 hS => ?_)
        obtain ⟨hP, hD⟩ := gk_back hF_15 hB_15 ht_15
        have hP : va_P D vwCl ((xn, .inl (cyI, 10, .inl nf)) :: (xb, .inl (cyI, 36, .inl bf)) :: (xd, .inl (cyI, 40, .inl df)) :: (xa, .inl (cyI, 40, .inl af)) :: (xl, .inl (cyI, 40, .inl lf)) :: (xp, .inl (cyI, 40, .inl pf)) :: u_15) H := hP
        have hD : va_D A ((xn, .inl (cyI, 10, .inl nf)) :: (xb, .inl (cyI, 36, .inl bf)) :: (xd, .inl (cyI, 40, .inl df)) :: (xa, .inl (cyI, 40, .inl af)) :: (xl, .inl (cyI, 40, .inl lf)) :: (xp, .inl (cyI, 40, .inl pf)) :: u_15) := hD
        have hcd_15 := pA_mv2 (bud := bud) (maw := maw) (p := nI AM) (i := LN) (k := TO) (nl := nl) (by omega) hLN hTO n_14
        rcases hw_15 with ⟨hc_15, hr_15, hG_15⟩ | ⟨hc_15, hr_15, hG_15⟩ | ⟨hc_15, hr_15, hG_15⟩
        · exact absurd (hcd_15.symm.trans hc_15) (by decide)
        · subst hr_15
          refine lv_iload hx hb dL_law_585 (lv_at hl 4 rfl) ?_
          refine lv_iload hx hb dL_law_587 (lv_at hl 2 rfl) ?_
          refine lv_icmp_ne (tgt := 597) hx hb dL_law_589 (by decide) (fun c9 => absurd c_14 c9) (fun _ => ?_)
          refine lv_ldc hx hb hown (hts0 (.constant RL 55 (-2000000012)) wq_1_12) dL_law_592 ?_
          refine lv_goto (tgt := 613) hx hb dL_law_594 (by decide) ?_
          refine lv_icmp_ne (tgt := 620) hx hb dL_law_613 (by decide) (fun c => by first | exact absurd c (by decide) | exact absurd (by decide) c) (fun _ => ?_)
          refine lv_iconst (v := 1) hx hb dL_law_616 (by decide) ?_
          refine lv_goto (tgt := 621) hx hb dL_law_617 (by decide) ?_
          refine lv_istore (lv' := [(8, .int 1), (17, .int 1), (16, .int (nI AM)), (15, .int (nI TO)), (14, .int (nI (Y / 6 % 100 * 5))), (13, .int (nI LN)), (12, .int (nI Y)), (9, .int (nI j)), (0, .ref b), (1, .ref g), (2, .ref xn), (3, .ref xb), (4, .ref xd), (5, .ref xa), (6, .ref xl), (7, .ref xp)]) hx hb dL_law_621 hl (by decide) rfl (fun ls hl => ?_)
          refine lv_goto (tgt := 1317) hx hb dL_law_623 (by decide) ?_
          refine W.widen (k := 400 + 2000 * j + 1000) (n := 2000 + 20000 * j + 10000) (by omega) (by omega) ?_
          exact tl _ _ _ _ _ _ _ _ _ _ _ _ _ _ _ _ _ _ _ _ _ _ _ nf bf df af lf pf u_15 _ _ _ Y hG_15 hR hX hT (by omega) (by omega) hP hD hS (lv_sub hl [0, 6, 7, 8, 9, 10, 11, 12, 13, 14, 15] rfl)
        · exact absurd (hcd_15.symm.trans hc_15) (by decide)
      · have n_14 : ¬ LN = TO := pf_neq (a := LN) (b := TO) (by omega) (by omega) c_14
        refine lv_iload hx hb dL_law_541 (lv_at hl 0 rfl) ?_
        refine lv_if_eq (tgt := 574) hx hb dL_law_543 (by decide) (fun c => by first | exact absurd c (by decide) | exact absurd (by decide) c) (fun _ => ?_)
        refine lv_aload_n hx hb dL_law_546 rfl (lv_at hl 10 rfl) ?_
        refine lv_bipush (v := 6) hx hb dL_law_547 (by decide) ?_
        refine lv_iload hx hb dL_law_549 (lv_at hl 4 rfl) ?_
        refine lv_imul hx hb dL_law_551 ?_
        refine lv_topi (fun y_18 h_18 => ?_)
        obtain rfl : y_18 = (nI (6 * LN)) := h_18.trans (pk_mul 6 LN)
        refine lv_iconst (v := 5) hx hb dL_law_552 (by decide) ?_
        refine lv_iadd hx hb dL_law_553 ?_
        refine lv_topi (fun y_19 h_19 => ?_)
        obtain rfl : y_19 = (nI ((6 * LN) + 5)) := h_19.trans (nI_add (6 * LN) 5)
        refine lv_dup2_11 hx hb dL_law_554 rfl rfl ?_
        refine gk_iald (i := ((6 * LN) + 5)) hx hb hK hP 1 0 rfl rfl (by omega) (by decide) dL_law_555 ?_
        rw [(hbl LN (by omega)).2.2.2.2.2.1]
        refine lv_iload hx hb dL_law_556 (lv_at hl 1 rfl) ?_
        refine lv_iadd hx hb dL_law_558 ?_
        refine gk_iast (i := ((6 * LN) + 5)) hx hb hK hP hD hS 1 0 rfl rfl (by omega) (by decide) dL_law_559 (fun H locs hP hD hS => ?_)
        have hP : va_P D vwCl ((xn, .inl (cyI, 10, .inl nf)) :: (xb, .inl (cyI, 36, .inl (va_up bf ((6 * LN) + 5) ((maw LN) + (nI AM))))) :: (xd, .inl (cyI, 40, .inl df)) :: (xa, .inl (cyI, 40, .inl af)) :: (xl, .inl (cyI, 40, .inl lf)) :: (xp, .inl (cyI, 40, .inl pf)) :: G) H := hP
        have hD : va_D A ((xn, .inl (cyI, 10, .inl nf)) :: (xb, .inl (cyI, 36, .inl (va_up bf ((6 * LN) + 5) ((maw LN) + (nI AM))))) :: (xd, .inl (cyI, 40, .inl df)) :: (xa, .inl (cyI, 40, .inl af)) :: (xl, .inl (cyI, 40, .inl lf)) :: (xp, .inl (cyI, 40, .inl pf)) :: G) := hD
        obtain ⟨bf_20, ebf_20⟩ : ∃ z, z = (va_up bf ((6 * LN) + 5) ((maw LN) + (nI AM))) := ⟨_, rfl⟩
        rw [← ebf_20] at hP hD
        refine lv_aload_n hx hb dL_law_560 rfl (lv_at hl 10 rfl) ?_
        refine lv_bipush (v := 6) hx hb dL_law_561 (by decide) ?_
        refine lv_iload hx hb dL_law_563 (lv_at hl 2 rfl) ?_
        refine lv_imul hx hb dL_law_565 ?_
        refine lv_topi (fun y_21 h_21 => ?_)
        obtain rfl : y_21 = (nI (6 * TO)) := h_21.trans (pk_mul 6 TO)
        refine lv_iconst (v := 4) hx hb dL_law_566 (by decide) ?_
        refine lv_iadd hx hb dL_law_567 ?_
        refine lv_topi (fun y_22 h_22 => ?_)
        obtain rfl : y_22 = (nI ((6 * TO) + 4)) := h_22.trans (nI_add (6 * TO) 4)
        refine lv_dup2_11 hx hb dL_law_568 rfl rfl ?_
        refine gk_iald (i := ((6 * TO) + 4)) hx hb hK hP 1 0 rfl rfl (by omega) (by decide) dL_law_569 ?_
        rw [show bf_20 ((6 * TO) + 4) = bf ((6 * TO) + 4) from by rw [ebf_20, va_up_ne _ _ (by omega)]]
        rw [(hbl TO (by omega)).2.2.2.2.1]
        refine lv_iload hx hb dL_law_570 (lv_at hl 1 rfl) ?_
        refine lv_iadd hx hb dL_law_572 ?_
        refine gk_iast (i := ((6 * TO) + 4)) hx hb hK hP hD hS 1 0 rfl rfl (by omega) (by decide) dL_law_573 (fun H locs hP hD hS => ?_)
        have hP : va_P D vwCl ((xn, .inl (cyI, 10, .inl nf)) :: (xb, .inl (cyI, 36, .inl (va_up bf_20 ((6 * TO) + 4) ((mto TO) + (nI AM))))) :: (xd, .inl (cyI, 40, .inl df)) :: (xa, .inl (cyI, 40, .inl af)) :: (xl, .inl (cyI, 40, .inl lf)) :: (xp, .inl (cyI, 40, .inl pf)) :: G) H := hP
        have hD : va_D A ((xn, .inl (cyI, 10, .inl nf)) :: (xb, .inl (cyI, 36, .inl (va_up bf_20 ((6 * TO) + 4) ((mto TO) + (nI AM))))) :: (xd, .inl (cyI, 40, .inl df)) :: (xa, .inl (cyI, 40, .inl af)) :: (xl, .inl (cyI, 40, .inl lf)) :: (xp, .inl (cyI, 40, .inl pf)) :: G) := hD
        obtain ⟨bf_23, ebf_23⟩ : ∃ z, z = (va_up bf_20 ((6 * TO) + 4) ((mto TO) + (nI AM))) := ⟨_, rfl⟩
        rw [← ebf_23] at hP hD
        refine lv_aload_n hx hb dL_law_574 rfl (lv_at hl 8 rfl) ?_
        refine lv_iconst (v := 0) hx hb dL_law_575 (by decide) ?_
        refine lv_iload hx hb dL_law_576 (lv_at hl 4 rfl) ?_
        refine lv_iload hx hb dL_law_578 (lv_at hl 2 rfl) ?_
        refine lv_iload hx hb dL_law_580 (lv_at hl 1 rfl) ?_
        have hP : va_P D vwCl (([(xn, .inl (cyI, 10, .inl nf)), (xb, .inl (cyI, 36, .inl bf_23)), (xd, .inl (cyI, 40, .inl df)), (xa, .inl (cyI, 40, .inl af)), (xl, .inl (cyI, 40, .inl lf)), (xp, .inl (cyI, 40, .inl pf))] : va_W) ++ G) H := hP
        have hD : va_D A (([(xn, .inl (cyI, 10, .inl nf)), (xb, .inl (cyI, 36, .inl bf_23)), (xd, .inl (cyI, 40, .inl df)), (xa, .inl (cyI, 40, .inl af)), (xl, .inl (cyI, 40, .inl lf)), (xp, .inl (cyI, 40, .inl pf))] : va_W) ++ G) := hD
        have hF_24 := gk_all hD hS hA
        refine va_calli (vx_runSW (As := [.ref g, .int 0, .int (nI LN), .int (nI TO), .int (nI AM)]) (rest := []) ⟨hx, hb, hml, hown, hts⟩ (kL_does_move l hst D cyI cyZ cyL cyV cyJ gr sh rt ce nl nv am nc cd bud fsd las isB mto maw lno dya amo rfd ord cpa lnf orf g ([(xn, .inl (cyI, 10, .inl nf)), (xb, .inl (cyI, 36, .inl bf_23)), (xd, .inl (cyI, 40, .inl df)), (xa, .inl (cyI, 40, .inl af)), (xl, .inl (cyI, 40, .inl lf)), (xp, .inl (cyI, 40, .inl pf))] : va_W) G hG (nI LN) (nI TO) (nI AM) (pA_mv1 (by omega) hLN hTO) H.size _ rfl) (vx_cwSW 5 hts gL_law_L_does rfl rfl rfl (by decide +kernel) ⟨(Nat.le_of_ble_eq_true rfl), (Nat.le_of_ble_eq_true rfl)⟩) (gk_preSN hNC hTF hS hF_24 hP hK hD) rfl rfl hl.1 rfl (lv_room (Nat.le_of_ble_eq_true rfl)) dL_law_582 ⟨(by show _ ≤ (706465 : Nat); omega), (by show _ ≤ (6982228 : Nat); omega)⟩) hS (fun q _ h => hF_24 q h) hF_24 (fun r_24 u_24 t_24 H locs ht_24 hvm_24 hw_24 hB_24 hz_24 hk_24 hS => ?_)
        obtain ⟨hP, hD⟩ := gk_back hF_24 hB_24 ht_24
        have hP : va_P D vwCl ((xn, .inl (cyI, 10, .inl nf)) :: (xb, .inl (cyI, 36, .inl bf_23)) :: (xd, .inl (cyI, 40, .inl df)) :: (xa, .inl (cyI, 40, .inl af)) :: (xl, .inl (cyI, 40, .inl lf)) :: (xp, .inl (cyI, 40, .inl pf)) :: u_24) H := hP
        have hD : va_D A ((xn, .inl (cyI, 10, .inl nf)) :: (xb, .inl (cyI, 36, .inl bf_23)) :: (xd, .inl (cyI, 40, .inl df)) :: (xa, .inl (cyI, 40, .inl af)) :: (xl, .inl (cyI, 40, .inl lf)) :: (xp, .inl (cyI, 40, .inl pf)) :: u_24) := hD
        have hcd_24 := pA_mv0 (bud := bud) (maw := maw) (i := LN) (k := TO) (nl := nl) (M := AM) (by omega) hLN hTO n_14 hA1 hA2 (Int32.not_lt.mp c_6)
        rcases hw_24 with ⟨hc_24, hr_24, hG_24⟩ | ⟨hc_24, hr_24, hG_24⟩ | ⟨hc_24, hr_24, hG_24⟩
        · rw [show gIxn (nI LN) = LN from nI_clamp (by omega), show gIxn (nI TO) = TO from nI_clamp (by omega)] at hr_24 hG_24
          subst hr_24
          obtain ⟨hR9, hX9⟩ := pR_move hR hX hLN hTO (p := nI AM) (bf' := bf_23) (by rw [ebf_23, ebf_20])
          refine lv_iload hx hb dL_law_585 (lv_at hl 4 rfl) ?_
          refine lv_iload hx hb dL_law_587 (lv_at hl 2 rfl) ?_
          refine lv_icmp_ne (tgt := 597) hx hb dL_law_589 (by decide) (fun _ => ?_) (fun c9 => absurd c9 c_14)
          refine lv_iload hx hb dL_law_597 (lv_at hl 0 rfl) ?_
          refine lv_if_eq (tgt := 611) hx hb dL_law_599 (by decide) (fun c => by first | exact absurd c (by decide) | exact absurd (by decide) c) (fun _ => ?_)
          refine lv_aload_n hx hb dL_law_602 rfl (lv_at hl 10 rfl) ?_
          refine lv_iload hx hb dL_law_603 (lv_at hl 4 rfl) ?_
          have hF_26 := gk_all hD hS hA
          refine va_calli (va_runS (As := [.ref xb, .int (nI LN)]) (rest := [.int (bud LN + (va_up mto TO (mto TO + nI AM)) LN - (va_up maw LN (maw LN + nI AM)) LN)]) ⟨hx, hb, hml, hown, hts⟩ (kL_room l D cyI cyZ cyL cyV cyJ xn xb xd xa xl nl nv gr sh rt ce bud fsd las isB (va_up mto TO (mto TO + nI AM)) (va_up maw LN (maw LN + nI AM)) dya amo rfd lnf nf bf_23 df af lf ((xp, .inl (cyI, 40, .inl pf)) :: u_24 : va_W) hR9 LN (by omega) H.size _ rfl) (va_cwS 2 hts gL_law_L_room rfl rfl rfl (by decide +kernel) ⟨(Nat.le_of_ble_eq_true rfl), (Nat.le_of_ble_eq_true rfl)⟩) (gk_preS hP hK hD) rfl rfl hl.1 rfl (lv_room (Nat.le_of_ble_eq_true rfl)) dL_law_605 ⟨(by show _ ≤ (706465 : Nat); omega), (by show _ ≤ (6982228 : Nat); omega)⟩) hS (fun q _ h => hF_26 q h) hF_26 (fun r_26 u_26 t_26 H locs ht_26 hvm_26 hw_26 hB_26 hz_26 hk_26 hS => ?_)
          obtain ⟨hP, hD⟩ := gk_back hF_26 hB_26 ht_26
          subst hw_26
          refine lv_goto (tgt := 613) hx hb dL_law_608 (by decide) ?_
          refine lv_icmp_ne (tgt := 620) hx hb dL_law_613 (by decide) (fun c9 => absurd rfl c9) (fun _ => ?_)
          refine lv_iconst (v := 1) hx hb dL_law_616 (by decide) ?_
          refine lv_goto (tgt := 621) hx hb dL_law_617 (by decide) ?_
          refine lv_istore (lv' := [(8, .int 1), (17, .int 1), (16, .int (nI AM)), (15, .int (nI TO)), (14, .int (nI (Y / 6 % 100 * 5))), (13, .int (nI LN)), (12, .int (nI Y)), (9, .int (nI j)), (0, .ref b), (1, .ref g), (2, .ref xn), (3, .ref xb), (4, .ref xd), (5, .ref xa), (6, .ref xl), (7, .ref xp)]) hx hb dL_law_621 hl (by decide) rfl (fun ls hl => ?_)
          refine lv_goto (tgt := 1317) hx hb dL_law_623 (by decide) ?_
          refine W.widen (k := 400 + 2000 * j + 1000) (n := 2000 + 20000 * j + 10000) (by omega) (by omega) ?_
          exact tl _ _ _ _ _ _ _ _ _ _ _ _ _ _ _ _ _ _ _ _ _ _ _ nf bf_23 df af lf pf u_24 _ _ _ Y hG_24 hR9 hX9 hT (by omega) (by omega) hP hD hS (lv_sub hl [0, 6, 7, 8, 9, 10, 11, 12, 13, 14, 15] rfl)
        · exact absurd (hcd_24.symm.trans hc_24) (by decide)
        · exact absurd (hcd_24.symm.trans hc_24) (by decide)
  refine lv_iconst (v := 1) hx hb dL_law_477 (by decide) ?_
  refine lv_iload hx hb dL_law_478 (lv_at hl 3 rfl) ?_
  refine lv_bipush (v := 50) hx hb dL_law_480 (by decide) ?_
  refine lv_idiv hx hb dL_law_482 (by decide) ?_
  refine lv_topi (fun y_27 h_27 => ?_)
  obtain rfl : y_27 = (nI (Y / 50)) := h_27.trans (pk_div (a := Y) (d := 50) (by omega) (by omega) (by omega))
  refine lv_iload hx hb dL_law_483 (lv_at hl 3 rfl) ?_
  refine lv_iconst (v := 3) hx hb dL_law_485 (by decide) ?_
  refine lv_irem hx hb dL_law_486 (by decide) ?_
  refine lv_topi (fun y_28 h_28 => ?_)
  obtain rfl : y_28 = (nI (Y % 3)) := h_28.trans (pk_rem (a := Y) (d := 3) (by omega) (by omega) (by omega))
  refine lv_if_ne (tgt := 495) hx hb dL_law_487 (by decide) (fun c_29 => ?_) (fun c_29 => ?_)
  · have n_29 : ¬ (Y % 3) = 0 := pf_neq (a := (Y % 3)) (b := 0) (by omega) (by omega) c_29
    refine lv_sipush (v := 3000) hx hb dL_law_495 (by decide) ?_
    refine lv_irem hx hb dL_law_498 (by decide) ?_
    refine lv_topi (fun y_30 h_30 => ?_)
    obtain rfl : y_30 = (nI ((Y / 50) % 3000)) := h_30.trans (pk_rem (a := (Y / 50)) (d := 3000) (by omega) (by omega) (by omega))
    refine lv_iadd hx hb dL_law_499 ?_
    refine lv_topi (fun y_31 h_31 => ?_)
    obtain rfl : y_31 = (nI (1 + ((Y / 50) % 3000))) := h_31.trans (nI_add 1 ((Y / 50) % 3000))
    exact cutA (1 + ((Y / 50) % 3000)) (by omega) (by omega) _ hl
  · have n_29 : (Y % 3) = 0 := pf_eq (a := (Y % 3)) (b := 0) (by omega) (by omega) c_29
    refine lv_ldc hx hb hown (hts0 (.constant RL 110 (1000000)) wq_1_4) dL_law_490 ?_
    refine lv_goto (tgt := 498) hx hb dL_law_492 (by decide) ?_
    refine lv_irem hx hb dL_law_498 (by decide) ?_
    refine lv_topi (fun y_32 h_32 => ?_)
    obtain rfl : y_32 = (nI ((Y / 50) % 1000000)) := h_32.trans (pk_rem (a := (Y / 50)) (d := 1000000) (by omega) (by omega) (by omega))
    refine lv_iadd hx hb dL_law_499 ?_
    refine lv_topi (fun y_33 h_33 => ?_)
    obtain rfl : y_33 = (nI (1 + ((Y / 50) % 1000000))) := h_33.trans (nI_add 1 ((Y / 50) % 1000000))
    exact cutA (1 + ((Y / 50) % 1000000)) (by omega) (by omega) _ hl
