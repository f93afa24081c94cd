set_option maxHeartbeats 40000000 in
set_option maxRecDepth 100000 in
theorem pD_mark {p : Program} {l : Launch} {e : Env} {s : State} {m : MethodId} {below : List Frame} {meth : Method} {c : Code} (hst : l.stackTraces = false) {D : va_G} {cyI cyZ cyL cyV cyJ : ClassId} {b L : Nat} {xs : Nat → Int32} (hL : L ≤ 260) (CA : lw_At p s m meth c b L xs) {A : Nat → Prop} (hAd : A = fun q : Nat => s.heap.size ≤ q) (hTF : gTF A s s.heap) (hNC : gNC s) (hK : va_K D vwCl (gTy cyI cyZ cyL cyV cyJ) s) {g xn xb xd xa xl xp : Nat} {j : Nat} (hj : j < 60) (tl : pTail p l e s m below meth c D cyI cyZ cyL cyV cyJ b g xn xb xd xa xl xp A j) {gr sh rt ce : Int32} {nl nv : Nat} {am : Int32} {nc : Nat} {cd : Int32} {bud fsd las isB mto maw lno dya amo rfd ord cpa : Nat → Int32} {lnf orf : Nat → Nat} {nf bf df af lf pf : Nat → Int32} {G : va_W} {H : Heap} {locs : List Loc} {ls : Array Slot} {Y LN : Nat} (hY : Y < 2 ^ 27) (hG : gGP cyI cyL cyV gr sh rt ce nl nv am nc cd bud fsd las isB mto maw lno dya amo rfd ord cpa lnf orf g G) (hR : pRB nl nv gr sh rt ce bud fsd las isB mto maw dya amo rfd lnf nf bf df af lf) (hX : pRX nl am nc cd cpa nf bf pf) (hT : pST nv dya orf) (hv0 : 0 < nv) (h3 : 3 ≤ nl) (hP : va_P D vwCl ((xn, .inl (cyI, 10, .inl nf)) :: (xb, .inl (cyI, 36, .inl bf)) :: (xd, .inl (cyI, 40, .inl df)) :: (xa, .inl (cyI, 40, .inl af)) :: (xl, .inl (cyI, 40, .inl lf)) :: (xp, .inl (cyI, 40, .inl pf)) :: G) H) (hD : va_D A ((xn, .inl (cyI, 10, .inl nf)) :: (xb, .inl (cyI, 36, .inl bf)) :: (xd, .inl (cyI, 40, .inl df)) :: (xa, .inl (cyI, 40, .inl af)) :: (xl, .inl (cyI, 40, .inl lf)) :: (xp, .inl (cyI, 40, .inl pf)) :: G)) (hS : va_S A s.heap H locs) (hl : lv_has ls 20 [(14, .int (nI (Y / 6 % 100 * 5))), (13, .int (nI LN)), (12, .int (nI Y)), (9, .int (nI j)), (0, .ref b), (1, .ref g), (2, .ref xn), (3, .ref xb), (4, .ref xd), (5, .ref xa), (6, .ref xl), (7, .ref xp)]) : W p l e room_1 s m #[Value.ref b] below meth c H locs (400 + 2000 * j) (2000 + 20000 * j) (lw_Z below #[Value.ref b] s) (F0 m 639 ls []) := by
  obtain ⟨hx, hb, hr, hml, hown, hts0, hX0, hbl, hlocks, hgv⟩ := CA
  have hts : ∀ w ∈ wsL_law, w.before #[Value.ref b] s = true := fun w h => hts0 w (wsL_law_in w h)
  have hA : ∀ q : Nat, s.heap.size ≤ q → A q := fun q h => by rw [hAd]; exact h
  have hbA : ¬ A b := by rw [hAd]; exact Nat.not_le.mpr hbl
  obtain ⟨⟨hnl, hnv⟩, ⟨hn0, hn1, hn2, hn3, hn5⟩, hbl, hvl⟩ := id hR
  obtain ⟨hn4, hn6, hn7, hn8, hn9, hpf, hbz⟩ := id hX
  have hnc : nc ≤ 40 := hG.1.1.2.2
  have hel := pG_el hG hT
  refine lv_iload hx hb dL_law_639 (lv_at hl 2 rfl) ?_
  refine lv_aload_n hx hb dL_law_641 rfl (lv_at hl 6 rfl) ?_
  refine lv_iconst (v := 5) hx hb dL_law_642 (by decide) ?_
  refine gk_iald (i := 5) hx hb hK hP 0 0 rfl rfl (by omega) (by decide) dL_law_643 ?_
  rw [hn5]
  refine lv_irem hx hb dL_law_644 (nI_ne0 (by omega) (by omega)) ?_
  refine lv_topi (fun y_1 h_1 => ?_)
  obtain rfl : y_1 = (nI (Y % nv)) := h_1.trans (pk_rem (a := Y) (d := nv) (by omega) (by omega) (by omega))
  obtain ⟨VC, hVC, hVCe⟩ : ∃ VC, VC < nv ∧ Y % nv = VC := ⟨_, Nat.mod_lt _ (by omega), rfl⟩
  rw [hVCe]
  refine lv_istore (lv' := [(15, .int (nI VC)), (14, .int (nI (Y / 6 % 100 * 5))), (13, .int (nI LN)), (12, .int (nI Y)), (9, .int (nI j)), (0, .ref b), (1, .ref g), (2, .ref xn), (3, .ref xb), (4, .ref xd), (5, .ref xa), (6, .ref xl), (7, .ref xp)]) hx hb dL_law_645 hl (by decide) rfl (fun ls hl => ?_)
  refine lv_aload hx hb dL_law_647 (lv_at hl 11 rfl) ?_
  refine lv_iload hx hb dL_law_649 (lv_at hl 0 rfl) ?_
  refine gk_iald (i := VC) hx hb hK hP 4 0 rfl rfl (by omega) (by decide) dL_law_651 ?_
  have hll_2 : lnf VC < nl := (hvl VC (by omega)).2.2.1
  rcases (hvl VC (by omega)).2.2.2 with ⟨hr_2, hlf_2⟩ | ⟨hr_2, hlf_2⟩
  · rw [hlf_2]
    refine lv_bipush (v := 99) hx hb dL_law_652 (by decide) ?_
    refine lv_icmp_le (tgt := 661) hx hb dL_law_654 (by decide) (fun _ => ?_) (fun c9 => absurd (pc_le (a := (lnf VC)) (b := 99) (by omega) (by omega) (by omega)) c9)
    refine lv_iconst (v := 0) hx hb dL_law_661 (by decide) ?_
    refine lv_istore (lv' := [(16, .int 0), (15, .int (nI VC)), (14, .int (nI (Y / 6 % 100 * 5))), (13, .int (nI LN)), (12, .int (nI Y)), (9, .int (nI j)), (0, .ref b), (1, .ref g), (2, .ref xn), (3, .ref xb), (4, .ref xd), (5, .ref xa), (6, .ref xl), (7, .ref xp)]) hx hb dL_law_662 hl (by decide) rfl (fun ls hl => ?_)
    refine lv_iload hx hb dL_law_664 (lv_at hl 4 rfl) ?_
    refine lv_bipush (v := 40) hx hb dL_law_666 (by decide) ?_
    refine lv_idiv hx hb dL_law_668 (by decide) ?_
    refine lv_topi (fun y_3 h_3 => ?_)
    obtain rfl : y_3 = (nI (Y / 40)) := h_3.trans (pk_div (a := Y) (d := 40) (by omega) (by omega) (by omega))
    refine lv_iconst (v := 3) hx hb dL_law_669 (by decide) ?_
    refine lv_irem hx hb dL_law_670 (by decide) ?_
    refine lv_topi (fun y_4 h_4 => ?_)
    obtain rfl : y_4 = (nI ((Y / 40) % 3)) := h_4.trans (pk_rem (a := (Y / 40)) (d := 3) (by omega) (by omega) (by omega))
    refine lv_if_le (tgt := 678) hx hb dL_law_671 (by decide) (fun c_5 => ?_) (fun c_5 => ?_)
    · have n_5 : ((Y / 40) % 3) ≤ 0 := pf_le (a := ((Y / 40) % 3)) (b := 0) (by omega) (by omega) c_5
      refine lv_iconst (v := 0) hx hb dL_law_678 (by decide) ?_
      refine lv_istore (lv' := [(17, .int 0), (16, .int 0), (15, .int (nI VC)), (14, .int (nI (Y / 6 % 100 * 5))), (13, .int (nI LN)), (12, .int (nI Y)), (9, .int (nI j)), (0, .ref b), (1, .ref g), (2, .ref xn), (3, .ref xb), (4, .ref xd), (5, .ref xa), (6, .ref xl), (7, .ref xp)]) hx hb dL_law_679 hl (by decide) rfl (fun ls hl => ?_)
      refine lv_aload_n hx hb dL_law_681 rfl (lv_at hl 9 rfl) ?_
      refine lv_aload_n hx hb dL_law_682 rfl (lv_at hl 10 rfl) ?_
      refine lv_aload hx hb dL_law_683 (lv_at hl 11 rfl) ?_
      refine lv_aload hx hb dL_law_685 (lv_at hl 12 rfl) ?_
      refine lv_aload hx hb dL_law_687 (lv_at hl 13 rfl) ?_
      have hF_6 := gk_all hD hS hA
      refine va_calli (va_runS (As := [.ref xn, .ref xb, .ref xd, .ref xa, .ref xl]) (rest := []) ⟨hx, hb, hml, hown, hts⟩ (kL_total l D cyI cyZ cyL cyV cyJ xn xb xd xa xl nl nv gr sh rt ce bud fsd las isB mto maw dya amo rfd lnf nf bf df af lf ((xp, .inl (cyI, 40, .inl pf)) :: G : va_W) hR (gEL (fun l => bud l + mto l - maw l) (fun v => gAcc (fsd (lnf v)) (las (lnf v)) (rfd v) (dya v)) lnf amo orf nv) hel H.size _ rfl) (va_cwS 5 hts gL_law_L_total rfl rfl rfl (by decide +kernel) ⟨(Nat.le_of_ble_eq_true rfl), (Nat.le_of_ble_eq_true rfl)⟩) (gk_preS hP hK hD) rfl rfl hl.1 rfl (lv_room (Nat.le_of_ble_eq_true rfl)) dL_law_689 ⟨(by show _ ≤ (706465 : Nat); omega), (by show _ ≤ (6982228 : Nat); omega)⟩) hS (fun q _ h => hF_6 q h) hF_6 (fun r_6 u_6 t_6 H locs ht_6 hvm_6 hw_6 hB_6 hz_6 hk_6 hS => ?_)
      obtain ⟨hP, hD⟩ := gk_back hF_6 hB_6 ht_6
      obtain rfl : r_6 = (gSm (gEL (fun l => bud l + mto l - maw l) (fun v => gAcc (fsd (lnf v)) (las (lnf v)) (rfd v) (dya v)) lnf amo orf nv) nv) := hw_6.trans (pCT_all hG.1)
      refine lv_istore (lv' := [(18, .int (gSm (gEL (fun l => bud l + mto l - maw l) (fun v => gAcc (fsd (lnf v)) (las (lnf v)) (rfd v) (dya v)) lnf amo orf nv) nv)), (17, .int 0), (16, .int 0), (15, .int (nI VC)), (14, .int (nI (Y / 6 % 100 * 5))), (13, .int (nI LN)), (12, .int (nI Y)), (9, .int (nI j)), (0, .ref b), (1, .ref g), (2, .ref xn), (3, .ref xb), (4, .ref xd), (5, .ref xa), (6, .ref xl), (7, .ref xp)]) hx hb dL_law_692 hl (by decide) rfl (fun ls hl => ?_)
      refine lv_aload hx hb dL_law_694 (lv_at hl 14 rfl) ?_
      refine lv_iload hx hb dL_law_696 (lv_at hl 3 rfl) ?_
      refine lv_aload hx hb dL_law_698 (lv_at hl 14 rfl) ?_
      refine lv_iload hx hb dL_law_700 (lv_at hl 3 rfl) ?_
      refine gk_iald (i := VC) hx hb hK hP 4 0 rfl rfl (by omega) (by decide) dL_law_702 ?_
      rw [hlf_2]
      refine lv_bipush (v := 100) hx hb dL_law_703 (by decide) ?_
      refine lv_irem hx hb dL_law_705 (by decide) ?_
      refine lv_topi (fun y_7 h_7 => ?_)
      obtain rfl : y_7 = (nI (lnf VC)) := h_7.trans (pN_rem2 (a := (lnf VC)) (b := 100) (by omega) (by omega) (by omega) (by omega))
      refine lv_iload hx hb dL_law_706 (lv_at hl 1 rfl) ?_
      refine lv_if_eq (tgt := 716) hx hb dL_law_708 (by decide) (fun _ => ?_) (fun c => by first | exact absurd c (by decide) | exact absurd (by decide) c)
      refine lv_iconst (v := 0) hx hb dL_law_716 (by decide) ?_
      refine lv_iadd hx hb dL_law_717 ?_
      refine lv_topi (fun y_9 h_9 => ?_)
      obtain rfl : y_9 = (nI ((lnf VC) + 0)) := h_9.trans (nI_add (lnf VC) 0)
      refine gk_iast (i := VC) hx hb hK hP hD hS 4 0 rfl rfl (by omega) (by decide) dL_law_718 (fun H locs hP hD hS => ?_)
      have hP : va_P D vwCl ((xn, .inl (cyI, 10, .inl nf)) :: (xb, .inl (cyI, 36, .inl bf)) :: (xd, .inl (cyI, 40, .inl df)) :: (xa, .inl (cyI, 40, .inl af)) :: (xl, .inl (cyI, 40, .inl (va_up lf VC (nI ((lnf VC) + 0))))) :: (xp, .inl (cyI, 40, .inl pf)) :: G) H := hP
      have hD : va_D A ((xn, .inl (cyI, 10, .inl nf)) :: (xb, .inl (cyI, 36, .inl bf)) :: (xd, .inl (cyI, 40, .inl df)) :: (xa, .inl (cyI, 40, .inl af)) :: (xl, .inl (cyI, 40, .inl (va_up lf VC (nI ((lnf VC) + 0))))) :: (xp, .inl (cyI, 40, .inl pf)) :: G) := hD
      obtain ⟨lf_10, elf_10⟩ : ∃ z, z = (va_up lf VC (nI ((lnf VC) + 0))) := ⟨_, rfl⟩
      rw [← elf_10] at hP hD
      have hR8 := pR_mark hR hVC (z := 0) (x := nI (lnf VC + 0)) (Or.inl ⟨rfl, rfl⟩) elf_10
      have hM8 := pM_mark hG.1 hVC (z := 0) (by decide)
      have hel8 : ∀ k, k < nv → pEl (fun l => bud l + mto l - maw l) dya amo (fun v => gAcc (fsd (lnf v)) (las (lnf v)) ((va_up rfd VC 0) v) (dya v)) lnf nv k = (gEL (fun l => bud l + mto l - maw l) (fun v => gAcc (fsd (lnf v)) (las (lnf v)) ((va_up rfd VC 0) v) (dya v)) lnf amo orf nv) k := fun k hk => pEl_eq hM8 hT hk
      refine lv_aload_n hx hb dL_law_719 rfl (lv_at hl 10 rfl) ?_
      refine lv_aload_n hx hb dL_law_720 rfl (lv_at hl 11 rfl) ?_
      refine lv_aload hx hb dL_law_721 (lv_at hl 12 rfl) ?_
      refine lv_aload hx hb dL_law_723 (lv_at hl 13 rfl) ?_
      refine lv_aload hx hb dL_law_725 (lv_at hl 14 rfl) ?_
      have hF_11 := gk_all hD hS hA
      refine va_calli (va_runS (As := [.ref xn, .ref xb, .ref xd, .ref xa, .ref xl]) (rest := []) ⟨hx, hb, hml, hown, hts⟩ (kL_total l D cyI cyZ cyL cyV cyJ xn xb xd xa xl nl nv gr sh rt ce bud fsd las isB mto maw dya amo (va_up rfd VC 0) lnf nf bf df af lf_10 ((xp, .inl (cyI, 40, .inl pf)) :: G : va_W) hR8 (gEL (fun l => bud l + mto l - maw l) (fun v => gAcc (fsd (lnf v)) (las (lnf v)) ((va_up rfd VC 0) v) (dya v)) lnf amo orf nv) hel8 H.size _ rfl) (va_cwS 5 hts gL_law_L_total rfl rfl rfl (by decide +kernel) ⟨(Nat.le_of_ble_eq_true rfl), (Nat.le_of_ble_eq_true rfl)⟩) (gk_preS hP hK hD) rfl rfl hl.1 rfl (lv_room (Nat.le_of_ble_eq_true rfl)) dL_law_727 ⟨(by show _ ≤ (706465 : Nat); omega), (by show _ ≤ (6982228 : Nat); omega)⟩) hS (fun q _ h => hF_11 q h) hF_11 (fun r_11 u_11 t_11 H locs ht_11 hvm_11 hw_11 hB_11 hz_11 hk_11 hS => ?_)
      obtain ⟨hP, hD⟩ := gk_back hF_11 hB_11 ht_11
      obtain rfl : r_11 = (gSm (gEL (fun l => bud l + mto l - maw l) (fun v => gAcc (fsd (lnf v)) (las (lnf v)) ((va_up rfd VC 0) v) (dya v)) lnf amo orf nv) nv) := hw_11.trans (pCT_all hM8)
      refine lv_iload hx hb dL_law_730 (lv_at hl 0 rfl) ?_
      refine lv_isub hx hb dL_law_732 ?_
      refine lv_istore (lv' := [(19, .int ((gSm (gEL (fun l => bud l + mto l - maw l) (fun v => gAcc (fsd (lnf v)) (las (lnf v)) ((va_up rfd VC 0) v) (dya v)) lnf amo orf nv) nv) - (gSm (gEL (fun l => bud l + mto l - maw l) (fun v => gAcc (fsd (lnf v)) (las (lnf v)) (rfd v) (dya v)) lnf amo orf nv) nv))), (18, .int (gSm (gEL (fun l => bud l + mto l - maw l) (fun v => gAcc (fsd (lnf v)) (las (lnf v)) (rfd v) (dya v)) lnf amo orf nv) nv)), (17, .int 0), (16, .int 0), (15, .int (nI VC)), (14, .int (nI (Y / 6 % 100 * 5))), (13, .int (nI LN)), (12, .int (nI Y)), (9, .int (nI j)), (0, .ref b), (1, .ref g), (2, .ref xn), (3, .ref xb), (4, .ref xd), (5, .ref xa), (6, .ref xl), (7, .ref xp)]) hx hb dL_law_733 hl (by decide) rfl (fun ls hl => ?_)
      refine lv_aload_n hx hb dL_law_735 rfl (lv_at hl 10 rfl) ?_
      refine lv_iload hx hb dL_law_736 (lv_at hl 2 rfl) ?_
      refine lv_if_eq (tgt := 745) hx hb dL_law_738 (by decide) (fun _ => ?_) (fun c => by first | exact absurd c (by decide) | exact absurd (by decide) c)
      refine lv_iconst (v := 2) hx hb dL_law_745 (by decide) ?_
      refine lv_iload hx hb dL_law_746 (lv_at hl 4 rfl) ?_
      refine lv_iconst (v := 0) hx hb dL_law_748 (by decide) ?_
      refine lv_iconst (v := 0) hx hb dL_law_749 (by decide) ?_
      have hP : va_P D vwCl (([(xn, .inl (cyI, 10, .inl nf)), (xb, .inl (cyI, 36, .inl bf)), (xd, .inl (cyI, 40, .inl df)), (xa, .inl (cyI, 40, .inl af)), (xl, .inl (cyI, 40, .inl lf_10)), (xp, .inl (cyI, 40, .inl pf))] : va_W) ++ G) H := hP
      have hD : va_D A (([(xn, .inl (cyI, 10, .inl nf)), (xb, .inl (cyI, 36, .inl bf)), (xd, .inl (cyI, 40, .inl df)), (xa, .inl (cyI, 40, .inl af)), (xl, .inl (cyI, 40, .inl lf_10)), (xp, .inl (cyI, 40, .inl pf))] : va_W) ++ G) := hD
      have hF_13 := gk_all hD hS hA
      refine va_calli (vx_runSW (As := [.ref g, .int 2, .int (nI VC), .int 0, .int 0]) (rest := []) ⟨hx, hb, hml, hown, hts⟩ (kL_does_admit l hst D cyI cyZ cyL cyV cyJ gr sh rt ce nl nv am nc cd bud fsd las isB mto maw lno dya amo rfd ord cpa lnf orf g ([(xn, .inl (cyI, 10, .inl nf)), (xb, .inl (cyI, 36, .inl bf)), (xd, .inl (cyI, 40, .inl df)), (xa, .inl (cyI, 40, .inl af)), (xl, .inl (cyI, 40, .inl lf_10)), (xp, .inl (cyI, 40, .inl pf))] : va_W) G hG (nI VC) 0 0 (pA_mk1 (by omega) hVC) H.size _ rfl) (vx_cwSW 5 hts gL_law_L_does rfl rfl rfl (by decide +kernel) ⟨(Nat.le_of_ble_eq_true rfl), (Nat.le_of_ble_eq_true rfl)⟩) (gk_preSN hNC hTF hS hF_13 hP hK hD) rfl rfl hl.1 rfl (lv_room (Nat.le_of_ble_eq_true rfl)) dL_law_750 ⟨(by show _ ≤ (706465 : Nat); omega), (by show _ ≤ (6982228 : Nat); omega)⟩) hS (fun q _ h => hF_13 q h) hF_13 (fun r_13 u_13 t_13 H locs ht_13 hvm_13 hw_13 hB_13 hz_13 hk_13 hS => ?_)
      obtain ⟨hP, hD⟩ := gk_back hF_13 hB_13 ht_13
      have hP : va_P D vwCl ((xn, .inl (cyI, 10, .inl nf)) :: (xb, .inl (cyI, 36, .inl bf)) :: (xd, .inl (cyI, 40, .inl df)) :: (xa, .inl (cyI, 40, .inl af)) :: (xl, .inl (cyI, 40, .inl lf_10)) :: (xp, .inl (cyI, 40, .inl pf)) :: u_13) H := hP
      have hD : va_D A ((xn, .inl (cyI, 10, .inl nf)) :: (xb, .inl (cyI, 36, .inl bf)) :: (xd, .inl (cyI, 40, .inl df)) :: (xa, .inl (cyI, 40, .inl af)) :: (xl, .inl (cyI, 40, .inl lf_10)) :: (xp, .inl (cyI, 40, .inl pf)) :: u_13) := hD
      have hcd_13 := pA_mk2 (rfd := rfd) (z := 0) (nv := nv) (v := VC) (by omega) hVC hr_2
      rcases hw_13 with ⟨hc_13, hr_13, hG_13⟩ | ⟨hc_13, hr_13, hG_13⟩
      · exact absurd (hcd_13.symm.trans hc_13) (by decide)
      · subst hr_13
        have hlfid : lf_10 = lf := by rw [elf_10]; exact pUpId hlf_2
        rw [hlfid] at hP hD
        refine lv_iload hx hb dL_law_753 (lv_at hl 3 rfl) ?_
        refine lv_iload hx hb dL_law_755 (lv_at hl 2 rfl) ?_
        refine lv_icmp_ne (tgt := 765) hx hb dL_law_757 (by decide) (fun c => by first | exact absurd c (by decide) | exact absurd (by decide) c) (fun _ => ?_)
        refine lv_ldc hx hb hown (hts0 (.constant RL 58 (-2000000013)) wq_1_13) dL_law_760 ?_
        refine lv_goto (tgt := 778) hx hb dL_law_762 (by decide) ?_
        refine lv_icmp_ne (tgt := 785) hx hb dL_law_778 (by decide) (fun c => by first | exact absurd c (by decide) | exact absurd (by decide) c) (fun _ => ?_)
        refine lv_iconst (v := 1) hx hb dL_law_781 (by decide) ?_
        refine lv_goto (tgt := 786) hx hb dL_law_782 (by decide) ?_
        refine lv_istore (lv' := [(8, .int 1), (19, .int ((gSm (gEL (fun l => bud l + mto l - maw l) (fun v => gAcc (fsd (lnf v)) (las (lnf v)) ((va_up rfd VC 0) v) (dya v)) lnf amo orf nv) nv) - (gSm (gEL (fun l => bud l + mto l - maw l) (fun v => gAcc (fsd (lnf v)) (las (lnf v)) (rfd v) (dya v)) lnf amo orf nv) nv))), (18, .int (gSm (gEL (fun l => bud l + mto l - maw l) (fun v => gAcc (fsd (lnf v)) (las (lnf v)) (rfd v) (dya v)) lnf amo orf nv) nv)), (17, .int 0), (16, .int 0), (15, .int (nI VC)), (14, .int (nI (Y / 6 % 100 * 5))), (13, .int (nI LN)), (12, .int (nI Y)), (9, .int (nI j)), (0, .ref b), (1, .ref g), (2, .ref xn), (3, .ref xb), (4, .ref xd), (5, .ref xa), (6, .ref xl), (7, .ref xp)]) hx hb dL_law_786 hl (by decide) rfl (fun ls hl => ?_)
        refine lv_goto (tgt := 1317) hx hb dL_law_788 (by decide) ?_
        refine W.widen (k := 400 + 2000 * j + 1000) (n := 2000 + 20000 * j + 10000) (by omega) (by omega) ?_
        exact tl _ _ _ _ _ _ _ _ _ _ _ _ _ _ _ _ _ _ _ _ _ _ _ nf bf df af lf pf u_13 _ _ _ Y hG_13 hR hX hT (by omega) (by omega) hP hD hS (lv_sub hl [0, 8, 9, 10, 11, 12, 13, 14, 15, 16, 17] rfl)
    · have n_5 : 0 < ((Y / 40) % 3) := pf_nle (a := ((Y / 40) % 3)) (b := 0) (by omega) (by omega) c_5
      refine lv_iconst (v := 1) hx hb dL_law_674 (by decide) ?_
      refine lv_goto (tgt := 679) hx hb dL_law_675 (by decide) ?_
      refine lv_istore (lv' := [(17, .int 1), (16, .int 0), (15, .int (nI VC)), (14, .int (nI (Y / 6 % 100 * 5))), (13, .int (nI LN)), (12, .int (nI Y)), (9, .int (nI j)), (0, .ref b), (1, .ref g), (2, .ref xn), (3, .ref xb), (4, .ref xd), (5, .ref xa), (6, .ref xl), (7, .ref xp)]) hx hb dL_law_679 hl (by decide) rfl (fun ls hl => ?_)
      refine lv_aload_n hx hb dL_law_681 rfl (lv_at hl 9 rfl) ?_
      refine lv_aload_n hx hb dL_law_682 rfl (lv_at hl 10 rfl) ?_
      refine lv_aload hx hb dL_law_683 (lv_at hl 11 rfl) ?_
      refine lv_aload hx hb dL_law_685 (lv_at hl 12 rfl) ?_
      refine lv_aload hx hb dL_law_687 (lv_at hl 13 rfl) ?_
      have hF_16 := gk_all hD hS hA
      refine va_calli (va_runS (As := [.ref xn, .ref xb, .ref xd, .ref xa, .ref xl]) (rest := []) ⟨hx, hb, hml, hown, hts⟩ (kL_total l D cyI cyZ cyL cyV cyJ xn xb xd xa xl nl nv gr sh rt ce bud fsd las isB mto maw dya amo rfd lnf nf bf df af lf ((xp, .inl (cyI, 40, .inl pf)) :: G : va_W) hR (gEL (fun l => bud l + mto l - maw l) (fun v => gAcc (fsd (lnf v)) (las (lnf v)) (rfd v) (dya v)) lnf amo orf nv) hel H.size _ rfl) (va_cwS 5 hts gL_law_L_total rfl rfl rfl (by decide +kernel) ⟨(Nat.le_of_ble_eq_true rfl), (Nat.le_of_ble_eq_true rfl)⟩) (gk_preS hP hK hD) rfl rfl hl.1 rfl (lv_room (Nat.le_of_ble_eq_true rfl)) dL_law_689 ⟨(by show _ ≤ (706465 : Nat); omega), (by show _ ≤ (6982228 : Nat); omega)⟩) hS (fun q _ h => hF_16 q h) hF_16 (fun r_16 u_16 t_16 H locs ht_16 hvm_16 hw_16 hB_16 hz_16 hk_16 hS => ?_)
      obtain ⟨hP, hD⟩ := gk_back hF_16 hB_16 ht_16
      obtain rfl : r_16 = (gSm (gEL (fun l => bud l + mto l - maw l) (fun v => gAcc (fsd (lnf v)) (las (lnf v)) (rfd v) (dya v)) lnf amo orf nv) nv) := hw_16.trans (pCT_all hG.1)
      refine lv_istore (lv' := [(18, .int (gSm (gEL (fun l => bud l + mto l - maw l) (fun v => gAcc (fsd (lnf v)) (las (lnf v)) (rfd v) (dya v)) lnf amo orf nv) nv)), (17, .int 1), (16, .int 0), (15, .int (nI VC)), (14, .int (nI (Y / 6 % 100 * 5))), (13, .int (nI LN)), (12, .int (nI Y)), (9, .int (nI j)), (0, .ref b), (1, .ref g), (2, .ref xn), (3, .ref xb), (4, .ref xd), (5, .ref xa), (6, .ref xl), (7, .ref xp)]) hx hb dL_law_692 hl (by decide) rfl (fun ls hl => ?_)
      refine lv_aload hx hb dL_law_694 (lv_at hl 14 rfl) ?_
      refine lv_iload hx hb dL_law_696 (lv_at hl 3 rfl) ?_
      refine lv_aload hx hb dL_law_698 (lv_at hl 14 rfl) ?_
      refine lv_iload hx hb dL_law_700 (lv_at hl 3 rfl) ?_
      refine gk_iald (i := VC) hx hb hK hP 4 0 rfl rfl (by omega) (by decide) dL_law_702 ?_
      rw [hlf_2]
      refine lv_bipush (v := 100) hx hb dL_law_703 (by decide) ?_
      refine lv_irem hx hb dL_law_705 (by decide) ?_
      refine lv_topi (fun y_17 h_17 => ?_)
      obtain rfl : y_17 = (nI (lnf VC)) := h_17.trans (pN_rem2 (a := (lnf VC)) (b := 100) (by omega) (by omega) (by omega) (by omega))
      refine lv_iload hx hb dL_law_706 (lv_at hl 1 rfl) ?_
      refine lv_if_eq (tgt := 716) hx hb dL_law_708 (by decide) (fun c => by first | exact absurd c (by decide) | exact absurd (by decide) c) (fun _ => ?_)
      refine lv_bipush (v := 100) hx hb dL_law_711 (by decide) ?_
      refine lv_goto (tgt := 717) hx hb dL_law_713 (by decide) ?_
      refine lv_iadd hx hb dL_law_717 ?_
      refine lv_topi (fun y_19 h_19 => ?_)
      obtain rfl : y_19 = (nI ((lnf VC) + 100)) := h_19.trans (nI_add (lnf VC) 100)
      refine gk_iast (i := VC) hx hb hK hP hD hS 4 0 rfl rfl (by omega) (by decide) dL_law_718 (fun H locs hP hD hS => ?_)
      have hP : va_P D vwCl ((xn, .inl (cyI, 10, .inl nf)) :: (xb, .inl (cyI, 36, .inl bf)) :: (xd, .inl (cyI, 40, .inl df)) :: (xa, .inl (cyI, 40, .inl af)) :: (xl, .inl (cyI, 40, .inl (va_up lf VC (nI ((lnf VC) + 100))))) :: (xp, .inl (cyI, 40, .inl pf)) :: G) H := hP
      have hD : va_D A ((xn, .inl (cyI, 10, .inl nf)) :: (xb, .inl (cyI, 36, .inl bf)) :: (xd, .inl (cyI, 40, .inl df)) :: (xa, .inl (cyI, 40, .inl af)) :: (xl, .inl (cyI, 40, .inl (va_up lf VC (nI ((lnf VC) + 100))))) :: (xp, .inl (cyI, 40, .inl pf)) :: G) := hD
      obtain ⟨lf_20, elf_20⟩ : ∃ z, z = (va_up lf VC (nI ((lnf VC) + 100))) := ⟨_, rfl⟩
      rw [← elf_20] at hP hD
      have hR8 := pR_mark hR hVC (z := 1) (x := nI (lnf VC + 100)) (Or.inr ⟨rfl, rfl⟩) elf_20
      have hM8 := pM_mark hG.1 hVC (z := 1) (by decide)
      have hel8 : ∀ k, k < nv → pEl (fun l => bud l + mto l - maw l) dya amo (fun v => gAcc (fsd (lnf v)) (las (lnf v)) ((va_up rfd VC 1) v) (dya v)) lnf nv k = (gEL (fun l => bud l + mto l - maw l) (fun v => gAcc (fsd (lnf v)) (las (lnf v)) ((va_up rfd VC 1) v) (dya v)) lnf amo orf nv) k := fun k hk => pEl_eq hM8 hT hk
      refine lv_aload_n hx hb dL_law_719 rfl (lv_at hl 10 rfl) ?_
      refine lv_aload_n hx hb dL_law_720 rfl (lv_at hl 11 rfl) ?_
      refine lv_aload hx hb dL_law_721 (lv_at hl 12 rfl) ?_
      refine lv_aload hx hb dL_law_723 (lv_at hl 13 rfl) ?_
      refine lv_aload hx hb dL_law_725 (lv_at hl 14 rfl) ?_
      have hF_21 := gk_all hD hS hA
      refine va_calli (va_runS (As := [.ref xn, .ref xb, .ref xd, .ref xa, .ref xl]) (rest := []) ⟨hx, hb, hml, hown, hts⟩ (kL_total l D cyI cyZ cyL cyV cyJ xn xb xd xa xl nl nv gr sh rt ce bud fsd las isB mto maw dya amo (va_up rfd VC 1) lnf nf bf df af lf_20 ((xp, .inl (cyI, 40, .inl pf)) :: G : va_W) hR8 (gEL (fun l => bud l + mto l - maw l) (fun v => gAcc (fsd (lnf v)) (las (lnf v)) ((va_up rfd VC 1) v) (dya v)) lnf amo orf nv) hel8 H.size _ rfl) (va_cwS 5 hts gL_law_L_total rfl rfl rfl (by decide +kernel) ⟨(Nat.le_of_ble_eq_true rfl), (Nat.le_of_ble_eq_true rfl)⟩) (gk_preS hP hK hD) rfl rfl hl.1 rfl (lv_room (Nat.le_of_ble_eq_true rfl)) dL_law_727 ⟨(by show _ ≤ (706465 : Nat); omega), (by show _ ≤ (6982228 : Nat); omega)⟩) hS (fun q _ h => hF_21 q h) hF_21 (fun r_21 u_21 t_21 H locs ht_21 hvm_21 hw_21 hB_21 hz_21 hk_21 hS => ?_)
      obtain ⟨hP, hD⟩ := gk_back hF_21 hB_21 ht_21
      obtain rfl : r_21 = (gSm (gEL (fun l => bud l + mto l - maw l) (fun v => gAcc (fsd (lnf v)) (las (lnf v)) ((va_up rfd VC 1) v) (dya v)) lnf amo orf nv) nv) := hw_21.trans (pCT_all hM8)
      refine lv_iload hx hb dL_law_730 (lv_at hl 0 rfl) ?_
      refine lv_isub hx hb dL_law_732 ?_
      refine lv_istore (lv' := [(19, .int ((gSm (gEL (fun l => bud l + mto l - maw l) (fun v => gAcc (fsd (lnf v)) (las (lnf v)) ((va_up rfd VC 1) v) (dya v)) lnf amo orf nv) nv) - (gSm (gEL (fun l => bud l + mto l - maw l) (fun v => gAcc (fsd (lnf v)) (las (lnf v)) (rfd v) (dya v)) lnf amo orf nv) nv))), (18, .int (gSm (gEL (fun l => bud l + mto l - maw l) (fun v => gAcc (fsd (lnf v)) (las (lnf v)) (rfd v) (dya v)) lnf amo orf nv) nv)), (17, .int 1), (16, .int 0), (15, .int (nI VC)), (14, .int (nI (Y / 6 % 100 * 5))), (13, .int (nI LN)), (12, .int (nI Y)), (9, .int (nI j)), (0, .ref b), (1, .ref g), (2, .ref xn), (3, .ref xb), (4, .ref xd), (5, .ref xa), (6, .ref xl), (7, .ref xp)]) hx hb dL_law_733 hl (by decide) rfl (fun ls hl => ?_)
      refine lv_aload_n hx hb dL_law_735 rfl (lv_at hl 10 rfl) ?_
      refine lv_iload hx hb dL_law_736 (lv_at hl 2 rfl) ?_
      refine lv_if_eq (tgt := 745) hx hb dL_law_738 (by decide) (fun c => by first | exact absurd c (by decide) | exact absurd (by decide) c) (fun _ => ?_)
      refine lv_iconst (v := 1) hx hb dL_law_741 (by decide) ?_
      refine lv_goto (tgt := 746) hx hb dL_law_742 (by decide) ?_
      refine lv_iload hx hb dL_law_746 (lv_at hl 4 rfl) ?_
      refine lv_iconst (v := 0) hx hb dL_law_748 (by decide) ?_
      refine lv_iconst (v := 0) hx hb dL_law_749 (by decide) ?_
      have hP : va_P D vwCl (([(xn, .inl (cyI, 10, .inl nf)), (xb, .inl (cyI, 36, .inl bf)), (xd, .inl (cyI, 40, .inl df)), (xa, .inl (cyI, 40, .inl af)), (xl, .inl (cyI, 40, .inl lf_20)), (xp, .inl (cyI, 40, .inl pf))] : va_W) ++ G) H := hP
      have hD : va_D A (([(xn, .inl (cyI, 10, .inl nf)), (xb, .inl (cyI, 36, .inl bf)), (xd, .inl (cyI, 40, .inl df)), (xa, .inl (cyI, 40, .inl af)), (xl, .inl (cyI, 40, .inl lf_20)), (xp, .inl (cyI, 40, .inl pf))] : va_W) ++ G) := hD
      have hF_23 := gk_all hD hS hA
      refine va_calli (vx_runSW (As := [.ref g, .int 1, .int (nI VC), .int 0, .int 0]) (rest := []) ⟨hx, hb, hml, hown, hts⟩ (kL_does_refuse l hst D cyI cyZ cyL cyV cyJ gr sh rt ce nl nv am nc cd bud fsd las isB mto maw lno dya amo rfd ord cpa lnf orf g ([(xn, .inl (cyI, 10, .inl nf)), (xb, .inl (cyI, 36, .inl bf)), (xd, .inl (cyI, 40, .inl df)), (xa, .inl (cyI, 40, .inl af)), (xl, .inl (cyI, 40, .inl lf_20)), (xp, .inl (cyI, 40, .inl pf))] : va_W) G hG (nI VC) 0 0 (pA_mk1 (by omega) hVC) H.size _ rfl) (vx_cwSW 5 hts gL_law_L_does rfl rfl rfl (by decide +kernel) ⟨(Nat.le_of_ble_eq_true rfl), (Nat.le_of_ble_eq_true rfl)⟩) (gk_preSN hNC hTF hS hF_23 hP hK hD) rfl rfl hl.1 rfl (lv_room (Nat.le_of_ble_eq_true rfl)) dL_law_750 ⟨(by show _ ≤ (706465 : Nat); omega), (by show _ ≤ (6982228 : Nat); omega)⟩) hS (fun q _ h => hF_23 q h) hF_23 (fun r_23 u_23 t_23 H locs ht_23 hvm_23 hw_23 hB_23 hz_23 hk_23 hS => ?_)
      obtain ⟨hP, hD⟩ := gk_back hF_23 hB_23 ht_23
      have hP : va_P D vwCl ((xn, .inl (cyI, 10, .inl nf)) :: (xb, .inl (cyI, 36, .inl bf)) :: (xd, .inl (cyI, 40, .inl df)) :: (xa, .inl (cyI, 40, .inl af)) :: (xl, .inl (cyI, 40, .inl lf_20)) :: (xp, .inl (cyI, 40, .inl pf)) :: u_23) H := hP
      have hD : va_D A ((xn, .inl (cyI, 10, .inl nf)) :: (xb, .inl (cyI, 36, .inl bf)) :: (xd, .inl (cyI, 40, .inl df)) :: (xa, .inl (cyI, 40, .inl af)) :: (xl, .inl (cyI, 40, .inl lf_20)) :: (xp, .inl (cyI, 40, .inl pf)) :: u_23) := hD
      have hcd_23 := pA_mk0 (rfd := rfd) (z := 1) (nv := nv) (v := VC) (by omega) hVC (by rw [hr_2]; decide)
      rcases hw_23 with ⟨hc_23, hr_23, hG_23⟩ | ⟨hc_23, hr_23, hG_23⟩
      · rw [show gIxn (nI VC) = VC from nI_clamp (by omega)] at hr_23 hG_23
        obtain rfl : r_23 = (-((gSm (gEL (fun l => bud l + mto l - maw l) (fun v => gAcc (fsd (lnf v)) (las (lnf v)) ((va_up rfd VC 1) v) (dya v)) lnf amo orf nv) nv) - (gSm (gEL (fun l => bud l + mto l - maw l) (fun v => gAcc (fsd (lnf v)) (las (lnf v)) (rfd v) (dya v)) lnf amo orf nv) nv))) := hr_23.trans Int32.neg_sub.symm
        refine lv_iload hx hb dL_law_753 (lv_at hl 3 rfl) ?_
        refine lv_iload hx hb dL_law_755 (lv_at hl 2 rfl) ?_
        refine lv_icmp_ne (tgt := 765) hx hb dL_law_757 (by decide) (fun _ => ?_) (fun c => by first | exact absurd c (by decide) | exact absurd (by decide) c)
        refine lv_iload hx hb dL_law_765 (lv_at hl 2 rfl) ?_
        refine lv_if_eq (tgt := 776) hx hb dL_law_767 (by decide) (fun c => by first | exact absurd c (by decide) | exact absurd (by decide) c) (fun _ => ?_)
        refine lv_iload hx hb dL_law_770 (lv_at hl 0 rfl) ?_
        refine lv_ineg hx hb dL_law_772 ?_
        refine lv_goto (tgt := 778) hx hb dL_law_773 (by decide) ?_
        refine lv_icmp_ne (tgt := 785) hx hb dL_law_778 (by decide) (fun c9 => absurd rfl c9) (fun _ => ?_)
        refine lv_iconst (v := 1) hx hb dL_law_781 (by decide) ?_
        refine lv_goto (tgt := 786) hx hb dL_law_782 (by decide) ?_
        refine lv_istore (lv' := [(8, .int 1), (19, .int ((gSm (gEL (fun l => bud l + mto l - maw l) (fun v => gAcc (fsd (lnf v)) (las (lnf v)) ((va_up rfd VC 1) v) (dya v)) lnf amo orf nv) nv) - (gSm (gEL (fun l => bud l + mto l - maw l) (fun v => gAcc (fsd (lnf v)) (las (lnf v)) (rfd v) (dya v)) lnf amo orf nv) nv))), (18, .int (gSm (gEL (fun l => bud l + mto l - maw l) (fun v => gAcc (fsd (lnf v)) (las (lnf v)) (rfd v) (dya v)) lnf amo orf nv) nv)), (17, .int 1), (16, .int 0), (15, .int (nI VC)), (14, .int (nI (Y / 6 % 100 * 5))), (13, .int (nI LN)), (12, .int (nI Y)), (9, .int (nI j)), (0, .ref b), (1, .ref g), (2, .ref xn), (3, .ref xb), (4, .ref xd), (5, .ref xa), (6, .ref xl), (7, .ref xp)]) hx hb dL_law_786 hl (by decide) rfl (fun ls hl => ?_)
        refine lv_goto (tgt := 1317) hx hb dL_law_788 (by decide) ?_
        refine W.widen (k := 400 + 2000 * j + 1000) (n := 2000 + 20000 * j + 10000) (by omega) (by omega) ?_
        exact tl _ _ _ _ _ _ _ _ _ _ _ _ _ _ _ _ _ _ _ _ _ _ _ nf bf df af lf_20 pf u_23 _ _ _ Y hG_23 hR8 hX hT (by omega) (by omega) hP hD hS (lv_sub hl [0, 8, 9, 10, 11, 12, 13, 14, 15, 16, 17] rfl)
      · exact absurd (hcd_23.symm.trans hc_23) (by decide)
  · rw [hlf_2]
    refine lv_bipush (v := 99) hx hb dL_law_652 (by decide) ?_
    refine lv_icmp_le (tgt := 661) hx hb dL_law_654 (by decide) (fun c9 => absurd c9 (pn_le (a := (lnf VC + 100)) (b := 99) (by omega) (by omega) (by omega))) (fun _ => ?_)
    refine lv_iconst (v := 1) hx hb dL_law_657 (by decide) ?_
    refine lv_goto (tgt := 662) hx hb dL_law_658 (by decide) ?_
    refine lv_istore (lv' := [(16, .int 1), (15, .int (nI VC)), (14, .int (nI (Y / 6 % 100 * 5))), (13, .int (nI LN)), (12, .int (nI Y)), (9, .int (nI j)), (0, .ref b), (1, .ref g), (2, .ref xn), (3, .ref xb), (4, .ref xd), (5, .ref xa), (6, .ref xl), (7, .ref xp)]) hx hb dL_law_662 hl (by decide) rfl (fun ls hl => ?_)
    refine lv_iload hx hb dL_law_664 (lv_at hl 4 rfl) ?_
    refine lv_bipush (v := 40) hx hb dL_law_666 (by decide) ?_
    refine lv_idiv hx hb dL_law_668 (by decide) ?_
    refine lv_topi (fun y_26 h_26 => ?_)
    obtain rfl : y_26 = (nI (Y / 40)) := h_26.trans (pk_div (a := Y) (d := 40) (by omega) (by omega) (by omega))
    refine lv_iconst (v := 3) hx hb dL_law_669 (by decide) ?_
    refine lv_irem hx hb dL_law_670 (by decide) ?_
    refine lv_topi (fun y_27 h_27 => ?_)
    obtain rfl : y_27 = (nI ((Y / 40) % 3)) := h_27.trans (pk_rem (a := (Y / 40)) (d := 3) (by omega) (by omega) (by omega))
    refine lv_if_le (tgt := 678) hx hb dL_law_671 (by decide) (fun c_28 => ?_) (fun c_28 => ?_)
    · have n_28 : ((Y / 40) % 3) ≤ 0 := pf_le (a := ((Y / 40) % 3)) (b := 0) (by omega) (by omega) c_28
      refine lv_iconst (v := 0) hx hb dL_law_678 (by decide) ?_
      refine lv_istore (lv' := [(17, .int 0), (16, .int 1), (15, .int (nI VC)), (14, .int (nI (Y / 6 % 100 * 5))), (13, .int (nI LN)), (12, .int (nI Y)), (9, .int (nI j)), (0, .ref b), (1, .ref g), (2, .ref xn), (3, .ref xb), (4, .ref xd), (5, .ref xa), (6, .ref xl), (7, .ref xp)]) hx hb dL_law_679 hl (by decide) rfl (fun ls hl => ?_)
      refine lv_aload_n hx hb dL_law_681 rfl (lv_at hl 9 rfl) ?_
      refine lv_aload_n hx hb dL_law_682 rfl (lv_at hl 10 rfl) ?_
      refine lv_aload hx hb dL_law_683 (lv_at hl 11 rfl) ?_
      refine lv_aload hx hb dL_law_685 (lv_at hl 12 rfl) ?_
      refine lv_aload hx hb dL_law_687 (lv_at hl 13 rfl) ?_
      have hF_29 := gk_all hD hS hA
      refine va_calli (va_runS (As := [.ref xn, .ref xb, .ref xd, .ref xa, .ref xl]) (rest := []) ⟨hx, hb, hml, hown, hts⟩ (kL_total l D cyI cyZ cyL cyV cyJ xn xb xd xa xl nl nv gr sh rt ce bud fsd las isB mto maw dya amo rfd lnf nf bf df af lf ((xp, .inl (cyI, 40, .inl pf)) :: G : va_W) hR (gEL (fun l => bud l + mto l - maw l) (fun v => gAcc (fsd (lnf v)) (las (lnf v)) (rfd v) (dya v)) lnf amo orf nv) hel H.size _ rfl) (va_cwS 5 hts gL_law_L_total rfl rfl rfl (by decide +kernel) ⟨(Nat.le_of_ble_eq_true rfl), (Nat.le_of_ble_eq_true rfl)⟩) (gk_preS hP hK hD) rfl rfl hl.1 rfl (lv_room (Nat.le_of_ble_eq_true rfl)) dL_law_689 ⟨(by show _ ≤ (706465 : Nat); omega), (by show _ ≤ (6982228 : Nat); omega)⟩) hS (fun q _ h => hF_29 q h) hF_29 (fun r_29 u_29 t_29 H locs ht_29 hvm_29 hw_29 hB_29 hz_29 hk_29 hS => ?_)
      obtain ⟨hP, hD⟩ := gk_back hF_29 hB_29 ht_29
      obtain rfl : r_29 = (gSm (gEL (fun l => bud l + mto l - maw l) (fun v => gAcc (fsd (lnf v)) (las (lnf v)) (rfd v) (dya v)) lnf amo orf nv) nv) := hw_29.trans (pCT_all hG.1)
      refine lv_istore (lv' := [(18, .int (gSm (gEL (fun l => bud l + mto l - maw l) (fun v => gAcc (fsd (lnf v)) (las (lnf v)) (rfd v) (dya v)) lnf amo orf nv) nv)), (17, .int 0), (16, .int 1), (15, .int (nI VC)), (14, .int (nI (Y / 6 % 100 * 5))), (13, .int (nI LN)), (12, .int (nI Y)), (9, .int (nI j)), (0, .ref b), (1, .ref g), (2, .ref xn), (3, .ref xb), (4, .ref xd), (5, .ref xa), (6, .ref xl), (7, .ref xp)]) hx hb dL_law_692 hl (by decide) rfl (fun ls hl => ?_)
      refine lv_aload hx hb dL_law_694 (lv_at hl 14 rfl) ?_
      refine lv_iload hx hb dL_law_696 (lv_at hl 3 rfl) ?_
      refine lv_aload hx hb dL_law_698 (lv_at hl 14 rfl) ?_
      refine lv_iload hx hb dL_law_700 (lv_at hl 3 rfl) ?_
      refine gk_iald (i := VC) hx hb hK hP 4 0 rfl rfl (by omega) (by decide) dL_law_702 ?_
      rw [hlf_2]
      refine lv_bipush (v := 100) hx hb dL_law_703 (by decide) ?_
      refine lv_irem hx hb dL_law_705 (by decide) ?_
      refine lv_topi (fun y_30 h_30 => ?_)
      obtain rfl : y_30 = (nI (lnf VC)) := h_30.trans (pN_rem2 (a := (lnf VC + 100)) (b := 100) (by omega) (by omega) (by omega) (by omega))
      refine lv_iload hx hb dL_law_706 (lv_at hl 1 rfl) ?_
      refine lv_if_eq (tgt := 716) hx hb dL_law_708 (by decide) (fun _ => ?_) (fun c => by first | exact absurd c (by decide) | exact absurd (by decide) c)
      refine lv_iconst (v := 0) hx hb dL_law_716 (by decide) ?_
      refine lv_iadd hx hb dL_law_717 ?_
      refine lv_topi (fun y_32 h_32 => ?_)
      obtain rfl : y_32 = (nI ((lnf VC) + 0)) := h_32.trans (nI_add (lnf VC) 0)
      refine gk_iast (i := VC) hx hb hK hP hD hS 4 0 rfl rfl (by omega) (by decide) dL_law_718 (fun H locs hP hD hS => ?_)
      have hP : va_P D vwCl ((xn, .inl (cyI, 10, .inl nf)) :: (xb, .inl (cyI, 36, .inl bf)) :: (xd, .inl (cyI, 40, .inl df)) :: (xa, .inl (cyI, 40, .inl af)) :: (xl, .inl (cyI, 40, .inl (va_up lf VC (nI ((lnf VC) + 0))))) :: (xp, .inl (cyI, 40, .inl pf)) :: G) H := hP
      have hD : va_D A ((xn, .inl (cyI, 10, .inl nf)) :: (xb, .inl (cyI, 36, .inl bf)) :: (xd, .inl (cyI, 40, .inl df)) :: (xa, .inl (cyI, 40, .inl af)) :: (xl, .inl (cyI, 40, .inl (va_up lf VC (nI ((lnf VC) + 0))))) :: (xp, .inl (cyI, 40, .inl pf)) :: G) := hD
      obtain ⟨lf_33, elf_33⟩ : ∃ z, z = (va_up lf VC (nI ((lnf VC) + 0))) := ⟨_, rfl⟩
      rw [← elf_33] at hP hD
      have hR8 := pR_mark hR hVC (z := 0) (x := nI (lnf VC + 0)) (Or.inl ⟨rfl, rfl⟩) elf_33
      have hM8 := pM_mark hG.1 hVC (z := 0) (by decide)
      have hel8 : ∀ k, k < nv → pEl (fun l => bud l + mto l - maw l) dya amo (fun v => gAcc (fsd (lnf v)) (las (lnf v)) ((va_up rfd VC 0) v) (dya v)) lnf nv k = (gEL (fun l => bud l + mto l - maw l) (fun v => gAcc (fsd (lnf v)) (las (lnf v)) ((va_up rfd VC 0) v) (dya v)) lnf amo orf nv) k := fun k hk => pEl_eq hM8 hT hk
      refine lv_aload_n hx hb dL_law_719 rfl (lv_at hl 10 rfl) ?_
      refine lv_aload_n hx hb dL_law_720 rfl (lv_at hl 11 rfl) ?_
      refine lv_aload hx hb dL_law_721 (lv_at hl 12 rfl) ?_
      refine lv_aload hx hb dL_law_723 (lv_at hl 13 rfl) ?_
      refine lv_aload hx hb dL_law_725 (lv_at hl 14 rfl) ?_
      have hF_34 := gk_all hD hS hA
      refine va_calli (va_runS (As := [.ref xn, .ref xb, .ref xd, .ref xa, .ref xl]) (rest := []) ⟨hx, hb, hml, hown, hts⟩ (kL_total l D cyI cyZ cyL cyV cyJ xn xb xd xa xl nl nv gr sh rt ce bud fsd las isB mto maw dya amo (va_up rfd VC 0) lnf nf bf df af lf_33 ((xp, .inl (cyI, 40, .inl pf)) :: G : va_W) hR8 (gEL (fun l => bud l + mto l - maw l) (fun v => gAcc (fsd (lnf v)) (las (lnf v)) ((va_up rfd VC 0) v) (dya v)) lnf amo orf nv) hel8 H.size _ rfl) (va_cwS 5 hts gL_law_L_total rfl rfl rfl (by decide +kernel) ⟨(Nat.le_of_ble_eq_true rfl), (Nat.le_of_ble_eq_true rfl)⟩) (gk_preS hP hK hD) rfl rfl hl.1 rfl (lv_room (Nat.le_of_ble_eq_true rfl)) dL_law_727 ⟨(by show _ ≤ (706465 : Nat); omega), (by show _ ≤ (6982228 : Nat); omega)⟩) hS (fun q _ h => hF_34 q h) hF_34 (fun r_34 u_34 t_34 H locs ht_34 hvm_34 hw_34 hB_34 hz_34 hk_34 hS => ?_)
      obtain ⟨hP, hD⟩ := gk_back hF_34 hB_34 ht_34
      obtain rfl : r_34 = (gSm (gEL (fun l => bud l + mto l - maw l) (fun v => gAcc (fsd (lnf v)) (las (lnf v)) ((va_up rfd VC 0) v) (dya v)) lnf amo orf nv) nv) := hw_34.trans (pCT_all hM8)
      refine lv_iload hx hb dL_law_730 (lv_at hl 0 rfl) ?_
      refine lv_isub hx hb dL_law_732 ?_
      refine lv_istore (lv' := [(19, .int ((gSm (gEL (fun l => bud l + mto l - maw l) (fun v => gAcc (fsd (lnf v)) (las (lnf v)) ((va_up rfd VC 0) v) (dya v)) lnf amo orf nv) nv) - (gSm (gEL (fun l => bud l + mto l - maw l) (fun v => gAcc (fsd (lnf v)) (las (lnf v)) (rfd v) (dya v)) lnf amo orf nv) nv))), (18, .int (gSm (gEL (fun l => bud l + mto l - maw l) (fun v => gAcc (fsd (lnf v)) (las (lnf v)) (rfd v) (dya v)) lnf amo orf nv) nv)), (17, .int 0), (16, .int 1), (15, .int (nI VC)), (14, .int (nI (Y / 6 % 100 * 5))), (13, .int (nI LN)), (12, .int (nI Y)), (9, .int (nI j)), (0, .ref b), (1, .ref g), (2, .ref xn), (3, .ref xb), (4, .ref xd), (5, .ref xa), (6, .ref xl), (7, .ref xp)]) hx hb dL_law_733 hl (by decide) rfl (fun ls hl => ?_)
      refine lv_aload_n hx hb dL_law_735 rfl (lv_at hl 10 rfl) ?_
      refine lv_iload hx hb dL_law_736 (lv_at hl 2 rfl) ?_
      refine lv_if_eq (tgt := 745) hx hb dL_law_738 (by decide) (fun _ => ?_) (fun c => by first | exact absurd c (by decide) | exact absurd (by decide) c)
      refine lv_iconst (v := 2) hx hb dL_law_745 (by decide) ?_
      refine lv_iload hx hb dL_law_746 (lv_at hl 4 rfl) ?_
      refine lv_iconst (v := 0) hx hb dL_law_748 (by decide) ?_
      refine lv_iconst (v := 0) hx hb dL_law_749 (by decide) ?_
      have hP : va_P D vwCl (([(xn, .inl (cyI, 10, .inl nf)), (xb, .inl (cyI, 36, .inl bf)), (xd, .inl (cyI, 40, .inl df)), (xa, .inl (cyI, 40, .inl af)), (xl, .inl (cyI, 40, .inl lf_33)), (xp, .inl (cyI, 40, .inl pf))] : va_W) ++ G) H := hP
      have hD : va_D A (([(xn, .inl (cyI, 10, .inl nf)), (xb, .inl (cyI, 36, .inl bf)), (xd, .inl (cyI, 40, .inl df)), (xa, .inl (cyI, 40, .inl af)), (xl, .inl (cyI, 40, .inl lf_33)), (xp, .inl (cyI, 40, .inl pf))] : va_W) ++ G) := hD
      have hF_36 := gk_all hD hS hA
      refine va_calli (vx_runSW (As := [.ref g, .int 2, .int (nI VC), .int 0, .int 0]) (rest := []) ⟨hx, hb, hml, hown, hts⟩ (kL_does_admit l hst D cyI cyZ cyL cyV cyJ gr sh rt ce nl nv am nc cd bud fsd las isB mto maw lno dya amo rfd ord cpa lnf orf g ([(xn, .inl (cyI, 10, .inl nf)), (xb, .inl (cyI, 36, .inl bf)), (xd, .inl (cyI, 40, .inl df)), (xa, .inl (cyI, 40, .inl af)), (xl, .inl (cyI, 40, .inl lf_33)), (xp, .inl (cyI, 40, .inl pf))] : va_W) G hG (nI VC) 0 0 (pA_mk1 (by omega) hVC) H.size _ rfl) (vx_cwSW 5 hts gL_law_L_does rfl rfl rfl (by decide +kernel) ⟨(Nat.le_of_ble_eq_true rfl), (Nat.le_of_ble_eq_true rfl)⟩) (gk_preSN hNC hTF hS hF_36 hP hK hD) rfl rfl hl.1 rfl (lv_room (Nat.le_of_ble_eq_true rfl)) dL_law_750 ⟨(by show _ ≤ (706465 : Nat); omega), (by show _ ≤ (6982228 : Nat); omega)⟩) hS (fun q _ h => hF_36 q h) hF_36 (fun r_36 u_36 t_36 H locs ht_36 hvm_36 hw_36 hB_36 hz_36 hk_36 hS => ?_)
      obtain ⟨hP, hD⟩ := gk_back hF_36 hB_36 ht_36
      have hP : va_P D vwCl ((xn, .inl (cyI, 10, .inl nf)) :: (xb, .inl (cyI, 36, .inl bf)) :: (xd, .inl (cyI, 40, .inl df)) :: (xa, .inl (cyI, 40, .inl af)) :: (xl, .inl (cyI, 40, .inl lf_33)) :: (xp, .inl (cyI, 40, .inl pf)) :: u_36) H := hP
      have hD : va_D A ((xn, .inl (cyI, 10, .inl nf)) :: (xb, .inl (cyI, 36, .inl bf)) :: (xd, .inl (cyI, 40, .inl df)) :: (xa, .inl (cyI, 40, .inl af)) :: (xl, .inl (cyI, 40, .inl lf_33)) :: (xp, .inl (cyI, 40, .inl pf)) :: u_36) := hD
      have hcd_36 := pA_mk0 (rfd := rfd) (z := 0) (nv := nv) (v := VC) (by omega) hVC (by rw [hr_2]; decide)
      rcases hw_36 with ⟨hc_36, hr_36, hG_36⟩ | ⟨hc_36, hr_36, hG_36⟩
      · rw [show gIxn (nI VC) = VC from nI_clamp (by omega)] at hr_36 hG_36
        obtain rfl : r_36 = ((gSm (gEL (fun l => bud l + mto l - maw l) (fun v => gAcc (fsd (lnf v)) (las (lnf v)) ((va_up rfd VC 0) v) (dya v)) lnf amo orf nv) nv) - (gSm (gEL (fun l => bud l + mto l - maw l) (fun v => gAcc (fsd (lnf v)) (las (lnf v)) (rfd v) (dya v)) lnf amo orf nv) nv)) := hr_36.trans Int32.neg_sub
        refine lv_iload hx hb dL_law_753 (lv_at hl 3 rfl) ?_
        refine lv_iload hx hb dL_law_755 (lv_at hl 2 rfl) ?_
        refine lv_icmp_ne (tgt := 765) hx hb dL_law_757 (by decide) (fun _ => ?_) (fun c => by first | exact absurd c (by decide) | exact absurd (by decide) c)
        refine lv_iload hx hb dL_law_765 (lv_at hl 2 rfl) ?_
        refine lv_if_eq (tgt := 776) hx hb dL_law_767 (by decide) (fun _ => ?_) (fun c => by first | exact absurd c (by decide) | exact absurd (by decide) c)
        refine lv_iload hx hb dL_law_776 (lv_at hl 0 rfl) ?_
        refine lv_icmp_ne (tgt := 785) hx hb dL_law_778 (by decide) (fun c9 => absurd rfl c9) (fun _ => ?_)
        refine lv_iconst (v := 1) hx hb dL_law_781 (by decide) ?_
        refine lv_goto (tgt := 786) hx hb dL_law_782 (by decide) ?_
        refine lv_istore (lv' := [(8, .int 1), (19, .int ((gSm (gEL (fun l => bud l + mto l - maw l) (fun v => gAcc (fsd (lnf v)) (las (lnf v)) ((va_up rfd VC 0) v) (dya v)) lnf amo orf nv) nv) - (gSm (gEL (fun l => bud l + mto l - maw l) (fun v => gAcc (fsd (lnf v)) (las (lnf v)) (rfd v) (dya v)) lnf amo orf nv) nv))), (18, .int (gSm (gEL (fun l => bud l + mto l - maw l) (fun v => gAcc (fsd (lnf v)) (las (lnf v)) (rfd v) (dya v)) lnf amo orf nv) nv)), (17, .int 0), (16, .int 1), (15, .int (nI VC)), (14, .int (nI (Y / 6 % 100 * 5))), (13, .int (nI LN)), (12, .int (nI Y)), (9, .int (nI j)), (0, .ref b), (1, .ref g), (2, .ref xn), (3, .ref xb), (4, .ref xd), (5, .ref xa), (6, .ref xl), (7, .ref xp)]) hx hb dL_law_786 hl (by decide) rfl (fun ls hl => ?_)
        refine lv_goto (tgt := 1317) hx hb dL_law_788 (by decide) ?_
        refine W.widen (k := 400 + 2000 * j + 1000) (n := 2000 + 20000 * j + 10000) (by omega) (by omega) ?_
        exact tl _ _ _ _ _ _ _ _ _ _ _ _ _ _ _ _ _ _ _ _ _ _ _ nf bf df af lf_33 pf u_36 _ _ _ Y hG_36 hR8 hX hT (by omega) (by omega) hP hD hS (lv_sub hl [0, 8, 9, 10, 11, 12, 13, 14, 15, 16, 17] rfl)
      · exact absurd (hcd_36.symm.trans hc_36) (by decide)
    · have n_28 : 0 < ((Y / 40) % 3) := pf_nle (a := ((Y / 40) % 3)) (b := 0) (by omega) (by omega) c_28
      refine lv_iconst (v := 1) hx hb dL_law_674 (by decide) ?_
      refine lv_goto (tgt := 679) hx hb dL_law_675 (by decide) ?_
      refine lv_istore (lv' := [(17, .int 1), (16, .int 1), (15, .int (nI VC)), (14, .int (nI (Y / 6 % 100 * 5))), (13, .int (nI LN)), (12, .int (nI Y)), (9, .int (nI j)), (0, .ref b), (1, .ref g), (2, .ref xn), (3, .ref xb), (4, .ref xd), (5, .ref xa), (6, .ref xl), (7, .ref xp)]) hx hb dL_law_679 hl (by decide) rfl (fun ls hl => ?_)
      refine lv_aload_n hx hb dL_law_681 rfl (lv_at hl 9 rfl) ?_
      refine lv_aload_n hx hb dL_law_682 rfl (lv_at hl 10 rfl) ?_
      refine lv_aload hx hb dL_law_683 (lv_at hl 11 rfl) ?_
      refine lv_aload hx hb dL_law_685 (lv_at hl 12 rfl) ?_
      refine lv_aload hx hb dL_law_687 (lv_at hl 13 rfl) ?_
      have hF_39 := gk_all hD hS hA
      refine va_calli (va_runS (As := [.ref xn, .ref xb, .ref xd, .ref xa, .ref xl]) (rest := []) ⟨hx, hb, hml, hown, hts⟩ (kL_total l D cyI cyZ cyL cyV cyJ xn xb xd xa xl nl nv gr sh rt ce bud fsd las isB mto maw dya amo rfd lnf nf bf df af lf ((xp, .inl (cyI, 40, .inl pf)) :: G : va_W) hR (gEL (fun l => bud l + mto l - maw l) (fun v => gAcc (fsd (lnf v)) (las (lnf v)) (rfd v) (dya v)) lnf amo orf nv) hel H.size _ rfl) (va_cwS 5 hts gL_law_L_total rfl rfl rfl (by decide +kernel) ⟨(Nat.le_of_ble_eq_true rfl), (Nat.le_of_ble_eq_true rfl)⟩) (gk_preS hP hK hD) rfl rfl hl.1 rfl (lv_room (Nat.le_of_ble_eq_true rfl)) dL_law_689 ⟨(by show _ ≤ (706465 : Nat); omega), (by show _ ≤ (6982228 : Nat); omega)⟩) hS (fun q _ h => hF_39 q h) hF_39 (fun r_39 u_39 t_39 H locs ht_39 hvm_39 hw_39 hB_39 hz_39 hk_39 hS => ?_)
      obtain ⟨hP, hD⟩ := gk_back hF_39 hB_39 ht_39
      obtain rfl : r_39 = (gSm (gEL (fun l => bud l + mto l - maw l) (fun v => gAcc (fsd (lnf v)) (las (lnf v)) (rfd v) (dya v)) lnf amo orf nv) nv) := hw_39.trans (pCT_all hG.1)
      refine lv_istore (lv' := [(18, .int (gSm (gEL (fun l => bud l + mto l - maw l) (fun v => gAcc (fsd (lnf v)) (las (lnf v)) (rfd v) (dya v)) lnf amo orf nv) nv)), (17, .int 1), (16, .int 1), (15, .int (nI VC)), (14, .int (nI (Y / 6 % 100 * 5))), (13, .int (nI LN)), (12, .int (nI Y)), (9, .int (nI j)), (0, .ref b), (1, .ref g), (2, .ref xn), (3, .ref xb), (4, .ref xd), (5, .ref xa), (6, .ref xl), (7, .ref xp)]) hx hb dL_law_692 hl (by decide) rfl (fun ls hl => ?_)
      refine lv_aload hx hb dL_law_694 (lv_at hl 14 rfl) ?_
      refine lv_iload hx hb dL_law_696 (lv_at hl 3 rfl) ?_
      refine lv_aload hx hb dL_law_698 (lv_at hl 14 rfl) ?_
      refine lv_iload hx hb dL_law_700 (lv_at hl 3 rfl) ?_
      refine gk_iald (i := VC) hx hb hK hP 4 0 rfl rfl (by omega) (by decide) dL_law_702 ?_
      rw [hlf_2]
      refine lv_bipush (v := 100) hx hb dL_law_703 (by decide) ?_
      refine lv_irem hx hb dL_law_705 (by decide) ?_
      refine lv_topi (fun y_40 h_40 => ?_)
      obtain rfl : y_40 = (nI (lnf VC)) := h_40.trans (pN_rem2 (a := (lnf VC + 100)) (b := 100) (by omega) (by omega) (by omega) (by omega))
      refine lv_iload hx hb dL_law_706 (lv_at hl 1 rfl) ?_
      refine lv_if_eq (tgt := 716) hx hb dL_law_708 (by decide) (fun c => by first | exact absurd c (by decide) | exact absurd (by decide) c) (fun _ => ?_)
      refine lv_bipush (v := 100) hx hb dL_law_711 (by decide) ?_
      refine lv_goto (tgt := 717) hx hb dL_law_713 (by decide) ?_
      refine lv_iadd hx hb dL_law_717 ?_
      refine lv_topi (fun y_42 h_42 => ?_)
      obtain rfl : y_42 = (nI ((lnf VC) + 100)) := h_42.trans (nI_add (lnf VC) 100)
      refine gk_iast (i := VC) hx hb hK hP hD hS 4 0 rfl rfl (by omega) (by decide) dL_law_718 (fun H locs hP hD hS => ?_)
      have hP : va_P D vwCl ((xn, .inl (cyI, 10, .inl nf)) :: (xb, .inl (cyI, 36, .inl bf)) :: (xd, .inl (cyI, 40, .inl df)) :: (xa, .inl (cyI, 40, .inl af)) :: (xl, .inl (cyI, 40, .inl (va_up lf VC (nI ((lnf VC) + 100))))) :: (xp, .inl (cyI, 40, .inl pf)) :: G) H := hP
      have hD : va_D A ((xn, .inl (cyI, 10, .inl nf)) :: (xb, .inl (cyI, 36, .inl bf)) :: (xd, .inl (cyI, 40, .inl df)) :: (xa, .inl (cyI, 40, .inl af)) :: (xl, .inl (cyI, 40, .inl (va_up lf VC (nI ((lnf VC) + 100))))) :: (xp, .inl (cyI, 40, .inl pf)) :: G) := hD
      obtain ⟨lf_43, elf_43⟩ : ∃ z, z = (va_up lf VC (nI ((lnf VC) + 100))) := ⟨_, rfl⟩
      rw [← elf_43] at hP hD
      have hR8 := pR_mark hR hVC (z := 1) (x := nI (lnf VC + 100)) (Or.inr ⟨rfl, rfl⟩) elf_43
      have hM8 := pM_mark hG.1 hVC (z := 1) (by decide)
      have hel8 : ∀ k, k < nv → pEl (fun l => bud l + mto l - maw l) dya amo (fun v => gAcc (fsd (lnf v)) (las (lnf v)) ((va_up rfd VC 1) v) (dya v)) lnf nv k = (gEL (fun l => bud l + mto l - maw l) (fun v => gAcc (fsd (lnf v)) (las (lnf v)) ((va_up rfd VC 1) v) (dya v)) lnf amo orf nv) k := fun k hk => pEl_eq hM8 hT hk
      refine lv_aload_n hx hb dL_law_719 rfl (lv_at hl 10 rfl) ?_
      refine lv_aload_n hx hb dL_law_720 rfl (lv_at hl 11 rfl) ?_
      refine lv_aload hx hb dL_law_721 (lv_at hl 12 rfl) ?_
      refine lv_aload hx hb dL_law_723 (lv_at hl 13 rfl) ?_
      refine lv_aload hx hb dL_law_725 (lv_at hl 14 rfl) ?_
      have hF_44 := gk_all hD hS hA
      refine va_calli (va_runS (As := [.ref xn, .ref xb, .ref xd, .ref xa, .ref xl]) (rest := []) ⟨hx, hb, hml, hown, hts⟩ (kL_total l D cyI cyZ cyL cyV cyJ xn xb xd xa xl nl nv gr sh rt ce bud fsd las isB mto maw dya amo (va_up rfd VC 1) lnf nf bf df af lf_43 ((xp, .inl (cyI, 40, .inl pf)) :: G : va_W) hR8 (gEL (fun l => bud l + mto l - maw l) (fun v => gAcc (fsd (lnf v)) (las (lnf v)) ((va_up rfd VC 1) v) (dya v)) lnf amo orf nv) hel8 H.size _ rfl) (va_cwS 5 hts gL_law_L_total rfl rfl rfl (by decide +kernel) ⟨(Nat.le_of_ble_eq_true rfl), (Nat.le_of_ble_eq_true rfl)⟩) (gk_preS hP hK hD) rfl rfl hl.1 rfl (lv_room (Nat.le_of_ble_eq_true rfl)) dL_law_727 ⟨(by show _ ≤ (706465 : Nat); omega), (by show _ ≤ (6982228 : Nat); omega)⟩) hS (fun q _ h => hF_44 q h) hF_44 (fun r_44 u_44 t_44 H locs ht_44 hvm_44 hw_44 hB_44 hz_44 hk_44 hS => ?_)
      obtain ⟨hP, hD⟩ := gk_back hF_44 hB_44 ht_44
      obtain rfl : r_44 = (gSm (gEL (fun l => bud l + mto l - maw l) (fun v => gAcc (fsd (lnf v)) (las (lnf v)) ((va_up rfd VC 1) v) (dya v)) lnf amo orf nv) nv) := hw_44.trans (pCT_all hM8)
      refine lv_iload hx hb dL_law_730 (lv_at hl 0 rfl) ?_
      refine lv_isub hx hb dL_law_732 ?_
      refine lv_istore (lv' := [(19, .int ((gSm (gEL (fun l => bud l + mto l - maw l) (fun v => gAcc (fsd (lnf v)) (las (lnf v)) ((va_up rfd VC 1) v) (dya v)) lnf amo orf nv) nv) - (gSm (gEL (fun l => bud l + mto l - maw l) (fun v => gAcc (fsd (lnf v)) (las (lnf v)) (rfd v) (dya v)) lnf amo orf nv) nv))), (18, .int (gSm (gEL (fun l => bud l + mto l - maw l) (fun v => gAcc (fsd (lnf v)) (las (lnf v)) (rfd v) (dya v)) lnf amo orf nv) nv)), (17, .int 1), (16, .int 1), (15, .int (nI VC)), (14, .int (nI (Y / 6 % 100 * 5))), (13, .int (nI LN)), (12, .int (nI Y)), (9, .int (nI j)), (0, .ref b), (1, .ref g), (2, .ref xn), (3, .ref xb), (4, .ref xd), (5, .ref xa), (6, .ref xl), (7, .ref xp)]) hx hb dL_law_733 hl (by decide) rfl (fun ls hl => ?_)
      refine lv_aload_n hx hb dL_law_735 rfl (lv_at hl 10 rfl) ?_
      refine lv_iload hx hb dL_law_736 (lv_at hl 2 rfl) ?_
      refine lv_if_eq (tgt := 745) hx hb dL_law_738 (by decide) (fun c => by first | exact absurd c (by decide) | exact absurd (by decide) c) (fun _ => ?_)
      refine lv_iconst (v := 1) hx hb dL_law_741 (by decide) ?_
      refine lv_goto (tgt := 746) hx hb dL_law_742 (by decide) ?_
      refine lv_iload hx hb dL_law_746 (lv_at hl 4 rfl) ?_
      refine lv_iconst (v := 0) hx hb dL_law_748 (by decide) ?_
      refine lv_iconst (v := 0) hx hb dL_law_749 (by decide) ?_
      have hP : va_P D vwCl (([(xn, .inl (cyI, 10, .inl nf)), (xb, .inl (cyI, 36, .inl bf)), (xd, .inl (cyI, 40, .inl df)), (xa, .inl (cyI, 40, .inl af)), (xl, .inl (cyI, 40, .inl lf_43)), (xp, .inl (cyI, 40, .inl pf))] : va_W) ++ G) H := hP
      have hD : va_D A (([(xn, .inl (cyI, 10, .inl nf)), (xb, .inl (cyI, 36, .inl bf)), (xd, .inl (cyI, 40, .inl df)), (xa, .inl (cyI, 40, .inl af)), (xl, .inl (cyI, 40, .inl lf_43)), (xp, .inl (cyI, 40, .inl pf))] : va_W) ++ G) := hD
      have hF_46 := gk_all hD hS hA
      refine va_calli (vx_runSW (As := [.ref g, .int 1, .int (nI VC), .int 0, .int 0]) (rest := []) ⟨hx, hb, hml, hown, hts⟩ (kL_does_refuse l hst D cyI cyZ cyL cyV cyJ gr sh rt ce nl nv am nc cd bud fsd las isB mto maw lno dya amo rfd ord cpa lnf orf g ([(xn, .inl (cyI, 10, .inl nf)), (xb, .inl (cyI, 36, .inl bf)), (xd, .inl (cyI, 40, .inl df)), (xa, .inl (cyI, 40, .inl af)), (xl, .inl (cyI, 40, .inl lf_43)), (xp, .inl (cyI, 40, .inl pf))] : va_W) G hG (nI VC) 0 0 (pA_mk1 (by omega) hVC) H.size _ rfl) (vx_cwSW 5 hts gL_law_L_does rfl rfl rfl (by decide +kernel) ⟨(Nat.le_of_ble_eq_true rfl), (Nat.le_of_ble_eq_true rfl)⟩) (gk_preSN hNC hTF hS hF_46 hP hK hD) rfl rfl hl.1 rfl (lv_room (Nat.le_of_ble_eq_true rfl)) dL_law_750 ⟨(by show _ ≤ (706465 : Nat); omega), (by show _ ≤ (6982228 : Nat); omega)⟩) hS (fun q _ h => hF_46 q h) hF_46 (fun r_46 u_46 t_46 H locs ht_46 hvm_46 hw_46 hB_46 hz_46 hk_46 hS => ?_)
      obtain ⟨hP, hD⟩ := gk_back hF_46 hB_46 ht_46
      have hP : va_P D vwCl ((xn, .inl (cyI, 10, .inl nf)) :: (xb, .inl (cyI, 36, .inl bf)) :: (xd, .inl (cyI, 40, .inl df)) :: (xa, .inl (cyI, 40, .inl af)) :: (xl, .inl (cyI, 40, .inl lf_43)) :: (xp, .inl (cyI, 40, .inl pf)) :: u_46) H := hP
      have hD : va_D A ((xn, .inl (cyI, 10, .inl nf)) :: (xb, .inl (cyI, 36, .inl bf)) :: (xd, .inl (cyI, 40, .inl df)) :: (xa, .inl (cyI, 40, .inl af)) :: (xl, .inl (cyI, 40, .inl lf_43)) :: (xp, .inl (cyI, 40, .inl pf)) :: u_46) := hD
      have hcd_46 := pA_mk2 (rfd := rfd) (z := 1) (nv := nv) (v := VC) (by omega) hVC hr_2
      rcases hw_46 with ⟨hc_46, hr_46, hG_46⟩ | ⟨hc_46, hr_46, hG_46⟩
      · exact absurd (hcd_46.symm.trans hc_46) (by decide)
      · subst hr_46
        have hlfid : lf_43 = lf := by rw [elf_43]; exact pUpId hlf_2
        rw [hlfid] at hP hD
        refine lv_iload hx hb dL_law_753 (lv_at hl 3 rfl) ?_
        refine lv_iload hx hb dL_law_755 (lv_at hl 2 rfl) ?_
        refine lv_icmp_ne (tgt := 765) hx hb dL_law_757 (by decide) (fun c => by first | exact absurd c (by decide) | exact absurd (by decide) c) (fun _ => ?_)
        refine lv_ldc hx hb hown (hts0 (.constant RL 58 (-2000000013)) wq_1_13) dL_law_760 ?_
        refine lv_goto (tgt := 778) hx hb dL_law_762 (by decide) ?_
        refine lv_icmp_ne (tgt := 785) hx hb dL_law_778 (by decide) (fun c => by first | exact absurd c (by decide) | exact absurd (by decide) c) (fun _ => ?_)
        refine lv_iconst (v := 1) hx hb dL_law_781 (by decide) ?_
        refine lv_goto (tgt := 786) hx hb dL_law_782 (by decide) ?_
        refine lv_istore (lv' := [(8, .int 1), (19, .int ((gSm (gEL (fun l => bud l + mto l - maw l) (fun v => gAcc (fsd (lnf v)) (las (lnf v)) ((va_up rfd VC 1) v) (dya v)) lnf amo orf nv) nv) - (gSm (gEL (fun l => bud l + mto l - maw l) (fun v => gAcc (fsd (lnf v)) (las (lnf v)) (rfd v) (dya v)) lnf amo orf nv) nv))), (18, .int (gSm (gEL (fun l => bud l + mto l - maw l) (fun v => gAcc (fsd (lnf v)) (las (lnf v)) (rfd v) (dya v)) lnf amo orf nv) nv)), (17, .int 1), (16, .int 1), (15, .int (nI VC)), (14, .int (nI (Y / 6 % 100 * 5))), (13, .int (nI LN)), (12, .int (nI Y)), (9, .int (nI j)), (0, .ref b), (1, .ref g), (2, .ref xn), (3, .ref xb), (4, .ref xd), (5, .ref xa), (6, .ref xl), (7, .ref xp)]) hx hb dL_law_786 hl (by decide) rfl (fun ls hl => ?_)
        refine lv_goto (tgt := 1317) hx hb dL_law_788 (by decide) ?_
        refine W.widen (k := 400 + 2000 * j + 1000) (n := 2000 + 20000 * j + 10000) (by omega) (by omega) ?_
        exact tl _ _ _ _ _ _ _ _ _ _ _ _ _ _ _ _ _ _ _ _ _ _ _ nf bf df af lf pf u_46 _ _ _ Y hG_46 hR hX hT (by omega) (by omega) hP hD hS (lv_sub hl [0, 8, 9, 10, 11, 12, 13, 14, 15, 16, 17] rfl)
