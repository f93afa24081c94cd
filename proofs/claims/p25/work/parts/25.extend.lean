set_option maxHeartbeats 40000000 in
set_option maxRecDepth 100000 in
theorem pD_extend {p : Program} {l : Launch} {e : Env} {s : State} {m : MethodId} {below : List Frame} {meth : Method} {c : Code} (hst : l.stackTraces = false) {D : va_G} {cyI cyZ cyL cyV cyJ : ClassId} {b L : Nat} {xs : Nat → Int32} (hL : L ≤ 260) (CA : lw_At p s m meth c b L xs) {A : Nat → Prop} (hAd : A = fun q : Nat => s.heap.size ≤ q) (hTF : gTF A s s.heap) (hNC : gNC s) (hK : va_K D vwCl (gTy cyI cyZ cyL cyV cyJ) s) {g xn xb xd xa xl xp : Nat} {j : Nat} (hj : j < 60) (tl : pTail p l e s m below meth c D cyI cyZ cyL cyV cyJ b g xn xb xd xa xl xp A j) {gr sh rt ce : Int32} {nl nv : Nat} {am : Int32} {nc : Nat} {cd : Int32} {bud fsd las isB mto maw lno dya amo rfd ord cpa : Nat → Int32} {lnf orf : Nat → Nat} {nf bf df af lf pf : Nat → Int32} {G : va_W} {H : Heap} {locs : List Loc} {ls : Array Slot} {Y LN : Nat} (hY : Y < 2 ^ 27) (hG : gGP cyI cyL cyV gr sh rt ce nl nv am nc cd bud fsd las isB mto maw lno dya amo rfd ord cpa lnf orf g G) (hR : pRB nl nv gr sh rt ce bud fsd las isB mto maw dya amo rfd lnf nf bf df af lf) (hX : pRX nl am nc cd cpa nf bf pf) (hT : pST nv dya orf) (hLN : LN < nl) (h3 : 3 ≤ nl) (hP : va_P D vwCl ((xn, .inl (cyI, 10, .inl nf)) :: (xb, .inl (cyI, 36, .inl bf)) :: (xd, .inl (cyI, 40, .inl df)) :: (xa, .inl (cyI, 40, .inl af)) :: (xl, .inl (cyI, 40, .inl lf)) :: (xp, .inl (cyI, 40, .inl pf)) :: G) H) (hD : va_D A ((xn, .inl (cyI, 10, .inl nf)) :: (xb, .inl (cyI, 36, .inl bf)) :: (xd, .inl (cyI, 40, .inl df)) :: (xa, .inl (cyI, 40, .inl af)) :: (xl, .inl (cyI, 40, .inl lf)) :: (xp, .inl (cyI, 40, .inl pf)) :: G)) (hS : va_S A s.heap H locs) (hl : lv_has ls 20 [(14, .int (nI (Y / 6 % 100 * 5))), (13, .int (nI LN)), (12, .int (nI Y)), (9, .int (nI j)), (0, .ref b), (1, .ref g), (2, .ref xn), (3, .ref xb), (4, .ref xd), (5, .ref xa), (6, .ref xl), (7, .ref xp)]) : W p l e room_1 s m #[Value.ref b] below meth c H locs (400 + 2000 * j) (2000 + 20000 * j) (lw_Z below #[Value.ref b] s) (F0 m 1059 ls []) := by
  obtain ⟨hx, hb, hr, hml, hown, hts0, hX0, hbl, hlocks, hgv⟩ := CA
  have hts : ∀ w ∈ wsL_law, w.before #[Value.ref b] s = true := fun w h => hts0 w (wsL_law_in w h)
  have hA : ∀ q : Nat, s.heap.size ≤ q → A q := fun q h => by rw [hAd]; exact h
  have hbA : ¬ A b := by rw [hAd]; exact Nat.not_le.mpr hbl
  obtain ⟨⟨hnl, hnv⟩, ⟨hn0, hn1, hn2, hn3, hn5⟩, hbl, hvl⟩ := id hR
  obtain ⟨hn4, hn6, hn7, hn8, hn9, hpf, hbz⟩ := id hX
  have hnc : nc ≤ 40 := hG.1.1.2.2
  have hel := pG_el hG hT
  refine lv_aload_n hx hb dL_law_1059 rfl (lv_at hl 7 rfl) ?_
  refine lv_bipush (v := 6) hx hb dL_law_1060 (by decide) ?_
  refine lv_iload hx hb dL_law_1062 (lv_at hl 1 rfl) ?_
  refine lv_imul hx hb dL_law_1064 ?_
  refine lv_topi (fun y_1 h_1 => ?_)
  obtain rfl : y_1 = (nI (6 * LN)) := h_1.trans (pk_mul 6 LN)
  refine lv_iconst (v := 2) hx hb dL_law_1065 (by decide) ?_
  refine lv_iadd hx hb dL_law_1066 ?_
  refine lv_topi (fun y_2 h_2 => ?_)
  obtain rfl : y_2 = (nI ((6 * LN) + 2)) := h_2.trans (nI_add (6 * LN) 2)
  refine gk_iald (i := ((6 * LN) + 2)) hx hb hK hP 1 0 rfl rfl (by omega) (by decide) dL_law_1067 ?_
  rw [(hbl LN (by omega)).2.2.1]
  refine lv_istore (lv' := [(15, .int (las LN)), (14, .int (nI (Y / 6 % 100 * 5))), (13, .int (nI LN)), (12, .int (nI Y)), (9, .int (nI j)), (0, .ref b), (1, .ref g), (2, .ref xn), (3, .ref xb), (4, .ref xd), (5, .ref xa), (6, .ref xl), (7, .ref xp)]) hx hb dL_law_1068 hl (by decide) rfl (fun ls hl => ?_)
  refine lv_aload_n hx hb dL_law_1070 rfl (lv_at hl 8 rfl) ?_
  refine lv_bipush (v := 6) hx hb dL_law_1071 (by decide) ?_
  refine lv_iload hx hb dL_law_1073 (lv_at hl 2 rfl) ?_
  refine lv_imul hx hb dL_law_1075 ?_
  refine lv_topi (fun y_3 h_3 => ?_)
  obtain rfl : y_3 = (nI (6 * LN)) := h_3.trans (pk_mul 6 LN)
  refine lv_iconst (v := 2) hx hb dL_law_1076 (by decide) ?_
  refine lv_iadd hx hb dL_law_1077 ?_
  refine lv_topi (fun y_4 h_4 => ?_)
  obtain rfl : y_4 = (nI ((6 * LN) + 2)) := h_4.trans (nI_add (6 * LN) 2)
  refine lv_iload hx hb dL_law_1078 (lv_at hl 1 rfl) ?_
  refine lv_iload hx hb dL_law_1080 (lv_at hl 0 rfl) ?_
  refine lv_icmp_lt (tgt := 1090) hx hb dL_law_1082 (by decide) (fun c_5 => ?_) (fun c_5 => ?_)
  · refine lv_iload hx hb dL_law_1090 (lv_at hl 0 rfl) ?_
    refine gk_iast (i := ((6 * LN) + 2)) hx hb hK hP hD hS 1 0 rfl rfl (by omega) (by decide) dL_law_1092 (fun H locs hP hD hS => ?_)
    have hP : va_P D vwCl ((xn, .inl (cyI, 10, .inl nf)) :: (xb, .inl (cyI, 36, .inl (va_up bf ((6 * LN) + 2) (las LN)))) :: (xd, .inl (cyI, 40, .inl df)) :: (xa, .inl (cyI, 40, .inl af)) :: (xl, .inl (cyI, 40, .inl lf)) :: (xp, .inl (cyI, 40, .inl pf)) :: G) H := hP
    have hD : va_D A ((xn, .inl (cyI, 10, .inl nf)) :: (xb, .inl (cyI, 36, .inl (va_up bf ((6 * LN) + 2) (las LN)))) :: (xd, .inl (cyI, 40, .inl df)) :: (xa, .inl (cyI, 40, .inl af)) :: (xl, .inl (cyI, 40, .inl lf)) :: (xp, .inl (cyI, 40, .inl pf)) :: G) := hD
    obtain ⟨bf_6, ebf_6⟩ : ∃ z, z = (va_up bf ((6 * LN) + 2) (las LN)) := ⟨_, rfl⟩
    rw [← ebf_6] at hP hD
    refine lv_aload_n hx hb dL_law_1093 rfl (lv_at hl 6 rfl) ?_
    refine lv_iconst (v := 5) hx hb dL_law_1094 (by decide) ?_
    refine lv_iload hx hb dL_law_1095 (lv_at hl 2 rfl) ?_
    refine lv_iload hx hb dL_law_1097 (lv_at hl 1 rfl) ?_
    refine lv_iconst (v := 0) hx hb dL_law_1099 (by decide) ?_
    have hP : va_P D vwCl (([(xn, .inl (cyI, 10, .inl nf)), (xb, .inl (cyI, 36, .inl bf_6)), (xd, .inl (cyI, 40, .inl df)), (xa, .inl (cyI, 40, .inl af)), (xl, .inl (cyI, 40, .inl lf)), (xp, .inl (cyI, 40, .inl pf))] : va_W) ++ G) H := hP
    have hD : va_D A (([(xn, .inl (cyI, 10, .inl nf)), (xb, .inl (cyI, 36, .inl bf_6)), (xd, .inl (cyI, 40, .inl df)), (xa, .inl (cyI, 40, .inl af)), (xl, .inl (cyI, 40, .inl lf)), (xp, .inl (cyI, 40, .inl pf))] : va_W) ++ G) := hD
    have hF_7 := gk_all hD hS hA
    refine va_calli (vx_runSW (As := [.ref g, .int 5, .int (nI LN), .int (nI (Y / 6 % 100 * 5)), .int 0]) (rest := []) ⟨hx, hb, hml, hown, hts⟩ (kL_does_extend l hst D cyI cyZ cyL cyV cyJ gr sh rt ce nl nv am nc cd bud fsd las isB mto maw lno dya amo rfd ord cpa lnf orf g ([(xn, .inl (cyI, 10, .inl nf)), (xb, .inl (cyI, 36, .inl bf_6)), (xd, .inl (cyI, 40, .inl df)), (xa, .inl (cyI, 40, .inl af)), (xl, .inl (cyI, 40, .inl lf)), (xp, .inl (cyI, 40, .inl pf))] : va_W) G hG (nI LN) (nI (Y / 6 % 100 * 5)) 0 (pA_ex1 (by omega) hLN) H.size _ rfl) (vx_cwSW 5 hts gL_law_L_does rfl rfl rfl (by decide +kernel) ⟨(Nat.le_of_ble_eq_true rfl), (Nat.le_of_ble_eq_true rfl)⟩) (gk_preSN hNC hTF hS hF_7 hP hK hD) rfl rfl hl.1 rfl (lv_room (Nat.le_of_ble_eq_true rfl)) dL_law_1100 ⟨(by show _ ≤ (706465 : Nat); omega), (by show _ ≤ (6982228 : Nat); omega)⟩) hS (fun q _ h => hF_7 q h) hF_7 (fun r_7 u_7 t_7 H locs ht_7 hvm_7 hw_7 hB_7 hz_7 hk_7 hS => ?_)
    obtain ⟨hP, hD⟩ := gk_back hF_7 hB_7 ht_7
    have hP : va_P D vwCl ((xn, .inl (cyI, 10, .inl nf)) :: (xb, .inl (cyI, 36, .inl bf_6)) :: (xd, .inl (cyI, 40, .inl df)) :: (xa, .inl (cyI, 40, .inl af)) :: (xl, .inl (cyI, 40, .inl lf)) :: (xp, .inl (cyI, 40, .inl pf)) :: u_7) H := hP
    have hD : va_D A ((xn, .inl (cyI, 10, .inl nf)) :: (xb, .inl (cyI, 36, .inl bf_6)) :: (xd, .inl (cyI, 40, .inl df)) :: (xa, .inl (cyI, 40, .inl af)) :: (xl, .inl (cyI, 40, .inl lf)) :: (xp, .inl (cyI, 40, .inl pf)) :: u_7) := hD
    have hcd_7 := pA_ex2 (las := las) (nl := nl) (i := LN) (D := (Y / 6 % 100 * 5)) (by omega) hLN c_5
    rcases hw_7 with ⟨hc_7, hr_7, hG_7⟩ | ⟨hc_7, hr_7, hG_7⟩
    · exact absurd (hcd_7.symm.trans hc_7) (by decide)
    · subst hr_7
      have hid : bf_6 = bf := by rw [ebf_6]; exact pUpId (hbl LN hLN).2.2.1
      rw [hid] at hP hD
      refine lv_iload hx hb dL_law_1103 (lv_at hl 1 rfl) ?_
      refine lv_iload hx hb dL_law_1105 (lv_at hl 0 rfl) ?_
      refine lv_icmp_lt (tgt := 1115) hx hb dL_law_1107 (by decide) (fun _ => ?_) (fun c9 => absurd c_5 c9)
      refine lv_ldc hx hb hown (hts0 (.constant RL 55 (-2000000012)) wq_1_12) dL_law_1115 ?_
      refine lv_icmp_ne (tgt := 1124) hx hb dL_law_1117 (by decide) (fun c => by first | exact absurd c (by decide) | exact absurd (by decide) c) (fun _ => ?_)
      refine lv_iconst (v := 1) hx hb dL_law_1120 (by decide) ?_
      refine lv_goto (tgt := 1125) hx hb dL_law_1121 (by decide) ?_
      refine lv_istore (lv' := [(8, .int 1), (15, .int (las LN)), (14, .int (nI (Y / 6 % 100 * 5))), (13, .int (nI LN)), (12, .int (nI Y)), (9, .int (nI j)), (0, .ref b), (1, .ref g), (2, .ref xn), (3, .ref xb), (4, .ref xd), (5, .ref xa), (6, .ref xl), (7, .ref xp)]) hx hb dL_law_1125 hl (by decide) rfl (fun ls hl => ?_)
      refine lv_goto (tgt := 1317) hx hb dL_law_1127 (by decide) ?_
      refine W.widen (k := 400 + 2000 * j + 1000) (n := 2000 + 20000 * j + 10000) (by omega) (by omega) ?_
      exact tl _ _ _ _ _ _ _ _ _ _ _ _ _ _ _ _ _ _ _ _ _ _ _ nf bf df af lf pf u_7 _ _ _ Y hG_7 hR hX hT (by omega) (by omega) hP hD hS (lv_sub hl [0, 4, 5, 6, 7, 8, 9, 10, 11, 12, 13] rfl)
  · refine lv_iload hx hb dL_law_1085 (lv_at hl 1 rfl) ?_
    refine lv_goto (tgt := 1092) hx hb dL_law_1087 (by decide) ?_
    refine gk_iast (i := ((6 * LN) + 2)) hx hb hK hP hD hS 1 0 rfl rfl (by omega) (by decide) dL_law_1092 (fun H locs hP hD hS => ?_)
    have hP : va_P D vwCl ((xn, .inl (cyI, 10, .inl nf)) :: (xb, .inl (cyI, 36, .inl (va_up bf ((6 * LN) + 2) (nI (Y / 6 % 100 * 5))))) :: (xd, .inl (cyI, 40, .inl df)) :: (xa, .inl (cyI, 40, .inl af)) :: (xl, .inl (cyI, 40, .inl lf)) :: (xp, .inl (cyI, 40, .inl pf)) :: G) H := hP
    have hD : va_D A ((xn, .inl (cyI, 10, .inl nf)) :: (xb, .inl (cyI, 36, .inl (va_up bf ((6 * LN) + 2) (nI (Y / 6 % 100 * 5))))) :: (xd, .inl (cyI, 40, .inl df)) :: (xa, .inl (cyI, 40, .inl af)) :: (xl, .inl (cyI, 40, .inl lf)) :: (xp, .inl (cyI, 40, .inl pf)) :: G) := hD
    obtain ⟨bf_9, ebf_9⟩ : ∃ z, z = (va_up bf ((6 * LN) + 2) (nI (Y / 6 % 100 * 5))) := ⟨_, rfl⟩
    rw [← ebf_9] at hP hD
    refine lv_aload_n hx hb dL_law_1093 rfl (lv_at hl 6 rfl) ?_
    refine lv_iconst (v := 5) hx hb dL_law_1094 (by decide) ?_
    refine lv_iload hx hb dL_law_1095 (lv_at hl 2 rfl) ?_
    refine lv_iload hx hb dL_law_1097 (lv_at hl 1 rfl) ?_
    refine lv_iconst (v := 0) hx hb dL_law_1099 (by decide) ?_
    have hP : va_P D vwCl (([(xn, .inl (cyI, 10, .inl nf)), (xb, .inl (cyI, 36, .inl bf_9)), (xd, .inl (cyI, 40, .inl df)), (xa, .inl (cyI, 40, .inl af)), (xl, .inl (cyI, 40, .inl lf)), (xp, .inl (cyI, 40, .inl pf))] : va_W) ++ G) H := hP
    have hD : va_D A (([(xn, .inl (cyI, 10, .inl nf)), (xb, .inl (cyI, 36, .inl bf_9)), (xd, .inl (cyI, 40, .inl df)), (xa, .inl (cyI, 40, .inl af)), (xl, .inl (cyI, 40, .inl lf)), (xp, .inl (cyI, 40, .inl pf))] : va_W) ++ G) := hD
    have hF_10 := gk_all hD hS hA
    refine va_calli (vx_runSW (As := [.ref g, .int 5, .int (nI LN), .int (nI (Y / 6 % 100 * 5)), .int 0]) (rest := []) ⟨hx, hb, hml, hown, hts⟩ (kL_does_extend l hst D cyI cyZ cyL cyV cyJ gr sh rt ce nl nv am nc cd bud fsd las isB mto maw lno dya amo rfd ord cpa lnf orf g ([(xn, .inl (cyI, 10, .inl nf)), (xb, .inl (cyI, 36, .inl bf_9)), (xd, .inl (cyI, 40, .inl df)), (xa, .inl (cyI, 40, .inl af)), (xl, .inl (cyI, 40, .inl lf)), (xp, .inl (cyI, 40, .inl pf))] : va_W) G hG (nI LN) (nI (Y / 6 % 100 * 5)) 0 (pA_ex1 (by omega) hLN) H.size _ rfl) (vx_cwSW 5 hts gL_law_L_does rfl rfl rfl (by decide +kernel) ⟨(Nat.le_of_ble_eq_true rfl), (Nat.le_of_ble_eq_true rfl)⟩) (gk_preSN hNC hTF hS hF_10 hP hK hD) rfl rfl hl.1 rfl (lv_room (Nat.le_of_ble_eq_true rfl)) dL_law_1100 ⟨(by show _ ≤ (706465 : Nat); omega), (by show _ ≤ (6982228 : Nat); omega)⟩) hS (fun q _ h => hF_10 q h) hF_10 (fun r_10 u_10 t_10 H locs ht_10 hvm_10 hw_10 hB_10 hz_10 hk_10 hS => ?_)
    obtain ⟨hP, hD⟩ := gk_back hF_10 hB_10 ht_10
    have hP : va_P D vwCl ((xn, .inl (cyI, 10, .inl nf)) :: (xb, .inl (cyI, 36, .inl bf_9)) :: (xd, .inl (cyI, 40, .inl df)) :: (xa, .inl (cyI, 40, .inl af)) :: (xl, .inl (cyI, 40, .inl lf)) :: (xp, .inl (cyI, 40, .inl pf)) :: u_10) H := hP
    have hD : va_D A ((xn, .inl (cyI, 10, .inl nf)) :: (xb, .inl (cyI, 36, .inl bf_9)) :: (xd, .inl (cyI, 40, .inl df)) :: (xa, .inl (cyI, 40, .inl af)) :: (xl, .inl (cyI, 40, .inl lf)) :: (xp, .inl (cyI, 40, .inl pf)) :: u_10) := hD
    have hcd_10 := pA_ex0 (las := las) (nl := nl) (i := LN) (D := (Y / 6 % 100 * 5)) (by omega) hLN (by omega) c_5
    rcases hw_10 with ⟨hc_10, hr_10, hG_10⟩ | ⟨hc_10, hr_10, hG_10⟩
    · rw [show gIxn (nI LN) = LN from nI_clamp (by omega)] at hr_10 hG_10
      subst hr_10
      obtain ⟨hR9, hX9⟩ := pR_ext hR hX hLN ebf_9
      refine lv_iload hx hb dL_law_1103 (lv_at hl 1 rfl) ?_
      refine lv_iload hx hb dL_law_1105 (lv_at hl 0 rfl) ?_
      refine lv_icmp_lt (tgt := 1115) hx hb dL_law_1107 (by decide) (fun c9 => absurd c9 c_5) (fun _ => ?_)
      refine lv_iload hx hb dL_law_1110 (lv_at hl 0 rfl) ?_
      refine lv_goto (tgt := 1117) hx hb dL_law_1112 (by decide) ?_
      refine lv_icmp_ne (tgt := 1124) hx hb dL_law_1117 (by decide) (fun c9 => absurd rfl c9) (fun _ => ?_)
      refine lv_iconst (v := 1) hx hb dL_law_1120 (by decide) ?_
      refine lv_goto (tgt := 1125) hx hb dL_law_1121 (by decide) ?_
      refine lv_istore (lv' := [(8, .int 1), (15, .int (las LN)), (14, .int (nI (Y / 6 % 100 * 5))), (13, .int (nI LN)), (12, .int (nI Y)), (9, .int (nI j)), (0, .ref b), (1, .ref g), (2, .ref xn), (3, .ref xb), (4, .ref xd), (5, .ref xa), (6, .ref xl), (7, .ref xp)]) hx hb dL_law_1125 hl (by decide) rfl (fun ls hl => ?_)
      refine lv_goto (tgt := 1317) hx hb dL_law_1127 (by decide) ?_
      refine W.widen (k := 400 + 2000 * j + 1000) (n := 2000 + 20000 * j + 10000) (by omega) (by omega) ?_
      exact tl _ _ _ _ _ _ _ _ _ _ _ _ _ _ _ _ _ _ _ _ _ _ _ nf bf_9 df af lf pf u_10 _ _ _ Y hG_10 hR9 hX9 hT (by omega) (by omega) hP hD hS (lv_sub hl [0, 4, 5, 6, 7, 8, 9, 10, 11, 12, 13] rfl)
    · exact absurd (hcd_10.symm.trans hc_10) (by decide)
