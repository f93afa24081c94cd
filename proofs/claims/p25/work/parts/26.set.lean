set_option maxHeartbeats 40000000 in
set_option maxRecDepth 100000 in
theorem pD_set {p : Program} {l : Launch} {e : Env} {s : State} {m : MethodId} {below : List Frame} {meth : Method} {c : Code} (hst : l.stackTraces = false) {D : va_G} {cyI cyZ cyL cyV cyJ : ClassId} {b L : Nat} {xs : Nat → Int32} (hL : L ≤ 260) (CA : lw_At p s m meth c b L xs) {A : Nat → Prop} (hAd : A = fun q : Nat => s.heap.size ≤ q) (hTF : gTF A s s.heap) (hNC : gNC s) (hK : va_K D vwCl (gTy cyI cyZ cyL cyV cyJ) s) {g xn xb xd xa xl xp : Nat} {j : Nat} (hj : j < 60) (tl : pTail p l e s m below meth c D cyI cyZ cyL cyV cyJ b g xn xb xd xa xl xp A j) {gr sh rt ce : Int32} {nl nv : Nat} {am : Int32} {nc : Nat} {cd : Int32} {bud fsd las isB mto maw lno dya amo rfd ord cpa : Nat → Int32} {lnf orf : Nat → Nat} {nf bf df af lf pf : Nat → Int32} {G : va_W} {H : Heap} {locs : List Loc} {ls : Array Slot} {Y LN : Nat} (hY : Y < 2 ^ 27) (hG : gGP cyI cyL cyV gr sh rt ce nl nv am nc cd bud fsd las isB mto maw lno dya amo rfd ord cpa lnf orf g G) (hR : pRB nl nv gr sh rt ce bud fsd las isB mto maw dya amo rfd lnf nf bf df af lf) (hX : pRX nl am nc cd cpa nf bf pf) (hT : pST nv dya orf) (h3 : 3 ≤ nl) (hP : va_P D vwCl ((xn, .inl (cyI, 10, .inl nf)) :: (xb, .inl (cyI, 36, .inl bf)) :: (xd, .inl (cyI, 40, .inl df)) :: (xa, .inl (cyI, 40, .inl af)) :: (xl, .inl (cyI, 40, .inl lf)) :: (xp, .inl (cyI, 40, .inl pf)) :: G) H) (hD : va_D A ((xn, .inl (cyI, 10, .inl nf)) :: (xb, .inl (cyI, 36, .inl bf)) :: (xd, .inl (cyI, 40, .inl df)) :: (xa, .inl (cyI, 40, .inl af)) :: (xl, .inl (cyI, 40, .inl lf)) :: (xp, .inl (cyI, 40, .inl pf)) :: G)) (hS : va_S A s.heap H locs) (hl : lv_has ls 20 [(14, .int (nI (Y / 6 % 100 * 5))), (13, .int (nI LN)), (12, .int (nI Y)), (9, .int (nI j)), (0, .ref b), (1, .ref g), (2, .ref xn), (3, .ref xb), (4, .ref xd), (5, .ref xa), (6, .ref xl), (7, .ref xp)]) : W p l e room_1 s m #[Value.ref b] below meth c H locs (400 + 2000 * j) (2000 + 20000 * j) (lw_Z below #[Value.ref b] s) (F0 m 1130 ls []) := by
  obtain ⟨hx, hb, hr, hml, hown, hts0, hX0, hbl, hlocks, hgv⟩ := CA
  have hts : ∀ w ∈ wsL_law, w.before #[Value.ref b] s = true := fun w h => hts0 w (wsL_law_in w h)
  have hA : ∀ q : Nat, s.heap.size ≤ q → A q := fun q h => by rw [hAd]; exact h
  have hbA : ¬ A b := by rw [hAd]; exact Nat.not_le.mpr hbl
  obtain ⟨⟨hnl, hnv⟩, ⟨hn0, hn1, hn2, hn3, hn5⟩, hbl, hvl⟩ := id hR
  obtain ⟨hn4, hn6, hn7, hn8, hn9, hpf, hbz⟩ := id hX
  have hnc : nc ≤ 40 := hG.1.1.2.2
  have hel := pG_el hG hT
  refine lv_aload_n hx hb dL_law_1130 rfl (lv_at hl 6 rfl) ?_
  refine lv_bipush (v := 7) hx hb dL_law_1131 (by decide) ?_
  refine gk_iald (i := 7) hx hb hK hP 0 0 rfl rfl (by omega) (by decide) dL_law_1133 ?_
  rw [hn7]
  refine lv_if_ne (tgt := 1141) hx hb dL_law_1134 (by decide) (fun c_1 => ?_) (fun c_1 => ?_)
  · have n_1 : ¬ nc = 0 := pf_neq (a := nc) (b := 0) (by omega) (by omega) c_1
    refine lv_iconst (v := 0) hx hb dL_law_1141 (by decide) ?_
    refine lv_istore (lv' := [(15, .int 0), (14, .int (nI (Y / 6 % 100 * 5))), (13, .int (nI LN)), (12, .int (nI Y)), (9, .int (nI j)), (0, .ref b), (1, .ref g), (2, .ref xn), (3, .ref xb), (4, .ref xd), (5, .ref xa), (6, .ref xl), (7, .ref xp)]) hx hb dL_law_1142 hl (by decide) rfl (fun ls hl => ?_)
    have cutG : ∀ (GR : Nat) (hGR : GR ≤ 100000000) (ls : Array Slot), lv_has ls 20 [(15, .int 0), (14, .int (nI (Y / 6 % 100 * 5))), (13, .int (nI LN)), (12, .int (nI Y)), (9, .int (nI j)), (0, .ref b), (1, .ref g), (2, .ref xn), (3, .ref xb), (4, .ref xd), (5, .ref xa), (6, .ref xl), (7, .ref xp)] → W p l e room_1 s m #[Value.ref b] below meth c H locs (400 + 2000 * j) (2000 + 20000 * j) (lw_Z below #[Value.ref b] s) (F0 m 1168 ls [.int (nI GR)]) := by
      intro GR hGR ls hl
      refine lv_istore (lv' := [(16, .int (nI GR)), (15, .int 0), (14, .int (nI (Y / 6 % 100 * 5))), (13, .int (nI LN)), (12, .int (nI Y)), (9, .int (nI j)), (0, .ref b), (1, .ref g), (2, .ref xn), (3, .ref xb), (4, .ref xd), (5, .ref xa), (6, .ref xl), (7, .ref xp)]) hx hb dL_law_1168 hl (by decide) rfl (fun ls hl => ?_)
      have cutS : ∀ (SH : Nat) (hS1 : 1 ≤ SH) (hS2 : SH ≤ 100) (ls : Array Slot), lv_has ls 20 [(16, .int (nI GR)), (15, .int 0), (14, .int (nI (Y / 6 % 100 * 5))), (13, .int (nI LN)), (12, .int (nI Y)), (9, .int (nI j)), (0, .ref b), (1, .ref g), (2, .ref xn), (3, .ref xb), (4, .ref xd), (5, .ref xa), (6, .ref xl), (7, .ref xp)] → W p l e room_1 s m #[Value.ref b] below meth c H locs (400 + 2000 * j) (2000 + 20000 * j) (lw_Z below #[Value.ref b] s) (F0 m 1192 ls [.int (nI SH)]) := by
        intro SH hS1 hS2 ls hl
        refine lv_istore (lv' := [(17, .int (nI SH)), (16, .int (nI GR)), (15, .int 0), (14, .int (nI (Y / 6 % 100 * 5))), (13, .int (nI LN)), (12, .int (nI Y)), (9, .int (nI j)), (0, .ref b), (1, .ref g), (2, .ref xn), (3, .ref xb), (4, .ref xd), (5, .ref xa), (6, .ref xl), (7, .ref xp)]) hx hb dL_law_1192 hl (by decide) rfl (fun ls hl => ?_)
        have cutC : ∀ (CE : Nat) (hCE : CE ≤ 100000000) (ls : Array Slot), lv_has ls 20 [(17, .int (nI SH)), (16, .int (nI GR)), (15, .int 0), (14, .int (nI (Y / 6 % 100 * 5))), (13, .int (nI LN)), (12, .int (nI Y)), (9, .int (nI j)), (0, .ref b), (1, .ref g), (2, .ref xn), (3, .ref xb), (4, .ref xd), (5, .ref xa), (6, .ref xl), (7, .ref xp)] → W p l e room_1 s m #[Value.ref b] below meth c H locs (400 + 2000 * j) (2000 + 20000 * j) (lw_Z below #[Value.ref b] s) (F0 m 1215 ls [.int (nI CE)]) := by
          intro CE hCE ls hl
          refine lv_istore (lv' := [(18, .int (nI CE)), (17, .int (nI SH)), (16, .int (nI GR)), (15, .int 0), (14, .int (nI (Y / 6 % 100 * 5))), (13, .int (nI LN)), (12, .int (nI Y)), (9, .int (nI j)), (0, .ref b), (1, .ref g), (2, .ref xn), (3, .ref xb), (4, .ref xd), (5, .ref xa), (6, .ref xl), (7, .ref xp)]) hx hb dL_law_1215 hl (by decide) rfl (fun ls hl => ?_)
          refine lv_aload_n hx hb dL_law_1217 rfl (lv_at hl 9 rfl) ?_
          refine lv_iload hx hb dL_law_1218 (lv_at hl 2 rfl) ?_
          refine lv_iload hx hb dL_law_1220 (lv_at hl 1 rfl) ?_
          refine lv_iload hx hb dL_law_1222 (lv_at hl 6 rfl) ?_
          refine lv_bipush (v := 21) hx hb dL_law_1224 (by decide) ?_
          refine lv_idiv hx hb dL_law_1226 (by decide) ?_
          refine lv_topi (fun y_2 h_2 => ?_)
          obtain rfl : y_2 = (nI (Y / 21)) := h_2.trans (pk_div (a := Y) (d := 21) (by omega) (by omega) (by omega))
          refine lv_bipush (v := 101) hx hb dL_law_1227 (by decide) ?_
          refine lv_irem hx hb dL_law_1229 (by decide) ?_
          refine lv_topi (fun y_3 h_3 => ?_)
          obtain rfl : y_3 = (nI ((Y / 21) % 101)) := h_3.trans (pk_rem (a := (Y / 21)) (d := 101) (by omega) (by omega) (by omega))
          refine lv_iload hx hb dL_law_1230 (lv_at hl 0 rfl) ?_
          have hP : va_P D vwCl (([(xn, .inl (cyI, 10, .inl nf)), (xb, .inl (cyI, 36, .inl bf)), (xd, .inl (cyI, 40, .inl df)), (xa, .inl (cyI, 40, .inl af)), (xl, .inl (cyI, 40, .inl lf)), (xp, .inl (cyI, 40, .inl pf))] : va_W) ++ G) H := hP
          have hD : va_D A (([(xn, .inl (cyI, 10, .inl nf)), (xb, .inl (cyI, 36, .inl bf)), (xd, .inl (cyI, 40, .inl df)), (xa, .inl (cyI, 40, .inl af)), (xl, .inl (cyI, 40, .inl lf)), (xp, .inl (cyI, 40, .inl pf))] : va_W) ++ G) := hD
          have hF_4 := gk_all hD hS hA
          refine va_calli (vx_runSW (As := [.ref g, .int (nI GR), .int (nI SH), .int (nI ((Y / 21) % 101)), .int (nI CE)]) (rest := []) ⟨hx, hb, hml, hown, hts⟩ (kL_isSet l hst D cyI cyZ cyL cyV cyJ gr sh rt ce nl nv am nc cd bud fsd las isB mto maw lno dya amo rfd ord cpa lnf orf g ([(xn, .inl (cyI, 10, .inl nf)), (xb, .inl (cyI, 36, .inl bf)), (xd, .inl (cyI, 40, .inl df)), (xa, .inl (cyI, 40, .inl af)), (xl, .inl (cyI, 40, .inl lf)), (xp, .inl (cyI, 40, .inl pf))] : va_W) G hG (nI GR) (nI SH) (nI ((Y / 21) % 101)) (nI CE) (by rw [(pA_st (nc := nc) (a := GR) (b := SH) (c := (Y / 21 % 101)) (d := CE) hGR ⟨hS1, hS2⟩ (by omega) hCE)]; split <;> decide) H.size _ rfl) (vx_cwSW 5 hts gL_law_L_isSet rfl rfl rfl (by decide +kernel) ⟨(Nat.le_of_ble_eq_true rfl), (Nat.le_of_ble_eq_true rfl)⟩) (gk_preSN hNC hTF hS hF_4 hP hK hD) rfl rfl hl.1 rfl (lv_room (Nat.le_of_ble_eq_true rfl)) dL_law_1232 ⟨(by show _ ≤ (706465 : Nat); omega), (by show _ ≤ (6982228 : Nat); omega)⟩) hS (fun q _ h => hF_4 q h) hF_4 (fun r_4 u_4 t_4 H locs ht_4 hvm_4 hw_4 hB_4 hz_4 hk_4 hS => ?_)
          obtain ⟨hP, hD⟩ := gk_back hF_4 hB_4 ht_4
          have hP : va_P D vwCl ((xn, .inl (cyI, 10, .inl nf)) :: (xb, .inl (cyI, 36, .inl bf)) :: (xd, .inl (cyI, 40, .inl df)) :: (xa, .inl (cyI, 40, .inl af)) :: (xl, .inl (cyI, 40, .inl lf)) :: (xp, .inl (cyI, 40, .inl pf)) :: u_4) H := hP
          have hD : va_D A ((xn, .inl (cyI, 10, .inl nf)) :: (xb, .inl (cyI, 36, .inl bf)) :: (xd, .inl (cyI, 40, .inl df)) :: (xa, .inl (cyI, 40, .inl af)) :: (xl, .inl (cyI, 40, .inl lf)) :: (xp, .inl (cyI, 40, .inl pf)) :: u_4) := hD
          have hcd_4 := (pA_st (nc := nc) (a := GR) (b := SH) (c := (Y / 21 % 101)) (d := CE) hGR ⟨hS1, hS2⟩ (by omega) hCE).trans (if_neg n_1)
          rcases hw_4 with ⟨hc_4, hr_4, hG_4⟩ | ⟨hc_4, hr_4, hG_4⟩
          · exact absurd (hcd_4.symm.trans hc_4) (by decide)
          · subst hr_4
            refine lv_iload hx hb dL_law_1235 (lv_at hl 3 rfl) ?_
            refine lv_icmp_ne (tgt := 1244) hx hb dL_law_1237 (by decide) (fun c => by first | exact absurd c (by decide) | exact absurd (by decide) c) (fun _ => ?_)
            refine lv_iconst (v := 1) hx hb dL_law_1240 (by decide) ?_
            refine lv_goto (tgt := 1245) hx hb dL_law_1241 (by decide) ?_
            refine lv_istore (lv' := [(8, .int 1), (18, .int (nI CE)), (17, .int (nI SH)), (16, .int (nI GR)), (15, .int 0), (14, .int (nI (Y / 6 % 100 * 5))), (13, .int (nI LN)), (12, .int (nI Y)), (9, .int (nI j)), (0, .ref b), (1, .ref g), (2, .ref xn), (3, .ref xb), (4, .ref xd), (5, .ref xa), (6, .ref xl), (7, .ref xp)]) hx hb dL_law_1245 hl (by decide) rfl (fun ls hl => ?_)
            refine lv_aload_n hx hb dL_law_1247 rfl (lv_at hl 11 rfl) ?_
            refine lv_iconst (v := 0) hx hb dL_law_1248 (by decide) ?_
            refine lv_iload hx hb dL_law_1249 (lv_at hl 4 rfl) ?_
            refine lv_if_eq (tgt := 1259) hx hb dL_law_1251 (by decide) (fun _ => ?_) (fun c => by first | exact absurd c (by decide) | exact absurd (by decide) c)
            refine lv_aload_n hx hb dL_law_1259 rfl (lv_at hl 11 rfl) ?_
            refine lv_iconst (v := 0) hx hb dL_law_1260 (by decide) ?_
            refine gk_iald (i := 0) hx hb hK hP 0 0 rfl rfl (by omega) (by decide) dL_law_1261 ?_
            rw [hn0]
            refine gk_iast (i := 0) hx hb hK hP hD hS 0 0 rfl rfl (by omega) (by decide) dL_law_1262 (fun H locs hP hD hS => ?_)
            have hP : va_P D vwCl ((xn, .inl (cyI, 10, .inl (va_up nf 0 gr))) :: (xb, .inl (cyI, 36, .inl bf)) :: (xd, .inl (cyI, 40, .inl df)) :: (xa, .inl (cyI, 40, .inl af)) :: (xl, .inl (cyI, 40, .inl lf)) :: (xp, .inl (cyI, 40, .inl pf)) :: u_4) H := hP
            have hD : va_D A ((xn, .inl (cyI, 10, .inl (va_up nf 0 gr))) :: (xb, .inl (cyI, 36, .inl bf)) :: (xd, .inl (cyI, 40, .inl df)) :: (xa, .inl (cyI, 40, .inl af)) :: (xl, .inl (cyI, 40, .inl lf)) :: (xp, .inl (cyI, 40, .inl pf)) :: u_4) := hD
            obtain ⟨nf_7, enf_7⟩ : ∃ z, z = (va_up nf 0 gr) := ⟨_, rfl⟩
            rw [← enf_7] at hP hD
            refine lv_aload_n hx hb dL_law_1263 rfl (lv_at hl 11 rfl) ?_
            refine lv_iconst (v := 1) hx hb dL_law_1264 (by decide) ?_
            refine lv_iload hx hb dL_law_1265 (lv_at hl 4 rfl) ?_
            refine lv_if_eq (tgt := 1275) hx hb dL_law_1267 (by decide) (fun _ => ?_) (fun c => by first | exact absurd c (by decide) | exact absurd (by decide) c)
            refine lv_aload_n hx hb dL_law_1275 rfl (lv_at hl 11 rfl) ?_
            refine lv_iconst (v := 1) hx hb dL_law_1276 (by decide) ?_
            refine gk_iald (i := 1) hx hb hK hP 0 0 rfl rfl (by omega) (by decide) dL_law_1277 ?_
            rw [show nf_7 1 = nf 1 from by rw [enf_7, va_up_ne _ _ (by omega)]]
            rw [hn1]
            refine gk_iast (i := 1) hx hb hK hP hD hS 0 0 rfl rfl (by omega) (by decide) dL_law_1278 (fun H locs hP hD hS => ?_)
            have hP : va_P D vwCl ((xn, .inl (cyI, 10, .inl (va_up nf_7 1 sh))) :: (xb, .inl (cyI, 36, .inl bf)) :: (xd, .inl (cyI, 40, .inl df)) :: (xa, .inl (cyI, 40, .inl af)) :: (xl, .inl (cyI, 40, .inl lf)) :: (xp, .inl (cyI, 40, .inl pf)) :: u_4) H := hP
            have hD : va_D A ((xn, .inl (cyI, 10, .inl (va_up nf_7 1 sh))) :: (xb, .inl (cyI, 36, .inl bf)) :: (xd, .inl (cyI, 40, .inl df)) :: (xa, .inl (cyI, 40, .inl af)) :: (xl, .inl (cyI, 40, .inl lf)) :: (xp, .inl (cyI, 40, .inl pf)) :: u_4) := hD
            obtain ⟨nf_9, enf_9⟩ : ∃ z, z = (va_up nf_7 1 sh) := ⟨_, rfl⟩
            rw [← enf_9] at hP hD
            refine lv_aload_n hx hb dL_law_1279 rfl (lv_at hl 11 rfl) ?_
            refine lv_iconst (v := 2) hx hb dL_law_1280 (by decide) ?_
            refine lv_iload hx hb dL_law_1281 (lv_at hl 4 rfl) ?_
            refine lv_if_eq (tgt := 1297) hx hb dL_law_1283 (by decide) (fun _ => ?_) (fun c => by first | exact absurd c (by decide) | exact absurd (by decide) c)
            refine lv_aload_n hx hb dL_law_1297 rfl (lv_at hl 11 rfl) ?_
            refine lv_iconst (v := 2) hx hb dL_law_1298 (by decide) ?_
            refine gk_iald (i := 2) hx hb hK hP 0 0 rfl rfl (by omega) (by decide) dL_law_1299 ?_
            rw [show nf_9 2 = nf_7 2 from by rw [enf_9, va_up_ne _ _ (by omega)]]
            rw [show nf_7 2 = nf 2 from by rw [enf_7, va_up_ne _ _ (by omega)]]
            rw [hn2]
            refine gk_iast (i := 2) hx hb hK hP hD hS 0 0 rfl rfl (by omega) (by decide) dL_law_1300 (fun H locs hP hD hS => ?_)
            have hP : va_P D vwCl ((xn, .inl (cyI, 10, .inl (va_up nf_9 2 rt))) :: (xb, .inl (cyI, 36, .inl bf)) :: (xd, .inl (cyI, 40, .inl df)) :: (xa, .inl (cyI, 40, .inl af)) :: (xl, .inl (cyI, 40, .inl lf)) :: (xp, .inl (cyI, 40, .inl pf)) :: u_4) H := hP
            have hD : va_D A ((xn, .inl (cyI, 10, .inl (va_up nf_9 2 rt))) :: (xb, .inl (cyI, 36, .inl bf)) :: (xd, .inl (cyI, 40, .inl df)) :: (xa, .inl (cyI, 40, .inl af)) :: (xl, .inl (cyI, 40, .inl lf)) :: (xp, .inl (cyI, 40, .inl pf)) :: u_4) := hD
            obtain ⟨nf_11, enf_11⟩ : ∃ z, z = (va_up nf_9 2 rt) := ⟨_, rfl⟩
            rw [← enf_11] at hP hD
            refine lv_aload_n hx hb dL_law_1301 rfl (lv_at hl 11 rfl) ?_
            refine lv_iconst (v := 3) hx hb dL_law_1302 (by decide) ?_
            refine lv_iload hx hb dL_law_1303 (lv_at hl 4 rfl) ?_
            refine lv_if_eq (tgt := 1313) hx hb dL_law_1305 (by decide) (fun _ => ?_) (fun c => by first | exact absurd c (by decide) | exact absurd (by decide) c)
            refine lv_aload_n hx hb dL_law_1313 rfl (lv_at hl 11 rfl) ?_
            refine lv_iconst (v := 3) hx hb dL_law_1314 (by decide) ?_
            refine gk_iald (i := 3) hx hb hK hP 0 0 rfl rfl (by omega) (by decide) dL_law_1315 ?_
            rw [show nf_11 3 = nf_9 3 from by rw [enf_11, va_up_ne _ _ (by omega)]]
            rw [show nf_9 3 = nf_7 3 from by rw [enf_9, va_up_ne _ _ (by omega)]]
            rw [show nf_7 3 = nf 3 from by rw [enf_7, va_up_ne _ _ (by omega)]]
            rw [hn3]
            refine gk_iast (i := 3) hx hb hK hP hD hS 0 0 rfl rfl (by omega) (by decide) dL_law_1316 (fun H locs hP hD hS => ?_)
            have hP : va_P D vwCl ((xn, .inl (cyI, 10, .inl (va_up nf_11 3 ce))) :: (xb, .inl (cyI, 36, .inl bf)) :: (xd, .inl (cyI, 40, .inl df)) :: (xa, .inl (cyI, 40, .inl af)) :: (xl, .inl (cyI, 40, .inl lf)) :: (xp, .inl (cyI, 40, .inl pf)) :: u_4) H := hP
            have hD : va_D A ((xn, .inl (cyI, 10, .inl (va_up nf_11 3 ce))) :: (xb, .inl (cyI, 36, .inl bf)) :: (xd, .inl (cyI, 40, .inl df)) :: (xa, .inl (cyI, 40, .inl af)) :: (xl, .inl (cyI, 40, .inl lf)) :: (xp, .inl (cyI, 40, .inl pf)) :: u_4) := hD
            obtain ⟨nf_13, enf_13⟩ : ∃ z, z = (va_up nf_11 3 ce) := ⟨_, rfl⟩
            rw [← enf_13] at hP hD
            have hid : nf_13 = nf := by rw [enf_13, enf_11, enf_9, enf_7, pUpId hn0, pUpId hn1, pUpId hn2, pUpId hn3]
            rw [hid] at hP hD
            refine W.widen (k := 400 + 2000 * j + 1000) (n := 2000 + 20000 * j + 10000) (by omega) (by omega) ?_
            exact tl _ _ _ _ _ _ _ _ _ _ _ _ _ _ _ _ _ _ _ _ _ _ _ nf bf df af lf pf u_4 _ _ _ Y hG_4 hR hX hT (by omega) (by omega) hP hD hS (lv_sub hl [0, 7, 8, 9, 10, 11, 12, 13, 14, 15, 16] rfl)
        refine lv_iload hx hb dL_law_1194 (lv_at hl 5 rfl) ?_
        refine lv_bipush (v := 9) hx hb dL_law_1196 (by decide) ?_
        refine lv_idiv hx hb dL_law_1198 (by decide) ?_
        refine lv_topi (fun y_14 h_14 => ?_)
        obtain rfl : y_14 = (nI (Y / 9)) := h_14.trans (pk_div (a := Y) (d := 9) (by omega) (by omega) (by omega))
        refine lv_iload hx hb dL_law_1199 (lv_at hl 5 rfl) ?_
        refine lv_iconst (v := 2) hx hb dL_law_1201 (by decide) ?_
        refine lv_irem hx hb dL_law_1202 (by decide) ?_
        refine lv_topi (fun y_15 h_15 => ?_)
        obtain rfl : y_15 = (nI (Y % 2)) := h_15.trans (pk_rem (a := Y) (d := 2) (by omega) (by omega) (by omega))
        refine lv_if_ne (tgt := 1211) hx hb dL_law_1203 (by decide) (fun c_16 => ?_) (fun c_16 => ?_)
        · have n_16 : ¬ (Y % 2) = 0 := pf_neq (a := (Y % 2)) (b := 0) (by omega) (by omega) c_16
          refine lv_sipush (v := 9000) hx hb dL_law_1211 (by decide) ?_
          refine lv_irem hx hb dL_law_1214 (by decide) ?_
          refine lv_topi (fun y_17 h_17 => ?_)
          obtain rfl : y_17 = (nI ((Y / 9) % 9000)) := h_17.trans (pk_rem (a := (Y / 9)) (d := 9000) (by omega) (by omega) (by omega))
          exact cutC ((Y / 9) % 9000) (by omega) _ hl
        · have n_16 : (Y % 2) = 0 := pf_eq (a := (Y % 2)) (b := 0) (by omega) (by omega) c_16
          refine lv_ldc hx hb hown (hts0 (.constant RL 138 (100000001)) wq_1_15) dL_law_1206 ?_
          refine lv_goto (tgt := 1214) hx hb dL_law_1208 (by decide) ?_
          refine lv_irem hx hb dL_law_1214 (by decide) ?_
          refine lv_topi (fun y_18 h_18 => ?_)
          obtain rfl : y_18 = (nI ((Y / 9) % 100000001)) := h_18.trans (pk_rem (a := (Y / 9)) (d := 100000001) (by omega) (by omega) (by omega))
          exact cutC ((Y / 9) % 100000001) (by omega) _ hl
      refine lv_iload hx hb dL_law_1170 (lv_at hl 4 rfl) ?_
      refine lv_iconst (v := 5) hx hb dL_law_1172 (by decide) ?_
      refine lv_irem hx hb dL_law_1173 (by decide) ?_
      refine lv_topi (fun y_19 h_19 => ?_)
      obtain rfl : y_19 = (nI (Y % 5)) := h_19.trans (pk_rem (a := Y) (d := 5) (by omega) (by omega) (by omega))
      refine lv_if_ne (tgt := 1182) hx hb dL_law_1174 (by decide) (fun c_20 => ?_) (fun c_20 => ?_)
      · have n_20 : ¬ (Y % 5) = 0 := pf_neq (a := (Y % 5)) (b := 0) (by omega) (by omega) c_20
        refine lv_iconst (v := 1) hx hb dL_law_1182 (by decide) ?_
        refine lv_iload hx hb dL_law_1183 (lv_at hl 4 rfl) ?_
        refine lv_bipush (v := 15) hx hb dL_law_1185 (by decide) ?_
        refine lv_idiv hx hb dL_law_1187 (by decide) ?_
        refine lv_topi (fun y_21 h_21 => ?_)
        obtain rfl : y_21 = (nI (Y / 15)) := h_21.trans (pk_div (a := Y) (d := 15) (by omega) (by omega) (by omega))
        refine lv_bipush (v := 100) hx hb dL_law_1188 (by decide) ?_
        refine lv_irem hx hb dL_law_1190 (by decide) ?_
        refine lv_topi (fun y_22 h_22 => ?_)
        obtain rfl : y_22 = (nI ((Y / 15) % 100)) := h_22.trans (pk_rem (a := (Y / 15)) (d := 100) (by omega) (by omega) (by omega))
        refine lv_iadd hx hb dL_law_1191 ?_
        refine lv_topi (fun y_23 h_23 => ?_)
        obtain rfl : y_23 = (nI (1 + ((Y / 15) % 100))) := h_23.trans (nI_add 1 ((Y / 15) % 100))
        exact cutS (1 + ((Y / 15) % 100)) (by omega) (by omega) _ hl
      · have n_20 : (Y % 5) = 0 := pf_eq (a := (Y % 5)) (b := 0) (by omega) (by omega) c_20
        refine lv_bipush (v := 100) hx hb dL_law_1177 (by decide) ?_
        refine lv_goto (tgt := 1192) hx hb dL_law_1179 (by decide) ?_
        exact cutS 100 (by omega) (by omega) _ hl
    refine lv_iload hx hb dL_law_1144 (lv_at hl 3 rfl) ?_
    refine lv_iconst (v := 3) hx hb dL_law_1146 (by decide) ?_
    refine lv_irem hx hb dL_law_1147 (by decide) ?_
    refine lv_topi (fun y_24 h_24 => ?_)
    obtain rfl : y_24 = (nI (Y % 3)) := h_24.trans (pk_rem (a := Y) (d := 3) (by omega) (by omega) (by omega))
    refine lv_if_ne (tgt := 1161) hx hb dL_law_1148 (by decide) (fun c_25 => ?_) (fun c_25 => ?_)
    · have n_25 : ¬ (Y % 3) = 0 := pf_neq (a := (Y % 3)) (b := 0) (by omega) (by omega) c_25
      refine lv_iload hx hb dL_law_1161 (lv_at hl 3 rfl) ?_
      refine lv_iconst (v := 3) hx hb dL_law_1163 (by decide) ?_
      refine lv_idiv hx hb dL_law_1164 (by decide) ?_
      refine lv_topi (fun y_26 h_26 => ?_)
      obtain rfl : y_26 = (nI (Y / 3)) := h_26.trans (pk_div (a := Y) (d := 3) (by omega) (by omega) (by omega))
      refine lv_ldc hx hb hown (hts0 (.constant RL 139 (200000)) wq_1_16) dL_law_1165 ?_
      refine lv_irem hx hb dL_law_1167 (by decide) ?_
      refine lv_topi (fun y_27 h_27 => ?_)
      obtain rfl : y_27 = (nI ((Y / 3) % 200000)) := h_27.trans (pk_rem (a := (Y / 3)) (d := 200000) (by omega) (by omega) (by omega))
      exact cutG ((Y / 3) % 200000) (by omega) _ hl
    · have n_25 : (Y % 3) = 0 := pf_eq (a := (Y % 3)) (b := 0) (by omega) (by omega) c_25
      refine lv_iload hx hb dL_law_1151 (lv_at hl 3 rfl) ?_
      refine lv_iconst (v := 3) hx hb dL_law_1153 (by decide) ?_
      refine lv_idiv hx hb dL_law_1154 (by decide) ?_
      refine lv_topi (fun y_28 h_28 => ?_)
      obtain rfl : y_28 = (nI (Y / 3)) := h_28.trans (pk_div (a := Y) (d := 3) (by omega) (by omega) (by omega))
      refine lv_ldc hx hb hown (hts0 (.constant RL 138 (100000001)) wq_1_15) dL_law_1155 ?_
      refine lv_irem hx hb dL_law_1157 (by decide) ?_
      refine lv_topi (fun y_29 h_29 => ?_)
      obtain rfl : y_29 = (nI ((Y / 3) % 100000001)) := h_29.trans (pk_rem (a := (Y / 3)) (d := 100000001) (by omega) (by omega) (by omega))
      refine lv_goto (tgt := 1168) hx hb dL_law_1158 (by decide) ?_
      exact cutG ((Y / 3) % 100000001) (by omega) _ hl
  · have n_1 : nc = 0 := pf_eq (a := nc) (b := 0) (by omega) (by omega) c_1
    refine lv_iconst (v := 1) hx hb dL_law_1137 (by decide) ?_
    refine lv_goto (tgt := 1142) hx hb dL_law_1138 (by decide) ?_
    refine lv_istore (lv' := [(15, .int 1), (14, .int (nI (Y / 6 % 100 * 5))), (13, .int (nI LN)), (12, .int (nI Y)), (9, .int (nI j)), (0, .ref b), (1, .ref g), (2, .ref xn), (3, .ref xb), (4, .ref xd), (5, .ref xa), (6, .ref xl), (7, .ref xp)]) hx hb dL_law_1142 hl (by decide) rfl (fun ls hl => ?_)
    have cutG : ∀ (GR : Nat) (hGR : GR ≤ 100000000) (ls : Array Slot), lv_has ls 20 [(15, .int 1), (14, .int (nI (Y / 6 % 100 * 5))), (13, .int (nI LN)), (12, .int (nI Y)), (9, .int (nI j)), (0, .ref b), (1, .ref g), (2, .ref xn), (3, .ref xb), (4, .ref xd), (5, .ref xa), (6, .ref xl), (7, .ref xp)] → W p l e room_1 s m #[Value.ref b] below meth c H locs (400 + 2000 * j) (2000 + 20000 * j) (lw_Z below #[Value.ref b] s) (F0 m 1168 ls [.int (nI GR)]) := by
      intro GR hGR ls hl
      refine lv_istore (lv' := [(16, .int (nI GR)), (15, .int 1), (14, .int (nI (Y / 6 % 100 * 5))), (13, .int (nI LN)), (12, .int (nI Y)), (9, .int (nI j)), (0, .ref b), (1, .ref g), (2, .ref xn), (3, .ref xb), (4, .ref xd), (5, .ref xa), (6, .ref xl), (7, .ref xp)]) hx hb dL_law_1168 hl (by decide) rfl (fun ls hl => ?_)
      have cutS : ∀ (SH : Nat) (hS1 : 1 ≤ SH) (hS2 : SH ≤ 100) (ls : Array Slot), lv_has ls 20 [(16, .int (nI GR)), (15, .int 1), (14, .int (nI (Y / 6 % 100 * 5))), (13, .int (nI LN)), (12, .int (nI Y)), (9, .int (nI j)), (0, .ref b), (1, .ref g), (2, .ref xn), (3, .ref xb), (4, .ref xd), (5, .ref xa), (6, .ref xl), (7, .ref xp)] → W p l e room_1 s m #[Value.ref b] below meth c H locs (400 + 2000 * j) (2000 + 20000 * j) (lw_Z below #[Value.ref b] s) (F0 m 1192 ls [.int (nI SH)]) := by
        intro SH hS1 hS2 ls hl
        refine lv_istore (lv' := [(17, .int (nI SH)), (16, .int (nI GR)), (15, .int 1), (14, .int (nI (Y / 6 % 100 * 5))), (13, .int (nI LN)), (12, .int (nI Y)), (9, .int (nI j)), (0, .ref b), (1, .ref g), (2, .ref xn), (3, .ref xb), (4, .ref xd), (5, .ref xa), (6, .ref xl), (7, .ref xp)]) hx hb dL_law_1192 hl (by decide) rfl (fun ls hl => ?_)
        have cutC : ∀ (CE : Nat) (hCE : CE ≤ 100000000) (ls : Array Slot), lv_has ls 20 [(17, .int (nI SH)), (16, .int (nI GR)), (15, .int 1), (14, .int (nI (Y / 6 % 100 * 5))), (13, .int (nI LN)), (12, .int (nI Y)), (9, .int (nI j)), (0, .ref b), (1, .ref g), (2, .ref xn), (3, .ref xb), (4, .ref xd), (5, .ref xa), (6, .ref xl), (7, .ref xp)] → W p l e room_1 s m #[Value.ref b] below meth c H locs (400 + 2000 * j) (2000 + 20000 * j) (lw_Z below #[Value.ref b] s) (F0 m 1215 ls [.int (nI CE)]) := by
          intro CE hCE ls hl
          refine lv_istore (lv' := [(18, .int (nI CE)), (17, .int (nI SH)), (16, .int (nI GR)), (15, .int 1), (14, .int (nI (Y / 6 % 100 * 5))), (13, .int (nI LN)), (12, .int (nI Y)), (9, .int (nI j)), (0, .ref b), (1, .ref g), (2, .ref xn), (3, .ref xb), (4, .ref xd), (5, .ref xa), (6, .ref xl), (7, .ref xp)]) hx hb dL_law_1215 hl (by decide) rfl (fun ls hl => ?_)
          refine lv_aload_n hx hb dL_law_1217 rfl (lv_at hl 9 rfl) ?_
          refine lv_iload hx hb dL_law_1218 (lv_at hl 2 rfl) ?_
          refine lv_iload hx hb dL_law_1220 (lv_at hl 1 rfl) ?_
          refine lv_iload hx hb dL_law_1222 (lv_at hl 6 rfl) ?_
          refine lv_bipush (v := 21) hx hb dL_law_1224 (by decide) ?_
          refine lv_idiv hx hb dL_law_1226 (by decide) ?_
          refine lv_topi (fun y_30 h_30 => ?_)
          obtain rfl : y_30 = (nI (Y / 21)) := h_30.trans (pk_div (a := Y) (d := 21) (by omega) (by omega) (by omega))
          refine lv_bipush (v := 101) hx hb dL_law_1227 (by decide) ?_
          refine lv_irem hx hb dL_law_1229 (by decide) ?_
          refine lv_topi (fun y_31 h_31 => ?_)
          obtain rfl : y_31 = (nI ((Y / 21) % 101)) := h_31.trans (pk_rem (a := (Y / 21)) (d := 101) (by omega) (by omega) (by omega))
          refine lv_iload hx hb dL_law_1230 (lv_at hl 0 rfl) ?_
          have hP : va_P D vwCl (([(xn, .inl (cyI, 10, .inl nf)), (xb, .inl (cyI, 36, .inl bf)), (xd, .inl (cyI, 40, .inl df)), (xa, .inl (cyI, 40, .inl af)), (xl, .inl (cyI, 40, .inl lf)), (xp, .inl (cyI, 40, .inl pf))] : va_W) ++ G) H := hP
          have hD : va_D A (([(xn, .inl (cyI, 10, .inl nf)), (xb, .inl (cyI, 36, .inl bf)), (xd, .inl (cyI, 40, .inl df)), (xa, .inl (cyI, 40, .inl af)), (xl, .inl (cyI, 40, .inl lf)), (xp, .inl (cyI, 40, .inl pf))] : va_W) ++ G) := hD
          have hF_32 := gk_all hD hS hA
          refine va_calli (vx_runSW (As := [.ref g, .int (nI GR), .int (nI SH), .int (nI ((Y / 21) % 101)), .int (nI CE)]) (rest := []) ⟨hx, hb, hml, hown, hts⟩ (kL_isSet l hst D cyI cyZ cyL cyV cyJ gr sh rt ce nl nv am nc cd bud fsd las isB mto maw lno dya amo rfd ord cpa lnf orf g ([(xn, .inl (cyI, 10, .inl nf)), (xb, .inl (cyI, 36, .inl bf)), (xd, .inl (cyI, 40, .inl df)), (xa, .inl (cyI, 40, .inl af)), (xl, .inl (cyI, 40, .inl lf)), (xp, .inl (cyI, 40, .inl pf))] : va_W) G hG (nI GR) (nI SH) (nI ((Y / 21) % 101)) (nI CE) (by rw [(pA_st (nc := nc) (a := GR) (b := SH) (c := (Y / 21 % 101)) (d := CE) hGR ⟨hS1, hS2⟩ (by omega) hCE)]; split <;> decide) H.size _ rfl) (vx_cwSW 5 hts gL_law_L_isSet rfl rfl rfl (by decide +kernel) ⟨(Nat.le_of_ble_eq_true rfl), (Nat.le_of_ble_eq_true rfl)⟩) (gk_preSN hNC hTF hS hF_32 hP hK hD) rfl rfl hl.1 rfl (lv_room (Nat.le_of_ble_eq_true rfl)) dL_law_1232 ⟨(by show _ ≤ (706465 : Nat); omega), (by show _ ≤ (6982228 : Nat); omega)⟩) hS (fun q _ h => hF_32 q h) hF_32 (fun r_32 u_32 t_32 H locs ht_32 hvm_32 hw_32 hB_32 hz_32 hk_32 hS => ?_)
          obtain ⟨hP, hD⟩ := gk_back hF_32 hB_32 ht_32
          have hP : va_P D vwCl ((xn, .inl (cyI, 10, .inl nf)) :: (xb, .inl (cyI, 36, .inl bf)) :: (xd, .inl (cyI, 40, .inl df)) :: (xa, .inl (cyI, 40, .inl af)) :: (xl, .inl (cyI, 40, .inl lf)) :: (xp, .inl (cyI, 40, .inl pf)) :: u_32) H := hP
          have hD : va_D A ((xn, .inl (cyI, 10, .inl nf)) :: (xb, .inl (cyI, 36, .inl bf)) :: (xd, .inl (cyI, 40, .inl df)) :: (xa, .inl (cyI, 40, .inl af)) :: (xl, .inl (cyI, 40, .inl lf)) :: (xp, .inl (cyI, 40, .inl pf)) :: u_32) := hD
          have hcd_32 := (pA_st (nc := nc) (a := GR) (b := SH) (c := (Y / 21 % 101)) (d := CE) hGR ⟨hS1, hS2⟩ (by omega) hCE).trans (if_pos n_1)
          rcases hw_32 with ⟨hc_32, hr_32, hG_32⟩ | ⟨hc_32, hr_32, hG_32⟩
          · subst hr_32
            refine lv_iload hx hb dL_law_1235 (lv_at hl 3 rfl) ?_
            refine lv_icmp_ne (tgt := 1244) hx hb dL_law_1237 (by decide) (fun c => by first | exact absurd c (by decide) | exact absurd (by decide) c) (fun _ => ?_)
            refine lv_iconst (v := 1) hx hb dL_law_1240 (by decide) ?_
            refine lv_goto (tgt := 1245) hx hb dL_law_1241 (by decide) ?_
            refine lv_istore (lv' := [(8, .int 1), (18, .int (nI CE)), (17, .int (nI SH)), (16, .int (nI GR)), (15, .int 1), (14, .int (nI (Y / 6 % 100 * 5))), (13, .int (nI LN)), (12, .int (nI Y)), (9, .int (nI j)), (0, .ref b), (1, .ref g), (2, .ref xn), (3, .ref xb), (4, .ref xd), (5, .ref xa), (6, .ref xl), (7, .ref xp)]) hx hb dL_law_1245 hl (by decide) rfl (fun ls hl => ?_)
            refine lv_aload_n hx hb dL_law_1247 rfl (lv_at hl 11 rfl) ?_
            refine lv_iconst (v := 0) hx hb dL_law_1248 (by decide) ?_
            refine lv_iload hx hb dL_law_1249 (lv_at hl 4 rfl) ?_
            refine lv_if_eq (tgt := 1259) hx hb dL_law_1251 (by decide) (fun c => by first | exact absurd c (by decide) | exact absurd (by decide) c) (fun _ => ?_)
            refine lv_iload hx hb dL_law_1254 (lv_at hl 3 rfl) ?_
            refine lv_goto (tgt := 1262) hx hb dL_law_1256 (by decide) ?_
            refine gk_iast (i := 0) hx hb hK hP hD hS 0 0 rfl rfl (by omega) (by decide) dL_law_1262 (fun H locs hP hD hS => ?_)
            have hP : va_P D vwCl ((xn, .inl (cyI, 10, .inl (va_up nf 0 (nI GR)))) :: (xb, .inl (cyI, 36, .inl bf)) :: (xd, .inl (cyI, 40, .inl df)) :: (xa, .inl (cyI, 40, .inl af)) :: (xl, .inl (cyI, 40, .inl lf)) :: (xp, .inl (cyI, 40, .inl pf)) :: u_32) H := hP
            have hD : va_D A ((xn, .inl (cyI, 10, .inl (va_up nf 0 (nI GR)))) :: (xb, .inl (cyI, 36, .inl bf)) :: (xd, .inl (cyI, 40, .inl df)) :: (xa, .inl (cyI, 40, .inl af)) :: (xl, .inl (cyI, 40, .inl lf)) :: (xp, .inl (cyI, 40, .inl pf)) :: u_32) := hD
            obtain ⟨nf_35, enf_35⟩ : ∃ z, z = (va_up nf 0 (nI GR)) := ⟨_, rfl⟩
            rw [← enf_35] at hP hD
            refine lv_aload_n hx hb dL_law_1263 rfl (lv_at hl 11 rfl) ?_
            refine lv_iconst (v := 1) hx hb dL_law_1264 (by decide) ?_
            refine lv_iload hx hb dL_law_1265 (lv_at hl 4 rfl) ?_
            refine lv_if_eq (tgt := 1275) hx hb dL_law_1267 (by decide) (fun c => by first | exact absurd c (by decide) | exact absurd (by decide) c) (fun _ => ?_)
            refine lv_iload hx hb dL_law_1270 (lv_at hl 2 rfl) ?_
            refine lv_goto (tgt := 1278) hx hb dL_law_1272 (by decide) ?_
            refine gk_iast (i := 1) hx hb hK hP hD hS 0 0 rfl rfl (by omega) (by decide) dL_law_1278 (fun H locs hP hD hS => ?_)
            have hP : va_P D vwCl ((xn, .inl (cyI, 10, .inl (va_up nf_35 1 (nI SH)))) :: (xb, .inl (cyI, 36, .inl bf)) :: (xd, .inl (cyI, 40, .inl df)) :: (xa, .inl (cyI, 40, .inl af)) :: (xl, .inl (cyI, 40, .inl lf)) :: (xp, .inl (cyI, 40, .inl pf)) :: u_32) H := hP
            have hD : va_D A ((xn, .inl (cyI, 10, .inl (va_up nf_35 1 (nI SH)))) :: (xb, .inl (cyI, 36, .inl bf)) :: (xd, .inl (cyI, 40, .inl df)) :: (xa, .inl (cyI, 40, .inl af)) :: (xl, .inl (cyI, 40, .inl lf)) :: (xp, .inl (cyI, 40, .inl pf)) :: u_32) := hD
            obtain ⟨nf_37, enf_37⟩ : ∃ z, z = (va_up nf_35 1 (nI SH)) := ⟨_, rfl⟩
            rw [← enf_37] at hP hD
            refine lv_aload_n hx hb dL_law_1279 rfl (lv_at hl 11 rfl) ?_
            refine lv_iconst (v := 2) hx hb dL_law_1280 (by decide) ?_
            refine lv_iload hx hb dL_law_1281 (lv_at hl 4 rfl) ?_
            refine lv_if_eq (tgt := 1297) hx hb dL_law_1283 (by decide) (fun c => by first | exact absurd c (by decide) | exact absurd (by decide) c) (fun _ => ?_)
            refine lv_iload hx hb dL_law_1286 (lv_at hl 7 rfl) ?_
            refine lv_bipush (v := 21) hx hb dL_law_1288 (by decide) ?_
            refine lv_idiv hx hb dL_law_1290 (by decide) ?_
            refine lv_topi (fun y_39 h_39 => ?_)
            obtain rfl : y_39 = (nI (Y / 21)) := h_39.trans (pk_div (a := Y) (d := 21) (by omega) (by omega) (by omega))
            refine lv_bipush (v := 101) hx hb dL_law_1291 (by decide) ?_
            refine lv_irem hx hb dL_law_1293 (by decide) ?_
            refine lv_topi (fun y_40 h_40 => ?_)
            obtain rfl : y_40 = (nI ((Y / 21) % 101)) := h_40.trans (pk_rem (a := (Y / 21)) (d := 101) (by omega) (by omega) (by omega))
            refine lv_goto (tgt := 1300) hx hb dL_law_1294 (by decide) ?_
            refine gk_iast (i := 2) hx hb hK hP hD hS 0 0 rfl rfl (by omega) (by decide) dL_law_1300 (fun H locs hP hD hS => ?_)
            have hP : va_P D vwCl ((xn, .inl (cyI, 10, .inl (va_up nf_37 2 (nI ((Y / 21) % 101))))) :: (xb, .inl (cyI, 36, .inl bf)) :: (xd, .inl (cyI, 40, .inl df)) :: (xa, .inl (cyI, 40, .inl af)) :: (xl, .inl (cyI, 40, .inl lf)) :: (xp, .inl (cyI, 40, .inl pf)) :: u_32) H := hP
            have hD : va_D A ((xn, .inl (cyI, 10, .inl (va_up nf_37 2 (nI ((Y / 21) % 101))))) :: (xb, .inl (cyI, 36, .inl bf)) :: (xd, .inl (cyI, 40, .inl df)) :: (xa, .inl (cyI, 40, .inl af)) :: (xl, .inl (cyI, 40, .inl lf)) :: (xp, .inl (cyI, 40, .inl pf)) :: u_32) := hD
            obtain ⟨nf_41, enf_41⟩ : ∃ z, z = (va_up nf_37 2 (nI ((Y / 21) % 101))) := ⟨_, rfl⟩
            rw [← enf_41] at hP hD
            refine lv_aload_n hx hb dL_law_1301 rfl (lv_at hl 11 rfl) ?_
            refine lv_iconst (v := 3) hx hb dL_law_1302 (by decide) ?_
            refine lv_iload hx hb dL_law_1303 (lv_at hl 4 rfl) ?_
            refine lv_if_eq (tgt := 1313) hx hb dL_law_1305 (by decide) (fun c => by first | exact absurd c (by decide) | exact absurd (by decide) c) (fun _ => ?_)
            refine lv_iload hx hb dL_law_1308 (lv_at hl 1 rfl) ?_
            refine lv_goto (tgt := 1316) hx hb dL_law_1310 (by decide) ?_
            refine gk_iast (i := 3) hx hb hK hP hD hS 0 0 rfl rfl (by omega) (by decide) dL_law_1316 (fun H locs hP hD hS => ?_)
            have hP : va_P D vwCl ((xn, .inl (cyI, 10, .inl (va_up nf_41 3 (nI CE)))) :: (xb, .inl (cyI, 36, .inl bf)) :: (xd, .inl (cyI, 40, .inl df)) :: (xa, .inl (cyI, 40, .inl af)) :: (xl, .inl (cyI, 40, .inl lf)) :: (xp, .inl (cyI, 40, .inl pf)) :: u_32) H := hP
            have hD : va_D A ((xn, .inl (cyI, 10, .inl (va_up nf_41 3 (nI CE)))) :: (xb, .inl (cyI, 36, .inl bf)) :: (xd, .inl (cyI, 40, .inl df)) :: (xa, .inl (cyI, 40, .inl af)) :: (xl, .inl (cyI, 40, .inl lf)) :: (xp, .inl (cyI, 40, .inl pf)) :: u_32) := hD
            obtain ⟨nf_43, enf_43⟩ : ∃ z, z = (va_up nf_41 3 (nI CE)) := ⟨_, rfl⟩
            rw [← enf_43] at hP hD
            obtain ⟨hR9, hX9⟩ := pR_set hR hX (nf' := nf_43) (by rw [enf_43, enf_41, enf_37, enf_35])
            refine W.widen (k := 400 + 2000 * j + 1000) (n := 2000 + 20000 * j + 10000) (by omega) (by omega) ?_
            exact tl _ _ _ _ _ _ _ _ _ _ _ _ _ _ _ _ _ _ _ _ _ _ _ nf_43 bf df af lf pf u_32 _ _ _ Y hG_32 hR9 hX9 hT (by omega) (by omega) hP hD hS (lv_sub hl [0, 7, 8, 9, 10, 11, 12, 13, 14, 15, 16] rfl)
          · exact absurd (hcd_32.symm.trans hc_32) (by decide)
        refine lv_iload hx hb dL_law_1194 (lv_at hl 5 rfl) ?_
        refine lv_bipush (v := 9) hx hb dL_law_1196 (by decide) ?_
        refine lv_idiv hx hb dL_law_1198 (by decide) ?_
        refine lv_topi (fun y_44 h_44 => ?_)
        obtain rfl : y_44 = (nI (Y / 9)) := h_44.trans (pk_div (a := Y) (d := 9) (by omega) (by omega) (by omega))
        refine lv_iload hx hb dL_law_1199 (lv_at hl 5 rfl) ?_
        refine lv_iconst (v := 2) hx hb dL_law_1201 (by decide) ?_
        refine lv_irem hx hb dL_law_1202 (by decide) ?_
        refine lv_topi (fun y_45 h_45 => ?_)
        obtain rfl : y_45 = (nI (Y % 2)) := h_45.trans (pk_rem (a := Y) (d := 2) (by omega) (by omega) (by omega))
        refine lv_if_ne (tgt := 1211) hx hb dL_law_1203 (by decide) (fun c_46 => ?_) (fun c_46 => ?_)
        · have n_46 : ¬ (Y % 2) = 0 := pf_neq (a := (Y % 2)) (b := 0) (by omega) (by omega) c_46
          refine lv_sipush (v := 9000) hx hb dL_law_1211 (by decide) ?_
          refine lv_irem hx hb dL_law_1214 (by decide) ?_
          refine lv_topi (fun y_47 h_47 => ?_)
          obtain rfl : y_47 = (nI ((Y / 9) % 9000)) := h_47.trans (pk_rem (a := (Y / 9)) (d := 9000) (by omega) (by omega) (by omega))
          exact cutC ((Y / 9) % 9000) (by omega) _ hl
        · have n_46 : (Y % 2) = 0 := pf_eq (a := (Y % 2)) (b := 0) (by omega) (by omega) c_46
          refine lv_ldc hx hb hown (hts0 (.constant RL 138 (100000001)) wq_1_15) dL_law_1206 ?_
          refine lv_goto (tgt := 1214) hx hb dL_law_1208 (by decide) ?_
          refine lv_irem hx hb dL_law_1214 (by decide) ?_
          refine lv_topi (fun y_48 h_48 => ?_)
          obtain rfl : y_48 = (nI ((Y / 9) % 100000001)) := h_48.trans (pk_rem (a := (Y / 9)) (d := 100000001) (by omega) (by omega) (by omega))
          exact cutC ((Y / 9) % 100000001) (by omega) _ hl
      refine lv_iload hx hb dL_law_1170 (lv_at hl 4 rfl) ?_
      refine lv_iconst (v := 5) hx hb dL_law_1172 (by decide) ?_
      refine lv_irem hx hb dL_law_1173 (by decide) ?_
      refine lv_topi (fun y_49 h_49 => ?_)
      obtain rfl : y_49 = (nI (Y % 5)) := h_49.trans (pk_rem (a := Y) (d := 5) (by omega) (by omega) (by omega))
      refine lv_if_ne (tgt := 1182) hx hb dL_law_1174 (by decide) (fun c_50 => ?_) (fun c_50 => ?_)
      · have n_50 : ¬ (Y % 5) = 0 := pf_neq (a := (Y % 5)) (b := 0) (by omega) (by omega) c_50
        refine lv_iconst (v := 1) hx hb dL_law_1182 (by decide) ?_
        refine lv_iload hx hb dL_law_1183 (lv_at hl 4 rfl) ?_
        refine lv_bipush (v := 15) hx hb dL_law_1185 (by decide) ?_
        refine lv_idiv hx hb dL_law_1187 (by decide) ?_
        refine lv_topi (fun y_51 h_51 => ?_)
        obtain rfl : y_51 = (nI (Y / 15)) := h_51.trans (pk_div (a := Y) (d := 15) (by omega) (by omega) (by omega))
        refine lv_bipush (v := 100) hx hb dL_law_1188 (by decide) ?_
        refine lv_irem hx hb dL_law_1190 (by decide) ?_
        refine lv_topi (fun y_52 h_52 => ?_)
        obtain rfl : y_52 = (nI ((Y / 15) % 100)) := h_52.trans (pk_rem (a := (Y / 15)) (d := 100) (by omega) (by omega) (by omega))
        refine lv_iadd hx hb dL_law_1191 ?_
        refine lv_topi (fun y_53 h_53 => ?_)
        obtain rfl : y_53 = (nI (1 + ((Y / 15) % 100))) := h_53.trans (nI_add 1 ((Y / 15) % 100))
        exact cutS (1 + ((Y / 15) % 100)) (by omega) (by omega) _ hl
      · have n_50 : (Y % 5) = 0 := pf_eq (a := (Y % 5)) (b := 0) (by omega) (by omega) c_50
        refine lv_bipush (v := 100) hx hb dL_law_1177 (by decide) ?_
        refine lv_goto (tgt := 1192) hx hb dL_law_1179 (by decide) ?_
        exact cutS 100 (by omega) (by omega) _ hl
    refine lv_iload hx hb dL_law_1144 (lv_at hl 3 rfl) ?_
    refine lv_iconst (v := 3) hx hb dL_law_1146 (by decide) ?_
    refine lv_irem hx hb dL_law_1147 (by decide) ?_
    refine lv_topi (fun y_54 h_54 => ?_)
    obtain rfl : y_54 = (nI (Y % 3)) := h_54.trans (pk_rem (a := Y) (d := 3) (by omega) (by omega) (by omega))
    refine lv_if_ne (tgt := 1161) hx hb dL_law_1148 (by decide) (fun c_55 => ?_) (fun c_55 => ?_)
    · have n_55 : ¬ (Y % 3) = 0 := pf_neq (a := (Y % 3)) (b := 0) (by omega) (by omega) c_55
      refine lv_iload hx hb dL_law_1161 (lv_at hl 3 rfl) ?_
      refine lv_iconst (v := 3) hx hb dL_law_1163 (by decide) ?_
      refine lv_idiv hx hb dL_law_1164 (by decide) ?_
      refine lv_topi (fun y_56 h_56 => ?_)
      obtain rfl : y_56 = (nI (Y / 3)) := h_56.trans (pk_div (a := Y) (d := 3) (by omega) (by omega) (by omega))
      refine lv_ldc hx hb hown (hts0 (.constant RL 139 (200000)) wq_1_16) dL_law_1165 ?_
      refine lv_irem hx hb dL_law_1167 (by decide) ?_
      refine lv_topi (fun y_57 h_57 => ?_)
      obtain rfl : y_57 = (nI ((Y / 3) % 200000)) := h_57.trans (pk_rem (a := (Y / 3)) (d := 200000) (by omega) (by omega) (by omega))
      exact cutG ((Y / 3) % 200000) (by omega) _ hl
    · have n_55 : (Y % 3) = 0 := pf_eq (a := (Y % 3)) (b := 0) (by omega) (by omega) c_55
      refine lv_iload hx hb dL_law_1151 (lv_at hl 3 rfl) ?_
      refine lv_iconst (v := 3) hx hb dL_law_1153 (by decide) ?_
      refine lv_idiv hx hb dL_law_1154 (by decide) ?_
      refine lv_topi (fun y_58 h_58 => ?_)
      obtain rfl : y_58 = (nI (Y / 3)) := h_58.trans (pk_div (a := Y) (d := 3) (by omega) (by omega) (by omega))
      refine lv_ldc hx hb hown (hts0 (.constant RL 138 (100000001)) wq_1_15) dL_law_1155 ?_
      refine lv_irem hx hb dL_law_1157 (by decide) ?_
      refine lv_topi (fun y_59 h_59 => ?_)
      obtain rfl : y_59 = (nI ((Y / 3) % 100000001)) := h_59.trans (pk_rem (a := (Y / 3)) (d := 100000001) (by omega) (by omega) (by omega))
      refine lv_goto (tgt := 1168) hx hb dL_law_1158 (by decide) ?_
      exact cutG ((Y / 3) % 100000001) (by omega) _ hl
