set_option maxHeartbeats 40000000 in
set_option maxRecDepth 100000 in
theorem pD_spend {p : Program} {l : Launch} {e : Env} {s : State} {m : MethodId} {below : List Frame} {meth : Method} {c : Code} (hst : l.stackTraces = false) {D : va_G} {cyI cyZ cyL cyV cyJ : ClassId} {b L : Nat} {xs : Nat → Int32} (hL : L ≤ 260) (CA : lw_At p s m meth c b L xs) {A : Nat → Prop} (hAd : A = fun q : Nat => s.heap.size ≤ q) (hTF : gTF A s s.heap) (hNC : gNC s) (hK : va_K D vwCl (gTy cyI cyZ cyL cyV cyJ) s) {g xn xb xd xa xl xp : Nat} {j : Nat} (hj : j < 60) (tl : pTail p l e s m below meth c D cyI cyZ cyL cyV cyJ b g xn xb xd xa xl xp A j) {gr sh rt ce : Int32} {nl nv : Nat} {am : Int32} {nc : Nat} {cd : Int32} {bud fsd las isB mto maw lno dya amo rfd ord cpa : Nat → Int32} {lnf orf : Nat → Nat} {nf bf df af lf pf : Nat → Int32} {G : va_W} {H : Heap} {locs : List Loc} {ls : Array Slot} {Y LN : Nat} (hY : Y < 2 ^ 27) (hG : gGP cyI cyL cyV gr sh rt ce nl nv am nc cd bud fsd las isB mto maw lno dya amo rfd ord cpa lnf orf g G) (hR : pRB nl nv gr sh rt ce bud fsd las isB mto maw dya amo rfd lnf nf bf df af lf) (hX : pRX nl am nc cd cpa nf bf pf) (hT : pST nv dya orf) (hv40 : nv < 40) (hLN : LN < nl) (h3 : 3 ≤ nl) (hP : va_P D vwCl ((xn, .inl (cyI, 10, .inl nf)) :: (xb, .inl (cyI, 36, .inl bf)) :: (xd, .inl (cyI, 40, .inl df)) :: (xa, .inl (cyI, 40, .inl af)) :: (xl, .inl (cyI, 40, .inl lf)) :: (xp, .inl (cyI, 40, .inl pf)) :: G) H) (hD : va_D A ((xn, .inl (cyI, 10, .inl nf)) :: (xb, .inl (cyI, 36, .inl bf)) :: (xd, .inl (cyI, 40, .inl df)) :: (xa, .inl (cyI, 40, .inl af)) :: (xl, .inl (cyI, 40, .inl lf)) :: (xp, .inl (cyI, 40, .inl pf)) :: G)) (hS : va_S A s.heap H locs) (hl : lv_has ls 20 [(14, .int (nI (Y / 6 % 100 * 5))), (13, .int (nI LN)), (12, .int (nI Y)), (9, .int (nI j)), (0, .ref b), (1, .ref g), (2, .ref xn), (3, .ref xb), (4, .ref xd), (5, .ref xa), (6, .ref xl), (7, .ref xp)]) : W p l e room_1 s m #[Value.ref b] below meth c H locs (400 + 2000 * j) (2000 + 20000 * j) (lw_Z below #[Value.ref b] s) (F0 m 363 ls []) := by
  obtain ⟨hx, hb, hr, hml, hown, hts0, hX0, hbl, hlocks, hgv⟩ := CA
  have hts : ∀ w ∈ wsL_law, w.before #[Value.ref b] s = true := fun w h => hts0 w (wsL_law_in w h)
  have hA : ∀ q : Nat, s.heap.size ≤ q → A q := fun q h => by rw [hAd]; exact h
  have hbA : ¬ A b := by rw [hAd]; exact Nat.not_le.mpr hbl
  obtain ⟨⟨hnl, hnv⟩, ⟨hn0, hn1, hn2, hn3, hn5⟩, hbl, hvl⟩ := id hR
  obtain ⟨hn4, hn6, hn7, hn8, hn9, hpf, hbz⟩ := id hX
  have hnc : nc ≤ 40 := hG.1.1.2.2
  have hel := pG_el hG hT
  refine lv_aload hx hb dL_law_363 (lv_at hl 8 rfl) ?_
  refine lv_aload_n hx hb dL_law_365 rfl (lv_at hl 6 rfl) ?_
  refine lv_iconst (v := 5) hx hb dL_law_366 (by decide) ?_
  refine gk_iald (i := 5) hx hb hK hP 0 0 rfl rfl (by omega) (by decide) dL_law_367 ?_
  rw [hn5]
  refine lv_iload hx hb dL_law_368 (lv_at hl 0 rfl) ?_
  refine gk_iast (i := nv) hx hb hK hP hD hS 2 0 rfl rfl (by omega) (by decide) dL_law_370 (fun H locs hP hD hS => ?_)
  have hP : va_P D vwCl ((xn, .inl (cyI, 10, .inl nf)) :: (xb, .inl (cyI, 36, .inl bf)) :: (xd, .inl (cyI, 40, .inl (va_up df nv (nI (Y / 6 % 100 * 5))))) :: (xa, .inl (cyI, 40, .inl af)) :: (xl, .inl (cyI, 40, .inl lf)) :: (xp, .inl (cyI, 40, .inl pf)) :: G) H := hP
  have hD : va_D A ((xn, .inl (cyI, 10, .inl nf)) :: (xb, .inl (cyI, 36, .inl bf)) :: (xd, .inl (cyI, 40, .inl (va_up df nv (nI (Y / 6 % 100 * 5))))) :: (xa, .inl (cyI, 40, .inl af)) :: (xl, .inl (cyI, 40, .inl lf)) :: (xp, .inl (cyI, 40, .inl pf)) :: G) := hD
  obtain ⟨df_1, edf_1⟩ : ∃ z, z = (va_up df nv (nI (Y / 6 % 100 * 5))) := ⟨_, rfl⟩
  rw [← edf_1] at hP hD
  refine lv_aload hx hb dL_law_371 (lv_at hl 9 rfl) ?_
  refine lv_aload_n hx hb dL_law_373 rfl (lv_at hl 6 rfl) ?_
  refine lv_iconst (v := 5) hx hb dL_law_374 (by decide) ?_
  refine gk_iald (i := 5) hx hb hK hP 0 0 rfl rfl (by omega) (by decide) dL_law_375 ?_
  rw [hn5]
  have cutA : ∀ (AM : Nat) (hA1 : 1 ≤ AM) (hA2 : AM ≤ 10000000) (ls : Array Slot), lv_has ls 20 [(14, .int (nI (Y / 6 % 100 * 5))), (13, .int (nI LN)), (12, .int (nI Y)), (9, .int (nI j)), (0, .ref b), (1, .ref g), (2, .ref xn), (3, .ref xb), (4, .ref xd), (5, .ref xa), (6, .ref xl), (7, .ref xp)] → W p l e room_1 s m #[Value.ref b] below meth c H locs (400 + 2000 * j) (2000 + 20000 * j) (lw_Z below #[Value.ref b] s) (F0 m 413 ls [.int (nI AM), .int (nI nv), .ref xa]) := by
    intro AM hA1 hA2 ls hl
    refine gk_iast (i := nv) hx hb hK hP hD hS 3 0 rfl rfl (by omega) (by decide) dL_law_413 (fun H locs hP hD hS => ?_)
    have hP : va_P D vwCl ((xn, .inl (cyI, 10, .inl nf)) :: (xb, .inl (cyI, 36, .inl bf)) :: (xd, .inl (cyI, 40, .inl df_1)) :: (xa, .inl (cyI, 40, .inl (va_up af nv (nI AM)))) :: (xl, .inl (cyI, 40, .inl lf)) :: (xp, .inl (cyI, 40, .inl pf)) :: G) H := hP
    have hD : va_D A ((xn, .inl (cyI, 10, .inl nf)) :: (xb, .inl (cyI, 36, .inl bf)) :: (xd, .inl (cyI, 40, .inl df_1)) :: (xa, .inl (cyI, 40, .inl (va_up af nv (nI AM)))) :: (xl, .inl (cyI, 40, .inl lf)) :: (xp, .inl (cyI, 40, .inl pf)) :: G) := hD
    obtain ⟨af_2, eaf_2⟩ : ∃ z, z = (va_up af nv (nI AM)) := ⟨_, rfl⟩
    rw [← eaf_2] at hP hD
    refine lv_aload hx hb dL_law_414 (lv_at hl 10 rfl) ?_
    refine lv_aload_n hx hb dL_law_416 rfl (lv_at hl 6 rfl) ?_
    refine lv_iconst (v := 5) hx hb dL_law_417 (by decide) ?_
    refine gk_iald (i := 5) hx hb hK hP 0 0 rfl rfl (by omega) (by decide) dL_law_418 ?_
    rw [hn5]
    refine lv_iload hx hb dL_law_419 (lv_at hl 1 rfl) ?_
    refine gk_iast (i := nv) hx hb hK hP hD hS 4 0 rfl rfl (by omega) (by decide) dL_law_421 (fun H locs hP hD hS => ?_)
    have hP : va_P D vwCl ((xn, .inl (cyI, 10, .inl nf)) :: (xb, .inl (cyI, 36, .inl bf)) :: (xd, .inl (cyI, 40, .inl df_1)) :: (xa, .inl (cyI, 40, .inl af_2)) :: (xl, .inl (cyI, 40, .inl (va_up lf nv (nI LN)))) :: (xp, .inl (cyI, 40, .inl pf)) :: G) H := hP
    have hD : va_D A ((xn, .inl (cyI, 10, .inl nf)) :: (xb, .inl (cyI, 36, .inl bf)) :: (xd, .inl (cyI, 40, .inl df_1)) :: (xa, .inl (cyI, 40, .inl af_2)) :: (xl, .inl (cyI, 40, .inl (va_up lf nv (nI LN)))) :: (xp, .inl (cyI, 40, .inl pf)) :: G) := hD
    obtain ⟨lf_3, elf_3⟩ : ∃ z, z = (va_up lf nv (nI LN)) := ⟨_, rfl⟩
    rw [← elf_3] at hP hD
    refine lv_aload_n hx hb dL_law_422 rfl (lv_at hl 5 rfl) ?_
    refine lv_iload hx hb dL_law_423 (lv_at hl 1 rfl) ?_
    refine lv_iload hx hb dL_law_425 (lv_at hl 0 rfl) ?_
    refine lv_aload hx hb dL_law_427 (lv_at hl 9 rfl) ?_
    refine lv_aload_n hx hb dL_law_429 rfl (lv_at hl 6 rfl) ?_
    refine lv_iconst (v := 5) hx hb dL_law_430 (by decide) ?_
    refine gk_iald (i := 5) hx hb hK hP 0 0 rfl rfl (by omega) (by decide) dL_law_431 ?_
    rw [hn5]
    refine gk_iald (i := nv) hx hb hK hP 3 0 rfl rfl (by omega) (by decide) dL_law_432 ?_
    rw [show af_2 nv = (nI AM) from by rw [eaf_2, va_up_self]]
    have hP : va_P D vwCl (([(xn, .inl (cyI, 10, .inl nf)), (xb, .inl (cyI, 36, .inl bf)), (xd, .inl (cyI, 40, .inl df_1)), (xa, .inl (cyI, 40, .inl af_2)), (xl, .inl (cyI, 40, .inl lf_3)), (xp, .inl (cyI, 40, .inl pf))] : va_W) ++ G) H := hP
    have hD : va_D A (([(xn, .inl (cyI, 10, .inl nf)), (xb, .inl (cyI, 36, .inl bf)), (xd, .inl (cyI, 40, .inl df_1)), (xa, .inl (cyI, 40, .inl af_2)), (xl, .inl (cyI, 40, .inl lf_3)), (xp, .inl (cyI, 40, .inl pf))] : va_W) ++ G) := hD
    have hF_4 := gk_all hD hS hA
    refine vx_calli (vx_runV (As := [.int (nI LN), .int (nI (Y / 6 % 100 * 5)), .int (nI AM)]) (rest := []) ⟨hx, hb, hml, hown, hts⟩ (kQ_spend l hst D cyI cyZ cyL cyV cyJ gr sh rt ce nl nv am nc cd bud fsd las isB mto maw lno dya amo rfd ord cpa lnf orf g ([(xn, .inl (cyI, 10, .inl nf)), (xb, .inl (cyI, 36, .inl bf)), (xd, .inl (cyI, 40, .inl df_1)), (xa, .inl (cyI, 40, .inl af_2)), (xl, .inl (cyI, 40, .inl lf_3)), (xp, .inl (cyI, 40, .inl pf))] : va_W) G hG (nI LN) (nI (Y / 6 % 100 * 5)) (nI AM) H.size _ rfl) (cwV 3 hts gL_law_X2_spend rfl rfl rfl (by decide +kernel) ⟨(Nat.le_of_ble_eq_true rfl), (Nat.le_of_ble_eq_true rfl)⟩) (gk_preVT hTF hS hF_4 hP hK hD (gQ_recv hG hK hP)) rfl rfl hl.1 rfl (lv_room (Nat.le_of_ble_eq_true rfl)) dL_law_433 ⟨(by show _ ≤ (706465 : Nat); omega), (by show _ ≤ (6982228 : Nat); omega)⟩) hS (fun q _ h => hF_4 q h) hF_4 (fun q _ h => hF_4 q h) (fun E_4 ce_4 q_4 u_4 t_4 H locs ht_4 hvm_4 hpx_4 hBX_4 hz_4 hk_4 hS hce_4 hcv_4 hcl_4 => ?_) (fun r_4 u_4 t_4 H locs ht_4 hvm_4 hw_4 hB_4 hz_4 hk_4 hS => ?_)
    · have hcd_4 := pA_spend (nl := nl) (nv := nv) (i := LN) (D := (Y / 6 % 100 * 5)) (M := AM) (by omega) hLN (by omega) hA1 hA2 (by omega)
      rcases hpx_4 with ⟨-, h⟩ | ⟨-, h⟩ | ⟨-, h⟩ <;> exact absurd (hcd_4.symm.trans h) (by decide)
    · obtain ⟨hP, hD⟩ := gk_back hF_4 hB_4 ht_4
      have hP : va_P D vwCl ((xn, .inl (cyI, 10, .inl nf)) :: (xb, .inl (cyI, 36, .inl bf)) :: (xd, .inl (cyI, 40, .inl df_1)) :: (xa, .inl (cyI, 40, .inl af_2)) :: (xl, .inl (cyI, 40, .inl lf_3)) :: (xp, .inl (cyI, 40, .inl pf)) :: u_4) H := hP
      have hD : va_D A ((xn, .inl (cyI, 10, .inl nf)) :: (xb, .inl (cyI, 36, .inl bf)) :: (xd, .inl (cyI, 40, .inl df_1)) :: (xa, .inl (cyI, 40, .inl af_2)) :: (xl, .inl (cyI, 40, .inl lf_3)) :: (xp, .inl (cyI, 40, .inl pf)) :: u_4) := hD
      obtain ⟨-, hr_4, hG_4⟩ := hw_4
      rw [show gIxn (nI LN) = LN from nI_clamp (by omega)] at hG_4
      subst hr_4
      refine lv_aload_n hx hb dL_law_436 rfl (lv_at hl 6 rfl) ?_
      refine lv_iconst (v := 5) hx hb dL_law_437 (by decide) ?_
      refine gk_iald (i := 5) hx hb hK hP 0 0 rfl rfl (by omega) (by decide) dL_law_438 ?_
      rw [hn5]
      refine lv_icmp_ne (tgt := 446) hx hb dL_law_439 (by decide) (fun c9 => absurd rfl c9) (fun _ => ?_)
      refine lv_iconst (v := 1) hx hb dL_law_442 (by decide) ?_
      refine lv_goto (tgt := 447) hx hb dL_law_443 (by decide) ?_
      refine lv_istore (lv' := [(8, .int 1), (14, .int (nI (Y / 6 % 100 * 5))), (13, .int (nI LN)), (12, .int (nI Y)), (9, .int (nI j)), (0, .ref b), (1, .ref g), (2, .ref xn), (3, .ref xb), (4, .ref xd), (5, .ref xa), (6, .ref xl), (7, .ref xp)]) hx hb dL_law_447 hl (by decide) rfl (fun ls hl => ?_)
      refine lv_aload_n hx hb dL_law_449 rfl (lv_at hl 7 rfl) ?_
      refine lv_iconst (v := 5) hx hb dL_law_450 (by decide) ?_
      refine lv_dup2_11 hx hb dL_law_451 rfl rfl ?_
      refine gk_iald (i := 5) hx hb hK hP 0 0 rfl rfl (by omega) (by decide) dL_law_452 ?_
      rw [hn5]
      refine lv_iconst (v := 1) hx hb dL_law_453 (by decide) ?_
      refine lv_iadd hx hb dL_law_454 ?_
      refine lv_topi (fun y_5 h_5 => ?_)
      obtain rfl : y_5 = (nI (nv + 1)) := h_5.trans (nI_add nv 1)
      refine gk_iast (i := 5) hx hb hK hP hD hS 0 0 rfl rfl (by omega) (by decide) dL_law_455 (fun H locs hP hD hS => ?_)
      have hP : va_P D vwCl ((xn, .inl (cyI, 10, .inl (va_up nf 5 (nI (nv + 1))))) :: (xb, .inl (cyI, 36, .inl bf)) :: (xd, .inl (cyI, 40, .inl df_1)) :: (xa, .inl (cyI, 40, .inl af_2)) :: (xl, .inl (cyI, 40, .inl lf_3)) :: (xp, .inl (cyI, 40, .inl pf)) :: u_4) H := hP
      have hD : va_D A ((xn, .inl (cyI, 10, .inl (va_up nf 5 (nI (nv + 1))))) :: (xb, .inl (cyI, 36, .inl bf)) :: (xd, .inl (cyI, 40, .inl df_1)) :: (xa, .inl (cyI, 40, .inl af_2)) :: (xl, .inl (cyI, 40, .inl lf_3)) :: (xp, .inl (cyI, 40, .inl pf)) :: u_4) := hD
      obtain ⟨nf_6, enf_6⟩ : ∃ z, z = (va_up nf 5 (nI (nv + 1))) := ⟨_, rfl⟩
      rw [← enf_6] at hP hD
      refine lv_goto (tgt := 1317) hx hb dL_law_456 (by decide) ?_
      obtain ⟨hR9, hX9⟩ := pR_spend hR hX (pM_new hG.1).2 hv40 hLN (p1 := nI (Y / 6 % 100 * 5)) (p2 := nI AM) enf_6 edf_1 eaf_2 elf_3
      have hT9 := pST_in hG.1 hT (nI (Y / 6 % 100 * 5))
      refine W.widen (k := 400 + 2000 * j + 1000) (n := 2000 + 20000 * j + 10000) (by omega) (by omega) ?_
      exact tl _ _ _ _ _ _ _ _ _ _ _ _ _ _ _ _ _ _ _ _ _ _ _ nf_6 bf df_1 af_2 lf_3 pf u_4 _ _ _ Y hG_4 hR9 hX9 hT9 (by omega) (by omega) hP hD hS (lv_sub hl [0, 3, 4, 5, 6, 7, 8, 9, 10, 11, 12] rfl)
  refine lv_iload hx hb dL_law_376 (lv_at hl 2 rfl) ?_
  refine lv_sipush (v := 600) hx hb dL_law_378 (by decide) ?_
  refine lv_idiv hx hb dL_law_381 (by decide) ?_
  refine lv_topi (fun y_7 h_7 => ?_)
  obtain rfl : y_7 = (nI (Y / 600)) := h_7.trans (pk_div (a := Y) (d := 600) (by omega) (by omega) (by omega))
  refine lv_bipush (v := 9) hx hb dL_law_382 (by decide) ?_
  refine lv_irem hx hb dL_law_384 (by decide) ?_
  refine lv_topi (fun y_8 h_8 => ?_)
  obtain rfl : y_8 = (nI ((Y / 600) % 9)) := h_8.trans (pk_rem (a := (Y / 600)) (d := 9) (by omega) (by omega) (by omega))
  refine lv_if_ne (tgt := 402) hx hb dL_law_385 (by decide) (fun c_9 => ?_) (fun c_9 => ?_)
  · have n_9 : ¬ ((Y / 600) % 9) = 0 := pf_neq (a := ((Y / 600) % 9)) (b := 0) (by omega) (by omega) c_9
    refine lv_iconst (v := 1) hx hb dL_law_402 (by decide) ?_
    refine lv_iload hx hb dL_law_403 (lv_at hl 2 rfl) ?_
    refine lv_sipush (v := 600) hx hb dL_law_405 (by decide) ?_
    refine lv_idiv hx hb dL_law_408 (by decide) ?_
    refine lv_topi (fun y_10 h_10 => ?_)
    obtain rfl : y_10 = (nI (Y / 600)) := h_10.trans (pk_div (a := Y) (d := 600) (by omega) (by omega) (by omega))
    refine lv_ldc hx hb hown (hts0 (.constant RL 125 (40000)) wq_1_11) dL_law_409 ?_
    refine lv_irem hx hb dL_law_411 (by decide) ?_
    refine lv_topi (fun y_11 h_11 => ?_)
    obtain rfl : y_11 = (nI ((Y / 600) % 40000)) := h_11.trans (pk_rem (a := (Y / 600)) (d := 40000) (by omega) (by omega) (by omega))
    refine lv_iadd hx hb dL_law_412 ?_
    refine lv_topi (fun y_12 h_12 => ?_)
    obtain rfl : y_12 = (nI (1 + ((Y / 600) % 40000))) := h_12.trans (nI_add 1 ((Y / 600) % 40000))
    exact cutA (1 + ((Y / 600) % 40000)) (by omega) (by omega) _ hl
  · have n_9 : ((Y / 600) % 9) = 0 := pf_eq (a := ((Y / 600) % 9)) (b := 0) (by omega) (by omega) c_9
    refine lv_iconst (v := 1) hx hb dL_law_388 (by decide) ?_
    refine lv_iload hx hb dL_law_389 (lv_at hl 2 rfl) ?_
    refine lv_sipush (v := 5400) hx hb dL_law_391 (by decide) ?_
    refine lv_idiv hx hb dL_law_394 (by decide) ?_
    refine lv_topi (fun y_13 h_13 => ?_)
    obtain rfl : y_13 = (nI (Y / 5400)) := h_13.trans (pk_div (a := Y) (d := 5400) (by omega) (by omega) (by omega))
    refine lv_ldc hx hb hown (hts0 (.constant RL 124 (10000000)) wq_1_10) dL_law_395 ?_
    refine lv_irem hx hb dL_law_397 (by decide) ?_
    refine lv_topi (fun y_14 h_14 => ?_)
    obtain rfl : y_14 = (nI ((Y / 5400) % 10000000)) := h_14.trans (pk_rem (a := (Y / 5400)) (d := 10000000) (by omega) (by omega) (by omega))
    refine lv_iadd hx hb dL_law_398 ?_
    refine lv_topi (fun y_15 h_15 => ?_)
    obtain rfl : y_15 = (nI (1 + ((Y / 5400) % 10000000))) := h_15.trans (nI_add 1 ((Y / 5400) % 10000000))
    refine lv_goto (tgt := 413) hx hb dL_law_399 (by decide) ?_
    exact cutA (1 + ((Y / 5400) % 10000000)) (by omega) (by omega) _ hl
