set_option maxHeartbeats 40000000 in
set_option maxRecDepth 100000 in
theorem pD_match {p : Program} {l : Launch} {e : Env} {s : State} {m : MethodId} {below : List Frame} {meth : Method} {c : Code} (hst : l.stackTraces = false) {D : va_G} {cyI cyZ cyL cyV cyJ : ClassId} {b L : Nat} {xs : Nat → Int32} (hL : L ≤ 260) (CA : lw_At p s m meth c b L xs) {A : Nat → Prop} (hAd : A = fun q : Nat => s.heap.size ≤ q) (hTF : gTF A s s.heap) (hNC : gNC s) (hK : va_K D vwCl (gTy cyI cyZ cyL cyV cyJ) s) {g xn xb xd xa xl xp : Nat} {j : Nat} (hj : j < 60) (tl : pTail p l e s m below meth c D cyI cyZ cyL cyV cyJ b g xn xb xd xa xl xp A j) {gr sh rt ce : Int32} {nl nv : Nat} {am : Int32} {nc : Nat} {cd : Int32} {bud fsd las isB mto maw lno dya amo rfd ord cpa : Nat → Int32} {lnf orf : Nat → Nat} {nf bf df af lf pf : Nat → Int32} {G : va_W} {H : Heap} {locs : List Loc} {ls : Array Slot} {Y LN : Nat} (hY : Y < 2 ^ 27) (hG : gGP cyI cyL cyV gr sh rt ce nl nv am nc cd bud fsd las isB mto maw lno dya amo rfd ord cpa lnf orf g G) (hR : pRB nl nv gr sh rt ce bud fsd las isB mto maw dya amo rfd lnf nf bf df af lf) (hX : pRX nl am nc cd cpa nf bf pf) (hT : pST nv dya orf) (h3 : 3 ≤ nl) (hP : va_P D vwCl ((xn, .inl (cyI, 10, .inl nf)) :: (xb, .inl (cyI, 36, .inl bf)) :: (xd, .inl (cyI, 40, .inl df)) :: (xa, .inl (cyI, 40, .inl af)) :: (xl, .inl (cyI, 40, .inl lf)) :: (xp, .inl (cyI, 40, .inl pf)) :: G) H) (hD : va_D A ((xn, .inl (cyI, 10, .inl nf)) :: (xb, .inl (cyI, 36, .inl bf)) :: (xd, .inl (cyI, 40, .inl df)) :: (xa, .inl (cyI, 40, .inl af)) :: (xl, .inl (cyI, 40, .inl lf)) :: (xp, .inl (cyI, 40, .inl pf)) :: G)) (hS : va_S A s.heap H locs) (hl : lv_has ls 20 [(14, .int (nI (Y / 6 % 100 * 5))), (13, .int (nI LN)), (12, .int (nI Y)), (9, .int (nI j)), (0, .ref b), (1, .ref g), (2, .ref xn), (3, .ref xb), (4, .ref xd), (5, .ref xa), (6, .ref xl), (7, .ref xp)]) : W p l e room_1 s m #[Value.ref b] below meth c H locs (400 + 2000 * j) (2000 + 20000 * j) (lw_Z below #[Value.ref b] s) (F0 m 798 ls []) := by
  obtain ⟨hx, hb, hr, hml, hown, hts0, hX0, hbl, hlocks, hgv⟩ := CA
  have hts : ∀ w ∈ wsL_law, w.before #[Value.ref b] s = true := fun w h => hts0 w (wsL_law_in w h)
  have hA : ∀ q : Nat, s.heap.size ≤ q → A q := fun q h => by rw [hAd]; exact h
  have hbA : ¬ A b := by rw [hAd]; exact Nat.not_le.mpr hbl
  obtain ⟨⟨hnl, hnv⟩, ⟨hn0, hn1, hn2, hn3, hn5⟩, hbl, hvl⟩ := id hR
  obtain ⟨hn4, hn6, hn7, hn8, hn9, hpf, hbz⟩ := id hX
  have hnc : nc ≤ 40 := hG.1.1.2.2
  have hel := pG_el hG hT
  have cutA : ∀ (AM : Nat) (hA1 : 1 ≤ AM) (hA2 : AM ≤ 10000000) (ls : Array Slot), lv_has ls 20 [(14, .int (nI (Y / 6 % 100 * 5))), (13, .int (nI LN)), (12, .int (nI Y)), (9, .int (nI j)), (0, .ref b), (1, .ref g), (2, .ref xn), (3, .ref xb), (4, .ref xd), (5, .ref xa), (6, .ref xl), (7, .ref xp)] → W p l e room_1 s m #[Value.ref b] below meth c H locs (400 + 2000 * j) (2000 + 20000 * j) (lw_Z below #[Value.ref b] s) (F0 m 827 ls [.int (nI AM)]) := by
    intro AM hA1 hA2 ls hl
    refine lv_istore (lv' := [(15, .int (nI AM)), (14, .int (nI (Y / 6 % 100 * 5))), (13, .int (nI LN)), (12, .int (nI Y)), (9, .int (nI j)), (0, .ref b), (1, .ref g), (2, .ref xn), (3, .ref xb), (4, .ref xd), (5, .ref xa), (6, .ref xl), (7, .ref xp)]) hx hb dL_law_827 hl (by decide) rfl (fun ls hl => ?_)
    refine lv_aload_n hx hb dL_law_829 rfl (lv_at hl 7 rfl) ?_
    refine lv_bipush (v := 6) hx hb dL_law_830 (by decide) ?_
    refine gk_iald (i := 6) hx hb hK hP 0 0 rfl rfl (by omega) (by decide) dL_law_832 ?_
    rw [hn6]
    refine lv_iload hx hb dL_law_833 (lv_at hl 0 rfl) ?_
    refine lv_iadd hx hb dL_law_835 ?_
    refine lv_ldc hx hb hown (hts0 (.constant RL 137 (100000000)) wq_1_14) dL_law_836 ?_
    refine lv_icmp_gt (tgt := 845) hx hb dL_law_838 (by decide) (fun c_1 => ?_) (fun c_1 => ?_)
    · refine lv_iconst (v := 0) hx hb dL_law_845 (by decide) ?_
      refine lv_istore (lv' := [(16, .int 0), (15, .int (nI AM)), (14, .int (nI (Y / 6 % 100 * 5))), (13, .int (nI LN)), (12, .int (nI Y)), (9, .int (nI j)), (0, .ref b), (1, .ref g), (2, .ref xn), (3, .ref xb), (4, .ref xd), (5, .ref xa), (6, .ref xl), (7, .ref xp)]) hx hb dL_law_846 hl (by decide) rfl (fun ls hl => ?_)
      refine lv_aload_n hx hb dL_law_848 rfl (lv_at hl 8 rfl) ?_
      refine lv_bipush (v := 6) hx hb dL_law_849 (by decide) ?_
      refine lv_dup2_11 hx hb dL_law_851 rfl rfl ?_
      refine gk_iald (i := 6) hx hb hK hP 0 0 rfl rfl (by omega) (by decide) dL_law_852 ?_
      rw [hn6]
      refine lv_iload hx hb dL_law_853 (lv_at hl 0 rfl) ?_
      refine lv_if_eq (tgt := 863) hx hb dL_law_855 (by decide) (fun _ => ?_) (fun c => by first | exact absurd c (by decide) | exact absurd (by decide) c)
      refine lv_iconst (v := 0) hx hb dL_law_863 (by decide) ?_
      refine lv_iadd hx hb dL_law_864 ?_
      refine gk_iast (i := 6) hx hb hK hP hD hS 0 0 rfl rfl (by omega) (by decide) dL_law_865 (fun H locs hP hD hS => ?_)
      have hP : va_P D vwCl ((xn, .inl (cyI, 10, .inl (va_up nf 6 (am + 0)))) :: (xb, .inl (cyI, 36, .inl bf)) :: (xd, .inl (cyI, 40, .inl df)) :: (xa, .inl (cyI, 40, .inl af)) :: (xl, .inl (cyI, 40, .inl lf)) :: (xp, .inl (cyI, 40, .inl pf)) :: G) H := hP
      have hD : va_D A ((xn, .inl (cyI, 10, .inl (va_up nf 6 (am + 0)))) :: (xb, .inl (cyI, 36, .inl bf)) :: (xd, .inl (cyI, 40, .inl df)) :: (xa, .inl (cyI, 40, .inl af)) :: (xl, .inl (cyI, 40, .inl lf)) :: (xp, .inl (cyI, 40, .inl pf)) :: G) := hD
      obtain ⟨nf_3, enf_3⟩ : ∃ z, z = (va_up nf 6 (am + 0)) := ⟨_, rfl⟩
      rw [← enf_3] at hP hD
      refine lv_aload_n hx hb dL_law_866 rfl (lv_at hl 7 rfl) ?_
      refine lv_iconst (v := 3) hx hb dL_law_867 (by decide) ?_
      refine lv_iload hx hb dL_law_868 (lv_at hl 1 rfl) ?_
      refine lv_iconst (v := 0) hx hb dL_law_870 (by decide) ?_
      refine lv_iconst (v := 0) hx hb dL_law_871 (by decide) ?_
      have hP : va_P D vwCl (([(xn, .inl (cyI, 10, .inl nf_3)), (xb, .inl (cyI, 36, .inl bf)), (xd, .inl (cyI, 40, .inl df)), (xa, .inl (cyI, 40, .inl af)), (xl, .inl (cyI, 40, .inl lf)), (xp, .inl (cyI, 40, .inl pf))] : va_W) ++ G) H := hP
      have hD : va_D A (([(xn, .inl (cyI, 10, .inl nf_3)), (xb, .inl (cyI, 36, .inl bf)), (xd, .inl (cyI, 40, .inl df)), (xa, .inl (cyI, 40, .inl af)), (xl, .inl (cyI, 40, .inl lf)), (xp, .inl (cyI, 40, .inl pf))] : va_W) ++ G) := hD
      have hF_4 := gk_all hD hS hA
      refine va_calli (vx_runSW (As := [.ref g, .int 3, .int (nI AM), .int 0, .int 0]) (rest := []) ⟨hx, hb, hml, hown, hts⟩ (kL_does_match l hst D cyI cyZ cyL cyV cyJ gr sh rt ce nl nv am nc cd bud fsd las isB mto maw lno dya amo rfd ord cpa lnf orf g ([(xn, .inl (cyI, 10, .inl nf_3)), (xb, .inl (cyI, 36, .inl bf)), (xd, .inl (cyI, 40, .inl df)), (xa, .inl (cyI, 40, .inl af)), (xl, .inl (cyI, 40, .inl lf)), (xp, .inl (cyI, 40, .inl pf))] : va_W) G hG (nI AM) 0 0 H.size _ rfl) (vx_cwSW 5 hts gL_law_L_does rfl rfl rfl (by decide +kernel) ⟨(Nat.le_of_ble_eq_true rfl), (Nat.le_of_ble_eq_true rfl)⟩) (gk_preSN hNC hTF hS hF_4 hP hK hD) rfl rfl hl.1 rfl (lv_room (Nat.le_of_ble_eq_true rfl)) dL_law_872 ⟨(by show _ ≤ (706465 : Nat); omega), (by show _ ≤ (6982228 : Nat); omega)⟩) hS (fun q _ h => hF_4 q h) hF_4 (fun r_4 u_4 t_4 H locs ht_4 hvm_4 hw_4 hB_4 hz_4 hk_4 hS => ?_)
      obtain ⟨hP, hD⟩ := gk_back hF_4 hB_4 ht_4
      have hP : va_P D vwCl ((xn, .inl (cyI, 10, .inl nf_3)) :: (xb, .inl (cyI, 36, .inl bf)) :: (xd, .inl (cyI, 40, .inl df)) :: (xa, .inl (cyI, 40, .inl af)) :: (xl, .inl (cyI, 40, .inl lf)) :: (xp, .inl (cyI, 40, .inl pf)) :: u_4) H := hP
      have hD : va_D A ((xn, .inl (cyI, 10, .inl nf_3)) :: (xb, .inl (cyI, 36, .inl bf)) :: (xd, .inl (cyI, 40, .inl df)) :: (xa, .inl (cyI, 40, .inl af)) :: (xl, .inl (cyI, 40, .inl lf)) :: (xp, .inl (cyI, 40, .inl pf)) :: u_4) := hD
      have hcd_4 := pA_mt2 (am := am) (M := AM) hA1 hA2 (Int32.not_le.mpr c_1)
      rcases hw_4 with ⟨hc_4, hr_4, hG_4⟩ | ⟨hc_4, hr_4, hG_4⟩ | ⟨hc_4, hr_4, hG_4⟩
      · exact absurd (hcd_4.symm.trans hc_4) (by decide)
      · exact absurd (hcd_4.symm.trans hc_4) (by decide)
      · subst hr_4
        have hid : nf_3 = nf := by rw [enf_3]; exact pUpId (by rw [hn6, Int32.add_zero])
        rw [hid] at hP hD
        refine lv_iload hx hb dL_law_875 (lv_at hl 0 rfl) ?_
        refine lv_if_eq (tgt := 887) hx hb dL_law_877 (by decide) (fun _ => ?_) (fun c => by first | exact absurd c (by decide) | exact absurd (by decide) c)
        refine lv_ldc hx hb hown (hts0 (.constant RL 58 (-2000000013)) wq_1_13) dL_law_887 ?_
        refine lv_icmp_ne (tgt := 896) hx hb dL_law_889 (by decide) (fun c => by first | exact absurd c (by decide) | exact absurd (by decide) c) (fun _ => ?_)
        refine lv_iconst (v := 1) hx hb dL_law_892 (by decide) ?_
        refine lv_goto (tgt := 897) hx hb dL_law_893 (by decide) ?_
        refine lv_istore (lv' := [(8, .int 1), (16, .int 0), (15, .int (nI AM)), (14, .int (nI (Y / 6 % 100 * 5))), (13, .int (nI LN)), (12, .int (nI Y)), (9, .int (nI j)), (0, .ref b), (1, .ref g), (2, .ref xn), (3, .ref xb), (4, .ref xd), (5, .ref xa), (6, .ref xl), (7, .ref xp)]) hx hb dL_law_897 hl (by decide) rfl (fun ls hl => ?_)
        refine lv_goto (tgt := 1317) hx hb dL_law_899 (by decide) ?_
        refine W.widen (k := 400 + 2000 * j + 1000) (n := 2000 + 20000 * j + 10000) (by omega) (by omega) ?_
        exact tl _ _ _ _ _ _ _ _ _ _ _ _ _ _ _ _ _ _ _ _ _ _ _ nf bf df af lf pf u_4 _ _ _ Y hG_4 hR hX hT (by omega) (by omega) hP hD hS (lv_sub hl [0, 5, 6, 7, 8, 9, 10, 11, 12, 13, 14] rfl)
    · refine lv_iconst (v := 1) hx hb dL_law_841 (by decide) ?_
      refine lv_goto (tgt := 846) hx hb dL_law_842 (by decide) ?_
      refine lv_istore (lv' := [(16, .int 1), (15, .int (nI AM)), (14, .int (nI (Y / 6 % 100 * 5))), (13, .int (nI LN)), (12, .int (nI Y)), (9, .int (nI j)), (0, .ref b), (1, .ref g), (2, .ref xn), (3, .ref xb), (4, .ref xd), (5, .ref xa), (6, .ref xl), (7, .ref xp)]) hx hb dL_law_846 hl (by decide) rfl (fun ls hl => ?_)
      refine lv_aload_n hx hb dL_law_848 rfl (lv_at hl 8 rfl) ?_
      refine lv_bipush (v := 6) hx hb dL_law_849 (by decide) ?_
      refine lv_dup2_11 hx hb dL_law_851 rfl rfl ?_
      refine gk_iald (i := 6) hx hb hK hP 0 0 rfl rfl (by omega) (by decide) dL_law_852 ?_
      rw [hn6]
      refine lv_iload hx hb dL_law_853 (lv_at hl 0 rfl) ?_
      refine lv_if_eq (tgt := 863) hx hb dL_law_855 (by decide) (fun c => by first | exact absurd c (by decide) | exact absurd (by decide) c) (fun _ => ?_)
      refine lv_iload hx hb dL_law_858 (lv_at hl 1 rfl) ?_
      refine lv_goto (tgt := 864) hx hb dL_law_860 (by decide) ?_
      refine lv_iadd hx hb dL_law_864 ?_
      refine gk_iast (i := 6) hx hb hK hP hD hS 0 0 rfl rfl (by omega) (by decide) dL_law_865 (fun H locs hP hD hS => ?_)
      have hP : va_P D vwCl ((xn, .inl (cyI, 10, .inl (va_up nf 6 (am + (nI AM))))) :: (xb, .inl (cyI, 36, .inl bf)) :: (xd, .inl (cyI, 40, .inl df)) :: (xa, .inl (cyI, 40, .inl af)) :: (xl, .inl (cyI, 40, .inl lf)) :: (xp, .inl (cyI, 40, .inl pf)) :: G) H := hP
      have hD : va_D A ((xn, .inl (cyI, 10, .inl (va_up nf 6 (am + (nI AM))))) :: (xb, .inl (cyI, 36, .inl bf)) :: (xd, .inl (cyI, 40, .inl df)) :: (xa, .inl (cyI, 40, .inl af)) :: (xl, .inl (cyI, 40, .inl lf)) :: (xp, .inl (cyI, 40, .inl pf)) :: G) := hD
      obtain ⟨nf_8, enf_8⟩ : ∃ z, z = (va_up nf 6 (am + (nI AM))) := ⟨_, rfl⟩
      rw [← enf_8] at hP hD
      refine lv_aload_n hx hb dL_law_866 rfl (lv_at hl 7 rfl) ?_
      refine lv_iconst (v := 3) hx hb dL_law_867 (by decide) ?_
      refine lv_iload hx hb dL_law_868 (lv_at hl 1 rfl) ?_
      refine lv_iconst (v := 0) hx hb dL_law_870 (by decide) ?_
      refine lv_iconst (v := 0) hx hb dL_law_871 (by decide) ?_
      have hP : va_P D vwCl (([(xn, .inl (cyI, 10, .inl nf_8)), (xb, .inl (cyI, 36, .inl bf)), (xd, .inl (cyI, 40, .inl df)), (xa, .inl (cyI, 40, .inl af)), (xl, .inl (cyI, 40, .inl lf)), (xp, .inl (cyI, 40, .inl pf))] : va_W) ++ G) H := hP
      have hD : va_D A (([(xn, .inl (cyI, 10, .inl nf_8)), (xb, .inl (cyI, 36, .inl bf)), (xd, .inl (cyI, 40, .inl df)), (xa, .inl (cyI, 40, .inl af)), (xl, .inl (cyI, 40, .inl lf)), (xp, .inl (cyI, 40, .inl pf))] : va_W) ++ G) := hD
      have hF_9 := gk_all hD hS hA
      refine va_calli (vx_runSW (As := [.ref g, .int 3, .int (nI AM), .int 0, .int 0]) (rest := []) ⟨hx, hb, hml, hown, hts⟩ (kL_does_match l hst D cyI cyZ cyL cyV cyJ gr sh rt ce nl nv am nc cd bud fsd las isB mto maw lno dya amo rfd ord cpa lnf orf g ([(xn, .inl (cyI, 10, .inl nf_8)), (xb, .inl (cyI, 36, .inl bf)), (xd, .inl (cyI, 40, .inl df)), (xa, .inl (cyI, 40, .inl af)), (xl, .inl (cyI, 40, .inl lf)), (xp, .inl (cyI, 40, .inl pf))] : va_W) G hG (nI AM) 0 0 H.size _ rfl) (vx_cwSW 5 hts gL_law_L_does rfl rfl rfl (by decide +kernel) ⟨(Nat.le_of_ble_eq_true rfl), (Nat.le_of_ble_eq_true rfl)⟩) (gk_preSN hNC hTF hS hF_9 hP hK hD) rfl rfl hl.1 rfl (lv_room (Nat.le_of_ble_eq_true rfl)) dL_law_872 ⟨(by show _ ≤ (706465 : Nat); omega), (by show _ ≤ (6982228 : Nat); omega)⟩) hS (fun q _ h => hF_9 q h) hF_9 (fun r_9 u_9 t_9 H locs ht_9 hvm_9 hw_9 hB_9 hz_9 hk_9 hS => ?_)
      obtain ⟨hP, hD⟩ := gk_back hF_9 hB_9 ht_9
      have hP : va_P D vwCl ((xn, .inl (cyI, 10, .inl nf_8)) :: (xb, .inl (cyI, 36, .inl bf)) :: (xd, .inl (cyI, 40, .inl df)) :: (xa, .inl (cyI, 40, .inl af)) :: (xl, .inl (cyI, 40, .inl lf)) :: (xp, .inl (cyI, 40, .inl pf)) :: u_9) H := hP
      have hD : va_D A ((xn, .inl (cyI, 10, .inl nf_8)) :: (xb, .inl (cyI, 36, .inl bf)) :: (xd, .inl (cyI, 40, .inl df)) :: (xa, .inl (cyI, 40, .inl af)) :: (xl, .inl (cyI, 40, .inl lf)) :: (xp, .inl (cyI, 40, .inl pf)) :: u_9) := hD
      have hcd_9 := pA_mt0 (am := am) (M := AM) hA1 hA2 (Int32.not_lt.mp c_1)
      rcases hw_9 with ⟨hc_9, hr_9, hG_9⟩ | ⟨hc_9, hr_9, hG_9⟩ | ⟨hc_9, hr_9, hG_9⟩
      · subst hr_9
        have hX9 := pX_match hX enf_8
        have hR9 := pR_nf hR (nf' := nf_8) (fun k hk => by rw [enf_8, va_up_ne _ _ (by omega)])
        refine lv_iload hx hb dL_law_875 (lv_at hl 0 rfl) ?_
        refine lv_if_eq (tgt := 887) hx hb dL_law_877 (by decide) (fun c => by first | exact absurd c (by decide) | exact absurd (by decide) c) (fun _ => ?_)
        refine lv_aload_n hx hb dL_law_880 rfl (lv_at hl 8 rfl) ?_
        refine lv_bipush (v := 6) hx hb dL_law_881 (by decide) ?_
        refine gk_iald (i := 6) hx hb hK hP 0 0 rfl rfl (by omega) (by decide) dL_law_883 ?_
        rw [show nf_8 6 = (am + (nI AM)) from by rw [enf_8, va_up_self]]
        refine lv_goto (tgt := 889) hx hb dL_law_884 (by decide) ?_
        refine lv_icmp_ne (tgt := 896) hx hb dL_law_889 (by decide) (fun c9 => absurd rfl c9) (fun _ => ?_)
        refine lv_iconst (v := 1) hx hb dL_law_892 (by decide) ?_
        refine lv_goto (tgt := 897) hx hb dL_law_893 (by decide) ?_
        refine lv_istore (lv' := [(8, .int 1), (16, .int 1), (15, .int (nI AM)), (14, .int (nI (Y / 6 % 100 * 5))), (13, .int (nI LN)), (12, .int (nI Y)), (9, .int (nI j)), (0, .ref b), (1, .ref g), (2, .ref xn), (3, .ref xb), (4, .ref xd), (5, .ref xa), (6, .ref xl), (7, .ref xp)]) hx hb dL_law_897 hl (by decide) rfl (fun ls hl => ?_)
        refine lv_goto (tgt := 1317) hx hb dL_law_899 (by decide) ?_
        refine W.widen (k := 400 + 2000 * j + 1000) (n := 2000 + 20000 * j + 10000) (by omega) (by omega) ?_
        exact tl _ _ _ _ _ _ _ _ _ _ _ _ _ _ _ _ _ _ _ _ _ _ _ nf_8 bf df af lf pf u_9 _ _ _ Y hG_9 hR9 hX9 hT (by omega) (by omega) hP hD hS (lv_sub hl [0, 5, 6, 7, 8, 9, 10, 11, 12, 13, 14] rfl)
      · exact absurd (hcd_9.symm.trans hc_9) (by decide)
      · exact absurd (hcd_9.symm.trans hc_9) (by decide)
  refine lv_iload hx hb dL_law_798 (lv_at hl 2 rfl) ?_
  refine lv_iconst (v := 4) hx hb dL_law_800 (by decide) ?_
  refine lv_irem hx hb dL_law_801 (by decide) ?_
  refine lv_topi (fun y_11 h_11 => ?_)
  obtain rfl : y_11 = (nI (Y % 4)) := h_11.trans (pk_rem (a := Y) (d := 4) (by omega) (by omega) (by omega))
  refine lv_if_ne (tgt := 817) hx hb dL_law_802 (by decide) (fun c_12 => ?_) (fun c_12 => ?_)
  · have n_12 : ¬ (Y % 4) = 0 := pf_neq (a := (Y % 4)) (b := 0) (by omega) (by omega) c_12
    refine lv_iconst (v := 1) hx hb dL_law_817 (by decide) ?_
    refine lv_iload hx hb dL_law_818 (lv_at hl 2 rfl) ?_
    refine lv_iconst (v := 4) hx hb dL_law_820 (by decide) ?_
    refine lv_idiv hx hb dL_law_821 (by decide) ?_
    refine lv_topi (fun y_13 h_13 => ?_)
    obtain rfl : y_13 = (nI (Y / 4)) := h_13.trans (pk_div (a := Y) (d := 4) (by omega) (by omega) (by omega))
    refine lv_sipush (v := 20000) hx hb dL_law_822 (by decide) ?_
    refine lv_irem hx hb dL_law_825 (by decide) ?_
    refine lv_topi (fun y_14 h_14 => ?_)
    obtain rfl : y_14 = (nI ((Y / 4) % 20000)) := h_14.trans (pk_rem (a := (Y / 4)) (d := 20000) (by omega) (by omega) (by omega))
    refine lv_iadd hx hb dL_law_826 ?_
    refine lv_topi (fun y_15 h_15 => ?_)
    obtain rfl : y_15 = (nI (1 + ((Y / 4) % 20000))) := h_15.trans (nI_add 1 ((Y / 4) % 20000))
    exact cutA (1 + ((Y / 4) % 20000)) (by omega) (by omega) _ hl
  · have n_12 : (Y % 4) = 0 := pf_eq (a := (Y % 4)) (b := 0) (by omega) (by omega) c_12
    refine lv_iconst (v := 1) hx hb dL_law_805 (by decide) ?_
    refine lv_iload hx hb dL_law_806 (lv_at hl 2 rfl) ?_
    refine lv_iconst (v := 4) hx hb dL_law_808 (by decide) ?_
    refine lv_idiv hx hb dL_law_809 (by decide) ?_
    refine lv_topi (fun y_16 h_16 => ?_)
    obtain rfl : y_16 = (nI (Y / 4)) := h_16.trans (pk_div (a := Y) (d := 4) (by omega) (by omega) (by omega))
    refine lv_ldc hx hb hown (hts0 (.constant RL 124 (10000000)) wq_1_10) dL_law_810 ?_
    refine lv_irem hx hb dL_law_812 (by decide) ?_
    refine lv_topi (fun y_17 h_17 => ?_)
    obtain rfl : y_17 = (nI ((Y / 4) % 10000000)) := h_17.trans (pk_rem (a := (Y / 4)) (d := 10000000) (by omega) (by omega) (by omega))
    refine lv_iadd hx hb dL_law_813 ?_
    refine lv_topi (fun y_18 h_18 => ?_)
    obtain rfl : y_18 = (nI (1 + ((Y / 4) % 10000000))) := h_18.trans (nI_add 1 ((Y / 4) % 10000000))
    refine lv_goto (tgt := 827) hx hb dL_law_814 (by decide) ?_
    exact cutA (1 + ((Y / 4) % 10000000)) (by omega) (by omega) _ hl
