set_option maxHeartbeats 40000000 in
set_option maxRecDepth 100000 in
theorem pLoop {p : Program} {l : Launch} {e : Env} {s : State} {m : MethodId} {below : List Frame} {meth : Method} {c : Code} (hst : l.stackTraces = false) {D : va_G} {cyI cyZ cyL cyV cyJ : ClassId} {b L : Nat} {xs : Nat → Int32} (hL : L ≤ 260) (CA : lw_At p s m meth c b L xs) {A : Nat → Prop} (hAd : A = fun q : Nat => s.heap.size ≤ q) (hTF : gTF A s s.heap) (hNC : gNC s) (hK : va_K D vwCl (gTy cyI cyZ cyL cyV cyJ) s) (g xn xb xd xa xl xp : Nat) :
    ∀ (n j : Nat) (gr sh rt ce : Int32) (nl nv : Nat) (am : Int32) (nc : Nat) (cd : Int32) (bud fsd las isB mto maw lno dya amo rfd ord cpa : Nat → Int32) (lnf orf : Nat → Nat) (nf bf df af lf pf : Nat → Int32) (G : va_W) (H : Heap) (locs : List Loc) (ls : Array Slot), j ≤ 60 → 61 ≤ j + n → gGP cyI cyL cyV gr sh rt ce nl nv am nc cd bud fsd las isB mto maw lno dya amo rfd ord cpa lnf orf g G → pRB nl nv gr sh rt ce bud fsd las isB mto maw dya amo rfd lnf nf bf df af lf → pRX nl am nc cd cpa nf bf pf → pST nv dya orf → (j ≤ nl ∨ 3 ≤ nl) → va_P D vwCl ((xn, .inl (cyI, 10, .inl nf)) :: (xb, .inl (cyI, 36, .inl bf)) :: (xd, .inl (cyI, 40, .inl df)) :: (xa, .inl (cyI, 40, .inl af)) :: (xl, .inl (cyI, 40, .inl lf)) :: (xp, .inl (cyI, 40, .inl pf)) :: G) H → va_D A ((xn, .inl (cyI, 10, .inl nf)) :: (xb, .inl (cyI, 36, .inl bf)) :: (xd, .inl (cyI, 40, .inl df)) :: (xa, .inl (cyI, 40, .inl af)) :: (xl, .inl (cyI, 40, .inl lf)) :: (xp, .inl (cyI, 40, .inl pf)) :: G) → va_S A s.heap H locs → lv_has ls 20 [(8, .int 1), (9, .int (nI j)), (0, .ref b), (1, .ref g), (2, .ref xn), (3, .ref xb), (4, .ref xd), (5, .ref xa), (6, .ref xl), (7, .ref xp)] → W p l e room_1 s m #[Value.ref b] below meth c H locs (400 + 2000 * j) (2000 + 20000 * j) (lw_Z below #[Value.ref b] s) (F0 m 82 ls []) := by
  obtain ⟨hx, hb, hr, hml, hown, hts0, hX0, hbs, hlocks, hgv⟩ := id CA
  have hts : ∀ w ∈ wsL_law, w.before #[Value.ref b] s = true := fun w h => hts0 w (wsL_law_in w h)
  have hA : ∀ q : Nat, s.heap.size ≤ q → A q := fun q h => by rw [hAd]; exact h
  have hbA : ¬ A b := by rw [hAd]; exact Nat.not_le.mpr hbs
  intro n
  induction n with
  | zero => intro j gr sh rt ce nl nv am nc cd bud fsd las isB mto maw lno dya amo rfd ord cpa lnf orf nf bf df af lf pf G H locs ls h1 h2; exact absurd h2 (by omega)
  | succ n ih =>
    intro j gr sh rt ce nl nv am nc cd bud fsd las isB mto maw lno dya amo rfd ord cpa lnf orf nf bf df af lf pf G H locs ls hj60 h2 hG hR hX hT hjn hP hD hS hl
    refine lv_iload hx hb dL_law_82 (lv_at hl 1 rfl) ?_
    refine lv_bipush (v := 60) hx hb dL_law_84 (by decide) ?_
    refine lv_icmp_ge (tgt := 1354) hx hb dL_law_86 (by decide) (fun c_1 => ?_) (fun c_1 => ?_)
    · have n_1 : 60 ≤ j := pf_le (a := 60) (b := j) (by omega) (by omega) c_1
      refine lv_iload hx hb dL_law_1354 (lv_at hl 0 rfl) ?_
      refine va_forget (fun q hq => by have h9 := hS.2.2 q hq; rw [hAd] at h9; exact h9) ?_
      refine W.widen (k := 706465) (n := 6982228) (by omega) (by omega) ?_
      exact lw_ret hx hb hr hlocks dL_law_1356
    · have n_1 : j < 60 := pf_nle (a := 60) (b := j) (by omega) (by omega) c_1
      refine lv_iload hx hb dL_law_89 (lv_at hl 0 rfl) ?_
      refine lv_if_eq (tgt := 1354) hx hb dL_law_91 (by decide) (fun c => by first | exact absurd c (by decide) | exact absurd (by decide) c) (fun _ => ?_)
      have hj : j < 60 := by omega
      have tl : pTail p l e s m below meth c D cyI cyZ cyL cyV cyJ b g xn xb xd xa xl xp A j := by
        intro gr sh rt ce nl nv am nc cd bud fsd las isB mto maw lno dya amo rfd ord cpa lnf orf nf bf df af lf pf G H locs ls Y hG hR hX hT hjn hY hP hD hS hl
        refine lv_iload hx hb dL_law_1317 (lv_at hl 0 rfl) ?_
        refine lv_if_eq (tgt := 1345) hx hb dL_law_1319 (by decide) (fun c => by first | exact absurd c (by decide) | exact absurd (by decide) c) (fun _ => ?_)
        refine lv_aload_n hx hb dL_law_1322 rfl (lv_at hl 4 rfl) ?_
        refine lv_aload_n hx hb dL_law_1323 rfl (lv_at hl 5 rfl) ?_
        refine lv_aload_n hx hb dL_law_1324 rfl (lv_at hl 6 rfl) ?_
        refine lv_aload hx hb dL_law_1325 (lv_at hl 7 rfl) ?_
        refine lv_aload hx hb dL_law_1327 (lv_at hl 8 rfl) ?_
        refine lv_aload hx hb dL_law_1329 (lv_at hl 9 rfl) ?_
        refine lv_aload hx hb dL_law_1331 (lv_at hl 10 rfl) ?_
        refine lv_iload hx hb dL_law_1333 (lv_at hl 1 rfl) ?_
        have hF_4 := gk_all hD hS hA
        refine va_calli (va_runS (As := [.ref g, .ref xn, .ref xb, .ref xd, .ref xa, .ref xl, .ref xp, .int (nI Y)]) (rest := []) ⟨hx, hb, hml, hown, hts⟩ (kL_isBook l hst D cyI cyZ cyL cyV cyJ gr sh rt ce nl nv am nc cd bud fsd las isB mto maw lno dya amo rfd ord cpa lnf orf g xn xb xd xa xl xp nf bf df af lf pf G hG hR hX hT Y (by omega) H.size _ rfl) (va_cwS 8 hts gL_law_L_isBook rfl rfl rfl (by decide +kernel) ⟨(Nat.le_of_ble_eq_true rfl), (Nat.le_of_ble_eq_true rfl)⟩) (gk_preST hTF hS hF_4 hP hK hD) rfl rfl hl.1 rfl (lv_room (Nat.le_of_ble_eq_true rfl)) dL_law_1335 ⟨(by show _ ≤ (706465 : Nat); omega), (by show _ ≤ (6982228 : Nat); omega)⟩) hS (fun q _ h => hF_4 q h) hF_4 (fun r_4 u_4 t_4 H locs ht_4 hvm_4 hw_4 hB_4 hz_4 hk_4 hS => ?_)
        obtain ⟨hP, hD⟩ := gk_back hF_4 hB_4 ht_4
        subst hw_4
        refine lv_if_eq (tgt := 1345) hx hb dL_law_1338 (by decide) (fun c => by first | exact absurd c (by decide) | exact absurd (by decide) c) (fun _ => ?_)
        refine lv_iconst (v := 1) hx hb dL_law_1341 (by decide) ?_
        refine lv_goto (tgt := 1346) hx hb dL_law_1342 (by decide) ?_
        refine lv_istore (lv' := [(8, .int 1), (12, .int (nI Y)), (9, .int (nI j)), (0, .ref b), (1, .ref g), (2, .ref xn), (3, .ref xb), (4, .ref xd), (5, .ref xa), (6, .ref xl), (7, .ref xp)]) hx hb dL_law_1346 hl (by decide) rfl (fun ls hl => ?_)
        refine lv_iinc (v := nI (j + 1)) (lv' := [(9, .int (nI (j + 1))), (8, .int 1), (12, .int (nI Y)), (0, .ref b), (1, .ref g), (2, .ref xn), (3, .ref xb), (4, .ref xd), (5, .ref xa), (6, .ref xl), (7, .ref xp)]) hx hb dL_law_1348 hl (k := 2) rfl (by show nI j + 1 = nI (j + 1); exact nI_1 _) (by decide) rfl (fun ls hl => ?_)
        refine lv_goto (tgt := 82) hx hb dL_law_1351 (by decide) ?_
        refine W.widen (k := 400 + 2000 * (j + 1)) (n := 2000 + 20000 * (j + 1)) (by omega) (by omega) ?_
        exact ih (j + 1) _ _ _ _ _ _ _ _ _ _ _ _ _ _ _ _ _ _ _ _ _ _ _ _ _ _ _ _ _ _ _ _ _ (by omega) (by omega) hG hR hX hT hjn hP hD hS (lv_sub hl [1, 0, 3, 4, 5, 6, 7, 8, 9, 10] rfl)
      obtain ⟨⟨hnl, hnv⟩, ⟨hn0, hn1, hn2, hn3, hn5⟩, hbl, hvl⟩ := id hR
      obtain ⟨hn4, hn6, hn7, hn8, hn9, hpf, hbz⟩ := id hX
      have cutX : ∀ (X : Nat) (hX31 : X < 2 ^ 31) (ls : Array Slot), lv_has ls 20 [(8, .int 1), (9, .int (nI j)), (0, .ref b), (1, .ref g), (2, .ref xn), (3, .ref xb), (4, .ref xd), (5, .ref xa), (6, .ref xl), (7, .ref xp)] → W p l e room_1 s m #[Value.ref b] below meth c H locs (400 + 2000 * j) (2000 + 20000 * j) (lw_Z below #[Value.ref b] s) (F0 m 132 ls [.int (nI X)]) := by
        intro X hX31 ls hl
        refine lv_istore (lv' := [(10, .int (nI X)), (8, .int 1), (9, .int (nI j)), (0, .ref b), (1, .ref g), (2, .ref xn), (3, .ref xb), (4, .ref xd), (5, .ref xa), (6, .ref xl), (7, .ref xp)]) hx hb dL_law_132 hl (by decide) rfl (fun ls hl => ?_)
        have cutK : ∀ (KD : Nat) (hKD : KD < 16) (hK0 : j < 3 → KD = 0) (ls : Array Slot), lv_has ls 20 [(10, .int (nI X)), (8, .int 1), (9, .int (nI j)), (0, .ref b), (1, .ref g), (2, .ref xn), (3, .ref xb), (4, .ref xd), (5, .ref xa), (6, .ref xl), (7, .ref xp)] → W p l e room_1 s m #[Value.ref b] below meth c H locs (400 + 2000 * j) (2000 + 20000 * j) (lw_Z below #[Value.ref b] s) (F0 m 149 ls [.int (nI KD)]) := by
          intro KD hKD hK0 ls hl
          refine lv_istore (lv' := [(11, .int (nI KD)), (10, .int (nI X)), (8, .int 1), (9, .int (nI j)), (0, .ref b), (1, .ref g), (2, .ref xn), (3, .ref xb), (4, .ref xd), (5, .ref xa), (6, .ref xl), (7, .ref xp)]) hx hb dL_law_149 hl (by decide) rfl (fun ls hl => ?_)
          refine lv_iload hx hb dL_law_151 (lv_at hl 1 rfl) ?_
          refine lv_bipush (v := 16) hx hb dL_law_153 (by decide) ?_
          refine lv_idiv hx hb dL_law_155 (by decide) ?_
          refine lv_topi (fun y_6 h_6 => ?_)
          obtain rfl : y_6 = (nI (X / 16)) := h_6.trans (pk_div (a := X) (d := 16) (by omega) (by omega) (by omega))
          refine lv_istore (lv' := [(12, .int (nI (X / 16))), (11, .int (nI KD)), (10, .int (nI X)), (8, .int 1), (9, .int (nI j)), (0, .ref b), (1, .ref g), (2, .ref xn), (3, .ref xb), (4, .ref xd), (5, .ref xa), (6, .ref xl), (7, .ref xp)]) hx hb dL_law_156 hl (by decide) rfl (fun ls hl => ?_)
          have cutL : ∀ (LN : Nat) (hLN : 0 < nl → LN < nl) (ls : Array Slot), lv_has ls 20 [(12, .int (nI (X / 16))), (11, .int (nI KD)), (10, .int (nI X)), (8, .int 1), (9, .int (nI j)), (0, .ref b), (1, .ref g), (2, .ref xn), (3, .ref xb), (4, .ref xd), (5, .ref xa), (6, .ref xl), (7, .ref xp)] → W p l e room_1 s m #[Value.ref b] below meth c H locs (400 + 2000 * j) (2000 + 20000 * j) (lw_Z below #[Value.ref b] s) (F0 m 174 ls [.int (nI LN)]) := by
            intro LN hLN ls hl
            refine lv_istore (lv' := [(13, .int (nI LN)), (12, .int (nI (X / 16))), (11, .int (nI KD)), (10, .int (nI X)), (8, .int 1), (9, .int (nI j)), (0, .ref b), (1, .ref g), (2, .ref xn), (3, .ref xb), (4, .ref xd), (5, .ref xa), (6, .ref xl), (7, .ref xp)]) hx hb dL_law_174 hl (by decide) rfl (fun ls hl => ?_)
            refine lv_iload hx hb dL_law_176 (lv_at hl 1 rfl) ?_
            refine lv_bipush (v := 6) hx hb dL_law_178 (by decide) ?_
            refine lv_idiv hx hb dL_law_180 (by decide) ?_
            refine lv_topi (fun y_7 h_7 => ?_)
            obtain rfl : y_7 = (nI ((X / 16) / 6)) := h_7.trans (pk_div (a := (X / 16)) (d := 6) (by omega) (by omega) (by omega))
            refine lv_bipush (v := 100) hx hb dL_law_181 (by decide) ?_
            refine lv_irem hx hb dL_law_183 (by decide) ?_
            refine lv_topi (fun y_8 h_8 => ?_)
            obtain rfl : y_8 = (nI (((X / 16) / 6) % 100)) := h_8.trans (pk_rem (a := ((X / 16) / 6)) (d := 100) (by omega) (by omega) (by omega))
            refine lv_iconst (v := 5) hx hb dL_law_184 (by decide) ?_
            refine lv_imul hx hb dL_law_185 ?_
            refine lv_topi (fun y_9 h_9 => ?_)
            obtain rfl : y_9 = (nI ((((X / 16) / 6) % 100) * 5)) := h_9.trans (pk_mul (((X / 16) / 6) % 100) 5)
            refine lv_istore (lv' := [(14, .int (nI ((((X / 16) / 6) % 100) * 5))), (13, .int (nI LN)), (12, .int (nI (X / 16))), (11, .int (nI KD)), (10, .int (nI X)), (8, .int 1), (9, .int (nI j)), (0, .ref b), (1, .ref g), (2, .ref xn), (3, .ref xb), (4, .ref xd), (5, .ref xa), (6, .ref xl), (7, .ref xp)]) hx hb dL_law_186 hl (by decide) rfl (fun ls hl => ?_)
            refine lv_iload hx hb dL_law_188 (lv_at hl 3 rfl) ?_
            refine lv_if_ne (tgt := 348) hx hb dL_law_190 (by decide) (fun c_10 => ?_) (fun c_10 => ?_)
            · have n_10 : ¬ KD = 0 := pf_neq (a := KD) (b := 0) (by omega) (by omega) c_10
              refine lv_iload hx hb dL_law_348 (lv_at hl 3 rfl) ?_
              refine lv_bipush (v := 7) hx hb dL_law_350 (by decide) ?_
              refine lv_icmp_ge (tgt := 459) hx hb dL_law_352 (by decide) (fun c_11 => ?_) (fun c_11 => ?_)
              · have n_11 : 7 ≤ KD := pf_le (a := 7) (b := KD) (by omega) (by omega) c_11
                refine lv_iload hx hb dL_law_459 (lv_at hl 3 rfl) ?_
                refine lv_bipush (v := 9) hx hb dL_law_461 (by decide) ?_
                refine lv_icmp_ge (tgt := 626) hx hb dL_law_463 (by decide) (fun c_12 => ?_) (fun c_12 => ?_)
                · have n_12 : 9 ≤ KD := pf_le (a := 9) (b := KD) (by omega) (by omega) c_12
                  refine lv_iload hx hb dL_law_626 (lv_at hl 3 rfl) ?_
                  refine lv_bipush (v := 12) hx hb dL_law_628 (by decide) ?_
                  refine lv_icmp_ge (tgt := 791) hx hb dL_law_630 (by decide) (fun c_13 => ?_) (fun c_13 => ?_)
                  · have n_13 : 12 ≤ KD := pf_le (a := 12) (b := KD) (by omega) (by omega) c_13
                    refine lv_iload hx hb dL_law_791 (lv_at hl 3 rfl) ?_
                    refine lv_bipush (v := 12) hx hb dL_law_793 (by decide) ?_
                    refine lv_icmp_ne (tgt := 902) hx hb dL_law_795 (by decide) (fun c_14 => ?_) (fun c_14 => ?_)
                    · have n_14 : ¬ KD = 12 := pf_neq (a := KD) (b := 12) (by omega) (by omega) c_14
                      refine lv_iload hx hb dL_law_902 (lv_at hl 3 rfl) ?_
                      refine lv_bipush (v := 13) hx hb dL_law_904 (by decide) ?_
                      refine lv_icmp_ne (tgt := 1052) hx hb dL_law_906 (by decide) (fun c_15 => ?_) (fun c_15 => ?_)
                      · have n_15 : ¬ KD = 13 := pf_neq (a := KD) (b := 13) (by omega) (by omega) c_15
                        refine lv_iload hx hb dL_law_1052 (lv_at hl 3 rfl) ?_
                        refine lv_bipush (v := 14) hx hb dL_law_1054 (by decide) ?_
                        refine lv_icmp_ne (tgt := 1130) hx hb dL_law_1056 (by decide) (fun c_16 => ?_) (fun c_16 => ?_)
                        · have n_16 : ¬ KD = 14 := pf_neq (a := KD) (b := 14) (by omega) (by omega) c_16
                          exact pD_set hst hL CA hAd hTF hNC hK hj tl (Y := X / 16) (LN := LN) (by omega) hG hR hX hT (by omega) hP hD hS (lv_sub hl [0, 1, 2, 6, 7, 8, 9, 10, 11, 12, 13, 14] rfl)
                        · have n_16 : KD = 14 := pf_eq (a := KD) (b := 14) (by omega) (by omega) c_16
                          exact pD_extend hst hL CA hAd hTF hNC hK hj tl (Y := X / 16) (LN := LN) (by omega) hG hR hX hT (hLN (by omega)) (by omega) hP hD hS (lv_sub hl [0, 1, 2, 6, 7, 8, 9, 10, 11, 12, 13, 14] rfl)
                      · have n_15 : KD = 13 := pf_eq (a := KD) (b := 13) (by omega) (by omega) c_15
                        exact pD_claim hst hL CA hAd hTF hNC hK hj tl (Y := X / 16) (LN := LN) (by omega) hG hR hX hT (by omega) hP hD hS (lv_sub hl [0, 1, 2, 6, 7, 8, 9, 10, 11, 12, 13, 14] rfl)
                    · have n_14 : KD = 12 := pf_eq (a := KD) (b := 12) (by omega) (by omega) c_14
                      exact pD_match hst hL CA hAd hTF hNC hK hj tl (Y := X / 16) (LN := LN) (by omega) hG hR hX hT (by omega) hP hD hS (lv_sub hl [0, 1, 2, 6, 7, 8, 9, 10, 11, 12, 13, 14] rfl)
                  · have n_13 : KD < 12 := pf_nle (a := 12) (b := KD) (by omega) (by omega) c_13
                    refine lv_aload_n hx hb dL_law_633 rfl (lv_at hl 9 rfl) ?_
                    refine lv_iconst (v := 5) hx hb dL_law_634 (by decide) ?_
                    refine gk_iald (i := 5) hx hb hK hP 0 0 rfl rfl (by omega) (by decide) dL_law_635 ?_
                    rw [hn5]
                    refine lv_if_le (tgt := 791) hx hb dL_law_636 (by decide) (fun c_17 => ?_) (fun c_17 => ?_)
                    · have n_17 : nv ≤ 0 := pf_le (a := nv) (b := 0) (by omega) (by omega) c_17
                      refine lv_iload hx hb dL_law_791 (lv_at hl 3 rfl) ?_
                      refine lv_bipush (v := 12) hx hb dL_law_793 (by decide) ?_
                      refine lv_icmp_ne (tgt := 902) hx hb dL_law_795 (by decide) (fun c_18 => ?_) (fun c_18 => ?_)
                      · have n_18 : ¬ KD = 12 := pf_neq (a := KD) (b := 12) (by omega) (by omega) c_18
                        refine lv_iload hx hb dL_law_902 (lv_at hl 3 rfl) ?_
                        refine lv_bipush (v := 13) hx hb dL_law_904 (by decide) ?_
                        refine lv_icmp_ne (tgt := 1052) hx hb dL_law_906 (by decide) (fun c_19 => ?_) (fun c_19 => ?_)
                        · have n_19 : ¬ KD = 13 := pf_neq (a := KD) (b := 13) (by omega) (by omega) c_19
                          refine lv_iload hx hb dL_law_1052 (lv_at hl 3 rfl) ?_
                          refine lv_bipush (v := 14) hx hb dL_law_1054 (by decide) ?_
                          refine lv_icmp_ne (tgt := 1130) hx hb dL_law_1056 (by decide) (fun c_20 => ?_) (fun c_20 => ?_)
                          · have n_20 : ¬ KD = 14 := pf_neq (a := KD) (b := 14) (by omega) (by omega) c_20
                            exact pD_set hst hL CA hAd hTF hNC hK hj tl (Y := X / 16) (LN := LN) (by omega) hG hR hX hT (by omega) hP hD hS (lv_sub hl [0, 1, 2, 6, 7, 8, 9, 10, 11, 12, 13, 14] rfl)
                          · have n_20 : KD = 14 := pf_eq (a := KD) (b := 14) (by omega) (by omega) c_20
                            exact pD_extend hst hL CA hAd hTF hNC hK hj tl (Y := X / 16) (LN := LN) (by omega) hG hR hX hT (hLN (by omega)) (by omega) hP hD hS (lv_sub hl [0, 1, 2, 6, 7, 8, 9, 10, 11, 12, 13, 14] rfl)
                        · have n_19 : KD = 13 := pf_eq (a := KD) (b := 13) (by omega) (by omega) c_19
                          exact pD_claim hst hL CA hAd hTF hNC hK hj tl (Y := X / 16) (LN := LN) (by omega) hG hR hX hT (by omega) hP hD hS (lv_sub hl [0, 1, 2, 6, 7, 8, 9, 10, 11, 12, 13, 14] rfl)
                      · have n_18 : KD = 12 := pf_eq (a := KD) (b := 12) (by omega) (by omega) c_18
                        exact pD_match hst hL CA hAd hTF hNC hK hj tl (Y := X / 16) (LN := LN) (by omega) hG hR hX hT (by omega) hP hD hS (lv_sub hl [0, 1, 2, 6, 7, 8, 9, 10, 11, 12, 13, 14] rfl)
                    · have n_17 : 0 < nv := pf_nle (a := nv) (b := 0) (by omega) (by omega) c_17
                      exact pD_mark hst hL CA hAd hTF hNC hK hj tl (Y := X / 16) (LN := LN) (by omega) hG hR hX hT (by omega) (by omega) hP hD hS (lv_sub hl [0, 1, 2, 6, 7, 8, 9, 10, 11, 12, 13, 14] rfl)
                · have n_12 : KD < 9 := pf_nle (a := 9) (b := KD) (by omega) (by omega) c_12
                  exact pD_move hst hL CA hAd hTF hNC hK hj tl (Y := X / 16) (LN := LN) (by omega) hG hR hX hT (hLN (by omega)) (by omega) hP hD hS (lv_sub hl [0, 1, 2, 6, 7, 8, 9, 10, 11, 12, 13, 14] rfl)
              · have n_11 : KD < 7 := pf_nle (a := 7) (b := KD) (by omega) (by omega) c_11
                refine lv_aload_n hx hb dL_law_355 rfl (lv_at hl 9 rfl) ?_
                refine lv_iconst (v := 5) hx hb dL_law_356 (by decide) ?_
                refine gk_iald (i := 5) hx hb hK hP 0 0 rfl rfl (by omega) (by decide) dL_law_357 ?_
                rw [hn5]
                refine lv_bipush (v := 40) hx hb dL_law_358 (by decide) ?_
                refine lv_icmp_ge (tgt := 459) hx hb dL_law_360 (by decide) (fun c_21 => ?_) (fun c_21 => ?_)
                · have n_21 : 40 ≤ nv := pf_le (a := 40) (b := nv) (by omega) (by omega) c_21
                  refine lv_iload hx hb dL_law_459 (lv_at hl 3 rfl) ?_
                  refine lv_bipush (v := 9) hx hb dL_law_461 (by decide) ?_
                  refine lv_icmp_ge (tgt := 626) hx hb dL_law_463 (by decide) (fun c_22 => ?_) (fun c_22 => ?_)
                  · have n_22 : 9 ≤ KD := pf_le (a := 9) (b := KD) (by omega) (by omega) c_22
                    refine lv_iload hx hb dL_law_626 (lv_at hl 3 rfl) ?_
                    refine lv_bipush (v := 12) hx hb dL_law_628 (by decide) ?_
                    refine lv_icmp_ge (tgt := 791) hx hb dL_law_630 (by decide) (fun c_23 => ?_) (fun c_23 => ?_)
                    · have n_23 : 12 ≤ KD := pf_le (a := 12) (b := KD) (by omega) (by omega) c_23
                      refine lv_iload hx hb dL_law_791 (lv_at hl 3 rfl) ?_
                      refine lv_bipush (v := 12) hx hb dL_law_793 (by decide) ?_
                      refine lv_icmp_ne (tgt := 902) hx hb dL_law_795 (by decide) (fun c_24 => ?_) (fun c_24 => ?_)
                      · have n_24 : ¬ KD = 12 := pf_neq (a := KD) (b := 12) (by omega) (by omega) c_24
                        refine lv_iload hx hb dL_law_902 (lv_at hl 3 rfl) ?_
                        refine lv_bipush (v := 13) hx hb dL_law_904 (by decide) ?_
                        refine lv_icmp_ne (tgt := 1052) hx hb dL_law_906 (by decide) (fun c_25 => ?_) (fun c_25 => ?_)
                        · have n_25 : ¬ KD = 13 := pf_neq (a := KD) (b := 13) (by omega) (by omega) c_25
                          refine lv_iload hx hb dL_law_1052 (lv_at hl 3 rfl) ?_
                          refine lv_bipush (v := 14) hx hb dL_law_1054 (by decide) ?_
                          refine lv_icmp_ne (tgt := 1130) hx hb dL_law_1056 (by decide) (fun c_26 => ?_) (fun c_26 => ?_)
                          · have n_26 : ¬ KD = 14 := pf_neq (a := KD) (b := 14) (by omega) (by omega) c_26
                            exact pD_set hst hL CA hAd hTF hNC hK hj tl (Y := X / 16) (LN := LN) (by omega) hG hR hX hT (by omega) hP hD hS (lv_sub hl [0, 1, 2, 6, 7, 8, 9, 10, 11, 12, 13, 14] rfl)
                          · have n_26 : KD = 14 := pf_eq (a := KD) (b := 14) (by omega) (by omega) c_26
                            exact pD_extend hst hL CA hAd hTF hNC hK hj tl (Y := X / 16) (LN := LN) (by omega) hG hR hX hT (hLN (by omega)) (by omega) hP hD hS (lv_sub hl [0, 1, 2, 6, 7, 8, 9, 10, 11, 12, 13, 14] rfl)
                        · have n_25 : KD = 13 := pf_eq (a := KD) (b := 13) (by omega) (by omega) c_25
                          exact pD_claim hst hL CA hAd hTF hNC hK hj tl (Y := X / 16) (LN := LN) (by omega) hG hR hX hT (by omega) hP hD hS (lv_sub hl [0, 1, 2, 6, 7, 8, 9, 10, 11, 12, 13, 14] rfl)
                      · have n_24 : KD = 12 := pf_eq (a := KD) (b := 12) (by omega) (by omega) c_24
                        exact pD_match hst hL CA hAd hTF hNC hK hj tl (Y := X / 16) (LN := LN) (by omega) hG hR hX hT (by omega) hP hD hS (lv_sub hl [0, 1, 2, 6, 7, 8, 9, 10, 11, 12, 13, 14] rfl)
                    · have n_23 : KD < 12 := pf_nle (a := 12) (b := KD) (by omega) (by omega) c_23
                      refine lv_aload_n hx hb dL_law_633 rfl (lv_at hl 9 rfl) ?_
                      refine lv_iconst (v := 5) hx hb dL_law_634 (by decide) ?_
                      refine gk_iald (i := 5) hx hb hK hP 0 0 rfl rfl (by omega) (by decide) dL_law_635 ?_
                      rw [hn5]
                      refine lv_if_le (tgt := 791) hx hb dL_law_636 (by decide) (fun c_27 => ?_) (fun c_27 => ?_)
                      · have n_27 : nv ≤ 0 := pf_le (a := nv) (b := 0) (by omega) (by omega) c_27
                        refine lv_iload hx hb dL_law_791 (lv_at hl 3 rfl) ?_
                        refine lv_bipush (v := 12) hx hb dL_law_793 (by decide) ?_
                        refine lv_icmp_ne (tgt := 902) hx hb dL_law_795 (by decide) (fun c_28 => ?_) (fun c_28 => ?_)
                        · have n_28 : ¬ KD = 12 := pf_neq (a := KD) (b := 12) (by omega) (by omega) c_28
                          refine lv_iload hx hb dL_law_902 (lv_at hl 3 rfl) ?_
                          refine lv_bipush (v := 13) hx hb dL_law_904 (by decide) ?_
                          refine lv_icmp_ne (tgt := 1052) hx hb dL_law_906 (by decide) (fun c_29 => ?_) (fun c_29 => ?_)
                          · have n_29 : ¬ KD = 13 := pf_neq (a := KD) (b := 13) (by omega) (by omega) c_29
                            refine lv_iload hx hb dL_law_1052 (lv_at hl 3 rfl) ?_
                            refine lv_bipush (v := 14) hx hb dL_law_1054 (by decide) ?_
                            refine lv_icmp_ne (tgt := 1130) hx hb dL_law_1056 (by decide) (fun c_30 => ?_) (fun c_30 => ?_)
                            · have n_30 : ¬ KD = 14 := pf_neq (a := KD) (b := 14) (by omega) (by omega) c_30
                              exact pD_set hst hL CA hAd hTF hNC hK hj tl (Y := X / 16) (LN := LN) (by omega) hG hR hX hT (by omega) hP hD hS (lv_sub hl [0, 1, 2, 6, 7, 8, 9, 10, 11, 12, 13, 14] rfl)
                            · have n_30 : KD = 14 := pf_eq (a := KD) (b := 14) (by omega) (by omega) c_30
                              exact pD_extend hst hL CA hAd hTF hNC hK hj tl (Y := X / 16) (LN := LN) (by omega) hG hR hX hT (hLN (by omega)) (by omega) hP hD hS (lv_sub hl [0, 1, 2, 6, 7, 8, 9, 10, 11, 12, 13, 14] rfl)
                          · have n_29 : KD = 13 := pf_eq (a := KD) (b := 13) (by omega) (by omega) c_29
                            exact pD_claim hst hL CA hAd hTF hNC hK hj tl (Y := X / 16) (LN := LN) (by omega) hG hR hX hT (by omega) hP hD hS (lv_sub hl [0, 1, 2, 6, 7, 8, 9, 10, 11, 12, 13, 14] rfl)
                        · have n_28 : KD = 12 := pf_eq (a := KD) (b := 12) (by omega) (by omega) c_28
                          exact pD_match hst hL CA hAd hTF hNC hK hj tl (Y := X / 16) (LN := LN) (by omega) hG hR hX hT (by omega) hP hD hS (lv_sub hl [0, 1, 2, 6, 7, 8, 9, 10, 11, 12, 13, 14] rfl)
                      · have n_27 : 0 < nv := pf_nle (a := nv) (b := 0) (by omega) (by omega) c_27
                        exact pD_mark hst hL CA hAd hTF hNC hK hj tl (Y := X / 16) (LN := LN) (by omega) hG hR hX hT (by omega) (by omega) hP hD hS (lv_sub hl [0, 1, 2, 6, 7, 8, 9, 10, 11, 12, 13, 14] rfl)
                  · have n_22 : KD < 9 := pf_nle (a := 9) (b := KD) (by omega) (by omega) c_22
                    exact pD_move hst hL CA hAd hTF hNC hK hj tl (Y := X / 16) (LN := LN) (by omega) hG hR hX hT (hLN (by omega)) (by omega) hP hD hS (lv_sub hl [0, 1, 2, 6, 7, 8, 9, 10, 11, 12, 13, 14] rfl)
                · have n_21 : nv < 40 := pf_nle (a := 40) (b := nv) (by omega) (by omega) c_21
                  exact pD_spend hst hL CA hAd hTF hNC hK hj tl (Y := X / 16) (LN := LN) (by omega) hG hR hX hT (by omega) (hLN (by omega)) (by omega) hP hD hS (lv_sub hl [0, 1, 2, 6, 7, 8, 9, 10, 11, 12, 13, 14] rfl)
            · have n_10 : KD = 0 := pf_eq (a := KD) (b := 0) (by omega) (by omega) c_10
              refine lv_aload_n hx hb dL_law_193 rfl (lv_at hl 9 rfl) ?_
              refine lv_iconst (v := 4) hx hb dL_law_194 (by decide) ?_
              refine gk_iald (i := 4) hx hb hK hP 0 0 rfl rfl (by omega) (by decide) dL_law_195 ?_
              rw [hn4]
              refine lv_bipush (v := 6) hx hb dL_law_196 (by decide) ?_
              refine lv_icmp_ge (tgt := 348) hx hb dL_law_198 (by decide) (fun c_31 => ?_) (fun c_31 => ?_)
              · have n_31 : 6 ≤ nl := pf_le (a := 6) (b := nl) (by omega) (by omega) c_31
                refine lv_iload hx hb dL_law_348 (lv_at hl 3 rfl) ?_
                refine lv_bipush (v := 7) hx hb dL_law_350 (by decide) ?_
                refine lv_icmp_ge (tgt := 459) hx hb dL_law_352 (by decide) (fun c_32 => ?_) (fun c_32 => ?_)
                · have n_32 : 7 ≤ KD := pf_le (a := 7) (b := KD) (by omega) (by omega) c_32
                  refine lv_iload hx hb dL_law_459 (lv_at hl 3 rfl) ?_
                  refine lv_bipush (v := 9) hx hb dL_law_461 (by decide) ?_
                  refine lv_icmp_ge (tgt := 626) hx hb dL_law_463 (by decide) (fun c_33 => ?_) (fun c_33 => ?_)
                  · have n_33 : 9 ≤ KD := pf_le (a := 9) (b := KD) (by omega) (by omega) c_33
                    refine lv_iload hx hb dL_law_626 (lv_at hl 3 rfl) ?_
                    refine lv_bipush (v := 12) hx hb dL_law_628 (by decide) ?_
                    refine lv_icmp_ge (tgt := 791) hx hb dL_law_630 (by decide) (fun c_34 => ?_) (fun c_34 => ?_)
                    · have n_34 : 12 ≤ KD := pf_le (a := 12) (b := KD) (by omega) (by omega) c_34
                      refine lv_iload hx hb dL_law_791 (lv_at hl 3 rfl) ?_
                      refine lv_bipush (v := 12) hx hb dL_law_793 (by decide) ?_
                      refine lv_icmp_ne (tgt := 902) hx hb dL_law_795 (by decide) (fun c_35 => ?_) (fun c_35 => ?_)
                      · have n_35 : ¬ KD = 12 := pf_neq (a := KD) (b := 12) (by omega) (by omega) c_35
                        refine lv_iload hx hb dL_law_902 (lv_at hl 3 rfl) ?_
                        refine lv_bipush (v := 13) hx hb dL_law_904 (by decide) ?_
                        refine lv_icmp_ne (tgt := 1052) hx hb dL_law_906 (by decide) (fun c_36 => ?_) (fun c_36 => ?_)
                        · have n_36 : ¬ KD = 13 := pf_neq (a := KD) (b := 13) (by omega) (by omega) c_36
                          refine lv_iload hx hb dL_law_1052 (lv_at hl 3 rfl) ?_
                          refine lv_bipush (v := 14) hx hb dL_law_1054 (by decide) ?_
                          refine lv_icmp_ne (tgt := 1130) hx hb dL_law_1056 (by decide) (fun c_37 => ?_) (fun c_37 => ?_)
                          · have n_37 : ¬ KD = 14 := pf_neq (a := KD) (b := 14) (by omega) (by omega) c_37
                            exact pD_set hst hL CA hAd hTF hNC hK hj tl (Y := X / 16) (LN := LN) (by omega) hG hR hX hT (by omega) hP hD hS (lv_sub hl [0, 1, 2, 6, 7, 8, 9, 10, 11, 12, 13, 14] rfl)
                          · have n_37 : KD = 14 := pf_eq (a := KD) (b := 14) (by omega) (by omega) c_37
                            exact pD_extend hst hL CA hAd hTF hNC hK hj tl (Y := X / 16) (LN := LN) (by omega) hG hR hX hT (hLN (by omega)) (by omega) hP hD hS (lv_sub hl [0, 1, 2, 6, 7, 8, 9, 10, 11, 12, 13, 14] rfl)
                        · have n_36 : KD = 13 := pf_eq (a := KD) (b := 13) (by omega) (by omega) c_36
                          exact pD_claim hst hL CA hAd hTF hNC hK hj tl (Y := X / 16) (LN := LN) (by omega) hG hR hX hT (by omega) hP hD hS (lv_sub hl [0, 1, 2, 6, 7, 8, 9, 10, 11, 12, 13, 14] rfl)
                      · have n_35 : KD = 12 := pf_eq (a := KD) (b := 12) (by omega) (by omega) c_35
                        exact pD_match hst hL CA hAd hTF hNC hK hj tl (Y := X / 16) (LN := LN) (by omega) hG hR hX hT (by omega) hP hD hS (lv_sub hl [0, 1, 2, 6, 7, 8, 9, 10, 11, 12, 13, 14] rfl)
                    · have n_34 : KD < 12 := pf_nle (a := 12) (b := KD) (by omega) (by omega) c_34
                      refine lv_aload_n hx hb dL_law_633 rfl (lv_at hl 9 rfl) ?_
                      refine lv_iconst (v := 5) hx hb dL_law_634 (by decide) ?_
                      refine gk_iald (i := 5) hx hb hK hP 0 0 rfl rfl (by omega) (by decide) dL_law_635 ?_
                      rw [hn5]
                      refine lv_if_le (tgt := 791) hx hb dL_law_636 (by decide) (fun c_38 => ?_) (fun c_38 => ?_)
                      · have n_38 : nv ≤ 0 := pf_le (a := nv) (b := 0) (by omega) (by omega) c_38
                        refine lv_iload hx hb dL_law_791 (lv_at hl 3 rfl) ?_
                        refine lv_bipush (v := 12) hx hb dL_law_793 (by decide) ?_
                        refine lv_icmp_ne (tgt := 902) hx hb dL_law_795 (by decide) (fun c_39 => ?_) (fun c_39 => ?_)
                        · have n_39 : ¬ KD = 12 := pf_neq (a := KD) (b := 12) (by omega) (by omega) c_39
                          refine lv_iload hx hb dL_law_902 (lv_at hl 3 rfl) ?_
                          refine lv_bipush (v := 13) hx hb dL_law_904 (by decide) ?_
                          refine lv_icmp_ne (tgt := 1052) hx hb dL_law_906 (by decide) (fun c_40 => ?_) (fun c_40 => ?_)
                          · have n_40 : ¬ KD = 13 := pf_neq (a := KD) (b := 13) (by omega) (by omega) c_40
                            refine lv_iload hx hb dL_law_1052 (lv_at hl 3 rfl) ?_
                            refine lv_bipush (v := 14) hx hb dL_law_1054 (by decide) ?_
                            refine lv_icmp_ne (tgt := 1130) hx hb dL_law_1056 (by decide) (fun c_41 => ?_) (fun c_41 => ?_)
                            · have n_41 : ¬ KD = 14 := pf_neq (a := KD) (b := 14) (by omega) (by omega) c_41
                              exact pD_set hst hL CA hAd hTF hNC hK hj tl (Y := X / 16) (LN := LN) (by omega) hG hR hX hT (by omega) hP hD hS (lv_sub hl [0, 1, 2, 6, 7, 8, 9, 10, 11, 12, 13, 14] rfl)
                            · have n_41 : KD = 14 := pf_eq (a := KD) (b := 14) (by omega) (by omega) c_41
                              exact pD_extend hst hL CA hAd hTF hNC hK hj tl (Y := X / 16) (LN := LN) (by omega) hG hR hX hT (hLN (by omega)) (by omega) hP hD hS (lv_sub hl [0, 1, 2, 6, 7, 8, 9, 10, 11, 12, 13, 14] rfl)
                          · have n_40 : KD = 13 := pf_eq (a := KD) (b := 13) (by omega) (by omega) c_40
                            exact pD_claim hst hL CA hAd hTF hNC hK hj tl (Y := X / 16) (LN := LN) (by omega) hG hR hX hT (by omega) hP hD hS (lv_sub hl [0, 1, 2, 6, 7, 8, 9, 10, 11, 12, 13, 14] rfl)
                        · have n_39 : KD = 12 := pf_eq (a := KD) (b := 12) (by omega) (by omega) c_39
                          exact pD_match hst hL CA hAd hTF hNC hK hj tl (Y := X / 16) (LN := LN) (by omega) hG hR hX hT (by omega) hP hD hS (lv_sub hl [0, 1, 2, 6, 7, 8, 9, 10, 11, 12, 13, 14] rfl)
                      · have n_38 : 0 < nv := pf_nle (a := nv) (b := 0) (by omega) (by omega) c_38
                        exact pD_mark hst hL CA hAd hTF hNC hK hj tl (Y := X / 16) (LN := LN) (by omega) hG hR hX hT (by omega) (by omega) hP hD hS (lv_sub hl [0, 1, 2, 6, 7, 8, 9, 10, 11, 12, 13, 14] rfl)
                  · have n_33 : KD < 9 := pf_nle (a := 9) (b := KD) (by omega) (by omega) c_33
                    exact pD_move hst hL CA hAd hTF hNC hK hj tl (Y := X / 16) (LN := LN) (by omega) hG hR hX hT (hLN (by omega)) (by omega) hP hD hS (lv_sub hl [0, 1, 2, 6, 7, 8, 9, 10, 11, 12, 13, 14] rfl)
                · have n_32 : KD < 7 := pf_nle (a := 7) (b := KD) (by omega) (by omega) c_32
                  refine lv_aload_n hx hb dL_law_355 rfl (lv_at hl 9 rfl) ?_
                  refine lv_iconst (v := 5) hx hb dL_law_356 (by decide) ?_
                  refine gk_iald (i := 5) hx hb hK hP 0 0 rfl rfl (by omega) (by decide) dL_law_357 ?_
                  rw [hn5]
                  refine lv_bipush (v := 40) hx hb dL_law_358 (by decide) ?_
                  refine lv_icmp_ge (tgt := 459) hx hb dL_law_360 (by decide) (fun c_42 => ?_) (fun c_42 => ?_)
                  · have n_42 : 40 ≤ nv := pf_le (a := 40) (b := nv) (by omega) (by omega) c_42
                    refine lv_iload hx hb dL_law_459 (lv_at hl 3 rfl) ?_
                    refine lv_bipush (v := 9) hx hb dL_law_461 (by decide) ?_
                    refine lv_icmp_ge (tgt := 626) hx hb dL_law_463 (by decide) (fun c_43 => ?_) (fun c_43 => ?_)
                    · have n_43 : 9 ≤ KD := pf_le (a := 9) (b := KD) (by omega) (by omega) c_43
                      refine lv_iload hx hb dL_law_626 (lv_at hl 3 rfl) ?_
                      refine lv_bipush (v := 12) hx hb dL_law_628 (by decide) ?_
                      refine lv_icmp_ge (tgt := 791) hx hb dL_law_630 (by decide) (fun c_44 => ?_) (fun c_44 => ?_)
                      · have n_44 : 12 ≤ KD := pf_le (a := 12) (b := KD) (by omega) (by omega) c_44
                        refine lv_iload hx hb dL_law_791 (lv_at hl 3 rfl) ?_
                        refine lv_bipush (v := 12) hx hb dL_law_793 (by decide) ?_
                        refine lv_icmp_ne (tgt := 902) hx hb dL_law_795 (by decide) (fun c_45 => ?_) (fun c_45 => ?_)
                        · have n_45 : ¬ KD = 12 := pf_neq (a := KD) (b := 12) (by omega) (by omega) c_45
                          refine lv_iload hx hb dL_law_902 (lv_at hl 3 rfl) ?_
                          refine lv_bipush (v := 13) hx hb dL_law_904 (by decide) ?_
                          refine lv_icmp_ne (tgt := 1052) hx hb dL_law_906 (by decide) (fun c_46 => ?_) (fun c_46 => ?_)
                          · have n_46 : ¬ KD = 13 := pf_neq (a := KD) (b := 13) (by omega) (by omega) c_46
                            refine lv_iload hx hb dL_law_1052 (lv_at hl 3 rfl) ?_
                            refine lv_bipush (v := 14) hx hb dL_law_1054 (by decide) ?_
                            refine lv_icmp_ne (tgt := 1130) hx hb dL_law_1056 (by decide) (fun c_47 => ?_) (fun c_47 => ?_)
                            · have n_47 : ¬ KD = 14 := pf_neq (a := KD) (b := 14) (by omega) (by omega) c_47
                              exact pD_set hst hL CA hAd hTF hNC hK hj tl (Y := X / 16) (LN := LN) (by omega) hG hR hX hT (by omega) hP hD hS (lv_sub hl [0, 1, 2, 6, 7, 8, 9, 10, 11, 12, 13, 14] rfl)
                            · have n_47 : KD = 14 := pf_eq (a := KD) (b := 14) (by omega) (by omega) c_47
                              exact pD_extend hst hL CA hAd hTF hNC hK hj tl (Y := X / 16) (LN := LN) (by omega) hG hR hX hT (hLN (by omega)) (by omega) hP hD hS (lv_sub hl [0, 1, 2, 6, 7, 8, 9, 10, 11, 12, 13, 14] rfl)
                          · have n_46 : KD = 13 := pf_eq (a := KD) (b := 13) (by omega) (by omega) c_46
                            exact pD_claim hst hL CA hAd hTF hNC hK hj tl (Y := X / 16) (LN := LN) (by omega) hG hR hX hT (by omega) hP hD hS (lv_sub hl [0, 1, 2, 6, 7, 8, 9, 10, 11, 12, 13, 14] rfl)
                        · have n_45 : KD = 12 := pf_eq (a := KD) (b := 12) (by omega) (by omega) c_45
                          exact pD_match hst hL CA hAd hTF hNC hK hj tl (Y := X / 16) (LN := LN) (by omega) hG hR hX hT (by omega) hP hD hS (lv_sub hl [0, 1, 2, 6, 7, 8, 9, 10, 11, 12, 13, 14] rfl)
                      · have n_44 : KD < 12 := pf_nle (a := 12) (b := KD) (by omega) (by omega) c_44
                        refine lv_aload_n hx hb dL_law_633 rfl (lv_at hl 9 rfl) ?_
                        refine lv_iconst (v := 5) hx hb dL_law_634 (by decide) ?_
                        refine gk_iald (i := 5) hx hb hK hP 0 0 rfl rfl (by omega) (by decide) dL_law_635 ?_
                        rw [hn5]
                        refine lv_if_le (tgt := 791) hx hb dL_law_636 (by decide) (fun c_48 => ?_) (fun c_48 => ?_)
                        · have n_48 : nv ≤ 0 := pf_le (a := nv) (b := 0) (by omega) (by omega) c_48
                          refine lv_iload hx hb dL_law_791 (lv_at hl 3 rfl) ?_
                          refine lv_bipush (v := 12) hx hb dL_law_793 (by decide) ?_
                          refine lv_icmp_ne (tgt := 902) hx hb dL_law_795 (by decide) (fun c_49 => ?_) (fun c_49 => ?_)
                          · have n_49 : ¬ KD = 12 := pf_neq (a := KD) (b := 12) (by omega) (by omega) c_49
                            refine lv_iload hx hb dL_law_902 (lv_at hl 3 rfl) ?_
                            refine lv_bipush (v := 13) hx hb dL_law_904 (by decide) ?_
                            refine lv_icmp_ne (tgt := 1052) hx hb dL_law_906 (by decide) (fun c_50 => ?_) (fun c_50 => ?_)
                            · have n_50 : ¬ KD = 13 := pf_neq (a := KD) (b := 13) (by omega) (by omega) c_50
                              refine lv_iload hx hb dL_law_1052 (lv_at hl 3 rfl) ?_
                              refine lv_bipush (v := 14) hx hb dL_law_1054 (by decide) ?_
                              refine lv_icmp_ne (tgt := 1130) hx hb dL_law_1056 (by decide) (fun c_51 => ?_) (fun c_51 => ?_)
                              · have n_51 : ¬ KD = 14 := pf_neq (a := KD) (b := 14) (by omega) (by omega) c_51
                                exact pD_set hst hL CA hAd hTF hNC hK hj tl (Y := X / 16) (LN := LN) (by omega) hG hR hX hT (by omega) hP hD hS (lv_sub hl [0, 1, 2, 6, 7, 8, 9, 10, 11, 12, 13, 14] rfl)
                              · have n_51 : KD = 14 := pf_eq (a := KD) (b := 14) (by omega) (by omega) c_51
                                exact pD_extend hst hL CA hAd hTF hNC hK hj tl (Y := X / 16) (LN := LN) (by omega) hG hR hX hT (hLN (by omega)) (by omega) hP hD hS (lv_sub hl [0, 1, 2, 6, 7, 8, 9, 10, 11, 12, 13, 14] rfl)
                            · have n_50 : KD = 13 := pf_eq (a := KD) (b := 13) (by omega) (by omega) c_50
                              exact pD_claim hst hL CA hAd hTF hNC hK hj tl (Y := X / 16) (LN := LN) (by omega) hG hR hX hT (by omega) hP hD hS (lv_sub hl [0, 1, 2, 6, 7, 8, 9, 10, 11, 12, 13, 14] rfl)
                          · have n_49 : KD = 12 := pf_eq (a := KD) (b := 12) (by omega) (by omega) c_49
                            exact pD_match hst hL CA hAd hTF hNC hK hj tl (Y := X / 16) (LN := LN) (by omega) hG hR hX hT (by omega) hP hD hS (lv_sub hl [0, 1, 2, 6, 7, 8, 9, 10, 11, 12, 13, 14] rfl)
                        · have n_48 : 0 < nv := pf_nle (a := nv) (b := 0) (by omega) (by omega) c_48
                          exact pD_mark hst hL CA hAd hTF hNC hK hj tl (Y := X / 16) (LN := LN) (by omega) hG hR hX hT (by omega) (by omega) hP hD hS (lv_sub hl [0, 1, 2, 6, 7, 8, 9, 10, 11, 12, 13, 14] rfl)
                    · have n_43 : KD < 9 := pf_nle (a := 9) (b := KD) (by omega) (by omega) c_43
                      exact pD_move hst hL CA hAd hTF hNC hK hj tl (Y := X / 16) (LN := LN) (by omega) hG hR hX hT (hLN (by omega)) (by omega) hP hD hS (lv_sub hl [0, 1, 2, 6, 7, 8, 9, 10, 11, 12, 13, 14] rfl)
                  · have n_42 : nv < 40 := pf_nle (a := 40) (b := nv) (by omega) (by omega) c_42
                    exact pD_spend hst hL CA hAd hTF hNC hK hj tl (Y := X / 16) (LN := LN) (by omega) hG hR hX hT (by omega) (hLN (by omega)) (by omega) hP hD hS (lv_sub hl [0, 1, 2, 6, 7, 8, 9, 10, 11, 12, 13, 14] rfl)
              · have n_31 : nl < 6 := pf_nle (a := 6) (b := nl) (by omega) (by omega) c_31
                exact pD_add hst hL CA hAd hTF hNC hK hj tl (Y := X / 16) (LN := LN) (by omega) hG hR hX hT (by omega) hjn hP hD hS (lv_sub hl [0, 1, 2, 6, 7, 8, 9, 10, 11, 12, 13, 14] rfl)
          refine lv_aload_n hx hb dL_law_158 rfl (lv_at hl 7 rfl) ?_
          refine lv_iconst (v := 4) hx hb dL_law_159 (by decide) ?_
          refine gk_iald (i := 4) hx hb hK hP 0 0 rfl rfl (by omega) (by decide) dL_law_160 ?_
          rw [hn4]
          refine lv_if_ne (tgt := 168) hx hb dL_law_161 (by decide) (fun c_52 => ?_) (fun c_52 => ?_)
          · have n_52 : ¬ nl = 0 := pf_neq (a := nl) (b := 0) (by omega) (by omega) c_52
            refine lv_iload hx hb dL_law_168 (lv_at hl 0 rfl) ?_
            refine lv_aload_n hx hb dL_law_170 rfl (lv_at hl 7 rfl) ?_
            refine lv_iconst (v := 4) hx hb dL_law_171 (by decide) ?_
            refine gk_iald (i := 4) hx hb hK hP 0 0 rfl rfl (by omega) (by decide) dL_law_172 ?_
            rw [hn4]
            refine lv_irem hx hb dL_law_173 (nI_ne0 (by omega) (by omega)) ?_
            refine lv_topi (fun y_53 h_53 => ?_)
            obtain rfl : y_53 = (nI ((X / 16) % nl)) := h_53.trans (pk_rem (a := (X / 16)) (d := nl) (by omega) (by omega) (by omega))
            exact cutL ((X / 16) % nl) (fun _ => Nat.mod_lt _ (by omega)) _ hl
          · have n_52 : nl = 0 := pf_eq (a := nl) (b := 0) (by omega) (by omega) c_52
            refine lv_iconst (v := 0) hx hb dL_law_164 (by decide) ?_
            refine lv_goto (tgt := 174) hx hb dL_law_165 (by decide) ?_
            exact cutL 0 (by omega) _ hl
        refine lv_iload hx hb dL_law_134 (lv_at hl 2 rfl) ?_
        refine lv_iconst (v := 3) hx hb dL_law_136 (by decide) ?_
        refine lv_icmp_ge (tgt := 144) hx hb dL_law_137 (by decide) (fun c_54 => ?_) (fun c_54 => ?_)
        · have n_54 : 3 ≤ j := pf_le (a := 3) (b := j) (by omega) (by omega) c_54
          refine lv_iload hx hb dL_law_144 (lv_at hl 0 rfl) ?_
          refine lv_bipush (v := 16) hx hb dL_law_146 (by decide) ?_
          refine lv_irem hx hb dL_law_148 (by decide) ?_
          refine lv_topi (fun y_55 h_55 => ?_)
          obtain rfl : y_55 = (nI (X % 16)) := h_55.trans (pk_rem (a := X) (d := 16) (by omega) (by omega) (by omega))
          exact cutK (X % 16) (by omega) (by omega) _ hl
        · have n_54 : j < 3 := pf_nle (a := 3) (b := j) (by omega) (by omega) c_54
          refine lv_iconst (v := 0) hx hb dL_law_140 (by decide) ?_
          refine lv_goto (tgt := 149) hx hb dL_law_141 (by decide) ?_
          exact cutK 0 (by omega) (by omega) _ hl
      refine lv_iload hx hb dL_law_94 (lv_at hl 1 rfl) ?_
      refine lv_aload_n hx hb dL_law_96 rfl (lv_at hl 2 rfl) ?_
      refine va_slen hx hb hX0 hbs hbA hS dL_law_97 ?_
      refine lv_icmp_ge (tgt := 111) hx hb dL_law_98 (by decide) (fun c_56 => ?_) (fun c_56 => ?_)
      · have n_56 : L ≤ j := pf_le (a := L) (b := j) (by omega) (by omega) c_56
        refine lv_ldc hx hb hown (hts0 (.constant RL 117 (35027)) wq_1_7) dL_law_111 ?_
        refine lv_iload hx hb dL_law_113 (lv_at hl 1 rfl) ?_
        refine lv_imul hx hb dL_law_115 ?_
        refine lv_topi (fun y_57 h_57 => ?_)
        obtain rfl : y_57 = (nI (35027 * j)) := h_57.trans (pk_mul 35027 j)
        refine lv_iload hx hb dL_law_116 (lv_at hl 1 rfl) ?_
        refine lv_imul hx hb dL_law_118 ?_
        refine lv_topi (fun y_58 h_58 => ?_)
        obtain rfl : y_58 = (nI ((35027 * j) * j)) := h_58.trans (pk_mul (35027 * j) j)
        refine lv_sipush (v := 7001) hx hb dL_law_119 (by decide) ?_
        refine lv_iload hx hb dL_law_122 (lv_at hl 1 rfl) ?_
        refine lv_imul hx hb dL_law_124 ?_
        refine lv_topi (fun y_59 h_59 => ?_)
        obtain rfl : y_59 = (nI (7001 * j)) := h_59.trans (pk_mul 7001 j)
        refine lv_iadd hx hb dL_law_125 ?_
        refine lv_topi (fun y_60 h_60 => ?_)
        obtain rfl : y_60 = (nI (((35027 * j) * j) + (7001 * j))) := h_60.trans (nI_add ((35027 * j) * j) (7001 * j))
        refine lv_bipush (v := 83) hx hb dL_law_126 (by decide) ?_
        refine lv_iadd hx hb dL_law_128 ?_
        refine lv_topi (fun y_61 h_61 => ?_)
        obtain rfl : y_61 = (nI ((((35027 * j) * j) + (7001 * j)) + 83)) := h_61.trans (nI_add (((35027 * j) * j) + (7001 * j)) 83)
        refine lv_ldc hx hb hown (hts0 (.constant RL 116 (2147483647)) wq_1_6) dL_law_129 ?_
        refine lv_iand hx hb dL_law_131 ?_
        obtain ⟨X, hX31, hXe⟩ := pk_andE (nI ((((35027 * j) * j) + (7001 * j)) + 83)) (m := 2147483647) 31 (by decide)
        rw [hXe]
        exact cutX X hX31 _ hl
      · have n_56 : j < L := pf_nle (a := L) (b := j) (by omega) (by omega) c_56
        refine lv_aload_n hx hb dL_law_101 rfl (lv_at hl 2 rfl) ?_
        refine lv_iload hx hb dL_law_102 (lv_at hl 1 rfl) ?_
        refine gk_sld (i := j) hx hb hX0 hbs hbA hS (by omega) hL dL_law_104 ?_
        refine lv_ldc hx hb hown (hts0 (.constant RL 116 (2147483647)) wq_1_6) dL_law_105 ?_
        refine lv_iand hx hb dL_law_107 ?_
        refine lv_goto (tgt := 132) hx hb dL_law_108 (by decide) ?_
        obtain ⟨X, hX31, hXe⟩ := pk_andE (xs j) (m := 2147483647) 31 (by decide)
        rw [hXe]
        exact cutX X hX31 _ hl
