set_option maxHeartbeats 40000000 in
set_option maxRecDepth 100000 in
theorem gLoop {p : Program} {l : Launch} {e : Env} {s : State} {m : MethodId} {below : List Frame} {meth : Method} {c : Code} (hst : l.stackTraces = false) {D : va_G} {cyI cyZ cyL cyV cyJ : ClassId} {b L : Nat} {xs : Nat → Int32} (hL : L ≤ 2560) (C0 : lw_At p s m meth c b L xs) {A : Nat → Prop} (hAd : A = fun q : Nat => s.heap.size ≤ q) (hTF : gTF A s s.heap) (hNC : gNC s) (hK : va_K D vwCl (gTy cyI cyZ cyL cyV cyJ) s) (g o x0 x1 x2 x3 x4 x5 x6 x7 x8 x9 x10 x11 x12 x13 x14 : Nat) :
    ∀ (n j : Nat) (th : Int32) (eli usd : Nat → Int32) (gr sh rt ce : Int32) (nl nv : Nat) (am : Int32) (nc : Nat) (cd : Int32) (bud fsd las isB mto maw lno dya amo rfd ord cpa : Nat → Int32) (lnf orf : Nat → Nat) (fo : Nat → Int64) (G : va_W) (H : Heap) (locs : List Loc) (ls : Array Slot), j ≤ 512 → 513 ≤ j + n → gGP cyI cyL cyV gr sh rt ce nl nv am nc cd bud fsd las isB mto maw lno dya amo rfd ord cpa lnf orf g G → va_P D vwCl ((x0, .inr (3, [.int gr, .int sh, .int rt, .int ce, .int (nI nl), .ref x1, .ref x2, .ref x3, .ref x4, .ref x5, .ref x6, .int (nI nv), .ref x7, .ref x8, .ref x9, .ref x10, .ref x11, .int am, .int (nI nc), .int cd, .ref x12, .int th, .ref x13, .ref x14])) :: (x1, .inl (cyI, 12, .inl bud)) :: (x2, .inl (cyI, 12, .inl fsd)) :: (x3, .inl (cyI, 12, .inl las)) :: (x4, .inl (cyZ, 12, .inl isB)) :: (x5, .inl (cyI, 12, .inl mto)) :: (x6, .inl (cyI, 12, .inl maw)) :: (x7, .inl (cyI, 100, .inl lno)) :: (x8, .inl (cyI, 100, .inl dya)) :: (x9, .inl (cyI, 100, .inl amo)) :: (x10, .inl (cyZ, 100, .inl rfd)) :: (x11, .inl (cyI, 100, .inl ord)) :: (x12, .inl (cyI, 40, .inl cpa)) :: (x13, .inl (cyI, 100, .inl eli)) :: (x14, .inl (cyI, 12, .inl usd)) :: (o, .inl (cyJ, 1, .inr (.inl fo))) :: G) H → va_D A ((x0, .inr (3, [.int gr, .int sh, .int rt, .int ce, .int (nI nl), .ref x1, .ref x2, .ref x3, .ref x4, .ref x5, .ref x6, .int (nI nv), .ref x7, .ref x8, .ref x9, .ref x10, .ref x11, .int am, .int (nI nc), .int cd, .ref x12, .int th, .ref x13, .ref x14])) :: (x1, .inl (cyI, 12, .inl bud)) :: (x2, .inl (cyI, 12, .inl fsd)) :: (x3, .inl (cyI, 12, .inl las)) :: (x4, .inl (cyZ, 12, .inl isB)) :: (x5, .inl (cyI, 12, .inl mto)) :: (x6, .inl (cyI, 12, .inl maw)) :: (x7, .inl (cyI, 100, .inl lno)) :: (x8, .inl (cyI, 100, .inl dya)) :: (x9, .inl (cyI, 100, .inl amo)) :: (x10, .inl (cyZ, 100, .inl rfd)) :: (x11, .inl (cyI, 100, .inl ord)) :: (x12, .inl (cyI, 40, .inl cpa)) :: (x13, .inl (cyI, 100, .inl eli)) :: (x14, .inl (cyI, 12, .inl usd)) :: (o, .inl (cyJ, 1, .inr (.inl fo))) :: G) → va_S A s.heap H locs → lv_has ls 7 [(4, .int (nI (5 * j))), (0, .ref b), (1, .ref g), (2, .ref x0), (3, .ref o)] → W p l e room_1 s m #[Value.ref b] below meth c H locs (20 + 5 * j) (914 + 30 * j) (lw_Z below #[Value.ref b] s) (F0 m 23 ls []) := by
  obtain ⟨hx, hb, hr, hml, hown, hts0, hX, hbl, hlocks, hgv⟩ := C0
  have hts : ∀ w ∈ wsL_law, w.before #[Value.ref b] s = true := fun w h => hts0 w (wsL_law_in w h)
  have hA : ∀ q : Nat, s.heap.size ≤ q → A q := fun q h => by rw [hAd]; exact h
  have hbA : ¬ A b := by rw [hAd]; exact Nat.not_le.mpr hbl
  intro n
  induction n with
  | zero => intro j th eli usd gr sh rt ce nl nv am nc cd bud fsd las isB mto maw lno dya amo rfd ord cpa lnf orf fo G H locs ls h1 h2; exact absurd h2 (by omega)
  | succ n ih =>
    intro j th eli usd gr sh rt ce nl nv am nc cd bud fsd las isB mto maw lno dya amo rfd ord cpa lnf orf fo G H locs ls hj h2 hG hP hD hS hl
    refine lv_iload hx hb dL_law_23 (lv_at hl 0 rfl) ?_
    refine lv_aload_n hx hb dL_law_25 rfl (lv_at hl 1 rfl) ?_
    refine va_slen hx hb hX hbl hbA hS dL_law_26 ?_
    refine lv_iconst (v := 5) hx hb dL_law_27 (by decide) ?_
    refine lv_isub hx hb dL_law_28 ?_
    refine lv_icmp_gt (tgt := 1341) hx hb dL_law_29 (by decide) (fun c_1 => ?_) (fun c_1 => ?_)
    · refine lv_iconst (v := 1) hx hb dL_law_1341 (by decide) ?_
      refine va_forget (fun q hq => by have h9 := hS.2.2 q hq; rw [hAd] at h9; exact h9) ?_
      refine W.widen (k := 601024) (n := 7293034) (by omega) (by omega) ?_
      exact lw_ret hx hb hr hlocks dL_law_1342
    · have h5 : 5 * j + 5 ≤ L := gLw hL hj c_1
      have hM := hG.1
      refine lv_aload_n hx hb dL_law_32 rfl (lv_at hl 1 rfl) ?_
      refine lv_iload hx hb dL_law_33 (lv_at hl 0 rfl) ?_
      refine gk_sld (i := (5 * j)) hx hb hX hbl hbA hS (by omega) hL dL_law_35 ?_
      refine lv_bipush (v := 31) hx hb dL_law_36 (by decide) ?_
      refine lv_iand hx hb dL_law_38 ?_
      rcases gSw ((xs (5 * j)) &&& 31) with hsw | hsw | hsw | hsw | hsw | hsw | hsw | hsw | hsw | hsw | hsw | hsw | hsw | hsw | hsw | hsw | hsw | hsw | hsw | hsw | hsw | hsw | hsw
      · refine lv_tableOut (tgt := 1335) hx hb dL_law_39 hsw (by decide) ?_
        refine lv_iinc (v := (nI (5 * (j + 1)))) (lv' := [(4, .int (nI (5 * (j + 1)))), (0, .ref b), (1, .ref g), (2, .ref x0), (3, .ref o)]) hx hb dL_law_1335 hl (k := 0) rfl (by show nI (5 * j) + 5 = nI (5 * (j + 1)); exact nI_add (5 * j) 5) (by decide) rfl (fun ls hl => ?_)
        refine lv_goto (tgt := 23) hx hb dL_law_1338 (by decide) ?_
        refine W.widen (k := 20 + 5 * (j + 1)) (n := 914 + 30 * (j + 1)) (by omega) (by omega) ?_
        exact ih (j + 1) _ _ _ _ _ _ _ _ _ _ _ _ _ _ _ _ _ _ _ _ _ _ _ _ _ _ _ _ _ _ _ (by omega) (by omega) hG hP hD hS (lv_sub hl [0, 1, 2, 3, 4] rfl)
      · rw [hsw]
        refine lv_tableIn (off := 101) (tgt := 140) hx hb dL_law_39 (by decide) (by decide) rfl (by decide) ?_
        refine lv_aload_n hx hb dL_law_140 rfl (lv_at hl 2 rfl) ?_
        refine lv_aload_n hx hb dL_law_141 rfl (lv_at hl 1 rfl) ?_
        refine lv_iload hx hb dL_law_142 (lv_at hl 0 rfl) ?_
        refine lv_iconst (v := 1) hx hb dL_law_144 (by decide) ?_
        refine lv_iadd hx hb dL_law_145 ?_
        rw [show nI (5 * j) + 1 = nI (5 * j + 1) from nI_add (5 * j) 1]
        refine gk_sld (i := (5 * j + 1)) hx hb hX hbl hbA hS (by omega) hL dL_law_146 ?_
        refine lv_aload_n hx hb dL_law_147 rfl (lv_at hl 1 rfl) ?_
        refine lv_iload hx hb dL_law_148 (lv_at hl 0 rfl) ?_
        refine lv_iconst (v := 2) hx hb dL_law_150 (by decide) ?_
        refine lv_iadd hx hb dL_law_151 ?_
        rw [show nI (5 * j) + 2 = nI (5 * j + 2) from nI_add (5 * j) 2]
        refine gk_sld (i := (5 * j + 2)) hx hb hX hbl hbA hS (by omega) hL dL_law_152 ?_
        refine lv_aload_n hx hb dL_law_153 rfl (lv_at hl 1 rfl) ?_
        refine lv_iload hx hb dL_law_154 (lv_at hl 0 rfl) ?_
        refine lv_iconst (v := 3) hx hb dL_law_156 (by decide) ?_
        refine lv_iadd hx hb dL_law_157 ?_
        rw [show nI (5 * j) + 3 = nI (5 * j + 3) from nI_add (5 * j) 3]
        refine gk_sld (i := (5 * j + 3)) hx hb hX hbl hbA hS (by omega) hL dL_law_158 ?_
        refine lv_aload_n hx hb dL_law_159 rfl (lv_at hl 1 rfl) ?_
        refine lv_iload hx hb dL_law_160 (lv_at hl 0 rfl) ?_
        refine lv_iconst (v := 4) hx hb dL_law_162 (by decide) ?_
        refine lv_iadd hx hb dL_law_163 ?_
        rw [show nI (5 * j) + 4 = nI (5 * j + 4) from nI_add (5 * j) 4]
        refine gk_sld (i := (5 * j + 4)) hx hb hX hbl hbA hS (by omega) hL dL_law_164 ?_
        have hF_2 := gk_all hD hS hA
        refine va_calli (vx_runSW (As := [.ref g, .int (xs (5 * j + 1)), .int (xs (5 * j + 2)), .int (xs (5 * j + 3)), .int (xs (5 * j + 4))]) (rest := []) ⟨hx, hb, hml, hown, hts⟩ (kL_setGrant l hst D cyI cyZ cyL cyV cyJ gr sh rt ce nl nv am nc cd bud fsd las isB mto maw lno dya amo rfd ord cpa lnf orf g o (x0, .inr (3, [.int gr, .int sh, .int rt, .int ce, .int (nI nl), .ref x1, .ref x2, .ref x3, .ref x4, .ref x5, .ref x6, .int (nI nv), .ref x7, .ref x8, .ref x9, .ref x10, .ref x11, .int am, .int (nI nc), .int cd, .ref x12, .int th, .ref x13, .ref x14])) (x1, .inl (cyI, 12, .inl bud)) (x2, .inl (cyI, 12, .inl fsd)) (x3, .inl (cyI, 12, .inl las)) (x4, .inl (cyZ, 12, .inl isB)) (x5, .inl (cyI, 12, .inl mto)) (x6, .inl (cyI, 12, .inl maw)) (x7, .inl (cyI, 100, .inl lno)) (x8, .inl (cyI, 100, .inl dya)) (x9, .inl (cyI, 100, .inl amo)) (x10, .inl (cyZ, 100, .inl rfd)) (x11, .inl (cyI, 100, .inl ord)) (x12, .inl (cyI, 40, .inl cpa)) (x13, .inl (cyI, 100, .inl eli)) (x14, .inl (cyI, 12, .inl usd)) fo G hG (xs (5 * j + 1)) (xs (5 * j + 2)) (xs (5 * j + 3)) (xs (5 * j + 4)) H.size _ rfl) (vx_cwSW 5 hts gL_law_L_setGrant rfl rfl rfl (by decide +kernel) ⟨(Nat.le_of_ble_eq_true rfl), (Nat.le_of_ble_eq_true rfl)⟩) (gk_preSN hNC hTF hS hF_2 hP hK hD) rfl rfl hl.1 rfl (lv_room (Nat.le_of_ble_eq_true rfl)) dL_law_165 ⟨(by show _ ≤ (601024 : Nat); omega), (by show _ ≤ (7293034 : Nat); omega)⟩) hS (fun q _ h => hF_2 q h) hF_2 (fun r_2 u_2 t_2 H locs ht_2 hvm_2 hw_2 hB_2 hz_2 hk_2 hS => ?_)
        obtain ⟨hP, hD⟩ := gk_back hF_2 hB_2 ht_2
        refine lv_istore (lv' := [(5, .int r_2), (4, .int (nI (5 * j))), (0, .ref b), (1, .ref g), (2, .ref x0), (3, .ref o)]) hx hb dL_law_168 hl (by decide) rfl (fun ls hl => ?_)
        refine lv_aload_n hx hb dL_law_170 rfl (lv_at hl 4 rfl) ?_
        refine lv_aload_n hx hb dL_law_171 rfl (lv_at hl 2 rfl) ?_
        refine lv_iload hx hb dL_law_172 (lv_at hl 1 rfl) ?_
        refine lv_iconst (v := 1) hx hb dL_law_174 (by decide) ?_
        refine lv_iadd hx hb dL_law_175 ?_
        rw [show nI (5 * j) + 1 = nI (5 * j + 1) from nI_add (5 * j) 1]
        refine gk_sld (i := (5 * j + 1)) hx hb hX hbl hbA hS (by omega) hL dL_law_176 ?_
        refine lv_aload_n hx hb dL_law_177 rfl (lv_at hl 2 rfl) ?_
        refine lv_iload hx hb dL_law_178 (lv_at hl 1 rfl) ?_
        refine lv_iconst (v := 2) hx hb dL_law_180 (by decide) ?_
        refine lv_iadd hx hb dL_law_181 ?_
        rw [show nI (5 * j) + 2 = nI (5 * j + 2) from nI_add (5 * j) 2]
        refine gk_sld (i := (5 * j + 2)) hx hb hX hbl hbA hS (by omega) hL dL_law_182 ?_
        refine lv_aload_n hx hb dL_law_183 rfl (lv_at hl 2 rfl) ?_
        refine lv_iload hx hb dL_law_184 (lv_at hl 1 rfl) ?_
        refine lv_iconst (v := 3) hx hb dL_law_186 (by decide) ?_
        refine lv_iadd hx hb dL_law_187 ?_
        rw [show nI (5 * j) + 3 = nI (5 * j + 3) from nI_add (5 * j) 3]
        refine gk_sld (i := (5 * j + 3)) hx hb hX hbl hbA hS (by omega) hL dL_law_188 ?_
        refine lv_aload_n hx hb dL_law_189 rfl (lv_at hl 2 rfl) ?_
        refine lv_iload hx hb dL_law_190 (lv_at hl 1 rfl) ?_
        refine lv_iconst (v := 4) hx hb dL_law_192 (by decide) ?_
        refine lv_iadd hx hb dL_law_193 ?_
        rw [show nI (5 * j) + 4 = nI (5 * j + 4) from nI_add (5 * j) 4]
        refine gk_sld (i := (5 * j + 4)) hx hb hX hbl hbA hS (by omega) hL dL_law_194 ?_
        have hF_3 := gk_all hD hS hA
        refine va_callv (va_runV (As := [.int (xs (5 * j + 1)), .int (xs (5 * j + 2)), .int (xs (5 * j + 3)), .int (xs (5 * j + 4))]) (rest := []) ⟨hx, hb, hml, hown, hts⟩ (kX3_setGrant l D cyI cyZ cyL cyV cyJ x0 x1 x2 x3 x4 x5 x6 x7 x8 x9 x10 x11 x12 x13 x14 gr sh rt ce nl nv am nc cd th bud fsd las isB mto maw lno dya amo rfd ord cpa eli usd ((o, .inl (cyJ, 1, .inr (.inl u_2.1))) :: u_2.2) hM.1.2.2 (xs (5 * j + 1)) (xs (5 * j + 2)) (xs (5 * j + 3)) (xs (5 * j + 4)) H.size _ rfl) (cwV 4 hts gL_law_X3_setGrant rfl rfl rfl (by decide +kernel) ⟨(Nat.le_of_ble_eq_true rfl), (Nat.le_of_ble_eq_true rfl)⟩) (gk_preV hP hK hD (va_recv hK hP (ci := 3) (q0 := 0) rfl rfl)) rfl rfl hl.1 rfl (lv_room (Nat.le_of_ble_eq_true rfl)) dL_law_195 ⟨(by show _ ≤ (601024 : Nat); omega), (by show _ ≤ (7293034 : Nat); omega)⟩) hS (fun q _ h => hF_3 q h) hF_3 (fun u_3 t_3 H locs ht_3 hvm_3 hw_3 hB_3 hz_3 hk_3 hS => ?_)
        obtain ⟨hP, hD⟩ := gk_back hF_3 hB_3 ht_3
        obtain ⟨th9, u9⟩ := u_3
        obtain ⟨hth, hsu9, hol9⟩ := hw_3
        obtain ⟨hLk, hLs, hLo⟩ := hw_2
        by_cases hcd : cSetGrant nc (xs (5 * j + 1)) (xs (5 * j + 2)) (xs (5 * j + 3)) (xs (5 * j + 4)) = 0
        · have hk0 : r_2 = 0 := hLk.trans hcd
          have hG9 := hLs hcd
          have hu9 := hsu9 hcd
          dsimp only at hu9
          rw [hu9] at hP hD
          subst hk0
          have hP : va_P D vwCl ((x0, .inr (3, [.int (xs (5 * j + 1)), .int (xs (5 * j + 2)), .int (xs (5 * j + 3)), .int (xs (5 * j + 4)), .int (nI nl), .ref x1, .ref x2, .ref x3, .ref x4, .ref x5, .ref x6, .int (nI nv), .ref x7, .ref x8, .ref x9, .ref x10, .ref x11, .int am, .int (nI nc), .int cd, .ref x12, .int th9, .ref x13, .ref x14])) :: (x1, .inl (cyI, 12, .inl bud)) :: (x2, .inl (cyI, 12, .inl fsd)) :: (x3, .inl (cyI, 12, .inl las)) :: (x4, .inl (cyZ, 12, .inl isB)) :: (x5, .inl (cyI, 12, .inl mto)) :: (x6, .inl (cyI, 12, .inl maw)) :: (x7, .inl (cyI, 100, .inl lno)) :: (x8, .inl (cyI, 100, .inl dya)) :: (x9, .inl (cyI, 100, .inl amo)) :: (x10, .inl (cyZ, 100, .inl rfd)) :: (x11, .inl (cyI, 100, .inl ord)) :: (x12, .inl (cyI, 40, .inl cpa)) :: (x13, .inl (cyI, 100, .inl eli)) :: (x14, .inl (cyI, 12, .inl usd)) :: (o, .inl (cyJ, 1, .inr (.inl u_2.1))) :: u_2.2) H := hP
          have hD : va_D A ((x0, .inr (3, [.int (xs (5 * j + 1)), .int (xs (5 * j + 2)), .int (xs (5 * j + 3)), .int (xs (5 * j + 4)), .int (nI nl), .ref x1, .ref x2, .ref x3, .ref x4, .ref x5, .ref x6, .int (nI nv), .ref x7, .ref x8, .ref x9, .ref x10, .ref x11, .int am, .int (nI nc), .int cd, .ref x12, .int th9, .ref x13, .ref x14])) :: (x1, .inl (cyI, 12, .inl bud)) :: (x2, .inl (cyI, 12, .inl fsd)) :: (x3, .inl (cyI, 12, .inl las)) :: (x4, .inl (cyZ, 12, .inl isB)) :: (x5, .inl (cyI, 12, .inl mto)) :: (x6, .inl (cyI, 12, .inl maw)) :: (x7, .inl (cyI, 100, .inl lno)) :: (x8, .inl (cyI, 100, .inl dya)) :: (x9, .inl (cyI, 100, .inl amo)) :: (x10, .inl (cyZ, 100, .inl rfd)) :: (x11, .inl (cyI, 100, .inl ord)) :: (x12, .inl (cyI, 40, .inl cpa)) :: (x13, .inl (cyI, 100, .inl eli)) :: (x14, .inl (cyI, 12, .inl usd)) :: (o, .inl (cyJ, 1, .inr (.inl u_2.1))) :: u_2.2) := hD
          refine lv_aload_n hx hb dL_law_198 rfl (lv_at hl 4 rfl) ?_
          have hF_4 := gk_all hD hS hA
          refine va_calli (va_runV (As := []) (rest := []) ⟨hx, hb, hml, hown, hts⟩ (kX3_thrown l D cyI cyZ cyL cyV cyJ x0 x1 x2 x3 x4 x5 x6 x7 x8 x9 x10 x11 x12 x13 x14 (xs (5 * j + 1)) (xs (5 * j + 2)) (xs (5 * j + 3)) (xs (5 * j + 4)) nl nv am nc cd th9 bud fsd las isB mto maw lno dya amo rfd ord cpa eli usd ((o, .inl (cyJ, 1, .inr (.inl u_2.1))) :: u_2.2)  H.size _ rfl) (cwV 0 hts gL_law_X3_thrown rfl rfl rfl (by decide +kernel) ⟨(Nat.le_of_ble_eq_true rfl), (Nat.le_of_ble_eq_true rfl)⟩) (gk_preV hP hK hD (va_recv hK hP (ci := 3) (q0 := 0) rfl rfl)) rfl rfl hl.1 rfl (lv_room (Nat.le_of_ble_eq_true rfl)) dL_law_199 ⟨(by show _ ≤ (601024 : Nat); omega), (by show _ ≤ (7293034 : Nat); omega)⟩) hS (fun q _ h => hF_4 q h) hF_4 (fun r_4 u_4 t_4 H locs ht_4 hvm_4 hw_4 hB_4 hz_4 hk_4 hS => ?_)
          obtain ⟨hP, hD⟩ := gk_back hF_4 hB_4 ht_4
          subst hw_4
          refine lv_iload hx hb dL_law_202 (lv_at hl 0 rfl) ?_
          refine lv_icmp_eq (tgt := 209) hx hb dL_law_204 (by decide) (fun _ => ?_) (fun c9 => absurd (hth.trans hLk.symm) c9)
          refine lv_goto (tgt := 1335) hx hb dL_law_209 (by decide) ?_
          refine lv_iinc (v := (nI (5 * (j + 1)))) (lv' := [(4, .int (nI (5 * (j + 1)))), (5, .int 0), (0, .ref b), (1, .ref g), (2, .ref x0), (3, .ref o)]) hx hb dL_law_1335 hl (k := 1) rfl (by show nI (5 * j) + 5 = nI (5 * (j + 1)); exact nI_add (5 * j) 5) (by decide) rfl (fun ls hl => ?_)
          refine lv_goto (tgt := 23) hx hb dL_law_1338 (by decide) ?_
          refine W.widen (k := 20 + 5 * (j + 1)) (n := 914 + 30 * (j + 1)) (by omega) (by omega) ?_
          exact ih (j + 1) _ _ _ _ _ _ _ _ _ _ _ _ _ _ _ _ _ _ _ _ _ _ _ _ _ _ _ _ _ _ _ (by omega) (by omega) hG9 hP hD hS (lv_sub hl [0, 2, 3, 4, 5] rfl)
        · have hG9 := hLo hcd
          have hu9 := hol9 hcd
          dsimp only at hu9
          rw [hu9] at hP hD
          have hP : va_P D vwCl ((x0, .inr (3, [.int gr, .int sh, .int rt, .int ce, .int (nI nl), .ref x1, .ref x2, .ref x3, .ref x4, .ref x5, .ref x6, .int (nI nv), .ref x7, .ref x8, .ref x9, .ref x10, .ref x11, .int am, .int (nI nc), .int cd, .ref x12, .int th9, .ref x13, .ref x14])) :: (x1, .inl (cyI, 12, .inl bud)) :: (x2, .inl (cyI, 12, .inl fsd)) :: (x3, .inl (cyI, 12, .inl las)) :: (x4, .inl (cyZ, 12, .inl isB)) :: (x5, .inl (cyI, 12, .inl mto)) :: (x6, .inl (cyI, 12, .inl maw)) :: (x7, .inl (cyI, 100, .inl lno)) :: (x8, .inl (cyI, 100, .inl dya)) :: (x9, .inl (cyI, 100, .inl amo)) :: (x10, .inl (cyZ, 100, .inl rfd)) :: (x11, .inl (cyI, 100, .inl ord)) :: (x12, .inl (cyI, 40, .inl cpa)) :: (x13, .inl (cyI, 100, .inl eli)) :: (x14, .inl (cyI, 12, .inl usd)) :: (o, .inl (cyJ, 1, .inr (.inl u_2.1))) :: u_2.2) H := hP
          have hD : va_D A ((x0, .inr (3, [.int gr, .int sh, .int rt, .int ce, .int (nI nl), .ref x1, .ref x2, .ref x3, .ref x4, .ref x5, .ref x6, .int (nI nv), .ref x7, .ref x8, .ref x9, .ref x10, .ref x11, .int am, .int (nI nc), .int cd, .ref x12, .int th9, .ref x13, .ref x14])) :: (x1, .inl (cyI, 12, .inl bud)) :: (x2, .inl (cyI, 12, .inl fsd)) :: (x3, .inl (cyI, 12, .inl las)) :: (x4, .inl (cyZ, 12, .inl isB)) :: (x5, .inl (cyI, 12, .inl mto)) :: (x6, .inl (cyI, 12, .inl maw)) :: (x7, .inl (cyI, 100, .inl lno)) :: (x8, .inl (cyI, 100, .inl dya)) :: (x9, .inl (cyI, 100, .inl amo)) :: (x10, .inl (cyZ, 100, .inl rfd)) :: (x11, .inl (cyI, 100, .inl ord)) :: (x12, .inl (cyI, 40, .inl cpa)) :: (x13, .inl (cyI, 100, .inl eli)) :: (x14, .inl (cyI, 12, .inl usd)) :: (o, .inl (cyJ, 1, .inr (.inl u_2.1))) :: u_2.2) := hD
          refine lv_aload_n hx hb dL_law_198 rfl (lv_at hl 4 rfl) ?_
          have hF_5 := gk_all hD hS hA
          refine va_calli (va_runV (As := []) (rest := []) ⟨hx, hb, hml, hown, hts⟩ (kX3_thrown l D cyI cyZ cyL cyV cyJ x0 x1 x2 x3 x4 x5 x6 x7 x8 x9 x10 x11 x12 x13 x14 gr sh rt ce nl nv am nc cd th9 bud fsd las isB mto maw lno dya amo rfd ord cpa eli usd ((o, .inl (cyJ, 1, .inr (.inl u_2.1))) :: u_2.2)  H.size _ rfl) (cwV 0 hts gL_law_X3_thrown rfl rfl rfl (by decide +kernel) ⟨(Nat.le_of_ble_eq_true rfl), (Nat.le_of_ble_eq_true rfl)⟩) (gk_preV hP hK hD (va_recv hK hP (ci := 3) (q0 := 0) rfl rfl)) rfl rfl hl.1 rfl (lv_room (Nat.le_of_ble_eq_true rfl)) dL_law_199 ⟨(by show _ ≤ (601024 : Nat); omega), (by show _ ≤ (7293034 : Nat); omega)⟩) hS (fun q _ h => hF_5 q h) hF_5 (fun r_5 u_5 t_5 H locs ht_5 hvm_5 hw_5 hB_5 hz_5 hk_5 hS => ?_)
          obtain ⟨hP, hD⟩ := gk_back hF_5 hB_5 ht_5
          subst hw_5
          refine lv_iload hx hb dL_law_202 (lv_at hl 0 rfl) ?_
          refine lv_icmp_eq (tgt := 209) hx hb dL_law_204 (by decide) (fun _ => ?_) (fun c9 => absurd (hth.trans hLk.symm) c9)
          refine lv_goto (tgt := 1335) hx hb dL_law_209 (by decide) ?_
          refine lv_iinc (v := (nI (5 * (j + 1)))) (lv' := [(4, .int (nI (5 * (j + 1)))), (5, .int r_2), (0, .ref b), (1, .ref g), (2, .ref x0), (3, .ref o)]) hx hb dL_law_1335 hl (k := 1) rfl (by show nI (5 * j) + 5 = nI (5 * (j + 1)); exact nI_add (5 * j) 5) (by decide) rfl (fun ls hl => ?_)
          refine lv_goto (tgt := 23) hx hb dL_law_1338 (by decide) ?_
          refine W.widen (k := 20 + 5 * (j + 1)) (n := 914 + 30 * (j + 1)) (by omega) (by omega) ?_
          exact ih (j + 1) _ _ _ _ _ _ _ _ _ _ _ _ _ _ _ _ _ _ _ _ _ _ _ _ _ _ _ _ _ _ _ (by omega) (by omega) hG9 hP hD hS (lv_sub hl [0, 2, 3, 4, 5] rfl)
      · rw [hsw]
        refine lv_tableIn (off := 173) (tgt := 212) hx hb dL_law_39 (by decide) (by decide) rfl (by decide) ?_
        refine lv_aload_n hx hb dL_law_212 rfl (lv_at hl 2 rfl) ?_
        refine lv_aload_n hx hb dL_law_213 rfl (lv_at hl 1 rfl) ?_
        refine lv_iload hx hb dL_law_214 (lv_at hl 0 rfl) ?_
        refine lv_iconst (v := 1) hx hb dL_law_216 (by decide) ?_
        refine lv_iadd hx hb dL_law_217 ?_
        rw [show nI (5 * j) + 1 = nI (5 * j + 1) from nI_add (5 * j) 1]
        refine gk_sld (i := (5 * j + 1)) hx hb hX hbl hbA hS (by omega) hL dL_law_218 ?_
        refine lv_aload_n hx hb dL_law_219 rfl (lv_at hl 1 rfl) ?_
        refine lv_iload hx hb dL_law_220 (lv_at hl 0 rfl) ?_
        refine lv_iconst (v := 2) hx hb dL_law_222 (by decide) ?_
        refine lv_iadd hx hb dL_law_223 ?_
        rw [show nI (5 * j) + 2 = nI (5 * j + 2) from nI_add (5 * j) 2]
        refine gk_sld (i := (5 * j + 2)) hx hb hX hbl hbA hS (by omega) hL dL_law_224 ?_
        refine lv_aload_n hx hb dL_law_225 rfl (lv_at hl 1 rfl) ?_
        refine lv_iload hx hb dL_law_226 (lv_at hl 0 rfl) ?_
        refine lv_iconst (v := 3) hx hb dL_law_228 (by decide) ?_
        refine lv_iadd hx hb dL_law_229 ?_
        rw [show nI (5 * j) + 3 = nI (5 * j + 3) from nI_add (5 * j) 3]
        refine gk_sld (i := (5 * j + 3)) hx hb hX hbl hbA hS (by omega) hL dL_law_230 ?_
        refine lv_aload_n hx hb dL_law_231 rfl (lv_at hl 1 rfl) ?_
        refine lv_iload hx hb dL_law_232 (lv_at hl 0 rfl) ?_
        refine lv_iconst (v := 4) hx hb dL_law_234 (by decide) ?_
        refine lv_iadd hx hb dL_law_235 ?_
        rw [show nI (5 * j) + 4 = nI (5 * j + 4) from nI_add (5 * j) 4]
        refine gk_sld (i := (5 * j + 4)) hx hb hX hbl hbA hS (by omega) hL dL_law_236 ?_
        refine lv_if_eq (tgt := 244) hx hb dL_law_237 (by decide) (fun c_6 => ?_) (fun c_6 => ?_)
        · refine lv_iconst (v := 0) hx hb dL_law_244 (by decide) ?_
          refine lv_aload_n hx hb dL_law_245 rfl (lv_at hl 4 rfl) ?_
          have hF_7 := gk_all hD hS hA
          refine va_calli (vx_runSW (As := [.ref g, .int (xs (5 * j + 1)), .int (xs (5 * j + 2)), .int (xs (5 * j + 3)), .int 0, .ref o]) (rest := []) ⟨hx, hb, hml, hown, hts⟩ (kL_addLine l hst D cyI cyZ cyL cyV cyJ gr sh rt ce nl nv am nc cd bud fsd las isB mto maw lno dya amo rfd ord cpa lnf orf g o (x0, .inr (3, [.int gr, .int sh, .int rt, .int ce, .int (nI nl), .ref x1, .ref x2, .ref x3, .ref x4, .ref x5, .ref x6, .int (nI nv), .ref x7, .ref x8, .ref x9, .ref x10, .ref x11, .int am, .int (nI nc), .int cd, .ref x12, .int th, .ref x13, .ref x14])) (x1, .inl (cyI, 12, .inl bud)) (x2, .inl (cyI, 12, .inl fsd)) (x3, .inl (cyI, 12, .inl las)) (x4, .inl (cyZ, 12, .inl isB)) (x5, .inl (cyI, 12, .inl mto)) (x6, .inl (cyI, 12, .inl maw)) (x7, .inl (cyI, 100, .inl lno)) (x8, .inl (cyI, 100, .inl dya)) (x9, .inl (cyI, 100, .inl amo)) (x10, .inl (cyZ, 100, .inl rfd)) (x11, .inl (cyI, 100, .inl ord)) (x12, .inl (cyI, 40, .inl cpa)) (x13, .inl (cyI, 100, .inl eli)) (x14, .inl (cyI, 12, .inl usd)) fo G hG (xs (5 * j + 1)) (xs (5 * j + 2)) (xs (5 * j + 3)) 0 (by decide) H.size _ rfl) (vx_cwSW 6 hts gL_law_L_addLine rfl rfl rfl (by decide +kernel) ⟨(Nat.le_of_ble_eq_true rfl), (Nat.le_of_ble_eq_true rfl)⟩) (gk_preSN hNC hTF hS hF_7 hP hK hD) rfl rfl hl.1 rfl (lv_room (Nat.le_of_ble_eq_true rfl)) dL_law_246 ⟨(by show _ ≤ (601024 : Nat); omega), (by show _ ≤ (7293034 : Nat); omega)⟩) hS (fun q _ h => hF_7 q h) hF_7 (fun r_7 u_7 t_7 H locs ht_7 hvm_7 hw_7 hB_7 hz_7 hk_7 hS => ?_)
          obtain ⟨hP, hD⟩ := gk_back hF_7 hB_7 ht_7
          refine lv_istore (lv' := [(5, .int r_7), (4, .int (nI (5 * j))), (0, .ref b), (1, .ref g), (2, .ref x0), (3, .ref o)]) hx hb dL_law_249 hl (by decide) rfl (fun ls hl => ?_)
          refine lv_aload_n hx hb dL_law_251 rfl (lv_at hl 4 rfl) ?_
          refine lv_aload_n hx hb dL_law_252 rfl (lv_at hl 2 rfl) ?_
          refine lv_iload hx hb dL_law_253 (lv_at hl 1 rfl) ?_
          refine lv_iconst (v := 1) hx hb dL_law_255 (by decide) ?_
          refine lv_iadd hx hb dL_law_256 ?_
          rw [show nI (5 * j) + 1 = nI (5 * j + 1) from nI_add (5 * j) 1]
          refine gk_sld (i := (5 * j + 1)) hx hb hX hbl hbA hS (by omega) hL dL_law_257 ?_
          refine lv_aload_n hx hb dL_law_258 rfl (lv_at hl 2 rfl) ?_
          refine lv_iload hx hb dL_law_259 (lv_at hl 1 rfl) ?_
          refine lv_iconst (v := 2) hx hb dL_law_261 (by decide) ?_
          refine lv_iadd hx hb dL_law_262 ?_
          rw [show nI (5 * j) + 2 = nI (5 * j + 2) from nI_add (5 * j) 2]
          refine gk_sld (i := (5 * j + 2)) hx hb hX hbl hbA hS (by omega) hL dL_law_263 ?_
          refine lv_aload_n hx hb dL_law_264 rfl (lv_at hl 2 rfl) ?_
          refine lv_iload hx hb dL_law_265 (lv_at hl 1 rfl) ?_
          refine lv_iconst (v := 3) hx hb dL_law_267 (by decide) ?_
          refine lv_iadd hx hb dL_law_268 ?_
          rw [show nI (5 * j) + 3 = nI (5 * j + 3) from nI_add (5 * j) 3]
          refine gk_sld (i := (5 * j + 3)) hx hb hX hbl hbA hS (by omega) hL dL_law_269 ?_
          refine lv_aload_n hx hb dL_law_270 rfl (lv_at hl 2 rfl) ?_
          refine lv_iload hx hb dL_law_271 (lv_at hl 1 rfl) ?_
          refine lv_iconst (v := 4) hx hb dL_law_273 (by decide) ?_
          refine lv_iadd hx hb dL_law_274 ?_
          rw [show nI (5 * j) + 4 = nI (5 * j + 4) from nI_add (5 * j) 4]
          refine gk_sld (i := (5 * j + 4)) hx hb hX hbl hbA hS (by omega) hL dL_law_275 ?_
          refine lv_if_eq (tgt := 283) hx hb dL_law_276 (by decide) (fun _ => ?_) (fun c9 => absurd c_6 c9)
          refine lv_iconst (v := 0) hx hb dL_law_283 (by decide) ?_
          have hF_8 := gk_all hD hS hA
          refine va_calli (va_runV (As := [.int (xs (5 * j + 1)), .int (xs (5 * j + 2)), .int (xs (5 * j + 3)), .int 0]) (rest := []) ⟨hx, hb, hml, hown, hts⟩ (kX3_addLine l D cyI cyZ cyL cyV cyJ x0 x1 x2 x3 x4 x5 x6 x7 x8 x9 x10 x11 x12 x13 x14 gr sh rt ce nl nv am nc cd th bud fsd las isB mto maw lno dya amo rfd ord cpa eli usd ((o, .inl (cyJ, 1, .inr (.inl u_7.1))) :: u_7.2) hM.1.1 (xs (5 * j + 1)) (xs (5 * j + 2)) (xs (5 * j + 3)) 0 (by decide) H.size _ rfl) (cwV 4 hts gL_law_X3_addLine rfl rfl rfl (by decide +kernel) ⟨(Nat.le_of_ble_eq_true rfl), (Nat.le_of_ble_eq_true rfl)⟩) (gk_preV hP hK hD (va_recv hK hP (ci := 3) (q0 := 0) rfl rfl)) rfl rfl hl.1 rfl (lv_room (Nat.le_of_ble_eq_true rfl)) dL_law_284 ⟨(by show _ ≤ (601024 : Nat); omega), (by show _ ≤ (7293034 : Nat); omega)⟩) hS (fun q _ h => hF_8 q h) hF_8 (fun r_8 u_8 t_8 H locs ht_8 hvm_8 hw_8 hB_8 hz_8 hk_8 hS => ?_)
          obtain ⟨hP, hD⟩ := gk_back hF_8 hB_8 ht_8
          obtain ⟨th9, u9⟩ := u_8
          obtain ⟨hth, hsu9, hol9⟩ := hw_8
          obtain ⟨hLk, hLs, hLo⟩ := hw_7
          by_cases hcd : cAddLine nl (xs (5 * j + 1)) (xs (5 * j + 2)) (xs (5 * j + 3)) = 0
          · have hk0 : r_7 = 0 := hLk.trans hcd
            obtain ⟨hout, hG9⟩ := hLs hcd
            obtain ⟨hr9, hu9⟩ := hsu9 hcd
            dsimp only at hu9
            rw [hu9] at hP hD
            subst hk0
            have hP : va_P D vwCl ((x0, .inr (3, [.int gr, .int sh, .int rt, .int ce, .int (nI (nl + 1)), .ref x1, .ref x2, .ref x3, .ref x4, .ref x5, .ref x6, .int (nI nv), .ref x7, .ref x8, .ref x9, .ref x10, .ref x11, .int am, .int (nI nc), .int cd, .ref x12, .int th9, .ref x13, .ref x14])) :: (x1, .inl (cyI, 12, .inl (va_up bud nl (xs (5 * j + 1))))) :: (x2, .inl (cyI, 12, .inl (va_up fsd nl (xs (5 * j + 2))))) :: (x3, .inl (cyI, 12, .inl (va_up las nl (xs (5 * j + 3))))) :: (x4, .inl (cyZ, 12, .inl (va_up isB nl 0))) :: (x5, .inl (cyI, 12, .inl mto)) :: (x6, .inl (cyI, 12, .inl maw)) :: (x7, .inl (cyI, 100, .inl lno)) :: (x8, .inl (cyI, 100, .inl dya)) :: (x9, .inl (cyI, 100, .inl amo)) :: (x10, .inl (cyZ, 100, .inl rfd)) :: (x11, .inl (cyI, 100, .inl ord)) :: (x12, .inl (cyI, 40, .inl cpa)) :: (x13, .inl (cyI, 100, .inl eli)) :: (x14, .inl (cyI, 12, .inl usd)) :: (o, .inl (cyJ, 1, .inr (.inl u_7.1))) :: u_7.2) H := hP
            have hD : va_D A ((x0, .inr (3, [.int gr, .int sh, .int rt, .int ce, .int (nI (nl + 1)), .ref x1, .ref x2, .ref x3, .ref x4, .ref x5, .ref x6, .int (nI nv), .ref x7, .ref x8, .ref x9, .ref x10, .ref x11, .int am, .int (nI nc), .int cd, .ref x12, .int th9, .ref x13, .ref x14])) :: (x1, .inl (cyI, 12, .inl (va_up bud nl (xs (5 * j + 1))))) :: (x2, .inl (cyI, 12, .inl (va_up fsd nl (xs (5 * j + 2))))) :: (x3, .inl (cyI, 12, .inl (va_up las nl (xs (5 * j + 3))))) :: (x4, .inl (cyZ, 12, .inl (va_up isB nl 0))) :: (x5, .inl (cyI, 12, .inl mto)) :: (x6, .inl (cyI, 12, .inl maw)) :: (x7, .inl (cyI, 100, .inl lno)) :: (x8, .inl (cyI, 100, .inl dya)) :: (x9, .inl (cyI, 100, .inl amo)) :: (x10, .inl (cyZ, 100, .inl rfd)) :: (x11, .inl (cyI, 100, .inl ord)) :: (x12, .inl (cyI, 40, .inl cpa)) :: (x13, .inl (cyI, 100, .inl eli)) :: (x14, .inl (cyI, 12, .inl usd)) :: (o, .inl (cyJ, 1, .inr (.inl u_7.1))) :: u_7.2) := hD
            refine lv_istore (lv' := [(6, .int r_8), (5, .int 0), (4, .int (nI (5 * j))), (0, .ref b), (1, .ref g), (2, .ref x0), (3, .ref o)]) hx hb dL_law_287 hl (by decide) rfl (fun ls hl => ?_)
            refine lv_aload_n hx hb dL_law_289 rfl (lv_at hl 5 rfl) ?_
            have hF_9 := gk_all hD hS hA
            refine va_calli (va_runV (As := []) (rest := []) ⟨hx, hb, hml, hown, hts⟩ (kX3_thrown l D cyI cyZ cyL cyV cyJ x0 x1 x2 x3 x4 x5 x6 x7 x8 x9 x10 x11 x12 x13 x14 gr sh rt ce (nl + 1) nv am nc cd th9 (va_up bud nl (xs (5 * j + 1))) (va_up fsd nl (xs (5 * j + 2))) (va_up las nl (xs (5 * j + 3))) (va_up isB nl 0) mto maw lno dya amo rfd ord cpa eli usd ((o, .inl (cyJ, 1, .inr (.inl u_7.1))) :: u_7.2)  H.size _ rfl) (cwV 0 hts gL_law_X3_thrown rfl rfl rfl (by decide +kernel) ⟨(Nat.le_of_ble_eq_true rfl), (Nat.le_of_ble_eq_true rfl)⟩) (gk_preV hP hK hD (va_recv hK hP (ci := 3) (q0 := 0) rfl rfl)) rfl rfl hl.1 rfl (lv_room (Nat.le_of_ble_eq_true rfl)) dL_law_290 ⟨(by show _ ≤ (601024 : Nat); omega), (by show _ ≤ (7293034 : Nat); omega)⟩) hS (fun q _ h => hF_9 q h) hF_9 (fun r_9 u_9 t_9 H locs ht_9 hvm_9 hw_9 hB_9 hz_9 hk_9 hS => ?_)
            obtain ⟨hP, hD⟩ := gk_back hF_9 hB_9 ht_9
            subst hw_9
            refine lv_iload hx hb dL_law_293 (lv_at hl 1 rfl) ?_
            refine lv_icmp_eq (tgt := 300) hx hb dL_law_295 (by decide) (fun _ => ?_) (fun c9 => absurd (hth.trans hLk.symm) c9)
            refine lv_iload hx hb dL_law_300 (lv_at hl 1 rfl) ?_
            refine lv_if_ne (tgt := 317) hx hb dL_law_302 (by decide) (fun c => by first | exact absurd c (by decide) | exact absurd (by decide) c) (fun _ => ?_)
            refine lv_aload_n hx hb dL_law_305 rfl (lv_at hl 6 rfl) ?_
            refine lv_iconst (v := 0) hx hb dL_law_306 (by decide) ?_
            refine va_lald hx hb hK hP 15 4 rfl rfl (i := 0) (show ¬ ((0 : Int32) < 0 ∨ 1 ≤ (0 : Int32).toNatClampNeg) by decide) dL_law_307 ?_
            refine lv_iload hx hb dL_law_308 (lv_at hl 0 rfl) ?_
            refine lv_i2l hx hb dL_law_310 rfl ?_
            refine W.lcmp hx hb dL_law_311 ?_
            refine lv_if_eq (tgt := 317) hx hb dL_law_312 (by decide) (fun _ => ?_) (fun c9 => absurd ((lg_cmp_eq _ _).mpr (show u_7.1 0 = r_8.toInt64 by rw [hout, hr9])) c9)
            refine lv_goto (tgt := 1335) hx hb dL_law_317 (by decide) ?_
            refine lv_iinc (v := (nI (5 * (j + 1)))) (lv' := [(4, .int (nI (5 * (j + 1)))), (6, .int r_8), (5, .int 0), (0, .ref b), (1, .ref g), (2, .ref x0), (3, .ref o)]) hx hb dL_law_1335 hl (k := 2) rfl (by show nI (5 * j) + 5 = nI (5 * (j + 1)); exact nI_add (5 * j) 5) (by decide) rfl (fun ls hl => ?_)
            refine lv_goto (tgt := 23) hx hb dL_law_1338 (by decide) ?_
            refine W.widen (k := 20 + 5 * (j + 1)) (n := 914 + 30 * (j + 1)) (by omega) (by omega) ?_
            exact ih (j + 1) _ _ _ _ _ _ _ _ _ _ _ _ _ _ _ _ _ _ _ _ _ _ _ _ _ _ _ _ _ _ _ (by omega) (by omega) hG9 hP hD hS (lv_sub hl [0, 3, 4, 5, 6] rfl)
          · have hG9 := hLo hcd
            have hu9 := hol9 hcd
            dsimp only at hu9
            rw [hu9] at hP hD
            have hP : va_P D vwCl ((x0, .inr (3, [.int gr, .int sh, .int rt, .int ce, .int (nI nl), .ref x1, .ref x2, .ref x3, .ref x4, .ref x5, .ref x6, .int (nI nv), .ref x7, .ref x8, .ref x9, .ref x10, .ref x11, .int am, .int (nI nc), .int cd, .ref x12, .int th9, .ref x13, .ref x14])) :: (x1, .inl (cyI, 12, .inl bud)) :: (x2, .inl (cyI, 12, .inl fsd)) :: (x3, .inl (cyI, 12, .inl las)) :: (x4, .inl (cyZ, 12, .inl isB)) :: (x5, .inl (cyI, 12, .inl mto)) :: (x6, .inl (cyI, 12, .inl maw)) :: (x7, .inl (cyI, 100, .inl lno)) :: (x8, .inl (cyI, 100, .inl dya)) :: (x9, .inl (cyI, 100, .inl amo)) :: (x10, .inl (cyZ, 100, .inl rfd)) :: (x11, .inl (cyI, 100, .inl ord)) :: (x12, .inl (cyI, 40, .inl cpa)) :: (x13, .inl (cyI, 100, .inl eli)) :: (x14, .inl (cyI, 12, .inl usd)) :: (o, .inl (cyJ, 1, .inr (.inl u_7.1))) :: u_7.2) H := hP
            have hD : va_D A ((x0, .inr (3, [.int gr, .int sh, .int rt, .int ce, .int (nI nl), .ref x1, .ref x2, .ref x3, .ref x4, .ref x5, .ref x6, .int (nI nv), .ref x7, .ref x8, .ref x9, .ref x10, .ref x11, .int am, .int (nI nc), .int cd, .ref x12, .int th9, .ref x13, .ref x14])) :: (x1, .inl (cyI, 12, .inl bud)) :: (x2, .inl (cyI, 12, .inl fsd)) :: (x3, .inl (cyI, 12, .inl las)) :: (x4, .inl (cyZ, 12, .inl isB)) :: (x5, .inl (cyI, 12, .inl mto)) :: (x6, .inl (cyI, 12, .inl maw)) :: (x7, .inl (cyI, 100, .inl lno)) :: (x8, .inl (cyI, 100, .inl dya)) :: (x9, .inl (cyI, 100, .inl amo)) :: (x10, .inl (cyZ, 100, .inl rfd)) :: (x11, .inl (cyI, 100, .inl ord)) :: (x12, .inl (cyI, 40, .inl cpa)) :: (x13, .inl (cyI, 100, .inl eli)) :: (x14, .inl (cyI, 12, .inl usd)) :: (o, .inl (cyJ, 1, .inr (.inl u_7.1))) :: u_7.2) := hD
            refine lv_istore (lv' := [(6, .int r_8), (5, .int r_7), (4, .int (nI (5 * j))), (0, .ref b), (1, .ref g), (2, .ref x0), (3, .ref o)]) hx hb dL_law_287 hl (by decide) rfl (fun ls hl => ?_)
            refine lv_aload_n hx hb dL_law_289 rfl (lv_at hl 5 rfl) ?_
            have hF_11 := gk_all hD hS hA
            refine va_calli (va_runV (As := []) (rest := []) ⟨hx, hb, hml, hown, hts⟩ (kX3_thrown l D cyI cyZ cyL cyV cyJ x0 x1 x2 x3 x4 x5 x6 x7 x8 x9 x10 x11 x12 x13 x14 gr sh rt ce nl nv am nc cd th9 bud fsd las isB mto maw lno dya amo rfd ord cpa eli usd ((o, .inl (cyJ, 1, .inr (.inl u_7.1))) :: u_7.2)  H.size _ rfl) (cwV 0 hts gL_law_X3_thrown rfl rfl rfl (by decide +kernel) ⟨(Nat.le_of_ble_eq_true rfl), (Nat.le_of_ble_eq_true rfl)⟩) (gk_preV hP hK hD (va_recv hK hP (ci := 3) (q0 := 0) rfl rfl)) rfl rfl hl.1 rfl (lv_room (Nat.le_of_ble_eq_true rfl)) dL_law_290 ⟨(by show _ ≤ (601024 : Nat); omega), (by show _ ≤ (7293034 : Nat); omega)⟩) hS (fun q _ h => hF_11 q h) hF_11 (fun r_11 u_11 t_11 H locs ht_11 hvm_11 hw_11 hB_11 hz_11 hk_11 hS => ?_)
            obtain ⟨hP, hD⟩ := gk_back hF_11 hB_11 ht_11
            subst hw_11
            refine lv_iload hx hb dL_law_293 (lv_at hl 1 rfl) ?_
            refine lv_icmp_eq (tgt := 300) hx hb dL_law_295 (by decide) (fun _ => ?_) (fun c9 => absurd (hth.trans hLk.symm) c9)
            refine lv_iload hx hb dL_law_300 (lv_at hl 1 rfl) ?_
            refine lv_if_ne (tgt := 317) hx hb dL_law_302 (by decide) (fun _ => ?_) (fun c9 => absurd (hLk.symm.trans c9) hcd)
            refine lv_goto (tgt := 1335) hx hb dL_law_317 (by decide) ?_
            refine lv_iinc (v := (nI (5 * (j + 1)))) (lv' := [(4, .int (nI (5 * (j + 1)))), (6, .int r_8), (5, .int r_7), (0, .ref b), (1, .ref g), (2, .ref x0), (3, .ref o)]) hx hb dL_law_1335 hl (k := 2) rfl (by show nI (5 * j) + 5 = nI (5 * (j + 1)); exact nI_add (5 * j) 5) (by decide) rfl (fun ls hl => ?_)
            refine lv_goto (tgt := 23) hx hb dL_law_1338 (by decide) ?_
            refine W.widen (k := 20 + 5 * (j + 1)) (n := 914 + 30 * (j + 1)) (by omega) (by omega) ?_
            exact ih (j + 1) _ _ _ _ _ _ _ _ _ _ _ _ _ _ _ _ _ _ _ _ _ _ _ _ _ _ _ _ _ _ _ (by omega) (by omega) hG9 hP hD hS (lv_sub hl [0, 3, 4, 5, 6] rfl)
        · refine lv_iconst (v := 1) hx hb dL_law_240 (by decide) ?_
          refine lv_goto (tgt := 245) hx hb dL_law_241 (by decide) ?_
          refine lv_aload_n hx hb dL_law_245 rfl (lv_at hl 4 rfl) ?_
          have hF_12 := gk_all hD hS hA
          refine va_calli (vx_runSW (As := [.ref g, .int (xs (5 * j + 1)), .int (xs (5 * j + 2)), .int (xs (5 * j + 3)), .int 1, .ref o]) (rest := []) ⟨hx, hb, hml, hown, hts⟩ (kL_addLine l hst D cyI cyZ cyL cyV cyJ gr sh rt ce nl nv am nc cd bud fsd las isB mto maw lno dya amo rfd ord cpa lnf orf g o (x0, .inr (3, [.int gr, .int sh, .int rt, .int ce, .int (nI nl), .ref x1, .ref x2, .ref x3, .ref x4, .ref x5, .ref x6, .int (nI nv), .ref x7, .ref x8, .ref x9, .ref x10, .ref x11, .int am, .int (nI nc), .int cd, .ref x12, .int th, .ref x13, .ref x14])) (x1, .inl (cyI, 12, .inl bud)) (x2, .inl (cyI, 12, .inl fsd)) (x3, .inl (cyI, 12, .inl las)) (x4, .inl (cyZ, 12, .inl isB)) (x5, .inl (cyI, 12, .inl mto)) (x6, .inl (cyI, 12, .inl maw)) (x7, .inl (cyI, 100, .inl lno)) (x8, .inl (cyI, 100, .inl dya)) (x9, .inl (cyI, 100, .inl amo)) (x10, .inl (cyZ, 100, .inl rfd)) (x11, .inl (cyI, 100, .inl ord)) (x12, .inl (cyI, 40, .inl cpa)) (x13, .inl (cyI, 100, .inl eli)) (x14, .inl (cyI, 12, .inl usd)) fo G hG (xs (5 * j + 1)) (xs (5 * j + 2)) (xs (5 * j + 3)) 1 (by decide) H.size _ rfl) (vx_cwSW 6 hts gL_law_L_addLine rfl rfl rfl (by decide +kernel) ⟨(Nat.le_of_ble_eq_true rfl), (Nat.le_of_ble_eq_true rfl)⟩) (gk_preSN hNC hTF hS hF_12 hP hK hD) rfl rfl hl.1 rfl (lv_room (Nat.le_of_ble_eq_true rfl)) dL_law_246 ⟨(by show _ ≤ (601024 : Nat); omega), (by show _ ≤ (7293034 : Nat); omega)⟩) hS (fun q _ h => hF_12 q h) hF_12 (fun r_12 u_12 t_12 H locs ht_12 hvm_12 hw_12 hB_12 hz_12 hk_12 hS => ?_)
          obtain ⟨hP, hD⟩ := gk_back hF_12 hB_12 ht_12
          refine lv_istore (lv' := [(5, .int r_12), (4, .int (nI (5 * j))), (0, .ref b), (1, .ref g), (2, .ref x0), (3, .ref o)]) hx hb dL_law_249 hl (by decide) rfl (fun ls hl => ?_)
          refine lv_aload_n hx hb dL_law_251 rfl (lv_at hl 4 rfl) ?_
          refine lv_aload_n hx hb dL_law_252 rfl (lv_at hl 2 rfl) ?_
          refine lv_iload hx hb dL_law_253 (lv_at hl 1 rfl) ?_
          refine lv_iconst (v := 1) hx hb dL_law_255 (by decide) ?_
          refine lv_iadd hx hb dL_law_256 ?_
          rw [show nI (5 * j) + 1 = nI (5 * j + 1) from nI_add (5 * j) 1]
          refine gk_sld (i := (5 * j + 1)) hx hb hX hbl hbA hS (by omega) hL dL_law_257 ?_
          refine lv_aload_n hx hb dL_law_258 rfl (lv_at hl 2 rfl) ?_
          refine lv_iload hx hb dL_law_259 (lv_at hl 1 rfl) ?_
          refine lv_iconst (v := 2) hx hb dL_law_261 (by decide) ?_
          refine lv_iadd hx hb dL_law_262 ?_
          rw [show nI (5 * j) + 2 = nI (5 * j + 2) from nI_add (5 * j) 2]
          refine gk_sld (i := (5 * j + 2)) hx hb hX hbl hbA hS (by omega) hL dL_law_263 ?_
          refine lv_aload_n hx hb dL_law_264 rfl (lv_at hl 2 rfl) ?_
          refine lv_iload hx hb dL_law_265 (lv_at hl 1 rfl) ?_
          refine lv_iconst (v := 3) hx hb dL_law_267 (by decide) ?_
          refine lv_iadd hx hb dL_law_268 ?_
          rw [show nI (5 * j) + 3 = nI (5 * j + 3) from nI_add (5 * j) 3]
          refine gk_sld (i := (5 * j + 3)) hx hb hX hbl hbA hS (by omega) hL dL_law_269 ?_
          refine lv_aload_n hx hb dL_law_270 rfl (lv_at hl 2 rfl) ?_
          refine lv_iload hx hb dL_law_271 (lv_at hl 1 rfl) ?_
          refine lv_iconst (v := 4) hx hb dL_law_273 (by decide) ?_
          refine lv_iadd hx hb dL_law_274 ?_
          rw [show nI (5 * j) + 4 = nI (5 * j + 4) from nI_add (5 * j) 4]
          refine gk_sld (i := (5 * j + 4)) hx hb hX hbl hbA hS (by omega) hL dL_law_275 ?_
          refine lv_if_eq (tgt := 283) hx hb dL_law_276 (by decide) (fun c9 => absurd c9 c_6) (fun _ => ?_)
          refine lv_iconst (v := 1) hx hb dL_law_279 (by decide) ?_
          refine lv_goto (tgt := 284) hx hb dL_law_280 (by decide) ?_
          have hF_13 := gk_all hD hS hA
          refine va_calli (va_runV (As := [.int (xs (5 * j + 1)), .int (xs (5 * j + 2)), .int (xs (5 * j + 3)), .int 1]) (rest := []) ⟨hx, hb, hml, hown, hts⟩ (kX3_addLine l D cyI cyZ cyL cyV cyJ x0 x1 x2 x3 x4 x5 x6 x7 x8 x9 x10 x11 x12 x13 x14 gr sh rt ce nl nv am nc cd th bud fsd las isB mto maw lno dya amo rfd ord cpa eli usd ((o, .inl (cyJ, 1, .inr (.inl u_12.1))) :: u_12.2) hM.1.1 (xs (5 * j + 1)) (xs (5 * j + 2)) (xs (5 * j + 3)) 1 (by decide) H.size _ rfl) (cwV 4 hts gL_law_X3_addLine rfl rfl rfl (by decide +kernel) ⟨(Nat.le_of_ble_eq_true rfl), (Nat.le_of_ble_eq_true rfl)⟩) (gk_preV hP hK hD (va_recv hK hP (ci := 3) (q0 := 0) rfl rfl)) rfl rfl hl.1 rfl (lv_room (Nat.le_of_ble_eq_true rfl)) dL_law_284 ⟨(by show _ ≤ (601024 : Nat); omega), (by show _ ≤ (7293034 : Nat); omega)⟩) hS (fun q _ h => hF_13 q h) hF_13 (fun r_13 u_13 t_13 H locs ht_13 hvm_13 hw_13 hB_13 hz_13 hk_13 hS => ?_)
          obtain ⟨hP, hD⟩ := gk_back hF_13 hB_13 ht_13
          obtain ⟨th9, u9⟩ := u_13
          obtain ⟨hth, hsu9, hol9⟩ := hw_13
          obtain ⟨hLk, hLs, hLo⟩ := hw_12
          by_cases hcd : cAddLine nl (xs (5 * j + 1)) (xs (5 * j + 2)) (xs (5 * j + 3)) = 0
          · have hk0 : r_12 = 0 := hLk.trans hcd
            obtain ⟨hout, hG9⟩ := hLs hcd
            obtain ⟨hr9, hu9⟩ := hsu9 hcd
            dsimp only at hu9
            rw [hu9] at hP hD
            subst hk0
            have hP : va_P D vwCl ((x0, .inr (3, [.int gr, .int sh, .int rt, .int ce, .int (nI (nl + 1)), .ref x1, .ref x2, .ref x3, .ref x4, .ref x5, .ref x6, .int (nI nv), .ref x7, .ref x8, .ref x9, .ref x10, .ref x11, .int am, .int (nI nc), .int cd, .ref x12, .int th9, .ref x13, .ref x14])) :: (x1, .inl (cyI, 12, .inl (va_up bud nl (xs (5 * j + 1))))) :: (x2, .inl (cyI, 12, .inl (va_up fsd nl (xs (5 * j + 2))))) :: (x3, .inl (cyI, 12, .inl (va_up las nl (xs (5 * j + 3))))) :: (x4, .inl (cyZ, 12, .inl (va_up isB nl 1))) :: (x5, .inl (cyI, 12, .inl mto)) :: (x6, .inl (cyI, 12, .inl maw)) :: (x7, .inl (cyI, 100, .inl lno)) :: (x8, .inl (cyI, 100, .inl dya)) :: (x9, .inl (cyI, 100, .inl amo)) :: (x10, .inl (cyZ, 100, .inl rfd)) :: (x11, .inl (cyI, 100, .inl ord)) :: (x12, .inl (cyI, 40, .inl cpa)) :: (x13, .inl (cyI, 100, .inl eli)) :: (x14, .inl (cyI, 12, .inl usd)) :: (o, .inl (cyJ, 1, .inr (.inl u_12.1))) :: u_12.2) H := hP
            have hD : va_D A ((x0, .inr (3, [.int gr, .int sh, .int rt, .int ce, .int (nI (nl + 1)), .ref x1, .ref x2, .ref x3, .ref x4, .ref x5, .ref x6, .int (nI nv), .ref x7, .ref x8, .ref x9, .ref x10, .ref x11, .int am, .int (nI nc), .int cd, .ref x12, .int th9, .ref x13, .ref x14])) :: (x1, .inl (cyI, 12, .inl (va_up bud nl (xs (5 * j + 1))))) :: (x2, .inl (cyI, 12, .inl (va_up fsd nl (xs (5 * j + 2))))) :: (x3, .inl (cyI, 12, .inl (va_up las nl (xs (5 * j + 3))))) :: (x4, .inl (cyZ, 12, .inl (va_up isB nl 1))) :: (x5, .inl (cyI, 12, .inl mto)) :: (x6, .inl (cyI, 12, .inl maw)) :: (x7, .inl (cyI, 100, .inl lno)) :: (x8, .inl (cyI, 100, .inl dya)) :: (x9, .inl (cyI, 100, .inl amo)) :: (x10, .inl (cyZ, 100, .inl rfd)) :: (x11, .inl (cyI, 100, .inl ord)) :: (x12, .inl (cyI, 40, .inl cpa)) :: (x13, .inl (cyI, 100, .inl eli)) :: (x14, .inl (cyI, 12, .inl usd)) :: (o, .inl (cyJ, 1, .inr (.inl u_12.1))) :: u_12.2) := hD
            refine lv_istore (lv' := [(6, .int r_13), (5, .int 0), (4, .int (nI (5 * j))), (0, .ref b), (1, .ref g), (2, .ref x0), (3, .ref o)]) hx hb dL_law_287 hl (by decide) rfl (fun ls hl => ?_)
            refine lv_aload_n hx hb dL_law_289 rfl (lv_at hl 5 rfl) ?_
            have hF_14 := gk_all hD hS hA
            refine va_calli (va_runV (As := []) (rest := []) ⟨hx, hb, hml, hown, hts⟩ (kX3_thrown l D cyI cyZ cyL cyV cyJ x0 x1 x2 x3 x4 x5 x6 x7 x8 x9 x10 x11 x12 x13 x14 gr sh rt ce (nl + 1) nv am nc cd th9 (va_up bud nl (xs (5 * j + 1))) (va_up fsd nl (xs (5 * j + 2))) (va_up las nl (xs (5 * j + 3))) (va_up isB nl 1) mto maw lno dya amo rfd ord cpa eli usd ((o, .inl (cyJ, 1, .inr (.inl u_12.1))) :: u_12.2)  H.size _ rfl) (cwV 0 hts gL_law_X3_thrown rfl rfl rfl (by decide +kernel) ⟨(Nat.le_of_ble_eq_true rfl), (Nat.le_of_ble_eq_true rfl)⟩) (gk_preV hP hK hD (va_recv hK hP (ci := 3) (q0 := 0) rfl rfl)) rfl rfl hl.1 rfl (lv_room (Nat.le_of_ble_eq_true rfl)) dL_law_290 ⟨(by show _ ≤ (601024 : Nat); omega), (by show _ ≤ (7293034 : Nat); omega)⟩) hS (fun q _ h => hF_14 q h) hF_14 (fun r_14 u_14 t_14 H locs ht_14 hvm_14 hw_14 hB_14 hz_14 hk_14 hS => ?_)
            obtain ⟨hP, hD⟩ := gk_back hF_14 hB_14 ht_14
            subst hw_14
            refine lv_iload hx hb dL_law_293 (lv_at hl 1 rfl) ?_
            refine lv_icmp_eq (tgt := 300) hx hb dL_law_295 (by decide) (fun _ => ?_) (fun c9 => absurd (hth.trans hLk.symm) c9)
            refine lv_iload hx hb dL_law_300 (lv_at hl 1 rfl) ?_
            refine lv_if_ne (tgt := 317) hx hb dL_law_302 (by decide) (fun c => by first | exact absurd c (by decide) | exact absurd (by decide) c) (fun _ => ?_)
            refine lv_aload_n hx hb dL_law_305 rfl (lv_at hl 6 rfl) ?_
            refine lv_iconst (v := 0) hx hb dL_law_306 (by decide) ?_
            refine va_lald hx hb hK hP 15 4 rfl rfl (i := 0) (show ¬ ((0 : Int32) < 0 ∨ 1 ≤ (0 : Int32).toNatClampNeg) by decide) dL_law_307 ?_
            refine lv_iload hx hb dL_law_308 (lv_at hl 0 rfl) ?_
            refine lv_i2l hx hb dL_law_310 rfl ?_
            refine W.lcmp hx hb dL_law_311 ?_
            refine lv_if_eq (tgt := 317) hx hb dL_law_312 (by decide) (fun _ => ?_) (fun c9 => absurd ((lg_cmp_eq _ _).mpr (show u_12.1 0 = r_13.toInt64 by rw [hout, hr9])) c9)
            refine lv_goto (tgt := 1335) hx hb dL_law_317 (by decide) ?_
            refine lv_iinc (v := (nI (5 * (j + 1)))) (lv' := [(4, .int (nI (5 * (j + 1)))), (6, .int r_13), (5, .int 0), (0, .ref b), (1, .ref g), (2, .ref x0), (3, .ref o)]) hx hb dL_law_1335 hl (k := 2) rfl (by show nI (5 * j) + 5 = nI (5 * (j + 1)); exact nI_add (5 * j) 5) (by decide) rfl (fun ls hl => ?_)
            refine lv_goto (tgt := 23) hx hb dL_law_1338 (by decide) ?_
            refine W.widen (k := 20 + 5 * (j + 1)) (n := 914 + 30 * (j + 1)) (by omega) (by omega) ?_
            exact ih (j + 1) _ _ _ _ _ _ _ _ _ _ _ _ _ _ _ _ _ _ _ _ _ _ _ _ _ _ _ _ _ _ _ (by omega) (by omega) hG9 hP hD hS (lv_sub hl [0, 3, 4, 5, 6] rfl)
          · have hG9 := hLo hcd
            have hu9 := hol9 hcd
            dsimp only at hu9
            rw [hu9] at hP hD
            have hP : va_P D vwCl ((x0, .inr (3, [.int gr, .int sh, .int rt, .int ce, .int (nI nl), .ref x1, .ref x2, .ref x3, .ref x4, .ref x5, .ref x6, .int (nI nv), .ref x7, .ref x8, .ref x9, .ref x10, .ref x11, .int am, .int (nI nc), .int cd, .ref x12, .int th9, .ref x13, .ref x14])) :: (x1, .inl (cyI, 12, .inl bud)) :: (x2, .inl (cyI, 12, .inl fsd)) :: (x3, .inl (cyI, 12, .inl las)) :: (x4, .inl (cyZ, 12, .inl isB)) :: (x5, .inl (cyI, 12, .inl mto)) :: (x6, .inl (cyI, 12, .inl maw)) :: (x7, .inl (cyI, 100, .inl lno)) :: (x8, .inl (cyI, 100, .inl dya)) :: (x9, .inl (cyI, 100, .inl amo)) :: (x10, .inl (cyZ, 100, .inl rfd)) :: (x11, .inl (cyI, 100, .inl ord)) :: (x12, .inl (cyI, 40, .inl cpa)) :: (x13, .inl (cyI, 100, .inl eli)) :: (x14, .inl (cyI, 12, .inl usd)) :: (o, .inl (cyJ, 1, .inr (.inl u_12.1))) :: u_12.2) H := hP
            have hD : va_D A ((x0, .inr (3, [.int gr, .int sh, .int rt, .int ce, .int (nI nl), .ref x1, .ref x2, .ref x3, .ref x4, .ref x5, .ref x6, .int (nI nv), .ref x7, .ref x8, .ref x9, .ref x10, .ref x11, .int am, .int (nI nc), .int cd, .ref x12, .int th9, .ref x13, .ref x14])) :: (x1, .inl (cyI, 12, .inl bud)) :: (x2, .inl (cyI, 12, .inl fsd)) :: (x3, .inl (cyI, 12, .inl las)) :: (x4, .inl (cyZ, 12, .inl isB)) :: (x5, .inl (cyI, 12, .inl mto)) :: (x6, .inl (cyI, 12, .inl maw)) :: (x7, .inl (cyI, 100, .inl lno)) :: (x8, .inl (cyI, 100, .inl dya)) :: (x9, .inl (cyI, 100, .inl amo)) :: (x10, .inl (cyZ, 100, .inl rfd)) :: (x11, .inl (cyI, 100, .inl ord)) :: (x12, .inl (cyI, 40, .inl cpa)) :: (x13, .inl (cyI, 100, .inl eli)) :: (x14, .inl (cyI, 12, .inl usd)) :: (o, .inl (cyJ, 1, .inr (.inl u_12.1))) :: u_12.2) := hD
            refine lv_istore (lv' := [(6, .int r_13), (5, .int r_12), (4, .int (nI (5 * j))), (0, .ref b), (1, .ref g), (2, .ref x0), (3, .ref o)]) hx hb dL_law_287 hl (by decide) rfl (fun ls hl => ?_)
            refine lv_aload_n hx hb dL_law_289 rfl (lv_at hl 5 rfl) ?_
            have hF_16 := gk_all hD hS hA
            refine va_calli (va_runV (As := []) (rest := []) ⟨hx, hb, hml, hown, hts⟩ (kX3_thrown l D cyI cyZ cyL cyV cyJ x0 x1 x2 x3 x4 x5 x6 x7 x8 x9 x10 x11 x12 x13 x14 gr sh rt ce nl nv am nc cd th9 bud fsd las isB mto maw lno dya amo rfd ord cpa eli usd ((o, .inl (cyJ, 1, .inr (.inl u_12.1))) :: u_12.2)  H.size _ rfl) (cwV 0 hts gL_law_X3_thrown rfl rfl rfl (by decide +kernel) ⟨(Nat.le_of_ble_eq_true rfl), (Nat.le_of_ble_eq_true rfl)⟩) (gk_preV hP hK hD (va_recv hK hP (ci := 3) (q0 := 0) rfl rfl)) rfl rfl hl.1 rfl (lv_room (Nat.le_of_ble_eq_true rfl)) dL_law_290 ⟨(by show _ ≤ (601024 : Nat); omega), (by show _ ≤ (7293034 : Nat); omega)⟩) hS (fun q _ h => hF_16 q h) hF_16 (fun r_16 u_16 t_16 H locs ht_16 hvm_16 hw_16 hB_16 hz_16 hk_16 hS => ?_)
            obtain ⟨hP, hD⟩ := gk_back hF_16 hB_16 ht_16
            subst hw_16
            refine lv_iload hx hb dL_law_293 (lv_at hl 1 rfl) ?_
            refine lv_icmp_eq (tgt := 300) hx hb dL_law_295 (by decide) (fun _ => ?_) (fun c9 => absurd (hth.trans hLk.symm) c9)
            refine lv_iload hx hb dL_law_300 (lv_at hl 1 rfl) ?_
            refine lv_if_ne (tgt := 317) hx hb dL_law_302 (by decide) (fun _ => ?_) (fun c9 => absurd (hLk.symm.trans c9) hcd)
            refine lv_goto (tgt := 1335) hx hb dL_law_317 (by decide) ?_
            refine lv_iinc (v := (nI (5 * (j + 1)))) (lv' := [(4, .int (nI (5 * (j + 1)))), (6, .int r_13), (5, .int r_12), (0, .ref b), (1, .ref g), (2, .ref x0), (3, .ref o)]) hx hb dL_law_1335 hl (k := 2) rfl (by show nI (5 * j) + 5 = nI (5 * (j + 1)); exact nI_add (5 * j) 5) (by decide) rfl (fun ls hl => ?_)
            refine lv_goto (tgt := 23) hx hb dL_law_1338 (by decide) ?_
            refine W.widen (k := 20 + 5 * (j + 1)) (n := 914 + 30 * (j + 1)) (by omega) (by omega) ?_
            exact ih (j + 1) _ _ _ _ _ _ _ _ _ _ _ _ _ _ _ _ _ _ _ _ _ _ _ _ _ _ _ _ _ _ _ (by omega) (by omega) hG9 hP hD hS (lv_sub hl [0, 3, 4, 5, 6] rfl)
      · rw [hsw]
        refine lv_tableIn (off := 281) (tgt := 320) hx hb dL_law_39 (by decide) (by decide) rfl (by decide) ?_
        refine lv_aload_n hx hb dL_law_320 rfl (lv_at hl 2 rfl) ?_
        refine lv_aload_n hx hb dL_law_321 rfl (lv_at hl 1 rfl) ?_
        refine lv_iload hx hb dL_law_322 (lv_at hl 0 rfl) ?_
        refine lv_iconst (v := 1) hx hb dL_law_324 (by decide) ?_
        refine lv_iadd hx hb dL_law_325 ?_
        rw [show nI (5 * j) + 1 = nI (5 * j + 1) from nI_add (5 * j) 1]
        refine gk_sld (i := (5 * j + 1)) hx hb hX hbl hbA hS (by omega) hL dL_law_326 ?_
        refine lv_aload_n hx hb dL_law_327 rfl (lv_at hl 1 rfl) ?_
        refine lv_iload hx hb dL_law_328 (lv_at hl 0 rfl) ?_
        refine lv_iconst (v := 2) hx hb dL_law_330 (by decide) ?_
        refine lv_iadd hx hb dL_law_331 ?_
        rw [show nI (5 * j) + 2 = nI (5 * j + 2) from nI_add (5 * j) 2]
        refine gk_sld (i := (5 * j + 2)) hx hb hX hbl hbA hS (by omega) hL dL_law_332 ?_
        refine lv_aload_n hx hb dL_law_333 rfl (lv_at hl 4 rfl) ?_
        have hF_17 := gk_all hD hS hA
        refine va_calli (vx_runSW (As := [.ref g, .int (xs (5 * j + 1)), .int (xs (5 * j + 2)), .ref o]) (rest := []) ⟨hx, hb, hml, hown, hts⟩ (kL_extend l hst D cyI cyZ cyL cyV cyJ gr sh rt ce nl nv am nc cd bud fsd las isB mto maw lno dya amo rfd ord cpa lnf orf g o (x0, .inr (3, [.int gr, .int sh, .int rt, .int ce, .int (nI nl), .ref x1, .ref x2, .ref x3, .ref x4, .ref x5, .ref x6, .int (nI nv), .ref x7, .ref x8, .ref x9, .ref x10, .ref x11, .int am, .int (nI nc), .int cd, .ref x12, .int th, .ref x13, .ref x14])) (x1, .inl (cyI, 12, .inl bud)) (x2, .inl (cyI, 12, .inl fsd)) (x3, .inl (cyI, 12, .inl las)) (x4, .inl (cyZ, 12, .inl isB)) (x5, .inl (cyI, 12, .inl mto)) (x6, .inl (cyI, 12, .inl maw)) (x7, .inl (cyI, 100, .inl lno)) (x8, .inl (cyI, 100, .inl dya)) (x9, .inl (cyI, 100, .inl amo)) (x10, .inl (cyZ, 100, .inl rfd)) (x11, .inl (cyI, 100, .inl ord)) (x12, .inl (cyI, 40, .inl cpa)) (x13, .inl (cyI, 100, .inl eli)) (x14, .inl (cyI, 12, .inl usd)) fo G hG (xs (5 * j + 1)) (xs (5 * j + 2)) H.size _ rfl) (vx_cwSW 4 hts gL_law_L_extend rfl rfl rfl (by decide +kernel) ⟨(Nat.le_of_ble_eq_true rfl), (Nat.le_of_ble_eq_true rfl)⟩) (gk_preSN hNC hTF hS hF_17 hP hK hD) rfl rfl hl.1 rfl (lv_room (Nat.le_of_ble_eq_true rfl)) dL_law_334 ⟨(by show _ ≤ (601024 : Nat); omega), (by show _ ≤ (7293034 : Nat); omega)⟩) hS (fun q _ h => hF_17 q h) hF_17 (fun r_17 u_17 t_17 H locs ht_17 hvm_17 hw_17 hB_17 hz_17 hk_17 hS => ?_)
        obtain ⟨hP, hD⟩ := gk_back hF_17 hB_17 ht_17
        refine lv_istore (lv' := [(5, .int r_17), (4, .int (nI (5 * j))), (0, .ref b), (1, .ref g), (2, .ref x0), (3, .ref o)]) hx hb dL_law_337 hl (by decide) rfl (fun ls hl => ?_)
        refine lv_aload_n hx hb dL_law_339 rfl (lv_at hl 4 rfl) ?_
        refine lv_aload_n hx hb dL_law_340 rfl (lv_at hl 2 rfl) ?_
        refine lv_iload hx hb dL_law_341 (lv_at hl 1 rfl) ?_
        refine lv_iconst (v := 1) hx hb dL_law_343 (by decide) ?_
        refine lv_iadd hx hb dL_law_344 ?_
        rw [show nI (5 * j) + 1 = nI (5 * j + 1) from nI_add (5 * j) 1]
        refine gk_sld (i := (5 * j + 1)) hx hb hX hbl hbA hS (by omega) hL dL_law_345 ?_
        refine lv_aload_n hx hb dL_law_346 rfl (lv_at hl 2 rfl) ?_
        refine lv_iload hx hb dL_law_347 (lv_at hl 1 rfl) ?_
        refine lv_iconst (v := 2) hx hb dL_law_349 (by decide) ?_
        refine lv_iadd hx hb dL_law_350 ?_
        rw [show nI (5 * j) + 2 = nI (5 * j + 2) from nI_add (5 * j) 2]
        refine gk_sld (i := (5 * j + 2)) hx hb hX hbl hbA hS (by omega) hL dL_law_351 ?_
        have hF_18 := gk_all hD hS hA
        refine va_calli (va_runV (As := [.int (xs (5 * j + 1)), .int (xs (5 * j + 2))]) (rest := []) ⟨hx, hb, hml, hown, hts⟩ (kX3_extend l D cyI cyZ cyL cyV cyJ x0 x1 x2 x3 x4 x5 x6 x7 x8 x9 x10 x11 x12 x13 x14 gr sh rt ce nl nv am nc cd th bud fsd las isB mto maw lno dya amo rfd ord cpa eli usd ((o, .inl (cyJ, 1, .inr (.inl u_17.1))) :: u_17.2) hM.1.1 hM.1.2.1 lnf hM.2.1 orf hM.2.2.1 hM.2.2.2.1 (xs (5 * j + 1)) (xs (5 * j + 2)) H.size _ rfl) (cwV 2 hts gL_law_X3_extend rfl rfl rfl (by decide +kernel) ⟨(Nat.le_of_ble_eq_true rfl), (Nat.le_of_ble_eq_true rfl)⟩) (gk_preV hP hK hD (va_recv hK hP (ci := 3) (q0 := 0) rfl rfl)) rfl rfl hl.1 rfl (lv_room (Nat.le_of_ble_eq_true rfl)) dL_law_352 ⟨(by show _ ≤ (601024 : Nat); omega), (by show _ ≤ (7293034 : Nat); omega)⟩) hS (fun q _ h => hF_18 q h) hF_18 (fun r_18 u_18 t_18 H locs ht_18 hvm_18 hw_18 hB_18 hz_18 hk_18 hS => ?_)
        obtain ⟨hP, hD⟩ := gk_back hF_18 hB_18 ht_18
        obtain ⟨th9, u9⟩ := u_18
        obtain ⟨hth, hsu9, hol9⟩ := hw_18
        obtain ⟨hLk, hLs, hLo⟩ := hw_17
        by_cases hcd : cExtend nl las (xs (5 * j + 1)) (xs (5 * j + 2)) = 0
        · have hk0 : r_17 = 0 := hLk.trans hcd
          obtain ⟨hout, hG9⟩ := hLs hcd
          obtain ⟨hr9, hu9⟩ := hsu9 hcd
          dsimp only at hu9
          rw [hu9] at hP hD
          subst hk0
          have hP : va_P D vwCl ((x0, .inr (3, [.int gr, .int sh, .int rt, .int ce, .int (nI nl), .ref x1, .ref x2, .ref x3, .ref x4, .ref x5, .ref x6, .int (nI nv), .ref x7, .ref x8, .ref x9, .ref x10, .ref x11, .int am, .int (nI nc), .int cd, .ref x12, .int th9, .ref x13, .ref x14])) :: (x1, .inl (cyI, 12, .inl bud)) :: (x2, .inl (cyI, 12, .inl fsd)) :: (x3, .inl (cyI, 12, .inl (va_up las (gIxn (xs (5 * j + 1))) (xs (5 * j + 2))))) :: (x4, .inl (cyZ, 12, .inl isB)) :: (x5, .inl (cyI, 12, .inl mto)) :: (x6, .inl (cyI, 12, .inl maw)) :: (x7, .inl (cyI, 100, .inl lno)) :: (x8, .inl (cyI, 100, .inl dya)) :: (x9, .inl (cyI, 100, .inl amo)) :: (x10, .inl (cyZ, 100, .inl rfd)) :: (x11, .inl (cyI, 100, .inl ord)) :: (x12, .inl (cyI, 40, .inl cpa)) :: (x13, .inl (cyI, 100, .inl eli)) :: (x14, .inl (cyI, 12, .inl usd)) :: (o, .inl (cyJ, 1, .inr (.inl u_17.1))) :: u_17.2) H := hP
          have hD : va_D A ((x0, .inr (3, [.int gr, .int sh, .int rt, .int ce, .int (nI nl), .ref x1, .ref x2, .ref x3, .ref x4, .ref x5, .ref x6, .int (nI nv), .ref x7, .ref x8, .ref x9, .ref x10, .ref x11, .int am, .int (nI nc), .int cd, .ref x12, .int th9, .ref x13, .ref x14])) :: (x1, .inl (cyI, 12, .inl bud)) :: (x2, .inl (cyI, 12, .inl fsd)) :: (x3, .inl (cyI, 12, .inl (va_up las (gIxn (xs (5 * j + 1))) (xs (5 * j + 2))))) :: (x4, .inl (cyZ, 12, .inl isB)) :: (x5, .inl (cyI, 12, .inl mto)) :: (x6, .inl (cyI, 12, .inl maw)) :: (x7, .inl (cyI, 100, .inl lno)) :: (x8, .inl (cyI, 100, .inl dya)) :: (x9, .inl (cyI, 100, .inl amo)) :: (x10, .inl (cyZ, 100, .inl rfd)) :: (x11, .inl (cyI, 100, .inl ord)) :: (x12, .inl (cyI, 40, .inl cpa)) :: (x13, .inl (cyI, 100, .inl eli)) :: (x14, .inl (cyI, 12, .inl usd)) :: (o, .inl (cyJ, 1, .inr (.inl u_17.1))) :: u_17.2) := hD
          refine lv_istore (lv' := [(6, .int r_18), (5, .int 0), (4, .int (nI (5 * j))), (0, .ref b), (1, .ref g), (2, .ref x0), (3, .ref o)]) hx hb dL_law_355 hl (by decide) rfl (fun ls hl => ?_)
          refine lv_aload_n hx hb dL_law_357 rfl (lv_at hl 5 rfl) ?_
          have hF_19 := gk_all hD hS hA
          refine va_calli (va_runV (As := []) (rest := []) ⟨hx, hb, hml, hown, hts⟩ (kX3_thrown l D cyI cyZ cyL cyV cyJ x0 x1 x2 x3 x4 x5 x6 x7 x8 x9 x10 x11 x12 x13 x14 gr sh rt ce nl nv am nc cd th9 bud fsd (va_up las (gIxn (xs (5 * j + 1))) (xs (5 * j + 2))) isB mto maw lno dya amo rfd ord cpa eli usd ((o, .inl (cyJ, 1, .inr (.inl u_17.1))) :: u_17.2)  H.size _ rfl) (cwV 0 hts gL_law_X3_thrown rfl rfl rfl (by decide +kernel) ⟨(Nat.le_of_ble_eq_true rfl), (Nat.le_of_ble_eq_true rfl)⟩) (gk_preV hP hK hD (va_recv hK hP (ci := 3) (q0 := 0) rfl rfl)) rfl rfl hl.1 rfl (lv_room (Nat.le_of_ble_eq_true rfl)) dL_law_358 ⟨(by show _ ≤ (601024 : Nat); omega), (by show _ ≤ (7293034 : Nat); omega)⟩) hS (fun q _ h => hF_19 q h) hF_19 (fun r_19 u_19 t_19 H locs ht_19 hvm_19 hw_19 hB_19 hz_19 hk_19 hS => ?_)
          obtain ⟨hP, hD⟩ := gk_back hF_19 hB_19 ht_19
          subst hw_19
          refine lv_iload hx hb dL_law_361 (lv_at hl 1 rfl) ?_
          refine lv_icmp_eq (tgt := 368) hx hb dL_law_363 (by decide) (fun _ => ?_) (fun c9 => absurd (hth.trans hLk.symm) c9)
          refine lv_iload hx hb dL_law_368 (lv_at hl 1 rfl) ?_
          refine lv_if_ne (tgt := 385) hx hb dL_law_370 (by decide) (fun c => by first | exact absurd c (by decide) | exact absurd (by decide) c) (fun _ => ?_)
          refine lv_aload_n hx hb dL_law_373 rfl (lv_at hl 6 rfl) ?_
          refine lv_iconst (v := 0) hx hb dL_law_374 (by decide) ?_
          refine va_lald hx hb hK hP 15 4 rfl rfl (i := 0) (show ¬ ((0 : Int32) < 0 ∨ 1 ≤ (0 : Int32).toNatClampNeg) by decide) dL_law_375 ?_
          refine lv_iload hx hb dL_law_376 (lv_at hl 0 rfl) ?_
          refine lv_i2l hx hb dL_law_378 rfl ?_
          refine W.lcmp hx hb dL_law_379 ?_
          refine lv_if_eq (tgt := 385) hx hb dL_law_380 (by decide) (fun _ => ?_) (fun c9 => absurd ((lg_cmp_eq _ _).mpr (show u_17.1 0 = r_18.toInt64 by rw [hout, hr9])) c9)
          refine lv_goto (tgt := 1335) hx hb dL_law_385 (by decide) ?_
          refine lv_iinc (v := (nI (5 * (j + 1)))) (lv' := [(4, .int (nI (5 * (j + 1)))), (6, .int r_18), (5, .int 0), (0, .ref b), (1, .ref g), (2, .ref x0), (3, .ref o)]) hx hb dL_law_1335 hl (k := 2) rfl (by show nI (5 * j) + 5 = nI (5 * (j + 1)); exact nI_add (5 * j) 5) (by decide) rfl (fun ls hl => ?_)
          refine lv_goto (tgt := 23) hx hb dL_law_1338 (by decide) ?_
          refine W.widen (k := 20 + 5 * (j + 1)) (n := 914 + 30 * (j + 1)) (by omega) (by omega) ?_
          exact ih (j + 1) _ _ _ _ _ _ _ _ _ _ _ _ _ _ _ _ _ _ _ _ _ _ _ _ _ _ _ _ _ _ _ (by omega) (by omega) hG9 hP hD hS (lv_sub hl [0, 3, 4, 5, 6] rfl)
        · have hG9 := hLo hcd
          have hu9 := hol9 hcd
          dsimp only at hu9
          rw [hu9] at hP hD
          have hP : va_P D vwCl ((x0, .inr (3, [.int gr, .int sh, .int rt, .int ce, .int (nI nl), .ref x1, .ref x2, .ref x3, .ref x4, .ref x5, .ref x6, .int (nI nv), .ref x7, .ref x8, .ref x9, .ref x10, .ref x11, .int am, .int (nI nc), .int cd, .ref x12, .int th9, .ref x13, .ref x14])) :: (x1, .inl (cyI, 12, .inl bud)) :: (x2, .inl (cyI, 12, .inl fsd)) :: (x3, .inl (cyI, 12, .inl las)) :: (x4, .inl (cyZ, 12, .inl isB)) :: (x5, .inl (cyI, 12, .inl mto)) :: (x6, .inl (cyI, 12, .inl maw)) :: (x7, .inl (cyI, 100, .inl lno)) :: (x8, .inl (cyI, 100, .inl dya)) :: (x9, .inl (cyI, 100, .inl amo)) :: (x10, .inl (cyZ, 100, .inl rfd)) :: (x11, .inl (cyI, 100, .inl ord)) :: (x12, .inl (cyI, 40, .inl cpa)) :: (x13, .inl (cyI, 100, .inl eli)) :: (x14, .inl (cyI, 12, .inl usd)) :: (o, .inl (cyJ, 1, .inr (.inl u_17.1))) :: u_17.2) H := hP
          have hD : va_D A ((x0, .inr (3, [.int gr, .int sh, .int rt, .int ce, .int (nI nl), .ref x1, .ref x2, .ref x3, .ref x4, .ref x5, .ref x6, .int (nI nv), .ref x7, .ref x8, .ref x9, .ref x10, .ref x11, .int am, .int (nI nc), .int cd, .ref x12, .int th9, .ref x13, .ref x14])) :: (x1, .inl (cyI, 12, .inl bud)) :: (x2, .inl (cyI, 12, .inl fsd)) :: (x3, .inl (cyI, 12, .inl las)) :: (x4, .inl (cyZ, 12, .inl isB)) :: (x5, .inl (cyI, 12, .inl mto)) :: (x6, .inl (cyI, 12, .inl maw)) :: (x7, .inl (cyI, 100, .inl lno)) :: (x8, .inl (cyI, 100, .inl dya)) :: (x9, .inl (cyI, 100, .inl amo)) :: (x10, .inl (cyZ, 100, .inl rfd)) :: (x11, .inl (cyI, 100, .inl ord)) :: (x12, .inl (cyI, 40, .inl cpa)) :: (x13, .inl (cyI, 100, .inl eli)) :: (x14, .inl (cyI, 12, .inl usd)) :: (o, .inl (cyJ, 1, .inr (.inl u_17.1))) :: u_17.2) := hD
          refine lv_istore (lv' := [(6, .int r_18), (5, .int r_17), (4, .int (nI (5 * j))), (0, .ref b), (1, .ref g), (2, .ref x0), (3, .ref o)]) hx hb dL_law_355 hl (by decide) rfl (fun ls hl => ?_)
          refine lv_aload_n hx hb dL_law_357 rfl (lv_at hl 5 rfl) ?_
          have hF_21 := gk_all hD hS hA
          refine va_calli (va_runV (As := []) (rest := []) ⟨hx, hb, hml, hown, hts⟩ (kX3_thrown l D cyI cyZ cyL cyV cyJ x0 x1 x2 x3 x4 x5 x6 x7 x8 x9 x10 x11 x12 x13 x14 gr sh rt ce nl nv am nc cd th9 bud fsd las isB mto maw lno dya amo rfd ord cpa eli usd ((o, .inl (cyJ, 1, .inr (.inl u_17.1))) :: u_17.2)  H.size _ rfl) (cwV 0 hts gL_law_X3_thrown rfl rfl rfl (by decide +kernel) ⟨(Nat.le_of_ble_eq_true rfl), (Nat.le_of_ble_eq_true rfl)⟩) (gk_preV hP hK hD (va_recv hK hP (ci := 3) (q0 := 0) rfl rfl)) rfl rfl hl.1 rfl (lv_room (Nat.le_of_ble_eq_true rfl)) dL_law_358 ⟨(by show _ ≤ (601024 : Nat); omega), (by show _ ≤ (7293034 : Nat); omega)⟩) hS (fun q _ h => hF_21 q h) hF_21 (fun r_21 u_21 t_21 H locs ht_21 hvm_21 hw_21 hB_21 hz_21 hk_21 hS => ?_)
          obtain ⟨hP, hD⟩ := gk_back hF_21 hB_21 ht_21
          subst hw_21
          refine lv_iload hx hb dL_law_361 (lv_at hl 1 rfl) ?_
          refine lv_icmp_eq (tgt := 368) hx hb dL_law_363 (by decide) (fun _ => ?_) (fun c9 => absurd (hth.trans hLk.symm) c9)
          refine lv_iload hx hb dL_law_368 (lv_at hl 1 rfl) ?_
          refine lv_if_ne (tgt := 385) hx hb dL_law_370 (by decide) (fun _ => ?_) (fun c9 => absurd (hLk.symm.trans c9) hcd)
          refine lv_goto (tgt := 1335) hx hb dL_law_385 (by decide) ?_
          refine lv_iinc (v := (nI (5 * (j + 1)))) (lv' := [(4, .int (nI (5 * (j + 1)))), (6, .int r_18), (5, .int r_17), (0, .ref b), (1, .ref g), (2, .ref x0), (3, .ref o)]) hx hb dL_law_1335 hl (k := 2) rfl (by show nI (5 * j) + 5 = nI (5 * (j + 1)); exact nI_add (5 * j) 5) (by decide) rfl (fun ls hl => ?_)
          refine lv_goto (tgt := 23) hx hb dL_law_1338 (by decide) ?_
          refine W.widen (k := 20 + 5 * (j + 1)) (n := 914 + 30 * (j + 1)) (by omega) (by omega) ?_
          exact ih (j + 1) _ _ _ _ _ _ _ _ _ _ _ _ _ _ _ _ _ _ _ _ _ _ _ _ _ _ _ _ _ _ _ (by omega) (by omega) hG9 hP hD hS (lv_sub hl [0, 3, 4, 5, 6] rfl)
      · rw [hsw]
        refine lv_tableIn (off := 349) (tgt := 388) hx hb dL_law_39 (by decide) (by decide) rfl (by decide) ?_
        refine lv_aload_n hx hb dL_law_388 rfl (lv_at hl 2 rfl) ?_
        refine lv_aload_n hx hb dL_law_389 rfl (lv_at hl 1 rfl) ?_
        refine lv_iload hx hb dL_law_390 (lv_at hl 0 rfl) ?_
        refine lv_iconst (v := 1) hx hb dL_law_392 (by decide) ?_
        refine lv_iadd hx hb dL_law_393 ?_
        rw [show nI (5 * j) + 1 = nI (5 * j + 1) from nI_add (5 * j) 1]
        refine gk_sld (i := (5 * j + 1)) hx hb hX hbl hbA hS (by omega) hL dL_law_394 ?_
        refine lv_aload_n hx hb dL_law_395 rfl (lv_at hl 1 rfl) ?_
        refine lv_iload hx hb dL_law_396 (lv_at hl 0 rfl) ?_
        refine lv_iconst (v := 2) hx hb dL_law_398 (by decide) ?_
        refine lv_iadd hx hb dL_law_399 ?_
        rw [show nI (5 * j) + 2 = nI (5 * j + 2) from nI_add (5 * j) 2]
        refine gk_sld (i := (5 * j + 2)) hx hb hX hbl hbA hS (by omega) hL dL_law_400 ?_
        refine lv_aload_n hx hb dL_law_401 rfl (lv_at hl 1 rfl) ?_
        refine lv_iload hx hb dL_law_402 (lv_at hl 0 rfl) ?_
        refine lv_iconst (v := 3) hx hb dL_law_404 (by decide) ?_
        refine lv_iadd hx hb dL_law_405 ?_
        rw [show nI (5 * j) + 3 = nI (5 * j + 3) from nI_add (5 * j) 3]
        refine gk_sld (i := (5 * j + 3)) hx hb hX hbl hbA hS (by omega) hL dL_law_406 ?_
        refine lv_aload_n hx hb dL_law_407 rfl (lv_at hl 4 rfl) ?_
        have hF_22 := gk_all hD hS hA
        refine va_calli (vx_runSW (As := [.ref g, .int (xs (5 * j + 1)), .int (xs (5 * j + 2)), .int (xs (5 * j + 3)), .ref o]) (rest := []) ⟨hx, hb, hml, hown, hts⟩ (kL_move l hst D cyI cyZ cyL cyV cyJ gr sh rt ce nl nv am nc cd bud fsd las isB mto maw lno dya amo rfd ord cpa lnf orf g o (x0, .inr (3, [.int gr, .int sh, .int rt, .int ce, .int (nI nl), .ref x1, .ref x2, .ref x3, .ref x4, .ref x5, .ref x6, .int (nI nv), .ref x7, .ref x8, .ref x9, .ref x10, .ref x11, .int am, .int (nI nc), .int cd, .ref x12, .int th, .ref x13, .ref x14])) (x1, .inl (cyI, 12, .inl bud)) (x2, .inl (cyI, 12, .inl fsd)) (x3, .inl (cyI, 12, .inl las)) (x4, .inl (cyZ, 12, .inl isB)) (x5, .inl (cyI, 12, .inl mto)) (x6, .inl (cyI, 12, .inl maw)) (x7, .inl (cyI, 100, .inl lno)) (x8, .inl (cyI, 100, .inl dya)) (x9, .inl (cyI, 100, .inl amo)) (x10, .inl (cyZ, 100, .inl rfd)) (x11, .inl (cyI, 100, .inl ord)) (x12, .inl (cyI, 40, .inl cpa)) (x13, .inl (cyI, 100, .inl eli)) (x14, .inl (cyI, 12, .inl usd)) fo G hG (xs (5 * j + 1)) (xs (5 * j + 2)) (xs (5 * j + 3)) H.size _ rfl) (vx_cwSW 5 hts gL_law_L_move rfl rfl rfl (by decide +kernel) ⟨(Nat.le_of_ble_eq_true rfl), (Nat.le_of_ble_eq_true rfl)⟩) (gk_preSN hNC hTF hS hF_22 hP hK hD) rfl rfl hl.1 rfl (lv_room (Nat.le_of_ble_eq_true rfl)) dL_law_408 ⟨(by show _ ≤ (601024 : Nat); omega), (by show _ ≤ (7293034 : Nat); omega)⟩) hS (fun q _ h => hF_22 q h) hF_22 (fun r_22 u_22 t_22 H locs ht_22 hvm_22 hw_22 hB_22 hz_22 hk_22 hS => ?_)
        obtain ⟨hP, hD⟩ := gk_back hF_22 hB_22 ht_22
        refine lv_istore (lv' := [(5, .int r_22), (4, .int (nI (5 * j))), (0, .ref b), (1, .ref g), (2, .ref x0), (3, .ref o)]) hx hb dL_law_411 hl (by decide) rfl (fun ls hl => ?_)
        refine lv_aload_n hx hb dL_law_413 rfl (lv_at hl 4 rfl) ?_
        refine lv_aload_n hx hb dL_law_414 rfl (lv_at hl 2 rfl) ?_
        refine lv_iload hx hb dL_law_415 (lv_at hl 1 rfl) ?_
        refine lv_iconst (v := 1) hx hb dL_law_417 (by decide) ?_
        refine lv_iadd hx hb dL_law_418 ?_
        rw [show nI (5 * j) + 1 = nI (5 * j + 1) from nI_add (5 * j) 1]
        refine gk_sld (i := (5 * j + 1)) hx hb hX hbl hbA hS (by omega) hL dL_law_419 ?_
        refine lv_aload_n hx hb dL_law_420 rfl (lv_at hl 2 rfl) ?_
        refine lv_iload hx hb dL_law_421 (lv_at hl 1 rfl) ?_
        refine lv_iconst (v := 2) hx hb dL_law_423 (by decide) ?_
        refine lv_iadd hx hb dL_law_424 ?_
        rw [show nI (5 * j) + 2 = nI (5 * j + 2) from nI_add (5 * j) 2]
        refine gk_sld (i := (5 * j + 2)) hx hb hX hbl hbA hS (by omega) hL dL_law_425 ?_
        refine lv_aload_n hx hb dL_law_426 rfl (lv_at hl 2 rfl) ?_
        refine lv_iload hx hb dL_law_427 (lv_at hl 1 rfl) ?_
        refine lv_iconst (v := 3) hx hb dL_law_429 (by decide) ?_
        refine lv_iadd hx hb dL_law_430 ?_
        rw [show nI (5 * j) + 3 = nI (5 * j + 3) from nI_add (5 * j) 3]
        refine gk_sld (i := (5 * j + 3)) hx hb hX hbl hbA hS (by omega) hL dL_law_431 ?_
        have hF_23 := gk_all hD hS hA
        refine va_calli (va_runV (As := [.int (xs (5 * j + 1)), .int (xs (5 * j + 2)), .int (xs (5 * j + 3))]) (rest := []) ⟨hx, hb, hml, hown, hts⟩ (kX3_move l D cyI cyZ cyL cyV cyJ x0 x1 x2 x3 x4 x5 x6 x7 x8 x9 x10 x11 x12 x13 x14 gr sh rt ce nl nv am nc cd th bud fsd las isB mto maw lno dya amo rfd ord cpa eli usd ((o, .inl (cyJ, 1, .inr (.inl u_22.1))) :: u_22.2) hM.1.1 hM.1.2.1 lnf hM.2.1 orf hM.2.2.1 hM.2.2.2.1 (xs (5 * j + 1)) (xs (5 * j + 2)) (xs (5 * j + 3)) H.size _ rfl) (cwV 3 hts gL_law_X3_move rfl rfl rfl (by decide +kernel) ⟨(Nat.le_of_ble_eq_true rfl), (Nat.le_of_ble_eq_true rfl)⟩) (gk_preV hP hK hD (va_recv hK hP (ci := 3) (q0 := 0) rfl rfl)) rfl rfl hl.1 rfl (lv_room (Nat.le_of_ble_eq_true rfl)) dL_law_432 ⟨(by show _ ≤ (601024 : Nat); omega), (by show _ ≤ (7293034 : Nat); omega)⟩) hS (fun q _ h => hF_23 q h) hF_23 (fun r_23 u_23 t_23 H locs ht_23 hvm_23 hw_23 hB_23 hz_23 hk_23 hS => ?_)
        obtain ⟨hP, hD⟩ := gk_back hF_23 hB_23 ht_23
        obtain ⟨th9, u9⟩ := u_23
        obtain ⟨hth, hsu9, hol9⟩ := hw_23
        obtain ⟨hLk, hLs, hLo⟩ := hw_22
        by_cases hcd : cMove nl bud maw (xs (5 * j + 1)) (xs (5 * j + 2)) (xs (5 * j + 3)) = 0
        · have hk0 : r_22 = 0 := hLk.trans hcd
          obtain ⟨hout, hG9⟩ := hLs hcd
          obtain ⟨hr9, hu9⟩ := hsu9 hcd
          dsimp only at hu9
          rw [hu9] at hP hD
          subst hk0
          have hP : va_P D vwCl ((x0, .inr (3, [.int gr, .int sh, .int rt, .int ce, .int (nI nl), .ref x1, .ref x2, .ref x3, .ref x4, .ref x5, .ref x6, .int (nI nv), .ref x7, .ref x8, .ref x9, .ref x10, .ref x11, .int am, .int (nI nc), .int cd, .ref x12, .int th9, .ref x13, .ref x14])) :: (x1, .inl (cyI, 12, .inl bud)) :: (x2, .inl (cyI, 12, .inl fsd)) :: (x3, .inl (cyI, 12, .inl las)) :: (x4, .inl (cyZ, 12, .inl isB)) :: (x5, .inl (cyI, 12, .inl (va_up mto (gIxn (xs (5 * j + 2))) (mto (gIxn (xs (5 * j + 2))) + (xs (5 * j + 3)))))) :: (x6, .inl (cyI, 12, .inl (va_up maw (gIxn (xs (5 * j + 1))) (maw (gIxn (xs (5 * j + 1))) + (xs (5 * j + 3)))))) :: (x7, .inl (cyI, 100, .inl lno)) :: (x8, .inl (cyI, 100, .inl dya)) :: (x9, .inl (cyI, 100, .inl amo)) :: (x10, .inl (cyZ, 100, .inl rfd)) :: (x11, .inl (cyI, 100, .inl ord)) :: (x12, .inl (cyI, 40, .inl cpa)) :: (x13, .inl (cyI, 100, .inl eli)) :: (x14, .inl (cyI, 12, .inl usd)) :: (o, .inl (cyJ, 1, .inr (.inl u_22.1))) :: u_22.2) H := hP
          have hD : va_D A ((x0, .inr (3, [.int gr, .int sh, .int rt, .int ce, .int (nI nl), .ref x1, .ref x2, .ref x3, .ref x4, .ref x5, .ref x6, .int (nI nv), .ref x7, .ref x8, .ref x9, .ref x10, .ref x11, .int am, .int (nI nc), .int cd, .ref x12, .int th9, .ref x13, .ref x14])) :: (x1, .inl (cyI, 12, .inl bud)) :: (x2, .inl (cyI, 12, .inl fsd)) :: (x3, .inl (cyI, 12, .inl las)) :: (x4, .inl (cyZ, 12, .inl isB)) :: (x5, .inl (cyI, 12, .inl (va_up mto (gIxn (xs (5 * j + 2))) (mto (gIxn (xs (5 * j + 2))) + (xs (5 * j + 3)))))) :: (x6, .inl (cyI, 12, .inl (va_up maw (gIxn (xs (5 * j + 1))) (maw (gIxn (xs (5 * j + 1))) + (xs (5 * j + 3)))))) :: (x7, .inl (cyI, 100, .inl lno)) :: (x8, .inl (cyI, 100, .inl dya)) :: (x9, .inl (cyI, 100, .inl amo)) :: (x10, .inl (cyZ, 100, .inl rfd)) :: (x11, .inl (cyI, 100, .inl ord)) :: (x12, .inl (cyI, 40, .inl cpa)) :: (x13, .inl (cyI, 100, .inl eli)) :: (x14, .inl (cyI, 12, .inl usd)) :: (o, .inl (cyJ, 1, .inr (.inl u_22.1))) :: u_22.2) := hD
          refine lv_istore (lv' := [(6, .int r_23), (5, .int 0), (4, .int (nI (5 * j))), (0, .ref b), (1, .ref g), (2, .ref x0), (3, .ref o)]) hx hb dL_law_435 hl (by decide) rfl (fun ls hl => ?_)
          refine lv_aload_n hx hb dL_law_437 rfl (lv_at hl 5 rfl) ?_
          have hF_24 := gk_all hD hS hA
          refine va_calli (va_runV (As := []) (rest := []) ⟨hx, hb, hml, hown, hts⟩ (kX3_thrown l D cyI cyZ cyL cyV cyJ x0 x1 x2 x3 x4 x5 x6 x7 x8 x9 x10 x11 x12 x13 x14 gr sh rt ce nl nv am nc cd th9 bud fsd las isB (va_up mto (gIxn (xs (5 * j + 2))) (mto (gIxn (xs (5 * j + 2))) + (xs (5 * j + 3)))) (va_up maw (gIxn (xs (5 * j + 1))) (maw (gIxn (xs (5 * j + 1))) + (xs (5 * j + 3)))) lno dya amo rfd ord cpa eli usd ((o, .inl (cyJ, 1, .inr (.inl u_22.1))) :: u_22.2)  H.size _ rfl) (cwV 0 hts gL_law_X3_thrown rfl rfl rfl (by decide +kernel) ⟨(Nat.le_of_ble_eq_true rfl), (Nat.le_of_ble_eq_true rfl)⟩) (gk_preV hP hK hD (va_recv hK hP (ci := 3) (q0 := 0) rfl rfl)) rfl rfl hl.1 rfl (lv_room (Nat.le_of_ble_eq_true rfl)) dL_law_438 ⟨(by show _ ≤ (601024 : Nat); omega), (by show _ ≤ (7293034 : Nat); omega)⟩) hS (fun q _ h => hF_24 q h) hF_24 (fun r_24 u_24 t_24 H locs ht_24 hvm_24 hw_24 hB_24 hz_24 hk_24 hS => ?_)
          obtain ⟨hP, hD⟩ := gk_back hF_24 hB_24 ht_24
          subst hw_24
          refine lv_iload hx hb dL_law_441 (lv_at hl 1 rfl) ?_
          refine lv_icmp_eq (tgt := 448) hx hb dL_law_443 (by decide) (fun _ => ?_) (fun c9 => absurd (hth.trans hLk.symm) c9)
          refine lv_iload hx hb dL_law_448 (lv_at hl 1 rfl) ?_
          refine lv_if_ne (tgt := 465) hx hb dL_law_450 (by decide) (fun c => by first | exact absurd c (by decide) | exact absurd (by decide) c) (fun _ => ?_)
          refine lv_aload_n hx hb dL_law_453 rfl (lv_at hl 6 rfl) ?_
          refine lv_iconst (v := 0) hx hb dL_law_454 (by decide) ?_
          refine va_lald hx hb hK hP 15 4 rfl rfl (i := 0) (show ¬ ((0 : Int32) < 0 ∨ 1 ≤ (0 : Int32).toNatClampNeg) by decide) dL_law_455 ?_
          refine lv_iload hx hb dL_law_456 (lv_at hl 0 rfl) ?_
          refine lv_i2l hx hb dL_law_458 rfl ?_
          refine W.lcmp hx hb dL_law_459 ?_
          refine lv_if_eq (tgt := 465) hx hb dL_law_460 (by decide) (fun _ => ?_) (fun c9 => absurd ((lg_cmp_eq _ _).mpr (show u_22.1 0 = r_23.toInt64 by rw [hout, hr9])) c9)
          refine lv_goto (tgt := 1335) hx hb dL_law_465 (by decide) ?_
          refine lv_iinc (v := (nI (5 * (j + 1)))) (lv' := [(4, .int (nI (5 * (j + 1)))), (6, .int r_23), (5, .int 0), (0, .ref b), (1, .ref g), (2, .ref x0), (3, .ref o)]) hx hb dL_law_1335 hl (k := 2) rfl (by show nI (5 * j) + 5 = nI (5 * (j + 1)); exact nI_add (5 * j) 5) (by decide) rfl (fun ls hl => ?_)
          refine lv_goto (tgt := 23) hx hb dL_law_1338 (by decide) ?_
          refine W.widen (k := 20 + 5 * (j + 1)) (n := 914 + 30 * (j + 1)) (by omega) (by omega) ?_
          exact ih (j + 1) _ _ _ _ _ _ _ _ _ _ _ _ _ _ _ _ _ _ _ _ _ _ _ _ _ _ _ _ _ _ _ (by omega) (by omega) hG9 hP hD hS (lv_sub hl [0, 3, 4, 5, 6] rfl)
        · have hG9 := hLo hcd
          have hu9 := hol9 hcd
          dsimp only at hu9
          rw [hu9] at hP hD
          have hP : va_P D vwCl ((x0, .inr (3, [.int gr, .int sh, .int rt, .int ce, .int (nI nl), .ref x1, .ref x2, .ref x3, .ref x4, .ref x5, .ref x6, .int (nI nv), .ref x7, .ref x8, .ref x9, .ref x10, .ref x11, .int am, .int (nI nc), .int cd, .ref x12, .int th9, .ref x13, .ref x14])) :: (x1, .inl (cyI, 12, .inl bud)) :: (x2, .inl (cyI, 12, .inl fsd)) :: (x3, .inl (cyI, 12, .inl las)) :: (x4, .inl (cyZ, 12, .inl isB)) :: (x5, .inl (cyI, 12, .inl mto)) :: (x6, .inl (cyI, 12, .inl maw)) :: (x7, .inl (cyI, 100, .inl lno)) :: (x8, .inl (cyI, 100, .inl dya)) :: (x9, .inl (cyI, 100, .inl amo)) :: (x10, .inl (cyZ, 100, .inl rfd)) :: (x11, .inl (cyI, 100, .inl ord)) :: (x12, .inl (cyI, 40, .inl cpa)) :: (x13, .inl (cyI, 100, .inl eli)) :: (x14, .inl (cyI, 12, .inl usd)) :: (o, .inl (cyJ, 1, .inr (.inl u_22.1))) :: u_22.2) H := hP
          have hD : va_D A ((x0, .inr (3, [.int gr, .int sh, .int rt, .int ce, .int (nI nl), .ref x1, .ref x2, .ref x3, .ref x4, .ref x5, .ref x6, .int (nI nv), .ref x7, .ref x8, .ref x9, .ref x10, .ref x11, .int am, .int (nI nc), .int cd, .ref x12, .int th9, .ref x13, .ref x14])) :: (x1, .inl (cyI, 12, .inl bud)) :: (x2, .inl (cyI, 12, .inl fsd)) :: (x3, .inl (cyI, 12, .inl las)) :: (x4, .inl (cyZ, 12, .inl isB)) :: (x5, .inl (cyI, 12, .inl mto)) :: (x6, .inl (cyI, 12, .inl maw)) :: (x7, .inl (cyI, 100, .inl lno)) :: (x8, .inl (cyI, 100, .inl dya)) :: (x9, .inl (cyI, 100, .inl amo)) :: (x10, .inl (cyZ, 100, .inl rfd)) :: (x11, .inl (cyI, 100, .inl ord)) :: (x12, .inl (cyI, 40, .inl cpa)) :: (x13, .inl (cyI, 100, .inl eli)) :: (x14, .inl (cyI, 12, .inl usd)) :: (o, .inl (cyJ, 1, .inr (.inl u_22.1))) :: u_22.2) := hD
          refine lv_istore (lv' := [(6, .int r_23), (5, .int r_22), (4, .int (nI (5 * j))), (0, .ref b), (1, .ref g), (2, .ref x0), (3, .ref o)]) hx hb dL_law_435 hl (by decide) rfl (fun ls hl => ?_)
          refine lv_aload_n hx hb dL_law_437 rfl (lv_at hl 5 rfl) ?_
          have hF_26 := gk_all hD hS hA
          refine va_calli (va_runV (As := []) (rest := []) ⟨hx, hb, hml, hown, hts⟩ (kX3_thrown l D cyI cyZ cyL cyV cyJ x0 x1 x2 x3 x4 x5 x6 x7 x8 x9 x10 x11 x12 x13 x14 gr sh rt ce nl nv am nc cd th9 bud fsd las isB mto maw lno dya amo rfd ord cpa eli usd ((o, .inl (cyJ, 1, .inr (.inl u_22.1))) :: u_22.2)  H.size _ rfl) (cwV 0 hts gL_law_X3_thrown rfl rfl rfl (by decide +kernel) ⟨(Nat.le_of_ble_eq_true rfl), (Nat.le_of_ble_eq_true rfl)⟩) (gk_preV hP hK hD (va_recv hK hP (ci := 3) (q0 := 0) rfl rfl)) rfl rfl hl.1 rfl (lv_room (Nat.le_of_ble_eq_true rfl)) dL_law_438 ⟨(by show _ ≤ (601024 : Nat); omega), (by show _ ≤ (7293034 : Nat); omega)⟩) hS (fun q _ h => hF_26 q h) hF_26 (fun r_26 u_26 t_26 H locs ht_26 hvm_26 hw_26 hB_26 hz_26 hk_26 hS => ?_)
          obtain ⟨hP, hD⟩ := gk_back hF_26 hB_26 ht_26
          subst hw_26
          refine lv_iload hx hb dL_law_441 (lv_at hl 1 rfl) ?_
          refine lv_icmp_eq (tgt := 448) hx hb dL_law_443 (by decide) (fun _ => ?_) (fun c9 => absurd (hth.trans hLk.symm) c9)
          refine lv_iload hx hb dL_law_448 (lv_at hl 1 rfl) ?_
          refine lv_if_ne (tgt := 465) hx hb dL_law_450 (by decide) (fun _ => ?_) (fun c9 => absurd (hLk.symm.trans c9) hcd)
          refine lv_goto (tgt := 1335) hx hb dL_law_465 (by decide) ?_
          refine lv_iinc (v := (nI (5 * (j + 1)))) (lv' := [(4, .int (nI (5 * (j + 1)))), (6, .int r_23), (5, .int r_22), (0, .ref b), (1, .ref g), (2, .ref x0), (3, .ref o)]) hx hb dL_law_1335 hl (k := 2) rfl (by show nI (5 * j) + 5 = nI (5 * (j + 1)); exact nI_add (5 * j) 5) (by decide) rfl (fun ls hl => ?_)
          refine lv_goto (tgt := 23) hx hb dL_law_1338 (by decide) ?_
          refine W.widen (k := 20 + 5 * (j + 1)) (n := 914 + 30 * (j + 1)) (by omega) (by omega) ?_
          exact ih (j + 1) _ _ _ _ _ _ _ _ _ _ _ _ _ _ _ _ _ _ _ _ _ _ _ _ _ _ _ _ _ _ _ (by omega) (by omega) hG9 hP hD hS (lv_sub hl [0, 3, 4, 5, 6] rfl)
      · rw [hsw]
        refine lv_tableIn (off := 429) (tgt := 468) hx hb dL_law_39 (by decide) (by decide) rfl (by decide) ?_
        refine lv_aload_n hx hb dL_law_468 rfl (lv_at hl 2 rfl) ?_
        have hF_27 := gk_all hD hS hA
        refine va_calli (va_runV (As := []) (rest := []) ⟨hx, hb, hml, hown, hts⟩ (kQ_lines l D cyI cyZ cyL cyV cyJ gr sh rt ce nl nv am nc cd bud fsd las isB mto maw lno dya amo rfd ord cpa lnf orf g o (x0, .inr (3, [.int gr, .int sh, .int rt, .int ce, .int (nI nl), .ref x1, .ref x2, .ref x3, .ref x4, .ref x5, .ref x6, .int (nI nv), .ref x7, .ref x8, .ref x9, .ref x10, .ref x11, .int am, .int (nI nc), .int cd, .ref x12, .int th, .ref x13, .ref x14])) (x1, .inl (cyI, 12, .inl bud)) (x2, .inl (cyI, 12, .inl fsd)) (x3, .inl (cyI, 12, .inl las)) (x4, .inl (cyZ, 12, .inl isB)) (x5, .inl (cyI, 12, .inl mto)) (x6, .inl (cyI, 12, .inl maw)) (x7, .inl (cyI, 100, .inl lno)) (x8, .inl (cyI, 100, .inl dya)) (x9, .inl (cyI, 100, .inl amo)) (x10, .inl (cyZ, 100, .inl rfd)) (x11, .inl (cyI, 100, .inl ord)) (x12, .inl (cyI, 40, .inl cpa)) (x13, .inl (cyI, 100, .inl eli)) (x14, .inl (cyI, 12, .inl usd)) fo G hG H.size _ rfl) (cwV 0 hts gL_law_X2_lines rfl rfl rfl (by decide +kernel) ⟨(Nat.le_of_ble_eq_true rfl), (Nat.le_of_ble_eq_true rfl)⟩) (gk_preV hP hK hD (gQ_recv hG hK hP)) rfl rfl hl.1 rfl (lv_room (Nat.le_of_ble_eq_true rfl)) dL_law_469 ⟨(by show _ ≤ (601024 : Nat); omega), (by show _ ≤ (7293034 : Nat); omega)⟩) hS (fun q _ h => hF_27 q h) hF_27 (fun r_27 u_27 t_27 H locs ht_27 hvm_27 hw_27 hB_27 hz_27 hk_27 hS => ?_)
        obtain ⟨hP, hD⟩ := gk_back hF_27 hB_27 ht_27
        refine lv_aload_n hx hb dL_law_472 rfl (lv_at hl 3 rfl) ?_
        have hF_28 := gk_all hD hS hA
        refine va_calli (va_runV (As := []) (rest := [.int r_27]) ⟨hx, hb, hml, hown, hts⟩ (kX3_lines l D cyI cyZ cyL cyV cyJ x0 x1 x2 x3 x4 x5 x6 x7 x8 x9 x10 x11 x12 x13 x14 gr sh rt ce nl nv am nc cd th bud fsd las isB mto maw lno dya amo rfd ord cpa eli usd ((o, .inl (cyJ, 1, .inr (.inl fo))) :: G)  H.size _ rfl) (cwV 0 hts gL_law_X3_lines rfl rfl rfl (by decide +kernel) ⟨(Nat.le_of_ble_eq_true rfl), (Nat.le_of_ble_eq_true rfl)⟩) (gk_preV hP hK hD (va_recv hK hP (ci := 3) (q0 := 0) rfl rfl)) rfl rfl hl.1 rfl (lv_room (Nat.le_of_ble_eq_true rfl)) dL_law_473 ⟨(by show _ ≤ (601024 : Nat); omega), (by show _ ≤ (7293034 : Nat); omega)⟩) hS (fun q _ h => hF_28 q h) hF_28 (fun r_28 u_28 t_28 H locs ht_28 hvm_28 hw_28 hB_28 hz_28 hk_28 hS => ?_)
        obtain ⟨hP, hD⟩ := gk_back hF_28 hB_28 ht_28
        refine lv_icmp_eq (tgt := 1335) hx hb dL_law_476 (by decide) (fun _ => ?_) (fun c9 => absurd (hw_27.trans hw_28.symm) c9)
        refine lv_iinc (v := (nI (5 * (j + 1)))) (lv' := [(4, .int (nI (5 * (j + 1)))), (0, .ref b), (1, .ref g), (2, .ref x0), (3, .ref o)]) hx hb dL_law_1335 hl (k := 0) rfl (by show nI (5 * j) + 5 = nI (5 * (j + 1)); exact nI_add (5 * j) 5) (by decide) rfl (fun ls hl => ?_)
        refine lv_goto (tgt := 23) hx hb dL_law_1338 (by decide) ?_
        refine W.widen (k := 20 + 5 * (j + 1)) (n := 914 + 30 * (j + 1)) (by omega) (by omega) ?_
        exact ih (j + 1) _ _ _ _ _ _ _ _ _ _ _ _ _ _ _ _ _ _ _ _ _ _ _ _ _ _ _ _ _ _ _ (by omega) (by omega) hG hP hD hS (lv_sub hl [0, 1, 2, 3, 4] rfl)
      · rw [hsw]
        refine lv_tableIn (off := 442) (tgt := 481) hx hb dL_law_39 (by decide) (by decide) rfl (by decide) ?_
        refine lv_aload_n hx hb dL_law_481 rfl (lv_at hl 2 rfl) ?_
        refine lv_aload_n hx hb dL_law_482 rfl (lv_at hl 1 rfl) ?_
        refine lv_iload hx hb dL_law_483 (lv_at hl 0 rfl) ?_
        refine lv_iconst (v := 1) hx hb dL_law_485 (by decide) ?_
        refine lv_iadd hx hb dL_law_486 ?_
        rw [show nI (5 * j) + 1 = nI (5 * j + 1) from nI_add (5 * j) 1]
        refine gk_sld (i := (5 * j + 1)) hx hb hX hbl hbA hS (by omega) hL dL_law_487 ?_
        refine lv_aload_n hx hb dL_law_488 rfl (lv_at hl 4 rfl) ?_
        have hF_29 := gk_all hD hS hA
        refine va_calli (vx_runSW (As := [.ref g, .int (xs (5 * j + 1)), .ref o]) (rest := []) ⟨hx, hb, hml, hown, hts⟩ (kL_room l hst D cyI cyZ cyL cyV cyJ gr sh rt ce nl nv am nc cd bud fsd las isB mto maw lno dya amo rfd ord cpa lnf orf g o (x0, .inr (3, [.int gr, .int sh, .int rt, .int ce, .int (nI nl), .ref x1, .ref x2, .ref x3, .ref x4, .ref x5, .ref x6, .int (nI nv), .ref x7, .ref x8, .ref x9, .ref x10, .ref x11, .int am, .int (nI nc), .int cd, .ref x12, .int th, .ref x13, .ref x14])) (x1, .inl (cyI, 12, .inl bud)) (x2, .inl (cyI, 12, .inl fsd)) (x3, .inl (cyI, 12, .inl las)) (x4, .inl (cyZ, 12, .inl isB)) (x5, .inl (cyI, 12, .inl mto)) (x6, .inl (cyI, 12, .inl maw)) (x7, .inl (cyI, 100, .inl lno)) (x8, .inl (cyI, 100, .inl dya)) (x9, .inl (cyI, 100, .inl amo)) (x10, .inl (cyZ, 100, .inl rfd)) (x11, .inl (cyI, 100, .inl ord)) (x12, .inl (cyI, 40, .inl cpa)) (x13, .inl (cyI, 100, .inl eli)) (x14, .inl (cyI, 12, .inl usd)) fo G hG (xs (5 * j + 1)) H.size _ rfl) (vx_cwSW 3 hts gL_law_L_room rfl rfl rfl (by decide +kernel) ⟨(Nat.le_of_ble_eq_true rfl), (Nat.le_of_ble_eq_true rfl)⟩) (gk_preSN hNC hTF hS hF_29 hP hK hD) rfl rfl hl.1 rfl (lv_room (Nat.le_of_ble_eq_true rfl)) dL_law_489 ⟨(by show _ ≤ (601024 : Nat); omega), (by show _ ≤ (7293034 : Nat); omega)⟩) hS (fun q _ h => hF_29 q h) hF_29 (fun r_29 u_29 t_29 H locs ht_29 hvm_29 hw_29 hB_29 hz_29 hk_29 hS => ?_)
        obtain ⟨hP, hD⟩ := gk_back hF_29 hB_29 ht_29
        refine lv_istore (lv' := [(5, .int r_29), (4, .int (nI (5 * j))), (0, .ref b), (1, .ref g), (2, .ref x0), (3, .ref o)]) hx hb dL_law_492 hl (by decide) rfl (fun ls hl => ?_)
        refine lv_aload_n hx hb dL_law_494 rfl (lv_at hl 4 rfl) ?_
        refine lv_aload_n hx hb dL_law_495 rfl (lv_at hl 2 rfl) ?_
        refine lv_iload hx hb dL_law_496 (lv_at hl 1 rfl) ?_
        refine lv_iconst (v := 1) hx hb dL_law_498 (by decide) ?_
        refine lv_iadd hx hb dL_law_499 ?_
        rw [show nI (5 * j) + 1 = nI (5 * j + 1) from nI_add (5 * j) 1]
        refine gk_sld (i := (5 * j + 1)) hx hb hX hbl hbA hS (by omega) hL dL_law_500 ?_
        have hF_30 := gk_all hD hS hA
        refine va_calli (va_runV (As := [.int (xs (5 * j + 1))]) (rest := []) ⟨hx, hb, hml, hown, hts⟩ (kX3_room l D cyI cyZ cyL cyV cyJ x0 x1 x2 x3 x4 x5 x6 x7 x8 x9 x10 x11 x12 x13 x14 gr sh rt ce nl nv am nc cd th bud fsd las isB mto maw lno dya amo rfd ord cpa eli usd ((o, .inl (cyJ, 1, .inr (.inl u_29.1))) :: u_29.2) hM.1.1 hM.1.2.1 lnf hM.2.1 orf hM.2.2.1 hM.2.2.2.1 (xs (5 * j + 1)) H.size _ rfl) (cwV 1 hts gL_law_X3_room rfl rfl rfl (by decide +kernel) ⟨(Nat.le_of_ble_eq_true rfl), (Nat.le_of_ble_eq_true rfl)⟩) (gk_preV hP hK hD (va_recv hK hP (ci := 3) (q0 := 0) rfl rfl)) rfl rfl hl.1 rfl (lv_room (Nat.le_of_ble_eq_true rfl)) dL_law_501 ⟨(by show _ ≤ (601024 : Nat); omega), (by show _ ≤ (7293034 : Nat); omega)⟩) hS (fun q _ h => hF_30 q h) hF_30 (fun r_30 u_30 t_30 H locs ht_30 hvm_30 hw_30 hB_30 hz_30 hk_30 hS => ?_)
        obtain ⟨hP, hD⟩ := gk_back hF_30 hB_30 ht_30
        obtain ⟨hth, hsu9, hol9⟩ := hw_30
        obtain ⟨hLk, hLs, hLo⟩ := hw_29
        by_cases hcd : cNum nl (xs (5 * j + 1)) = 0
        · have hk0 : r_29 = 0 := hLk.trans hcd
          obtain ⟨hout, hG9⟩ := hLs hcd
          have hr9 := hsu9 hcd
          subst hk0
          have hP : va_P D vwCl ((x0, .inr (3, [.int gr, .int sh, .int rt, .int ce, .int (nI nl), .ref x1, .ref x2, .ref x3, .ref x4, .ref x5, .ref x6, .int (nI nv), .ref x7, .ref x8, .ref x9, .ref x10, .ref x11, .int am, .int (nI nc), .int cd, .ref x12, .int u_30, .ref x13, .ref x14])) :: (x1, .inl (cyI, 12, .inl bud)) :: (x2, .inl (cyI, 12, .inl fsd)) :: (x3, .inl (cyI, 12, .inl las)) :: (x4, .inl (cyZ, 12, .inl isB)) :: (x5, .inl (cyI, 12, .inl mto)) :: (x6, .inl (cyI, 12, .inl maw)) :: (x7, .inl (cyI, 100, .inl lno)) :: (x8, .inl (cyI, 100, .inl dya)) :: (x9, .inl (cyI, 100, .inl amo)) :: (x10, .inl (cyZ, 100, .inl rfd)) :: (x11, .inl (cyI, 100, .inl ord)) :: (x12, .inl (cyI, 40, .inl cpa)) :: (x13, .inl (cyI, 100, .inl eli)) :: (x14, .inl (cyI, 12, .inl usd)) :: (o, .inl (cyJ, 1, .inr (.inl u_29.1))) :: u_29.2) H := hP
          have hD : va_D A ((x0, .inr (3, [.int gr, .int sh, .int rt, .int ce, .int (nI nl), .ref x1, .ref x2, .ref x3, .ref x4, .ref x5, .ref x6, .int (nI nv), .ref x7, .ref x8, .ref x9, .ref x10, .ref x11, .int am, .int (nI nc), .int cd, .ref x12, .int u_30, .ref x13, .ref x14])) :: (x1, .inl (cyI, 12, .inl bud)) :: (x2, .inl (cyI, 12, .inl fsd)) :: (x3, .inl (cyI, 12, .inl las)) :: (x4, .inl (cyZ, 12, .inl isB)) :: (x5, .inl (cyI, 12, .inl mto)) :: (x6, .inl (cyI, 12, .inl maw)) :: (x7, .inl (cyI, 100, .inl lno)) :: (x8, .inl (cyI, 100, .inl dya)) :: (x9, .inl (cyI, 100, .inl amo)) :: (x10, .inl (cyZ, 100, .inl rfd)) :: (x11, .inl (cyI, 100, .inl ord)) :: (x12, .inl (cyI, 40, .inl cpa)) :: (x13, .inl (cyI, 100, .inl eli)) :: (x14, .inl (cyI, 12, .inl usd)) :: (o, .inl (cyJ, 1, .inr (.inl u_29.1))) :: u_29.2) := hD
          refine lv_istore (lv' := [(6, .int r_30), (5, .int 0), (4, .int (nI (5 * j))), (0, .ref b), (1, .ref g), (2, .ref x0), (3, .ref o)]) hx hb dL_law_504 hl (by decide) rfl (fun ls hl => ?_)
          refine lv_aload_n hx hb dL_law_506 rfl (lv_at hl 5 rfl) ?_
          have hF_31 := gk_all hD hS hA
          refine va_calli (va_runV (As := []) (rest := []) ⟨hx, hb, hml, hown, hts⟩ (kX3_thrown l D cyI cyZ cyL cyV cyJ x0 x1 x2 x3 x4 x5 x6 x7 x8 x9 x10 x11 x12 x13 x14 gr sh rt ce nl nv am nc cd u_30 bud fsd las isB mto maw lno dya amo rfd ord cpa eli usd ((o, .inl (cyJ, 1, .inr (.inl u_29.1))) :: u_29.2)  H.size _ rfl) (cwV 0 hts gL_law_X3_thrown rfl rfl rfl (by decide +kernel) ⟨(Nat.le_of_ble_eq_true rfl), (Nat.le_of_ble_eq_true rfl)⟩) (gk_preV hP hK hD (va_recv hK hP (ci := 3) (q0 := 0) rfl rfl)) rfl rfl hl.1 rfl (lv_room (Nat.le_of_ble_eq_true rfl)) dL_law_507 ⟨(by show _ ≤ (601024 : Nat); omega), (by show _ ≤ (7293034 : Nat); omega)⟩) hS (fun q _ h => hF_31 q h) hF_31 (fun r_31 u_31 t_31 H locs ht_31 hvm_31 hw_31 hB_31 hz_31 hk_31 hS => ?_)
          obtain ⟨hP, hD⟩ := gk_back hF_31 hB_31 ht_31
          subst hw_31
          refine lv_iload hx hb dL_law_510 (lv_at hl 1 rfl) ?_
          refine lv_icmp_eq (tgt := 517) hx hb dL_law_512 (by decide) (fun _ => ?_) (fun c9 => absurd (hth.trans hLk.symm) c9)
          refine lv_iload hx hb dL_law_517 (lv_at hl 1 rfl) ?_
          refine lv_if_ne (tgt := 534) hx hb dL_law_519 (by decide) (fun c => by first | exact absurd c (by decide) | exact absurd (by decide) c) (fun _ => ?_)
          refine lv_aload_n hx hb dL_law_522 rfl (lv_at hl 6 rfl) ?_
          refine lv_iconst (v := 0) hx hb dL_law_523 (by decide) ?_
          refine va_lald hx hb hK hP 15 4 rfl rfl (i := 0) (show ¬ ((0 : Int32) < 0 ∨ 1 ≤ (0 : Int32).toNatClampNeg) by decide) dL_law_524 ?_
          refine lv_iload hx hb dL_law_525 (lv_at hl 0 rfl) ?_
          refine lv_i2l hx hb dL_law_527 rfl ?_
          refine W.lcmp hx hb dL_law_528 ?_
          refine lv_if_eq (tgt := 534) hx hb dL_law_529 (by decide) (fun _ => ?_) (fun c9 => absurd ((lg_cmp_eq _ _).mpr (show u_29.1 0 = r_30.toInt64 by rw [hout, hr9])) c9)
          refine lv_goto (tgt := 1335) hx hb dL_law_534 (by decide) ?_
          refine lv_iinc (v := (nI (5 * (j + 1)))) (lv' := [(4, .int (nI (5 * (j + 1)))), (6, .int r_30), (5, .int 0), (0, .ref b), (1, .ref g), (2, .ref x0), (3, .ref o)]) hx hb dL_law_1335 hl (k := 2) rfl (by show nI (5 * j) + 5 = nI (5 * (j + 1)); exact nI_add (5 * j) 5) (by decide) rfl (fun ls hl => ?_)
          refine lv_goto (tgt := 23) hx hb dL_law_1338 (by decide) ?_
          refine W.widen (k := 20 + 5 * (j + 1)) (n := 914 + 30 * (j + 1)) (by omega) (by omega) ?_
          exact ih (j + 1) _ _ _ _ _ _ _ _ _ _ _ _ _ _ _ _ _ _ _ _ _ _ _ _ _ _ _ _ _ _ _ (by omega) (by omega) hG9 hP hD hS (lv_sub hl [0, 3, 4, 5, 6] rfl)
        · have hG9 := hLo hcd
          have hu9 := hol9 hcd
          have hP : va_P D vwCl ((x0, .inr (3, [.int gr, .int sh, .int rt, .int ce, .int (nI nl), .ref x1, .ref x2, .ref x3, .ref x4, .ref x5, .ref x6, .int (nI nv), .ref x7, .ref x8, .ref x9, .ref x10, .ref x11, .int am, .int (nI nc), .int cd, .ref x12, .int u_30, .ref x13, .ref x14])) :: (x1, .inl (cyI, 12, .inl bud)) :: (x2, .inl (cyI, 12, .inl fsd)) :: (x3, .inl (cyI, 12, .inl las)) :: (x4, .inl (cyZ, 12, .inl isB)) :: (x5, .inl (cyI, 12, .inl mto)) :: (x6, .inl (cyI, 12, .inl maw)) :: (x7, .inl (cyI, 100, .inl lno)) :: (x8, .inl (cyI, 100, .inl dya)) :: (x9, .inl (cyI, 100, .inl amo)) :: (x10, .inl (cyZ, 100, .inl rfd)) :: (x11, .inl (cyI, 100, .inl ord)) :: (x12, .inl (cyI, 40, .inl cpa)) :: (x13, .inl (cyI, 100, .inl eli)) :: (x14, .inl (cyI, 12, .inl usd)) :: (o, .inl (cyJ, 1, .inr (.inl u_29.1))) :: u_29.2) H := hP
          have hD : va_D A ((x0, .inr (3, [.int gr, .int sh, .int rt, .int ce, .int (nI nl), .ref x1, .ref x2, .ref x3, .ref x4, .ref x5, .ref x6, .int (nI nv), .ref x7, .ref x8, .ref x9, .ref x10, .ref x11, .int am, .int (nI nc), .int cd, .ref x12, .int u_30, .ref x13, .ref x14])) :: (x1, .inl (cyI, 12, .inl bud)) :: (x2, .inl (cyI, 12, .inl fsd)) :: (x3, .inl (cyI, 12, .inl las)) :: (x4, .inl (cyZ, 12, .inl isB)) :: (x5, .inl (cyI, 12, .inl mto)) :: (x6, .inl (cyI, 12, .inl maw)) :: (x7, .inl (cyI, 100, .inl lno)) :: (x8, .inl (cyI, 100, .inl dya)) :: (x9, .inl (cyI, 100, .inl amo)) :: (x10, .inl (cyZ, 100, .inl rfd)) :: (x11, .inl (cyI, 100, .inl ord)) :: (x12, .inl (cyI, 40, .inl cpa)) :: (x13, .inl (cyI, 100, .inl eli)) :: (x14, .inl (cyI, 12, .inl usd)) :: (o, .inl (cyJ, 1, .inr (.inl u_29.1))) :: u_29.2) := hD
          refine lv_istore (lv' := [(6, .int r_30), (5, .int r_29), (4, .int (nI (5 * j))), (0, .ref b), (1, .ref g), (2, .ref x0), (3, .ref o)]) hx hb dL_law_504 hl (by decide) rfl (fun ls hl => ?_)
          refine lv_aload_n hx hb dL_law_506 rfl (lv_at hl 5 rfl) ?_
          have hF_33 := gk_all hD hS hA
          refine va_calli (va_runV (As := []) (rest := []) ⟨hx, hb, hml, hown, hts⟩ (kX3_thrown l D cyI cyZ cyL cyV cyJ x0 x1 x2 x3 x4 x5 x6 x7 x8 x9 x10 x11 x12 x13 x14 gr sh rt ce nl nv am nc cd u_30 bud fsd las isB mto maw lno dya amo rfd ord cpa eli usd ((o, .inl (cyJ, 1, .inr (.inl u_29.1))) :: u_29.2)  H.size _ rfl) (cwV 0 hts gL_law_X3_thrown rfl rfl rfl (by decide +kernel) ⟨(Nat.le_of_ble_eq_true rfl), (Nat.le_of_ble_eq_true rfl)⟩) (gk_preV hP hK hD (va_recv hK hP (ci := 3) (q0 := 0) rfl rfl)) rfl rfl hl.1 rfl (lv_room (Nat.le_of_ble_eq_true rfl)) dL_law_507 ⟨(by show _ ≤ (601024 : Nat); omega), (by show _ ≤ (7293034 : Nat); omega)⟩) hS (fun q _ h => hF_33 q h) hF_33 (fun r_33 u_33 t_33 H locs ht_33 hvm_33 hw_33 hB_33 hz_33 hk_33 hS => ?_)
          obtain ⟨hP, hD⟩ := gk_back hF_33 hB_33 ht_33
          subst hw_33
          refine lv_iload hx hb dL_law_510 (lv_at hl 1 rfl) ?_
          refine lv_icmp_eq (tgt := 517) hx hb dL_law_512 (by decide) (fun _ => ?_) (fun c9 => absurd (hth.trans hLk.symm) c9)
          refine lv_iload hx hb dL_law_517 (lv_at hl 1 rfl) ?_
          refine lv_if_ne (tgt := 534) hx hb dL_law_519 (by decide) (fun _ => ?_) (fun c9 => absurd (hLk.symm.trans c9) hcd)
          refine lv_goto (tgt := 1335) hx hb dL_law_534 (by decide) ?_
          refine lv_iinc (v := (nI (5 * (j + 1)))) (lv' := [(4, .int (nI (5 * (j + 1)))), (6, .int r_30), (5, .int r_29), (0, .ref b), (1, .ref g), (2, .ref x0), (3, .ref o)]) hx hb dL_law_1335 hl (k := 2) rfl (by show nI (5 * j) + 5 = nI (5 * (j + 1)); exact nI_add (5 * j) 5) (by decide) rfl (fun ls hl => ?_)
          refine lv_goto (tgt := 23) hx hb dL_law_1338 (by decide) ?_
          refine W.widen (k := 20 + 5 * (j + 1)) (n := 914 + 30 * (j + 1)) (by omega) (by omega) ?_
          exact ih (j + 1) _ _ _ _ _ _ _ _ _ _ _ _ _ _ _ _ _ _ _ _ _ _ _ _ _ _ _ _ _ _ _ (by omega) (by omega) hG9 hP hD hS (lv_sub hl [0, 3, 4, 5, 6] rfl)
      · rw [hsw]
        refine lv_tableIn (off := 498) (tgt := 537) hx hb dL_law_39 (by decide) (by decide) rfl (by decide) ?_
        refine lv_aload_n hx hb dL_law_537 rfl (lv_at hl 2 rfl) ?_
        refine lv_aload_n hx hb dL_law_538 rfl (lv_at hl 1 rfl) ?_
        refine lv_iload hx hb dL_law_539 (lv_at hl 0 rfl) ?_
        refine lv_iconst (v := 1) hx hb dL_law_541 (by decide) ?_
        refine lv_iadd hx hb dL_law_542 ?_
        rw [show nI (5 * j) + 1 = nI (5 * j + 1) from nI_add (5 * j) 1]
        refine gk_sld (i := (5 * j + 1)) hx hb hX hbl hbA hS (by omega) hL dL_law_543 ?_
        refine lv_aload_n hx hb dL_law_544 rfl (lv_at hl 4 rfl) ?_
        have hF_34 := gk_all hD hS hA
        refine va_calli (vx_runSW (As := [.ref g, .int (xs (5 * j + 1)), .ref o]) (rest := []) ⟨hx, hb, hml, hown, hts⟩ (kL_left l hst D cyI cyZ cyL cyV cyJ gr sh rt ce nl nv am nc cd bud fsd las isB mto maw lno dya amo rfd ord cpa lnf orf g o (x0, .inr (3, [.int gr, .int sh, .int rt, .int ce, .int (nI nl), .ref x1, .ref x2, .ref x3, .ref x4, .ref x5, .ref x6, .int (nI nv), .ref x7, .ref x8, .ref x9, .ref x10, .ref x11, .int am, .int (nI nc), .int cd, .ref x12, .int th, .ref x13, .ref x14])) (x1, .inl (cyI, 12, .inl bud)) (x2, .inl (cyI, 12, .inl fsd)) (x3, .inl (cyI, 12, .inl las)) (x4, .inl (cyZ, 12, .inl isB)) (x5, .inl (cyI, 12, .inl mto)) (x6, .inl (cyI, 12, .inl maw)) (x7, .inl (cyI, 100, .inl lno)) (x8, .inl (cyI, 100, .inl dya)) (x9, .inl (cyI, 100, .inl amo)) (x10, .inl (cyZ, 100, .inl rfd)) (x11, .inl (cyI, 100, .inl ord)) (x12, .inl (cyI, 40, .inl cpa)) (x13, .inl (cyI, 100, .inl eli)) (x14, .inl (cyI, 12, .inl usd)) fo G hG (xs (5 * j + 1)) H.size _ rfl) (vx_cwSW 3 hts gL_law_L_left rfl rfl rfl (by decide +kernel) ⟨(Nat.le_of_ble_eq_true rfl), (Nat.le_of_ble_eq_true rfl)⟩) (gk_preSN hNC hTF hS hF_34 hP hK hD) rfl rfl hl.1 rfl (lv_room (Nat.le_of_ble_eq_true rfl)) dL_law_545 ⟨(by show _ ≤ (601024 : Nat); omega), (by show _ ≤ (7293034 : Nat); omega)⟩) hS (fun q _ h => hF_34 q h) hF_34 (fun r_34 u_34 t_34 H locs ht_34 hvm_34 hw_34 hB_34 hz_34 hk_34 hS => ?_)
        obtain ⟨hP, hD⟩ := gk_back hF_34 hB_34 ht_34
        refine lv_istore (lv' := [(5, .int r_34), (4, .int (nI (5 * j))), (0, .ref b), (1, .ref g), (2, .ref x0), (3, .ref o)]) hx hb dL_law_548 hl (by decide) rfl (fun ls hl => ?_)
        refine lv_aload_n hx hb dL_law_550 rfl (lv_at hl 4 rfl) ?_
        refine lv_aload_n hx hb dL_law_551 rfl (lv_at hl 2 rfl) ?_
        refine lv_iload hx hb dL_law_552 (lv_at hl 1 rfl) ?_
        refine lv_iconst (v := 1) hx hb dL_law_554 (by decide) ?_
        refine lv_iadd hx hb dL_law_555 ?_
        rw [show nI (5 * j) + 1 = nI (5 * j + 1) from nI_add (5 * j) 1]
        refine gk_sld (i := (5 * j + 1)) hx hb hX hbl hbA hS (by omega) hL dL_law_556 ?_
        have hF_35 := gk_all hD hS hA
        refine va_calli (va_runV (As := [.int (xs (5 * j + 1))]) (rest := []) ⟨hx, hb, hml, hown, hts⟩ (kX3_left l D cyI cyZ cyL cyV cyJ x0 x1 x2 x3 x4 x5 x6 x7 x8 x9 x10 x11 x12 x13 x14 gr sh rt ce nl nv am nc cd th bud fsd las isB mto maw lno dya amo rfd ord cpa eli usd ((o, .inl (cyJ, 1, .inr (.inl u_34.1))) :: u_34.2) hM.1.1 hM.1.2.1 lnf hM.2.1 orf hM.2.2.1 hM.2.2.2.1 (xs (5 * j + 1)) H.size _ rfl) (cwV 1 hts gL_law_X3_left rfl rfl rfl (by decide +kernel) ⟨(Nat.le_of_ble_eq_true rfl), (Nat.le_of_ble_eq_true rfl)⟩) (gk_preV hP hK hD (va_recv hK hP (ci := 3) (q0 := 0) rfl rfl)) rfl rfl hl.1 rfl (lv_room (Nat.le_of_ble_eq_true rfl)) dL_law_557 ⟨(by show _ ≤ (601024 : Nat); omega), (by show _ ≤ (7293034 : Nat); omega)⟩) hS (fun q _ h => hF_35 q h) hF_35 (fun r_35 u_35 t_35 H locs ht_35 hvm_35 hw_35 hB_35 hz_35 hk_35 hS => ?_)
        obtain ⟨hP, hD⟩ := gk_back hF_35 hB_35 ht_35
        obtain ⟨th9, eli9, usd9⟩ := u_35
        obtain ⟨hth, hsu9, hol9⟩ := hw_35
        obtain ⟨hLk, hLs, hLo⟩ := hw_34
        by_cases hcd : cNum nl (xs (5 * j + 1)) = 0
        · have hk0 : r_34 = 0 := hLk.trans hcd
          obtain ⟨hout, hG9⟩ := hLs hcd
          have hr9 := hsu9 hcd
          subst hk0
          have hP : va_P D vwCl ((x0, .inr (3, [.int gr, .int sh, .int rt, .int ce, .int (nI nl), .ref x1, .ref x2, .ref x3, .ref x4, .ref x5, .ref x6, .int (nI nv), .ref x7, .ref x8, .ref x9, .ref x10, .ref x11, .int am, .int (nI nc), .int cd, .ref x12, .int th9, .ref x13, .ref x14])) :: (x1, .inl (cyI, 12, .inl bud)) :: (x2, .inl (cyI, 12, .inl fsd)) :: (x3, .inl (cyI, 12, .inl las)) :: (x4, .inl (cyZ, 12, .inl isB)) :: (x5, .inl (cyI, 12, .inl mto)) :: (x6, .inl (cyI, 12, .inl maw)) :: (x7, .inl (cyI, 100, .inl lno)) :: (x8, .inl (cyI, 100, .inl dya)) :: (x9, .inl (cyI, 100, .inl amo)) :: (x10, .inl (cyZ, 100, .inl rfd)) :: (x11, .inl (cyI, 100, .inl ord)) :: (x12, .inl (cyI, 40, .inl cpa)) :: (x13, .inl (cyI, 100, .inl eli9)) :: (x14, .inl (cyI, 12, .inl usd9)) :: (o, .inl (cyJ, 1, .inr (.inl u_34.1))) :: u_34.2) H := hP
          have hD : va_D A ((x0, .inr (3, [.int gr, .int sh, .int rt, .int ce, .int (nI nl), .ref x1, .ref x2, .ref x3, .ref x4, .ref x5, .ref x6, .int (nI nv), .ref x7, .ref x8, .ref x9, .ref x10, .ref x11, .int am, .int (nI nc), .int cd, .ref x12, .int th9, .ref x13, .ref x14])) :: (x1, .inl (cyI, 12, .inl bud)) :: (x2, .inl (cyI, 12, .inl fsd)) :: (x3, .inl (cyI, 12, .inl las)) :: (x4, .inl (cyZ, 12, .inl isB)) :: (x5, .inl (cyI, 12, .inl mto)) :: (x6, .inl (cyI, 12, .inl maw)) :: (x7, .inl (cyI, 100, .inl lno)) :: (x8, .inl (cyI, 100, .inl dya)) :: (x9, .inl (cyI, 100, .inl amo)) :: (x10, .inl (cyZ, 100, .inl rfd)) :: (x11, .inl (cyI, 100, .inl ord)) :: (x12, .inl (cyI, 40, .inl cpa)) :: (x13, .inl (cyI, 100, .inl eli9)) :: (x14, .inl (cyI, 12, .inl usd9)) :: (o, .inl (cyJ, 1, .inr (.inl u_34.1))) :: u_34.2) := hD
          refine lv_istore (lv' := [(6, .int r_35), (5, .int 0), (4, .int (nI (5 * j))), (0, .ref b), (1, .ref g), (2, .ref x0), (3, .ref o)]) hx hb dL_law_560 hl (by decide) rfl (fun ls hl => ?_)
          refine lv_aload_n hx hb dL_law_562 rfl (lv_at hl 5 rfl) ?_
          have hF_36 := gk_all hD hS hA
          refine va_calli (va_runV (As := []) (rest := []) ⟨hx, hb, hml, hown, hts⟩ (kX3_thrown l D cyI cyZ cyL cyV cyJ x0 x1 x2 x3 x4 x5 x6 x7 x8 x9 x10 x11 x12 x13 x14 gr sh rt ce nl nv am nc cd th9 bud fsd las isB mto maw lno dya amo rfd ord cpa eli9 usd9 ((o, .inl (cyJ, 1, .inr (.inl u_34.1))) :: u_34.2)  H.size _ rfl) (cwV 0 hts gL_law_X3_thrown rfl rfl rfl (by decide +kernel) ⟨(Nat.le_of_ble_eq_true rfl), (Nat.le_of_ble_eq_true rfl)⟩) (gk_preV hP hK hD (va_recv hK hP (ci := 3) (q0 := 0) rfl rfl)) rfl rfl hl.1 rfl (lv_room (Nat.le_of_ble_eq_true rfl)) dL_law_563 ⟨(by show _ ≤ (601024 : Nat); omega), (by show _ ≤ (7293034 : Nat); omega)⟩) hS (fun q _ h => hF_36 q h) hF_36 (fun r_36 u_36 t_36 H locs ht_36 hvm_36 hw_36 hB_36 hz_36 hk_36 hS => ?_)
          obtain ⟨hP, hD⟩ := gk_back hF_36 hB_36 ht_36
          subst hw_36
          refine lv_iload hx hb dL_law_566 (lv_at hl 1 rfl) ?_
          refine lv_icmp_eq (tgt := 573) hx hb dL_law_568 (by decide) (fun _ => ?_) (fun c9 => absurd (hth.trans hLk.symm) c9)
          refine lv_iload hx hb dL_law_573 (lv_at hl 1 rfl) ?_
          refine lv_if_ne (tgt := 590) hx hb dL_law_575 (by decide) (fun c => by first | exact absurd c (by decide) | exact absurd (by decide) c) (fun _ => ?_)
          refine lv_aload_n hx hb dL_law_578 rfl (lv_at hl 6 rfl) ?_
          refine lv_iconst (v := 0) hx hb dL_law_579 (by decide) ?_
          refine va_lald hx hb hK hP 15 4 rfl rfl (i := 0) (show ¬ ((0 : Int32) < 0 ∨ 1 ≤ (0 : Int32).toNatClampNeg) by decide) dL_law_580 ?_
          refine lv_iload hx hb dL_law_581 (lv_at hl 0 rfl) ?_
          refine lv_i2l hx hb dL_law_583 rfl ?_
          refine W.lcmp hx hb dL_law_584 ?_
          refine lv_if_eq (tgt := 590) hx hb dL_law_585 (by decide) (fun _ => ?_) (fun c9 => absurd ((lg_cmp_eq _ _).mpr (show u_34.1 0 = r_35.toInt64 by rw [hout, hr9])) c9)
          refine lv_goto (tgt := 1335) hx hb dL_law_590 (by decide) ?_
          refine lv_iinc (v := (nI (5 * (j + 1)))) (lv' := [(4, .int (nI (5 * (j + 1)))), (6, .int r_35), (5, .int 0), (0, .ref b), (1, .ref g), (2, .ref x0), (3, .ref o)]) hx hb dL_law_1335 hl (k := 2) rfl (by show nI (5 * j) + 5 = nI (5 * (j + 1)); exact nI_add (5 * j) 5) (by decide) rfl (fun ls hl => ?_)
          refine lv_goto (tgt := 23) hx hb dL_law_1338 (by decide) ?_
          refine W.widen (k := 20 + 5 * (j + 1)) (n := 914 + 30 * (j + 1)) (by omega) (by omega) ?_
          exact ih (j + 1) _ _ _ _ _ _ _ _ _ _ _ _ _ _ _ _ _ _ _ _ _ _ _ _ _ _ _ _ _ _ _ (by omega) (by omega) hG9 hP hD hS (lv_sub hl [0, 3, 4, 5, 6] rfl)
        · have hG9 := hLo hcd
          have hu9 := hol9 hcd
          have hP : va_P D vwCl ((x0, .inr (3, [.int gr, .int sh, .int rt, .int ce, .int (nI nl), .ref x1, .ref x2, .ref x3, .ref x4, .ref x5, .ref x6, .int (nI nv), .ref x7, .ref x8, .ref x9, .ref x10, .ref x11, .int am, .int (nI nc), .int cd, .ref x12, .int th9, .ref x13, .ref x14])) :: (x1, .inl (cyI, 12, .inl bud)) :: (x2, .inl (cyI, 12, .inl fsd)) :: (x3, .inl (cyI, 12, .inl las)) :: (x4, .inl (cyZ, 12, .inl isB)) :: (x5, .inl (cyI, 12, .inl mto)) :: (x6, .inl (cyI, 12, .inl maw)) :: (x7, .inl (cyI, 100, .inl lno)) :: (x8, .inl (cyI, 100, .inl dya)) :: (x9, .inl (cyI, 100, .inl amo)) :: (x10, .inl (cyZ, 100, .inl rfd)) :: (x11, .inl (cyI, 100, .inl ord)) :: (x12, .inl (cyI, 40, .inl cpa)) :: (x13, .inl (cyI, 100, .inl eli9)) :: (x14, .inl (cyI, 12, .inl usd9)) :: (o, .inl (cyJ, 1, .inr (.inl u_34.1))) :: u_34.2) H := hP
          have hD : va_D A ((x0, .inr (3, [.int gr, .int sh, .int rt, .int ce, .int (nI nl), .ref x1, .ref x2, .ref x3, .ref x4, .ref x5, .ref x6, .int (nI nv), .ref x7, .ref x8, .ref x9, .ref x10, .ref x11, .int am, .int (nI nc), .int cd, .ref x12, .int th9, .ref x13, .ref x14])) :: (x1, .inl (cyI, 12, .inl bud)) :: (x2, .inl (cyI, 12, .inl fsd)) :: (x3, .inl (cyI, 12, .inl las)) :: (x4, .inl (cyZ, 12, .inl isB)) :: (x5, .inl (cyI, 12, .inl mto)) :: (x6, .inl (cyI, 12, .inl maw)) :: (x7, .inl (cyI, 100, .inl lno)) :: (x8, .inl (cyI, 100, .inl dya)) :: (x9, .inl (cyI, 100, .inl amo)) :: (x10, .inl (cyZ, 100, .inl rfd)) :: (x11, .inl (cyI, 100, .inl ord)) :: (x12, .inl (cyI, 40, .inl cpa)) :: (x13, .inl (cyI, 100, .inl eli9)) :: (x14, .inl (cyI, 12, .inl usd9)) :: (o, .inl (cyJ, 1, .inr (.inl u_34.1))) :: u_34.2) := hD
          refine lv_istore (lv' := [(6, .int r_35), (5, .int r_34), (4, .int (nI (5 * j))), (0, .ref b), (1, .ref g), (2, .ref x0), (3, .ref o)]) hx hb dL_law_560 hl (by decide) rfl (fun ls hl => ?_)
          refine lv_aload_n hx hb dL_law_562 rfl (lv_at hl 5 rfl) ?_
          have hF_38 := gk_all hD hS hA
          refine va_calli (va_runV (As := []) (rest := []) ⟨hx, hb, hml, hown, hts⟩ (kX3_thrown l D cyI cyZ cyL cyV cyJ x0 x1 x2 x3 x4 x5 x6 x7 x8 x9 x10 x11 x12 x13 x14 gr sh rt ce nl nv am nc cd th9 bud fsd las isB mto maw lno dya amo rfd ord cpa eli9 usd9 ((o, .inl (cyJ, 1, .inr (.inl u_34.1))) :: u_34.2)  H.size _ rfl) (cwV 0 hts gL_law_X3_thrown rfl rfl rfl (by decide +kernel) ⟨(Nat.le_of_ble_eq_true rfl), (Nat.le_of_ble_eq_true rfl)⟩) (gk_preV hP hK hD (va_recv hK hP (ci := 3) (q0 := 0) rfl rfl)) rfl rfl hl.1 rfl (lv_room (Nat.le_of_ble_eq_true rfl)) dL_law_563 ⟨(by show _ ≤ (601024 : Nat); omega), (by show _ ≤ (7293034 : Nat); omega)⟩) hS (fun q _ h => hF_38 q h) hF_38 (fun r_38 u_38 t_38 H locs ht_38 hvm_38 hw_38 hB_38 hz_38 hk_38 hS => ?_)
          obtain ⟨hP, hD⟩ := gk_back hF_38 hB_38 ht_38
          subst hw_38
          refine lv_iload hx hb dL_law_566 (lv_at hl 1 rfl) ?_
          refine lv_icmp_eq (tgt := 573) hx hb dL_law_568 (by decide) (fun _ => ?_) (fun c9 => absurd (hth.trans hLk.symm) c9)
          refine lv_iload hx hb dL_law_573 (lv_at hl 1 rfl) ?_
          refine lv_if_ne (tgt := 590) hx hb dL_law_575 (by decide) (fun _ => ?_) (fun c9 => absurd (hLk.symm.trans c9) hcd)
          refine lv_goto (tgt := 1335) hx hb dL_law_590 (by decide) ?_
          refine lv_iinc (v := (nI (5 * (j + 1)))) (lv' := [(4, .int (nI (5 * (j + 1)))), (6, .int r_35), (5, .int r_34), (0, .ref b), (1, .ref g), (2, .ref x0), (3, .ref o)]) hx hb dL_law_1335 hl (k := 2) rfl (by show nI (5 * j) + 5 = nI (5 * (j + 1)); exact nI_add (5 * j) 5) (by decide) rfl (fun ls hl => ?_)
          refine lv_goto (tgt := 23) hx hb dL_law_1338 (by decide) ?_
          refine W.widen (k := 20 + 5 * (j + 1)) (n := 914 + 30 * (j + 1)) (by omega) (by omega) ?_
          exact ih (j + 1) _ _ _ _ _ _ _ _ _ _ _ _ _ _ _ _ _ _ _ _ _ _ _ _ _ _ _ _ _ _ _ (by omega) (by omega) hG9 hP hD hS (lv_sub hl [0, 3, 4, 5, 6] rfl)
      · rw [hsw]
        refine lv_tableIn (off := 554) (tgt := 593) hx hb dL_law_39 (by decide) (by decide) rfl (by decide) ?_
        refine lv_aload_n hx hb dL_law_593 rfl (lv_at hl 2 rfl) ?_
        refine lv_aload_n hx hb dL_law_594 rfl (lv_at hl 1 rfl) ?_
        refine lv_iload hx hb dL_law_595 (lv_at hl 0 rfl) ?_
        refine lv_iconst (v := 1) hx hb dL_law_597 (by decide) ?_
        refine lv_iadd hx hb dL_law_598 ?_
        rw [show nI (5 * j) + 1 = nI (5 * j + 1) from nI_add (5 * j) 1]
        refine gk_sld (i := (5 * j + 1)) hx hb hX hbl hbA hS (by omega) hL dL_law_599 ?_
        refine lv_aload_n hx hb dL_law_600 rfl (lv_at hl 1 rfl) ?_
        refine lv_iload hx hb dL_law_601 (lv_at hl 0 rfl) ?_
        refine lv_iconst (v := 2) hx hb dL_law_603 (by decide) ?_
        refine lv_iadd hx hb dL_law_604 ?_
        rw [show nI (5 * j) + 2 = nI (5 * j + 2) from nI_add (5 * j) 2]
        refine gk_sld (i := (5 * j + 2)) hx hb hX hbl hbA hS (by omega) hL dL_law_605 ?_
        refine lv_aload_n hx hb dL_law_606 rfl (lv_at hl 1 rfl) ?_
        refine lv_iload hx hb dL_law_607 (lv_at hl 0 rfl) ?_
        refine lv_iconst (v := 3) hx hb dL_law_609 (by decide) ?_
        refine lv_iadd hx hb dL_law_610 ?_
        rw [show nI (5 * j) + 3 = nI (5 * j + 3) from nI_add (5 * j) 3]
        refine gk_sld (i := (5 * j + 3)) hx hb hX hbl hbA hS (by omega) hL dL_law_611 ?_
        refine lv_aload_n hx hb dL_law_612 rfl (lv_at hl 4 rfl) ?_
        have hF_39 := gk_all hD hS hA
        refine va_calli (vx_runSW (As := [.ref g, .int (xs (5 * j + 1)), .int (xs (5 * j + 2)), .int (xs (5 * j + 3)), .ref o]) (rest := []) ⟨hx, hb, hml, hown, hts⟩ (kL_spend l hst D cyI cyZ cyL cyV cyJ gr sh rt ce nl nv am nc cd bud fsd las isB mto maw lno dya amo rfd ord cpa lnf orf g o (x0, .inr (3, [.int gr, .int sh, .int rt, .int ce, .int (nI nl), .ref x1, .ref x2, .ref x3, .ref x4, .ref x5, .ref x6, .int (nI nv), .ref x7, .ref x8, .ref x9, .ref x10, .ref x11, .int am, .int (nI nc), .int cd, .ref x12, .int th, .ref x13, .ref x14])) (x1, .inl (cyI, 12, .inl bud)) (x2, .inl (cyI, 12, .inl fsd)) (x3, .inl (cyI, 12, .inl las)) (x4, .inl (cyZ, 12, .inl isB)) (x5, .inl (cyI, 12, .inl mto)) (x6, .inl (cyI, 12, .inl maw)) (x7, .inl (cyI, 100, .inl lno)) (x8, .inl (cyI, 100, .inl dya)) (x9, .inl (cyI, 100, .inl amo)) (x10, .inl (cyZ, 100, .inl rfd)) (x11, .inl (cyI, 100, .inl ord)) (x12, .inl (cyI, 40, .inl cpa)) (x13, .inl (cyI, 100, .inl eli)) (x14, .inl (cyI, 12, .inl usd)) fo G hG (xs (5 * j + 1)) (xs (5 * j + 2)) (xs (5 * j + 3)) H.size _ rfl) (vx_cwSW 5 hts gL_law_L_spend rfl rfl rfl (by decide +kernel) ⟨(Nat.le_of_ble_eq_true rfl), (Nat.le_of_ble_eq_true rfl)⟩) (gk_preSN hNC hTF hS hF_39 hP hK hD) rfl rfl hl.1 rfl (lv_room (Nat.le_of_ble_eq_true rfl)) dL_law_613 ⟨(by show _ ≤ (601024 : Nat); omega), (by show _ ≤ (7293034 : Nat); omega)⟩) hS (fun q _ h => hF_39 q h) hF_39 (fun r_39 u_39 t_39 H locs ht_39 hvm_39 hw_39 hB_39 hz_39 hk_39 hS => ?_)
        obtain ⟨hP, hD⟩ := gk_back hF_39 hB_39 ht_39
        refine lv_istore (lv' := [(5, .int r_39), (4, .int (nI (5 * j))), (0, .ref b), (1, .ref g), (2, .ref x0), (3, .ref o)]) hx hb dL_law_616 hl (by decide) rfl (fun ls hl => ?_)
        refine lv_aload_n hx hb dL_law_618 rfl (lv_at hl 4 rfl) ?_
        refine lv_aload_n hx hb dL_law_619 rfl (lv_at hl 2 rfl) ?_
        refine lv_iload hx hb dL_law_620 (lv_at hl 1 rfl) ?_
        refine lv_iconst (v := 1) hx hb dL_law_622 (by decide) ?_
        refine lv_iadd hx hb dL_law_623 ?_
        rw [show nI (5 * j) + 1 = nI (5 * j + 1) from nI_add (5 * j) 1]
        refine gk_sld (i := (5 * j + 1)) hx hb hX hbl hbA hS (by omega) hL dL_law_624 ?_
        refine lv_aload_n hx hb dL_law_625 rfl (lv_at hl 2 rfl) ?_
        refine lv_iload hx hb dL_law_626 (lv_at hl 1 rfl) ?_
        refine lv_iconst (v := 2) hx hb dL_law_628 (by decide) ?_
        refine lv_iadd hx hb dL_law_629 ?_
        rw [show nI (5 * j) + 2 = nI (5 * j + 2) from nI_add (5 * j) 2]
        refine gk_sld (i := (5 * j + 2)) hx hb hX hbl hbA hS (by omega) hL dL_law_630 ?_
        refine lv_aload_n hx hb dL_law_631 rfl (lv_at hl 2 rfl) ?_
        refine lv_iload hx hb dL_law_632 (lv_at hl 1 rfl) ?_
        refine lv_iconst (v := 3) hx hb dL_law_634 (by decide) ?_
        refine lv_iadd hx hb dL_law_635 ?_
        rw [show nI (5 * j) + 3 = nI (5 * j + 3) from nI_add (5 * j) 3]
        refine gk_sld (i := (5 * j + 3)) hx hb hX hbl hbA hS (by omega) hL dL_law_636 ?_
        have hF_40 := gk_all hD hS hA
        refine va_calli (va_runV (As := [.int (xs (5 * j + 1)), .int (xs (5 * j + 2)), .int (xs (5 * j + 3))]) (rest := []) ⟨hx, hb, hml, hown, hts⟩ (kX3_spend l D cyI cyZ cyL cyV cyJ x0 x1 x2 x3 x4 x5 x6 x7 x8 x9 x10 x11 x12 x13 x14 gr sh rt ce nl nv am nc cd th bud fsd las isB mto maw lno dya amo rfd ord cpa eli usd ((o, .inl (cyJ, 1, .inr (.inl u_39.1))) :: u_39.2) hM.1.1 hM.1.2.1 lnf hM.2.1 orf hM.2.2.1 hM.2.2.2.1 (xs (5 * j + 1)) (xs (5 * j + 2)) (xs (5 * j + 3)) H.size _ rfl) (cwV 3 hts gL_law_X3_spend rfl rfl rfl (by decide +kernel) ⟨(Nat.le_of_ble_eq_true rfl), (Nat.le_of_ble_eq_true rfl)⟩) (gk_preV hP hK hD (va_recv hK hP (ci := 3) (q0 := 0) rfl rfl)) rfl rfl hl.1 rfl (lv_room (Nat.le_of_ble_eq_true rfl)) dL_law_637 ⟨(by show _ ≤ (601024 : Nat); omega), (by show _ ≤ (7293034 : Nat); omega)⟩) hS (fun q _ h => hF_40 q h) hF_40 (fun r_40 u_40 t_40 H locs ht_40 hvm_40 hw_40 hB_40 hz_40 hk_40 hS => ?_)
        obtain ⟨hP, hD⟩ := gk_back hF_40 hB_40 ht_40
        obtain ⟨th9, u9⟩ := u_40
        obtain ⟨hth, hsu9, hol9⟩ := hw_40
        obtain ⟨hLk, hLs, hLo⟩ := hw_39
        by_cases hcd : cSpend nl nv (xs (5 * j + 1)) (xs (5 * j + 2)) (xs (5 * j + 3)) = 0
        · have hk0 : r_39 = 0 := hLk.trans hcd
          obtain ⟨hout, hG9⟩ := hLs hcd
          obtain ⟨orf9, hG9⟩ := hG9
          obtain ⟨hr9, hu9⟩ := hsu9 hcd
          dsimp only at hu9
          rw [hu9] at hP hD
          subst hk0
          have hP : va_P D vwCl ((x0, .inr (3, [.int gr, .int sh, .int rt, .int ce, .int (nI nl), .ref x1, .ref x2, .ref x3, .ref x4, .ref x5, .ref x6, .int (nI (nv + 1)), .ref x7, .ref x8, .ref x9, .ref x10, .ref x11, .int am, .int (nI nc), .int cd, .ref x12, .int th9, .ref x13, .ref x14])) :: (x1, .inl (cyI, 12, .inl bud)) :: (x2, .inl (cyI, 12, .inl fsd)) :: (x3, .inl (cyI, 12, .inl las)) :: (x4, .inl (cyZ, 12, .inl isB)) :: (x5, .inl (cyI, 12, .inl mto)) :: (x6, .inl (cyI, 12, .inl maw)) :: (x7, .inl (cyI, 100, .inl (va_up lno nv (xs (5 * j + 1))))) :: (x8, .inl (cyI, 100, .inl (va_up dya nv (xs (5 * j + 2))))) :: (x9, .inl (cyI, 100, .inl (va_up amo nv (xs (5 * j + 3))))) :: (x10, .inl (cyZ, 100, .inl rfd)) :: (x11, .inl (cyI, 100, .inl (gIs nv (va_up dya nv (xs (5 * j + 2))) (xs (5 * j + 2)) nv ord))) :: (x12, .inl (cyI, 40, .inl cpa)) :: (x13, .inl (cyI, 100, .inl eli)) :: (x14, .inl (cyI, 12, .inl usd)) :: (o, .inl (cyJ, 1, .inr (.inl u_39.1))) :: u_39.2) H := hP
          have hD : va_D A ((x0, .inr (3, [.int gr, .int sh, .int rt, .int ce, .int (nI nl), .ref x1, .ref x2, .ref x3, .ref x4, .ref x5, .ref x6, .int (nI (nv + 1)), .ref x7, .ref x8, .ref x9, .ref x10, .ref x11, .int am, .int (nI nc), .int cd, .ref x12, .int th9, .ref x13, .ref x14])) :: (x1, .inl (cyI, 12, .inl bud)) :: (x2, .inl (cyI, 12, .inl fsd)) :: (x3, .inl (cyI, 12, .inl las)) :: (x4, .inl (cyZ, 12, .inl isB)) :: (x5, .inl (cyI, 12, .inl mto)) :: (x6, .inl (cyI, 12, .inl maw)) :: (x7, .inl (cyI, 100, .inl (va_up lno nv (xs (5 * j + 1))))) :: (x8, .inl (cyI, 100, .inl (va_up dya nv (xs (5 * j + 2))))) :: (x9, .inl (cyI, 100, .inl (va_up amo nv (xs (5 * j + 3))))) :: (x10, .inl (cyZ, 100, .inl rfd)) :: (x11, .inl (cyI, 100, .inl (gIs nv (va_up dya nv (xs (5 * j + 2))) (xs (5 * j + 2)) nv ord))) :: (x12, .inl (cyI, 40, .inl cpa)) :: (x13, .inl (cyI, 100, .inl eli)) :: (x14, .inl (cyI, 12, .inl usd)) :: (o, .inl (cyJ, 1, .inr (.inl u_39.1))) :: u_39.2) := hD
          refine lv_istore (lv' := [(6, .int r_40), (5, .int 0), (4, .int (nI (5 * j))), (0, .ref b), (1, .ref g), (2, .ref x0), (3, .ref o)]) hx hb dL_law_640 hl (by decide) rfl (fun ls hl => ?_)
          refine lv_aload_n hx hb dL_law_642 rfl (lv_at hl 5 rfl) ?_
          have hF_41 := gk_all hD hS hA
          refine va_calli (va_runV (As := []) (rest := []) ⟨hx, hb, hml, hown, hts⟩ (kX3_thrown l D cyI cyZ cyL cyV cyJ x0 x1 x2 x3 x4 x5 x6 x7 x8 x9 x10 x11 x12 x13 x14 gr sh rt ce nl (nv + 1) am nc cd th9 bud fsd las isB mto maw (va_up lno nv (xs (5 * j + 1))) (va_up dya nv (xs (5 * j + 2))) (va_up amo nv (xs (5 * j + 3))) rfd (gIs nv (va_up dya nv (xs (5 * j + 2))) (xs (5 * j + 2)) nv ord) cpa eli usd ((o, .inl (cyJ, 1, .inr (.inl u_39.1))) :: u_39.2)  H.size _ rfl) (cwV 0 hts gL_law_X3_thrown rfl rfl rfl (by decide +kernel) ⟨(Nat.le_of_ble_eq_true rfl), (Nat.le_of_ble_eq_true rfl)⟩) (gk_preV hP hK hD (va_recv hK hP (ci := 3) (q0 := 0) rfl rfl)) rfl rfl hl.1 rfl (lv_room (Nat.le_of_ble_eq_true rfl)) dL_law_643 ⟨(by show _ ≤ (601024 : Nat); omega), (by show _ ≤ (7293034 : Nat); omega)⟩) hS (fun q _ h => hF_41 q h) hF_41 (fun r_41 u_41 t_41 H locs ht_41 hvm_41 hw_41 hB_41 hz_41 hk_41 hS => ?_)
          obtain ⟨hP, hD⟩ := gk_back hF_41 hB_41 ht_41
          subst hw_41
          refine lv_iload hx hb dL_law_646 (lv_at hl 1 rfl) ?_
          refine lv_icmp_eq (tgt := 653) hx hb dL_law_648 (by decide) (fun _ => ?_) (fun c9 => absurd (hth.trans hLk.symm) c9)
          refine lv_iload hx hb dL_law_653 (lv_at hl 1 rfl) ?_
          refine lv_if_ne (tgt := 670) hx hb dL_law_655 (by decide) (fun c => by first | exact absurd c (by decide) | exact absurd (by decide) c) (fun _ => ?_)
          refine lv_aload_n hx hb dL_law_658 rfl (lv_at hl 6 rfl) ?_
          refine lv_iconst (v := 0) hx hb dL_law_659 (by decide) ?_
          refine va_lald hx hb hK hP 15 4 rfl rfl (i := 0) (show ¬ ((0 : Int32) < 0 ∨ 1 ≤ (0 : Int32).toNatClampNeg) by decide) dL_law_660 ?_
          refine lv_iload hx hb dL_law_661 (lv_at hl 0 rfl) ?_
          refine lv_i2l hx hb dL_law_663 rfl ?_
          refine W.lcmp hx hb dL_law_664 ?_
          refine lv_if_eq (tgt := 670) hx hb dL_law_665 (by decide) (fun _ => ?_) (fun c9 => absurd ((lg_cmp_eq _ _).mpr (show u_39.1 0 = r_40.toInt64 by rw [hout, hr9])) c9)
          refine lv_goto (tgt := 1335) hx hb dL_law_670 (by decide) ?_
          refine lv_iinc (v := (nI (5 * (j + 1)))) (lv' := [(4, .int (nI (5 * (j + 1)))), (6, .int r_40), (5, .int 0), (0, .ref b), (1, .ref g), (2, .ref x0), (3, .ref o)]) hx hb dL_law_1335 hl (k := 2) rfl (by show nI (5 * j) + 5 = nI (5 * (j + 1)); exact nI_add (5 * j) 5) (by decide) rfl (fun ls hl => ?_)
          refine lv_goto (tgt := 23) hx hb dL_law_1338 (by decide) ?_
          refine W.widen (k := 20 + 5 * (j + 1)) (n := 914 + 30 * (j + 1)) (by omega) (by omega) ?_
          exact ih (j + 1) _ _ _ _ _ _ _ _ _ _ _ _ _ _ _ _ _ _ _ _ _ _ _ _ _ _ _ _ _ _ _ (by omega) (by omega) hG9 hP hD hS (lv_sub hl [0, 3, 4, 5, 6] rfl)
        · have hG9 := hLo hcd
          have hu9 := hol9 hcd
          dsimp only at hu9
          rw [hu9] at hP hD
          have hP : va_P D vwCl ((x0, .inr (3, [.int gr, .int sh, .int rt, .int ce, .int (nI nl), .ref x1, .ref x2, .ref x3, .ref x4, .ref x5, .ref x6, .int (nI nv), .ref x7, .ref x8, .ref x9, .ref x10, .ref x11, .int am, .int (nI nc), .int cd, .ref x12, .int th9, .ref x13, .ref x14])) :: (x1, .inl (cyI, 12, .inl bud)) :: (x2, .inl (cyI, 12, .inl fsd)) :: (x3, .inl (cyI, 12, .inl las)) :: (x4, .inl (cyZ, 12, .inl isB)) :: (x5, .inl (cyI, 12, .inl mto)) :: (x6, .inl (cyI, 12, .inl maw)) :: (x7, .inl (cyI, 100, .inl lno)) :: (x8, .inl (cyI, 100, .inl dya)) :: (x9, .inl (cyI, 100, .inl amo)) :: (x10, .inl (cyZ, 100, .inl rfd)) :: (x11, .inl (cyI, 100, .inl ord)) :: (x12, .inl (cyI, 40, .inl cpa)) :: (x13, .inl (cyI, 100, .inl eli)) :: (x14, .inl (cyI, 12, .inl usd)) :: (o, .inl (cyJ, 1, .inr (.inl u_39.1))) :: u_39.2) H := hP
          have hD : va_D A ((x0, .inr (3, [.int gr, .int sh, .int rt, .int ce, .int (nI nl), .ref x1, .ref x2, .ref x3, .ref x4, .ref x5, .ref x6, .int (nI nv), .ref x7, .ref x8, .ref x9, .ref x10, .ref x11, .int am, .int (nI nc), .int cd, .ref x12, .int th9, .ref x13, .ref x14])) :: (x1, .inl (cyI, 12, .inl bud)) :: (x2, .inl (cyI, 12, .inl fsd)) :: (x3, .inl (cyI, 12, .inl las)) :: (x4, .inl (cyZ, 12, .inl isB)) :: (x5, .inl (cyI, 12, .inl mto)) :: (x6, .inl (cyI, 12, .inl maw)) :: (x7, .inl (cyI, 100, .inl lno)) :: (x8, .inl (cyI, 100, .inl dya)) :: (x9, .inl (cyI, 100, .inl amo)) :: (x10, .inl (cyZ, 100, .inl rfd)) :: (x11, .inl (cyI, 100, .inl ord)) :: (x12, .inl (cyI, 40, .inl cpa)) :: (x13, .inl (cyI, 100, .inl eli)) :: (x14, .inl (cyI, 12, .inl usd)) :: (o, .inl (cyJ, 1, .inr (.inl u_39.1))) :: u_39.2) := hD
          refine lv_istore (lv' := [(6, .int r_40), (5, .int r_39), (4, .int (nI (5 * j))), (0, .ref b), (1, .ref g), (2, .ref x0), (3, .ref o)]) hx hb dL_law_640 hl (by decide) rfl (fun ls hl => ?_)
          refine lv_aload_n hx hb dL_law_642 rfl (lv_at hl 5 rfl) ?_
          have hF_43 := gk_all hD hS hA
          refine va_calli (va_runV (As := []) (rest := []) ⟨hx, hb, hml, hown, hts⟩ (kX3_thrown l D cyI cyZ cyL cyV cyJ x0 x1 x2 x3 x4 x5 x6 x7 x8 x9 x10 x11 x12 x13 x14 gr sh rt ce nl nv am nc cd th9 bud fsd las isB mto maw lno dya amo rfd ord cpa eli usd ((o, .inl (cyJ, 1, .inr (.inl u_39.1))) :: u_39.2)  H.size _ rfl) (cwV 0 hts gL_law_X3_thrown rfl rfl rfl (by decide +kernel) ⟨(Nat.le_of_ble_eq_true rfl), (Nat.le_of_ble_eq_true rfl)⟩) (gk_preV hP hK hD (va_recv hK hP (ci := 3) (q0 := 0) rfl rfl)) rfl rfl hl.1 rfl (lv_room (Nat.le_of_ble_eq_true rfl)) dL_law_643 ⟨(by show _ ≤ (601024 : Nat); omega), (by show _ ≤ (7293034 : Nat); omega)⟩) hS (fun q _ h => hF_43 q h) hF_43 (fun r_43 u_43 t_43 H locs ht_43 hvm_43 hw_43 hB_43 hz_43 hk_43 hS => ?_)
          obtain ⟨hP, hD⟩ := gk_back hF_43 hB_43 ht_43
          subst hw_43
          refine lv_iload hx hb dL_law_646 (lv_at hl 1 rfl) ?_
          refine lv_icmp_eq (tgt := 653) hx hb dL_law_648 (by decide) (fun _ => ?_) (fun c9 => absurd (hth.trans hLk.symm) c9)
          refine lv_iload hx hb dL_law_653 (lv_at hl 1 rfl) ?_
          refine lv_if_ne (tgt := 670) hx hb dL_law_655 (by decide) (fun _ => ?_) (fun c9 => absurd (hLk.symm.trans c9) hcd)
          refine lv_goto (tgt := 1335) hx hb dL_law_670 (by decide) ?_
          refine lv_iinc (v := (nI (5 * (j + 1)))) (lv' := [(4, .int (nI (5 * (j + 1)))), (6, .int r_40), (5, .int r_39), (0, .ref b), (1, .ref g), (2, .ref x0), (3, .ref o)]) hx hb dL_law_1335 hl (k := 2) rfl (by show nI (5 * j) + 5 = nI (5 * (j + 1)); exact nI_add (5 * j) 5) (by decide) rfl (fun ls hl => ?_)
          refine lv_goto (tgt := 23) hx hb dL_law_1338 (by decide) ?_
          refine W.widen (k := 20 + 5 * (j + 1)) (n := 914 + 30 * (j + 1)) (by omega) (by omega) ?_
          exact ih (j + 1) _ _ _ _ _ _ _ _ _ _ _ _ _ _ _ _ _ _ _ _ _ _ _ _ _ _ _ _ _ _ _ (by omega) (by omega) hG9 hP hD hS (lv_sub hl [0, 3, 4, 5, 6] rfl)
      · rw [hsw]
        refine lv_tableIn (off := 634) (tgt := 673) hx hb dL_law_39 (by decide) (by decide) rfl (by decide) ?_
        refine lv_aload_n hx hb dL_law_673 rfl (lv_at hl 2 rfl) ?_
        refine lv_aload_n hx hb dL_law_674 rfl (lv_at hl 1 rfl) ?_
        refine lv_iload hx hb dL_law_675 (lv_at hl 0 rfl) ?_
        refine lv_iconst (v := 1) hx hb dL_law_677 (by decide) ?_
        refine lv_iadd hx hb dL_law_678 ?_
        rw [show nI (5 * j) + 1 = nI (5 * j + 1) from nI_add (5 * j) 1]
        refine gk_sld (i := (5 * j + 1)) hx hb hX hbl hbA hS (by omega) hL dL_law_679 ?_
        refine lv_aload_n hx hb dL_law_680 rfl (lv_at hl 4 rfl) ?_
        have hF_44 := gk_all hD hS hA
        refine va_calli (vx_runSW (As := [.ref g, .int (xs (5 * j + 1)), .ref o]) (rest := []) ⟨hx, hb, hml, hown, hts⟩ (kL_refuse l hst D cyI cyZ cyL cyV cyJ gr sh rt ce nl nv am nc cd bud fsd las isB mto maw lno dya amo rfd ord cpa lnf orf g o (x0, .inr (3, [.int gr, .int sh, .int rt, .int ce, .int (nI nl), .ref x1, .ref x2, .ref x3, .ref x4, .ref x5, .ref x6, .int (nI nv), .ref x7, .ref x8, .ref x9, .ref x10, .ref x11, .int am, .int (nI nc), .int cd, .ref x12, .int th, .ref x13, .ref x14])) (x1, .inl (cyI, 12, .inl bud)) (x2, .inl (cyI, 12, .inl fsd)) (x3, .inl (cyI, 12, .inl las)) (x4, .inl (cyZ, 12, .inl isB)) (x5, .inl (cyI, 12, .inl mto)) (x6, .inl (cyI, 12, .inl maw)) (x7, .inl (cyI, 100, .inl lno)) (x8, .inl (cyI, 100, .inl dya)) (x9, .inl (cyI, 100, .inl amo)) (x10, .inl (cyZ, 100, .inl rfd)) (x11, .inl (cyI, 100, .inl ord)) (x12, .inl (cyI, 40, .inl cpa)) (x13, .inl (cyI, 100, .inl eli)) (x14, .inl (cyI, 12, .inl usd)) fo G hG (xs (5 * j + 1)) H.size _ rfl) (vx_cwSW 3 hts gL_law_L_refuse rfl rfl rfl (by decide +kernel) ⟨(Nat.le_of_ble_eq_true rfl), (Nat.le_of_ble_eq_true rfl)⟩) (gk_preSN hNC hTF hS hF_44 hP hK hD) rfl rfl hl.1 rfl (lv_room (Nat.le_of_ble_eq_true rfl)) dL_law_681 ⟨(by show _ ≤ (601024 : Nat); omega), (by show _ ≤ (7293034 : Nat); omega)⟩) hS (fun q _ h => hF_44 q h) hF_44 (fun r_44 u_44 t_44 H locs ht_44 hvm_44 hw_44 hB_44 hz_44 hk_44 hS => ?_)
        obtain ⟨hP, hD⟩ := gk_back hF_44 hB_44 ht_44
        refine lv_istore (lv' := [(5, .int r_44), (4, .int (nI (5 * j))), (0, .ref b), (1, .ref g), (2, .ref x0), (3, .ref o)]) hx hb dL_law_684 hl (by decide) rfl (fun ls hl => ?_)
        refine lv_aload_n hx hb dL_law_686 rfl (lv_at hl 4 rfl) ?_
        refine lv_aload_n hx hb dL_law_687 rfl (lv_at hl 2 rfl) ?_
        refine lv_iload hx hb dL_law_688 (lv_at hl 1 rfl) ?_
        refine lv_iconst (v := 1) hx hb dL_law_690 (by decide) ?_
        refine lv_iadd hx hb dL_law_691 ?_
        rw [show nI (5 * j) + 1 = nI (5 * j + 1) from nI_add (5 * j) 1]
        refine gk_sld (i := (5 * j + 1)) hx hb hX hbl hbA hS (by omega) hL dL_law_692 ?_
        have hF_45 := gk_all hD hS hA
        refine va_calli (va_runV (As := [.int (xs (5 * j + 1))]) (rest := []) ⟨hx, hb, hml, hown, hts⟩ (kX3_refuse l D cyI cyZ cyL cyV cyJ x0 x1 x2 x3 x4 x5 x6 x7 x8 x9 x10 x11 x12 x13 x14 gr sh rt ce nl nv am nc cd th bud fsd las isB mto maw lno dya amo rfd ord cpa eli usd ((o, .inl (cyJ, 1, .inr (.inl u_44.1))) :: u_44.2) hM.1.1 hM.1.2.1 lnf hM.2.1 orf hM.2.2.1 hM.2.2.2.1 (xs (5 * j + 1)) H.size _ rfl) (cwV 1 hts gL_law_X3_refuse rfl rfl rfl (by decide +kernel) ⟨(Nat.le_of_ble_eq_true rfl), (Nat.le_of_ble_eq_true rfl)⟩) (gk_preV hP hK hD (va_recv hK hP (ci := 3) (q0 := 0) rfl rfl)) rfl rfl hl.1 rfl (lv_room (Nat.le_of_ble_eq_true rfl)) dL_law_693 ⟨(by show _ ≤ (601024 : Nat); omega), (by show _ ≤ (7293034 : Nat); omega)⟩) hS (fun q _ h => hF_45 q h) hF_45 (fun r_45 u_45 t_45 H locs ht_45 hvm_45 hw_45 hB_45 hz_45 hk_45 hS => ?_)
        obtain ⟨hP, hD⟩ := gk_back hF_45 hB_45 ht_45
        obtain ⟨th9, rfd9, eli9, usd9⟩ := u_45
        obtain ⟨hth, hsu9, hol9⟩ := hw_45
        obtain ⟨hLk, hLs, hLo⟩ := hw_44
        by_cases hcd : cMark nv rfd (xs (5 * j + 1)) 1 = 0
        · have hk0 : r_44 = 0 := hLk.trans hcd
          obtain ⟨hout, hG9⟩ := hLs hcd
          obtain ⟨hu9, hr9⟩ := hsu9 hcd
          dsimp only at hu9
          rw [hu9] at hP hD
          subst hk0
          have hP : va_P D vwCl ((x0, .inr (3, [.int gr, .int sh, .int rt, .int ce, .int (nI nl), .ref x1, .ref x2, .ref x3, .ref x4, .ref x5, .ref x6, .int (nI nv), .ref x7, .ref x8, .ref x9, .ref x10, .ref x11, .int am, .int (nI nc), .int cd, .ref x12, .int th9, .ref x13, .ref x14])) :: (x1, .inl (cyI, 12, .inl bud)) :: (x2, .inl (cyI, 12, .inl fsd)) :: (x3, .inl (cyI, 12, .inl las)) :: (x4, .inl (cyZ, 12, .inl isB)) :: (x5, .inl (cyI, 12, .inl mto)) :: (x6, .inl (cyI, 12, .inl maw)) :: (x7, .inl (cyI, 100, .inl lno)) :: (x8, .inl (cyI, 100, .inl dya)) :: (x9, .inl (cyI, 100, .inl amo)) :: (x10, .inl (cyZ, 100, .inl (va_up rfd (gIxn (xs (5 * j + 1))) 1))) :: (x11, .inl (cyI, 100, .inl ord)) :: (x12, .inl (cyI, 40, .inl cpa)) :: (x13, .inl (cyI, 100, .inl eli9)) :: (x14, .inl (cyI, 12, .inl usd9)) :: (o, .inl (cyJ, 1, .inr (.inl u_44.1))) :: u_44.2) H := hP
          have hD : va_D A ((x0, .inr (3, [.int gr, .int sh, .int rt, .int ce, .int (nI nl), .ref x1, .ref x2, .ref x3, .ref x4, .ref x5, .ref x6, .int (nI nv), .ref x7, .ref x8, .ref x9, .ref x10, .ref x11, .int am, .int (nI nc), .int cd, .ref x12, .int th9, .ref x13, .ref x14])) :: (x1, .inl (cyI, 12, .inl bud)) :: (x2, .inl (cyI, 12, .inl fsd)) :: (x3, .inl (cyI, 12, .inl las)) :: (x4, .inl (cyZ, 12, .inl isB)) :: (x5, .inl (cyI, 12, .inl mto)) :: (x6, .inl (cyI, 12, .inl maw)) :: (x7, .inl (cyI, 100, .inl lno)) :: (x8, .inl (cyI, 100, .inl dya)) :: (x9, .inl (cyI, 100, .inl amo)) :: (x10, .inl (cyZ, 100, .inl (va_up rfd (gIxn (xs (5 * j + 1))) 1))) :: (x11, .inl (cyI, 100, .inl ord)) :: (x12, .inl (cyI, 40, .inl cpa)) :: (x13, .inl (cyI, 100, .inl eli9)) :: (x14, .inl (cyI, 12, .inl usd9)) :: (o, .inl (cyJ, 1, .inr (.inl u_44.1))) :: u_44.2) := hD
          refine lv_istore (lv' := [(6, .int r_45), (5, .int 0), (4, .int (nI (5 * j))), (0, .ref b), (1, .ref g), (2, .ref x0), (3, .ref o)]) hx hb dL_law_696 hl (by decide) rfl (fun ls hl => ?_)
          refine lv_aload_n hx hb dL_law_698 rfl (lv_at hl 5 rfl) ?_
          have hF_46 := gk_all hD hS hA
          refine va_calli (va_runV (As := []) (rest := []) ⟨hx, hb, hml, hown, hts⟩ (kX3_thrown l D cyI cyZ cyL cyV cyJ x0 x1 x2 x3 x4 x5 x6 x7 x8 x9 x10 x11 x12 x13 x14 gr sh rt ce nl nv am nc cd th9 bud fsd las isB mto maw lno dya amo (va_up rfd (gIxn (xs (5 * j + 1))) 1) ord cpa eli9 usd9 ((o, .inl (cyJ, 1, .inr (.inl u_44.1))) :: u_44.2)  H.size _ rfl) (cwV 0 hts gL_law_X3_thrown rfl rfl rfl (by decide +kernel) ⟨(Nat.le_of_ble_eq_true rfl), (Nat.le_of_ble_eq_true rfl)⟩) (gk_preV hP hK hD (va_recv hK hP (ci := 3) (q0 := 0) rfl rfl)) rfl rfl hl.1 rfl (lv_room (Nat.le_of_ble_eq_true rfl)) dL_law_699 ⟨(by show _ ≤ (601024 : Nat); omega), (by show _ ≤ (7293034 : Nat); omega)⟩) hS (fun q _ h => hF_46 q h) hF_46 (fun r_46 u_46 t_46 H locs ht_46 hvm_46 hw_46 hB_46 hz_46 hk_46 hS => ?_)
          obtain ⟨hP, hD⟩ := gk_back hF_46 hB_46 ht_46
          subst hw_46
          refine lv_iload hx hb dL_law_702 (lv_at hl 1 rfl) ?_
          refine lv_icmp_eq (tgt := 709) hx hb dL_law_704 (by decide) (fun _ => ?_) (fun c9 => absurd (hth.trans hLk.symm) c9)
          refine lv_iload hx hb dL_law_709 (lv_at hl 1 rfl) ?_
          refine lv_if_ne (tgt := 726) hx hb dL_law_711 (by decide) (fun c => by first | exact absurd c (by decide) | exact absurd (by decide) c) (fun _ => ?_)
          refine lv_aload_n hx hb dL_law_714 rfl (lv_at hl 6 rfl) ?_
          refine lv_iconst (v := 0) hx hb dL_law_715 (by decide) ?_
          refine va_lald hx hb hK hP 15 4 rfl rfl (i := 0) (show ¬ ((0 : Int32) < 0 ∨ 1 ≤ (0 : Int32).toNatClampNeg) by decide) dL_law_716 ?_
          refine lv_iload hx hb dL_law_717 (lv_at hl 0 rfl) ?_
          refine lv_i2l hx hb dL_law_719 rfl ?_
          refine W.lcmp hx hb dL_law_720 ?_
          refine lv_if_eq (tgt := 726) hx hb dL_law_721 (by decide) (fun _ => ?_) (fun c9 => absurd ((lg_cmp_eq _ _).mpr (show u_44.1 0 = r_45.toInt64 by rw [hout, hr9])) c9)
          refine lv_goto (tgt := 1335) hx hb dL_law_726 (by decide) ?_
          refine lv_iinc (v := (nI (5 * (j + 1)))) (lv' := [(4, .int (nI (5 * (j + 1)))), (6, .int r_45), (5, .int 0), (0, .ref b), (1, .ref g), (2, .ref x0), (3, .ref o)]) hx hb dL_law_1335 hl (k := 2) rfl (by show nI (5 * j) + 5 = nI (5 * (j + 1)); exact nI_add (5 * j) 5) (by decide) rfl (fun ls hl => ?_)
          refine lv_goto (tgt := 23) hx hb dL_law_1338 (by decide) ?_
          refine W.widen (k := 20 + 5 * (j + 1)) (n := 914 + 30 * (j + 1)) (by omega) (by omega) ?_
          exact ih (j + 1) _ _ _ _ _ _ _ _ _ _ _ _ _ _ _ _ _ _ _ _ _ _ _ _ _ _ _ _ _ _ _ (by omega) (by omega) hG9 hP hD hS (lv_sub hl [0, 3, 4, 5, 6] rfl)
        · have hG9 := hLo hcd
          have hu9 := hol9 hcd
          dsimp only at hu9
          rw [hu9] at hP hD
          have hP : va_P D vwCl ((x0, .inr (3, [.int gr, .int sh, .int rt, .int ce, .int (nI nl), .ref x1, .ref x2, .ref x3, .ref x4, .ref x5, .ref x6, .int (nI nv), .ref x7, .ref x8, .ref x9, .ref x10, .ref x11, .int am, .int (nI nc), .int cd, .ref x12, .int th9, .ref x13, .ref x14])) :: (x1, .inl (cyI, 12, .inl bud)) :: (x2, .inl (cyI, 12, .inl fsd)) :: (x3, .inl (cyI, 12, .inl las)) :: (x4, .inl (cyZ, 12, .inl isB)) :: (x5, .inl (cyI, 12, .inl mto)) :: (x6, .inl (cyI, 12, .inl maw)) :: (x7, .inl (cyI, 100, .inl lno)) :: (x8, .inl (cyI, 100, .inl dya)) :: (x9, .inl (cyI, 100, .inl amo)) :: (x10, .inl (cyZ, 100, .inl rfd)) :: (x11, .inl (cyI, 100, .inl ord)) :: (x12, .inl (cyI, 40, .inl cpa)) :: (x13, .inl (cyI, 100, .inl eli9)) :: (x14, .inl (cyI, 12, .inl usd9)) :: (o, .inl (cyJ, 1, .inr (.inl u_44.1))) :: u_44.2) H := hP
          have hD : va_D A ((x0, .inr (3, [.int gr, .int sh, .int rt, .int ce, .int (nI nl), .ref x1, .ref x2, .ref x3, .ref x4, .ref x5, .ref x6, .int (nI nv), .ref x7, .ref x8, .ref x9, .ref x10, .ref x11, .int am, .int (nI nc), .int cd, .ref x12, .int th9, .ref x13, .ref x14])) :: (x1, .inl (cyI, 12, .inl bud)) :: (x2, .inl (cyI, 12, .inl fsd)) :: (x3, .inl (cyI, 12, .inl las)) :: (x4, .inl (cyZ, 12, .inl isB)) :: (x5, .inl (cyI, 12, .inl mto)) :: (x6, .inl (cyI, 12, .inl maw)) :: (x7, .inl (cyI, 100, .inl lno)) :: (x8, .inl (cyI, 100, .inl dya)) :: (x9, .inl (cyI, 100, .inl amo)) :: (x10, .inl (cyZ, 100, .inl rfd)) :: (x11, .inl (cyI, 100, .inl ord)) :: (x12, .inl (cyI, 40, .inl cpa)) :: (x13, .inl (cyI, 100, .inl eli9)) :: (x14, .inl (cyI, 12, .inl usd9)) :: (o, .inl (cyJ, 1, .inr (.inl u_44.1))) :: u_44.2) := hD
          refine lv_istore (lv' := [(6, .int r_45), (5, .int r_44), (4, .int (nI (5 * j))), (0, .ref b), (1, .ref g), (2, .ref x0), (3, .ref o)]) hx hb dL_law_696 hl (by decide) rfl (fun ls hl => ?_)
          refine lv_aload_n hx hb dL_law_698 rfl (lv_at hl 5 rfl) ?_
          have hF_48 := gk_all hD hS hA
          refine va_calli (va_runV (As := []) (rest := []) ⟨hx, hb, hml, hown, hts⟩ (kX3_thrown l D cyI cyZ cyL cyV cyJ x0 x1 x2 x3 x4 x5 x6 x7 x8 x9 x10 x11 x12 x13 x14 gr sh rt ce nl nv am nc cd th9 bud fsd las isB mto maw lno dya amo rfd ord cpa eli9 usd9 ((o, .inl (cyJ, 1, .inr (.inl u_44.1))) :: u_44.2)  H.size _ rfl) (cwV 0 hts gL_law_X3_thrown rfl rfl rfl (by decide +kernel) ⟨(Nat.le_of_ble_eq_true rfl), (Nat.le_of_ble_eq_true rfl)⟩) (gk_preV hP hK hD (va_recv hK hP (ci := 3) (q0 := 0) rfl rfl)) rfl rfl hl.1 rfl (lv_room (Nat.le_of_ble_eq_true rfl)) dL_law_699 ⟨(by show _ ≤ (601024 : Nat); omega), (by show _ ≤ (7293034 : Nat); omega)⟩) hS (fun q _ h => hF_48 q h) hF_48 (fun r_48 u_48 t_48 H locs ht_48 hvm_48 hw_48 hB_48 hz_48 hk_48 hS => ?_)
          obtain ⟨hP, hD⟩ := gk_back hF_48 hB_48 ht_48
          subst hw_48
          refine lv_iload hx hb dL_law_702 (lv_at hl 1 rfl) ?_
          refine lv_icmp_eq (tgt := 709) hx hb dL_law_704 (by decide) (fun _ => ?_) (fun c9 => absurd (hth.trans hLk.symm) c9)
          refine lv_iload hx hb dL_law_709 (lv_at hl 1 rfl) ?_
          refine lv_if_ne (tgt := 726) hx hb dL_law_711 (by decide) (fun _ => ?_) (fun c9 => absurd (hLk.symm.trans c9) hcd)
          refine lv_goto (tgt := 1335) hx hb dL_law_726 (by decide) ?_
          refine lv_iinc (v := (nI (5 * (j + 1)))) (lv' := [(4, .int (nI (5 * (j + 1)))), (6, .int r_45), (5, .int r_44), (0, .ref b), (1, .ref g), (2, .ref x0), (3, .ref o)]) hx hb dL_law_1335 hl (k := 2) rfl (by show nI (5 * j) + 5 = nI (5 * (j + 1)); exact nI_add (5 * j) 5) (by decide) rfl (fun ls hl => ?_)
          refine lv_goto (tgt := 23) hx hb dL_law_1338 (by decide) ?_
          refine W.widen (k := 20 + 5 * (j + 1)) (n := 914 + 30 * (j + 1)) (by omega) (by omega) ?_
          exact ih (j + 1) _ _ _ _ _ _ _ _ _ _ _ _ _ _ _ _ _ _ _ _ _ _ _ _ _ _ _ _ _ _ _ (by omega) (by omega) hG9 hP hD hS (lv_sub hl [0, 3, 4, 5, 6] rfl)
      · rw [hsw]
        refine lv_tableIn (off := 690) (tgt := 729) hx hb dL_law_39 (by decide) (by decide) rfl (by decide) ?_
        refine lv_aload_n hx hb dL_law_729 rfl (lv_at hl 2 rfl) ?_
        refine lv_aload_n hx hb dL_law_730 rfl (lv_at hl 1 rfl) ?_
        refine lv_iload hx hb dL_law_731 (lv_at hl 0 rfl) ?_
        refine lv_iconst (v := 1) hx hb dL_law_733 (by decide) ?_
        refine lv_iadd hx hb dL_law_734 ?_
        rw [show nI (5 * j) + 1 = nI (5 * j + 1) from nI_add (5 * j) 1]
        refine gk_sld (i := (5 * j + 1)) hx hb hX hbl hbA hS (by omega) hL dL_law_735 ?_
        refine lv_aload_n hx hb dL_law_736 rfl (lv_at hl 4 rfl) ?_
        have hF_49 := gk_all hD hS hA
        refine va_calli (vx_runSW (As := [.ref g, .int (xs (5 * j + 1)), .ref o]) (rest := []) ⟨hx, hb, hml, hown, hts⟩ (kL_admit l hst D cyI cyZ cyL cyV cyJ gr sh rt ce nl nv am nc cd bud fsd las isB mto maw lno dya amo rfd ord cpa lnf orf g o (x0, .inr (3, [.int gr, .int sh, .int rt, .int ce, .int (nI nl), .ref x1, .ref x2, .ref x3, .ref x4, .ref x5, .ref x6, .int (nI nv), .ref x7, .ref x8, .ref x9, .ref x10, .ref x11, .int am, .int (nI nc), .int cd, .ref x12, .int th, .ref x13, .ref x14])) (x1, .inl (cyI, 12, .inl bud)) (x2, .inl (cyI, 12, .inl fsd)) (x3, .inl (cyI, 12, .inl las)) (x4, .inl (cyZ, 12, .inl isB)) (x5, .inl (cyI, 12, .inl mto)) (x6, .inl (cyI, 12, .inl maw)) (x7, .inl (cyI, 100, .inl lno)) (x8, .inl (cyI, 100, .inl dya)) (x9, .inl (cyI, 100, .inl amo)) (x10, .inl (cyZ, 100, .inl rfd)) (x11, .inl (cyI, 100, .inl ord)) (x12, .inl (cyI, 40, .inl cpa)) (x13, .inl (cyI, 100, .inl eli)) (x14, .inl (cyI, 12, .inl usd)) fo G hG (xs (5 * j + 1)) H.size _ rfl) (vx_cwSW 3 hts gL_law_L_admit rfl rfl rfl (by decide +kernel) ⟨(Nat.le_of_ble_eq_true rfl), (Nat.le_of_ble_eq_true rfl)⟩) (gk_preSN hNC hTF hS hF_49 hP hK hD) rfl rfl hl.1 rfl (lv_room (Nat.le_of_ble_eq_true rfl)) dL_law_737 ⟨(by show _ ≤ (601024 : Nat); omega), (by show _ ≤ (7293034 : Nat); omega)⟩) hS (fun q _ h => hF_49 q h) hF_49 (fun r_49 u_49 t_49 H locs ht_49 hvm_49 hw_49 hB_49 hz_49 hk_49 hS => ?_)
        obtain ⟨hP, hD⟩ := gk_back hF_49 hB_49 ht_49
        refine lv_istore (lv' := [(5, .int r_49), (4, .int (nI (5 * j))), (0, .ref b), (1, .ref g), (2, .ref x0), (3, .ref o)]) hx hb dL_law_740 hl (by decide) rfl (fun ls hl => ?_)
        refine lv_aload_n hx hb dL_law_742 rfl (lv_at hl 4 rfl) ?_
        refine lv_aload_n hx hb dL_law_743 rfl (lv_at hl 2 rfl) ?_
        refine lv_iload hx hb dL_law_744 (lv_at hl 1 rfl) ?_
        refine lv_iconst (v := 1) hx hb dL_law_746 (by decide) ?_
        refine lv_iadd hx hb dL_law_747 ?_
        rw [show nI (5 * j) + 1 = nI (5 * j + 1) from nI_add (5 * j) 1]
        refine gk_sld (i := (5 * j + 1)) hx hb hX hbl hbA hS (by omega) hL dL_law_748 ?_
        have hF_50 := gk_all hD hS hA
        refine va_calli (va_runV (As := [.int (xs (5 * j + 1))]) (rest := []) ⟨hx, hb, hml, hown, hts⟩ (kX3_admit l D cyI cyZ cyL cyV cyJ x0 x1 x2 x3 x4 x5 x6 x7 x8 x9 x10 x11 x12 x13 x14 gr sh rt ce nl nv am nc cd th bud fsd las isB mto maw lno dya amo rfd ord cpa eli usd ((o, .inl (cyJ, 1, .inr (.inl u_49.1))) :: u_49.2) hM.1.1 hM.1.2.1 lnf hM.2.1 orf hM.2.2.1 hM.2.2.2.1 (xs (5 * j + 1)) H.size _ rfl) (cwV 1 hts gL_law_X3_admit rfl rfl rfl (by decide +kernel) ⟨(Nat.le_of_ble_eq_true rfl), (Nat.le_of_ble_eq_true rfl)⟩) (gk_preV hP hK hD (va_recv hK hP (ci := 3) (q0 := 0) rfl rfl)) rfl rfl hl.1 rfl (lv_room (Nat.le_of_ble_eq_true rfl)) dL_law_749 ⟨(by show _ ≤ (601024 : Nat); omega), (by show _ ≤ (7293034 : Nat); omega)⟩) hS (fun q _ h => hF_50 q h) hF_50 (fun r_50 u_50 t_50 H locs ht_50 hvm_50 hw_50 hB_50 hz_50 hk_50 hS => ?_)
        obtain ⟨hP, hD⟩ := gk_back hF_50 hB_50 ht_50
        obtain ⟨th9, rfd9, eli9, usd9⟩ := u_50
        obtain ⟨hth, hsu9, hol9⟩ := hw_50
        obtain ⟨hLk, hLs, hLo⟩ := hw_49
        by_cases hcd : cMark nv rfd (xs (5 * j + 1)) 0 = 0
        · have hk0 : r_49 = 0 := hLk.trans hcd
          obtain ⟨hout, hG9⟩ := hLs hcd
          obtain ⟨hu9, hr9⟩ := hsu9 hcd
          dsimp only at hu9
          rw [hu9] at hP hD
          subst hk0
          have hP : va_P D vwCl ((x0, .inr (3, [.int gr, .int sh, .int rt, .int ce, .int (nI nl), .ref x1, .ref x2, .ref x3, .ref x4, .ref x5, .ref x6, .int (nI nv), .ref x7, .ref x8, .ref x9, .ref x10, .ref x11, .int am, .int (nI nc), .int cd, .ref x12, .int th9, .ref x13, .ref x14])) :: (x1, .inl (cyI, 12, .inl bud)) :: (x2, .inl (cyI, 12, .inl fsd)) :: (x3, .inl (cyI, 12, .inl las)) :: (x4, .inl (cyZ, 12, .inl isB)) :: (x5, .inl (cyI, 12, .inl mto)) :: (x6, .inl (cyI, 12, .inl maw)) :: (x7, .inl (cyI, 100, .inl lno)) :: (x8, .inl (cyI, 100, .inl dya)) :: (x9, .inl (cyI, 100, .inl amo)) :: (x10, .inl (cyZ, 100, .inl (va_up rfd (gIxn (xs (5 * j + 1))) 0))) :: (x11, .inl (cyI, 100, .inl ord)) :: (x12, .inl (cyI, 40, .inl cpa)) :: (x13, .inl (cyI, 100, .inl eli9)) :: (x14, .inl (cyI, 12, .inl usd9)) :: (o, .inl (cyJ, 1, .inr (.inl u_49.1))) :: u_49.2) H := hP
          have hD : va_D A ((x0, .inr (3, [.int gr, .int sh, .int rt, .int ce, .int (nI nl), .ref x1, .ref x2, .ref x3, .ref x4, .ref x5, .ref x6, .int (nI nv), .ref x7, .ref x8, .ref x9, .ref x10, .ref x11, .int am, .int (nI nc), .int cd, .ref x12, .int th9, .ref x13, .ref x14])) :: (x1, .inl (cyI, 12, .inl bud)) :: (x2, .inl (cyI, 12, .inl fsd)) :: (x3, .inl (cyI, 12, .inl las)) :: (x4, .inl (cyZ, 12, .inl isB)) :: (x5, .inl (cyI, 12, .inl mto)) :: (x6, .inl (cyI, 12, .inl maw)) :: (x7, .inl (cyI, 100, .inl lno)) :: (x8, .inl (cyI, 100, .inl dya)) :: (x9, .inl (cyI, 100, .inl amo)) :: (x10, .inl (cyZ, 100, .inl (va_up rfd (gIxn (xs (5 * j + 1))) 0))) :: (x11, .inl (cyI, 100, .inl ord)) :: (x12, .inl (cyI, 40, .inl cpa)) :: (x13, .inl (cyI, 100, .inl eli9)) :: (x14, .inl (cyI, 12, .inl usd9)) :: (o, .inl (cyJ, 1, .inr (.inl u_49.1))) :: u_49.2) := hD
          refine lv_istore (lv' := [(6, .int r_50), (5, .int 0), (4, .int (nI (5 * j))), (0, .ref b), (1, .ref g), (2, .ref x0), (3, .ref o)]) hx hb dL_law_752 hl (by decide) rfl (fun ls hl => ?_)
          refine lv_aload_n hx hb dL_law_754 rfl (lv_at hl 5 rfl) ?_
          have hF_51 := gk_all hD hS hA
          refine va_calli (va_runV (As := []) (rest := []) ⟨hx, hb, hml, hown, hts⟩ (kX3_thrown l D cyI cyZ cyL cyV cyJ x0 x1 x2 x3 x4 x5 x6 x7 x8 x9 x10 x11 x12 x13 x14 gr sh rt ce nl nv am nc cd th9 bud fsd las isB mto maw lno dya amo (va_up rfd (gIxn (xs (5 * j + 1))) 0) ord cpa eli9 usd9 ((o, .inl (cyJ, 1, .inr (.inl u_49.1))) :: u_49.2)  H.size _ rfl) (cwV 0 hts gL_law_X3_thrown rfl rfl rfl (by decide +kernel) ⟨(Nat.le_of_ble_eq_true rfl), (Nat.le_of_ble_eq_true rfl)⟩) (gk_preV hP hK hD (va_recv hK hP (ci := 3) (q0 := 0) rfl rfl)) rfl rfl hl.1 rfl (lv_room (Nat.le_of_ble_eq_true rfl)) dL_law_755 ⟨(by show _ ≤ (601024 : Nat); omega), (by show _ ≤ (7293034 : Nat); omega)⟩) hS (fun q _ h => hF_51 q h) hF_51 (fun r_51 u_51 t_51 H locs ht_51 hvm_51 hw_51 hB_51 hz_51 hk_51 hS => ?_)
          obtain ⟨hP, hD⟩ := gk_back hF_51 hB_51 ht_51
          subst hw_51
          refine lv_iload hx hb dL_law_758 (lv_at hl 1 rfl) ?_
          refine lv_icmp_eq (tgt := 765) hx hb dL_law_760 (by decide) (fun _ => ?_) (fun c9 => absurd (hth.trans hLk.symm) c9)
          refine lv_iload hx hb dL_law_765 (lv_at hl 1 rfl) ?_
          refine lv_if_ne (tgt := 782) hx hb dL_law_767 (by decide) (fun c => by first | exact absurd c (by decide) | exact absurd (by decide) c) (fun _ => ?_)
          refine lv_aload_n hx hb dL_law_770 rfl (lv_at hl 6 rfl) ?_
          refine lv_iconst (v := 0) hx hb dL_law_771 (by decide) ?_
          refine va_lald hx hb hK hP 15 4 rfl rfl (i := 0) (show ¬ ((0 : Int32) < 0 ∨ 1 ≤ (0 : Int32).toNatClampNeg) by decide) dL_law_772 ?_
          refine lv_iload hx hb dL_law_773 (lv_at hl 0 rfl) ?_
          refine lv_i2l hx hb dL_law_775 rfl ?_
          refine W.lcmp hx hb dL_law_776 ?_
          refine lv_if_eq (tgt := 782) hx hb dL_law_777 (by decide) (fun _ => ?_) (fun c9 => absurd ((lg_cmp_eq _ _).mpr (show u_49.1 0 = r_50.toInt64 by rw [hout, hr9])) c9)
          refine lv_goto (tgt := 1335) hx hb dL_law_782 (by decide) ?_
          refine lv_iinc (v := (nI (5 * (j + 1)))) (lv' := [(4, .int (nI (5 * (j + 1)))), (6, .int r_50), (5, .int 0), (0, .ref b), (1, .ref g), (2, .ref x0), (3, .ref o)]) hx hb dL_law_1335 hl (k := 2) rfl (by show nI (5 * j) + 5 = nI (5 * (j + 1)); exact nI_add (5 * j) 5) (by decide) rfl (fun ls hl => ?_)
          refine lv_goto (tgt := 23) hx hb dL_law_1338 (by decide) ?_
          refine W.widen (k := 20 + 5 * (j + 1)) (n := 914 + 30 * (j + 1)) (by omega) (by omega) ?_
          exact ih (j + 1) _ _ _ _ _ _ _ _ _ _ _ _ _ _ _ _ _ _ _ _ _ _ _ _ _ _ _ _ _ _ _ (by omega) (by omega) hG9 hP hD hS (lv_sub hl [0, 3, 4, 5, 6] rfl)
        · have hG9 := hLo hcd
          have hu9 := hol9 hcd
          dsimp only at hu9
          rw [hu9] at hP hD
          have hP : va_P D vwCl ((x0, .inr (3, [.int gr, .int sh, .int rt, .int ce, .int (nI nl), .ref x1, .ref x2, .ref x3, .ref x4, .ref x5, .ref x6, .int (nI nv), .ref x7, .ref x8, .ref x9, .ref x10, .ref x11, .int am, .int (nI nc), .int cd, .ref x12, .int th9, .ref x13, .ref x14])) :: (x1, .inl (cyI, 12, .inl bud)) :: (x2, .inl (cyI, 12, .inl fsd)) :: (x3, .inl (cyI, 12, .inl las)) :: (x4, .inl (cyZ, 12, .inl isB)) :: (x5, .inl (cyI, 12, .inl mto)) :: (x6, .inl (cyI, 12, .inl maw)) :: (x7, .inl (cyI, 100, .inl lno)) :: (x8, .inl (cyI, 100, .inl dya)) :: (x9, .inl (cyI, 100, .inl amo)) :: (x10, .inl (cyZ, 100, .inl rfd)) :: (x11, .inl (cyI, 100, .inl ord)) :: (x12, .inl (cyI, 40, .inl cpa)) :: (x13, .inl (cyI, 100, .inl eli9)) :: (x14, .inl (cyI, 12, .inl usd9)) :: (o, .inl (cyJ, 1, .inr (.inl u_49.1))) :: u_49.2) H := hP
          have hD : va_D A ((x0, .inr (3, [.int gr, .int sh, .int rt, .int ce, .int (nI nl), .ref x1, .ref x2, .ref x3, .ref x4, .ref x5, .ref x6, .int (nI nv), .ref x7, .ref x8, .ref x9, .ref x10, .ref x11, .int am, .int (nI nc), .int cd, .ref x12, .int th9, .ref x13, .ref x14])) :: (x1, .inl (cyI, 12, .inl bud)) :: (x2, .inl (cyI, 12, .inl fsd)) :: (x3, .inl (cyI, 12, .inl las)) :: (x4, .inl (cyZ, 12, .inl isB)) :: (x5, .inl (cyI, 12, .inl mto)) :: (x6, .inl (cyI, 12, .inl maw)) :: (x7, .inl (cyI, 100, .inl lno)) :: (x8, .inl (cyI, 100, .inl dya)) :: (x9, .inl (cyI, 100, .inl amo)) :: (x10, .inl (cyZ, 100, .inl rfd)) :: (x11, .inl (cyI, 100, .inl ord)) :: (x12, .inl (cyI, 40, .inl cpa)) :: (x13, .inl (cyI, 100, .inl eli9)) :: (x14, .inl (cyI, 12, .inl usd9)) :: (o, .inl (cyJ, 1, .inr (.inl u_49.1))) :: u_49.2) := hD
          refine lv_istore (lv' := [(6, .int r_50), (5, .int r_49), (4, .int (nI (5 * j))), (0, .ref b), (1, .ref g), (2, .ref x0), (3, .ref o)]) hx hb dL_law_752 hl (by decide) rfl (fun ls hl => ?_)
          refine lv_aload_n hx hb dL_law_754 rfl (lv_at hl 5 rfl) ?_
          have hF_53 := gk_all hD hS hA
          refine va_calli (va_runV (As := []) (rest := []) ⟨hx, hb, hml, hown, hts⟩ (kX3_thrown l D cyI cyZ cyL cyV cyJ x0 x1 x2 x3 x4 x5 x6 x7 x8 x9 x10 x11 x12 x13 x14 gr sh rt ce nl nv am nc cd th9 bud fsd las isB mto maw lno dya amo rfd ord cpa eli9 usd9 ((o, .inl (cyJ, 1, .inr (.inl u_49.1))) :: u_49.2)  H.size _ rfl) (cwV 0 hts gL_law_X3_thrown rfl rfl rfl (by decide +kernel) ⟨(Nat.le_of_ble_eq_true rfl), (Nat.le_of_ble_eq_true rfl)⟩) (gk_preV hP hK hD (va_recv hK hP (ci := 3) (q0 := 0) rfl rfl)) rfl rfl hl.1 rfl (lv_room (Nat.le_of_ble_eq_true rfl)) dL_law_755 ⟨(by show _ ≤ (601024 : Nat); omega), (by show _ ≤ (7293034 : Nat); omega)⟩) hS (fun q _ h => hF_53 q h) hF_53 (fun r_53 u_53 t_53 H locs ht_53 hvm_53 hw_53 hB_53 hz_53 hk_53 hS => ?_)
          obtain ⟨hP, hD⟩ := gk_back hF_53 hB_53 ht_53
          subst hw_53
          refine lv_iload hx hb dL_law_758 (lv_at hl 1 rfl) ?_
          refine lv_icmp_eq (tgt := 765) hx hb dL_law_760 (by decide) (fun _ => ?_) (fun c9 => absurd (hth.trans hLk.symm) c9)
          refine lv_iload hx hb dL_law_765 (lv_at hl 1 rfl) ?_
          refine lv_if_ne (tgt := 782) hx hb dL_law_767 (by decide) (fun _ => ?_) (fun c9 => absurd (hLk.symm.trans c9) hcd)
          refine lv_goto (tgt := 1335) hx hb dL_law_782 (by decide) ?_
          refine lv_iinc (v := (nI (5 * (j + 1)))) (lv' := [(4, .int (nI (5 * (j + 1)))), (6, .int r_50), (5, .int r_49), (0, .ref b), (1, .ref g), (2, .ref x0), (3, .ref o)]) hx hb dL_law_1335 hl (k := 2) rfl (by show nI (5 * j) + 5 = nI (5 * (j + 1)); exact nI_add (5 * j) 5) (by decide) rfl (fun ls hl => ?_)
          refine lv_goto (tgt := 23) hx hb dL_law_1338 (by decide) ?_
          refine W.widen (k := 20 + 5 * (j + 1)) (n := 914 + 30 * (j + 1)) (by omega) (by omega) ?_
          exact ih (j + 1) _ _ _ _ _ _ _ _ _ _ _ _ _ _ _ _ _ _ _ _ _ _ _ _ _ _ _ _ _ _ _ (by omega) (by omega) hG9 hP hD hS (lv_sub hl [0, 3, 4, 5, 6] rfl)
      · rw [hsw]
        refine lv_tableIn (off := 746) (tgt := 785) hx hb dL_law_39 (by decide) (by decide) rfl (by decide) ?_
        refine lv_aload_n hx hb dL_law_785 rfl (lv_at hl 2 rfl) ?_
        refine lv_aload_n hx hb dL_law_786 rfl (lv_at hl 1 rfl) ?_
        refine lv_iload hx hb dL_law_787 (lv_at hl 0 rfl) ?_
        refine lv_iconst (v := 1) hx hb dL_law_789 (by decide) ?_
        refine lv_iadd hx hb dL_law_790 ?_
        rw [show nI (5 * j) + 1 = nI (5 * j + 1) from nI_add (5 * j) 1]
        refine gk_sld (i := (5 * j + 1)) hx hb hX hbl hbA hS (by omega) hL dL_law_791 ?_
        refine lv_aload_n hx hb dL_law_792 rfl (lv_at hl 4 rfl) ?_
        have hF_54 := gk_all hD hS hA
        refine va_calli (vx_runSW (As := [.ref g, .int (xs (5 * j + 1)), .ref o]) (rest := []) ⟨hx, hb, hml, hown, hts⟩ (kL_match l hst D cyI cyZ cyL cyV cyJ gr sh rt ce nl nv am nc cd bud fsd las isB mto maw lno dya amo rfd ord cpa lnf orf g o (x0, .inr (3, [.int gr, .int sh, .int rt, .int ce, .int (nI nl), .ref x1, .ref x2, .ref x3, .ref x4, .ref x5, .ref x6, .int (nI nv), .ref x7, .ref x8, .ref x9, .ref x10, .ref x11, .int am, .int (nI nc), .int cd, .ref x12, .int th, .ref x13, .ref x14])) (x1, .inl (cyI, 12, .inl bud)) (x2, .inl (cyI, 12, .inl fsd)) (x3, .inl (cyI, 12, .inl las)) (x4, .inl (cyZ, 12, .inl isB)) (x5, .inl (cyI, 12, .inl mto)) (x6, .inl (cyI, 12, .inl maw)) (x7, .inl (cyI, 100, .inl lno)) (x8, .inl (cyI, 100, .inl dya)) (x9, .inl (cyI, 100, .inl amo)) (x10, .inl (cyZ, 100, .inl rfd)) (x11, .inl (cyI, 100, .inl ord)) (x12, .inl (cyI, 40, .inl cpa)) (x13, .inl (cyI, 100, .inl eli)) (x14, .inl (cyI, 12, .inl usd)) fo G hG (xs (5 * j + 1)) H.size _ rfl) (vx_cwSW 3 hts gL_law_L_match rfl rfl rfl (by decide +kernel) ⟨(Nat.le_of_ble_eq_true rfl), (Nat.le_of_ble_eq_true rfl)⟩) (gk_preSN hNC hTF hS hF_54 hP hK hD) rfl rfl hl.1 rfl (lv_room (Nat.le_of_ble_eq_true rfl)) dL_law_793 ⟨(by show _ ≤ (601024 : Nat); omega), (by show _ ≤ (7293034 : Nat); omega)⟩) hS (fun q _ h => hF_54 q h) hF_54 (fun r_54 u_54 t_54 H locs ht_54 hvm_54 hw_54 hB_54 hz_54 hk_54 hS => ?_)
        obtain ⟨hP, hD⟩ := gk_back hF_54 hB_54 ht_54
        refine lv_istore (lv' := [(5, .int r_54), (4, .int (nI (5 * j))), (0, .ref b), (1, .ref g), (2, .ref x0), (3, .ref o)]) hx hb dL_law_796 hl (by decide) rfl (fun ls hl => ?_)
        refine lv_aload_n hx hb dL_law_798 rfl (lv_at hl 4 rfl) ?_
        refine lv_aload_n hx hb dL_law_799 rfl (lv_at hl 2 rfl) ?_
        refine lv_iload hx hb dL_law_800 (lv_at hl 1 rfl) ?_
        refine lv_iconst (v := 1) hx hb dL_law_802 (by decide) ?_
        refine lv_iadd hx hb dL_law_803 ?_
        rw [show nI (5 * j) + 1 = nI (5 * j + 1) from nI_add (5 * j) 1]
        refine gk_sld (i := (5 * j + 1)) hx hb hX hbl hbA hS (by omega) hL dL_law_804 ?_
        have hF_55 := gk_all hD hS hA
        refine va_calli (va_runV (As := [.int (xs (5 * j + 1))]) (rest := []) ⟨hx, hb, hml, hown, hts⟩ (kX3_match l D cyI cyZ cyL cyV cyJ x0 x1 x2 x3 x4 x5 x6 x7 x8 x9 x10 x11 x12 x13 x14 gr sh rt ce nl nv am nc cd th bud fsd las isB mto maw lno dya amo rfd ord cpa eli usd ((o, .inl (cyJ, 1, .inr (.inl u_54.1))) :: u_54.2)  (xs (5 * j + 1)) H.size _ rfl) (cwV 1 hts gL_law_X3_match rfl rfl rfl (by decide +kernel) ⟨(Nat.le_of_ble_eq_true rfl), (Nat.le_of_ble_eq_true rfl)⟩) (gk_preV hP hK hD (va_recv hK hP (ci := 3) (q0 := 0) rfl rfl)) rfl rfl hl.1 rfl (lv_room (Nat.le_of_ble_eq_true rfl)) dL_law_805 ⟨(by show _ ≤ (601024 : Nat); omega), (by show _ ≤ (7293034 : Nat); omega)⟩) hS (fun q _ h => hF_55 q h) hF_55 (fun r_55 u_55 t_55 H locs ht_55 hvm_55 hw_55 hB_55 hz_55 hk_55 hS => ?_)
        obtain ⟨hP, hD⟩ := gk_back hF_55 hB_55 ht_55
        obtain ⟨th9, u9⟩ := u_55
        obtain ⟨hth, hsu9, hol9⟩ := hw_55
        obtain ⟨hLk, hLs, hLo⟩ := hw_54
        by_cases hcd : cMatch am (xs (5 * j + 1)) = 0
        · have hk0 : r_54 = 0 := hLk.trans hcd
          obtain ⟨hout, hG9⟩ := hLs hcd
          obtain ⟨hr9, hu9⟩ := hsu9 hcd
          dsimp only at hu9
          rw [hu9] at hP hD
          subst hk0
          have hP : va_P D vwCl ((x0, .inr (3, [.int gr, .int sh, .int rt, .int ce, .int (nI nl), .ref x1, .ref x2, .ref x3, .ref x4, .ref x5, .ref x6, .int (nI nv), .ref x7, .ref x8, .ref x9, .ref x10, .ref x11, .int (am + (xs (5 * j + 1))), .int (nI nc), .int cd, .ref x12, .int th9, .ref x13, .ref x14])) :: (x1, .inl (cyI, 12, .inl bud)) :: (x2, .inl (cyI, 12, .inl fsd)) :: (x3, .inl (cyI, 12, .inl las)) :: (x4, .inl (cyZ, 12, .inl isB)) :: (x5, .inl (cyI, 12, .inl mto)) :: (x6, .inl (cyI, 12, .inl maw)) :: (x7, .inl (cyI, 100, .inl lno)) :: (x8, .inl (cyI, 100, .inl dya)) :: (x9, .inl (cyI, 100, .inl amo)) :: (x10, .inl (cyZ, 100, .inl rfd)) :: (x11, .inl (cyI, 100, .inl ord)) :: (x12, .inl (cyI, 40, .inl cpa)) :: (x13, .inl (cyI, 100, .inl eli)) :: (x14, .inl (cyI, 12, .inl usd)) :: (o, .inl (cyJ, 1, .inr (.inl u_54.1))) :: u_54.2) H := hP
          have hD : va_D A ((x0, .inr (3, [.int gr, .int sh, .int rt, .int ce, .int (nI nl), .ref x1, .ref x2, .ref x3, .ref x4, .ref x5, .ref x6, .int (nI nv), .ref x7, .ref x8, .ref x9, .ref x10, .ref x11, .int (am + (xs (5 * j + 1))), .int (nI nc), .int cd, .ref x12, .int th9, .ref x13, .ref x14])) :: (x1, .inl (cyI, 12, .inl bud)) :: (x2, .inl (cyI, 12, .inl fsd)) :: (x3, .inl (cyI, 12, .inl las)) :: (x4, .inl (cyZ, 12, .inl isB)) :: (x5, .inl (cyI, 12, .inl mto)) :: (x6, .inl (cyI, 12, .inl maw)) :: (x7, .inl (cyI, 100, .inl lno)) :: (x8, .inl (cyI, 100, .inl dya)) :: (x9, .inl (cyI, 100, .inl amo)) :: (x10, .inl (cyZ, 100, .inl rfd)) :: (x11, .inl (cyI, 100, .inl ord)) :: (x12, .inl (cyI, 40, .inl cpa)) :: (x13, .inl (cyI, 100, .inl eli)) :: (x14, .inl (cyI, 12, .inl usd)) :: (o, .inl (cyJ, 1, .inr (.inl u_54.1))) :: u_54.2) := hD
          refine lv_istore (lv' := [(6, .int r_55), (5, .int 0), (4, .int (nI (5 * j))), (0, .ref b), (1, .ref g), (2, .ref x0), (3, .ref o)]) hx hb dL_law_808 hl (by decide) rfl (fun ls hl => ?_)
          refine lv_aload_n hx hb dL_law_810 rfl (lv_at hl 5 rfl) ?_
          have hF_56 := gk_all hD hS hA
          refine va_calli (va_runV (As := []) (rest := []) ⟨hx, hb, hml, hown, hts⟩ (kX3_thrown l D cyI cyZ cyL cyV cyJ x0 x1 x2 x3 x4 x5 x6 x7 x8 x9 x10 x11 x12 x13 x14 gr sh rt ce nl nv (am + (xs (5 * j + 1))) nc cd th9 bud fsd las isB mto maw lno dya amo rfd ord cpa eli usd ((o, .inl (cyJ, 1, .inr (.inl u_54.1))) :: u_54.2)  H.size _ rfl) (cwV 0 hts gL_law_X3_thrown rfl rfl rfl (by decide +kernel) ⟨(Nat.le_of_ble_eq_true rfl), (Nat.le_of_ble_eq_true rfl)⟩) (gk_preV hP hK hD (va_recv hK hP (ci := 3) (q0 := 0) rfl rfl)) rfl rfl hl.1 rfl (lv_room (Nat.le_of_ble_eq_true rfl)) dL_law_811 ⟨(by show _ ≤ (601024 : Nat); omega), (by show _ ≤ (7293034 : Nat); omega)⟩) hS (fun q _ h => hF_56 q h) hF_56 (fun r_56 u_56 t_56 H locs ht_56 hvm_56 hw_56 hB_56 hz_56 hk_56 hS => ?_)
          obtain ⟨hP, hD⟩ := gk_back hF_56 hB_56 ht_56
          subst hw_56
          refine lv_iload hx hb dL_law_814 (lv_at hl 1 rfl) ?_
          refine lv_icmp_eq (tgt := 821) hx hb dL_law_816 (by decide) (fun _ => ?_) (fun c9 => absurd (hth.trans hLk.symm) c9)
          refine lv_iload hx hb dL_law_821 (lv_at hl 1 rfl) ?_
          refine lv_if_ne (tgt := 838) hx hb dL_law_823 (by decide) (fun c => by first | exact absurd c (by decide) | exact absurd (by decide) c) (fun _ => ?_)
          refine lv_aload_n hx hb dL_law_826 rfl (lv_at hl 6 rfl) ?_
          refine lv_iconst (v := 0) hx hb dL_law_827 (by decide) ?_
          refine va_lald hx hb hK hP 15 4 rfl rfl (i := 0) (show ¬ ((0 : Int32) < 0 ∨ 1 ≤ (0 : Int32).toNatClampNeg) by decide) dL_law_828 ?_
          refine lv_iload hx hb dL_law_829 (lv_at hl 0 rfl) ?_
          refine lv_i2l hx hb dL_law_831 rfl ?_
          refine W.lcmp hx hb dL_law_832 ?_
          refine lv_if_eq (tgt := 838) hx hb dL_law_833 (by decide) (fun _ => ?_) (fun c9 => absurd ((lg_cmp_eq _ _).mpr (show u_54.1 0 = r_55.toInt64 by rw [hout, hr9])) c9)
          refine lv_goto (tgt := 1335) hx hb dL_law_838 (by decide) ?_
          refine lv_iinc (v := (nI (5 * (j + 1)))) (lv' := [(4, .int (nI (5 * (j + 1)))), (6, .int r_55), (5, .int 0), (0, .ref b), (1, .ref g), (2, .ref x0), (3, .ref o)]) hx hb dL_law_1335 hl (k := 2) rfl (by show nI (5 * j) + 5 = nI (5 * (j + 1)); exact nI_add (5 * j) 5) (by decide) rfl (fun ls hl => ?_)
          refine lv_goto (tgt := 23) hx hb dL_law_1338 (by decide) ?_
          refine W.widen (k := 20 + 5 * (j + 1)) (n := 914 + 30 * (j + 1)) (by omega) (by omega) ?_
          exact ih (j + 1) _ _ _ _ _ _ _ _ _ _ _ _ _ _ _ _ _ _ _ _ _ _ _ _ _ _ _ _ _ _ _ (by omega) (by omega) hG9 hP hD hS (lv_sub hl [0, 3, 4, 5, 6] rfl)
        · have hG9 := hLo hcd
          have hu9 := hol9 hcd
          dsimp only at hu9
          rw [hu9] at hP hD
          have hP : va_P D vwCl ((x0, .inr (3, [.int gr, .int sh, .int rt, .int ce, .int (nI nl), .ref x1, .ref x2, .ref x3, .ref x4, .ref x5, .ref x6, .int (nI nv), .ref x7, .ref x8, .ref x9, .ref x10, .ref x11, .int am, .int (nI nc), .int cd, .ref x12, .int th9, .ref x13, .ref x14])) :: (x1, .inl (cyI, 12, .inl bud)) :: (x2, .inl (cyI, 12, .inl fsd)) :: (x3, .inl (cyI, 12, .inl las)) :: (x4, .inl (cyZ, 12, .inl isB)) :: (x5, .inl (cyI, 12, .inl mto)) :: (x6, .inl (cyI, 12, .inl maw)) :: (x7, .inl (cyI, 100, .inl lno)) :: (x8, .inl (cyI, 100, .inl dya)) :: (x9, .inl (cyI, 100, .inl amo)) :: (x10, .inl (cyZ, 100, .inl rfd)) :: (x11, .inl (cyI, 100, .inl ord)) :: (x12, .inl (cyI, 40, .inl cpa)) :: (x13, .inl (cyI, 100, .inl eli)) :: (x14, .inl (cyI, 12, .inl usd)) :: (o, .inl (cyJ, 1, .inr (.inl u_54.1))) :: u_54.2) H := hP
          have hD : va_D A ((x0, .inr (3, [.int gr, .int sh, .int rt, .int ce, .int (nI nl), .ref x1, .ref x2, .ref x3, .ref x4, .ref x5, .ref x6, .int (nI nv), .ref x7, .ref x8, .ref x9, .ref x10, .ref x11, .int am, .int (nI nc), .int cd, .ref x12, .int th9, .ref x13, .ref x14])) :: (x1, .inl (cyI, 12, .inl bud)) :: (x2, .inl (cyI, 12, .inl fsd)) :: (x3, .inl (cyI, 12, .inl las)) :: (x4, .inl (cyZ, 12, .inl isB)) :: (x5, .inl (cyI, 12, .inl mto)) :: (x6, .inl (cyI, 12, .inl maw)) :: (x7, .inl (cyI, 100, .inl lno)) :: (x8, .inl (cyI, 100, .inl dya)) :: (x9, .inl (cyI, 100, .inl amo)) :: (x10, .inl (cyZ, 100, .inl rfd)) :: (x11, .inl (cyI, 100, .inl ord)) :: (x12, .inl (cyI, 40, .inl cpa)) :: (x13, .inl (cyI, 100, .inl eli)) :: (x14, .inl (cyI, 12, .inl usd)) :: (o, .inl (cyJ, 1, .inr (.inl u_54.1))) :: u_54.2) := hD
          refine lv_istore (lv' := [(6, .int r_55), (5, .int r_54), (4, .int (nI (5 * j))), (0, .ref b), (1, .ref g), (2, .ref x0), (3, .ref o)]) hx hb dL_law_808 hl (by decide) rfl (fun ls hl => ?_)
          refine lv_aload_n hx hb dL_law_810 rfl (lv_at hl 5 rfl) ?_
          have hF_58 := gk_all hD hS hA
          refine va_calli (va_runV (As := []) (rest := []) ⟨hx, hb, hml, hown, hts⟩ (kX3_thrown l D cyI cyZ cyL cyV cyJ x0 x1 x2 x3 x4 x5 x6 x7 x8 x9 x10 x11 x12 x13 x14 gr sh rt ce nl nv am nc cd th9 bud fsd las isB mto maw lno dya amo rfd ord cpa eli usd ((o, .inl (cyJ, 1, .inr (.inl u_54.1))) :: u_54.2)  H.size _ rfl) (cwV 0 hts gL_law_X3_thrown rfl rfl rfl (by decide +kernel) ⟨(Nat.le_of_ble_eq_true rfl), (Nat.le_of_ble_eq_true rfl)⟩) (gk_preV hP hK hD (va_recv hK hP (ci := 3) (q0 := 0) rfl rfl)) rfl rfl hl.1 rfl (lv_room (Nat.le_of_ble_eq_true rfl)) dL_law_811 ⟨(by show _ ≤ (601024 : Nat); omega), (by show _ ≤ (7293034 : Nat); omega)⟩) hS (fun q _ h => hF_58 q h) hF_58 (fun r_58 u_58 t_58 H locs ht_58 hvm_58 hw_58 hB_58 hz_58 hk_58 hS => ?_)
          obtain ⟨hP, hD⟩ := gk_back hF_58 hB_58 ht_58
          subst hw_58
          refine lv_iload hx hb dL_law_814 (lv_at hl 1 rfl) ?_
          refine lv_icmp_eq (tgt := 821) hx hb dL_law_816 (by decide) (fun _ => ?_) (fun c9 => absurd (hth.trans hLk.symm) c9)
          refine lv_iload hx hb dL_law_821 (lv_at hl 1 rfl) ?_
          refine lv_if_ne (tgt := 838) hx hb dL_law_823 (by decide) (fun _ => ?_) (fun c9 => absurd (hLk.symm.trans c9) hcd)
          refine lv_goto (tgt := 1335) hx hb dL_law_838 (by decide) ?_
          refine lv_iinc (v := (nI (5 * (j + 1)))) (lv' := [(4, .int (nI (5 * (j + 1)))), (6, .int r_55), (5, .int r_54), (0, .ref b), (1, .ref g), (2, .ref x0), (3, .ref o)]) hx hb dL_law_1335 hl (k := 2) rfl (by show nI (5 * j) + 5 = nI (5 * (j + 1)); exact nI_add (5 * j) 5) (by decide) rfl (fun ls hl => ?_)
          refine lv_goto (tgt := 23) hx hb dL_law_1338 (by decide) ?_
          refine W.widen (k := 20 + 5 * (j + 1)) (n := 914 + 30 * (j + 1)) (by omega) (by omega) ?_
          exact ih (j + 1) _ _ _ _ _ _ _ _ _ _ _ _ _ _ _ _ _ _ _ _ _ _ _ _ _ _ _ _ _ _ _ (by omega) (by omega) hG9 hP hD hS (lv_sub hl [0, 3, 4, 5, 6] rfl)
      · rw [hsw]
        refine lv_tableIn (off := 802) (tgt := 841) hx hb dL_law_39 (by decide) (by decide) rfl (by decide) ?_
        refine lv_aload_n hx hb dL_law_841 rfl (lv_at hl 2 rfl) ?_
        have hF_59 := gk_all hD hS hA
        refine va_calli (va_runV (As := []) (rest := []) ⟨hx, hb, hml, hown, hts⟩ (kQ_vouchers l D cyI cyZ cyL cyV cyJ gr sh rt ce nl nv am nc cd bud fsd las isB mto maw lno dya amo rfd ord cpa lnf orf g o (x0, .inr (3, [.int gr, .int sh, .int rt, .int ce, .int (nI nl), .ref x1, .ref x2, .ref x3, .ref x4, .ref x5, .ref x6, .int (nI nv), .ref x7, .ref x8, .ref x9, .ref x10, .ref x11, .int am, .int (nI nc), .int cd, .ref x12, .int th, .ref x13, .ref x14])) (x1, .inl (cyI, 12, .inl bud)) (x2, .inl (cyI, 12, .inl fsd)) (x3, .inl (cyI, 12, .inl las)) (x4, .inl (cyZ, 12, .inl isB)) (x5, .inl (cyI, 12, .inl mto)) (x6, .inl (cyI, 12, .inl maw)) (x7, .inl (cyI, 100, .inl lno)) (x8, .inl (cyI, 100, .inl dya)) (x9, .inl (cyI, 100, .inl amo)) (x10, .inl (cyZ, 100, .inl rfd)) (x11, .inl (cyI, 100, .inl ord)) (x12, .inl (cyI, 40, .inl cpa)) (x13, .inl (cyI, 100, .inl eli)) (x14, .inl (cyI, 12, .inl usd)) fo G hG H.size _ rfl) (cwV 0 hts gL_law_X2_vouchers rfl rfl rfl (by decide +kernel) ⟨(Nat.le_of_ble_eq_true rfl), (Nat.le_of_ble_eq_true rfl)⟩) (gk_preV hP hK hD (gQ_recv hG hK hP)) rfl rfl hl.1 rfl (lv_room (Nat.le_of_ble_eq_true rfl)) dL_law_842 ⟨(by show _ ≤ (601024 : Nat); omega), (by show _ ≤ (7293034 : Nat); omega)⟩) hS (fun q _ h => hF_59 q h) hF_59 (fun r_59 u_59 t_59 H locs ht_59 hvm_59 hw_59 hB_59 hz_59 hk_59 hS => ?_)
        obtain ⟨hP, hD⟩ := gk_back hF_59 hB_59 ht_59
        refine lv_aload_n hx hb dL_law_845 rfl (lv_at hl 3 rfl) ?_
        have hF_60 := gk_all hD hS hA
        refine va_calli (va_runV (As := []) (rest := [.int r_59]) ⟨hx, hb, hml, hown, hts⟩ (kX3_vouchers l D cyI cyZ cyL cyV cyJ x0 x1 x2 x3 x4 x5 x6 x7 x8 x9 x10 x11 x12 x13 x14 gr sh rt ce nl nv am nc cd th bud fsd las isB mto maw lno dya amo rfd ord cpa eli usd ((o, .inl (cyJ, 1, .inr (.inl fo))) :: G)  H.size _ rfl) (cwV 0 hts gL_law_X3_vouchers rfl rfl rfl (by decide +kernel) ⟨(Nat.le_of_ble_eq_true rfl), (Nat.le_of_ble_eq_true rfl)⟩) (gk_preV hP hK hD (va_recv hK hP (ci := 3) (q0 := 0) rfl rfl)) rfl rfl hl.1 rfl (lv_room (Nat.le_of_ble_eq_true rfl)) dL_law_846 ⟨(by show _ ≤ (601024 : Nat); omega), (by show _ ≤ (7293034 : Nat); omega)⟩) hS (fun q _ h => hF_60 q h) hF_60 (fun r_60 u_60 t_60 H locs ht_60 hvm_60 hw_60 hB_60 hz_60 hk_60 hS => ?_)
        obtain ⟨hP, hD⟩ := gk_back hF_60 hB_60 ht_60
        refine lv_icmp_eq (tgt := 1335) hx hb dL_law_849 (by decide) (fun _ => ?_) (fun c9 => absurd (hw_59.trans hw_60.symm) c9)
        refine lv_iinc (v := (nI (5 * (j + 1)))) (lv' := [(4, .int (nI (5 * (j + 1)))), (0, .ref b), (1, .ref g), (2, .ref x0), (3, .ref o)]) hx hb dL_law_1335 hl (k := 0) rfl (by show nI (5 * j) + 5 = nI (5 * (j + 1)); exact nI_add (5 * j) 5) (by decide) rfl (fun ls hl => ?_)
        refine lv_goto (tgt := 23) hx hb dL_law_1338 (by decide) ?_
        refine W.widen (k := 20 + 5 * (j + 1)) (n := 914 + 30 * (j + 1)) (by omega) (by omega) ?_
        exact ih (j + 1) _ _ _ _ _ _ _ _ _ _ _ _ _ _ _ _ _ _ _ _ _ _ _ _ _ _ _ _ _ _ _ (by omega) (by omega) hG hP hD hS (lv_sub hl [0, 1, 2, 3, 4] rfl)
      · rw [hsw]
        refine lv_tableIn (off := 815) (tgt := 854) hx hb dL_law_39 (by decide) (by decide) rfl (by decide) ?_
        refine lv_aload_n hx hb dL_law_854 rfl (lv_at hl 2 rfl) ?_
        refine lv_aload_n hx hb dL_law_855 rfl (lv_at hl 1 rfl) ?_
        refine lv_iload hx hb dL_law_856 (lv_at hl 0 rfl) ?_
        refine lv_iconst (v := 1) hx hb dL_law_858 (by decide) ?_
        refine lv_iadd hx hb dL_law_859 ?_
        rw [show nI (5 * j) + 1 = nI (5 * j + 1) from nI_add (5 * j) 1]
        refine gk_sld (i := (5 * j + 1)) hx hb hX hbl hbA hS (by omega) hL dL_law_860 ?_
        refine lv_aload_n hx hb dL_law_861 rfl (lv_at hl 4 rfl) ?_
        have hF_61 := gk_all hD hS hA
        refine va_calli (vx_runSW (As := [.ref g, .int (xs (5 * j + 1)), .ref o]) (rest := []) ⟨hx, hb, hml, hown, hts⟩ (kL_fits l hst D cyI cyZ cyL cyV cyJ gr sh rt ce nl nv am nc cd bud fsd las isB mto maw lno dya amo rfd ord cpa lnf orf g o (x0, .inr (3, [.int gr, .int sh, .int rt, .int ce, .int (nI nl), .ref x1, .ref x2, .ref x3, .ref x4, .ref x5, .ref x6, .int (nI nv), .ref x7, .ref x8, .ref x9, .ref x10, .ref x11, .int am, .int (nI nc), .int cd, .ref x12, .int th, .ref x13, .ref x14])) (x1, .inl (cyI, 12, .inl bud)) (x2, .inl (cyI, 12, .inl fsd)) (x3, .inl (cyI, 12, .inl las)) (x4, .inl (cyZ, 12, .inl isB)) (x5, .inl (cyI, 12, .inl mto)) (x6, .inl (cyI, 12, .inl maw)) (x7, .inl (cyI, 100, .inl lno)) (x8, .inl (cyI, 100, .inl dya)) (x9, .inl (cyI, 100, .inl amo)) (x10, .inl (cyZ, 100, .inl rfd)) (x11, .inl (cyI, 100, .inl ord)) (x12, .inl (cyI, 40, .inl cpa)) (x13, .inl (cyI, 100, .inl eli)) (x14, .inl (cyI, 12, .inl usd)) fo G hG (xs (5 * j + 1)) H.size _ rfl) (vx_cwSW 3 hts gL_law_L_fits rfl rfl rfl (by decide +kernel) ⟨(Nat.le_of_ble_eq_true rfl), (Nat.le_of_ble_eq_true rfl)⟩) (gk_preSN hNC hTF hS hF_61 hP hK hD) rfl rfl hl.1 rfl (lv_room (Nat.le_of_ble_eq_true rfl)) dL_law_862 ⟨(by show _ ≤ (601024 : Nat); omega), (by show _ ≤ (7293034 : Nat); omega)⟩) hS (fun q _ h => hF_61 q h) hF_61 (fun r_61 u_61 t_61 H locs ht_61 hvm_61 hw_61 hB_61 hz_61 hk_61 hS => ?_)
        obtain ⟨hP, hD⟩ := gk_back hF_61 hB_61 ht_61
        refine lv_istore (lv' := [(5, .int r_61), (4, .int (nI (5 * j))), (0, .ref b), (1, .ref g), (2, .ref x0), (3, .ref o)]) hx hb dL_law_865 hl (by decide) rfl (fun ls hl => ?_)
        refine lv_aload_n hx hb dL_law_867 rfl (lv_at hl 4 rfl) ?_
        refine lv_aload_n hx hb dL_law_868 rfl (lv_at hl 2 rfl) ?_
        refine lv_iload hx hb dL_law_869 (lv_at hl 1 rfl) ?_
        refine lv_iconst (v := 1) hx hb dL_law_871 (by decide) ?_
        refine lv_iadd hx hb dL_law_872 ?_
        rw [show nI (5 * j) + 1 = nI (5 * j + 1) from nI_add (5 * j) 1]
        refine gk_sld (i := (5 * j + 1)) hx hb hX hbl hbA hS (by omega) hL dL_law_873 ?_
        have hF_62 := gk_all hD hS hA
        refine va_calli (va_runV (As := [.int (xs (5 * j + 1))]) (rest := []) ⟨hx, hb, hml, hown, hts⟩ (kX3_fits l D cyI cyZ cyL cyV cyJ x0 x1 x2 x3 x4 x5 x6 x7 x8 x9 x10 x11 x12 x13 x14 gr sh rt ce nl nv am nc cd th bud fsd las isB mto maw lno dya amo rfd ord cpa eli usd ((o, .inl (cyJ, 1, .inr (.inl u_61.1))) :: u_61.2) hM.1.1 hM.1.2.1 lnf hM.2.1 orf hM.2.2.1 hM.2.2.2.1 (xs (5 * j + 1)) H.size _ rfl) (cwV 1 hts gL_law_X3_fits rfl rfl rfl (by decide +kernel) ⟨(Nat.le_of_ble_eq_true rfl), (Nat.le_of_ble_eq_true rfl)⟩) (gk_preV hP hK hD (va_recv hK hP (ci := 3) (q0 := 0) rfl rfl)) rfl rfl hl.1 rfl (lv_room (Nat.le_of_ble_eq_true rfl)) dL_law_874 ⟨(by show _ ≤ (601024 : Nat); omega), (by show _ ≤ (7293034 : Nat); omega)⟩) hS (fun q _ h => hF_62 q h) hF_62 (fun r_62 u_62 t_62 H locs ht_62 hvm_62 hw_62 hB_62 hz_62 hk_62 hS => ?_)
        obtain ⟨hP, hD⟩ := gk_back hF_62 hB_62 ht_62
        obtain ⟨hth, hsu9, hol9⟩ := hw_62
        obtain ⟨hLk, hLs, hLo⟩ := hw_61
        by_cases hcd : cNum nv (xs (5 * j + 1)) = 0
        · have hk0 : r_61 = 0 := hLk.trans hcd
          obtain ⟨hout, hG9⟩ := hLs hcd
          have hr9 := hsu9 hcd
          subst hk0
          have hP : va_P D vwCl ((x0, .inr (3, [.int gr, .int sh, .int rt, .int ce, .int (nI nl), .ref x1, .ref x2, .ref x3, .ref x4, .ref x5, .ref x6, .int (nI nv), .ref x7, .ref x8, .ref x9, .ref x10, .ref x11, .int am, .int (nI nc), .int cd, .ref x12, .int u_62, .ref x13, .ref x14])) :: (x1, .inl (cyI, 12, .inl bud)) :: (x2, .inl (cyI, 12, .inl fsd)) :: (x3, .inl (cyI, 12, .inl las)) :: (x4, .inl (cyZ, 12, .inl isB)) :: (x5, .inl (cyI, 12, .inl mto)) :: (x6, .inl (cyI, 12, .inl maw)) :: (x7, .inl (cyI, 100, .inl lno)) :: (x8, .inl (cyI, 100, .inl dya)) :: (x9, .inl (cyI, 100, .inl amo)) :: (x10, .inl (cyZ, 100, .inl rfd)) :: (x11, .inl (cyI, 100, .inl ord)) :: (x12, .inl (cyI, 40, .inl cpa)) :: (x13, .inl (cyI, 100, .inl eli)) :: (x14, .inl (cyI, 12, .inl usd)) :: (o, .inl (cyJ, 1, .inr (.inl u_61.1))) :: u_61.2) H := hP
          have hD : va_D A ((x0, .inr (3, [.int gr, .int sh, .int rt, .int ce, .int (nI nl), .ref x1, .ref x2, .ref x3, .ref x4, .ref x5, .ref x6, .int (nI nv), .ref x7, .ref x8, .ref x9, .ref x10, .ref x11, .int am, .int (nI nc), .int cd, .ref x12, .int u_62, .ref x13, .ref x14])) :: (x1, .inl (cyI, 12, .inl bud)) :: (x2, .inl (cyI, 12, .inl fsd)) :: (x3, .inl (cyI, 12, .inl las)) :: (x4, .inl (cyZ, 12, .inl isB)) :: (x5, .inl (cyI, 12, .inl mto)) :: (x6, .inl (cyI, 12, .inl maw)) :: (x7, .inl (cyI, 100, .inl lno)) :: (x8, .inl (cyI, 100, .inl dya)) :: (x9, .inl (cyI, 100, .inl amo)) :: (x10, .inl (cyZ, 100, .inl rfd)) :: (x11, .inl (cyI, 100, .inl ord)) :: (x12, .inl (cyI, 40, .inl cpa)) :: (x13, .inl (cyI, 100, .inl eli)) :: (x14, .inl (cyI, 12, .inl usd)) :: (o, .inl (cyJ, 1, .inr (.inl u_61.1))) :: u_61.2) := hD
          refine lv_istore (lv' := [(6, .int r_62), (5, .int 0), (4, .int (nI (5 * j))), (0, .ref b), (1, .ref g), (2, .ref x0), (3, .ref o)]) hx hb dL_law_877 hl (by decide) rfl (fun ls hl => ?_)
          refine lv_aload_n hx hb dL_law_879 rfl (lv_at hl 5 rfl) ?_
          have hF_63 := gk_all hD hS hA
          refine va_calli (va_runV (As := []) (rest := []) ⟨hx, hb, hml, hown, hts⟩ (kX3_thrown l D cyI cyZ cyL cyV cyJ x0 x1 x2 x3 x4 x5 x6 x7 x8 x9 x10 x11 x12 x13 x14 gr sh rt ce nl nv am nc cd u_62 bud fsd las isB mto maw lno dya amo rfd ord cpa eli usd ((o, .inl (cyJ, 1, .inr (.inl u_61.1))) :: u_61.2)  H.size _ rfl) (cwV 0 hts gL_law_X3_thrown rfl rfl rfl (by decide +kernel) ⟨(Nat.le_of_ble_eq_true rfl), (Nat.le_of_ble_eq_true rfl)⟩) (gk_preV hP hK hD (va_recv hK hP (ci := 3) (q0 := 0) rfl rfl)) rfl rfl hl.1 rfl (lv_room (Nat.le_of_ble_eq_true rfl)) dL_law_880 ⟨(by show _ ≤ (601024 : Nat); omega), (by show _ ≤ (7293034 : Nat); omega)⟩) hS (fun q _ h => hF_63 q h) hF_63 (fun r_63 u_63 t_63 H locs ht_63 hvm_63 hw_63 hB_63 hz_63 hk_63 hS => ?_)
          obtain ⟨hP, hD⟩ := gk_back hF_63 hB_63 ht_63
          subst hw_63
          refine lv_iload hx hb dL_law_883 (lv_at hl 1 rfl) ?_
          refine lv_icmp_eq (tgt := 890) hx hb dL_law_885 (by decide) (fun _ => ?_) (fun c9 => absurd (hth.trans hLk.symm) c9)
          refine lv_iload hx hb dL_law_890 (lv_at hl 1 rfl) ?_
          refine lv_if_ne (tgt := 914) hx hb dL_law_892 (by decide) (fun c => by first | exact absurd c (by decide) | exact absurd (by decide) c) (fun _ => ?_)
          refine lv_aload_n hx hb dL_law_895 rfl (lv_at hl 6 rfl) ?_
          refine lv_iconst (v := 0) hx hb dL_law_896 (by decide) ?_
          refine va_lald hx hb hK hP 15 4 rfl rfl (i := 0) (show ¬ ((0 : Int32) < 0 ∨ 1 ≤ (0 : Int32).toNatClampNeg) by decide) dL_law_897 ?_
          refine lv_iload hx hb dL_law_898 (lv_at hl 0 rfl) ?_
          refine lv_if_eq (tgt := 907) hx hb dL_law_900 (by decide) (fun c_65 => ?_) (fun c_65 => ?_)
          · refine lv_lconst (v := 0) hx hb dL_law_907 (by decide) ?_
            refine W.lcmp hx hb dL_law_908 ?_
            refine lv_if_eq (tgt := 914) hx hb dL_law_909 (by decide) (fun _ => ?_) (fun c9 => absurd ((lg_cmp_eq _ _).mpr (show u_61.1 0 = 0 by rw [hout, ← hr9, c_65]; rfl)) c9)
            refine lv_goto (tgt := 1335) hx hb dL_law_914 (by decide) ?_
            refine lv_iinc (v := (nI (5 * (j + 1)))) (lv' := [(4, .int (nI (5 * (j + 1)))), (6, .int r_62), (5, .int 0), (0, .ref b), (1, .ref g), (2, .ref x0), (3, .ref o)]) hx hb dL_law_1335 hl (k := 2) rfl (by show nI (5 * j) + 5 = nI (5 * (j + 1)); exact nI_add (5 * j) 5) (by decide) rfl (fun ls hl => ?_)
            refine lv_goto (tgt := 23) hx hb dL_law_1338 (by decide) ?_
            refine W.widen (k := 20 + 5 * (j + 1)) (n := 914 + 30 * (j + 1)) (by omega) (by omega) ?_
            exact ih (j + 1) _ _ _ _ _ _ _ _ _ _ _ _ _ _ _ _ _ _ _ _ _ _ _ _ _ _ _ _ _ _ _ (by omega) (by omega) hG9 hP hD hS (lv_sub hl [0, 3, 4, 5, 6] rfl)
          · refine lv_lconst (v := 1) hx hb dL_law_903 (by decide) ?_
            refine lv_goto (tgt := 908) hx hb dL_law_904 (by decide) ?_
            refine W.lcmp hx hb dL_law_908 ?_
            refine lv_if_eq (tgt := 914) hx hb dL_law_909 (by decide) (fun _ => ?_) (fun c9 => absurd ((lg_cmp_eq _ _).mpr (show u_61.1 0 = 1 by rw [hout, ← gAcc_1 (by rw [← hr9]; exact c_65)]; rfl)) c9)
            refine lv_goto (tgt := 1335) hx hb dL_law_914 (by decide) ?_
            refine lv_iinc (v := (nI (5 * (j + 1)))) (lv' := [(4, .int (nI (5 * (j + 1)))), (6, .int r_62), (5, .int 0), (0, .ref b), (1, .ref g), (2, .ref x0), (3, .ref o)]) hx hb dL_law_1335 hl (k := 2) rfl (by show nI (5 * j) + 5 = nI (5 * (j + 1)); exact nI_add (5 * j) 5) (by decide) rfl (fun ls hl => ?_)
            refine lv_goto (tgt := 23) hx hb dL_law_1338 (by decide) ?_
            refine W.widen (k := 20 + 5 * (j + 1)) (n := 914 + 30 * (j + 1)) (by omega) (by omega) ?_
            exact ih (j + 1) _ _ _ _ _ _ _ _ _ _ _ _ _ _ _ _ _ _ _ _ _ _ _ _ _ _ _ _ _ _ _ (by omega) (by omega) hG9 hP hD hS (lv_sub hl [0, 3, 4, 5, 6] rfl)
        · have hG9 := hLo hcd
          have hu9 := hol9 hcd
          have hP : va_P D vwCl ((x0, .inr (3, [.int gr, .int sh, .int rt, .int ce, .int (nI nl), .ref x1, .ref x2, .ref x3, .ref x4, .ref x5, .ref x6, .int (nI nv), .ref x7, .ref x8, .ref x9, .ref x10, .ref x11, .int am, .int (nI nc), .int cd, .ref x12, .int u_62, .ref x13, .ref x14])) :: (x1, .inl (cyI, 12, .inl bud)) :: (x2, .inl (cyI, 12, .inl fsd)) :: (x3, .inl (cyI, 12, .inl las)) :: (x4, .inl (cyZ, 12, .inl isB)) :: (x5, .inl (cyI, 12, .inl mto)) :: (x6, .inl (cyI, 12, .inl maw)) :: (x7, .inl (cyI, 100, .inl lno)) :: (x8, .inl (cyI, 100, .inl dya)) :: (x9, .inl (cyI, 100, .inl amo)) :: (x10, .inl (cyZ, 100, .inl rfd)) :: (x11, .inl (cyI, 100, .inl ord)) :: (x12, .inl (cyI, 40, .inl cpa)) :: (x13, .inl (cyI, 100, .inl eli)) :: (x14, .inl (cyI, 12, .inl usd)) :: (o, .inl (cyJ, 1, .inr (.inl u_61.1))) :: u_61.2) H := hP
          have hD : va_D A ((x0, .inr (3, [.int gr, .int sh, .int rt, .int ce, .int (nI nl), .ref x1, .ref x2, .ref x3, .ref x4, .ref x5, .ref x6, .int (nI nv), .ref x7, .ref x8, .ref x9, .ref x10, .ref x11, .int am, .int (nI nc), .int cd, .ref x12, .int u_62, .ref x13, .ref x14])) :: (x1, .inl (cyI, 12, .inl bud)) :: (x2, .inl (cyI, 12, .inl fsd)) :: (x3, .inl (cyI, 12, .inl las)) :: (x4, .inl (cyZ, 12, .inl isB)) :: (x5, .inl (cyI, 12, .inl mto)) :: (x6, .inl (cyI, 12, .inl maw)) :: (x7, .inl (cyI, 100, .inl lno)) :: (x8, .inl (cyI, 100, .inl dya)) :: (x9, .inl (cyI, 100, .inl amo)) :: (x10, .inl (cyZ, 100, .inl rfd)) :: (x11, .inl (cyI, 100, .inl ord)) :: (x12, .inl (cyI, 40, .inl cpa)) :: (x13, .inl (cyI, 100, .inl eli)) :: (x14, .inl (cyI, 12, .inl usd)) :: (o, .inl (cyJ, 1, .inr (.inl u_61.1))) :: u_61.2) := hD
          refine lv_istore (lv' := [(6, .int r_62), (5, .int r_61), (4, .int (nI (5 * j))), (0, .ref b), (1, .ref g), (2, .ref x0), (3, .ref o)]) hx hb dL_law_877 hl (by decide) rfl (fun ls hl => ?_)
          refine lv_aload_n hx hb dL_law_879 rfl (lv_at hl 5 rfl) ?_
          have hF_66 := gk_all hD hS hA
          refine va_calli (va_runV (As := []) (rest := []) ⟨hx, hb, hml, hown, hts⟩ (kX3_thrown l D cyI cyZ cyL cyV cyJ x0 x1 x2 x3 x4 x5 x6 x7 x8 x9 x10 x11 x12 x13 x14 gr sh rt ce nl nv am nc cd u_62 bud fsd las isB mto maw lno dya amo rfd ord cpa eli usd ((o, .inl (cyJ, 1, .inr (.inl u_61.1))) :: u_61.2)  H.size _ rfl) (cwV 0 hts gL_law_X3_thrown rfl rfl rfl (by decide +kernel) ⟨(Nat.le_of_ble_eq_true rfl), (Nat.le_of_ble_eq_true rfl)⟩) (gk_preV hP hK hD (va_recv hK hP (ci := 3) (q0 := 0) rfl rfl)) rfl rfl hl.1 rfl (lv_room (Nat.le_of_ble_eq_true rfl)) dL_law_880 ⟨(by show _ ≤ (601024 : Nat); omega), (by show _ ≤ (7293034 : Nat); omega)⟩) hS (fun q _ h => hF_66 q h) hF_66 (fun r_66 u_66 t_66 H locs ht_66 hvm_66 hw_66 hB_66 hz_66 hk_66 hS => ?_)
          obtain ⟨hP, hD⟩ := gk_back hF_66 hB_66 ht_66
          subst hw_66
          refine lv_iload hx hb dL_law_883 (lv_at hl 1 rfl) ?_
          refine lv_icmp_eq (tgt := 890) hx hb dL_law_885 (by decide) (fun _ => ?_) (fun c9 => absurd (hth.trans hLk.symm) c9)
          refine lv_iload hx hb dL_law_890 (lv_at hl 1 rfl) ?_
          refine lv_if_ne (tgt := 914) hx hb dL_law_892 (by decide) (fun _ => ?_) (fun c9 => absurd (hLk.symm.trans c9) hcd)
          refine lv_goto (tgt := 1335) hx hb dL_law_914 (by decide) ?_
          refine lv_iinc (v := (nI (5 * (j + 1)))) (lv' := [(4, .int (nI (5 * (j + 1)))), (6, .int r_62), (5, .int r_61), (0, .ref b), (1, .ref g), (2, .ref x0), (3, .ref o)]) hx hb dL_law_1335 hl (k := 2) rfl (by show nI (5 * j) + 5 = nI (5 * (j + 1)); exact nI_add (5 * j) 5) (by decide) rfl (fun ls hl => ?_)
          refine lv_goto (tgt := 23) hx hb dL_law_1338 (by decide) ?_
          refine W.widen (k := 20 + 5 * (j + 1)) (n := 914 + 30 * (j + 1)) (by omega) (by omega) ?_
          exact ih (j + 1) _ _ _ _ _ _ _ _ _ _ _ _ _ _ _ _ _ _ _ _ _ _ _ _ _ _ _ _ _ _ _ (by omega) (by omega) hG9 hP hD hS (lv_sub hl [0, 3, 4, 5, 6] rfl)
      · rw [hsw]
        refine lv_tableIn (off := 878) (tgt := 917) hx hb dL_law_39 (by decide) (by decide) rfl (by decide) ?_
        refine lv_aload_n hx hb dL_law_917 rfl (lv_at hl 2 rfl) ?_
        refine lv_aload_n hx hb dL_law_918 rfl (lv_at hl 1 rfl) ?_
        refine lv_iload hx hb dL_law_919 (lv_at hl 0 rfl) ?_
        refine lv_iconst (v := 1) hx hb dL_law_921 (by decide) ?_
        refine lv_iadd hx hb dL_law_922 ?_
        rw [show nI (5 * j) + 1 = nI (5 * j + 1) from nI_add (5 * j) 1]
        refine gk_sld (i := (5 * j + 1)) hx hb hX hbl hbA hS (by omega) hL dL_law_923 ?_
        refine lv_aload_n hx hb dL_law_924 rfl (lv_at hl 4 rfl) ?_
        have hF_67 := gk_all hD hS hA
        refine va_calli (vx_runSW (As := [.ref g, .int (xs (5 * j + 1)), .ref o]) (rest := []) ⟨hx, hb, hml, hown, hts⟩ (kL_eligible l hst D cyI cyZ cyL cyV cyJ gr sh rt ce nl nv am nc cd bud fsd las isB mto maw lno dya amo rfd ord cpa lnf orf g o (x0, .inr (3, [.int gr, .int sh, .int rt, .int ce, .int (nI nl), .ref x1, .ref x2, .ref x3, .ref x4, .ref x5, .ref x6, .int (nI nv), .ref x7, .ref x8, .ref x9, .ref x10, .ref x11, .int am, .int (nI nc), .int cd, .ref x12, .int th, .ref x13, .ref x14])) (x1, .inl (cyI, 12, .inl bud)) (x2, .inl (cyI, 12, .inl fsd)) (x3, .inl (cyI, 12, .inl las)) (x4, .inl (cyZ, 12, .inl isB)) (x5, .inl (cyI, 12, .inl mto)) (x6, .inl (cyI, 12, .inl maw)) (x7, .inl (cyI, 100, .inl lno)) (x8, .inl (cyI, 100, .inl dya)) (x9, .inl (cyI, 100, .inl amo)) (x10, .inl (cyZ, 100, .inl rfd)) (x11, .inl (cyI, 100, .inl ord)) (x12, .inl (cyI, 40, .inl cpa)) (x13, .inl (cyI, 100, .inl eli)) (x14, .inl (cyI, 12, .inl usd)) fo G hG (xs (5 * j + 1)) H.size _ rfl) (vx_cwSW 3 hts gL_law_L_eligible rfl rfl rfl (by decide +kernel) ⟨(Nat.le_of_ble_eq_true rfl), (Nat.le_of_ble_eq_true rfl)⟩) (gk_preSN hNC hTF hS hF_67 hP hK hD) rfl rfl hl.1 rfl (lv_room (Nat.le_of_ble_eq_true rfl)) dL_law_925 ⟨(by show _ ≤ (601024 : Nat); omega), (by show _ ≤ (7293034 : Nat); omega)⟩) hS (fun q _ h => hF_67 q h) hF_67 (fun r_67 u_67 t_67 H locs ht_67 hvm_67 hw_67 hB_67 hz_67 hk_67 hS => ?_)
        obtain ⟨hP, hD⟩ := gk_back hF_67 hB_67 ht_67
        refine lv_istore (lv' := [(5, .int r_67), (4, .int (nI (5 * j))), (0, .ref b), (1, .ref g), (2, .ref x0), (3, .ref o)]) hx hb dL_law_928 hl (by decide) rfl (fun ls hl => ?_)
        refine lv_aload_n hx hb dL_law_930 rfl (lv_at hl 4 rfl) ?_
        refine lv_aload_n hx hb dL_law_931 rfl (lv_at hl 2 rfl) ?_
        refine lv_iload hx hb dL_law_932 (lv_at hl 1 rfl) ?_
        refine lv_iconst (v := 1) hx hb dL_law_934 (by decide) ?_
        refine lv_iadd hx hb dL_law_935 ?_
        rw [show nI (5 * j) + 1 = nI (5 * j + 1) from nI_add (5 * j) 1]
        refine gk_sld (i := (5 * j + 1)) hx hb hX hbl hbA hS (by omega) hL dL_law_936 ?_
        have hF_68 := gk_all hD hS hA
        refine va_calli (va_runV (As := [.int (xs (5 * j + 1))]) (rest := []) ⟨hx, hb, hml, hown, hts⟩ (kX3_eligible l D cyI cyZ cyL cyV cyJ x0 x1 x2 x3 x4 x5 x6 x7 x8 x9 x10 x11 x12 x13 x14 gr sh rt ce nl nv am nc cd th bud fsd las isB mto maw lno dya amo rfd ord cpa eli usd ((o, .inl (cyJ, 1, .inr (.inl u_67.1))) :: u_67.2) hM.1.1 hM.1.2.1 lnf hM.2.1 orf hM.2.2.1 hM.2.2.2.1 (xs (5 * j + 1)) H.size _ rfl) (cwV 1 hts gL_law_X3_eligible rfl rfl rfl (by decide +kernel) ⟨(Nat.le_of_ble_eq_true rfl), (Nat.le_of_ble_eq_true rfl)⟩) (gk_preV hP hK hD (va_recv hK hP (ci := 3) (q0 := 0) rfl rfl)) rfl rfl hl.1 rfl (lv_room (Nat.le_of_ble_eq_true rfl)) dL_law_937 ⟨(by show _ ≤ (601024 : Nat); omega), (by show _ ≤ (7293034 : Nat); omega)⟩) hS (fun q _ h => hF_68 q h) hF_68 (fun r_68 u_68 t_68 H locs ht_68 hvm_68 hw_68 hB_68 hz_68 hk_68 hS => ?_)
        obtain ⟨hP, hD⟩ := gk_back hF_68 hB_68 ht_68
        obtain ⟨th9, eli9, usd9⟩ := u_68
        obtain ⟨hth, hsu9, hol9⟩ := hw_68
        obtain ⟨hLk, hLs, hLo⟩ := hw_67
        by_cases hcd : cNum nv (xs (5 * j + 1)) = 0
        · have hk0 : r_67 = 0 := hLk.trans hcd
          obtain ⟨hout, hG9⟩ := hLs hcd
          have hr9 := hsu9 hcd
          subst hk0
          have hP : va_P D vwCl ((x0, .inr (3, [.int gr, .int sh, .int rt, .int ce, .int (nI nl), .ref x1, .ref x2, .ref x3, .ref x4, .ref x5, .ref x6, .int (nI nv), .ref x7, .ref x8, .ref x9, .ref x10, .ref x11, .int am, .int (nI nc), .int cd, .ref x12, .int th9, .ref x13, .ref x14])) :: (x1, .inl (cyI, 12, .inl bud)) :: (x2, .inl (cyI, 12, .inl fsd)) :: (x3, .inl (cyI, 12, .inl las)) :: (x4, .inl (cyZ, 12, .inl isB)) :: (x5, .inl (cyI, 12, .inl mto)) :: (x6, .inl (cyI, 12, .inl maw)) :: (x7, .inl (cyI, 100, .inl lno)) :: (x8, .inl (cyI, 100, .inl dya)) :: (x9, .inl (cyI, 100, .inl amo)) :: (x10, .inl (cyZ, 100, .inl rfd)) :: (x11, .inl (cyI, 100, .inl ord)) :: (x12, .inl (cyI, 40, .inl cpa)) :: (x13, .inl (cyI, 100, .inl eli9)) :: (x14, .inl (cyI, 12, .inl usd9)) :: (o, .inl (cyJ, 1, .inr (.inl u_67.1))) :: u_67.2) H := hP
          have hD : va_D A ((x0, .inr (3, [.int gr, .int sh, .int rt, .int ce, .int (nI nl), .ref x1, .ref x2, .ref x3, .ref x4, .ref x5, .ref x6, .int (nI nv), .ref x7, .ref x8, .ref x9, .ref x10, .ref x11, .int am, .int (nI nc), .int cd, .ref x12, .int th9, .ref x13, .ref x14])) :: (x1, .inl (cyI, 12, .inl bud)) :: (x2, .inl (cyI, 12, .inl fsd)) :: (x3, .inl (cyI, 12, .inl las)) :: (x4, .inl (cyZ, 12, .inl isB)) :: (x5, .inl (cyI, 12, .inl mto)) :: (x6, .inl (cyI, 12, .inl maw)) :: (x7, .inl (cyI, 100, .inl lno)) :: (x8, .inl (cyI, 100, .inl dya)) :: (x9, .inl (cyI, 100, .inl amo)) :: (x10, .inl (cyZ, 100, .inl rfd)) :: (x11, .inl (cyI, 100, .inl ord)) :: (x12, .inl (cyI, 40, .inl cpa)) :: (x13, .inl (cyI, 100, .inl eli9)) :: (x14, .inl (cyI, 12, .inl usd9)) :: (o, .inl (cyJ, 1, .inr (.inl u_67.1))) :: u_67.2) := hD
          refine lv_istore (lv' := [(6, .int r_68), (5, .int 0), (4, .int (nI (5 * j))), (0, .ref b), (1, .ref g), (2, .ref x0), (3, .ref o)]) hx hb dL_law_940 hl (by decide) rfl (fun ls hl => ?_)
          refine lv_aload_n hx hb dL_law_942 rfl (lv_at hl 5 rfl) ?_
          have hF_69 := gk_all hD hS hA
          refine va_calli (va_runV (As := []) (rest := []) ⟨hx, hb, hml, hown, hts⟩ (kX3_thrown l D cyI cyZ cyL cyV cyJ x0 x1 x2 x3 x4 x5 x6 x7 x8 x9 x10 x11 x12 x13 x14 gr sh rt ce nl nv am nc cd th9 bud fsd las isB mto maw lno dya amo rfd ord cpa eli9 usd9 ((o, .inl (cyJ, 1, .inr (.inl u_67.1))) :: u_67.2)  H.size _ rfl) (cwV 0 hts gL_law_X3_thrown rfl rfl rfl (by decide +kernel) ⟨(Nat.le_of_ble_eq_true rfl), (Nat.le_of_ble_eq_true rfl)⟩) (gk_preV hP hK hD (va_recv hK hP (ci := 3) (q0 := 0) rfl rfl)) rfl rfl hl.1 rfl (lv_room (Nat.le_of_ble_eq_true rfl)) dL_law_943 ⟨(by show _ ≤ (601024 : Nat); omega), (by show _ ≤ (7293034 : Nat); omega)⟩) hS (fun q _ h => hF_69 q h) hF_69 (fun r_69 u_69 t_69 H locs ht_69 hvm_69 hw_69 hB_69 hz_69 hk_69 hS => ?_)
          obtain ⟨hP, hD⟩ := gk_back hF_69 hB_69 ht_69
          subst hw_69
          refine lv_iload hx hb dL_law_946 (lv_at hl 1 rfl) ?_
          refine lv_icmp_eq (tgt := 953) hx hb dL_law_948 (by decide) (fun _ => ?_) (fun c9 => absurd (hth.trans hLk.symm) c9)
          refine lv_iload hx hb dL_law_953 (lv_at hl 1 rfl) ?_
          refine lv_if_ne (tgt := 970) hx hb dL_law_955 (by decide) (fun c => by first | exact absurd c (by decide) | exact absurd (by decide) c) (fun _ => ?_)
          refine lv_aload_n hx hb dL_law_958 rfl (lv_at hl 6 rfl) ?_
          refine lv_iconst (v := 0) hx hb dL_law_959 (by decide) ?_
          refine va_lald hx hb hK hP 15 4 rfl rfl (i := 0) (show ¬ ((0 : Int32) < 0 ∨ 1 ≤ (0 : Int32).toNatClampNeg) by decide) dL_law_960 ?_
          refine lv_iload hx hb dL_law_961 (lv_at hl 0 rfl) ?_
          refine lv_i2l hx hb dL_law_963 rfl ?_
          refine W.lcmp hx hb dL_law_964 ?_
          refine lv_if_eq (tgt := 970) hx hb dL_law_965 (by decide) (fun _ => ?_) (fun c9 => absurd ((lg_cmp_eq _ _).mpr (show u_67.1 0 = r_68.toInt64 by rw [hout, hr9])) c9)
          refine lv_goto (tgt := 1335) hx hb dL_law_970 (by decide) ?_
          refine lv_iinc (v := (nI (5 * (j + 1)))) (lv' := [(4, .int (nI (5 * (j + 1)))), (6, .int r_68), (5, .int 0), (0, .ref b), (1, .ref g), (2, .ref x0), (3, .ref o)]) hx hb dL_law_1335 hl (k := 2) rfl (by show nI (5 * j) + 5 = nI (5 * (j + 1)); exact nI_add (5 * j) 5) (by decide) rfl (fun ls hl => ?_)
          refine lv_goto (tgt := 23) hx hb dL_law_1338 (by decide) ?_
          refine W.widen (k := 20 + 5 * (j + 1)) (n := 914 + 30 * (j + 1)) (by omega) (by omega) ?_
          exact ih (j + 1) _ _ _ _ _ _ _ _ _ _ _ _ _ _ _ _ _ _ _ _ _ _ _ _ _ _ _ _ _ _ _ (by omega) (by omega) hG9 hP hD hS (lv_sub hl [0, 3, 4, 5, 6] rfl)
        · have hG9 := hLo hcd
          have hu9 := hol9 hcd
          have hP : va_P D vwCl ((x0, .inr (3, [.int gr, .int sh, .int rt, .int ce, .int (nI nl), .ref x1, .ref x2, .ref x3, .ref x4, .ref x5, .ref x6, .int (nI nv), .ref x7, .ref x8, .ref x9, .ref x10, .ref x11, .int am, .int (nI nc), .int cd, .ref x12, .int th9, .ref x13, .ref x14])) :: (x1, .inl (cyI, 12, .inl bud)) :: (x2, .inl (cyI, 12, .inl fsd)) :: (x3, .inl (cyI, 12, .inl las)) :: (x4, .inl (cyZ, 12, .inl isB)) :: (x5, .inl (cyI, 12, .inl mto)) :: (x6, .inl (cyI, 12, .inl maw)) :: (x7, .inl (cyI, 100, .inl lno)) :: (x8, .inl (cyI, 100, .inl dya)) :: (x9, .inl (cyI, 100, .inl amo)) :: (x10, .inl (cyZ, 100, .inl rfd)) :: (x11, .inl (cyI, 100, .inl ord)) :: (x12, .inl (cyI, 40, .inl cpa)) :: (x13, .inl (cyI, 100, .inl eli9)) :: (x14, .inl (cyI, 12, .inl usd9)) :: (o, .inl (cyJ, 1, .inr (.inl u_67.1))) :: u_67.2) H := hP
          have hD : va_D A ((x0, .inr (3, [.int gr, .int sh, .int rt, .int ce, .int (nI nl), .ref x1, .ref x2, .ref x3, .ref x4, .ref x5, .ref x6, .int (nI nv), .ref x7, .ref x8, .ref x9, .ref x10, .ref x11, .int am, .int (nI nc), .int cd, .ref x12, .int th9, .ref x13, .ref x14])) :: (x1, .inl (cyI, 12, .inl bud)) :: (x2, .inl (cyI, 12, .inl fsd)) :: (x3, .inl (cyI, 12, .inl las)) :: (x4, .inl (cyZ, 12, .inl isB)) :: (x5, .inl (cyI, 12, .inl mto)) :: (x6, .inl (cyI, 12, .inl maw)) :: (x7, .inl (cyI, 100, .inl lno)) :: (x8, .inl (cyI, 100, .inl dya)) :: (x9, .inl (cyI, 100, .inl amo)) :: (x10, .inl (cyZ, 100, .inl rfd)) :: (x11, .inl (cyI, 100, .inl ord)) :: (x12, .inl (cyI, 40, .inl cpa)) :: (x13, .inl (cyI, 100, .inl eli9)) :: (x14, .inl (cyI, 12, .inl usd9)) :: (o, .inl (cyJ, 1, .inr (.inl u_67.1))) :: u_67.2) := hD
          refine lv_istore (lv' := [(6, .int r_68), (5, .int r_67), (4, .int (nI (5 * j))), (0, .ref b), (1, .ref g), (2, .ref x0), (3, .ref o)]) hx hb dL_law_940 hl (by decide) rfl (fun ls hl => ?_)
          refine lv_aload_n hx hb dL_law_942 rfl (lv_at hl 5 rfl) ?_
          have hF_71 := gk_all hD hS hA
          refine va_calli (va_runV (As := []) (rest := []) ⟨hx, hb, hml, hown, hts⟩ (kX3_thrown l D cyI cyZ cyL cyV cyJ x0 x1 x2 x3 x4 x5 x6 x7 x8 x9 x10 x11 x12 x13 x14 gr sh rt ce nl nv am nc cd th9 bud fsd las isB mto maw lno dya amo rfd ord cpa eli9 usd9 ((o, .inl (cyJ, 1, .inr (.inl u_67.1))) :: u_67.2)  H.size _ rfl) (cwV 0 hts gL_law_X3_thrown rfl rfl rfl (by decide +kernel) ⟨(Nat.le_of_ble_eq_true rfl), (Nat.le_of_ble_eq_true rfl)⟩) (gk_preV hP hK hD (va_recv hK hP (ci := 3) (q0 := 0) rfl rfl)) rfl rfl hl.1 rfl (lv_room (Nat.le_of_ble_eq_true rfl)) dL_law_943 ⟨(by show _ ≤ (601024 : Nat); omega), (by show _ ≤ (7293034 : Nat); omega)⟩) hS (fun q _ h => hF_71 q h) hF_71 (fun r_71 u_71 t_71 H locs ht_71 hvm_71 hw_71 hB_71 hz_71 hk_71 hS => ?_)
          obtain ⟨hP, hD⟩ := gk_back hF_71 hB_71 ht_71
          subst hw_71
          refine lv_iload hx hb dL_law_946 (lv_at hl 1 rfl) ?_
          refine lv_icmp_eq (tgt := 953) hx hb dL_law_948 (by decide) (fun _ => ?_) (fun c9 => absurd (hth.trans hLk.symm) c9)
          refine lv_iload hx hb dL_law_953 (lv_at hl 1 rfl) ?_
          refine lv_if_ne (tgt := 970) hx hb dL_law_955 (by decide) (fun _ => ?_) (fun c9 => absurd (hLk.symm.trans c9) hcd)
          refine lv_goto (tgt := 1335) hx hb dL_law_970 (by decide) ?_
          refine lv_iinc (v := (nI (5 * (j + 1)))) (lv' := [(4, .int (nI (5 * (j + 1)))), (6, .int r_68), (5, .int r_67), (0, .ref b), (1, .ref g), (2, .ref x0), (3, .ref o)]) hx hb dL_law_1335 hl (k := 2) rfl (by show nI (5 * j) + 5 = nI (5 * (j + 1)); exact nI_add (5 * j) 5) (by decide) rfl (fun ls hl => ?_)
          refine lv_goto (tgt := 23) hx hb dL_law_1338 (by decide) ?_
          refine W.widen (k := 20 + 5 * (j + 1)) (n := 914 + 30 * (j + 1)) (by omega) (by omega) ?_
          exact ih (j + 1) _ _ _ _ _ _ _ _ _ _ _ _ _ _ _ _ _ _ _ _ _ _ _ _ _ _ _ _ _ _ _ (by omega) (by omega) hG9 hP hD hS (lv_sub hl [0, 3, 4, 5, 6] rfl)
      · rw [hsw]
        refine lv_tableIn (off := 934) (tgt := 973) hx hb dL_law_39 (by decide) (by decide) rfl (by decide) ?_
        refine lv_aload_n hx hb dL_law_973 rfl (lv_at hl 2 rfl) ?_
        refine lv_aload_n hx hb dL_law_974 rfl (lv_at hl 1 rfl) ?_
        refine lv_iload hx hb dL_law_975 (lv_at hl 0 rfl) ?_
        refine lv_iconst (v := 1) hx hb dL_law_977 (by decide) ?_
        refine lv_iadd hx hb dL_law_978 ?_
        rw [show nI (5 * j) + 1 = nI (5 * j + 1) from nI_add (5 * j) 1]
        refine gk_sld (i := (5 * j + 1)) hx hb hX hbl hbA hS (by omega) hL dL_law_979 ?_
        refine lv_aload_n hx hb dL_law_980 rfl (lv_at hl 4 rfl) ?_
        have hF_72 := gk_all hD hS hA
        refine va_calli (vx_runSW (As := [.ref g, .int (xs (5 * j + 1)), .ref o]) (rest := []) ⟨hx, hb, hml, hown, hts⟩ (kL_costs l hst D cyI cyZ cyL cyV cyJ gr sh rt ce nl nv am nc cd bud fsd las isB mto maw lno dya amo rfd ord cpa lnf orf g o (x0, .inr (3, [.int gr, .int sh, .int rt, .int ce, .int (nI nl), .ref x1, .ref x2, .ref x3, .ref x4, .ref x5, .ref x6, .int (nI nv), .ref x7, .ref x8, .ref x9, .ref x10, .ref x11, .int am, .int (nI nc), .int cd, .ref x12, .int th, .ref x13, .ref x14])) (x1, .inl (cyI, 12, .inl bud)) (x2, .inl (cyI, 12, .inl fsd)) (x3, .inl (cyI, 12, .inl las)) (x4, .inl (cyZ, 12, .inl isB)) (x5, .inl (cyI, 12, .inl mto)) (x6, .inl (cyI, 12, .inl maw)) (x7, .inl (cyI, 100, .inl lno)) (x8, .inl (cyI, 100, .inl dya)) (x9, .inl (cyI, 100, .inl amo)) (x10, .inl (cyZ, 100, .inl rfd)) (x11, .inl (cyI, 100, .inl ord)) (x12, .inl (cyI, 40, .inl cpa)) (x13, .inl (cyI, 100, .inl eli)) (x14, .inl (cyI, 12, .inl usd)) fo G hG (xs (5 * j + 1)) H.size _ rfl) (vx_cwSW 3 hts gL_law_L_costs rfl rfl rfl (by decide +kernel) ⟨(Nat.le_of_ble_eq_true rfl), (Nat.le_of_ble_eq_true rfl)⟩) (gk_preSN hNC hTF hS hF_72 hP hK hD) rfl rfl hl.1 rfl (lv_room (Nat.le_of_ble_eq_true rfl)) dL_law_981 ⟨(by show _ ≤ (601024 : Nat); omega), (by show _ ≤ (7293034 : Nat); omega)⟩) hS (fun q _ h => hF_72 q h) hF_72 (fun r_72 u_72 t_72 H locs ht_72 hvm_72 hw_72 hB_72 hz_72 hk_72 hS => ?_)
        obtain ⟨hP, hD⟩ := gk_back hF_72 hB_72 ht_72
        refine lv_istore (lv' := [(5, .int r_72), (4, .int (nI (5 * j))), (0, .ref b), (1, .ref g), (2, .ref x0), (3, .ref o)]) hx hb dL_law_984 hl (by decide) rfl (fun ls hl => ?_)
        refine lv_aload_n hx hb dL_law_986 rfl (lv_at hl 4 rfl) ?_
        refine lv_aload_n hx hb dL_law_987 rfl (lv_at hl 2 rfl) ?_
        refine lv_iload hx hb dL_law_988 (lv_at hl 1 rfl) ?_
        refine lv_iconst (v := 1) hx hb dL_law_990 (by decide) ?_
        refine lv_iadd hx hb dL_law_991 ?_
        rw [show nI (5 * j) + 1 = nI (5 * j + 1) from nI_add (5 * j) 1]
        refine gk_sld (i := (5 * j + 1)) hx hb hX hbl hbA hS (by omega) hL dL_law_992 ?_
        have hF_73 := gk_all hD hS hA
        refine va_calli (va_runV (As := [.int (xs (5 * j + 1))]) (rest := []) ⟨hx, hb, hml, hown, hts⟩ (kX3_costs l D cyI cyZ cyL cyV cyJ x0 x1 x2 x3 x4 x5 x6 x7 x8 x9 x10 x11 x12 x13 x14 gr sh rt ce nl nv am nc cd th bud fsd las isB mto maw lno dya amo rfd ord cpa eli usd ((o, .inl (cyJ, 1, .inr (.inl u_72.1))) :: u_72.2) hM.1.1 hM.1.2.1 lnf hM.2.1 orf hM.2.2.1 hM.2.2.2.1 (xs (5 * j + 1)) H.size _ rfl) (cwV 1 hts gL_law_X3_costs rfl rfl rfl (by decide +kernel) ⟨(Nat.le_of_ble_eq_true rfl), (Nat.le_of_ble_eq_true rfl)⟩) (gk_preV hP hK hD (va_recv hK hP (ci := 3) (q0 := 0) rfl rfl)) rfl rfl hl.1 rfl (lv_room (Nat.le_of_ble_eq_true rfl)) dL_law_993 ⟨(by show _ ≤ (601024 : Nat); omega), (by show _ ≤ (7293034 : Nat); omega)⟩) hS (fun q _ h => hF_73 q h) hF_73 (fun r_73 u_73 t_73 H locs ht_73 hvm_73 hw_73 hB_73 hz_73 hk_73 hS => ?_)
        obtain ⟨hP, hD⟩ := gk_back hF_73 hB_73 ht_73
        obtain ⟨th9, eli9, usd9⟩ := u_73
        obtain ⟨hth, hsu9, hol9⟩ := hw_73
        obtain ⟨hLk, hLs, hLo⟩ := hw_72
        by_cases hcd : cDay (xs (5 * j + 1)) = 0
        · have hk0 : r_72 = 0 := hLk.trans hcd
          obtain ⟨hout, hG9⟩ := hLs hcd
          have hr9 := hsu9 hcd
          subst hk0
          have hP : va_P D vwCl ((x0, .inr (3, [.int gr, .int sh, .int rt, .int ce, .int (nI nl), .ref x1, .ref x2, .ref x3, .ref x4, .ref x5, .ref x6, .int (nI nv), .ref x7, .ref x8, .ref x9, .ref x10, .ref x11, .int am, .int (nI nc), .int cd, .ref x12, .int th9, .ref x13, .ref x14])) :: (x1, .inl (cyI, 12, .inl bud)) :: (x2, .inl (cyI, 12, .inl fsd)) :: (x3, .inl (cyI, 12, .inl las)) :: (x4, .inl (cyZ, 12, .inl isB)) :: (x5, .inl (cyI, 12, .inl mto)) :: (x6, .inl (cyI, 12, .inl maw)) :: (x7, .inl (cyI, 100, .inl lno)) :: (x8, .inl (cyI, 100, .inl dya)) :: (x9, .inl (cyI, 100, .inl amo)) :: (x10, .inl (cyZ, 100, .inl rfd)) :: (x11, .inl (cyI, 100, .inl ord)) :: (x12, .inl (cyI, 40, .inl cpa)) :: (x13, .inl (cyI, 100, .inl eli9)) :: (x14, .inl (cyI, 12, .inl usd9)) :: (o, .inl (cyJ, 1, .inr (.inl u_72.1))) :: u_72.2) H := hP
          have hD : va_D A ((x0, .inr (3, [.int gr, .int sh, .int rt, .int ce, .int (nI nl), .ref x1, .ref x2, .ref x3, .ref x4, .ref x5, .ref x6, .int (nI nv), .ref x7, .ref x8, .ref x9, .ref x10, .ref x11, .int am, .int (nI nc), .int cd, .ref x12, .int th9, .ref x13, .ref x14])) :: (x1, .inl (cyI, 12, .inl bud)) :: (x2, .inl (cyI, 12, .inl fsd)) :: (x3, .inl (cyI, 12, .inl las)) :: (x4, .inl (cyZ, 12, .inl isB)) :: (x5, .inl (cyI, 12, .inl mto)) :: (x6, .inl (cyI, 12, .inl maw)) :: (x7, .inl (cyI, 100, .inl lno)) :: (x8, .inl (cyI, 100, .inl dya)) :: (x9, .inl (cyI, 100, .inl amo)) :: (x10, .inl (cyZ, 100, .inl rfd)) :: (x11, .inl (cyI, 100, .inl ord)) :: (x12, .inl (cyI, 40, .inl cpa)) :: (x13, .inl (cyI, 100, .inl eli9)) :: (x14, .inl (cyI, 12, .inl usd9)) :: (o, .inl (cyJ, 1, .inr (.inl u_72.1))) :: u_72.2) := hD
          refine lv_istore (lv' := [(6, .int r_73), (5, .int 0), (4, .int (nI (5 * j))), (0, .ref b), (1, .ref g), (2, .ref x0), (3, .ref o)]) hx hb dL_law_996 hl (by decide) rfl (fun ls hl => ?_)
          refine lv_aload_n hx hb dL_law_998 rfl (lv_at hl 5 rfl) ?_
          have hF_74 := gk_all hD hS hA
          refine va_calli (va_runV (As := []) (rest := []) ⟨hx, hb, hml, hown, hts⟩ (kX3_thrown l D cyI cyZ cyL cyV cyJ x0 x1 x2 x3 x4 x5 x6 x7 x8 x9 x10 x11 x12 x13 x14 gr sh rt ce nl nv am nc cd th9 bud fsd las isB mto maw lno dya amo rfd ord cpa eli9 usd9 ((o, .inl (cyJ, 1, .inr (.inl u_72.1))) :: u_72.2)  H.size _ rfl) (cwV 0 hts gL_law_X3_thrown rfl rfl rfl (by decide +kernel) ⟨(Nat.le_of_ble_eq_true rfl), (Nat.le_of_ble_eq_true rfl)⟩) (gk_preV hP hK hD (va_recv hK hP (ci := 3) (q0 := 0) rfl rfl)) rfl rfl hl.1 rfl (lv_room (Nat.le_of_ble_eq_true rfl)) dL_law_999 ⟨(by show _ ≤ (601024 : Nat); omega), (by show _ ≤ (7293034 : Nat); omega)⟩) hS (fun q _ h => hF_74 q h) hF_74 (fun r_74 u_74 t_74 H locs ht_74 hvm_74 hw_74 hB_74 hz_74 hk_74 hS => ?_)
          obtain ⟨hP, hD⟩ := gk_back hF_74 hB_74 ht_74
          subst hw_74
          refine lv_iload hx hb dL_law_1002 (lv_at hl 1 rfl) ?_
          refine lv_icmp_eq (tgt := 1009) hx hb dL_law_1004 (by decide) (fun _ => ?_) (fun c9 => absurd (hth.trans hLk.symm) c9)
          refine lv_iload hx hb dL_law_1009 (lv_at hl 1 rfl) ?_
          refine lv_if_ne (tgt := 1026) hx hb dL_law_1011 (by decide) (fun c => by first | exact absurd c (by decide) | exact absurd (by decide) c) (fun _ => ?_)
          refine lv_aload_n hx hb dL_law_1014 rfl (lv_at hl 6 rfl) ?_
          refine lv_iconst (v := 0) hx hb dL_law_1015 (by decide) ?_
          refine va_lald hx hb hK hP 15 4 rfl rfl (i := 0) (show ¬ ((0 : Int32) < 0 ∨ 1 ≤ (0 : Int32).toNatClampNeg) by decide) dL_law_1016 ?_
          refine lv_iload hx hb dL_law_1017 (lv_at hl 0 rfl) ?_
          refine lv_i2l hx hb dL_law_1019 rfl ?_
          refine W.lcmp hx hb dL_law_1020 ?_
          refine lv_if_eq (tgt := 1026) hx hb dL_law_1021 (by decide) (fun _ => ?_) (fun c9 => absurd ((lg_cmp_eq _ _).mpr (show u_72.1 0 = r_73.toInt64 by rw [hout, hr9])) c9)
          refine lv_goto (tgt := 1335) hx hb dL_law_1026 (by decide) ?_
          refine lv_iinc (v := (nI (5 * (j + 1)))) (lv' := [(4, .int (nI (5 * (j + 1)))), (6, .int r_73), (5, .int 0), (0, .ref b), (1, .ref g), (2, .ref x0), (3, .ref o)]) hx hb dL_law_1335 hl (k := 2) rfl (by show nI (5 * j) + 5 = nI (5 * (j + 1)); exact nI_add (5 * j) 5) (by decide) rfl (fun ls hl => ?_)
          refine lv_goto (tgt := 23) hx hb dL_law_1338 (by decide) ?_
          refine W.widen (k := 20 + 5 * (j + 1)) (n := 914 + 30 * (j + 1)) (by omega) (by omega) ?_
          exact ih (j + 1) _ _ _ _ _ _ _ _ _ _ _ _ _ _ _ _ _ _ _ _ _ _ _ _ _ _ _ _ _ _ _ (by omega) (by omega) hG9 hP hD hS (lv_sub hl [0, 3, 4, 5, 6] rfl)
        · have hG9 := hLo hcd
          have hu9 := hol9 hcd
          have hP : va_P D vwCl ((x0, .inr (3, [.int gr, .int sh, .int rt, .int ce, .int (nI nl), .ref x1, .ref x2, .ref x3, .ref x4, .ref x5, .ref x6, .int (nI nv), .ref x7, .ref x8, .ref x9, .ref x10, .ref x11, .int am, .int (nI nc), .int cd, .ref x12, .int th9, .ref x13, .ref x14])) :: (x1, .inl (cyI, 12, .inl bud)) :: (x2, .inl (cyI, 12, .inl fsd)) :: (x3, .inl (cyI, 12, .inl las)) :: (x4, .inl (cyZ, 12, .inl isB)) :: (x5, .inl (cyI, 12, .inl mto)) :: (x6, .inl (cyI, 12, .inl maw)) :: (x7, .inl (cyI, 100, .inl lno)) :: (x8, .inl (cyI, 100, .inl dya)) :: (x9, .inl (cyI, 100, .inl amo)) :: (x10, .inl (cyZ, 100, .inl rfd)) :: (x11, .inl (cyI, 100, .inl ord)) :: (x12, .inl (cyI, 40, .inl cpa)) :: (x13, .inl (cyI, 100, .inl eli9)) :: (x14, .inl (cyI, 12, .inl usd9)) :: (o, .inl (cyJ, 1, .inr (.inl u_72.1))) :: u_72.2) H := hP
          have hD : va_D A ((x0, .inr (3, [.int gr, .int sh, .int rt, .int ce, .int (nI nl), .ref x1, .ref x2, .ref x3, .ref x4, .ref x5, .ref x6, .int (nI nv), .ref x7, .ref x8, .ref x9, .ref x10, .ref x11, .int am, .int (nI nc), .int cd, .ref x12, .int th9, .ref x13, .ref x14])) :: (x1, .inl (cyI, 12, .inl bud)) :: (x2, .inl (cyI, 12, .inl fsd)) :: (x3, .inl (cyI, 12, .inl las)) :: (x4, .inl (cyZ, 12, .inl isB)) :: (x5, .inl (cyI, 12, .inl mto)) :: (x6, .inl (cyI, 12, .inl maw)) :: (x7, .inl (cyI, 100, .inl lno)) :: (x8, .inl (cyI, 100, .inl dya)) :: (x9, .inl (cyI, 100, .inl amo)) :: (x10, .inl (cyZ, 100, .inl rfd)) :: (x11, .inl (cyI, 100, .inl ord)) :: (x12, .inl (cyI, 40, .inl cpa)) :: (x13, .inl (cyI, 100, .inl eli9)) :: (x14, .inl (cyI, 12, .inl usd9)) :: (o, .inl (cyJ, 1, .inr (.inl u_72.1))) :: u_72.2) := hD
          refine lv_istore (lv' := [(6, .int r_73), (5, .int r_72), (4, .int (nI (5 * j))), (0, .ref b), (1, .ref g), (2, .ref x0), (3, .ref o)]) hx hb dL_law_996 hl (by decide) rfl (fun ls hl => ?_)
          refine lv_aload_n hx hb dL_law_998 rfl (lv_at hl 5 rfl) ?_
          have hF_76 := gk_all hD hS hA
          refine va_calli (va_runV (As := []) (rest := []) ⟨hx, hb, hml, hown, hts⟩ (kX3_thrown l D cyI cyZ cyL cyV cyJ x0 x1 x2 x3 x4 x5 x6 x7 x8 x9 x10 x11 x12 x13 x14 gr sh rt ce nl nv am nc cd th9 bud fsd las isB mto maw lno dya amo rfd ord cpa eli9 usd9 ((o, .inl (cyJ, 1, .inr (.inl u_72.1))) :: u_72.2)  H.size _ rfl) (cwV 0 hts gL_law_X3_thrown rfl rfl rfl (by decide +kernel) ⟨(Nat.le_of_ble_eq_true rfl), (Nat.le_of_ble_eq_true rfl)⟩) (gk_preV hP hK hD (va_recv hK hP (ci := 3) (q0 := 0) rfl rfl)) rfl rfl hl.1 rfl (lv_room (Nat.le_of_ble_eq_true rfl)) dL_law_999 ⟨(by show _ ≤ (601024 : Nat); omega), (by show _ ≤ (7293034 : Nat); omega)⟩) hS (fun q _ h => hF_76 q h) hF_76 (fun r_76 u_76 t_76 H locs ht_76 hvm_76 hw_76 hB_76 hz_76 hk_76 hS => ?_)
          obtain ⟨hP, hD⟩ := gk_back hF_76 hB_76 ht_76
          subst hw_76
          refine lv_iload hx hb dL_law_1002 (lv_at hl 1 rfl) ?_
          refine lv_icmp_eq (tgt := 1009) hx hb dL_law_1004 (by decide) (fun _ => ?_) (fun c9 => absurd (hth.trans hLk.symm) c9)
          refine lv_iload hx hb dL_law_1009 (lv_at hl 1 rfl) ?_
          refine lv_if_ne (tgt := 1026) hx hb dL_law_1011 (by decide) (fun _ => ?_) (fun c9 => absurd (hLk.symm.trans c9) hcd)
          refine lv_goto (tgt := 1335) hx hb dL_law_1026 (by decide) ?_
          refine lv_iinc (v := (nI (5 * (j + 1)))) (lv' := [(4, .int (nI (5 * (j + 1)))), (6, .int r_73), (5, .int r_72), (0, .ref b), (1, .ref g), (2, .ref x0), (3, .ref o)]) hx hb dL_law_1335 hl (k := 2) rfl (by show nI (5 * j) + 5 = nI (5 * (j + 1)); exact nI_add (5 * j) 5) (by decide) rfl (fun ls hl => ?_)
          refine lv_goto (tgt := 23) hx hb dL_law_1338 (by decide) ?_
          refine W.widen (k := 20 + 5 * (j + 1)) (n := 914 + 30 * (j + 1)) (by omega) (by omega) ?_
          exact ih (j + 1) _ _ _ _ _ _ _ _ _ _ _ _ _ _ _ _ _ _ _ _ _ _ _ _ _ _ _ _ _ _ _ (by omega) (by omega) hG9 hP hD hS (lv_sub hl [0, 3, 4, 5, 6] rfl)
      · rw [hsw]
        refine lv_tableIn (off := 990) (tgt := 1029) hx hb dL_law_39 (by decide) (by decide) rfl (by decide) ?_
        refine lv_aload_n hx hb dL_law_1029 rfl (lv_at hl 2 rfl) ?_
        refine lv_aload_n hx hb dL_law_1030 rfl (lv_at hl 1 rfl) ?_
        refine lv_iload hx hb dL_law_1031 (lv_at hl 0 rfl) ?_
        refine lv_iconst (v := 1) hx hb dL_law_1033 (by decide) ?_
        refine lv_iadd hx hb dL_law_1034 ?_
        rw [show nI (5 * j) + 1 = nI (5 * j + 1) from nI_add (5 * j) 1]
        refine gk_sld (i := (5 * j + 1)) hx hb hX hbl hbA hS (by omega) hL dL_law_1035 ?_
        refine lv_aload_n hx hb dL_law_1036 rfl (lv_at hl 4 rfl) ?_
        have hF_77 := gk_all hD hS hA
        refine va_calli (vx_runSW (As := [.ref g, .int (xs (5 * j + 1)), .ref o]) (rest := []) ⟨hx, hb, hml, hown, hts⟩ (kL_overhead l hst D cyI cyZ cyL cyV cyJ gr sh rt ce nl nv am nc cd bud fsd las isB mto maw lno dya amo rfd ord cpa lnf orf g o (x0, .inr (3, [.int gr, .int sh, .int rt, .int ce, .int (nI nl), .ref x1, .ref x2, .ref x3, .ref x4, .ref x5, .ref x6, .int (nI nv), .ref x7, .ref x8, .ref x9, .ref x10, .ref x11, .int am, .int (nI nc), .int cd, .ref x12, .int th, .ref x13, .ref x14])) (x1, .inl (cyI, 12, .inl bud)) (x2, .inl (cyI, 12, .inl fsd)) (x3, .inl (cyI, 12, .inl las)) (x4, .inl (cyZ, 12, .inl isB)) (x5, .inl (cyI, 12, .inl mto)) (x6, .inl (cyI, 12, .inl maw)) (x7, .inl (cyI, 100, .inl lno)) (x8, .inl (cyI, 100, .inl dya)) (x9, .inl (cyI, 100, .inl amo)) (x10, .inl (cyZ, 100, .inl rfd)) (x11, .inl (cyI, 100, .inl ord)) (x12, .inl (cyI, 40, .inl cpa)) (x13, .inl (cyI, 100, .inl eli)) (x14, .inl (cyI, 12, .inl usd)) fo G hG (xs (5 * j + 1)) H.size _ rfl) (vx_cwSW 3 hts gL_law_L_overhead rfl rfl rfl (by decide +kernel) ⟨(Nat.le_of_ble_eq_true rfl), (Nat.le_of_ble_eq_true rfl)⟩) (gk_preSN hNC hTF hS hF_77 hP hK hD) rfl rfl hl.1 rfl (lv_room (Nat.le_of_ble_eq_true rfl)) dL_law_1037 ⟨(by show _ ≤ (601024 : Nat); omega), (by show _ ≤ (7293034 : Nat); omega)⟩) hS (fun q _ h => hF_77 q h) hF_77 (fun r_77 u_77 t_77 H locs ht_77 hvm_77 hw_77 hB_77 hz_77 hk_77 hS => ?_)
        obtain ⟨hP, hD⟩ := gk_back hF_77 hB_77 ht_77
        refine lv_istore (lv' := [(5, .int r_77), (4, .int (nI (5 * j))), (0, .ref b), (1, .ref g), (2, .ref x0), (3, .ref o)]) hx hb dL_law_1040 hl (by decide) rfl (fun ls hl => ?_)
        refine lv_aload_n hx hb dL_law_1042 rfl (lv_at hl 4 rfl) ?_
        refine lv_aload_n hx hb dL_law_1043 rfl (lv_at hl 2 rfl) ?_
        refine lv_iload hx hb dL_law_1044 (lv_at hl 1 rfl) ?_
        refine lv_iconst (v := 1) hx hb dL_law_1046 (by decide) ?_
        refine lv_iadd hx hb dL_law_1047 ?_
        rw [show nI (5 * j) + 1 = nI (5 * j + 1) from nI_add (5 * j) 1]
        refine gk_sld (i := (5 * j + 1)) hx hb hX hbl hbA hS (by omega) hL dL_law_1048 ?_
        have hF_78 := gk_all hD hS hA
        refine va_calli (va_runV (As := [.int (xs (5 * j + 1))]) (rest := []) ⟨hx, hb, hml, hown, hts⟩ (kX3_overhead l D cyI cyZ cyL cyV cyJ x0 x1 x2 x3 x4 x5 x6 x7 x8 x9 x10 x11 x12 x13 x14 gr sh rt ce nl nv am nc cd th bud fsd las isB mto maw lno dya amo rfd ord cpa eli usd ((o, .inl (cyJ, 1, .inr (.inl u_77.1))) :: u_77.2) hM.1.1 hM.1.2.1 lnf hM.2.1 orf hM.2.2.1 hM.2.2.2.1 (xs (5 * j + 1)) H.size _ rfl) (cwV 1 hts gL_law_X3_overhead rfl rfl rfl (by decide +kernel) ⟨(Nat.le_of_ble_eq_true rfl), (Nat.le_of_ble_eq_true rfl)⟩) (gk_preV hP hK hD (va_recv hK hP (ci := 3) (q0 := 0) rfl rfl)) rfl rfl hl.1 rfl (lv_room (Nat.le_of_ble_eq_true rfl)) dL_law_1049 ⟨(by show _ ≤ (601024 : Nat); omega), (by show _ ≤ (7293034 : Nat); omega)⟩) hS (fun q _ h => hF_78 q h) hF_78 (fun r_78 u_78 t_78 H locs ht_78 hvm_78 hw_78 hB_78 hz_78 hk_78 hS => ?_)
        obtain ⟨hP, hD⟩ := gk_back hF_78 hB_78 ht_78
        obtain ⟨th9, eli9, usd9⟩ := u_78
        obtain ⟨hth, hsu9, hol9⟩ := hw_78
        obtain ⟨hLk, hLs, hLo⟩ := hw_77
        by_cases hcd : cDay (xs (5 * j + 1)) = 0
        · have hk0 : r_77 = 0 := hLk.trans hcd
          obtain ⟨hout, hG9⟩ := hLs hcd
          have hr9 := hsu9 hcd
          subst hk0
          have hP : va_P D vwCl ((x0, .inr (3, [.int gr, .int sh, .int rt, .int ce, .int (nI nl), .ref x1, .ref x2, .ref x3, .ref x4, .ref x5, .ref x6, .int (nI nv), .ref x7, .ref x8, .ref x9, .ref x10, .ref x11, .int am, .int (nI nc), .int cd, .ref x12, .int th9, .ref x13, .ref x14])) :: (x1, .inl (cyI, 12, .inl bud)) :: (x2, .inl (cyI, 12, .inl fsd)) :: (x3, .inl (cyI, 12, .inl las)) :: (x4, .inl (cyZ, 12, .inl isB)) :: (x5, .inl (cyI, 12, .inl mto)) :: (x6, .inl (cyI, 12, .inl maw)) :: (x7, .inl (cyI, 100, .inl lno)) :: (x8, .inl (cyI, 100, .inl dya)) :: (x9, .inl (cyI, 100, .inl amo)) :: (x10, .inl (cyZ, 100, .inl rfd)) :: (x11, .inl (cyI, 100, .inl ord)) :: (x12, .inl (cyI, 40, .inl cpa)) :: (x13, .inl (cyI, 100, .inl eli9)) :: (x14, .inl (cyI, 12, .inl usd9)) :: (o, .inl (cyJ, 1, .inr (.inl u_77.1))) :: u_77.2) H := hP
          have hD : va_D A ((x0, .inr (3, [.int gr, .int sh, .int rt, .int ce, .int (nI nl), .ref x1, .ref x2, .ref x3, .ref x4, .ref x5, .ref x6, .int (nI nv), .ref x7, .ref x8, .ref x9, .ref x10, .ref x11, .int am, .int (nI nc), .int cd, .ref x12, .int th9, .ref x13, .ref x14])) :: (x1, .inl (cyI, 12, .inl bud)) :: (x2, .inl (cyI, 12, .inl fsd)) :: (x3, .inl (cyI, 12, .inl las)) :: (x4, .inl (cyZ, 12, .inl isB)) :: (x5, .inl (cyI, 12, .inl mto)) :: (x6, .inl (cyI, 12, .inl maw)) :: (x7, .inl (cyI, 100, .inl lno)) :: (x8, .inl (cyI, 100, .inl dya)) :: (x9, .inl (cyI, 100, .inl amo)) :: (x10, .inl (cyZ, 100, .inl rfd)) :: (x11, .inl (cyI, 100, .inl ord)) :: (x12, .inl (cyI, 40, .inl cpa)) :: (x13, .inl (cyI, 100, .inl eli9)) :: (x14, .inl (cyI, 12, .inl usd9)) :: (o, .inl (cyJ, 1, .inr (.inl u_77.1))) :: u_77.2) := hD
          refine lv_istore (lv' := [(6, .int r_78), (5, .int 0), (4, .int (nI (5 * j))), (0, .ref b), (1, .ref g), (2, .ref x0), (3, .ref o)]) hx hb dL_law_1052 hl (by decide) rfl (fun ls hl => ?_)
          refine lv_aload_n hx hb dL_law_1054 rfl (lv_at hl 5 rfl) ?_
          have hF_79 := gk_all hD hS hA
          refine va_calli (va_runV (As := []) (rest := []) ⟨hx, hb, hml, hown, hts⟩ (kX3_thrown l D cyI cyZ cyL cyV cyJ x0 x1 x2 x3 x4 x5 x6 x7 x8 x9 x10 x11 x12 x13 x14 gr sh rt ce nl nv am nc cd th9 bud fsd las isB mto maw lno dya amo rfd ord cpa eli9 usd9 ((o, .inl (cyJ, 1, .inr (.inl u_77.1))) :: u_77.2)  H.size _ rfl) (cwV 0 hts gL_law_X3_thrown rfl rfl rfl (by decide +kernel) ⟨(Nat.le_of_ble_eq_true rfl), (Nat.le_of_ble_eq_true rfl)⟩) (gk_preV hP hK hD (va_recv hK hP (ci := 3) (q0 := 0) rfl rfl)) rfl rfl hl.1 rfl (lv_room (Nat.le_of_ble_eq_true rfl)) dL_law_1055 ⟨(by show _ ≤ (601024 : Nat); omega), (by show _ ≤ (7293034 : Nat); omega)⟩) hS (fun q _ h => hF_79 q h) hF_79 (fun r_79 u_79 t_79 H locs ht_79 hvm_79 hw_79 hB_79 hz_79 hk_79 hS => ?_)
          obtain ⟨hP, hD⟩ := gk_back hF_79 hB_79 ht_79
          subst hw_79
          refine lv_iload hx hb dL_law_1058 (lv_at hl 1 rfl) ?_
          refine lv_icmp_eq (tgt := 1065) hx hb dL_law_1060 (by decide) (fun _ => ?_) (fun c9 => absurd (hth.trans hLk.symm) c9)
          refine lv_iload hx hb dL_law_1065 (lv_at hl 1 rfl) ?_
          refine lv_if_ne (tgt := 1082) hx hb dL_law_1067 (by decide) (fun c => by first | exact absurd c (by decide) | exact absurd (by decide) c) (fun _ => ?_)
          refine lv_aload_n hx hb dL_law_1070 rfl (lv_at hl 6 rfl) ?_
          refine lv_iconst (v := 0) hx hb dL_law_1071 (by decide) ?_
          refine va_lald hx hb hK hP 15 4 rfl rfl (i := 0) (show ¬ ((0 : Int32) < 0 ∨ 1 ≤ (0 : Int32).toNatClampNeg) by decide) dL_law_1072 ?_
          refine lv_iload hx hb dL_law_1073 (lv_at hl 0 rfl) ?_
          refine lv_i2l hx hb dL_law_1075 rfl ?_
          refine W.lcmp hx hb dL_law_1076 ?_
          refine lv_if_eq (tgt := 1082) hx hb dL_law_1077 (by decide) (fun _ => ?_) (fun c9 => absurd ((lg_cmp_eq _ _).mpr (show u_77.1 0 = r_78.toInt64 by rw [hout, hr9])) c9)
          refine lv_goto (tgt := 1335) hx hb dL_law_1082 (by decide) ?_
          refine lv_iinc (v := (nI (5 * (j + 1)))) (lv' := [(4, .int (nI (5 * (j + 1)))), (6, .int r_78), (5, .int 0), (0, .ref b), (1, .ref g), (2, .ref x0), (3, .ref o)]) hx hb dL_law_1335 hl (k := 2) rfl (by show nI (5 * j) + 5 = nI (5 * (j + 1)); exact nI_add (5 * j) 5) (by decide) rfl (fun ls hl => ?_)
          refine lv_goto (tgt := 23) hx hb dL_law_1338 (by decide) ?_
          refine W.widen (k := 20 + 5 * (j + 1)) (n := 914 + 30 * (j + 1)) (by omega) (by omega) ?_
          exact ih (j + 1) _ _ _ _ _ _ _ _ _ _ _ _ _ _ _ _ _ _ _ _ _ _ _ _ _ _ _ _ _ _ _ (by omega) (by omega) hG9 hP hD hS (lv_sub hl [0, 3, 4, 5, 6] rfl)
        · have hG9 := hLo hcd
          have hu9 := hol9 hcd
          have hP : va_P D vwCl ((x0, .inr (3, [.int gr, .int sh, .int rt, .int ce, .int (nI nl), .ref x1, .ref x2, .ref x3, .ref x4, .ref x5, .ref x6, .int (nI nv), .ref x7, .ref x8, .ref x9, .ref x10, .ref x11, .int am, .int (nI nc), .int cd, .ref x12, .int th9, .ref x13, .ref x14])) :: (x1, .inl (cyI, 12, .inl bud)) :: (x2, .inl (cyI, 12, .inl fsd)) :: (x3, .inl (cyI, 12, .inl las)) :: (x4, .inl (cyZ, 12, .inl isB)) :: (x5, .inl (cyI, 12, .inl mto)) :: (x6, .inl (cyI, 12, .inl maw)) :: (x7, .inl (cyI, 100, .inl lno)) :: (x8, .inl (cyI, 100, .inl dya)) :: (x9, .inl (cyI, 100, .inl amo)) :: (x10, .inl (cyZ, 100, .inl rfd)) :: (x11, .inl (cyI, 100, .inl ord)) :: (x12, .inl (cyI, 40, .inl cpa)) :: (x13, .inl (cyI, 100, .inl eli9)) :: (x14, .inl (cyI, 12, .inl usd9)) :: (o, .inl (cyJ, 1, .inr (.inl u_77.1))) :: u_77.2) H := hP
          have hD : va_D A ((x0, .inr (3, [.int gr, .int sh, .int rt, .int ce, .int (nI nl), .ref x1, .ref x2, .ref x3, .ref x4, .ref x5, .ref x6, .int (nI nv), .ref x7, .ref x8, .ref x9, .ref x10, .ref x11, .int am, .int (nI nc), .int cd, .ref x12, .int th9, .ref x13, .ref x14])) :: (x1, .inl (cyI, 12, .inl bud)) :: (x2, .inl (cyI, 12, .inl fsd)) :: (x3, .inl (cyI, 12, .inl las)) :: (x4, .inl (cyZ, 12, .inl isB)) :: (x5, .inl (cyI, 12, .inl mto)) :: (x6, .inl (cyI, 12, .inl maw)) :: (x7, .inl (cyI, 100, .inl lno)) :: (x8, .inl (cyI, 100, .inl dya)) :: (x9, .inl (cyI, 100, .inl amo)) :: (x10, .inl (cyZ, 100, .inl rfd)) :: (x11, .inl (cyI, 100, .inl ord)) :: (x12, .inl (cyI, 40, .inl cpa)) :: (x13, .inl (cyI, 100, .inl eli9)) :: (x14, .inl (cyI, 12, .inl usd9)) :: (o, .inl (cyJ, 1, .inr (.inl u_77.1))) :: u_77.2) := hD
          refine lv_istore (lv' := [(6, .int r_78), (5, .int r_77), (4, .int (nI (5 * j))), (0, .ref b), (1, .ref g), (2, .ref x0), (3, .ref o)]) hx hb dL_law_1052 hl (by decide) rfl (fun ls hl => ?_)
          refine lv_aload_n hx hb dL_law_1054 rfl (lv_at hl 5 rfl) ?_
          have hF_81 := gk_all hD hS hA
          refine va_calli (va_runV (As := []) (rest := []) ⟨hx, hb, hml, hown, hts⟩ (kX3_thrown l D cyI cyZ cyL cyV cyJ x0 x1 x2 x3 x4 x5 x6 x7 x8 x9 x10 x11 x12 x13 x14 gr sh rt ce nl nv am nc cd th9 bud fsd las isB mto maw lno dya amo rfd ord cpa eli9 usd9 ((o, .inl (cyJ, 1, .inr (.inl u_77.1))) :: u_77.2)  H.size _ rfl) (cwV 0 hts gL_law_X3_thrown rfl rfl rfl (by decide +kernel) ⟨(Nat.le_of_ble_eq_true rfl), (Nat.le_of_ble_eq_true rfl)⟩) (gk_preV hP hK hD (va_recv hK hP (ci := 3) (q0 := 0) rfl rfl)) rfl rfl hl.1 rfl (lv_room (Nat.le_of_ble_eq_true rfl)) dL_law_1055 ⟨(by show _ ≤ (601024 : Nat); omega), (by show _ ≤ (7293034 : Nat); omega)⟩) hS (fun q _ h => hF_81 q h) hF_81 (fun r_81 u_81 t_81 H locs ht_81 hvm_81 hw_81 hB_81 hz_81 hk_81 hS => ?_)
          obtain ⟨hP, hD⟩ := gk_back hF_81 hB_81 ht_81
          subst hw_81
          refine lv_iload hx hb dL_law_1058 (lv_at hl 1 rfl) ?_
          refine lv_icmp_eq (tgt := 1065) hx hb dL_law_1060 (by decide) (fun _ => ?_) (fun c9 => absurd (hth.trans hLk.symm) c9)
          refine lv_iload hx hb dL_law_1065 (lv_at hl 1 rfl) ?_
          refine lv_if_ne (tgt := 1082) hx hb dL_law_1067 (by decide) (fun _ => ?_) (fun c9 => absurd (hLk.symm.trans c9) hcd)
          refine lv_goto (tgt := 1335) hx hb dL_law_1082 (by decide) ?_
          refine lv_iinc (v := (nI (5 * (j + 1)))) (lv' := [(4, .int (nI (5 * (j + 1)))), (6, .int r_78), (5, .int r_77), (0, .ref b), (1, .ref g), (2, .ref x0), (3, .ref o)]) hx hb dL_law_1335 hl (k := 2) rfl (by show nI (5 * j) + 5 = nI (5 * (j + 1)); exact nI_add (5 * j) 5) (by decide) rfl (fun ls hl => ?_)
          refine lv_goto (tgt := 23) hx hb dL_law_1338 (by decide) ?_
          refine W.widen (k := 20 + 5 * (j + 1)) (n := 914 + 30 * (j + 1)) (by omega) (by omega) ?_
          exact ih (j + 1) _ _ _ _ _ _ _ _ _ _ _ _ _ _ _ _ _ _ _ _ _ _ _ _ _ _ _ _ _ _ _ (by omega) (by omega) hG9 hP hD hS (lv_sub hl [0, 3, 4, 5, 6] rfl)
      · rw [hsw]
        refine lv_tableIn (off := 1046) (tgt := 1085) hx hb dL_law_39 (by decide) (by decide) rfl (by decide) ?_
        refine lv_aload_n hx hb dL_law_1085 rfl (lv_at hl 2 rfl) ?_
        refine lv_aload_n hx hb dL_law_1086 rfl (lv_at hl 1 rfl) ?_
        refine lv_iload hx hb dL_law_1087 (lv_at hl 0 rfl) ?_
        refine lv_iconst (v := 1) hx hb dL_law_1089 (by decide) ?_
        refine lv_iadd hx hb dL_law_1090 ?_
        rw [show nI (5 * j) + 1 = nI (5 * j + 1) from nI_add (5 * j) 1]
        refine gk_sld (i := (5 * j + 1)) hx hb hX hbl hbA hS (by omega) hL dL_law_1091 ?_
        refine lv_aload_n hx hb dL_law_1092 rfl (lv_at hl 4 rfl) ?_
        have hF_82 := gk_all hD hS hA
        refine va_calli (vx_runSW (As := [.ref g, .int (xs (5 * j + 1)), .ref o]) (rest := []) ⟨hx, hb, hml, hown, hts⟩ (kL_earned l hst D cyI cyZ cyL cyV cyJ gr sh rt ce nl nv am nc cd bud fsd las isB mto maw lno dya amo rfd ord cpa lnf orf g o (x0, .inr (3, [.int gr, .int sh, .int rt, .int ce, .int (nI nl), .ref x1, .ref x2, .ref x3, .ref x4, .ref x5, .ref x6, .int (nI nv), .ref x7, .ref x8, .ref x9, .ref x10, .ref x11, .int am, .int (nI nc), .int cd, .ref x12, .int th, .ref x13, .ref x14])) (x1, .inl (cyI, 12, .inl bud)) (x2, .inl (cyI, 12, .inl fsd)) (x3, .inl (cyI, 12, .inl las)) (x4, .inl (cyZ, 12, .inl isB)) (x5, .inl (cyI, 12, .inl mto)) (x6, .inl (cyI, 12, .inl maw)) (x7, .inl (cyI, 100, .inl lno)) (x8, .inl (cyI, 100, .inl dya)) (x9, .inl (cyI, 100, .inl amo)) (x10, .inl (cyZ, 100, .inl rfd)) (x11, .inl (cyI, 100, .inl ord)) (x12, .inl (cyI, 40, .inl cpa)) (x13, .inl (cyI, 100, .inl eli)) (x14, .inl (cyI, 12, .inl usd)) fo G hG (xs (5 * j + 1)) H.size _ rfl) (vx_cwSW 3 hts gL_law_L_earned rfl rfl rfl (by decide +kernel) ⟨(Nat.le_of_ble_eq_true rfl), (Nat.le_of_ble_eq_true rfl)⟩) (gk_preSN hNC hTF hS hF_82 hP hK hD) rfl rfl hl.1 rfl (lv_room (Nat.le_of_ble_eq_true rfl)) dL_law_1093 ⟨(by show _ ≤ (601024 : Nat); omega), (by show _ ≤ (7293034 : Nat); omega)⟩) hS (fun q _ h => hF_82 q h) hF_82 (fun r_82 u_82 t_82 H locs ht_82 hvm_82 hw_82 hB_82 hz_82 hk_82 hS => ?_)
        obtain ⟨hP, hD⟩ := gk_back hF_82 hB_82 ht_82
        refine lv_istore (lv' := [(5, .int r_82), (4, .int (nI (5 * j))), (0, .ref b), (1, .ref g), (2, .ref x0), (3, .ref o)]) hx hb dL_law_1096 hl (by decide) rfl (fun ls hl => ?_)
        refine lv_aload_n hx hb dL_law_1098 rfl (lv_at hl 4 rfl) ?_
        refine lv_aload_n hx hb dL_law_1099 rfl (lv_at hl 2 rfl) ?_
        refine lv_iload hx hb dL_law_1100 (lv_at hl 1 rfl) ?_
        refine lv_iconst (v := 1) hx hb dL_law_1102 (by decide) ?_
        refine lv_iadd hx hb dL_law_1103 ?_
        rw [show nI (5 * j) + 1 = nI (5 * j + 1) from nI_add (5 * j) 1]
        refine gk_sld (i := (5 * j + 1)) hx hb hX hbl hbA hS (by omega) hL dL_law_1104 ?_
        have hF_83 := gk_all hD hS hA
        refine va_calli (va_runV (As := [.int (xs (5 * j + 1))]) (rest := []) ⟨hx, hb, hml, hown, hts⟩ (kX3_earned l D cyI cyZ cyL cyV cyJ x0 x1 x2 x3 x4 x5 x6 x7 x8 x9 x10 x11 x12 x13 x14 gr sh rt ce nl nv am nc cd th bud fsd las isB mto maw lno dya amo rfd ord cpa eli usd ((o, .inl (cyJ, 1, .inr (.inl u_82.1))) :: u_82.2) hM.1.1 hM.1.2.1 lnf hM.2.1 orf hM.2.2.1 hM.2.2.2.1 (xs (5 * j + 1)) H.size _ rfl) (cwV 1 hts gL_law_X3_earned rfl rfl rfl (by decide +kernel) ⟨(Nat.le_of_ble_eq_true rfl), (Nat.le_of_ble_eq_true rfl)⟩) (gk_preV hP hK hD (va_recv hK hP (ci := 3) (q0 := 0) rfl rfl)) rfl rfl hl.1 rfl (lv_room (Nat.le_of_ble_eq_true rfl)) dL_law_1105 ⟨(by show _ ≤ (601024 : Nat); omega), (by show _ ≤ (7293034 : Nat); omega)⟩) hS (fun q _ h => hF_83 q h) hF_83 (fun r_83 u_83 t_83 H locs ht_83 hvm_83 hw_83 hB_83 hz_83 hk_83 hS => ?_)
        obtain ⟨hP, hD⟩ := gk_back hF_83 hB_83 ht_83
        obtain ⟨th9, eli9, usd9⟩ := u_83
        obtain ⟨hth, hsu9, hol9⟩ := hw_83
        obtain ⟨hLk, hLs, hLo⟩ := hw_82
        by_cases hcd : cDay (xs (5 * j + 1)) = 0
        · have hk0 : r_82 = 0 := hLk.trans hcd
          obtain ⟨hout, hG9⟩ := hLs hcd
          have hr9 := hsu9 hcd
          subst hk0
          have hP : va_P D vwCl ((x0, .inr (3, [.int gr, .int sh, .int rt, .int ce, .int (nI nl), .ref x1, .ref x2, .ref x3, .ref x4, .ref x5, .ref x6, .int (nI nv), .ref x7, .ref x8, .ref x9, .ref x10, .ref x11, .int am, .int (nI nc), .int cd, .ref x12, .int th9, .ref x13, .ref x14])) :: (x1, .inl (cyI, 12, .inl bud)) :: (x2, .inl (cyI, 12, .inl fsd)) :: (x3, .inl (cyI, 12, .inl las)) :: (x4, .inl (cyZ, 12, .inl isB)) :: (x5, .inl (cyI, 12, .inl mto)) :: (x6, .inl (cyI, 12, .inl maw)) :: (x7, .inl (cyI, 100, .inl lno)) :: (x8, .inl (cyI, 100, .inl dya)) :: (x9, .inl (cyI, 100, .inl amo)) :: (x10, .inl (cyZ, 100, .inl rfd)) :: (x11, .inl (cyI, 100, .inl ord)) :: (x12, .inl (cyI, 40, .inl cpa)) :: (x13, .inl (cyI, 100, .inl eli9)) :: (x14, .inl (cyI, 12, .inl usd9)) :: (o, .inl (cyJ, 1, .inr (.inl u_82.1))) :: u_82.2) H := hP
          have hD : va_D A ((x0, .inr (3, [.int gr, .int sh, .int rt, .int ce, .int (nI nl), .ref x1, .ref x2, .ref x3, .ref x4, .ref x5, .ref x6, .int (nI nv), .ref x7, .ref x8, .ref x9, .ref x10, .ref x11, .int am, .int (nI nc), .int cd, .ref x12, .int th9, .ref x13, .ref x14])) :: (x1, .inl (cyI, 12, .inl bud)) :: (x2, .inl (cyI, 12, .inl fsd)) :: (x3, .inl (cyI, 12, .inl las)) :: (x4, .inl (cyZ, 12, .inl isB)) :: (x5, .inl (cyI, 12, .inl mto)) :: (x6, .inl (cyI, 12, .inl maw)) :: (x7, .inl (cyI, 100, .inl lno)) :: (x8, .inl (cyI, 100, .inl dya)) :: (x9, .inl (cyI, 100, .inl amo)) :: (x10, .inl (cyZ, 100, .inl rfd)) :: (x11, .inl (cyI, 100, .inl ord)) :: (x12, .inl (cyI, 40, .inl cpa)) :: (x13, .inl (cyI, 100, .inl eli9)) :: (x14, .inl (cyI, 12, .inl usd9)) :: (o, .inl (cyJ, 1, .inr (.inl u_82.1))) :: u_82.2) := hD
          refine lv_istore (lv' := [(6, .int r_83), (5, .int 0), (4, .int (nI (5 * j))), (0, .ref b), (1, .ref g), (2, .ref x0), (3, .ref o)]) hx hb dL_law_1108 hl (by decide) rfl (fun ls hl => ?_)
          refine lv_aload_n hx hb dL_law_1110 rfl (lv_at hl 5 rfl) ?_
          have hF_84 := gk_all hD hS hA
          refine va_calli (va_runV (As := []) (rest := []) ⟨hx, hb, hml, hown, hts⟩ (kX3_thrown l D cyI cyZ cyL cyV cyJ x0 x1 x2 x3 x4 x5 x6 x7 x8 x9 x10 x11 x12 x13 x14 gr sh rt ce nl nv am nc cd th9 bud fsd las isB mto maw lno dya amo rfd ord cpa eli9 usd9 ((o, .inl (cyJ, 1, .inr (.inl u_82.1))) :: u_82.2)  H.size _ rfl) (cwV 0 hts gL_law_X3_thrown rfl rfl rfl (by decide +kernel) ⟨(Nat.le_of_ble_eq_true rfl), (Nat.le_of_ble_eq_true rfl)⟩) (gk_preV hP hK hD (va_recv hK hP (ci := 3) (q0 := 0) rfl rfl)) rfl rfl hl.1 rfl (lv_room (Nat.le_of_ble_eq_true rfl)) dL_law_1111 ⟨(by show _ ≤ (601024 : Nat); omega), (by show _ ≤ (7293034 : Nat); omega)⟩) hS (fun q _ h => hF_84 q h) hF_84 (fun r_84 u_84 t_84 H locs ht_84 hvm_84 hw_84 hB_84 hz_84 hk_84 hS => ?_)
          obtain ⟨hP, hD⟩ := gk_back hF_84 hB_84 ht_84
          subst hw_84
          refine lv_iload hx hb dL_law_1114 (lv_at hl 1 rfl) ?_
          refine lv_icmp_eq (tgt := 1121) hx hb dL_law_1116 (by decide) (fun _ => ?_) (fun c9 => absurd (hth.trans hLk.symm) c9)
          refine lv_iload hx hb dL_law_1121 (lv_at hl 1 rfl) ?_
          refine lv_if_ne (tgt := 1138) hx hb dL_law_1123 (by decide) (fun c => by first | exact absurd c (by decide) | exact absurd (by decide) c) (fun _ => ?_)
          refine lv_aload_n hx hb dL_law_1126 rfl (lv_at hl 6 rfl) ?_
          refine lv_iconst (v := 0) hx hb dL_law_1127 (by decide) ?_
          refine va_lald hx hb hK hP 15 4 rfl rfl (i := 0) (show ¬ ((0 : Int32) < 0 ∨ 1 ≤ (0 : Int32).toNatClampNeg) by decide) dL_law_1128 ?_
          refine lv_iload hx hb dL_law_1129 (lv_at hl 0 rfl) ?_
          refine lv_i2l hx hb dL_law_1131 rfl ?_
          refine W.lcmp hx hb dL_law_1132 ?_
          refine lv_if_eq (tgt := 1138) hx hb dL_law_1133 (by decide) (fun _ => ?_) (fun c9 => absurd ((lg_cmp_eq _ _).mpr (show u_82.1 0 = r_83.toInt64 by rw [hout, hr9])) c9)
          refine lv_goto (tgt := 1335) hx hb dL_law_1138 (by decide) ?_
          refine lv_iinc (v := (nI (5 * (j + 1)))) (lv' := [(4, .int (nI (5 * (j + 1)))), (6, .int r_83), (5, .int 0), (0, .ref b), (1, .ref g), (2, .ref x0), (3, .ref o)]) hx hb dL_law_1335 hl (k := 2) rfl (by show nI (5 * j) + 5 = nI (5 * (j + 1)); exact nI_add (5 * j) 5) (by decide) rfl (fun ls hl => ?_)
          refine lv_goto (tgt := 23) hx hb dL_law_1338 (by decide) ?_
          refine W.widen (k := 20 + 5 * (j + 1)) (n := 914 + 30 * (j + 1)) (by omega) (by omega) ?_
          exact ih (j + 1) _ _ _ _ _ _ _ _ _ _ _ _ _ _ _ _ _ _ _ _ _ _ _ _ _ _ _ _ _ _ _ (by omega) (by omega) hG9 hP hD hS (lv_sub hl [0, 3, 4, 5, 6] rfl)
        · have hG9 := hLo hcd
          have hu9 := hol9 hcd
          have hP : va_P D vwCl ((x0, .inr (3, [.int gr, .int sh, .int rt, .int ce, .int (nI nl), .ref x1, .ref x2, .ref x3, .ref x4, .ref x5, .ref x6, .int (nI nv), .ref x7, .ref x8, .ref x9, .ref x10, .ref x11, .int am, .int (nI nc), .int cd, .ref x12, .int th9, .ref x13, .ref x14])) :: (x1, .inl (cyI, 12, .inl bud)) :: (x2, .inl (cyI, 12, .inl fsd)) :: (x3, .inl (cyI, 12, .inl las)) :: (x4, .inl (cyZ, 12, .inl isB)) :: (x5, .inl (cyI, 12, .inl mto)) :: (x6, .inl (cyI, 12, .inl maw)) :: (x7, .inl (cyI, 100, .inl lno)) :: (x8, .inl (cyI, 100, .inl dya)) :: (x9, .inl (cyI, 100, .inl amo)) :: (x10, .inl (cyZ, 100, .inl rfd)) :: (x11, .inl (cyI, 100, .inl ord)) :: (x12, .inl (cyI, 40, .inl cpa)) :: (x13, .inl (cyI, 100, .inl eli9)) :: (x14, .inl (cyI, 12, .inl usd9)) :: (o, .inl (cyJ, 1, .inr (.inl u_82.1))) :: u_82.2) H := hP
          have hD : va_D A ((x0, .inr (3, [.int gr, .int sh, .int rt, .int ce, .int (nI nl), .ref x1, .ref x2, .ref x3, .ref x4, .ref x5, .ref x6, .int (nI nv), .ref x7, .ref x8, .ref x9, .ref x10, .ref x11, .int am, .int (nI nc), .int cd, .ref x12, .int th9, .ref x13, .ref x14])) :: (x1, .inl (cyI, 12, .inl bud)) :: (x2, .inl (cyI, 12, .inl fsd)) :: (x3, .inl (cyI, 12, .inl las)) :: (x4, .inl (cyZ, 12, .inl isB)) :: (x5, .inl (cyI, 12, .inl mto)) :: (x6, .inl (cyI, 12, .inl maw)) :: (x7, .inl (cyI, 100, .inl lno)) :: (x8, .inl (cyI, 100, .inl dya)) :: (x9, .inl (cyI, 100, .inl amo)) :: (x10, .inl (cyZ, 100, .inl rfd)) :: (x11, .inl (cyI, 100, .inl ord)) :: (x12, .inl (cyI, 40, .inl cpa)) :: (x13, .inl (cyI, 100, .inl eli9)) :: (x14, .inl (cyI, 12, .inl usd9)) :: (o, .inl (cyJ, 1, .inr (.inl u_82.1))) :: u_82.2) := hD
          refine lv_istore (lv' := [(6, .int r_83), (5, .int r_82), (4, .int (nI (5 * j))), (0, .ref b), (1, .ref g), (2, .ref x0), (3, .ref o)]) hx hb dL_law_1108 hl (by decide) rfl (fun ls hl => ?_)
          refine lv_aload_n hx hb dL_law_1110 rfl (lv_at hl 5 rfl) ?_
          have hF_86 := gk_all hD hS hA
          refine va_calli (va_runV (As := []) (rest := []) ⟨hx, hb, hml, hown, hts⟩ (kX3_thrown l D cyI cyZ cyL cyV cyJ x0 x1 x2 x3 x4 x5 x6 x7 x8 x9 x10 x11 x12 x13 x14 gr sh rt ce nl nv am nc cd th9 bud fsd las isB mto maw lno dya amo rfd ord cpa eli9 usd9 ((o, .inl (cyJ, 1, .inr (.inl u_82.1))) :: u_82.2)  H.size _ rfl) (cwV 0 hts gL_law_X3_thrown rfl rfl rfl (by decide +kernel) ⟨(Nat.le_of_ble_eq_true rfl), (Nat.le_of_ble_eq_true rfl)⟩) (gk_preV hP hK hD (va_recv hK hP (ci := 3) (q0 := 0) rfl rfl)) rfl rfl hl.1 rfl (lv_room (Nat.le_of_ble_eq_true rfl)) dL_law_1111 ⟨(by show _ ≤ (601024 : Nat); omega), (by show _ ≤ (7293034 : Nat); omega)⟩) hS (fun q _ h => hF_86 q h) hF_86 (fun r_86 u_86 t_86 H locs ht_86 hvm_86 hw_86 hB_86 hz_86 hk_86 hS => ?_)
          obtain ⟨hP, hD⟩ := gk_back hF_86 hB_86 ht_86
          subst hw_86
          refine lv_iload hx hb dL_law_1114 (lv_at hl 1 rfl) ?_
          refine lv_icmp_eq (tgt := 1121) hx hb dL_law_1116 (by decide) (fun _ => ?_) (fun c9 => absurd (hth.trans hLk.symm) c9)
          refine lv_iload hx hb dL_law_1121 (lv_at hl 1 rfl) ?_
          refine lv_if_ne (tgt := 1138) hx hb dL_law_1123 (by decide) (fun _ => ?_) (fun c9 => absurd (hLk.symm.trans c9) hcd)
          refine lv_goto (tgt := 1335) hx hb dL_law_1138 (by decide) ?_
          refine lv_iinc (v := (nI (5 * (j + 1)))) (lv' := [(4, .int (nI (5 * (j + 1)))), (6, .int r_83), (5, .int r_82), (0, .ref b), (1, .ref g), (2, .ref x0), (3, .ref o)]) hx hb dL_law_1335 hl (k := 2) rfl (by show nI (5 * j) + 5 = nI (5 * (j + 1)); exact nI_add (5 * j) 5) (by decide) rfl (fun ls hl => ?_)
          refine lv_goto (tgt := 23) hx hb dL_law_1338 (by decide) ?_
          refine W.widen (k := 20 + 5 * (j + 1)) (n := 914 + 30 * (j + 1)) (by omega) (by omega) ?_
          exact ih (j + 1) _ _ _ _ _ _ _ _ _ _ _ _ _ _ _ _ _ _ _ _ _ _ _ _ _ _ _ _ _ _ _ (by omega) (by omega) hG9 hP hD hS (lv_sub hl [0, 3, 4, 5, 6] rfl)
      · rw [hsw]
        refine lv_tableIn (off := 1102) (tgt := 1141) hx hb dL_law_39 (by decide) (by decide) rfl (by decide) ?_
        refine lv_aload_n hx hb dL_law_1141 rfl (lv_at hl 2 rfl) ?_
        refine lv_aload_n hx hb dL_law_1142 rfl (lv_at hl 1 rfl) ?_
        refine lv_iload hx hb dL_law_1143 (lv_at hl 0 rfl) ?_
        refine lv_iconst (v := 1) hx hb dL_law_1145 (by decide) ?_
        refine lv_iadd hx hb dL_law_1146 ?_
        rw [show nI (5 * j) + 1 = nI (5 * j + 1) from nI_add (5 * j) 1]
        refine gk_sld (i := (5 * j + 1)) hx hb hX hbl hbA hS (by omega) hL dL_law_1147 ?_
        refine lv_aload_n hx hb dL_law_1148 rfl (lv_at hl 4 rfl) ?_
        have hF_87 := gk_all hD hS hA
        refine va_calli (vx_runSW (As := [.ref g, .int (xs (5 * j + 1)), .ref o]) (rest := []) ⟨hx, hb, hml, hown, hts⟩ (kL_missingMatch l hst D cyI cyZ cyL cyV cyJ gr sh rt ce nl nv am nc cd bud fsd las isB mto maw lno dya amo rfd ord cpa lnf orf g o (x0, .inr (3, [.int gr, .int sh, .int rt, .int ce, .int (nI nl), .ref x1, .ref x2, .ref x3, .ref x4, .ref x5, .ref x6, .int (nI nv), .ref x7, .ref x8, .ref x9, .ref x10, .ref x11, .int am, .int (nI nc), .int cd, .ref x12, .int th, .ref x13, .ref x14])) (x1, .inl (cyI, 12, .inl bud)) (x2, .inl (cyI, 12, .inl fsd)) (x3, .inl (cyI, 12, .inl las)) (x4, .inl (cyZ, 12, .inl isB)) (x5, .inl (cyI, 12, .inl mto)) (x6, .inl (cyI, 12, .inl maw)) (x7, .inl (cyI, 100, .inl lno)) (x8, .inl (cyI, 100, .inl dya)) (x9, .inl (cyI, 100, .inl amo)) (x10, .inl (cyZ, 100, .inl rfd)) (x11, .inl (cyI, 100, .inl ord)) (x12, .inl (cyI, 40, .inl cpa)) (x13, .inl (cyI, 100, .inl eli)) (x14, .inl (cyI, 12, .inl usd)) fo G hG (xs (5 * j + 1)) H.size _ rfl) (vx_cwSW 3 hts gL_law_L_missingMatch rfl rfl rfl (by decide +kernel) ⟨(Nat.le_of_ble_eq_true rfl), (Nat.le_of_ble_eq_true rfl)⟩) (gk_preSN hNC hTF hS hF_87 hP hK hD) rfl rfl hl.1 rfl (lv_room (Nat.le_of_ble_eq_true rfl)) dL_law_1149 ⟨(by show _ ≤ (601024 : Nat); omega), (by show _ ≤ (7293034 : Nat); omega)⟩) hS (fun q _ h => hF_87 q h) hF_87 (fun r_87 u_87 t_87 H locs ht_87 hvm_87 hw_87 hB_87 hz_87 hk_87 hS => ?_)
        obtain ⟨hP, hD⟩ := gk_back hF_87 hB_87 ht_87
        refine lv_istore (lv' := [(5, .int r_87), (4, .int (nI (5 * j))), (0, .ref b), (1, .ref g), (2, .ref x0), (3, .ref o)]) hx hb dL_law_1152 hl (by decide) rfl (fun ls hl => ?_)
        refine lv_aload_n hx hb dL_law_1154 rfl (lv_at hl 4 rfl) ?_
        refine lv_aload_n hx hb dL_law_1155 rfl (lv_at hl 2 rfl) ?_
        refine lv_iload hx hb dL_law_1156 (lv_at hl 1 rfl) ?_
        refine lv_iconst (v := 1) hx hb dL_law_1158 (by decide) ?_
        refine lv_iadd hx hb dL_law_1159 ?_
        rw [show nI (5 * j) + 1 = nI (5 * j + 1) from nI_add (5 * j) 1]
        refine gk_sld (i := (5 * j + 1)) hx hb hX hbl hbA hS (by omega) hL dL_law_1160 ?_
        have hF_88 := gk_all hD hS hA
        refine va_calli (va_runV (As := [.int (xs (5 * j + 1))]) (rest := []) ⟨hx, hb, hml, hown, hts⟩ (kX3_missingMatch l D cyI cyZ cyL cyV cyJ x0 x1 x2 x3 x4 x5 x6 x7 x8 x9 x10 x11 x12 x13 x14 gr sh rt ce nl nv am nc cd th bud fsd las isB mto maw lno dya amo rfd ord cpa eli usd ((o, .inl (cyJ, 1, .inr (.inl u_87.1))) :: u_87.2) hM.1.1 hM.1.2.1 lnf hM.2.1 orf hM.2.2.1 hM.2.2.2.1 (gShn hM) (xs (5 * j + 1)) H.size _ rfl) (cwV 1 hts gL_law_X3_missingMatch rfl rfl rfl (by decide +kernel) ⟨(Nat.le_of_ble_eq_true rfl), (Nat.le_of_ble_eq_true rfl)⟩) (gk_preV hP hK hD (va_recv hK hP (ci := 3) (q0 := 0) rfl rfl)) rfl rfl hl.1 rfl (lv_room (Nat.le_of_ble_eq_true rfl)) dL_law_1161 ⟨(by show _ ≤ (601024 : Nat); omega), (by show _ ≤ (7293034 : Nat); omega)⟩) hS (fun q _ h => hF_88 q h) hF_88 (fun r_88 u_88 t_88 H locs ht_88 hvm_88 hw_88 hB_88 hz_88 hk_88 hS => ?_)
        obtain ⟨hP, hD⟩ := gk_back hF_88 hB_88 ht_88
        obtain ⟨th9, eli9, usd9⟩ := u_88
        obtain ⟨hth, hsu9, hol9⟩ := hw_88
        obtain ⟨hLk, hLs, hLo⟩ := hw_87
        by_cases hcd : cDay (xs (5 * j + 1)) = 0
        · have hk0 : r_87 = 0 := hLk.trans hcd
          obtain ⟨hout, hG9⟩ := hLs hcd
          have hr9 := hsu9 hcd
          subst hk0
          have hP : va_P D vwCl ((x0, .inr (3, [.int gr, .int sh, .int rt, .int ce, .int (nI nl), .ref x1, .ref x2, .ref x3, .ref x4, .ref x5, .ref x6, .int (nI nv), .ref x7, .ref x8, .ref x9, .ref x10, .ref x11, .int am, .int (nI nc), .int cd, .ref x12, .int th9, .ref x13, .ref x14])) :: (x1, .inl (cyI, 12, .inl bud)) :: (x2, .inl (cyI, 12, .inl fsd)) :: (x3, .inl (cyI, 12, .inl las)) :: (x4, .inl (cyZ, 12, .inl isB)) :: (x5, .inl (cyI, 12, .inl mto)) :: (x6, .inl (cyI, 12, .inl maw)) :: (x7, .inl (cyI, 100, .inl lno)) :: (x8, .inl (cyI, 100, .inl dya)) :: (x9, .inl (cyI, 100, .inl amo)) :: (x10, .inl (cyZ, 100, .inl rfd)) :: (x11, .inl (cyI, 100, .inl ord)) :: (x12, .inl (cyI, 40, .inl cpa)) :: (x13, .inl (cyI, 100, .inl eli9)) :: (x14, .inl (cyI, 12, .inl usd9)) :: (o, .inl (cyJ, 1, .inr (.inl u_87.1))) :: u_87.2) H := hP
          have hD : va_D A ((x0, .inr (3, [.int gr, .int sh, .int rt, .int ce, .int (nI nl), .ref x1, .ref x2, .ref x3, .ref x4, .ref x5, .ref x6, .int (nI nv), .ref x7, .ref x8, .ref x9, .ref x10, .ref x11, .int am, .int (nI nc), .int cd, .ref x12, .int th9, .ref x13, .ref x14])) :: (x1, .inl (cyI, 12, .inl bud)) :: (x2, .inl (cyI, 12, .inl fsd)) :: (x3, .inl (cyI, 12, .inl las)) :: (x4, .inl (cyZ, 12, .inl isB)) :: (x5, .inl (cyI, 12, .inl mto)) :: (x6, .inl (cyI, 12, .inl maw)) :: (x7, .inl (cyI, 100, .inl lno)) :: (x8, .inl (cyI, 100, .inl dya)) :: (x9, .inl (cyI, 100, .inl amo)) :: (x10, .inl (cyZ, 100, .inl rfd)) :: (x11, .inl (cyI, 100, .inl ord)) :: (x12, .inl (cyI, 40, .inl cpa)) :: (x13, .inl (cyI, 100, .inl eli9)) :: (x14, .inl (cyI, 12, .inl usd9)) :: (o, .inl (cyJ, 1, .inr (.inl u_87.1))) :: u_87.2) := hD
          refine lv_istore (lv' := [(6, .int r_88), (5, .int 0), (4, .int (nI (5 * j))), (0, .ref b), (1, .ref g), (2, .ref x0), (3, .ref o)]) hx hb dL_law_1164 hl (by decide) rfl (fun ls hl => ?_)
          refine lv_aload_n hx hb dL_law_1166 rfl (lv_at hl 5 rfl) ?_
          have hF_89 := gk_all hD hS hA
          refine va_calli (va_runV (As := []) (rest := []) ⟨hx, hb, hml, hown, hts⟩ (kX3_thrown l D cyI cyZ cyL cyV cyJ x0 x1 x2 x3 x4 x5 x6 x7 x8 x9 x10 x11 x12 x13 x14 gr sh rt ce nl nv am nc cd th9 bud fsd las isB mto maw lno dya amo rfd ord cpa eli9 usd9 ((o, .inl (cyJ, 1, .inr (.inl u_87.1))) :: u_87.2)  H.size _ rfl) (cwV 0 hts gL_law_X3_thrown rfl rfl rfl (by decide +kernel) ⟨(Nat.le_of_ble_eq_true rfl), (Nat.le_of_ble_eq_true rfl)⟩) (gk_preV hP hK hD (va_recv hK hP (ci := 3) (q0 := 0) rfl rfl)) rfl rfl hl.1 rfl (lv_room (Nat.le_of_ble_eq_true rfl)) dL_law_1167 ⟨(by show _ ≤ (601024 : Nat); omega), (by show _ ≤ (7293034 : Nat); omega)⟩) hS (fun q _ h => hF_89 q h) hF_89 (fun r_89 u_89 t_89 H locs ht_89 hvm_89 hw_89 hB_89 hz_89 hk_89 hS => ?_)
          obtain ⟨hP, hD⟩ := gk_back hF_89 hB_89 ht_89
          subst hw_89
          refine lv_iload hx hb dL_law_1170 (lv_at hl 1 rfl) ?_
          refine lv_icmp_eq (tgt := 1177) hx hb dL_law_1172 (by decide) (fun _ => ?_) (fun c9 => absurd (hth.trans hLk.symm) c9)
          refine lv_iload hx hb dL_law_1177 (lv_at hl 1 rfl) ?_
          refine lv_if_ne (tgt := 1194) hx hb dL_law_1179 (by decide) (fun c => by first | exact absurd c (by decide) | exact absurd (by decide) c) (fun _ => ?_)
          refine lv_aload_n hx hb dL_law_1182 rfl (lv_at hl 6 rfl) ?_
          refine lv_iconst (v := 0) hx hb dL_law_1183 (by decide) ?_
          refine va_lald hx hb hK hP 15 4 rfl rfl (i := 0) (show ¬ ((0 : Int32) < 0 ∨ 1 ≤ (0 : Int32).toNatClampNeg) by decide) dL_law_1184 ?_
          refine lv_iload hx hb dL_law_1185 (lv_at hl 0 rfl) ?_
          refine lv_i2l hx hb dL_law_1187 rfl ?_
          refine W.lcmp hx hb dL_law_1188 ?_
          refine lv_if_eq (tgt := 1194) hx hb dL_law_1189 (by decide) (fun _ => ?_) (fun c9 => absurd ((lg_cmp_eq _ _).mpr (show u_87.1 0 = r_88.toInt64 by rw [hout, hr9])) c9)
          refine lv_goto (tgt := 1335) hx hb dL_law_1194 (by decide) ?_
          refine lv_iinc (v := (nI (5 * (j + 1)))) (lv' := [(4, .int (nI (5 * (j + 1)))), (6, .int r_88), (5, .int 0), (0, .ref b), (1, .ref g), (2, .ref x0), (3, .ref o)]) hx hb dL_law_1335 hl (k := 2) rfl (by show nI (5 * j) + 5 = nI (5 * (j + 1)); exact nI_add (5 * j) 5) (by decide) rfl (fun ls hl => ?_)
          refine lv_goto (tgt := 23) hx hb dL_law_1338 (by decide) ?_
          refine W.widen (k := 20 + 5 * (j + 1)) (n := 914 + 30 * (j + 1)) (by omega) (by omega) ?_
          exact ih (j + 1) _ _ _ _ _ _ _ _ _ _ _ _ _ _ _ _ _ _ _ _ _ _ _ _ _ _ _ _ _ _ _ (by omega) (by omega) hG9 hP hD hS (lv_sub hl [0, 3, 4, 5, 6] rfl)
        · have hG9 := hLo hcd
          have hu9 := hol9 hcd
          have hP : va_P D vwCl ((x0, .inr (3, [.int gr, .int sh, .int rt, .int ce, .int (nI nl), .ref x1, .ref x2, .ref x3, .ref x4, .ref x5, .ref x6, .int (nI nv), .ref x7, .ref x8, .ref x9, .ref x10, .ref x11, .int am, .int (nI nc), .int cd, .ref x12, .int th9, .ref x13, .ref x14])) :: (x1, .inl (cyI, 12, .inl bud)) :: (x2, .inl (cyI, 12, .inl fsd)) :: (x3, .inl (cyI, 12, .inl las)) :: (x4, .inl (cyZ, 12, .inl isB)) :: (x5, .inl (cyI, 12, .inl mto)) :: (x6, .inl (cyI, 12, .inl maw)) :: (x7, .inl (cyI, 100, .inl lno)) :: (x8, .inl (cyI, 100, .inl dya)) :: (x9, .inl (cyI, 100, .inl amo)) :: (x10, .inl (cyZ, 100, .inl rfd)) :: (x11, .inl (cyI, 100, .inl ord)) :: (x12, .inl (cyI, 40, .inl cpa)) :: (x13, .inl (cyI, 100, .inl eli9)) :: (x14, .inl (cyI, 12, .inl usd9)) :: (o, .inl (cyJ, 1, .inr (.inl u_87.1))) :: u_87.2) H := hP
          have hD : va_D A ((x0, .inr (3, [.int gr, .int sh, .int rt, .int ce, .int (nI nl), .ref x1, .ref x2, .ref x3, .ref x4, .ref x5, .ref x6, .int (nI nv), .ref x7, .ref x8, .ref x9, .ref x10, .ref x11, .int am, .int (nI nc), .int cd, .ref x12, .int th9, .ref x13, .ref x14])) :: (x1, .inl (cyI, 12, .inl bud)) :: (x2, .inl (cyI, 12, .inl fsd)) :: (x3, .inl (cyI, 12, .inl las)) :: (x4, .inl (cyZ, 12, .inl isB)) :: (x5, .inl (cyI, 12, .inl mto)) :: (x6, .inl (cyI, 12, .inl maw)) :: (x7, .inl (cyI, 100, .inl lno)) :: (x8, .inl (cyI, 100, .inl dya)) :: (x9, .inl (cyI, 100, .inl amo)) :: (x10, .inl (cyZ, 100, .inl rfd)) :: (x11, .inl (cyI, 100, .inl ord)) :: (x12, .inl (cyI, 40, .inl cpa)) :: (x13, .inl (cyI, 100, .inl eli9)) :: (x14, .inl (cyI, 12, .inl usd9)) :: (o, .inl (cyJ, 1, .inr (.inl u_87.1))) :: u_87.2) := hD
          refine lv_istore (lv' := [(6, .int r_88), (5, .int r_87), (4, .int (nI (5 * j))), (0, .ref b), (1, .ref g), (2, .ref x0), (3, .ref o)]) hx hb dL_law_1164 hl (by decide) rfl (fun ls hl => ?_)
          refine lv_aload_n hx hb dL_law_1166 rfl (lv_at hl 5 rfl) ?_
          have hF_91 := gk_all hD hS hA
          refine va_calli (va_runV (As := []) (rest := []) ⟨hx, hb, hml, hown, hts⟩ (kX3_thrown l D cyI cyZ cyL cyV cyJ x0 x1 x2 x3 x4 x5 x6 x7 x8 x9 x10 x11 x12 x13 x14 gr sh rt ce nl nv am nc cd th9 bud fsd las isB mto maw lno dya amo rfd ord cpa eli9 usd9 ((o, .inl (cyJ, 1, .inr (.inl u_87.1))) :: u_87.2)  H.size _ rfl) (cwV 0 hts gL_law_X3_thrown rfl rfl rfl (by decide +kernel) ⟨(Nat.le_of_ble_eq_true rfl), (Nat.le_of_ble_eq_true rfl)⟩) (gk_preV hP hK hD (va_recv hK hP (ci := 3) (q0 := 0) rfl rfl)) rfl rfl hl.1 rfl (lv_room (Nat.le_of_ble_eq_true rfl)) dL_law_1167 ⟨(by show _ ≤ (601024 : Nat); omega), (by show _ ≤ (7293034 : Nat); omega)⟩) hS (fun q _ h => hF_91 q h) hF_91 (fun r_91 u_91 t_91 H locs ht_91 hvm_91 hw_91 hB_91 hz_91 hk_91 hS => ?_)
          obtain ⟨hP, hD⟩ := gk_back hF_91 hB_91 ht_91
          subst hw_91
          refine lv_iload hx hb dL_law_1170 (lv_at hl 1 rfl) ?_
          refine lv_icmp_eq (tgt := 1177) hx hb dL_law_1172 (by decide) (fun _ => ?_) (fun c9 => absurd (hth.trans hLk.symm) c9)
          refine lv_iload hx hb dL_law_1177 (lv_at hl 1 rfl) ?_
          refine lv_if_ne (tgt := 1194) hx hb dL_law_1179 (by decide) (fun _ => ?_) (fun c9 => absurd (hLk.symm.trans c9) hcd)
          refine lv_goto (tgt := 1335) hx hb dL_law_1194 (by decide) ?_
          refine lv_iinc (v := (nI (5 * (j + 1)))) (lv' := [(4, .int (nI (5 * (j + 1)))), (6, .int r_88), (5, .int r_87), (0, .ref b), (1, .ref g), (2, .ref x0), (3, .ref o)]) hx hb dL_law_1335 hl (k := 2) rfl (by show nI (5 * j) + 5 = nI (5 * (j + 1)); exact nI_add (5 * j) 5) (by decide) rfl (fun ls hl => ?_)
          refine lv_goto (tgt := 23) hx hb dL_law_1338 (by decide) ?_
          refine W.widen (k := 20 + 5 * (j + 1)) (n := 914 + 30 * (j + 1)) (by omega) (by omega) ?_
          exact ih (j + 1) _ _ _ _ _ _ _ _ _ _ _ _ _ _ _ _ _ _ _ _ _ _ _ _ _ _ _ _ _ _ _ (by omega) (by omega) hG9 hP hD hS (lv_sub hl [0, 3, 4, 5, 6] rfl)
      · rw [hsw]
        refine lv_tableIn (off := 1158) (tgt := 1197) hx hb dL_law_39 (by decide) (by decide) rfl (by decide) ?_
        refine lv_aload_n hx hb dL_law_1197 rfl (lv_at hl 2 rfl) ?_
        refine lv_aload_n hx hb dL_law_1198 rfl (lv_at hl 1 rfl) ?_
        refine lv_iload hx hb dL_law_1199 (lv_at hl 0 rfl) ?_
        refine lv_iconst (v := 1) hx hb dL_law_1201 (by decide) ?_
        refine lv_iadd hx hb dL_law_1202 ?_
        rw [show nI (5 * j) + 1 = nI (5 * j + 1) from nI_add (5 * j) 1]
        refine gk_sld (i := (5 * j + 1)) hx hb hX hbl hbA hS (by omega) hL dL_law_1203 ?_
        refine lv_aload_n hx hb dL_law_1204 rfl (lv_at hl 4 rfl) ?_
        have hF_92 := gk_all hD hS hA
        refine va_calli (vx_runSW (As := [.ref g, .int (xs (5 * j + 1)), .ref o]) (rest := []) ⟨hx, hb, hml, hown, hts⟩ (kL_claim l hst D cyI cyZ cyL cyV cyJ gr sh rt ce nl nv am nc cd bud fsd las isB mto maw lno dya amo rfd ord cpa lnf orf g o (x0, .inr (3, [.int gr, .int sh, .int rt, .int ce, .int (nI nl), .ref x1, .ref x2, .ref x3, .ref x4, .ref x5, .ref x6, .int (nI nv), .ref x7, .ref x8, .ref x9, .ref x10, .ref x11, .int am, .int (nI nc), .int cd, .ref x12, .int th, .ref x13, .ref x14])) (x1, .inl (cyI, 12, .inl bud)) (x2, .inl (cyI, 12, .inl fsd)) (x3, .inl (cyI, 12, .inl las)) (x4, .inl (cyZ, 12, .inl isB)) (x5, .inl (cyI, 12, .inl mto)) (x6, .inl (cyI, 12, .inl maw)) (x7, .inl (cyI, 100, .inl lno)) (x8, .inl (cyI, 100, .inl dya)) (x9, .inl (cyI, 100, .inl amo)) (x10, .inl (cyZ, 100, .inl rfd)) (x11, .inl (cyI, 100, .inl ord)) (x12, .inl (cyI, 40, .inl cpa)) (x13, .inl (cyI, 100, .inl eli)) (x14, .inl (cyI, 12, .inl usd)) fo G hG (xs (5 * j + 1)) H.size _ rfl) (vx_cwSW 3 hts gL_law_L_claim rfl rfl rfl (by decide +kernel) ⟨(Nat.le_of_ble_eq_true rfl), (Nat.le_of_ble_eq_true rfl)⟩) (gk_preSN hNC hTF hS hF_92 hP hK hD) rfl rfl hl.1 rfl (lv_room (Nat.le_of_ble_eq_true rfl)) dL_law_1205 ⟨(by show _ ≤ (601024 : Nat); omega), (by show _ ≤ (7293034 : Nat); omega)⟩) hS (fun q _ h => hF_92 q h) hF_92 (fun r_92 u_92 t_92 H locs ht_92 hvm_92 hw_92 hB_92 hz_92 hk_92 hS => ?_)
        obtain ⟨hP, hD⟩ := gk_back hF_92 hB_92 ht_92
        refine lv_istore (lv' := [(5, .int r_92), (4, .int (nI (5 * j))), (0, .ref b), (1, .ref g), (2, .ref x0), (3, .ref o)]) hx hb dL_law_1208 hl (by decide) rfl (fun ls hl => ?_)
        refine lv_aload_n hx hb dL_law_1210 rfl (lv_at hl 4 rfl) ?_
        refine lv_aload_n hx hb dL_law_1211 rfl (lv_at hl 2 rfl) ?_
        refine lv_iload hx hb dL_law_1212 (lv_at hl 1 rfl) ?_
        refine lv_iconst (v := 1) hx hb dL_law_1214 (by decide) ?_
        refine lv_iadd hx hb dL_law_1215 ?_
        rw [show nI (5 * j) + 1 = nI (5 * j + 1) from nI_add (5 * j) 1]
        refine gk_sld (i := (5 * j + 1)) hx hb hX hbl hbA hS (by omega) hL dL_law_1216 ?_
        have hF_93 := gk_all hD hS hA
        refine va_calli (va_runV (As := [.int (xs (5 * j + 1))]) (rest := []) ⟨hx, hb, hml, hown, hts⟩ (kX3_claim l D cyI cyZ cyL cyV cyJ x0 x1 x2 x3 x4 x5 x6 x7 x8 x9 x10 x11 x12 x13 x14 gr sh rt ce nl nv am nc cd th bud fsd las isB mto maw lno dya amo rfd ord cpa eli usd ((o, .inl (cyJ, 1, .inr (.inl u_92.1))) :: u_92.2) hM.1.1 hM.1.2.1 lnf hM.2.1 orf hM.2.2.1 hM.2.2.2.1 hM.1.2.2 (xs (5 * j + 1)) H.size _ rfl) (cwV 1 hts gL_law_X3_claim rfl rfl rfl (by decide +kernel) ⟨(Nat.le_of_ble_eq_true rfl), (Nat.le_of_ble_eq_true rfl)⟩) (gk_preV hP hK hD (va_recv hK hP (ci := 3) (q0 := 0) rfl rfl)) rfl rfl hl.1 rfl (lv_room (Nat.le_of_ble_eq_true rfl)) dL_law_1217 ⟨(by show _ ≤ (601024 : Nat); omega), (by show _ ≤ (7293034 : Nat); omega)⟩) hS (fun q _ h => hF_93 q h) hF_93 (fun r_93 u_93 t_93 H locs ht_93 hvm_93 hw_93 hB_93 hz_93 hk_93 hS => ?_)
        obtain ⟨hP, hD⟩ := gk_back hF_93 hB_93 ht_93
        obtain ⟨th9, nc9, cd9, cpa9, eli9, usd9⟩ := u_93
        obtain ⟨hth, hsu9, hol9⟩ := hw_93
        obtain ⟨hLk, hLs, hLo⟩ := hw_92
        by_cases hcd : cClaim cd nc (xs (5 * j + 1)) = 0
        · have hk0 : r_92 = 0 := hLk.trans hcd
          obtain ⟨hout, hG9⟩ := hLs hcd
          obtain ⟨hr9, he1, he2, he3⟩ := hsu9 hcd
          dsimp only at he1 he2 he3
          rw [he1, he2, he3] at hP hD
          subst hk0
          have hP : va_P D vwCl ((x0, .inr (3, [.int gr, .int sh, .int rt, .int ce, .int (nI nl), .ref x1, .ref x2, .ref x3, .ref x4, .ref x5, .ref x6, .int (nI nv), .ref x7, .ref x8, .ref x9, .ref x10, .ref x11, .int am, .int (nI (nc + 1)), .int (xs (5 * j + 1)), .ref x12, .int th9, .ref x13, .ref x14])) :: (x1, .inl (cyI, 12, .inl bud)) :: (x2, .inl (cyI, 12, .inl fsd)) :: (x3, .inl (cyI, 12, .inl las)) :: (x4, .inl (cyZ, 12, .inl isB)) :: (x5, .inl (cyI, 12, .inl mto)) :: (x6, .inl (cyI, 12, .inl maw)) :: (x7, .inl (cyI, 100, .inl lno)) :: (x8, .inl (cyI, 100, .inl dya)) :: (x9, .inl (cyI, 100, .inl amo)) :: (x10, .inl (cyZ, 100, .inl rfd)) :: (x11, .inl (cyI, 100, .inl ord)) :: (x12, .inl (cyI, 40, .inl (va_up cpa nc ((gEt sh am (gUb sh gr (gSm (gCx dya isB (gEL (fun l => bud l + mto l - maw l) (fun v => gAcc (fsd (lnf v)) (las (lnf v)) (rfd v) (dya v)) lnf amo orf nv) lnf (xs (5 * j + 1)) 0) nv) (gOw rt ce (gSm (gCx dya isB (gEL (fun l => bud l + mto l - maw l) (fun v => gAcc (fsd (lnf v)) (las (lnf v)) (rfd v) (dya v)) lnf amo orf nv) lnf (xs (5 * j + 1)) 1) nv)))) - gSm cpa nc)))) :: (x13, .inl (cyI, 100, .inl eli9)) :: (x14, .inl (cyI, 12, .inl usd9)) :: (o, .inl (cyJ, 1, .inr (.inl u_92.1))) :: u_92.2) H := hP
          have hD : va_D A ((x0, .inr (3, [.int gr, .int sh, .int rt, .int ce, .int (nI nl), .ref x1, .ref x2, .ref x3, .ref x4, .ref x5, .ref x6, .int (nI nv), .ref x7, .ref x8, .ref x9, .ref x10, .ref x11, .int am, .int (nI (nc + 1)), .int (xs (5 * j + 1)), .ref x12, .int th9, .ref x13, .ref x14])) :: (x1, .inl (cyI, 12, .inl bud)) :: (x2, .inl (cyI, 12, .inl fsd)) :: (x3, .inl (cyI, 12, .inl las)) :: (x4, .inl (cyZ, 12, .inl isB)) :: (x5, .inl (cyI, 12, .inl mto)) :: (x6, .inl (cyI, 12, .inl maw)) :: (x7, .inl (cyI, 100, .inl lno)) :: (x8, .inl (cyI, 100, .inl dya)) :: (x9, .inl (cyI, 100, .inl amo)) :: (x10, .inl (cyZ, 100, .inl rfd)) :: (x11, .inl (cyI, 100, .inl ord)) :: (x12, .inl (cyI, 40, .inl (va_up cpa nc ((gEt sh am (gUb sh gr (gSm (gCx dya isB (gEL (fun l => bud l + mto l - maw l) (fun v => gAcc (fsd (lnf v)) (las (lnf v)) (rfd v) (dya v)) lnf amo orf nv) lnf (xs (5 * j + 1)) 0) nv) (gOw rt ce (gSm (gCx dya isB (gEL (fun l => bud l + mto l - maw l) (fun v => gAcc (fsd (lnf v)) (las (lnf v)) (rfd v) (dya v)) lnf amo orf nv) lnf (xs (5 * j + 1)) 1) nv)))) - gSm cpa nc)))) :: (x13, .inl (cyI, 100, .inl eli9)) :: (x14, .inl (cyI, 12, .inl usd9)) :: (o, .inl (cyJ, 1, .inr (.inl u_92.1))) :: u_92.2) := hD
          refine lv_istore (lv' := [(6, .int r_93), (5, .int 0), (4, .int (nI (5 * j))), (0, .ref b), (1, .ref g), (2, .ref x0), (3, .ref o)]) hx hb dL_law_1220 hl (by decide) rfl (fun ls hl => ?_)
          refine lv_aload_n hx hb dL_law_1222 rfl (lv_at hl 5 rfl) ?_
          have hF_94 := gk_all hD hS hA
          refine va_calli (va_runV (As := []) (rest := []) ⟨hx, hb, hml, hown, hts⟩ (kX3_thrown l D cyI cyZ cyL cyV cyJ x0 x1 x2 x3 x4 x5 x6 x7 x8 x9 x10 x11 x12 x13 x14 gr sh rt ce nl nv am (nc + 1) (xs (5 * j + 1)) th9 bud fsd las isB mto maw lno dya amo rfd ord (va_up cpa nc ((gEt sh am (gUb sh gr (gSm (gCx dya isB (gEL (fun l => bud l + mto l - maw l) (fun v => gAcc (fsd (lnf v)) (las (lnf v)) (rfd v) (dya v)) lnf amo orf nv) lnf (xs (5 * j + 1)) 0) nv) (gOw rt ce (gSm (gCx dya isB (gEL (fun l => bud l + mto l - maw l) (fun v => gAcc (fsd (lnf v)) (las (lnf v)) (rfd v) (dya v)) lnf amo orf nv) lnf (xs (5 * j + 1)) 1) nv)))) - gSm cpa nc)) eli9 usd9 ((o, .inl (cyJ, 1, .inr (.inl u_92.1))) :: u_92.2)  H.size _ rfl) (cwV 0 hts gL_law_X3_thrown rfl rfl rfl (by decide +kernel) ⟨(Nat.le_of_ble_eq_true rfl), (Nat.le_of_ble_eq_true rfl)⟩) (gk_preV hP hK hD (va_recv hK hP (ci := 3) (q0 := 0) rfl rfl)) rfl rfl hl.1 rfl (lv_room (Nat.le_of_ble_eq_true rfl)) dL_law_1223 ⟨(by show _ ≤ (601024 : Nat); omega), (by show _ ≤ (7293034 : Nat); omega)⟩) hS (fun q _ h => hF_94 q h) hF_94 (fun r_94 u_94 t_94 H locs ht_94 hvm_94 hw_94 hB_94 hz_94 hk_94 hS => ?_)
          obtain ⟨hP, hD⟩ := gk_back hF_94 hB_94 ht_94
          subst hw_94
          refine lv_iload hx hb dL_law_1226 (lv_at hl 1 rfl) ?_
          refine lv_icmp_eq (tgt := 1233) hx hb dL_law_1228 (by decide) (fun _ => ?_) (fun c9 => absurd (hth.trans hLk.symm) c9)
          refine lv_iload hx hb dL_law_1233 (lv_at hl 1 rfl) ?_
          refine lv_if_ne (tgt := 1250) hx hb dL_law_1235 (by decide) (fun c => by first | exact absurd c (by decide) | exact absurd (by decide) c) (fun _ => ?_)
          refine lv_aload_n hx hb dL_law_1238 rfl (lv_at hl 6 rfl) ?_
          refine lv_iconst (v := 0) hx hb dL_law_1239 (by decide) ?_
          refine va_lald hx hb hK hP 15 4 rfl rfl (i := 0) (show ¬ ((0 : Int32) < 0 ∨ 1 ≤ (0 : Int32).toNatClampNeg) by decide) dL_law_1240 ?_
          refine lv_iload hx hb dL_law_1241 (lv_at hl 0 rfl) ?_
          refine lv_i2l hx hb dL_law_1243 rfl ?_
          refine W.lcmp hx hb dL_law_1244 ?_
          refine lv_if_eq (tgt := 1250) hx hb dL_law_1245 (by decide) (fun _ => ?_) (fun c9 => absurd ((lg_cmp_eq _ _).mpr (show u_92.1 0 = r_93.toInt64 by rw [hout, hr9])) c9)
          refine lv_goto (tgt := 1335) hx hb dL_law_1250 (by decide) ?_
          refine lv_iinc (v := (nI (5 * (j + 1)))) (lv' := [(4, .int (nI (5 * (j + 1)))), (6, .int r_93), (5, .int 0), (0, .ref b), (1, .ref g), (2, .ref x0), (3, .ref o)]) hx hb dL_law_1335 hl (k := 2) rfl (by show nI (5 * j) + 5 = nI (5 * (j + 1)); exact nI_add (5 * j) 5) (by decide) rfl (fun ls hl => ?_)
          refine lv_goto (tgt := 23) hx hb dL_law_1338 (by decide) ?_
          refine W.widen (k := 20 + 5 * (j + 1)) (n := 914 + 30 * (j + 1)) (by omega) (by omega) ?_
          exact ih (j + 1) _ _ _ _ _ _ _ _ _ _ _ _ _ _ _ _ _ _ _ _ _ _ _ _ _ _ _ _ _ _ _ (by omega) (by omega) hG9 hP hD hS (lv_sub hl [0, 3, 4, 5, 6] rfl)
        · have hG9 := hLo hcd
          have hu9 := hol9 hcd
          simp only [Prod.mk.injEq] at hu9
          obtain ⟨he1, he2, he3⟩ := hu9
          rw [he1, he2, he3] at hP hD
          have hP : va_P D vwCl ((x0, .inr (3, [.int gr, .int sh, .int rt, .int ce, .int (nI nl), .ref x1, .ref x2, .ref x3, .ref x4, .ref x5, .ref x6, .int (nI nv), .ref x7, .ref x8, .ref x9, .ref x10, .ref x11, .int am, .int (nI nc), .int cd, .ref x12, .int th9, .ref x13, .ref x14])) :: (x1, .inl (cyI, 12, .inl bud)) :: (x2, .inl (cyI, 12, .inl fsd)) :: (x3, .inl (cyI, 12, .inl las)) :: (x4, .inl (cyZ, 12, .inl isB)) :: (x5, .inl (cyI, 12, .inl mto)) :: (x6, .inl (cyI, 12, .inl maw)) :: (x7, .inl (cyI, 100, .inl lno)) :: (x8, .inl (cyI, 100, .inl dya)) :: (x9, .inl (cyI, 100, .inl amo)) :: (x10, .inl (cyZ, 100, .inl rfd)) :: (x11, .inl (cyI, 100, .inl ord)) :: (x12, .inl (cyI, 40, .inl cpa)) :: (x13, .inl (cyI, 100, .inl eli9)) :: (x14, .inl (cyI, 12, .inl usd9)) :: (o, .inl (cyJ, 1, .inr (.inl u_92.1))) :: u_92.2) H := hP
          have hD : va_D A ((x0, .inr (3, [.int gr, .int sh, .int rt, .int ce, .int (nI nl), .ref x1, .ref x2, .ref x3, .ref x4, .ref x5, .ref x6, .int (nI nv), .ref x7, .ref x8, .ref x9, .ref x10, .ref x11, .int am, .int (nI nc), .int cd, .ref x12, .int th9, .ref x13, .ref x14])) :: (x1, .inl (cyI, 12, .inl bud)) :: (x2, .inl (cyI, 12, .inl fsd)) :: (x3, .inl (cyI, 12, .inl las)) :: (x4, .inl (cyZ, 12, .inl isB)) :: (x5, .inl (cyI, 12, .inl mto)) :: (x6, .inl (cyI, 12, .inl maw)) :: (x7, .inl (cyI, 100, .inl lno)) :: (x8, .inl (cyI, 100, .inl dya)) :: (x9, .inl (cyI, 100, .inl amo)) :: (x10, .inl (cyZ, 100, .inl rfd)) :: (x11, .inl (cyI, 100, .inl ord)) :: (x12, .inl (cyI, 40, .inl cpa)) :: (x13, .inl (cyI, 100, .inl eli9)) :: (x14, .inl (cyI, 12, .inl usd9)) :: (o, .inl (cyJ, 1, .inr (.inl u_92.1))) :: u_92.2) := hD
          refine lv_istore (lv' := [(6, .int r_93), (5, .int r_92), (4, .int (nI (5 * j))), (0, .ref b), (1, .ref g), (2, .ref x0), (3, .ref o)]) hx hb dL_law_1220 hl (by decide) rfl (fun ls hl => ?_)
          refine lv_aload_n hx hb dL_law_1222 rfl (lv_at hl 5 rfl) ?_
          have hF_96 := gk_all hD hS hA
          refine va_calli (va_runV (As := []) (rest := []) ⟨hx, hb, hml, hown, hts⟩ (kX3_thrown l D cyI cyZ cyL cyV cyJ x0 x1 x2 x3 x4 x5 x6 x7 x8 x9 x10 x11 x12 x13 x14 gr sh rt ce nl nv am nc cd th9 bud fsd las isB mto maw lno dya amo rfd ord cpa eli9 usd9 ((o, .inl (cyJ, 1, .inr (.inl u_92.1))) :: u_92.2)  H.size _ rfl) (cwV 0 hts gL_law_X3_thrown rfl rfl rfl (by decide +kernel) ⟨(Nat.le_of_ble_eq_true rfl), (Nat.le_of_ble_eq_true rfl)⟩) (gk_preV hP hK hD (va_recv hK hP (ci := 3) (q0 := 0) rfl rfl)) rfl rfl hl.1 rfl (lv_room (Nat.le_of_ble_eq_true rfl)) dL_law_1223 ⟨(by show _ ≤ (601024 : Nat); omega), (by show _ ≤ (7293034 : Nat); omega)⟩) hS (fun q _ h => hF_96 q h) hF_96 (fun r_96 u_96 t_96 H locs ht_96 hvm_96 hw_96 hB_96 hz_96 hk_96 hS => ?_)
          obtain ⟨hP, hD⟩ := gk_back hF_96 hB_96 ht_96
          subst hw_96
          refine lv_iload hx hb dL_law_1226 (lv_at hl 1 rfl) ?_
          refine lv_icmp_eq (tgt := 1233) hx hb dL_law_1228 (by decide) (fun _ => ?_) (fun c9 => absurd (hth.trans hLk.symm) c9)
          refine lv_iload hx hb dL_law_1233 (lv_at hl 1 rfl) ?_
          refine lv_if_ne (tgt := 1250) hx hb dL_law_1235 (by decide) (fun _ => ?_) (fun c9 => absurd (hLk.symm.trans c9) hcd)
          refine lv_goto (tgt := 1335) hx hb dL_law_1250 (by decide) ?_
          refine lv_iinc (v := (nI (5 * (j + 1)))) (lv' := [(4, .int (nI (5 * (j + 1)))), (6, .int r_93), (5, .int r_92), (0, .ref b), (1, .ref g), (2, .ref x0), (3, .ref o)]) hx hb dL_law_1335 hl (k := 2) rfl (by show nI (5 * j) + 5 = nI (5 * (j + 1)); exact nI_add (5 * j) 5) (by decide) rfl (fun ls hl => ?_)
          refine lv_goto (tgt := 23) hx hb dL_law_1338 (by decide) ?_
          refine W.widen (k := 20 + 5 * (j + 1)) (n := 914 + 30 * (j + 1)) (by omega) (by omega) ?_
          exact ih (j + 1) _ _ _ _ _ _ _ _ _ _ _ _ _ _ _ _ _ _ _ _ _ _ _ _ _ _ _ _ _ _ _ (by omega) (by omega) hG9 hP hD hS (lv_sub hl [0, 3, 4, 5, 6] rfl)
      · rw [hsw]
        refine lv_tableIn (off := 1214) (tgt := 1253) hx hb dL_law_39 (by decide) (by decide) rfl (by decide) ?_
        refine lv_aload_n hx hb dL_law_1253 rfl (lv_at hl 2 rfl) ?_
        have hF_97 := gk_all hD hS hA
        refine va_calli (va_runV (As := []) (rest := []) ⟨hx, hb, hml, hown, hts⟩ (kQ_claims l D cyI cyZ cyL cyV cyJ gr sh rt ce nl nv am nc cd bud fsd las isB mto maw lno dya amo rfd ord cpa lnf orf g o (x0, .inr (3, [.int gr, .int sh, .int rt, .int ce, .int (nI nl), .ref x1, .ref x2, .ref x3, .ref x4, .ref x5, .ref x6, .int (nI nv), .ref x7, .ref x8, .ref x9, .ref x10, .ref x11, .int am, .int (nI nc), .int cd, .ref x12, .int th, .ref x13, .ref x14])) (x1, .inl (cyI, 12, .inl bud)) (x2, .inl (cyI, 12, .inl fsd)) (x3, .inl (cyI, 12, .inl las)) (x4, .inl (cyZ, 12, .inl isB)) (x5, .inl (cyI, 12, .inl mto)) (x6, .inl (cyI, 12, .inl maw)) (x7, .inl (cyI, 100, .inl lno)) (x8, .inl (cyI, 100, .inl dya)) (x9, .inl (cyI, 100, .inl amo)) (x10, .inl (cyZ, 100, .inl rfd)) (x11, .inl (cyI, 100, .inl ord)) (x12, .inl (cyI, 40, .inl cpa)) (x13, .inl (cyI, 100, .inl eli)) (x14, .inl (cyI, 12, .inl usd)) fo G hG H.size _ rfl) (cwV 0 hts gL_law_X2_claims rfl rfl rfl (by decide +kernel) ⟨(Nat.le_of_ble_eq_true rfl), (Nat.le_of_ble_eq_true rfl)⟩) (gk_preV hP hK hD (gQ_recv hG hK hP)) rfl rfl hl.1 rfl (lv_room (Nat.le_of_ble_eq_true rfl)) dL_law_1254 ⟨(by show _ ≤ (601024 : Nat); omega), (by show _ ≤ (7293034 : Nat); omega)⟩) hS (fun q _ h => hF_97 q h) hF_97 (fun r_97 u_97 t_97 H locs ht_97 hvm_97 hw_97 hB_97 hz_97 hk_97 hS => ?_)
        obtain ⟨hP, hD⟩ := gk_back hF_97 hB_97 ht_97
        refine lv_aload_n hx hb dL_law_1257 rfl (lv_at hl 3 rfl) ?_
        have hF_98 := gk_all hD hS hA
        refine va_calli (va_runV (As := []) (rest := [.int r_97]) ⟨hx, hb, hml, hown, hts⟩ (kX3_claims l D cyI cyZ cyL cyV cyJ x0 x1 x2 x3 x4 x5 x6 x7 x8 x9 x10 x11 x12 x13 x14 gr sh rt ce nl nv am nc cd th bud fsd las isB mto maw lno dya amo rfd ord cpa eli usd ((o, .inl (cyJ, 1, .inr (.inl fo))) :: G)  H.size _ rfl) (cwV 0 hts gL_law_X3_claims rfl rfl rfl (by decide +kernel) ⟨(Nat.le_of_ble_eq_true rfl), (Nat.le_of_ble_eq_true rfl)⟩) (gk_preV hP hK hD (va_recv hK hP (ci := 3) (q0 := 0) rfl rfl)) rfl rfl hl.1 rfl (lv_room (Nat.le_of_ble_eq_true rfl)) dL_law_1258 ⟨(by show _ ≤ (601024 : Nat); omega), (by show _ ≤ (7293034 : Nat); omega)⟩) hS (fun q _ h => hF_98 q h) hF_98 (fun r_98 u_98 t_98 H locs ht_98 hvm_98 hw_98 hB_98 hz_98 hk_98 hS => ?_)
        obtain ⟨hP, hD⟩ := gk_back hF_98 hB_98 ht_98
        refine lv_icmp_eq (tgt := 1335) hx hb dL_law_1261 (by decide) (fun _ => ?_) (fun c9 => absurd (hw_97.trans hw_98.symm) c9)
        refine lv_iinc (v := (nI (5 * (j + 1)))) (lv' := [(4, .int (nI (5 * (j + 1)))), (0, .ref b), (1, .ref g), (2, .ref x0), (3, .ref o)]) hx hb dL_law_1335 hl (k := 0) rfl (by show nI (5 * j) + 5 = nI (5 * (j + 1)); exact nI_add (5 * j) 5) (by decide) rfl (fun ls hl => ?_)
        refine lv_goto (tgt := 23) hx hb dL_law_1338 (by decide) ?_
        refine W.widen (k := 20 + 5 * (j + 1)) (n := 914 + 30 * (j + 1)) (by omega) (by omega) ?_
        exact ih (j + 1) _ _ _ _ _ _ _ _ _ _ _ _ _ _ _ _ _ _ _ _ _ _ _ _ _ _ _ _ _ _ _ (by omega) (by omega) hG hP hD hS (lv_sub hl [0, 1, 2, 3, 4] rfl)
      · rw [hsw]
        refine lv_tableIn (off := 1227) (tgt := 1266) hx hb dL_law_39 (by decide) (by decide) rfl (by decide) ?_
        refine lv_aload_n hx hb dL_law_1266 rfl (lv_at hl 2 rfl) ?_
        refine lv_aload_n hx hb dL_law_1267 rfl (lv_at hl 1 rfl) ?_
        refine lv_iload hx hb dL_law_1268 (lv_at hl 0 rfl) ?_
        refine lv_iconst (v := 1) hx hb dL_law_1270 (by decide) ?_
        refine lv_iadd hx hb dL_law_1271 ?_
        rw [show nI (5 * j) + 1 = nI (5 * j + 1) from nI_add (5 * j) 1]
        refine gk_sld (i := (5 * j + 1)) hx hb hX hbl hbA hS (by omega) hL dL_law_1272 ?_
        refine lv_aload_n hx hb dL_law_1273 rfl (lv_at hl 4 rfl) ?_
        have hF_99 := gk_all hD hS hA
        refine va_calli (vx_runSW (As := [.ref g, .int (xs (5 * j + 1)), .ref o]) (rest := []) ⟨hx, hb, hml, hown, hts⟩ (kL_paid l hst D cyI cyZ cyL cyV cyJ gr sh rt ce nl nv am nc cd bud fsd las isB mto maw lno dya amo rfd ord cpa lnf orf g o (x0, .inr (3, [.int gr, .int sh, .int rt, .int ce, .int (nI nl), .ref x1, .ref x2, .ref x3, .ref x4, .ref x5, .ref x6, .int (nI nv), .ref x7, .ref x8, .ref x9, .ref x10, .ref x11, .int am, .int (nI nc), .int cd, .ref x12, .int th, .ref x13, .ref x14])) (x1, .inl (cyI, 12, .inl bud)) (x2, .inl (cyI, 12, .inl fsd)) (x3, .inl (cyI, 12, .inl las)) (x4, .inl (cyZ, 12, .inl isB)) (x5, .inl (cyI, 12, .inl mto)) (x6, .inl (cyI, 12, .inl maw)) (x7, .inl (cyI, 100, .inl lno)) (x8, .inl (cyI, 100, .inl dya)) (x9, .inl (cyI, 100, .inl amo)) (x10, .inl (cyZ, 100, .inl rfd)) (x11, .inl (cyI, 100, .inl ord)) (x12, .inl (cyI, 40, .inl cpa)) (x13, .inl (cyI, 100, .inl eli)) (x14, .inl (cyI, 12, .inl usd)) fo G hG (xs (5 * j + 1)) H.size _ rfl) (vx_cwSW 3 hts gL_law_L_paid rfl rfl rfl (by decide +kernel) ⟨(Nat.le_of_ble_eq_true rfl), (Nat.le_of_ble_eq_true rfl)⟩) (gk_preSN hNC hTF hS hF_99 hP hK hD) rfl rfl hl.1 rfl (lv_room (Nat.le_of_ble_eq_true rfl)) dL_law_1274 ⟨(by show _ ≤ (601024 : Nat); omega), (by show _ ≤ (7293034 : Nat); omega)⟩) hS (fun q _ h => hF_99 q h) hF_99 (fun r_99 u_99 t_99 H locs ht_99 hvm_99 hw_99 hB_99 hz_99 hk_99 hS => ?_)
        obtain ⟨hP, hD⟩ := gk_back hF_99 hB_99 ht_99
        refine lv_istore (lv' := [(5, .int r_99), (4, .int (nI (5 * j))), (0, .ref b), (1, .ref g), (2, .ref x0), (3, .ref o)]) hx hb dL_law_1277 hl (by decide) rfl (fun ls hl => ?_)
        refine lv_aload_n hx hb dL_law_1279 rfl (lv_at hl 4 rfl) ?_
        refine lv_aload_n hx hb dL_law_1280 rfl (lv_at hl 2 rfl) ?_
        refine lv_iload hx hb dL_law_1281 (lv_at hl 1 rfl) ?_
        refine lv_iconst (v := 1) hx hb dL_law_1283 (by decide) ?_
        refine lv_iadd hx hb dL_law_1284 ?_
        rw [show nI (5 * j) + 1 = nI (5 * j + 1) from nI_add (5 * j) 1]
        refine gk_sld (i := (5 * j + 1)) hx hb hX hbl hbA hS (by omega) hL dL_law_1285 ?_
        have hF_100 := gk_all hD hS hA
        refine va_calli (va_runV (As := [.int (xs (5 * j + 1))]) (rest := []) ⟨hx, hb, hml, hown, hts⟩ (kX3_paid l D cyI cyZ cyL cyV cyJ x0 x1 x2 x3 x4 x5 x6 x7 x8 x9 x10 x11 x12 x13 x14 gr sh rt ce nl nv am nc cd th bud fsd las isB mto maw lno dya amo rfd ord cpa eli usd ((o, .inl (cyJ, 1, .inr (.inl u_99.1))) :: u_99.2) hM.1.2.2 (xs (5 * j + 1)) H.size _ rfl) (cwV 1 hts gL_law_X3_paid rfl rfl rfl (by decide +kernel) ⟨(Nat.le_of_ble_eq_true rfl), (Nat.le_of_ble_eq_true rfl)⟩) (gk_preV hP hK hD (va_recv hK hP (ci := 3) (q0 := 0) rfl rfl)) rfl rfl hl.1 rfl (lv_room (Nat.le_of_ble_eq_true rfl)) dL_law_1286 ⟨(by show _ ≤ (601024 : Nat); omega), (by show _ ≤ (7293034 : Nat); omega)⟩) hS (fun q _ h => hF_100 q h) hF_100 (fun r_100 u_100 t_100 H locs ht_100 hvm_100 hw_100 hB_100 hz_100 hk_100 hS => ?_)
        obtain ⟨hP, hD⟩ := gk_back hF_100 hB_100 ht_100
        obtain ⟨hth, hsu9, hol9⟩ := hw_100
        obtain ⟨hLk, hLs, hLo⟩ := hw_99
        by_cases hcd : cNum nc (xs (5 * j + 1)) = 0
        · have hk0 : r_99 = 0 := hLk.trans hcd
          obtain ⟨hout, hG9⟩ := hLs hcd
          have hr9 := hsu9 hcd
          subst hk0
          have hP : va_P D vwCl ((x0, .inr (3, [.int gr, .int sh, .int rt, .int ce, .int (nI nl), .ref x1, .ref x2, .ref x3, .ref x4, .ref x5, .ref x6, .int (nI nv), .ref x7, .ref x8, .ref x9, .ref x10, .ref x11, .int am, .int (nI nc), .int cd, .ref x12, .int u_100, .ref x13, .ref x14])) :: (x1, .inl (cyI, 12, .inl bud)) :: (x2, .inl (cyI, 12, .inl fsd)) :: (x3, .inl (cyI, 12, .inl las)) :: (x4, .inl (cyZ, 12, .inl isB)) :: (x5, .inl (cyI, 12, .inl mto)) :: (x6, .inl (cyI, 12, .inl maw)) :: (x7, .inl (cyI, 100, .inl lno)) :: (x8, .inl (cyI, 100, .inl dya)) :: (x9, .inl (cyI, 100, .inl amo)) :: (x10, .inl (cyZ, 100, .inl rfd)) :: (x11, .inl (cyI, 100, .inl ord)) :: (x12, .inl (cyI, 40, .inl cpa)) :: (x13, .inl (cyI, 100, .inl eli)) :: (x14, .inl (cyI, 12, .inl usd)) :: (o, .inl (cyJ, 1, .inr (.inl u_99.1))) :: u_99.2) H := hP
          have hD : va_D A ((x0, .inr (3, [.int gr, .int sh, .int rt, .int ce, .int (nI nl), .ref x1, .ref x2, .ref x3, .ref x4, .ref x5, .ref x6, .int (nI nv), .ref x7, .ref x8, .ref x9, .ref x10, .ref x11, .int am, .int (nI nc), .int cd, .ref x12, .int u_100, .ref x13, .ref x14])) :: (x1, .inl (cyI, 12, .inl bud)) :: (x2, .inl (cyI, 12, .inl fsd)) :: (x3, .inl (cyI, 12, .inl las)) :: (x4, .inl (cyZ, 12, .inl isB)) :: (x5, .inl (cyI, 12, .inl mto)) :: (x6, .inl (cyI, 12, .inl maw)) :: (x7, .inl (cyI, 100, .inl lno)) :: (x8, .inl (cyI, 100, .inl dya)) :: (x9, .inl (cyI, 100, .inl amo)) :: (x10, .inl (cyZ, 100, .inl rfd)) :: (x11, .inl (cyI, 100, .inl ord)) :: (x12, .inl (cyI, 40, .inl cpa)) :: (x13, .inl (cyI, 100, .inl eli)) :: (x14, .inl (cyI, 12, .inl usd)) :: (o, .inl (cyJ, 1, .inr (.inl u_99.1))) :: u_99.2) := hD
          refine lv_istore (lv' := [(6, .int r_100), (5, .int 0), (4, .int (nI (5 * j))), (0, .ref b), (1, .ref g), (2, .ref x0), (3, .ref o)]) hx hb dL_law_1289 hl (by decide) rfl (fun ls hl => ?_)
          refine lv_aload_n hx hb dL_law_1291 rfl (lv_at hl 5 rfl) ?_
          have hF_101 := gk_all hD hS hA
          refine va_calli (va_runV (As := []) (rest := []) ⟨hx, hb, hml, hown, hts⟩ (kX3_thrown l D cyI cyZ cyL cyV cyJ x0 x1 x2 x3 x4 x5 x6 x7 x8 x9 x10 x11 x12 x13 x14 gr sh rt ce nl nv am nc cd u_100 bud fsd las isB mto maw lno dya amo rfd ord cpa eli usd ((o, .inl (cyJ, 1, .inr (.inl u_99.1))) :: u_99.2)  H.size _ rfl) (cwV 0 hts gL_law_X3_thrown rfl rfl rfl (by decide +kernel) ⟨(Nat.le_of_ble_eq_true rfl), (Nat.le_of_ble_eq_true rfl)⟩) (gk_preV hP hK hD (va_recv hK hP (ci := 3) (q0 := 0) rfl rfl)) rfl rfl hl.1 rfl (lv_room (Nat.le_of_ble_eq_true rfl)) dL_law_1292 ⟨(by show _ ≤ (601024 : Nat); omega), (by show _ ≤ (7293034 : Nat); omega)⟩) hS (fun q _ h => hF_101 q h) hF_101 (fun r_101 u_101 t_101 H locs ht_101 hvm_101 hw_101 hB_101 hz_101 hk_101 hS => ?_)
          obtain ⟨hP, hD⟩ := gk_back hF_101 hB_101 ht_101
          subst hw_101
          refine lv_iload hx hb dL_law_1295 (lv_at hl 1 rfl) ?_
          refine lv_icmp_eq (tgt := 1302) hx hb dL_law_1297 (by decide) (fun _ => ?_) (fun c9 => absurd (hth.trans hLk.symm) c9)
          refine lv_iload hx hb dL_law_1302 (lv_at hl 1 rfl) ?_
          refine lv_if_ne (tgt := 1319) hx hb dL_law_1304 (by decide) (fun c => by first | exact absurd c (by decide) | exact absurd (by decide) c) (fun _ => ?_)
          refine lv_aload_n hx hb dL_law_1307 rfl (lv_at hl 6 rfl) ?_
          refine lv_iconst (v := 0) hx hb dL_law_1308 (by decide) ?_
          refine va_lald hx hb hK hP 15 4 rfl rfl (i := 0) (show ¬ ((0 : Int32) < 0 ∨ 1 ≤ (0 : Int32).toNatClampNeg) by decide) dL_law_1309 ?_
          refine lv_iload hx hb dL_law_1310 (lv_at hl 0 rfl) ?_
          refine lv_i2l hx hb dL_law_1312 rfl ?_
          refine W.lcmp hx hb dL_law_1313 ?_
          refine lv_if_eq (tgt := 1319) hx hb dL_law_1314 (by decide) (fun _ => ?_) (fun c9 => absurd ((lg_cmp_eq _ _).mpr (show u_99.1 0 = r_100.toInt64 by rw [hout, hr9])) c9)
          refine lv_goto (tgt := 1335) hx hb dL_law_1319 (by decide) ?_
          refine lv_iinc (v := (nI (5 * (j + 1)))) (lv' := [(4, .int (nI (5 * (j + 1)))), (6, .int r_100), (5, .int 0), (0, .ref b), (1, .ref g), (2, .ref x0), (3, .ref o)]) hx hb dL_law_1335 hl (k := 2) rfl (by show nI (5 * j) + 5 = nI (5 * (j + 1)); exact nI_add (5 * j) 5) (by decide) rfl (fun ls hl => ?_)
          refine lv_goto (tgt := 23) hx hb dL_law_1338 (by decide) ?_
          refine W.widen (k := 20 + 5 * (j + 1)) (n := 914 + 30 * (j + 1)) (by omega) (by omega) ?_
          exact ih (j + 1) _ _ _ _ _ _ _ _ _ _ _ _ _ _ _ _ _ _ _ _ _ _ _ _ _ _ _ _ _ _ _ (by omega) (by omega) hG9 hP hD hS (lv_sub hl [0, 3, 4, 5, 6] rfl)
        · have hG9 := hLo hcd
          have hu9 := hol9 hcd
          have hP : va_P D vwCl ((x0, .inr (3, [.int gr, .int sh, .int rt, .int ce, .int (nI nl), .ref x1, .ref x2, .ref x3, .ref x4, .ref x5, .ref x6, .int (nI nv), .ref x7, .ref x8, .ref x9, .ref x10, .ref x11, .int am, .int (nI nc), .int cd, .ref x12, .int u_100, .ref x13, .ref x14])) :: (x1, .inl (cyI, 12, .inl bud)) :: (x2, .inl (cyI, 12, .inl fsd)) :: (x3, .inl (cyI, 12, .inl las)) :: (x4, .inl (cyZ, 12, .inl isB)) :: (x5, .inl (cyI, 12, .inl mto)) :: (x6, .inl (cyI, 12, .inl maw)) :: (x7, .inl (cyI, 100, .inl lno)) :: (x8, .inl (cyI, 100, .inl dya)) :: (x9, .inl (cyI, 100, .inl amo)) :: (x10, .inl (cyZ, 100, .inl rfd)) :: (x11, .inl (cyI, 100, .inl ord)) :: (x12, .inl (cyI, 40, .inl cpa)) :: (x13, .inl (cyI, 100, .inl eli)) :: (x14, .inl (cyI, 12, .inl usd)) :: (o, .inl (cyJ, 1, .inr (.inl u_99.1))) :: u_99.2) H := hP
          have hD : va_D A ((x0, .inr (3, [.int gr, .int sh, .int rt, .int ce, .int (nI nl), .ref x1, .ref x2, .ref x3, .ref x4, .ref x5, .ref x6, .int (nI nv), .ref x7, .ref x8, .ref x9, .ref x10, .ref x11, .int am, .int (nI nc), .int cd, .ref x12, .int u_100, .ref x13, .ref x14])) :: (x1, .inl (cyI, 12, .inl bud)) :: (x2, .inl (cyI, 12, .inl fsd)) :: (x3, .inl (cyI, 12, .inl las)) :: (x4, .inl (cyZ, 12, .inl isB)) :: (x5, .inl (cyI, 12, .inl mto)) :: (x6, .inl (cyI, 12, .inl maw)) :: (x7, .inl (cyI, 100, .inl lno)) :: (x8, .inl (cyI, 100, .inl dya)) :: (x9, .inl (cyI, 100, .inl amo)) :: (x10, .inl (cyZ, 100, .inl rfd)) :: (x11, .inl (cyI, 100, .inl ord)) :: (x12, .inl (cyI, 40, .inl cpa)) :: (x13, .inl (cyI, 100, .inl eli)) :: (x14, .inl (cyI, 12, .inl usd)) :: (o, .inl (cyJ, 1, .inr (.inl u_99.1))) :: u_99.2) := hD
          refine lv_istore (lv' := [(6, .int r_100), (5, .int r_99), (4, .int (nI (5 * j))), (0, .ref b), (1, .ref g), (2, .ref x0), (3, .ref o)]) hx hb dL_law_1289 hl (by decide) rfl (fun ls hl => ?_)
          refine lv_aload_n hx hb dL_law_1291 rfl (lv_at hl 5 rfl) ?_
          have hF_103 := gk_all hD hS hA
          refine va_calli (va_runV (As := []) (rest := []) ⟨hx, hb, hml, hown, hts⟩ (kX3_thrown l D cyI cyZ cyL cyV cyJ x0 x1 x2 x3 x4 x5 x6 x7 x8 x9 x10 x11 x12 x13 x14 gr sh rt ce nl nv am nc cd u_100 bud fsd las isB mto maw lno dya amo rfd ord cpa eli usd ((o, .inl (cyJ, 1, .inr (.inl u_99.1))) :: u_99.2)  H.size _ rfl) (cwV 0 hts gL_law_X3_thrown rfl rfl rfl (by decide +kernel) ⟨(Nat.le_of_ble_eq_true rfl), (Nat.le_of_ble_eq_true rfl)⟩) (gk_preV hP hK hD (va_recv hK hP (ci := 3) (q0 := 0) rfl rfl)) rfl rfl hl.1 rfl (lv_room (Nat.le_of_ble_eq_true rfl)) dL_law_1292 ⟨(by show _ ≤ (601024 : Nat); omega), (by show _ ≤ (7293034 : Nat); omega)⟩) hS (fun q _ h => hF_103 q h) hF_103 (fun r_103 u_103 t_103 H locs ht_103 hvm_103 hw_103 hB_103 hz_103 hk_103 hS => ?_)
          obtain ⟨hP, hD⟩ := gk_back hF_103 hB_103 ht_103
          subst hw_103
          refine lv_iload hx hb dL_law_1295 (lv_at hl 1 rfl) ?_
          refine lv_icmp_eq (tgt := 1302) hx hb dL_law_1297 (by decide) (fun _ => ?_) (fun c9 => absurd (hth.trans hLk.symm) c9)
          refine lv_iload hx hb dL_law_1302 (lv_at hl 1 rfl) ?_
          refine lv_if_ne (tgt := 1319) hx hb dL_law_1304 (by decide) (fun _ => ?_) (fun c9 => absurd (hLk.symm.trans c9) hcd)
          refine lv_goto (tgt := 1335) hx hb dL_law_1319 (by decide) ?_
          refine lv_iinc (v := (nI (5 * (j + 1)))) (lv' := [(4, .int (nI (5 * (j + 1)))), (6, .int r_100), (5, .int r_99), (0, .ref b), (1, .ref g), (2, .ref x0), (3, .ref o)]) hx hb dL_law_1335 hl (k := 2) rfl (by show nI (5 * j) + 5 = nI (5 * (j + 1)); exact nI_add (5 * j) 5) (by decide) rfl (fun ls hl => ?_)
          refine lv_goto (tgt := 23) hx hb dL_law_1338 (by decide) ?_
          refine W.widen (k := 20 + 5 * (j + 1)) (n := 914 + 30 * (j + 1)) (by omega) (by omega) ?_
          exact ih (j + 1) _ _ _ _ _ _ _ _ _ _ _ _ _ _ _ _ _ _ _ _ _ _ _ _ _ _ _ _ _ _ _ (by omega) (by omega) hG9 hP hD hS (lv_sub hl [0, 3, 4, 5, 6] rfl)
      · rw [hsw]
        refine lv_tableIn (off := 1283) (tgt := 1322) hx hb dL_law_39 (by decide) (by decide) rfl (by decide) ?_
        refine lv_aload_n hx hb dL_law_1322 rfl (lv_at hl 2 rfl) ?_
        have hF_104 := gk_all hD hS hA
        refine va_calli (va_runV (As := []) (rest := []) ⟨hx, hb, hml, hown, hts⟩ (kQ_unsettled l D cyI cyZ cyL cyV cyJ gr sh rt ce nl nv am nc cd bud fsd las isB mto maw lno dya amo rfd ord cpa lnf orf g o (x0, .inr (3, [.int gr, .int sh, .int rt, .int ce, .int (nI nl), .ref x1, .ref x2, .ref x3, .ref x4, .ref x5, .ref x6, .int (nI nv), .ref x7, .ref x8, .ref x9, .ref x10, .ref x11, .int am, .int (nI nc), .int cd, .ref x12, .int th, .ref x13, .ref x14])) (x1, .inl (cyI, 12, .inl bud)) (x2, .inl (cyI, 12, .inl fsd)) (x3, .inl (cyI, 12, .inl las)) (x4, .inl (cyZ, 12, .inl isB)) (x5, .inl (cyI, 12, .inl mto)) (x6, .inl (cyI, 12, .inl maw)) (x7, .inl (cyI, 100, .inl lno)) (x8, .inl (cyI, 100, .inl dya)) (x9, .inl (cyI, 100, .inl amo)) (x10, .inl (cyZ, 100, .inl rfd)) (x11, .inl (cyI, 100, .inl ord)) (x12, .inl (cyI, 40, .inl cpa)) (x13, .inl (cyI, 100, .inl eli)) (x14, .inl (cyI, 12, .inl usd)) fo G hG H.size _ rfl) (cwV 0 hts gL_law_X2_unsettled rfl rfl rfl (by decide +kernel) ⟨(Nat.le_of_ble_eq_true rfl), (Nat.le_of_ble_eq_true rfl)⟩) (gk_preV hP hK hD (gQ_recv hG hK hP)) rfl rfl hl.1 rfl (lv_room (Nat.le_of_ble_eq_true rfl)) dL_law_1323 ⟨(by show _ ≤ (601024 : Nat); omega), (by show _ ≤ (7293034 : Nat); omega)⟩) hS (fun q _ h => hF_104 q h) hF_104 (fun r_104 u_104 t_104 H locs ht_104 hvm_104 hw_104 hB_104 hz_104 hk_104 hS => ?_)
        obtain ⟨hP, hD⟩ := gk_back hF_104 hB_104 ht_104
        refine lv_aload_n hx hb dL_law_1326 rfl (lv_at hl 3 rfl) ?_
        have hF_105 := gk_all hD hS hA
        refine va_calli (va_runV (As := []) (rest := [.int r_104]) ⟨hx, hb, hml, hown, hts⟩ (kX3_unsettled l D cyI cyZ cyL cyV cyJ x0 x1 x2 x3 x4 x5 x6 x7 x8 x9 x10 x11 x12 x13 x14 gr sh rt ce nl nv am nc cd th bud fsd las isB mto maw lno dya amo rfd ord cpa eli usd ((o, .inl (cyJ, 1, .inr (.inl fo))) :: G) hM.1.1 hM.1.2.1 lnf hM.2.1 orf hM.2.2.1 hM.2.2.2.1 hM.1.2.2 H.size _ rfl) (cwV 0 hts gL_law_X3_unsettled rfl rfl rfl (by decide +kernel) ⟨(Nat.le_of_ble_eq_true rfl), (Nat.le_of_ble_eq_true rfl)⟩) (gk_preV hP hK hD (va_recv hK hP (ci := 3) (q0 := 0) rfl rfl)) rfl rfl hl.1 rfl (lv_room (Nat.le_of_ble_eq_true rfl)) dL_law_1327 ⟨(by show _ ≤ (601024 : Nat); omega), (by show _ ≤ (7293034 : Nat); omega)⟩) hS (fun q _ h => hF_105 q h) hF_105 (fun r_105 u_105 t_105 H locs ht_105 hvm_105 hw_105 hB_105 hz_105 hk_105 hS => ?_)
        obtain ⟨hP, hD⟩ := gk_back hF_105 hB_105 ht_105
        obtain ⟨eli_105, usd_105⟩ := u_105
        have hP : va_P D vwCl ((x0, .inr (3, [.int gr, .int sh, .int rt, .int ce, .int (nI nl), .ref x1, .ref x2, .ref x3, .ref x4, .ref x5, .ref x6, .int (nI nv), .ref x7, .ref x8, .ref x9, .ref x10, .ref x11, .int am, .int (nI nc), .int cd, .ref x12, .int 0, .ref x13, .ref x14])) :: (x1, .inl (cyI, 12, .inl bud)) :: (x2, .inl (cyI, 12, .inl fsd)) :: (x3, .inl (cyI, 12, .inl las)) :: (x4, .inl (cyZ, 12, .inl isB)) :: (x5, .inl (cyI, 12, .inl mto)) :: (x6, .inl (cyI, 12, .inl maw)) :: (x7, .inl (cyI, 100, .inl lno)) :: (x8, .inl (cyI, 100, .inl dya)) :: (x9, .inl (cyI, 100, .inl amo)) :: (x10, .inl (cyZ, 100, .inl rfd)) :: (x11, .inl (cyI, 100, .inl ord)) :: (x12, .inl (cyI, 40, .inl cpa)) :: (x13, .inl (cyI, 100, .inl eli_105)) :: (x14, .inl (cyI, 12, .inl usd_105)) :: (o, .inl (cyJ, 1, .inr (.inl fo))) :: G) H := hP
        have hD : va_D A ((x0, .inr (3, [.int gr, .int sh, .int rt, .int ce, .int (nI nl), .ref x1, .ref x2, .ref x3, .ref x4, .ref x5, .ref x6, .int (nI nv), .ref x7, .ref x8, .ref x9, .ref x10, .ref x11, .int am, .int (nI nc), .int cd, .ref x12, .int 0, .ref x13, .ref x14])) :: (x1, .inl (cyI, 12, .inl bud)) :: (x2, .inl (cyI, 12, .inl fsd)) :: (x3, .inl (cyI, 12, .inl las)) :: (x4, .inl (cyZ, 12, .inl isB)) :: (x5, .inl (cyI, 12, .inl mto)) :: (x6, .inl (cyI, 12, .inl maw)) :: (x7, .inl (cyI, 100, .inl lno)) :: (x8, .inl (cyI, 100, .inl dya)) :: (x9, .inl (cyI, 100, .inl amo)) :: (x10, .inl (cyZ, 100, .inl rfd)) :: (x11, .inl (cyI, 100, .inl ord)) :: (x12, .inl (cyI, 40, .inl cpa)) :: (x13, .inl (cyI, 100, .inl eli_105)) :: (x14, .inl (cyI, 12, .inl usd_105)) :: (o, .inl (cyJ, 1, .inr (.inl fo))) :: G) := hD
        refine lv_icmp_eq (tgt := 1335) hx hb dL_law_1330 (by decide) (fun _ => ?_) (fun c9 => absurd (hw_104.trans hw_105.symm) c9)
        refine lv_iinc (v := (nI (5 * (j + 1)))) (lv' := [(4, .int (nI (5 * (j + 1)))), (0, .ref b), (1, .ref g), (2, .ref x0), (3, .ref o)]) hx hb dL_law_1335 hl (k := 0) rfl (by show nI (5 * j) + 5 = nI (5 * (j + 1)); exact nI_add (5 * j) 5) (by decide) rfl (fun ls hl => ?_)
        refine lv_goto (tgt := 23) hx hb dL_law_1338 (by decide) ?_
        refine W.widen (k := 20 + 5 * (j + 1)) (n := 914 + 30 * (j + 1)) (by omega) (by omega) ?_
        exact ih (j + 1) _ _ _ _ _ _ _ _ _ _ _ _ _ _ _ _ _ _ _ _ _ _ _ _ _ _ _ _ _ _ _ (by omega) (by omega) hG hP hD hS (lv_sub hl [0, 1, 2, 3, 4] rfl)
