theorem gk_dropP {D : va_G} {cl : List vw_C} {l1 l2 : va_W} {q : Nat × va_E} {H : Heap} (h : va_P D cl (l1 ++ q :: l2) H) : va_P D cl (l1 ++ l2) H := gk_tlP (gk_permP h List.perm_middle)
theorem gk_dropD {A : Nat → Prop} {l1 l2 : va_W} {q : Nat × va_E} (h : va_D A (l1 ++ q :: l2)) : va_D A (l1 ++ l2) := gk_tlD (gk_permD h List.perm_middle)
set_option maxHeartbeats 4000000 in
set_option maxRecDepth 100000 in
theorem kL_isBook (l : Launch) (hst : l.stackTraces = false) (D : va_G) (cyI cyZ cyL cyV cyJ : ClassId) (gr sh rt ce : Int32) (nl nv : Nat) (am : Int32) (nc : Nat) (cd : Int32) (bud fsd las isB mto maw lno dya amo rfd ord cpa : Nat → Int32) (lnf orf : Nat → Nat) (g xn xb xd xa xl xp : Nat) (nf bf df af lf pf : Nat → Int32) (G : va_W) (hG : gGP cyI cyL cyV gr sh rt ce nl nv am nc cd bud fsd las isB mto maw lno dya amo rfd ord cpa lnf orf g G) (hR : pRB nl nv gr sh rt ce bud fsd las isB mto maw dya amo rfd lnf nf bf df af lf) (hX : pRX nl am nc cd cpa nf bf pf) (hT : pST nv dya orf) (yy : Nat) (hyy : yy < 2 ^ 31) (sz : Nat) (A : Nat → Prop) (hAe : va_A ((xn, .inl (cyI, 10, .inl nf)) :: (xb, .inl (cyI, 36, .inl bf)) :: (xd, .inl (cyI, 40, .inl df)) :: (xa, .inl (cyI, 40, .inl af)) :: (xl, .inl (cyI, 40, .inl lf)) :: (xp, .inl (cyI, 40, .inl pf)) :: G) sz = A) : Met l yL_isBook wsL_isBook ({ frames := 9, cells := 200, slots := 1200, locals := 147 }) (va_Pc [.ref g, .ref xn, .ref xb, .ref xd, .ref xa, .ref xl, .ref xp, .int (nI yy)] (gPreT D (gTy cyI cyZ cyL cyV cyJ) ((xn, .inl (cyI, 10, .inl nf)) :: (xb, .inl (cyI, 36, .inl bf)) :: (xd, .inl (cyI, 40, .inl df)) :: (xa, .inl (cyI, 40, .inl af)) :: (xl, .inl (cyI, 40, .inl lf)) :: (xp, .inl (cyI, 40, .inl pf)) :: G) sz)) (va_Qi (fun (r : Int32) (_ : Unit) => r = 1) (fun (_ : Unit) t => gPost D (gTy cyI cyZ cyL cyV cyJ) A ((xn, .inl (cyI, 10, .inl nf)) :: (xb, .inl (cyI, 36, .inl bf)) :: (xd, .inl (cyI, 40, .inl df)) :: (xa, .inl (cyI, 40, .inl af)) :: (xl, .inl (cyI, 40, .inl lf)) :: (xp, .inl (cyI, 40, .inl pf)) :: G) t) A) 200 1200 A := by
  refine Met.ofW (cc := cL_isBook) (maxL := 19) (ret := (some .boolean)) (by decide) rfl ?_
  intro p e s m args below meth c s₁ B hml hv
  obtain ⟨rfl, hTF, hsz, hP, hK, hD0⟩ := hv
  have hx := B.exec
  have hb := B.bytes
  have hr := B.returns
  have hts := atoms_spec (ws := wsL_isBook) B.pre
  have hown : s.vm.findClass RL = some m.cls := findClass_of_methodNamed B.named
  have hlocks := B.notSynchronized
  subst hsz
  have hD := hD0.self (sz := s.heap.size)
  rw [hAe] at hD hTF
  have hA : ∀ q : Nat, s.heap.size ≤ q → A q := fun q h => by rw [← hAe]; exact Or.inr h
  have hS : va_S A s.heap s.heap [] := va_S.rf
  have hP : va_P D vwCl ((xn, .inl (cyI, 10, .inl nf)) :: (xb, .inl (cyI, 36, .inl bf)) :: (xd, .inl (cyI, 40, .inl df)) :: (xa, .inl (cyI, 40, .inl af)) :: (xl, .inl (cyI, 40, .inl lf)) :: (xp, .inl (cyI, 40, .inl pf)) :: G) s.heap := hP
  have hl := lv_entry ([.ref g, .ref xn, .ref xb, .ref xd, .ref xa, .ref xl, .ref xp, .int (nI yy)]) (n := 19) (Nat.le_of_ble_eq_true rfl)
  rw [lg_entry_eq]
  generalize (lg_sl ([.ref g, .ref xn, .ref xb, .ref xd, .ref xa, .ref xl, .ref xp, .int (nI yy)]) ++ List.replicate (19 - (lg_sl ([.ref g, .ref xn, .ref xb, .ref xd, .ref xa, .ref xl, .ref xp, .int (nI yy)])).length) Slot.unset).toArray = ls at hl ⊢
  have hl : lv_has ls 19 [(0, .ref g), (1, .ref xn), (2, .ref xb), (3, .ref xd), (4, .ref xa), (5, .ref xl), (6, .ref xp), (7, .int (nI yy))] := hl
  obtain ⟨⟨hnl, hnv⟩, ⟨hn0, hn1, hn2, hn3, hn5⟩, hbl, hvl⟩ := id hR
  obtain ⟨hn4, hn6, hn7, hn8, hn9, hpf, -⟩ := id hX
  have hnc : nc ≤ 40 := hG.1.1.2.2
  have hel := pG_el hG hT
  have hlm := pG_lm hG (nI (yy % 100 * 5))
  have hday : gIn (nI (yy % 100 * 5)) 0 9999 := ⟨nI_pos' (by omega), pc_le (a := yy % 100 * 5) (b := 9999) (by omega) (by omega) (by omega)⟩
  have loop4 : ∀ (xu n : Nat) (lo hi : Int64) (H : Heap) (locs : List Loc) (ls : Array Slot), hi.toInt - lo.toInt < n → 0 ≤ lo.toInt → lo.toInt ≤ pLM sh (gUb sh gr (gSm (gCx dya isB (gEL (fun l => bud l + mto l - maw l) (fun v => gAcc (fsd (lnf v)) (las (lnf v)) (rfd v) (dya v)) lnf amo orf nv) lnf (nI (yy % 100 * 5)) 0) nv) (gOw rt ce (gSm (gCx dya isB (gEL (fun l => bud l + mto l - maw l) (fun v => gAcc (fsd (lnf v)) (las (lnf v)) (rfd v) (dya v)) lnf amo orf nv) lnf (nI (yy % 100 * 5)) 1) nv))) → pLM sh (gUb sh gr (gSm (gCx dya isB (gEL (fun l => bud l + mto l - maw l) (fun v => gAcc (fsd (lnf v)) (las (lnf v)) (rfd v) (dya v)) lnf amo orf nv) lnf (nI (yy % 100 * 5)) 0) nv) (gOw rt ce (gSm (gCx dya isB (gEL (fun l => bud l + mto l - maw l) (fun v => gAcc (fsd (lnf v)) (las (lnf v)) (rfd v) (dya v)) lnf amo orf nv) lnf (nI (yy % 100 * 5)) 1) nv))) ≤ hi.toInt → hi.toInt ≤ 20000000000 → va_P D vwCl ((xn, .inl (cyI, 10, .inl nf)) :: (xb, .inl (cyI, 36, .inl bf)) :: (xd, .inl (cyI, 40, .inl df)) :: (xa, .inl (cyI, 40, .inl af)) :: (xl, .inl (cyI, 40, .inl lf)) :: (xp, .inl (cyI, 40, .inl pf)) :: (xu, .inl (cyI, 6, .inl (pUs (gEL (fun l => bud l + mto l - maw l) (fun v => gAcc (fsd (lnf v)) (las (lnf v)) (rfd v) (dya v)) lnf amo orf nv) lnf nv))) :: G) H → va_D A ((xn, .inl (cyI, 10, .inl nf)) :: (xb, .inl (cyI, 36, .inl bf)) :: (xd, .inl (cyI, 40, .inl df)) :: (xa, .inl (cyI, 40, .inl af)) :: (xl, .inl (cyI, 40, .inl lf)) :: (xp, .inl (cyI, 40, .inl pf)) :: (xu, .inl (cyI, 6, .inl (pUs (gEL (fun l => bud l + mto l - maw l) (fun v => gAcc (fsd (lnf v)) (las (lnf v)) (rfd v) (dya v)) lnf amo orf nv) lnf nv))) :: G) → va_S A s.heap H locs → lv_has ls 19 [(12, .long lo), (14, .long hi), (11, .int (gUb sh gr (gSm (gCx dya isB (gEL (fun l => bud l + mto l - maw l) (fun v => gAcc (fsd (lnf v)) (las (lnf v)) (rfd v) (dya v)) lnf amo orf nv) lnf (nI (yy % 100 * 5)) 0) nv) (gOw rt ce (gSm (gCx dya isB (gEL (fun l => bud l + mto l - maw l) (fun v => gAcc (fsd (lnf v)) (las (lnf v)) (rfd v) (dya v)) lnf amo orf nv) lnf (nI (yy % 100 * 5)) 1) nv)))), (10, .int (nI (yy % 100 * 5))), (9, .ref xu), (8, .int 1), (0, .ref g), (1, .ref xn), (2, .ref xb), (3, .ref xd), (4, .ref xa), (5, .ref xl), (6, .ref xp), (7, .int (nI yy))] → W p l e (headSpec wsL_isBook ({ frames := 9, cells := 200, slots := 1200, locals := 147 })).room s m ([.ref g, .ref xn, .ref xb, .ref xd, .ref xa, .ref xl, .ref xp, .int (nI yy)] : List Value).toArray below meth c H locs 150 900 (MQ below (va_Qi (fun (r : Int32) (_ : Unit) => r = 1) (fun (_ : Unit) t => gPost D (gTy cyI cyZ cyL cyV cyJ) A ((xn, .inl (cyI, 10, .inl nf)) :: (xb, .inl (cyI, 36, .inl bf)) :: (xd, .inl (cyI, 40, .inl df)) :: (xa, .inl (cyI, 40, .inl af)) :: (xl, .inl (cyI, 40, .inl lf)) :: (xp, .inl (cyI, 40, .inl pf)) :: G) t) A) ([.ref g, .ref xn, .ref xb, .ref xd, .ref xa, .ref xl, .ref xp, .int (nI yy)] : List Value).toArray s 200 1200 A) (F0 m 317 ls []) := by
    intro xu n
    induction n with
    | zero => intro lo hi H locs ls h1 h2 h3 h4; exact absurd h1 (by omega)
    | succ n ih =>
      intro lo hi H locs ls h1 h2 h3 h4 h5 hP hD hS hl
      refine lv_lload hx hb dL_isBook_317 (lv_at hl 0 rfl) ?_
      refine lv_lload hx hb dL_isBook_319 (lv_at hl 1 rfl) ?_
      refine W.lcmp hx hb dL_isBook_321 ?_
      refine lv_if_ge (tgt := 395) hx hb dL_isBook_322 (by decide) (fun c_1 => ?_) (fun c_1 => ?_)
      · have hge : hi.toInt ≤ lo.toInt := Int64.le_iff_toInt_le.mp ((lg_cmp_ge lo hi).mp c_1)
        have hlo : lo.toInt = pLM sh (gUb sh gr (gSm (gCx dya isB (gEL (fun l => bud l + mto l - maw l) (fun v => gAcc (fsd (lnf v)) (las (lnf v)) (rfd v) (dya v)) lnf amo orf nv) lnf (nI (yy % 100 * 5)) 0) nv) (gOw rt ce (gSm (gCx dya isB (gEL (fun l => bud l + mto l - maw l) (fun v => gAcc (fsd (lnf v)) (las (lnf v)) (rfd v) (dya v)) lnf amo orf nv) lnf (nI (yy % 100 * 5)) 1) nv))) := by omega
        refine lv_iload hx hb dL_isBook_395 (lv_at hl 5 rfl) ?_
        refine lv_if_eq (tgt := 507) hx hb dL_isBook_397 (by decide) (fun c => by first | exact absurd c (by decide) | exact absurd (by decide) c) (fun _ => ?_)
        refine lv_aload_n hx hb dL_isBook_400 rfl (lv_at hl 6 rfl) ?_
        refine lv_iload hx hb dL_isBook_401 (lv_at hl 3 rfl) ?_
        have hP : va_P D vwCl (([(xn, .inl (cyI, 10, .inl nf)), (xb, .inl (cyI, 36, .inl bf)), (xd, .inl (cyI, 40, .inl df)), (xa, .inl (cyI, 40, .inl af)), (xl, .inl (cyI, 40, .inl lf)), (xp, .inl (cyI, 40, .inl pf)), (xu, .inl (cyI, 6, .inl (pUs (gEL (fun l => bud l + mto l - maw l) (fun v => gAcc (fsd (lnf v)) (las (lnf v)) (rfd v) (dya v)) lnf amo orf nv) lnf nv)))] : va_W) ++ G) H := hP
        have hD : va_D A (([(xn, .inl (cyI, 10, .inl nf)), (xb, .inl (cyI, 36, .inl bf)), (xd, .inl (cyI, 40, .inl df)), (xa, .inl (cyI, 40, .inl af)), (xl, .inl (cyI, 40, .inl lf)), (xp, .inl (cyI, 40, .inl pf)), (xu, .inl (cyI, 6, .inl (pUs (gEL (fun l => bud l + mto l - maw l) (fun v => gAcc (fsd (lnf v)) (las (lnf v)) (rfd v) (dya v)) lnf amo orf nv) lnf nv)))] : va_W) ++ G) := hD
        have hF_3 := gk_all hD hS hA
        refine vx_calli (vx_runV (As := [.int (nI (yy % 100 * 5))]) (rest := []) ⟨hx, hb, hml, hown, hts⟩ (kQ_costs l hst D cyI cyZ cyL cyV cyJ gr sh rt ce nl nv am nc cd bud fsd las isB mto maw lno dya amo rfd ord cpa lnf orf g ([(xn, .inl (cyI, 10, .inl nf)), (xb, .inl (cyI, 36, .inl bf)), (xd, .inl (cyI, 40, .inl df)), (xa, .inl (cyI, 40, .inl af)), (xl, .inl (cyI, 40, .inl lf)), (xp, .inl (cyI, 40, .inl pf)), (xu, .inl (cyI, 6, .inl (pUs (gEL (fun l => bud l + mto l - maw l) (fun v => gAcc (fsd (lnf v)) (las (lnf v)) (rfd v) (dya v)) lnf amo orf nv) lnf nv)))] : va_W) G hG (nI (yy % 100 * 5)) H.size _ rfl) (cwV 1 hts gL_isBook_X2_costs rfl rfl rfl (by decide +kernel) ⟨(Nat.le_of_ble_eq_true rfl), (Nat.le_of_ble_eq_true rfl)⟩) (gk_preVT hTF hS hF_3 hP hK hD (gQ_recv hG hK hP)) rfl rfl hl.1 rfl (lv_room (Nat.le_of_ble_eq_true rfl)) dL_isBook_403 ⟨(by show _ ≤ (200 : Nat); omega), (by show _ ≤ (1200 : Nat); omega)⟩) hS (fun q _ h => hF_3 q h) hF_3 (fun q _ h => hF_3 q h) (fun E_3 ce_3 q_3 u_3 t_3 H locs ht_3 hvm_3 hpx_3 hBX_3 hz_3 hk_3 hS hce_3 hcv_3 hcl_3 => ?_) (fun r_3 u_3 t_3 H locs ht_3 hvm_3 hw_3 hB_3 hz_3 hk_3 hS => ?_)
        · exact absurd hpx_3.2 (by unfold cDay; rw [if_pos (hday : gIn (nI (yy % 100 * 5)) 0 9999)]; decide)
        · obtain ⟨hP, hD⟩ := gk_back hF_3 hB_3 ht_3
          have hP : va_P D vwCl ((xn, .inl (cyI, 10, .inl nf)) :: (xb, .inl (cyI, 36, .inl bf)) :: (xd, .inl (cyI, 40, .inl df)) :: (xa, .inl (cyI, 40, .inl af)) :: (xl, .inl (cyI, 40, .inl lf)) :: (xp, .inl (cyI, 40, .inl pf)) :: (xu, .inl (cyI, 6, .inl (pUs (gEL (fun l => bud l + mto l - maw l) (fun v => gAcc (fsd (lnf v)) (las (lnf v)) (rfd v) (dya v)) lnf amo orf nv) lnf nv))) :: G) H := hP
          have hD : va_D A ((xn, .inl (cyI, 10, .inl nf)) :: (xb, .inl (cyI, 36, .inl bf)) :: (xd, .inl (cyI, 40, .inl df)) :: (xa, .inl (cyI, 40, .inl af)) :: (xl, .inl (cyI, 40, .inl lf)) :: (xp, .inl (cyI, 40, .inl pf)) :: (xu, .inl (cyI, 6, .inl (pUs (gEL (fun l => bud l + mto l - maw l) (fun v => gAcc (fsd (lnf v)) (las (lnf v)) (rfd v) (dya v)) lnf amo orf nv) lnf nv))) :: G) := hD
          obtain ⟨-, hv_3⟩ := hw_3
          subst hv_3
          refine lv_aload_n hx hb dL_isBook_406 rfl (lv_at hl 7 rfl) ?_
          refine lv_aload_n hx hb dL_isBook_407 rfl (lv_at hl 8 rfl) ?_
          refine lv_aload_n hx hb dL_isBook_408 rfl (lv_at hl 9 rfl) ?_
          refine lv_aload hx hb dL_isBook_409 (lv_at hl 10 rfl) ?_
          refine lv_aload hx hb dL_isBook_411 (lv_at hl 11 rfl) ?_
          refine lv_iload hx hb dL_isBook_413 (lv_at hl 3 rfl) ?_
          refine lv_iconst (v := 0) hx hb dL_isBook_415 (by decide) ?_
          have hF_4 := gk_all hD hS hA
          refine va_calli (va_runS (As := [.ref xn, .ref xb, .ref xd, .ref xa, .ref xl, .int (nI (yy % 100 * 5)), .int 0]) (rest := [.int (gSm (gCx dya isB (gEL (fun l => bud l + mto l - maw l) (fun v => gAcc (fsd (lnf v)) (las (lnf v)) (rfd v) (dya v)) lnf amo orf nv) lnf (nI (yy % 100 * 5)) 0) nv)]) ⟨hx, hb, hml, hown, hts⟩ (kL_sum l D cyI cyZ cyL cyV cyJ xn xb xd xa xl nl nv gr sh rt ce bud fsd las isB mto maw dya amo rfd lnf nf bf df af lf ((xp, .inl (cyI, 40, .inl pf)) :: (xu, .inl (cyI, 6, .inl (pUs (gEL (fun l => bud l + mto l - maw l) (fun v => gAcc (fsd (lnf v)) (las (lnf v)) (rfd v) (dya v)) lnf amo orf nv) lnf nv))) :: G) hR (gEL (fun l => bud l + mto l - maw l) (fun v => gAcc (fsd (lnf v)) (las (lnf v)) (rfd v) (dya v)) lnf amo orf nv) hel (nI (yy % 100 * 5)) 0 H.size _ rfl) (va_cwS 7 hts gL_isBook_L_sum rfl rfl rfl (by decide +kernel) ⟨(Nat.le_of_ble_eq_true rfl), (Nat.le_of_ble_eq_true rfl)⟩) (gk_preS hP hK hD) rfl rfl hl.1 rfl (lv_room (Nat.le_of_ble_eq_true rfl)) dL_isBook_416 ⟨(by show _ ≤ (200 : Nat); omega), (by show _ ≤ (1200 : Nat); omega)⟩) hS (fun q _ h => hF_4 q h) hF_4 (fun r_4 u_4 t_4 H locs ht_4 hvm_4 hw_4 hB_4 hz_4 hk_4 hS => ?_)
          obtain ⟨hP, hD⟩ := gk_back hF_4 hB_4 ht_4
          subst hw_4
          refine lv_icmp_ne (tgt := 507) hx hb dL_isBook_419 (by decide) (fun c9 => absurd rfl c9) (fun _ => ?_)
          refine lv_aload_n hx hb dL_isBook_422 rfl (lv_at hl 6 rfl) ?_
          refine lv_iload hx hb dL_isBook_423 (lv_at hl 3 rfl) ?_
          have hP : va_P D vwCl (([(xn, .inl (cyI, 10, .inl nf)), (xb, .inl (cyI, 36, .inl bf)), (xd, .inl (cyI, 40, .inl df)), (xa, .inl (cyI, 40, .inl af)), (xl, .inl (cyI, 40, .inl lf)), (xp, .inl (cyI, 40, .inl pf)), (xu, .inl (cyI, 6, .inl (pUs (gEL (fun l => bud l + mto l - maw l) (fun v => gAcc (fsd (lnf v)) (las (lnf v)) (rfd v) (dya v)) lnf amo orf nv) lnf nv)))] : va_W) ++ G) H := hP
          have hD : va_D A (([(xn, .inl (cyI, 10, .inl nf)), (xb, .inl (cyI, 36, .inl bf)), (xd, .inl (cyI, 40, .inl df)), (xa, .inl (cyI, 40, .inl af)), (xl, .inl (cyI, 40, .inl lf)), (xp, .inl (cyI, 40, .inl pf)), (xu, .inl (cyI, 6, .inl (pUs (gEL (fun l => bud l + mto l - maw l) (fun v => gAcc (fsd (lnf v)) (las (lnf v)) (rfd v) (dya v)) lnf amo orf nv) lnf nv)))] : va_W) ++ G) := hD
          have hF_5 := gk_all hD hS hA
          refine vx_calli (vx_runV (As := [.int (nI (yy % 100 * 5))]) (rest := []) ⟨hx, hb, hml, hown, hts⟩ (kQ_overhead l hst D cyI cyZ cyL cyV cyJ gr sh rt ce nl nv am nc cd bud fsd las isB mto maw lno dya amo rfd ord cpa lnf orf g ([(xn, .inl (cyI, 10, .inl nf)), (xb, .inl (cyI, 36, .inl bf)), (xd, .inl (cyI, 40, .inl df)), (xa, .inl (cyI, 40, .inl af)), (xl, .inl (cyI, 40, .inl lf)), (xp, .inl (cyI, 40, .inl pf)), (xu, .inl (cyI, 6, .inl (pUs (gEL (fun l => bud l + mto l - maw l) (fun v => gAcc (fsd (lnf v)) (las (lnf v)) (rfd v) (dya v)) lnf amo orf nv) lnf nv)))] : va_W) G hG (nI (yy % 100 * 5)) H.size _ rfl) (cwV 1 hts gL_isBook_X2_overhead rfl rfl rfl (by decide +kernel) ⟨(Nat.le_of_ble_eq_true rfl), (Nat.le_of_ble_eq_true rfl)⟩) (gk_preVT hTF hS hF_5 hP hK hD (gQ_recv hG hK hP)) rfl rfl hl.1 rfl (lv_room (Nat.le_of_ble_eq_true rfl)) dL_isBook_425 ⟨(by show _ ≤ (200 : Nat); omega), (by show _ ≤ (1200 : Nat); omega)⟩) hS (fun q _ h => hF_5 q h) hF_5 (fun q _ h => hF_5 q h) (fun E_5 ce_5 q_5 u_5 t_5 H locs ht_5 hvm_5 hpx_5 hBX_5 hz_5 hk_5 hS hce_5 hcv_5 hcl_5 => ?_) (fun r_5 u_5 t_5 H locs ht_5 hvm_5 hw_5 hB_5 hz_5 hk_5 hS => ?_)
          · exact absurd hpx_5.2 (by unfold cDay; rw [if_pos (hday : gIn (nI (yy % 100 * 5)) 0 9999)]; decide)
          · obtain ⟨hP, hD⟩ := gk_back hF_5 hB_5 ht_5
            have hP : va_P D vwCl ((xn, .inl (cyI, 10, .inl nf)) :: (xb, .inl (cyI, 36, .inl bf)) :: (xd, .inl (cyI, 40, .inl df)) :: (xa, .inl (cyI, 40, .inl af)) :: (xl, .inl (cyI, 40, .inl lf)) :: (xp, .inl (cyI, 40, .inl pf)) :: (xu, .inl (cyI, 6, .inl (pUs (gEL (fun l => bud l + mto l - maw l) (fun v => gAcc (fsd (lnf v)) (las (lnf v)) (rfd v) (dya v)) lnf amo orf nv) lnf nv))) :: G) H := hP
            have hD : va_D A ((xn, .inl (cyI, 10, .inl nf)) :: (xb, .inl (cyI, 36, .inl bf)) :: (xd, .inl (cyI, 40, .inl df)) :: (xa, .inl (cyI, 40, .inl af)) :: (xl, .inl (cyI, 40, .inl lf)) :: (xp, .inl (cyI, 40, .inl pf)) :: (xu, .inl (cyI, 6, .inl (pUs (gEL (fun l => bud l + mto l - maw l) (fun v => gAcc (fsd (lnf v)) (las (lnf v)) (rfd v) (dya v)) lnf amo orf nv) lnf nv))) :: G) := hD
            obtain ⟨-, hv_5⟩ := hw_5
            subst hv_5
            refine lv_aload_n hx hb dL_isBook_428 rfl (lv_at hl 7 rfl) ?_
            refine lv_aload_n hx hb dL_isBook_429 rfl (lv_at hl 8 rfl) ?_
            refine lv_aload_n hx hb dL_isBook_430 rfl (lv_at hl 9 rfl) ?_
            refine lv_aload hx hb dL_isBook_431 (lv_at hl 10 rfl) ?_
            refine lv_aload hx hb dL_isBook_433 (lv_at hl 11 rfl) ?_
            refine lv_iload hx hb dL_isBook_435 (lv_at hl 3 rfl) ?_
            have hF_6 := gk_all hD hS hA
            refine va_calli (va_runS (As := [.ref xn, .ref xb, .ref xd, .ref xa, .ref xl, .int (nI (yy % 100 * 5))]) (rest := [.int (gOw rt ce (gSm (gCx dya isB (gEL (fun l => bud l + mto l - maw l) (fun v => gAcc (fsd (lnf v)) (las (lnf v)) (rfd v) (dya v)) lnf amo orf nv) lnf (nI (yy % 100 * 5)) 1) nv))]) ⟨hx, hb, hml, hown, hts⟩ (kL_overhead l D cyI cyZ cyL cyV cyJ xn xb xd xa xl nl nv gr sh rt ce bud fsd las isB mto maw dya amo rfd lnf nf bf df af lf ((xp, .inl (cyI, 40, .inl pf)) :: (xu, .inl (cyI, 6, .inl (pUs (gEL (fun l => bud l + mto l - maw l) (fun v => gAcc (fsd (lnf v)) (las (lnf v)) (rfd v) (dya v)) lnf amo orf nv) lnf nv))) :: G) hR (gEL (fun l => bud l + mto l - maw l) (fun v => gAcc (fsd (lnf v)) (las (lnf v)) (rfd v) (dya v)) lnf amo orf nv) hel (nI (yy % 100 * 5)) H.size _ rfl) (va_cwS 6 hts gL_isBook_L_overhead rfl rfl rfl (by decide +kernel) ⟨(Nat.le_of_ble_eq_true rfl), (Nat.le_of_ble_eq_true rfl)⟩) (gk_preS hP hK hD) rfl rfl hl.1 rfl (lv_room (Nat.le_of_ble_eq_true rfl)) dL_isBook_437 ⟨(by show _ ≤ (200 : Nat); omega), (by show _ ≤ (1200 : Nat); omega)⟩) hS (fun q _ h => hF_6 q h) hF_6 (fun r_6 u_6 t_6 H locs ht_6 hvm_6 hw_6 hB_6 hz_6 hk_6 hS => ?_)
            obtain ⟨hP, hD⟩ := gk_back hF_6 hB_6 ht_6
            subst hw_6
            refine lv_icmp_ne (tgt := 507) hx hb dL_isBook_440 (by decide) (fun c9 => absurd rfl c9) (fun _ => ?_)
            refine lv_aload_n hx hb dL_isBook_443 rfl (lv_at hl 6 rfl) ?_
            refine lv_iload hx hb dL_isBook_444 (lv_at hl 3 rfl) ?_
            have hP : va_P D vwCl (([(xn, .inl (cyI, 10, .inl nf)), (xb, .inl (cyI, 36, .inl bf)), (xd, .inl (cyI, 40, .inl df)), (xa, .inl (cyI, 40, .inl af)), (xl, .inl (cyI, 40, .inl lf)), (xp, .inl (cyI, 40, .inl pf)), (xu, .inl (cyI, 6, .inl (pUs (gEL (fun l => bud l + mto l - maw l) (fun v => gAcc (fsd (lnf v)) (las (lnf v)) (rfd v) (dya v)) lnf amo orf nv) lnf nv)))] : va_W) ++ G) H := hP
            have hD : va_D A (([(xn, .inl (cyI, 10, .inl nf)), (xb, .inl (cyI, 36, .inl bf)), (xd, .inl (cyI, 40, .inl df)), (xa, .inl (cyI, 40, .inl af)), (xl, .inl (cyI, 40, .inl lf)), (xp, .inl (cyI, 40, .inl pf)), (xu, .inl (cyI, 6, .inl (pUs (gEL (fun l => bud l + mto l - maw l) (fun v => gAcc (fsd (lnf v)) (las (lnf v)) (rfd v) (dya v)) lnf amo orf nv) lnf nv)))] : va_W) ++ G) := hD
            have hF_7 := gk_all hD hS hA
            refine vx_calli (vx_runV (As := [.int (nI (yy % 100 * 5))]) (rest := []) ⟨hx, hb, hml, hown, hts⟩ (kQ_earned l hst D cyI cyZ cyL cyV cyJ gr sh rt ce nl nv am nc cd bud fsd las isB mto maw lno dya amo rfd ord cpa lnf orf g ([(xn, .inl (cyI, 10, .inl nf)), (xb, .inl (cyI, 36, .inl bf)), (xd, .inl (cyI, 40, .inl df)), (xa, .inl (cyI, 40, .inl af)), (xl, .inl (cyI, 40, .inl lf)), (xp, .inl (cyI, 40, .inl pf)), (xu, .inl (cyI, 6, .inl (pUs (gEL (fun l => bud l + mto l - maw l) (fun v => gAcc (fsd (lnf v)) (las (lnf v)) (rfd v) (dya v)) lnf amo orf nv) lnf nv)))] : va_W) G hG (nI (yy % 100 * 5)) H.size _ rfl) (cwV 1 hts gL_isBook_X2_earned rfl rfl rfl (by decide +kernel) ⟨(Nat.le_of_ble_eq_true rfl), (Nat.le_of_ble_eq_true rfl)⟩) (gk_preVT hTF hS hF_7 hP hK hD (gQ_recv hG hK hP)) rfl rfl hl.1 rfl (lv_room (Nat.le_of_ble_eq_true rfl)) dL_isBook_446 ⟨(by show _ ≤ (200 : Nat); omega), (by show _ ≤ (1200 : Nat); omega)⟩) hS (fun q _ h => hF_7 q h) hF_7 (fun q _ h => hF_7 q h) (fun E_7 ce_7 q_7 u_7 t_7 H locs ht_7 hvm_7 hpx_7 hBX_7 hz_7 hk_7 hS hce_7 hcv_7 hcl_7 => ?_) (fun r_7 u_7 t_7 H locs ht_7 hvm_7 hw_7 hB_7 hz_7 hk_7 hS => ?_)
            · exact absurd hpx_7.2 (by unfold cDay; rw [if_pos (hday : gIn (nI (yy % 100 * 5)) 0 9999)]; decide)
            · obtain ⟨hP, hD⟩ := gk_back hF_7 hB_7 ht_7
              have hP : va_P D vwCl ((xn, .inl (cyI, 10, .inl nf)) :: (xb, .inl (cyI, 36, .inl bf)) :: (xd, .inl (cyI, 40, .inl df)) :: (xa, .inl (cyI, 40, .inl af)) :: (xl, .inl (cyI, 40, .inl lf)) :: (xp, .inl (cyI, 40, .inl pf)) :: (xu, .inl (cyI, 6, .inl (pUs (gEL (fun l => bud l + mto l - maw l) (fun v => gAcc (fsd (lnf v)) (las (lnf v)) (rfd v) (dya v)) lnf amo orf nv) lnf nv))) :: G) H := hP
              have hD : va_D A ((xn, .inl (cyI, 10, .inl nf)) :: (xb, .inl (cyI, 36, .inl bf)) :: (xd, .inl (cyI, 40, .inl df)) :: (xa, .inl (cyI, 40, .inl af)) :: (xl, .inl (cyI, 40, .inl lf)) :: (xp, .inl (cyI, 40, .inl pf)) :: (xu, .inl (cyI, 6, .inl (pUs (gEL (fun l => bud l + mto l - maw l) (fun v => gAcc (fsd (lnf v)) (las (lnf v)) (rfd v) (dya v)) lnf amo orf nv) lnf nv))) :: G) := hD
              obtain ⟨-, hv_7⟩ := hw_7
              subst hv_7
              refine lv_aload_n hx hb dL_isBook_449 rfl (lv_at hl 7 rfl) ?_
              refine lv_aload_n hx hb dL_isBook_450 rfl (lv_at hl 8 rfl) ?_
              refine lv_aload_n hx hb dL_isBook_451 rfl (lv_at hl 9 rfl) ?_
              refine lv_aload hx hb dL_isBook_452 (lv_at hl 10 rfl) ?_
              refine lv_aload hx hb dL_isBook_454 (lv_at hl 11 rfl) ?_
              refine lv_iload hx hb dL_isBook_456 (lv_at hl 3 rfl) ?_
              refine lv_aload_n hx hb dL_isBook_458 rfl (lv_at hl 7 rfl) ?_
              refine lv_bipush (v := 6) hx hb dL_isBook_459 (by decide) ?_
              refine gk_iald (i := 6) hx hb hK hP 0 0 rfl rfl (by omega) (by decide) dL_isBook_461 ?_
              rw [hn6]
              refine lv_i2l hx hb dL_isBook_462 rfl ?_
              have hF_8 := gk_all hD hS hA
              refine va_calli (va_runS (As := [.ref xn, .ref xb, .ref xd, .ref xa, .ref xl, .int (nI (yy % 100 * 5)), .long am.toInt64]) (rest := [.int (gEt sh am (gUb sh gr (gSm (gCx dya isB (gEL (fun l => bud l + mto l - maw l) (fun v => gAcc (fsd (lnf v)) (las (lnf v)) (rfd v) (dya v)) lnf amo orf nv) lnf (nI (yy % 100 * 5)) 0) nv) (gOw rt ce (gSm (gCx dya isB (gEL (fun l => bud l + mto l - maw l) (fun v => gAcc (fsd (lnf v)) (las (lnf v)) (rfd v) (dya v)) lnf amo orf nv) lnf (nI (yy % 100 * 5)) 1) nv))))]) ⟨hx, hb, hml, hown, hts⟩ (kL_earned l D cyI cyZ cyL cyV cyJ xn xb xd xa xl nl nv gr sh rt ce bud fsd las isB mto maw dya amo rfd lnf nf bf df af lf ((xp, .inl (cyI, 40, .inl pf)) :: (xu, .inl (cyI, 6, .inl (pUs (gEL (fun l => bud l + mto l - maw l) (fun v => gAcc (fsd (lnf v)) (las (lnf v)) (rfd v) (dya v)) lnf amo orf nv) lnf nv))) :: G) hR (gEL (fun l => bud l + mto l - maw l) (fun v => gAcc (fsd (lnf v)) (las (lnf v)) (rfd v) (dya v)) lnf amo orf nv) hel (nI (yy % 100 * 5)) am.toInt64 H.size _ rfl) (va_cwS 7 hts gL_isBook_L_earned rfl rfl rfl (by decide +kernel) ⟨(Nat.le_of_ble_eq_true rfl), (Nat.le_of_ble_eq_true rfl)⟩) (gk_preS hP hK hD) rfl rfl hl.1 rfl (lv_room (Nat.le_of_ble_eq_true rfl)) dL_isBook_463 ⟨(by show _ ≤ (200 : Nat); omega), (by show _ ≤ (1200 : Nat); omega)⟩) hS (fun q _ h => hF_8 q h) hF_8 (fun r_8 u_8 t_8 H locs ht_8 hvm_8 hw_8 hB_8 hz_8 hk_8 hS => ?_)
              obtain ⟨hP, hD⟩ := gk_back hF_8 hB_8 ht_8
              obtain rfl : r_8 = (gEt sh am (gUb sh gr (gSm (gCx dya isB (gEL (fun l => bud l + mto l - maw l) (fun v => gAcc (fsd (lnf v)) (las (lnf v)) (rfd v) (dya v)) lnf amo orf nv) lnf (nI (yy % 100 * 5)) 0) nv) (gOw rt ce (gSm (gCx dya isB (gEL (fun l => bud l + mto l - maw l) (fun v => gAcc (fsd (lnf v)) (las (lnf v)) (rfd v) (dya v)) lnf amo orf nv) lnf (nI (yy % 100 * 5)) 1) nv)))) := hw_8.trans (pG_am hG (nI (yy % 100 * 5)))
              refine lv_icmp_ne (tgt := 507) hx hb dL_isBook_466 (by decide) (fun c9 => absurd rfl c9) (fun _ => ?_)
              refine lv_aload_n hx hb dL_isBook_469 rfl (lv_at hl 6 rfl) ?_
              refine lv_iload hx hb dL_isBook_470 (lv_at hl 3 rfl) ?_
              have hP : va_P D vwCl (([(xn, .inl (cyI, 10, .inl nf)), (xb, .inl (cyI, 36, .inl bf)), (xd, .inl (cyI, 40, .inl df)), (xa, .inl (cyI, 40, .inl af)), (xl, .inl (cyI, 40, .inl lf)), (xp, .inl (cyI, 40, .inl pf)), (xu, .inl (cyI, 6, .inl (pUs (gEL (fun l => bud l + mto l - maw l) (fun v => gAcc (fsd (lnf v)) (las (lnf v)) (rfd v) (dya v)) lnf amo orf nv) lnf nv)))] : va_W) ++ G) H := hP
              have hD : va_D A (([(xn, .inl (cyI, 10, .inl nf)), (xb, .inl (cyI, 36, .inl bf)), (xd, .inl (cyI, 40, .inl df)), (xa, .inl (cyI, 40, .inl af)), (xl, .inl (cyI, 40, .inl lf)), (xp, .inl (cyI, 40, .inl pf)), (xu, .inl (cyI, 6, .inl (pUs (gEL (fun l => bud l + mto l - maw l) (fun v => gAcc (fsd (lnf v)) (las (lnf v)) (rfd v) (dya v)) lnf amo orf nv) lnf nv)))] : va_W) ++ G) := hD
              have hF_9 := gk_all hD hS hA
              refine vx_calli (vx_runV (As := [.int (nI (yy % 100 * 5))]) (rest := []) ⟨hx, hb, hml, hown, hts⟩ (kQ_missingMatch l hst D cyI cyZ cyL cyV cyJ gr sh rt ce nl nv am nc cd bud fsd las isB mto maw lno dya amo rfd ord cpa lnf orf g ([(xn, .inl (cyI, 10, .inl nf)), (xb, .inl (cyI, 36, .inl bf)), (xd, .inl (cyI, 40, .inl df)), (xa, .inl (cyI, 40, .inl af)), (xl, .inl (cyI, 40, .inl lf)), (xp, .inl (cyI, 40, .inl pf)), (xu, .inl (cyI, 6, .inl (pUs (gEL (fun l => bud l + mto l - maw l) (fun v => gAcc (fsd (lnf v)) (las (lnf v)) (rfd v) (dya v)) lnf amo orf nv) lnf nv)))] : va_W) G hG (nI (yy % 100 * 5)) H.size _ rfl) (cwV 1 hts gL_isBook_X2_missingMatch rfl rfl rfl (by decide +kernel) ⟨(Nat.le_of_ble_eq_true rfl), (Nat.le_of_ble_eq_true rfl)⟩) (gk_preVT hTF hS hF_9 hP hK hD (gQ_recv hG hK hP)) rfl rfl hl.1 rfl (lv_room (Nat.le_of_ble_eq_true rfl)) dL_isBook_472 ⟨(by show _ ≤ (200 : Nat); omega), (by show _ ≤ (1200 : Nat); omega)⟩) hS (fun q _ h => hF_9 q h) hF_9 (fun q _ h => hF_9 q h) (fun E_9 ce_9 q_9 u_9 t_9 H locs ht_9 hvm_9 hpx_9 hBX_9 hz_9 hk_9 hS hce_9 hcv_9 hcl_9 => ?_) (fun r_9 u_9 t_9 H locs ht_9 hvm_9 hw_9 hB_9 hz_9 hk_9 hS => ?_)
              · exact absurd hpx_9.2 (by unfold cDay; rw [if_pos (hday : gIn (nI (yy % 100 * 5)) 0 9999)]; decide)
              · obtain ⟨hP, hD⟩ := gk_back hF_9 hB_9 ht_9
                have hP : va_P D vwCl ((xn, .inl (cyI, 10, .inl nf)) :: (xb, .inl (cyI, 36, .inl bf)) :: (xd, .inl (cyI, 40, .inl df)) :: (xa, .inl (cyI, 40, .inl af)) :: (xl, .inl (cyI, 40, .inl lf)) :: (xp, .inl (cyI, 40, .inl pf)) :: (xu, .inl (cyI, 6, .inl (pUs (gEL (fun l => bud l + mto l - maw l) (fun v => gAcc (fsd (lnf v)) (las (lnf v)) (rfd v) (dya v)) lnf amo orf nv) lnf nv))) :: G) H := hP
                have hD : va_D A ((xn, .inl (cyI, 10, .inl nf)) :: (xb, .inl (cyI, 36, .inl bf)) :: (xd, .inl (cyI, 40, .inl df)) :: (xa, .inl (cyI, 40, .inl af)) :: (xl, .inl (cyI, 40, .inl lf)) :: (xp, .inl (cyI, 40, .inl pf)) :: (xu, .inl (cyI, 6, .inl (pUs (gEL (fun l => bud l + mto l - maw l) (fun v => gAcc (fsd (lnf v)) (las (lnf v)) (rfd v) (dya v)) lnf amo orf nv) lnf nv))) :: G) := hD
                obtain ⟨-, hv_9⟩ := hw_9
                subst hv_9
                refine lv_i2l hx hb dL_isBook_475 rfl ?_
                refine lv_lload hx hb dL_isBook_476 (lv_at hl 0 rfl) ?_
                refine lv_aload_n hx hb dL_isBook_478 rfl (lv_at hl 7 rfl) ?_
                refine lv_bipush (v := 6) hx hb dL_isBook_479 (by decide) ?_
                refine gk_iald (i := 6) hx hb hK hP 0 0 rfl rfl (by omega) (by decide) dL_isBook_481 ?_
                rw [hn6]
                refine lv_i2l hx hb dL_isBook_482 rfl ?_
                refine W.lcmp hx hb dL_isBook_483 ?_
                refine lv_if_le (tgt := 498) hx hb dL_isBook_484 (by decide) (fun c_10 => ?_) (fun c_10 => ?_)
                · refine lv_lconst (v := 0) hx hb dL_isBook_498 (by decide) ?_
                  refine W.lcmp hx hb dL_isBook_499 ?_
                  refine lv_if_ne (tgt := 507) hx hb dL_isBook_500 (by decide) (fun c9 => absurd ((lg_cmp_eq _ _).mpr ((pG_ms hG (nI (yy % 100 * 5)) hlo).trans (if_neg (pL_ngt c_10)))) c9) (fun _ => ?_)
                  refine lv_iconst (v := 1) hx hb dL_isBook_503 (by decide) ?_
                  refine lv_goto (tgt := 508) hx hb dL_isBook_504 (by decide) ?_
                  have hP : va_P D vwCl ((xn, .inl (cyI, 10, .inl nf)) :: (xb, .inl (cyI, 36, .inl bf)) :: (xd, .inl (cyI, 40, .inl df)) :: (xa, .inl (cyI, 40, .inl af)) :: (xl, .inl (cyI, 40, .inl lf)) :: (xp, .inl (cyI, 40, .inl pf)) :: G) H := gk_dropP (l1 := ([(xn, .inl (cyI, 10, .inl nf)), (xb, .inl (cyI, 36, .inl bf)), (xd, .inl (cyI, 40, .inl df)), (xa, .inl (cyI, 40, .inl af)), (xl, .inl (cyI, 40, .inl lf)), (xp, .inl (cyI, 40, .inl pf))] : va_W)) (q := (xu, .inl (cyI, 6, .inl (pUs (gEL (fun l => bud l + mto l - maw l) (fun v => gAcc (fsd (lnf v)) (las (lnf v)) (rfd v) (dya v)) lnf amo orf nv) lnf nv)))) (l2 := G) hP
                  have hD : va_D A ((xn, .inl (cyI, 10, .inl nf)) :: (xb, .inl (cyI, 36, .inl bf)) :: (xd, .inl (cyI, 40, .inl df)) :: (xa, .inl (cyI, 40, .inl af)) :: (xl, .inl (cyI, 40, .inl lf)) :: (xp, .inl (cyI, 40, .inl pf)) :: G) := gk_dropD (l1 := ([(xn, .inl (cyI, 10, .inl nf)), (xb, .inl (cyI, 36, .inl bf)), (xd, .inl (cyI, 40, .inl df)), (xa, .inl (cyI, 40, .inl af)), (xl, .inl (cyI, 40, .inl lf)), (xp, .inl (cyI, 40, .inl pf))] : va_W)) (q := (xu, .inl (cyI, 6, .inl (pUs (gEL (fun l => bud l + mto l - maw l) (fun v => gAcc (fsd (lnf v)) (las (lnf v)) (rfd v) (dya v)) lnf amo orf nv) lnf nv)))) (l2 := G) hD
                  refine W.widen (k := 200) (n := 1200) (Nat.le_of_ble_eq_true rfl) (Nat.le_of_ble_eq_true rfl) ?_
                  exact W.zret (v := 1) hx hb hr rfl (fun t ht hW => ⟨⟨1, (), rfl, rfl, by rw [ht]; exact hP, va_K.moved hW.alike hK, hD⟩, hS.F ht⟩) hS.2.2 dL_isBook_508
                · refine lv_lload hx hb dL_isBook_487 (lv_at hl 0 rfl) ?_
                  refine lv_aload_n hx hb dL_isBook_489 rfl (lv_at hl 7 rfl) ?_
                  refine lv_bipush (v := 6) hx hb dL_isBook_490 (by decide) ?_
                  refine gk_iald (i := 6) hx hb hK hP 0 0 rfl rfl (by omega) (by decide) dL_isBook_492 ?_
                  rw [hn6]
                  refine lv_i2l hx hb dL_isBook_493 rfl ?_
                  refine lv_lsub hx hb dL_isBook_494 ?_
                  refine lv_goto (tgt := 499) hx hb dL_isBook_495 (by decide) ?_
                  refine W.lcmp hx hb dL_isBook_499 ?_
                  refine lv_if_ne (tgt := 507) hx hb dL_isBook_500 (by decide) (fun c9 => absurd ((lg_cmp_eq _ _).mpr ((pG_ms hG (nI (yy % 100 * 5)) hlo).trans (if_pos (pL_gt c_10)))) c9) (fun _ => ?_)
                  refine lv_iconst (v := 1) hx hb dL_isBook_503 (by decide) ?_
                  refine lv_goto (tgt := 508) hx hb dL_isBook_504 (by decide) ?_
                  have hP : va_P D vwCl ((xn, .inl (cyI, 10, .inl nf)) :: (xb, .inl (cyI, 36, .inl bf)) :: (xd, .inl (cyI, 40, .inl df)) :: (xa, .inl (cyI, 40, .inl af)) :: (xl, .inl (cyI, 40, .inl lf)) :: (xp, .inl (cyI, 40, .inl pf)) :: G) H := gk_dropP (l1 := ([(xn, .inl (cyI, 10, .inl nf)), (xb, .inl (cyI, 36, .inl bf)), (xd, .inl (cyI, 40, .inl df)), (xa, .inl (cyI, 40, .inl af)), (xl, .inl (cyI, 40, .inl lf)), (xp, .inl (cyI, 40, .inl pf))] : va_W)) (q := (xu, .inl (cyI, 6, .inl (pUs (gEL (fun l => bud l + mto l - maw l) (fun v => gAcc (fsd (lnf v)) (las (lnf v)) (rfd v) (dya v)) lnf amo orf nv) lnf nv)))) (l2 := G) hP
                  have hD : va_D A ((xn, .inl (cyI, 10, .inl nf)) :: (xb, .inl (cyI, 36, .inl bf)) :: (xd, .inl (cyI, 40, .inl df)) :: (xa, .inl (cyI, 40, .inl af)) :: (xl, .inl (cyI, 40, .inl lf)) :: (xp, .inl (cyI, 40, .inl pf)) :: G) := gk_dropD (l1 := ([(xn, .inl (cyI, 10, .inl nf)), (xb, .inl (cyI, 36, .inl bf)), (xd, .inl (cyI, 40, .inl df)), (xa, .inl (cyI, 40, .inl af)), (xl, .inl (cyI, 40, .inl lf)), (xp, .inl (cyI, 40, .inl pf))] : va_W)) (q := (xu, .inl (cyI, 6, .inl (pUs (gEL (fun l => bud l + mto l - maw l) (fun v => gAcc (fsd (lnf v)) (las (lnf v)) (rfd v) (dya v)) lnf amo orf nv) lnf nv)))) (l2 := G) hD
                  refine W.widen (k := 200) (n := 1200) (Nat.le_of_ble_eq_true rfl) (Nat.le_of_ble_eq_true rfl) ?_
                  exact W.zret (v := 1) hx hb hr rfl (fun t ht hW => ⟨⟨1, (), rfl, rfl, by rw [ht]; exact hP, va_K.moved hW.alike hK, hD⟩, hS.F ht⟩) hS.2.2 dL_isBook_508
      · have hlh : lo.toInt < hi.toInt := Int64.lt_iff_toInt_lt.mp (pL_lt c_1)
        refine lv_lload hx hb dL_isBook_325 (lv_at hl 0 rfl) ?_
        refine lv_lload hx hb dL_isBook_327 (lv_at hl 1 rfl) ?_
        refine lv_ladd hx hb dL_isBook_329 ?_
        refine lv_ldc2 hx hb hown (hts (.constantLong RL 97 (2)) (List.mem_of_getElem? (i := 4) rfl)) dL_isBook_330 ?_
        refine lv_ldiv hx hb dL_isBook_333 (by decide) ?_
        refine lv_topl (fun mid hmid => ?_)
        have hmt := pMid hmid h2 hlh h5
        refine lv_lstore (lv' := [(16, .long mid), (12, .long lo), (14, .long hi), (11, .int (gUb sh gr (gSm (gCx dya isB (gEL (fun l => bud l + mto l - maw l) (fun v => gAcc (fsd (lnf v)) (las (lnf v)) (rfd v) (dya v)) lnf amo orf nv) lnf (nI (yy % 100 * 5)) 0) nv) (gOw rt ce (gSm (gCx dya isB (gEL (fun l => bud l + mto l - maw l) (fun v => gAcc (fsd (lnf v)) (las (lnf v)) (rfd v) (dya v)) lnf amo orf nv) lnf (nI (yy % 100 * 5)) 1) nv)))), (10, .int (nI (yy % 100 * 5))), (9, .ref xu), (8, .int 1), (0, .ref g), (1, .ref xn), (2, .ref xb), (3, .ref xd), (4, .ref xa), (5, .ref xl), (6, .ref xp), (7, .int (nI yy))]) hx hb dL_isBook_334 hl (by decide) rfl (fun ls hl => ?_)
        refine lv_aload_n hx hb dL_isBook_336 rfl (lv_at hl 8 rfl) ?_
        refine lv_aload_n hx hb dL_isBook_337 rfl (lv_at hl 9 rfl) ?_
        refine lv_aload_n hx hb dL_isBook_338 rfl (lv_at hl 10 rfl) ?_
        refine lv_aload hx hb dL_isBook_339 (lv_at hl 11 rfl) ?_
        refine lv_aload hx hb dL_isBook_341 (lv_at hl 12 rfl) ?_
        refine lv_iload hx hb dL_isBook_343 (lv_at hl 4 rfl) ?_
        refine lv_lload hx hb dL_isBook_345 (lv_at hl 0 rfl) ?_
        have hF_11 := gk_all hD hS hA
        refine va_calli (va_runS (As := [.ref xn, .ref xb, .ref xd, .ref xa, .ref xl, .int (nI (yy % 100 * 5)), .long mid]) (rest := []) ⟨hx, hb, hml, hown, hts⟩ (kL_earned l D cyI cyZ cyL cyV cyJ xn xb xd xa xl nl nv gr sh rt ce bud fsd las isB mto maw dya amo rfd lnf nf bf df af lf ((xp, .inl (cyI, 40, .inl pf)) :: (xu, .inl (cyI, 6, .inl (pUs (gEL (fun l => bud l + mto l - maw l) (fun v => gAcc (fsd (lnf v)) (las (lnf v)) (rfd v) (dya v)) lnf amo orf nv) lnf nv))) :: G) hR (gEL (fun l => bud l + mto l - maw l) (fun v => gAcc (fsd (lnf v)) (las (lnf v)) (rfd v) (dya v)) lnf amo orf nv) hel (nI (yy % 100 * 5)) mid H.size _ rfl) (va_cwS 7 hts gL_isBook_L_earned rfl rfl rfl (by decide +kernel) ⟨(Nat.le_of_ble_eq_true rfl), (Nat.le_of_ble_eq_true rfl)⟩) (gk_preS hP hK hD) rfl rfl hl.1 rfl (lv_room (Nat.le_of_ble_eq_true rfl)) dL_isBook_347 ⟨(by show _ ≤ (200 : Nat); omega), (by show _ ≤ (1200 : Nat); omega)⟩) hS (fun q _ h => hF_11 q h) hF_11 (fun r_11 u_11 t_11 H locs ht_11 hvm_11 hw_11 hB_11 hz_11 hk_11 hS => ?_)
        obtain ⟨hP, hD⟩ := gk_back hF_11 hB_11 ht_11
        refine lv_iload hx hb dL_isBook_350 (lv_at hl 3 rfl) ?_
        refine lv_icmp_ne (tgt := 359) hx hb dL_isBook_352 (by decide) (fun c_12 => ?_) (fun c_12 => ?_)
        · have hml2 : ¬ pLM sh (gUb sh gr (gSm (gCx dya isB (gEL (fun l => bud l + mto l - maw l) (fun v => gAcc (fsd (lnf v)) (las (lnf v)) (rfd v) (dya v)) lnf amo orf nv) lnf (nI (yy % 100 * 5)) 0) nv) (gOw rt ce (gSm (gCx dya isB (gEL (fun l => bud l + mto l - maw l) (fun v => gAcc (fsd (lnf v)) (las (lnf v)) (rfd v) (dya v)) lnf amo orf nv) lnf (nI (yy % 100 * 5)) 1) nv))) ≤ mid.toInt := fun h => c_12 (hw_11.trans ((pG_x hG (nI (yy % 100 * 5)) (by omega)).mpr h))
          refine lv_iconst (v := 0) hx hb dL_isBook_359 (by decide) ?_
          refine lv_istore (lv' := [(18, .int 0), (16, .long mid), (12, .long lo), (14, .long hi), (11, .int (gUb sh gr (gSm (gCx dya isB (gEL (fun l => bud l + mto l - maw l) (fun v => gAcc (fsd (lnf v)) (las (lnf v)) (rfd v) (dya v)) lnf amo orf nv) lnf (nI (yy % 100 * 5)) 0) nv) (gOw rt ce (gSm (gCx dya isB (gEL (fun l => bud l + mto l - maw l) (fun v => gAcc (fsd (lnf v)) (las (lnf v)) (rfd v) (dya v)) lnf amo orf nv) lnf (nI (yy % 100 * 5)) 1) nv)))), (10, .int (nI (yy % 100 * 5))), (9, .ref xu), (8, .int 1), (0, .ref g), (1, .ref xn), (2, .ref xb), (3, .ref xd), (4, .ref xa), (5, .ref xl), (6, .ref xp), (7, .int (nI yy))]) hx hb dL_isBook_360 hl (by decide) rfl (fun ls hl => ?_)
          refine lv_iload hx hb dL_isBook_362 (lv_at hl 0 rfl) ?_
          refine lv_if_eq (tgt := 372) hx hb dL_isBook_364 (by decide) (fun _ => ?_) (fun c => by first | exact absurd c (by decide) | exact absurd (by decide) c)
          refine lv_lload hx hb dL_isBook_372 (lv_at hl 3 rfl) ?_
          refine lv_lstore (lv' := [(14, .long hi), (18, .int 0), (16, .long mid), (12, .long lo), (11, .int (gUb sh gr (gSm (gCx dya isB (gEL (fun l => bud l + mto l - maw l) (fun v => gAcc (fsd (lnf v)) (las (lnf v)) (rfd v) (dya v)) lnf amo orf nv) lnf (nI (yy % 100 * 5)) 0) nv) (gOw rt ce (gSm (gCx dya isB (gEL (fun l => bud l + mto l - maw l) (fun v => gAcc (fsd (lnf v)) (las (lnf v)) (rfd v) (dya v)) lnf amo orf nv) lnf (nI (yy % 100 * 5)) 1) nv)))), (10, .int (nI (yy % 100 * 5))), (9, .ref xu), (8, .int 1), (0, .ref g), (1, .ref xn), (2, .ref xb), (3, .ref xd), (4, .ref xa), (5, .ref xl), (6, .ref xp), (7, .int (nI yy))]) hx hb dL_isBook_374 hl (by decide) rfl (fun ls hl => ?_)
          refine lv_iload hx hb dL_isBook_376 (lv_at hl 1 rfl) ?_
          refine lv_if_eq (tgt := 386) hx hb dL_isBook_378 (by decide) (fun _ => ?_) (fun c => by first | exact absurd c (by decide) | exact absurd (by decide) c)
          refine lv_lload hx hb dL_isBook_386 (lv_at hl 2 rfl) ?_
          refine lv_lconst (v := 1) hx hb dL_isBook_388 (by decide) ?_
          refine lv_ladd hx hb dL_isBook_389 ?_
          have hinc := pInc (mid := mid) (by omega) (by omega)
          refine lv_lstore (lv' := [(12, .long (mid + 1)), (14, .long hi), (18, .int 0), (16, .long mid), (11, .int (gUb sh gr (gSm (gCx dya isB (gEL (fun l => bud l + mto l - maw l) (fun v => gAcc (fsd (lnf v)) (las (lnf v)) (rfd v) (dya v)) lnf amo orf nv) lnf (nI (yy % 100 * 5)) 0) nv) (gOw rt ce (gSm (gCx dya isB (gEL (fun l => bud l + mto l - maw l) (fun v => gAcc (fsd (lnf v)) (las (lnf v)) (rfd v) (dya v)) lnf amo orf nv) lnf (nI (yy % 100 * 5)) 1) nv)))), (10, .int (nI (yy % 100 * 5))), (9, .ref xu), (8, .int 1), (0, .ref g), (1, .ref xn), (2, .ref xb), (3, .ref xd), (4, .ref xa), (5, .ref xl), (6, .ref xp), (7, .int (nI yy))]) hx hb dL_isBook_390 hl (by decide) rfl (fun ls hl => ?_)
          refine lv_goto (tgt := 317) hx hb dL_isBook_392 (by decide) ?_
          exact ih (mid + 1) hi _ _ _ (by rw [hinc]; omega) (by rw [hinc]; omega) (by rw [hinc]; omega) (by omega) (by omega) hP hD hS (lv_sub hl [0, 1, 4, 5, 6, 7, 8, 9, 10, 11, 12, 13, 14, 15] rfl)
        · have hml2 : pLM sh (gUb sh gr (gSm (gCx dya isB (gEL (fun l => bud l + mto l - maw l) (fun v => gAcc (fsd (lnf v)) (las (lnf v)) (rfd v) (dya v)) lnf amo orf nv) lnf (nI (yy % 100 * 5)) 0) nv) (gOw rt ce (gSm (gCx dya isB (gEL (fun l => bud l + mto l - maw l) (fun v => gAcc (fsd (lnf v)) (las (lnf v)) (rfd v) (dya v)) lnf amo orf nv) lnf (nI (yy % 100 * 5)) 1) nv))) ≤ mid.toInt := (pG_x hG (nI (yy % 100 * 5)) (by omega)).mp (hw_11.symm.trans (c_12))
          refine lv_iconst (v := 1) hx hb dL_isBook_355 (by decide) ?_
          refine lv_goto (tgt := 360) hx hb dL_isBook_356 (by decide) ?_
          refine lv_istore (lv' := [(18, .int 1), (16, .long mid), (12, .long lo), (14, .long hi), (11, .int (gUb sh gr (gSm (gCx dya isB (gEL (fun l => bud l + mto l - maw l) (fun v => gAcc (fsd (lnf v)) (las (lnf v)) (rfd v) (dya v)) lnf amo orf nv) lnf (nI (yy % 100 * 5)) 0) nv) (gOw rt ce (gSm (gCx dya isB (gEL (fun l => bud l + mto l - maw l) (fun v => gAcc (fsd (lnf v)) (las (lnf v)) (rfd v) (dya v)) lnf amo orf nv) lnf (nI (yy % 100 * 5)) 1) nv)))), (10, .int (nI (yy % 100 * 5))), (9, .ref xu), (8, .int 1), (0, .ref g), (1, .ref xn), (2, .ref xb), (3, .ref xd), (4, .ref xa), (5, .ref xl), (6, .ref xp), (7, .int (nI yy))]) hx hb dL_isBook_360 hl (by decide) rfl (fun ls hl => ?_)
          refine lv_iload hx hb dL_isBook_362 (lv_at hl 0 rfl) ?_
          refine lv_if_eq (tgt := 372) hx hb dL_isBook_364 (by decide) (fun c => by first | exact absurd c (by decide) | exact absurd (by decide) c) (fun _ => ?_)
          refine lv_lload hx hb dL_isBook_367 (lv_at hl 1 rfl) ?_
          refine lv_goto (tgt := 374) hx hb dL_isBook_369 (by decide) ?_
          refine lv_lstore (lv' := [(14, .long mid), (18, .int 1), (16, .long mid), (12, .long lo), (11, .int (gUb sh gr (gSm (gCx dya isB (gEL (fun l => bud l + mto l - maw l) (fun v => gAcc (fsd (lnf v)) (las (lnf v)) (rfd v) (dya v)) lnf amo orf nv) lnf (nI (yy % 100 * 5)) 0) nv) (gOw rt ce (gSm (gCx dya isB (gEL (fun l => bud l + mto l - maw l) (fun v => gAcc (fsd (lnf v)) (las (lnf v)) (rfd v) (dya v)) lnf amo orf nv) lnf (nI (yy % 100 * 5)) 1) nv)))), (10, .int (nI (yy % 100 * 5))), (9, .ref xu), (8, .int 1), (0, .ref g), (1, .ref xn), (2, .ref xb), (3, .ref xd), (4, .ref xa), (5, .ref xl), (6, .ref xp), (7, .int (nI yy))]) hx hb dL_isBook_374 hl (by decide) rfl (fun ls hl => ?_)
          refine lv_iload hx hb dL_isBook_376 (lv_at hl 1 rfl) ?_
          refine lv_if_eq (tgt := 386) hx hb dL_isBook_378 (by decide) (fun c => by first | exact absurd c (by decide) | exact absurd (by decide) c) (fun _ => ?_)
          refine lv_lload hx hb dL_isBook_381 (lv_at hl 3 rfl) ?_
          refine lv_goto (tgt := 390) hx hb dL_isBook_383 (by decide) ?_
          refine lv_lstore (lv' := [(12, .long lo), (14, .long mid), (18, .int 1), (16, .long mid), (11, .int (gUb sh gr (gSm (gCx dya isB (gEL (fun l => bud l + mto l - maw l) (fun v => gAcc (fsd (lnf v)) (las (lnf v)) (rfd v) (dya v)) lnf amo orf nv) lnf (nI (yy % 100 * 5)) 0) nv) (gOw rt ce (gSm (gCx dya isB (gEL (fun l => bud l + mto l - maw l) (fun v => gAcc (fsd (lnf v)) (las (lnf v)) (rfd v) (dya v)) lnf amo orf nv) lnf (nI (yy % 100 * 5)) 1) nv)))), (10, .int (nI (yy % 100 * 5))), (9, .ref xu), (8, .int 1), (0, .ref g), (1, .ref xn), (2, .ref xb), (3, .ref xd), (4, .ref xa), (5, .ref xl), (6, .ref xp), (7, .int (nI yy))]) hx hb dL_isBook_390 hl (by decide) rfl (fun ls hl => ?_)
          refine lv_goto (tgt := 317) hx hb dL_isBook_392 (by decide) ?_
          exact ih lo mid _ _ _ (by omega) (by omega) (by omega) (by omega) (by omega) hP hD hS (lv_sub hl [0, 1, 4, 5, 6, 7, 8, 9, 10, 11, 12, 13, 14, 15] rfl)
  have loop3 : ∀ (xu n i : Nat) (H : Heap) (locs : List Loc) (ls : Array Slot), i ≤ nc → nc + 1 ≤ i + n → va_P D vwCl ((xn, .inl (cyI, 10, .inl nf)) :: (xb, .inl (cyI, 36, .inl bf)) :: (xd, .inl (cyI, 40, .inl df)) :: (xa, .inl (cyI, 40, .inl af)) :: (xl, .inl (cyI, 40, .inl lf)) :: (xp, .inl (cyI, 40, .inl pf)) :: (xu, .inl (cyI, 6, .inl (pUs (gEL (fun l => bud l + mto l - maw l) (fun v => gAcc (fsd (lnf v)) (las (lnf v)) (rfd v) (dya v)) lnf amo orf nv) lnf nv))) :: G) H → va_D A ((xn, .inl (cyI, 10, .inl nf)) :: (xb, .inl (cyI, 36, .inl bf)) :: (xd, .inl (cyI, 40, .inl df)) :: (xa, .inl (cyI, 40, .inl af)) :: (xl, .inl (cyI, 40, .inl lf)) :: (xp, .inl (cyI, 40, .inl pf)) :: (xu, .inl (cyI, 6, .inl (pUs (gEL (fun l => bud l + mto l - maw l) (fun v => gAcc (fsd (lnf v)) (las (lnf v)) (rfd v) (dya v)) lnf amo orf nv) lnf nv))) :: G) → va_S A s.heap H locs → lv_has ls 19 [(10, .int (nI i)), (9, .ref xu), (8, .int 1), (0, .ref g), (1, .ref xn), (2, .ref xb), (3, .ref xd), (4, .ref xa), (5, .ref xl), (6, .ref xp), (7, .int (nI yy))] → W p l e (headSpec wsL_isBook ({ frames := 9, cells := 200, slots := 1200, locals := 147 })).room s m ([.ref g, .ref xn, .ref xb, .ref xd, .ref xa, .ref xl, .ref xp, .int (nI yy)] : List Value).toArray below meth c H locs (93 + i) (558 + 6 * i) (MQ below (va_Qi (fun (r : Int32) (_ : Unit) => r = 1) (fun (_ : Unit) t => gPost D (gTy cyI cyZ cyL cyV cyJ) A ((xn, .inl (cyI, 10, .inl nf)) :: (xb, .inl (cyI, 36, .inl bf)) :: (xd, .inl (cyI, 40, .inl df)) :: (xa, .inl (cyI, 40, .inl af)) :: (xl, .inl (cyI, 40, .inl lf)) :: (xp, .inl (cyI, 40, .inl pf)) :: G) t) A) ([.ref g, .ref xn, .ref xb, .ref xd, .ref xa, .ref xl, .ref xp, .int (nI yy)] : List Value).toArray s 200 1200 A) (F0 m 242 ls []) := by
    intro xu n
    induction n with
    | zero => intro i H locs ls h1 h2; exact absurd h2 (by omega)
    | succ n ih =>
      intro i H locs ls h1 h2 hP hD hS hl
      refine lv_iload hx hb dL_isBook_242 (lv_at hl 0 rfl) ?_
      refine lv_aload_n hx hb dL_isBook_244 rfl (lv_at hl 4 rfl) ?_
      refine lv_bipush (v := 7) hx hb dL_isBook_245 (by decide) ?_
      refine gk_iald (i := 7) hx hb hK hP 0 0 rfl rfl (by omega) (by decide) dL_isBook_247 ?_
      rw [hn7]
      refine lv_icmp_ge (tgt := 283) hx hb dL_isBook_248 (by decide) (fun c_17 => ?_) (fun c_17 => ?_)
      · have n_17 : nc ≤ i := pf_le (a := nc) (b := i) (by omega) (by omega) c_17
        refine lv_iload hx hb dL_isBook_283 (lv_at hl 10 rfl) ?_
        refine lv_bipush (v := 100) hx hb dL_isBook_285 (by decide) ?_
        refine lv_irem hx hb dL_isBook_287 (by decide) ?_
        refine lv_topi (fun y_18 h_18 => ?_)
        obtain rfl : y_18 = (nI (yy % 100)) := h_18.trans (pk_rem (a := yy) (d := 100) (by omega) (by omega) (by omega))
        refine lv_iconst (v := 5) hx hb dL_isBook_288 (by decide) ?_
        refine lv_imul hx hb dL_isBook_289 ?_
        refine lv_topi (fun y_19 h_19 => ?_)
        obtain rfl : y_19 = (nI ((yy % 100) * 5)) := h_19.trans (pk_mul (yy % 100) 5)
        refine lv_istore (lv' := [(10, .int (nI ((yy % 100) * 5))), (9, .ref xu), (8, .int 1), (0, .ref g), (1, .ref xn), (2, .ref xb), (3, .ref xd), (4, .ref xa), (5, .ref xl), (6, .ref xp), (7, .int (nI yy))]) hx hb dL_isBook_290 hl (by decide) rfl (fun ls hl => ?_)
        refine lv_aload_n hx hb dL_isBook_292 rfl (lv_at hl 4 rfl) ?_
        refine lv_aload_n hx hb dL_isBook_293 rfl (lv_at hl 5 rfl) ?_
        refine lv_aload_n hx hb dL_isBook_294 rfl (lv_at hl 6 rfl) ?_
        refine lv_aload hx hb dL_isBook_295 (lv_at hl 7 rfl) ?_
        refine lv_aload hx hb dL_isBook_297 (lv_at hl 8 rfl) ?_
        refine lv_iload hx hb dL_isBook_299 (lv_at hl 0 rfl) ?_
        refine lv_ldc2 hx hb hown (hts (.constantLong RL 93 (1000000000000)) (List.mem_of_getElem? (i := 2) rfl)) dL_isBook_301 ?_
        have hF_20 := gk_all hD hS hA
        refine va_calli (va_runS (As := [.ref xn, .ref xb, .ref xd, .ref xa, .ref xl, .int (nI ((yy % 100) * 5)), .long 1000000000000]) (rest := []) ⟨hx, hb, hml, hown, hts⟩ (kL_earned l D cyI cyZ cyL cyV cyJ xn xb xd xa xl nl nv gr sh rt ce bud fsd las isB mto maw dya amo rfd lnf nf bf df af lf ((xp, .inl (cyI, 40, .inl pf)) :: (xu, .inl (cyI, 6, .inl (pUs (gEL (fun l => bud l + mto l - maw l) (fun v => gAcc (fsd (lnf v)) (las (lnf v)) (rfd v) (dya v)) lnf amo orf nv) lnf nv))) :: G) hR (gEL (fun l => bud l + mto l - maw l) (fun v => gAcc (fsd (lnf v)) (las (lnf v)) (rfd v) (dya v)) lnf amo orf nv) hel (nI ((yy % 100) * 5)) 1000000000000 H.size _ rfl) (va_cwS 7 hts gL_isBook_L_earned rfl rfl rfl (by decide +kernel) ⟨(Nat.le_of_ble_eq_true rfl), (Nat.le_of_ble_eq_true rfl)⟩) (gk_preS hP hK hD) rfl rfl hl.1 rfl (lv_room (Nat.le_of_ble_eq_true rfl)) dL_isBook_304 ⟨(by show _ ≤ (200 : Nat); omega), (by show _ ≤ (1200 : Nat); omega)⟩) hS (fun q _ h => hF_20 q h) hF_20 (fun r_20 u_20 t_20 H locs ht_20 hvm_20 hw_20 hB_20 hz_20 hk_20 hS => ?_)
        obtain ⟨hP, hD⟩ := gk_back hF_20 hB_20 ht_20
        obtain rfl : r_20 = (gUb sh gr (gSm (gCx dya isB (gEL (fun l => bud l + mto l - maw l) (fun v => gAcc (fsd (lnf v)) (las (lnf v)) (rfd v) (dya v)) lnf amo orf nv) lnf (nI ((yy % 100) * 5)) 0) nv) (gOw rt ce (gSm (gCx dya isB (gEL (fun l => bud l + mto l - maw l) (fun v => gAcc (fsd (lnf v)) (las (lnf v)) (rfd v) (dya v)) lnf amo orf nv) lnf (nI ((yy % 100) * 5)) 1) nv))) := hw_20.trans (pG_free hG (nI ((yy % 100) * 5)))
        refine lv_istore (lv' := [(11, .int (gUb sh gr (gSm (gCx dya isB (gEL (fun l => bud l + mto l - maw l) (fun v => gAcc (fsd (lnf v)) (las (lnf v)) (rfd v) (dya v)) lnf amo orf nv) lnf (nI ((yy % 100) * 5)) 0) nv) (gOw rt ce (gSm (gCx dya isB (gEL (fun l => bud l + mto l - maw l) (fun v => gAcc (fsd (lnf v)) (las (lnf v)) (rfd v) (dya v)) lnf amo orf nv) lnf (nI ((yy % 100) * 5)) 1) nv)))), (10, .int (nI ((yy % 100) * 5))), (9, .ref xu), (8, .int 1), (0, .ref g), (1, .ref xn), (2, .ref xb), (3, .ref xd), (4, .ref xa), (5, .ref xl), (6, .ref xp), (7, .int (nI yy))]) hx hb dL_isBook_307 hl (by decide) rfl (fun ls hl => ?_)
        refine lv_lconst (v := 0) hx hb dL_isBook_309 (by decide) ?_
        refine lv_lstore (lv' := [(12, .long 0), (11, .int (gUb sh gr (gSm (gCx dya isB (gEL (fun l => bud l + mto l - maw l) (fun v => gAcc (fsd (lnf v)) (las (lnf v)) (rfd v) (dya v)) lnf amo orf nv) lnf (nI ((yy % 100) * 5)) 0) nv) (gOw rt ce (gSm (gCx dya isB (gEL (fun l => bud l + mto l - maw l) (fun v => gAcc (fsd (lnf v)) (las (lnf v)) (rfd v) (dya v)) lnf amo orf nv) lnf (nI ((yy % 100) * 5)) 1) nv)))), (10, .int (nI ((yy % 100) * 5))), (9, .ref xu), (8, .int 1), (0, .ref g), (1, .ref xn), (2, .ref xb), (3, .ref xd), (4, .ref xa), (5, .ref xl), (6, .ref xp), (7, .int (nI yy))]) hx hb dL_isBook_310 hl (by decide) rfl (fun ls hl => ?_)
        refine lv_ldc2 hx hb hown (hts (.constantLong RL 95 (20000000000)) (List.mem_of_getElem? (i := 3) rfl)) dL_isBook_312 ?_
        refine lv_lstore (lv' := [(14, .long 20000000000), (12, .long 0), (11, .int (gUb sh gr (gSm (gCx dya isB (gEL (fun l => bud l + mto l - maw l) (fun v => gAcc (fsd (lnf v)) (las (lnf v)) (rfd v) (dya v)) lnf amo orf nv) lnf (nI ((yy % 100) * 5)) 0) nv) (gOw rt ce (gSm (gCx dya isB (gEL (fun l => bud l + mto l - maw l) (fun v => gAcc (fsd (lnf v)) (las (lnf v)) (rfd v) (dya v)) lnf amo orf nv) lnf (nI ((yy % 100) * 5)) 1) nv)))), (10, .int (nI ((yy % 100) * 5))), (9, .ref xu), (8, .int 1), (0, .ref g), (1, .ref xn), (2, .ref xb), (3, .ref xd), (4, .ref xa), (5, .ref xl), (6, .ref xp), (7, .int (nI yy))]) hx hb dL_isBook_315 hl (by decide) rfl (fun ls hl => ?_)
        refine W.widen (k := 150) (n := 900) (by omega) (by omega) ?_
        exact loop4 xu 20000000001 0 20000000000 _ _ _ (by rw [p2e10]; decide) (by decide) (by show (0 : Int) ≤ _; exact hlm.1) (by rw [p2e10]; exact hlm.2) (by rw [p2e10]; exact Int.le_refl _) hP hD hS (lv_sub hl [1, 0, 2, 3, 4, 5, 6, 7, 8, 9, 10, 11, 12, 13] rfl)
      · have n_17 : i < nc := pf_nle (a := nc) (b := i) (by omega) (by omega) c_17
        refine lv_iload hx hb dL_isBook_251 (lv_at hl 2 rfl) ?_
        refine lv_if_eq (tgt := 283) hx hb dL_isBook_253 (by decide) (fun c => by first | exact absurd c (by decide) | exact absurd (by decide) c) (fun _ => ?_)
        refine lv_aload_n hx hb dL_isBook_256 rfl (lv_at hl 3 rfl) ?_
        refine lv_iload hx hb dL_isBook_257 (lv_at hl 0 rfl) ?_
        have hP : va_P D vwCl (([(xn, .inl (cyI, 10, .inl nf)), (xb, .inl (cyI, 36, .inl bf)), (xd, .inl (cyI, 40, .inl df)), (xa, .inl (cyI, 40, .inl af)), (xl, .inl (cyI, 40, .inl lf)), (xp, .inl (cyI, 40, .inl pf)), (xu, .inl (cyI, 6, .inl (pUs (gEL (fun l => bud l + mto l - maw l) (fun v => gAcc (fsd (lnf v)) (las (lnf v)) (rfd v) (dya v)) lnf amo orf nv) lnf nv)))] : va_W) ++ G) H := hP
        have hD : va_D A (([(xn, .inl (cyI, 10, .inl nf)), (xb, .inl (cyI, 36, .inl bf)), (xd, .inl (cyI, 40, .inl df)), (xa, .inl (cyI, 40, .inl af)), (xl, .inl (cyI, 40, .inl lf)), (xp, .inl (cyI, 40, .inl pf)), (xu, .inl (cyI, 6, .inl (pUs (gEL (fun l => bud l + mto l - maw l) (fun v => gAcc (fsd (lnf v)) (las (lnf v)) (rfd v) (dya v)) lnf amo orf nv) lnf nv)))] : va_W) ++ G) := hD
        have hF_22 := gk_all hD hS hA
        refine vx_calli (vx_runV (As := [.int (nI i)]) (rest := []) ⟨hx, hb, hml, hown, hts⟩ (kQ_paid l hst D cyI cyZ cyL cyV cyJ gr sh rt ce nl nv am nc cd bud fsd las isB mto maw lno dya amo rfd ord cpa lnf orf g ([(xn, .inl (cyI, 10, .inl nf)), (xb, .inl (cyI, 36, .inl bf)), (xd, .inl (cyI, 40, .inl df)), (xa, .inl (cyI, 40, .inl af)), (xl, .inl (cyI, 40, .inl lf)), (xp, .inl (cyI, 40, .inl pf)), (xu, .inl (cyI, 6, .inl (pUs (gEL (fun l => bud l + mto l - maw l) (fun v => gAcc (fsd (lnf v)) (las (lnf v)) (rfd v) (dya v)) lnf amo orf nv) lnf nv)))] : va_W) G hG (nI i) H.size _ rfl) (cwV 1 hts gL_isBook_X2_paid rfl rfl rfl (by decide +kernel) ⟨(Nat.le_of_ble_eq_true rfl), (Nat.le_of_ble_eq_true rfl)⟩) (gk_preVT hTF hS hF_22 hP hK hD (gQ_recv hG hK hP)) rfl rfl hl.1 rfl (lv_room (Nat.le_of_ble_eq_true rfl)) dL_isBook_259 ⟨(by show _ ≤ (200 : Nat); omega), (by show _ ≤ (1200 : Nat); omega)⟩) hS (fun q _ h => hF_22 q h) hF_22 (fun q _ h => hF_22 q h) (fun E_22 ce_22 q_22 u_22 t_22 H locs ht_22 hvm_22 hpx_22 hBX_22 hz_22 hk_22 hS hce_22 hcv_22 hcl_22 => ?_) (fun r_22 u_22 t_22 H locs ht_22 hvm_22 hw_22 hB_22 hz_22 hk_22 hS => ?_)
        · exact absurd hpx_22.2 (by unfold cNum; rw [if_pos (gNum_nI (n := nc) (i := i) (by omega) (by omega))]; decide)
        · obtain ⟨hP, hD⟩ := gk_back hF_22 hB_22 ht_22
          have hP : va_P D vwCl ((xn, .inl (cyI, 10, .inl nf)) :: (xb, .inl (cyI, 36, .inl bf)) :: (xd, .inl (cyI, 40, .inl df)) :: (xa, .inl (cyI, 40, .inl af)) :: (xl, .inl (cyI, 40, .inl lf)) :: (xp, .inl (cyI, 40, .inl pf)) :: (xu, .inl (cyI, 6, .inl (pUs (gEL (fun l => bud l + mto l - maw l) (fun v => gAcc (fsd (lnf v)) (las (lnf v)) (rfd v) (dya v)) lnf amo orf nv) lnf nv))) :: G) H := hP
          have hD : va_D A ((xn, .inl (cyI, 10, .inl nf)) :: (xb, .inl (cyI, 36, .inl bf)) :: (xd, .inl (cyI, 40, .inl df)) :: (xa, .inl (cyI, 40, .inl af)) :: (xl, .inl (cyI, 40, .inl lf)) :: (xp, .inl (cyI, 40, .inl pf)) :: (xu, .inl (cyI, 6, .inl (pUs (gEL (fun l => bud l + mto l - maw l) (fun v => gAcc (fsd (lnf v)) (las (lnf v)) (rfd v) (dya v)) lnf amo orf nv) lnf nv))) :: G) := hD
          obtain ⟨-, hv_22⟩ := hw_22
          rw [show gIxn (nI i) = i from nI_clamp (by omega)] at hv_22
          subst hv_22
          refine lv_aload hx hb dL_isBook_262 (lv_at hl 9 rfl) ?_
          refine lv_iload hx hb dL_isBook_264 (lv_at hl 0 rfl) ?_
          refine gk_iald (i := i) hx hb hK hP 5 0 rfl rfl (by omega) (by decide) dL_isBook_266 ?_
          rw [hpf i (by omega)]
          refine lv_icmp_ne (tgt := 274) hx hb dL_isBook_267 (by decide) (fun c9 => absurd rfl c9) (fun _ => ?_)
          refine lv_iconst (v := 1) hx hb dL_isBook_270 (by decide) ?_
          refine lv_goto (tgt := 275) hx hb dL_isBook_271 (by decide) ?_
          refine lv_istore (lv' := [(8, .int 1), (10, .int (nI i)), (9, .ref xu), (0, .ref g), (1, .ref xn), (2, .ref xb), (3, .ref xd), (4, .ref xa), (5, .ref xl), (6, .ref xp), (7, .int (nI yy))]) hx hb dL_isBook_275 hl (by decide) rfl (fun ls hl => ?_)
          refine lv_iinc (v := nI (i + 1)) (lv' := [(10, .int (nI (i + 1))), (8, .int 1), (9, .ref xu), (0, .ref g), (1, .ref xn), (2, .ref xb), (3, .ref xd), (4, .ref xa), (5, .ref xl), (6, .ref xp), (7, .int (nI yy))]) hx hb dL_isBook_277 hl (k := 1) rfl (by show nI i + 1 = nI (i + 1); exact nI_1 _) (by decide) rfl (fun ls hl => ?_)
          refine lv_goto (tgt := 242) hx hb dL_isBook_280 (by decide) ?_
          refine W.widen (k := (93 + (i + 1))) (n := (558 + 6 * (i + 1))) (by omega) (by omega) ?_
          exact ih (i + 1) _ _ _ (by omega) (by omega) hP hD hS (lv_sub hl [0, 2, 1, 3, 4, 5, 6, 7, 8, 9, 10] rfl)
  have loop2 : ∀ (xu n i : Nat) (H : Heap) (locs : List Loc) (ls : Array Slot), i ≤ nl → nl + 1 ≤ i + n → va_P D vwCl ((xn, .inl (cyI, 10, .inl nf)) :: (xb, .inl (cyI, 36, .inl bf)) :: (xd, .inl (cyI, 40, .inl df)) :: (xa, .inl (cyI, 40, .inl af)) :: (xl, .inl (cyI, 40, .inl lf)) :: (xp, .inl (cyI, 40, .inl pf)) :: (xu, .inl (cyI, 6, .inl (pUs (gEL (fun l => bud l + mto l - maw l) (fun v => gAcc (fsd (lnf v)) (las (lnf v)) (rfd v) (dya v)) lnf amo orf nv) lnf nv))) :: G) H → va_D A ((xn, .inl (cyI, 10, .inl nf)) :: (xb, .inl (cyI, 36, .inl bf)) :: (xd, .inl (cyI, 40, .inl df)) :: (xa, .inl (cyI, 40, .inl af)) :: (xl, .inl (cyI, 40, .inl lf)) :: (xp, .inl (cyI, 40, .inl pf)) :: (xu, .inl (cyI, 6, .inl (pUs (gEL (fun l => bud l + mto l - maw l) (fun v => gAcc (fsd (lnf v)) (las (lnf v)) (rfd v) (dya v)) lnf amo orf nv) lnf nv))) :: G) → va_S A s.heap H locs → lv_has ls 19 [(10, .int (nI i)), (9, .ref xu), (8, .int 1), (0, .ref g), (1, .ref xn), (2, .ref xb), (3, .ref xd), (4, .ref xa), (5, .ref xl), (6, .ref xp), (7, .int (nI yy))] → W p l e (headSpec wsL_isBook ({ frames := 9, cells := 200, slots := 1200, locals := 147 })).room s m ([.ref g, .ref xn, .ref xb, .ref xd, .ref xa, .ref xl, .ref xp, .int (nI yy)] : List Value).toArray below meth c H locs (81 + 2 * i) (486 + 12 * i) (MQ below (va_Qi (fun (r : Int32) (_ : Unit) => r = 1) (fun (_ : Unit) t => gPost D (gTy cyI cyZ cyL cyV cyJ) A ((xn, .inl (cyI, 10, .inl nf)) :: (xb, .inl (cyI, 36, .inl bf)) :: (xd, .inl (cyI, 40, .inl df)) :: (xa, .inl (cyI, 40, .inl af)) :: (xl, .inl (cyI, 40, .inl lf)) :: (xp, .inl (cyI, 40, .inl pf)) :: G) t) A) ([.ref g, .ref xn, .ref xb, .ref xd, .ref xa, .ref xl, .ref xp, .int (nI yy)] : List Value).toArray s 200 1200 A) (F0 m 177 ls []) := by
    intro xu n
    induction n with
    | zero => intro i H locs ls h1 h2; exact absurd h2 (by omega)
    | succ n ih =>
      intro i H locs ls h1 h2 hP hD hS hl
      refine lv_iload hx hb dL_isBook_177 (lv_at hl 0 rfl) ?_
      refine lv_aload_n hx hb dL_isBook_179 rfl (lv_at hl 4 rfl) ?_
      refine lv_iconst (v := 4) hx hb dL_isBook_180 (by decide) ?_
      refine gk_iald (i := 4) hx hb hK hP 0 0 rfl rfl (by omega) (by decide) dL_isBook_181 ?_
      rw [hn4]
      refine lv_icmp_ge (tgt := 239) hx hb dL_isBook_182 (by decide) (fun c_23 => ?_) (fun c_23 => ?_)
      · have n_23 : nl ≤ i := pf_le (a := nl) (b := i) (by omega) (by omega) c_23
        refine lv_iconst (v := 0) hx hb dL_isBook_239 (by decide) ?_
        refine lv_istore (lv' := [(10, .int 0), (9, .ref xu), (8, .int 1), (0, .ref g), (1, .ref xn), (2, .ref xb), (3, .ref xd), (4, .ref xa), (5, .ref xl), (6, .ref xp), (7, .int (nI yy))]) hx hb dL_isBook_240 hl (by decide) rfl (fun ls hl => ?_)
        refine W.widen (k := (93 + 0)) (n := (558 + 6 * 0)) (by omega) (by omega) ?_
        exact loop3 xu (nc + 1) 0 _ _ _ (by omega) (by omega) hP hD hS (lv_sub hl [0, 1, 2, 3, 4, 5, 6, 7, 8, 9, 10] rfl)
      · have n_23 : i < nl := pf_nle (a := nl) (b := i) (by omega) (by omega) c_23
        refine lv_iload hx hb dL_isBook_185 (lv_at hl 2 rfl) ?_
        refine lv_if_eq (tgt := 239) hx hb dL_isBook_187 (by decide) (fun c => by first | exact absurd c (by decide) | exact absurd (by decide) c) (fun _ => ?_)
        refine lv_aload_n hx hb dL_isBook_190 rfl (lv_at hl 3 rfl) ?_
        refine lv_iload hx hb dL_isBook_191 (lv_at hl 0 rfl) ?_
        have hP : va_P D vwCl (([(xn, .inl (cyI, 10, .inl nf)), (xb, .inl (cyI, 36, .inl bf)), (xd, .inl (cyI, 40, .inl df)), (xa, .inl (cyI, 40, .inl af)), (xl, .inl (cyI, 40, .inl lf)), (xp, .inl (cyI, 40, .inl pf)), (xu, .inl (cyI, 6, .inl (pUs (gEL (fun l => bud l + mto l - maw l) (fun v => gAcc (fsd (lnf v)) (las (lnf v)) (rfd v) (dya v)) lnf amo orf nv) lnf nv)))] : va_W) ++ G) H := hP
        have hD : va_D A (([(xn, .inl (cyI, 10, .inl nf)), (xb, .inl (cyI, 36, .inl bf)), (xd, .inl (cyI, 40, .inl df)), (xa, .inl (cyI, 40, .inl af)), (xl, .inl (cyI, 40, .inl lf)), (xp, .inl (cyI, 40, .inl pf)), (xu, .inl (cyI, 6, .inl (pUs (gEL (fun l => bud l + mto l - maw l) (fun v => gAcc (fsd (lnf v)) (las (lnf v)) (rfd v) (dya v)) lnf amo orf nv) lnf nv)))] : va_W) ++ G) := hD
        have hF_25 := gk_all hD hS hA
        refine vx_calli (vx_runV (As := [.int (nI i)]) (rest := []) ⟨hx, hb, hml, hown, hts⟩ (kQ_room l hst D cyI cyZ cyL cyV cyJ gr sh rt ce nl nv am nc cd bud fsd las isB mto maw lno dya amo rfd ord cpa lnf orf g ([(xn, .inl (cyI, 10, .inl nf)), (xb, .inl (cyI, 36, .inl bf)), (xd, .inl (cyI, 40, .inl df)), (xa, .inl (cyI, 40, .inl af)), (xl, .inl (cyI, 40, .inl lf)), (xp, .inl (cyI, 40, .inl pf)), (xu, .inl (cyI, 6, .inl (pUs (gEL (fun l => bud l + mto l - maw l) (fun v => gAcc (fsd (lnf v)) (las (lnf v)) (rfd v) (dya v)) lnf amo orf nv) lnf nv)))] : va_W) G hG (nI i) H.size _ rfl) (cwV 1 hts gL_isBook_X2_room rfl rfl rfl (by decide +kernel) ⟨(Nat.le_of_ble_eq_true rfl), (Nat.le_of_ble_eq_true rfl)⟩) (gk_preVT hTF hS hF_25 hP hK hD (gQ_recv hG hK hP)) rfl rfl hl.1 rfl (lv_room (Nat.le_of_ble_eq_true rfl)) dL_isBook_193 ⟨(by show _ ≤ (200 : Nat); omega), (by show _ ≤ (1200 : Nat); omega)⟩) hS (fun q _ h => hF_25 q h) hF_25 (fun q _ h => hF_25 q h) (fun E_25 ce_25 q_25 u_25 t_25 H locs ht_25 hvm_25 hpx_25 hBX_25 hz_25 hk_25 hS hce_25 hcv_25 hcl_25 => ?_) (fun r_25 u_25 t_25 H locs ht_25 hvm_25 hw_25 hB_25 hz_25 hk_25 hS => ?_)
        · exact absurd hpx_25.2 (by unfold cNum; rw [if_pos (gNum_nI (n := nl) (i := i) (by omega) (by omega))]; decide)
        · obtain ⟨hP, hD⟩ := gk_back hF_25 hB_25 ht_25
          have hP : va_P D vwCl ((xn, .inl (cyI, 10, .inl nf)) :: (xb, .inl (cyI, 36, .inl bf)) :: (xd, .inl (cyI, 40, .inl df)) :: (xa, .inl (cyI, 40, .inl af)) :: (xl, .inl (cyI, 40, .inl lf)) :: (xp, .inl (cyI, 40, .inl pf)) :: (xu, .inl (cyI, 6, .inl (pUs (gEL (fun l => bud l + mto l - maw l) (fun v => gAcc (fsd (lnf v)) (las (lnf v)) (rfd v) (dya v)) lnf amo orf nv) lnf nv))) :: G) H := hP
          have hD : va_D A ((xn, .inl (cyI, 10, .inl nf)) :: (xb, .inl (cyI, 36, .inl bf)) :: (xd, .inl (cyI, 40, .inl df)) :: (xa, .inl (cyI, 40, .inl af)) :: (xl, .inl (cyI, 40, .inl lf)) :: (xp, .inl (cyI, 40, .inl pf)) :: (xu, .inl (cyI, 6, .inl (pUs (gEL (fun l => bud l + mto l - maw l) (fun v => gAcc (fsd (lnf v)) (las (lnf v)) (rfd v) (dya v)) lnf amo orf nv) lnf nv))) :: G) := hD
          obtain ⟨-, hv_25⟩ := hw_25
          rw [show gIxn (nI i) = i from nI_clamp (by omega)] at hv_25
          subst hv_25
          refine lv_aload_n hx hb dL_isBook_196 rfl (lv_at hl 5 rfl) ?_
          refine lv_iload hx hb dL_isBook_197 (lv_at hl 0 rfl) ?_
          have hF_26 := gk_all hD hS hA
          refine va_calli (va_runS (As := [.ref xb, .int (nI i)]) (rest := [.int (bud i + mto i - maw i)]) ⟨hx, hb, hml, hown, hts⟩ (kL_room l D cyI cyZ cyL cyV cyJ xn xb xd xa xl nl nv gr sh rt ce bud fsd las isB mto maw dya amo rfd lnf nf bf df af lf ((xp, .inl (cyI, 40, .inl pf)) :: (xu, .inl (cyI, 6, .inl (pUs (gEL (fun l => bud l + mto l - maw l) (fun v => gAcc (fsd (lnf v)) (las (lnf v)) (rfd v) (dya v)) lnf amo orf nv) lnf nv))) :: G) hR i (by omega) H.size _ rfl) (va_cwS 2 hts gL_isBook_L_room rfl rfl rfl (by decide +kernel) ⟨(Nat.le_of_ble_eq_true rfl), (Nat.le_of_ble_eq_true rfl)⟩) (gk_preS hP hK hD) rfl rfl hl.1 rfl (lv_room (Nat.le_of_ble_eq_true rfl)) dL_isBook_199 ⟨(by show _ ≤ (200 : Nat); omega), (by show _ ≤ (1200 : Nat); omega)⟩) hS (fun q _ h => hF_26 q h) hF_26 (fun r_26 u_26 t_26 H locs ht_26 hvm_26 hw_26 hB_26 hz_26 hk_26 hS => ?_)
          obtain ⟨hP, hD⟩ := gk_back hF_26 hB_26 ht_26
          subst hw_26
          refine lv_icmp_ne (tgt := 230) hx hb dL_isBook_202 (by decide) (fun c9 => absurd rfl c9) (fun _ => ?_)
          refine lv_aload_n hx hb dL_isBook_205 rfl (lv_at hl 3 rfl) ?_
          refine lv_iload hx hb dL_isBook_206 (lv_at hl 0 rfl) ?_
          have hP : va_P D vwCl (([(xn, .inl (cyI, 10, .inl nf)), (xb, .inl (cyI, 36, .inl bf)), (xd, .inl (cyI, 40, .inl df)), (xa, .inl (cyI, 40, .inl af)), (xl, .inl (cyI, 40, .inl lf)), (xp, .inl (cyI, 40, .inl pf)), (xu, .inl (cyI, 6, .inl (pUs (gEL (fun l => bud l + mto l - maw l) (fun v => gAcc (fsd (lnf v)) (las (lnf v)) (rfd v) (dya v)) lnf amo orf nv) lnf nv)))] : va_W) ++ G) H := hP
          have hD : va_D A (([(xn, .inl (cyI, 10, .inl nf)), (xb, .inl (cyI, 36, .inl bf)), (xd, .inl (cyI, 40, .inl df)), (xa, .inl (cyI, 40, .inl af)), (xl, .inl (cyI, 40, .inl lf)), (xp, .inl (cyI, 40, .inl pf)), (xu, .inl (cyI, 6, .inl (pUs (gEL (fun l => bud l + mto l - maw l) (fun v => gAcc (fsd (lnf v)) (las (lnf v)) (rfd v) (dya v)) lnf amo orf nv) lnf nv)))] : va_W) ++ G) := hD
          have hF_27 := gk_all hD hS hA
          refine vx_calli (vx_runV (As := [.int (nI i)]) (rest := []) ⟨hx, hb, hml, hown, hts⟩ (kQ_left l hst D cyI cyZ cyL cyV cyJ gr sh rt ce nl nv am nc cd bud fsd las isB mto maw lno dya amo rfd ord cpa lnf orf g ([(xn, .inl (cyI, 10, .inl nf)), (xb, .inl (cyI, 36, .inl bf)), (xd, .inl (cyI, 40, .inl df)), (xa, .inl (cyI, 40, .inl af)), (xl, .inl (cyI, 40, .inl lf)), (xp, .inl (cyI, 40, .inl pf)), (xu, .inl (cyI, 6, .inl (pUs (gEL (fun l => bud l + mto l - maw l) (fun v => gAcc (fsd (lnf v)) (las (lnf v)) (rfd v) (dya v)) lnf amo orf nv) lnf nv)))] : va_W) G hG (nI i) H.size _ rfl) (cwV 1 hts gL_isBook_X2_left rfl rfl rfl (by decide +kernel) ⟨(Nat.le_of_ble_eq_true rfl), (Nat.le_of_ble_eq_true rfl)⟩) (gk_preVT hTF hS hF_27 hP hK hD (gQ_recv hG hK hP)) rfl rfl hl.1 rfl (lv_room (Nat.le_of_ble_eq_true rfl)) dL_isBook_208 ⟨(by show _ ≤ (200 : Nat); omega), (by show _ ≤ (1200 : Nat); omega)⟩) hS (fun q _ h => hF_27 q h) hF_27 (fun q _ h => hF_27 q h) (fun E_27 ce_27 q_27 u_27 t_27 H locs ht_27 hvm_27 hpx_27 hBX_27 hz_27 hk_27 hS hce_27 hcv_27 hcl_27 => ?_) (fun r_27 u_27 t_27 H locs ht_27 hvm_27 hw_27 hB_27 hz_27 hk_27 hS => ?_)
          · exact absurd hpx_27.2 (by unfold cNum; rw [if_pos (gNum_nI (n := nl) (i := i) (by omega) (by omega))]; decide)
          · obtain ⟨hP, hD⟩ := gk_back hF_27 hB_27 ht_27
            have hP : va_P D vwCl ((xn, .inl (cyI, 10, .inl nf)) :: (xb, .inl (cyI, 36, .inl bf)) :: (xd, .inl (cyI, 40, .inl df)) :: (xa, .inl (cyI, 40, .inl af)) :: (xl, .inl (cyI, 40, .inl lf)) :: (xp, .inl (cyI, 40, .inl pf)) :: (xu, .inl (cyI, 6, .inl (pUs (gEL (fun l => bud l + mto l - maw l) (fun v => gAcc (fsd (lnf v)) (las (lnf v)) (rfd v) (dya v)) lnf amo orf nv) lnf nv))) :: G) H := hP
            have hD : va_D A ((xn, .inl (cyI, 10, .inl nf)) :: (xb, .inl (cyI, 36, .inl bf)) :: (xd, .inl (cyI, 40, .inl df)) :: (xa, .inl (cyI, 40, .inl af)) :: (xl, .inl (cyI, 40, .inl lf)) :: (xp, .inl (cyI, 40, .inl pf)) :: (xu, .inl (cyI, 6, .inl (pUs (gEL (fun l => bud l + mto l - maw l) (fun v => gAcc (fsd (lnf v)) (las (lnf v)) (rfd v) (dya v)) lnf amo orf nv) lnf nv))) :: G) := hD
            obtain ⟨-, hv_27⟩ := hw_27
            rw [show gIxn (nI i) = i from nI_clamp (by omega)] at hv_27
            subst hv_27
            refine lv_aload_n hx hb dL_isBook_211 rfl (lv_at hl 5 rfl) ?_
            refine lv_iload hx hb dL_isBook_212 (lv_at hl 0 rfl) ?_
            have hF_28 := gk_all hD hS hA
            refine va_calli (va_runS (As := [.ref xb, .int (nI i)]) (rest := [.int ((bud i + mto i - maw i) - ((gUS (fun l => bud l + mto l - maw l) (fun v => gAcc (fsd (lnf v)) (las (lnf v)) (rfd v) (dya v)) lnf amo orf nv) i))]) ⟨hx, hb, hml, hown, hts⟩ (kL_room l D cyI cyZ cyL cyV cyJ xn xb xd xa xl nl nv gr sh rt ce bud fsd las isB mto maw dya amo rfd lnf nf bf df af lf ((xp, .inl (cyI, 40, .inl pf)) :: (xu, .inl (cyI, 6, .inl (pUs (gEL (fun l => bud l + mto l - maw l) (fun v => gAcc (fsd (lnf v)) (las (lnf v)) (rfd v) (dya v)) lnf amo orf nv) lnf nv))) :: G) hR i (by omega) H.size _ rfl) (va_cwS 2 hts gL_isBook_L_room rfl rfl rfl (by decide +kernel) ⟨(Nat.le_of_ble_eq_true rfl), (Nat.le_of_ble_eq_true rfl)⟩) (gk_preS hP hK hD) rfl rfl hl.1 rfl (lv_room (Nat.le_of_ble_eq_true rfl)) dL_isBook_214 ⟨(by show _ ≤ (200 : Nat); omega), (by show _ ≤ (1200 : Nat); omega)⟩) hS (fun q _ h => hF_28 q h) hF_28 (fun r_28 u_28 t_28 H locs ht_28 hvm_28 hw_28 hB_28 hz_28 hk_28 hS => ?_)
            obtain ⟨hP, hD⟩ := gk_back hF_28 hB_28 ht_28
            subst hw_28
            refine lv_aload hx hb dL_isBook_217 (lv_at hl 1 rfl) ?_
            refine lv_iload hx hb dL_isBook_219 (lv_at hl 0 rfl) ?_
            refine gk_iald (i := i) hx hb hK hP 6 0 rfl rfl (by omega) (by decide) dL_isBook_221 ?_
            rw [pUs_eq hG.1 (i := i) (by omega)]
            refine lv_isub hx hb dL_isBook_222 ?_
            refine lv_icmp_ne (tgt := 230) hx hb dL_isBook_223 (by decide) (fun c9 => absurd rfl c9) (fun _ => ?_)
            refine lv_iconst (v := 1) hx hb dL_isBook_226 (by decide) ?_
            refine lv_goto (tgt := 231) hx hb dL_isBook_227 (by decide) ?_
            refine lv_istore (lv' := [(8, .int 1), (10, .int (nI i)), (9, .ref xu), (0, .ref g), (1, .ref xn), (2, .ref xb), (3, .ref xd), (4, .ref xa), (5, .ref xl), (6, .ref xp), (7, .int (nI yy))]) hx hb dL_isBook_231 hl (by decide) rfl (fun ls hl => ?_)
            refine lv_iinc (v := nI (i + 1)) (lv' := [(10, .int (nI (i + 1))), (8, .int 1), (9, .ref xu), (0, .ref g), (1, .ref xn), (2, .ref xb), (3, .ref xd), (4, .ref xa), (5, .ref xl), (6, .ref xp), (7, .int (nI yy))]) hx hb dL_isBook_233 hl (k := 1) rfl (by show nI i + 1 = nI (i + 1); exact nI_1 _) (by decide) rfl (fun ls hl => ?_)
            refine lv_goto (tgt := 177) hx hb dL_isBook_236 (by decide) ?_
            refine W.widen (k := (81 + 2 * (i + 1))) (n := (486 + 12 * (i + 1))) (by omega) (by omega) ?_
            exact ih (i + 1) _ _ _ (by omega) (by omega) hP hD hS (lv_sub hl [0, 2, 1, 3, 4, 5, 6, 7, 8, 9, 10] rfl)
  have loop1 : ∀ (xu n i : Nat) (H : Heap) (locs : List Loc) (ls : Array Slot), i ≤ nv → nv + 1 ≤ i + n → va_P D vwCl ((xn, .inl (cyI, 10, .inl nf)) :: (xb, .inl (cyI, 36, .inl bf)) :: (xd, .inl (cyI, 40, .inl df)) :: (xa, .inl (cyI, 40, .inl af)) :: (xl, .inl (cyI, 40, .inl lf)) :: (xp, .inl (cyI, 40, .inl pf)) :: (xu, .inl (cyI, 6, .inl (pUs (gEL (fun l => bud l + mto l - maw l) (fun v => gAcc (fsd (lnf v)) (las (lnf v)) (rfd v) (dya v)) lnf amo orf nv) lnf i))) :: G) H → va_D A ((xn, .inl (cyI, 10, .inl nf)) :: (xb, .inl (cyI, 36, .inl bf)) :: (xd, .inl (cyI, 40, .inl df)) :: (xa, .inl (cyI, 40, .inl af)) :: (xl, .inl (cyI, 40, .inl lf)) :: (xp, .inl (cyI, 40, .inl pf)) :: (xu, .inl (cyI, 6, .inl (pUs (gEL (fun l => bud l + mto l - maw l) (fun v => gAcc (fsd (lnf v)) (las (lnf v)) (rfd v) (dya v)) lnf amo orf nv) lnf i))) :: G) → va_S A s.heap H locs → lv_has ls 19 [(10, .int (nI i)), (9, .ref xu), (8, .int 1), (0, .ref g), (1, .ref xn), (2, .ref xb), (3, .ref xd), (4, .ref xa), (5, .ref xl), (6, .ref xp), (7, .int (nI yy))] → W p l e (headSpec wsL_isBook ({ frames := 9, cells := 200, slots := 1200, locals := 147 })).room s m ([.ref g, .ref xn, .ref xb, .ref xd, .ref xa, .ref xl, .ref xp, .int (nI yy)] : List Value).toArray below meth c H locs (1 + 2 * i) (6 + 12 * i) (MQ below (va_Qi (fun (r : Int32) (_ : Unit) => r = 1) (fun (_ : Unit) t => gPost D (gTy cyI cyZ cyL cyV cyJ) A ((xn, .inl (cyI, 10, .inl nf)) :: (xb, .inl (cyI, 36, .inl bf)) :: (xd, .inl (cyI, 40, .inl df)) :: (xa, .inl (cyI, 40, .inl af)) :: (xl, .inl (cyI, 40, .inl lf)) :: (xp, .inl (cyI, 40, .inl pf)) :: G) t) A) ([.ref g, .ref xn, .ref xb, .ref xd, .ref xa, .ref xl, .ref xp, .int (nI yy)] : List Value).toArray s 200 1200 A) (F0 m 89 ls []) := by
    intro xu n
    induction n with
    | zero => intro i H locs ls h1 h2; exact absurd h2 (by omega)
    | succ n ih =>
      intro i H locs ls h1 h2 hP hD hS hl
      refine lv_iload hx hb dL_isBook_89 (lv_at hl 0 rfl) ?_
      refine lv_aload_n hx hb dL_isBook_91 rfl (lv_at hl 4 rfl) ?_
      refine lv_iconst (v := 5) hx hb dL_isBook_92 (by decide) ?_
      refine gk_iald (i := 5) hx hb hK hP 0 0 rfl rfl (by omega) (by decide) dL_isBook_93 ?_
      rw [hn5]
      refine lv_icmp_ge (tgt := 174) hx hb dL_isBook_94 (by decide) (fun c_29 => ?_) (fun c_29 => ?_)
      · have n_29 : nv ≤ i := pf_le (a := nv) (b := i) (by omega) (by omega) c_29
        obtain rfl : nv = i := by omega
        refine lv_iconst (v := 0) hx hb dL_isBook_174 (by decide) ?_
        refine lv_istore (lv' := [(10, .int 0), (9, .ref xu), (8, .int 1), (0, .ref g), (1, .ref xn), (2, .ref xb), (3, .ref xd), (4, .ref xa), (5, .ref xl), (6, .ref xp), (7, .int (nI yy))]) hx hb dL_isBook_175 hl (by decide) rfl (fun ls hl => ?_)
        refine W.widen (k := (81 + 2 * 0)) (n := (486 + 12 * 0)) (by omega) (by omega) ?_
        exact loop2 xu (nl + 1) 0 _ _ _ (by omega) (by omega) hP hD hS (lv_sub hl [0, 1, 2, 3, 4, 5, 6, 7, 8, 9, 10] rfl)
      · have n_29 : i < nv := pf_nle (a := nv) (b := i) (by omega) (by omega) c_29
        refine lv_iload hx hb dL_isBook_97 (lv_at hl 2 rfl) ?_
        refine lv_if_eq (tgt := 174) hx hb dL_isBook_99 (by decide) (fun c => by first | exact absurd c (by decide) | exact absurd (by decide) c) (fun _ => ?_)
        refine lv_aload_n hx hb dL_isBook_102 rfl (lv_at hl 4 rfl) ?_
        refine lv_aload_n hx hb dL_isBook_103 rfl (lv_at hl 5 rfl) ?_
        refine lv_aload_n hx hb dL_isBook_104 rfl (lv_at hl 6 rfl) ?_
        refine lv_aload hx hb dL_isBook_105 (lv_at hl 7 rfl) ?_
        refine lv_aload hx hb dL_isBook_107 (lv_at hl 8 rfl) ?_
        refine lv_iload hx hb dL_isBook_109 (lv_at hl 0 rfl) ?_
        have hF_31 := gk_all hD hS hA
        refine va_calli (va_runS (As := [.ref xn, .ref xb, .ref xd, .ref xa, .ref xl, .int (nI i)]) (rest := []) ⟨hx, hb, hml, hown, hts⟩ (kL_eligible l D cyI cyZ cyL cyV cyJ xn xb xd xa xl nl nv gr sh rt ce bud fsd las isB mto maw dya amo rfd lnf nf bf df af lf ((xp, .inl (cyI, 40, .inl pf)) :: (xu, .inl (cyI, 6, .inl (pUs (gEL (fun l => bud l + mto l - maw l) (fun v => gAcc (fsd (lnf v)) (las (lnf v)) (rfd v) (dya v)) lnf amo orf nv) lnf i))) :: G) hR i (by omega) H.size _ rfl) (va_cwS 6 hts gL_isBook_L_eligible rfl rfl rfl (by decide +kernel) ⟨(Nat.le_of_ble_eq_true rfl), (Nat.le_of_ble_eq_true rfl)⟩) (gk_preS hP hK hD) rfl rfl hl.1 rfl (lv_room (Nat.le_of_ble_eq_true rfl)) dL_isBook_111 ⟨(by show _ ≤ (200 : Nat); omega), (by show _ ≤ (1200 : Nat); omega)⟩) hS (fun q _ h => hF_31 q h) hF_31 (fun r_31 u_31 t_31 H locs ht_31 hvm_31 hw_31 hB_31 hz_31 hk_31 hS => ?_)
        obtain ⟨hP, hD⟩ := gk_back hF_31 hB_31 ht_31
        obtain rfl : r_31 = (gEL (fun l => bud l + mto l - maw l) (fun v => gAcc (fsd (lnf v)) (las (lnf v)) (rfd v) (dya v)) lnf amo orf nv) i := hw_31.trans (hel i (by omega))
        refine lv_istore (lv' := [(11, .int ((gEL (fun l => bud l + mto l - maw l) (fun v => gAcc (fsd (lnf v)) (las (lnf v)) (rfd v) (dya v)) lnf amo orf nv) i)), (10, .int (nI i)), (9, .ref xu), (8, .int 1), (0, .ref g), (1, .ref xn), (2, .ref xb), (3, .ref xd), (4, .ref xa), (5, .ref xl), (6, .ref xp), (7, .int (nI yy))]) hx hb dL_isBook_114 hl (by decide) rfl (fun ls hl => ?_)
        refine lv_aload hx hb dL_isBook_116 (lv_at hl 2 rfl) ?_
        refine lv_aload hx hb dL_isBook_118 (lv_at hl 9 rfl) ?_
        refine lv_iload hx hb dL_isBook_120 (lv_at hl 1 rfl) ?_
        refine gk_iald (i := i) hx hb hK hP 4 0 rfl rfl (by omega) (by decide) dL_isBook_122 ?_
        have hll_32 : lnf i < nl := (hvl i (by omega)).2.2.1
        rcases (hvl i (by omega)).2.2.2 with ⟨hr_32, hlf_32⟩ | ⟨hr_32, hlf_32⟩
        · rw [hlf_32]
          refine lv_bipush (v := 100) hx hb dL_isBook_123 (by decide) ?_
          refine lv_irem hx hb dL_isBook_125 (by decide) ?_
          refine lv_topi (fun y_33 h_33 => ?_)
          obtain rfl : y_33 = (nI (lnf i)) := h_33.trans (pN_rem2 (a := (lnf i)) (b := 100) (by omega) (by omega) (by omega) (by omega))
          refine lv_dup2_11 hx hb dL_isBook_126 rfl rfl ?_
          refine gk_iald (i := (lnf i)) hx hb hK hP 6 0 rfl rfl (by omega) (by decide) dL_isBook_127 ?_
          refine lv_iload hx hb dL_isBook_128 (lv_at hl 0 rfl) ?_
          refine lv_iadd hx hb dL_isBook_130 ?_
          refine gk_iast (i := (lnf i)) hx hb hK hP hD hS 6 0 rfl rfl (by omega) (by decide) dL_isBook_131 (fun H locs hP hD hS => ?_)
          have hP : va_P D vwCl ((xn, .inl (cyI, 10, .inl nf)) :: (xb, .inl (cyI, 36, .inl bf)) :: (xd, .inl (cyI, 40, .inl df)) :: (xa, .inl (cyI, 40, .inl af)) :: (xl, .inl (cyI, 40, .inl lf)) :: (xp, .inl (cyI, 40, .inl pf)) :: (xu, .inl (cyI, 6, .inl (va_up (pUs (gEL (fun l => bud l + mto l - maw l) (fun v => gAcc (fsd (lnf v)) (las (lnf v)) (rfd v) (dya v)) lnf amo orf nv) lnf i) (lnf i) (((pUs (gEL (fun l => bud l + mto l - maw l) (fun v => gAcc (fsd (lnf v)) (las (lnf v)) (rfd v) (dya v)) lnf amo orf nv) lnf i) (lnf i)) + ((gEL (fun l => bud l + mto l - maw l) (fun v => gAcc (fsd (lnf v)) (las (lnf v)) (rfd v) (dya v)) lnf amo orf nv) i))))) :: G) H := hP
          have hD : va_D A ((xn, .inl (cyI, 10, .inl nf)) :: (xb, .inl (cyI, 36, .inl bf)) :: (xd, .inl (cyI, 40, .inl df)) :: (xa, .inl (cyI, 40, .inl af)) :: (xl, .inl (cyI, 40, .inl lf)) :: (xp, .inl (cyI, 40, .inl pf)) :: (xu, .inl (cyI, 6, .inl (va_up (pUs (gEL (fun l => bud l + mto l - maw l) (fun v => gAcc (fsd (lnf v)) (las (lnf v)) (rfd v) (dya v)) lnf amo orf nv) lnf i) (lnf i) (((pUs (gEL (fun l => bud l + mto l - maw l) (fun v => gAcc (fsd (lnf v)) (las (lnf v)) (rfd v) (dya v)) lnf amo orf nv) lnf i) (lnf i)) + ((gEL (fun l => bud l + mto l - maw l) (fun v => gAcc (fsd (lnf v)) (las (lnf v)) (rfd v) (dya v)) lnf amo orf nv) i))))) :: G) := hD
          obtain ⟨uf_34, euf_34⟩ : ∃ z, z = (va_up (pUs (gEL (fun l => bud l + mto l - maw l) (fun v => gAcc (fsd (lnf v)) (las (lnf v)) (rfd v) (dya v)) lnf amo orf nv) lnf i) (lnf i) (((pUs (gEL (fun l => bud l + mto l - maw l) (fun v => gAcc (fsd (lnf v)) (las (lnf v)) (rfd v) (dya v)) lnf amo orf nv) lnf i) (lnf i)) + ((gEL (fun l => bud l + mto l - maw l) (fun v => gAcc (fsd (lnf v)) (las (lnf v)) (rfd v) (dya v)) lnf amo orf nv) i))) := ⟨_, rfl⟩
          rw [← euf_34] at hP hD
          refine lv_aload_n hx hb dL_isBook_132 rfl (lv_at hl 4 rfl) ?_
          refine lv_iload hx hb dL_isBook_133 (lv_at hl 1 rfl) ?_
          have hP : va_P D vwCl (([(xn, .inl (cyI, 10, .inl nf)), (xb, .inl (cyI, 36, .inl bf)), (xd, .inl (cyI, 40, .inl df)), (xa, .inl (cyI, 40, .inl af)), (xl, .inl (cyI, 40, .inl lf)), (xp, .inl (cyI, 40, .inl pf)), (xu, .inl (cyI, 6, .inl uf_34))] : va_W) ++ G) H := hP
          have hD : va_D A (([(xn, .inl (cyI, 10, .inl nf)), (xb, .inl (cyI, 36, .inl bf)), (xd, .inl (cyI, 40, .inl df)), (xa, .inl (cyI, 40, .inl af)), (xl, .inl (cyI, 40, .inl lf)), (xp, .inl (cyI, 40, .inl pf)), (xu, .inl (cyI, 6, .inl uf_34))] : va_W) ++ G) := hD
          have hF_35 := gk_all hD hS hA
          refine vx_calli (vx_runV (As := [.int (nI i)]) (rest := []) ⟨hx, hb, hml, hown, hts⟩ (kQ_fits l hst D cyI cyZ cyL cyV cyJ gr sh rt ce nl nv am nc cd bud fsd las isB mto maw lno dya amo rfd ord cpa lnf orf g ([(xn, .inl (cyI, 10, .inl nf)), (xb, .inl (cyI, 36, .inl bf)), (xd, .inl (cyI, 40, .inl df)), (xa, .inl (cyI, 40, .inl af)), (xl, .inl (cyI, 40, .inl lf)), (xp, .inl (cyI, 40, .inl pf)), (xu, .inl (cyI, 6, .inl uf_34))] : va_W) G hG (nI i) H.size _ rfl) (cwV 1 hts gL_isBook_X2_fits rfl rfl rfl (by decide +kernel) ⟨(Nat.le_of_ble_eq_true rfl), (Nat.le_of_ble_eq_true rfl)⟩) (gk_preVT hTF hS hF_35 hP hK hD (gQ_recv hG hK hP)) rfl rfl hl.1 rfl (lv_room (Nat.le_of_ble_eq_true rfl)) dL_isBook_135 ⟨(by show _ ≤ (200 : Nat); omega), (by show _ ≤ (1200 : Nat); omega)⟩) hS (fun q _ h => hF_35 q h) hF_35 (fun q _ h => hF_35 q h) (fun E_35 ce_35 q_35 u_35 t_35 H locs ht_35 hvm_35 hpx_35 hBX_35 hz_35 hk_35 hS hce_35 hcv_35 hcl_35 => ?_) (fun r_35 u_35 t_35 H locs ht_35 hvm_35 hw_35 hB_35 hz_35 hk_35 hS => ?_)
          · exact absurd hpx_35.2 (by unfold cNum; rw [if_pos (gNum_nI (n := nv) (i := i) (by omega) (by omega))]; decide)
          · obtain ⟨hP, hD⟩ := gk_back hF_35 hB_35 ht_35
            have hP : va_P D vwCl ((xn, .inl (cyI, 10, .inl nf)) :: (xb, .inl (cyI, 36, .inl bf)) :: (xd, .inl (cyI, 40, .inl df)) :: (xa, .inl (cyI, 40, .inl af)) :: (xl, .inl (cyI, 40, .inl lf)) :: (xp, .inl (cyI, 40, .inl pf)) :: (xu, .inl (cyI, 6, .inl uf_34)) :: G) H := hP
            have hD : va_D A ((xn, .inl (cyI, 10, .inl nf)) :: (xb, .inl (cyI, 36, .inl bf)) :: (xd, .inl (cyI, 40, .inl df)) :: (xa, .inl (cyI, 40, .inl af)) :: (xl, .inl (cyI, 40, .inl lf)) :: (xp, .inl (cyI, 40, .inl pf)) :: (xu, .inl (cyI, 6, .inl uf_34)) :: G) := hD
            obtain ⟨-, hv_35⟩ := hw_35
            rw [show gIxn (nI i) = i from nI_clamp (by omega)] at hv_35
            subst hv_35
            refine lv_aload_n hx hb dL_isBook_138 rfl (lv_at hl 6 rfl) ?_
            refine lv_aload_n hx hb dL_isBook_139 rfl (lv_at hl 7 rfl) ?_
            refine lv_aload hx hb dL_isBook_140 (lv_at hl 9 rfl) ?_
            refine lv_iload hx hb dL_isBook_142 (lv_at hl 1 rfl) ?_
            have hF_36 := gk_all hD hS hA
            refine va_calli (va_runS (As := [.ref xb, .ref xd, .ref xl, .int (nI i)]) (rest := [.int (gAcc (fsd (lnf i)) (las (lnf i)) (rfd i) (dya i))]) ⟨hx, hb, hml, hown, hts⟩ (kL_fits l D cyI cyZ cyL cyV cyJ xn xb xd xa xl nl nv gr sh rt ce bud fsd las isB mto maw dya amo rfd lnf nf bf df af lf ((xp, .inl (cyI, 40, .inl pf)) :: (xu, .inl (cyI, 6, .inl uf_34)) :: G) hR i (by omega) H.size _ rfl) (va_cwS 4 hts gL_isBook_L_fits rfl rfl rfl (by decide +kernel) ⟨(Nat.le_of_ble_eq_true rfl), (Nat.le_of_ble_eq_true rfl)⟩) (gk_preS hP hK hD) rfl rfl hl.1 rfl (lv_room (Nat.le_of_ble_eq_true rfl)) dL_isBook_144 ⟨(by show _ ≤ (200 : Nat); omega), (by show _ ≤ (1200 : Nat); omega)⟩) hS (fun q _ h => hF_36 q h) hF_36 (fun r_36 u_36 t_36 H locs ht_36 hvm_36 hw_36 hB_36 hz_36 hk_36 hS => ?_)
            obtain ⟨hP, hD⟩ := gk_back hF_36 hB_36 ht_36
            subst hw_36
            refine lv_icmp_ne (tgt := 165) hx hb dL_isBook_147 (by decide) (fun c9 => absurd rfl c9) (fun _ => ?_)
            refine lv_aload_n hx hb dL_isBook_150 rfl (lv_at hl 4 rfl) ?_
            refine lv_iload hx hb dL_isBook_151 (lv_at hl 1 rfl) ?_
            have hP : va_P D vwCl (([(xn, .inl (cyI, 10, .inl nf)), (xb, .inl (cyI, 36, .inl bf)), (xd, .inl (cyI, 40, .inl df)), (xa, .inl (cyI, 40, .inl af)), (xl, .inl (cyI, 40, .inl lf)), (xp, .inl (cyI, 40, .inl pf)), (xu, .inl (cyI, 6, .inl uf_34))] : va_W) ++ G) H := hP
            have hD : va_D A (([(xn, .inl (cyI, 10, .inl nf)), (xb, .inl (cyI, 36, .inl bf)), (xd, .inl (cyI, 40, .inl df)), (xa, .inl (cyI, 40, .inl af)), (xl, .inl (cyI, 40, .inl lf)), (xp, .inl (cyI, 40, .inl pf)), (xu, .inl (cyI, 6, .inl uf_34))] : va_W) ++ G) := hD
            have hF_37 := gk_all hD hS hA
            refine vx_calli (vx_runV (As := [.int (nI i)]) (rest := []) ⟨hx, hb, hml, hown, hts⟩ (kQ_eligible l hst D cyI cyZ cyL cyV cyJ gr sh rt ce nl nv am nc cd bud fsd las isB mto maw lno dya amo rfd ord cpa lnf orf g ([(xn, .inl (cyI, 10, .inl nf)), (xb, .inl (cyI, 36, .inl bf)), (xd, .inl (cyI, 40, .inl df)), (xa, .inl (cyI, 40, .inl af)), (xl, .inl (cyI, 40, .inl lf)), (xp, .inl (cyI, 40, .inl pf)), (xu, .inl (cyI, 6, .inl uf_34))] : va_W) G hG (nI i) H.size _ rfl) (cwV 1 hts gL_isBook_X2_eligible rfl rfl rfl (by decide +kernel) ⟨(Nat.le_of_ble_eq_true rfl), (Nat.le_of_ble_eq_true rfl)⟩) (gk_preVT hTF hS hF_37 hP hK hD (gQ_recv hG hK hP)) rfl rfl hl.1 rfl (lv_room (Nat.le_of_ble_eq_true rfl)) dL_isBook_153 ⟨(by show _ ≤ (200 : Nat); omega), (by show _ ≤ (1200 : Nat); omega)⟩) hS (fun q _ h => hF_37 q h) hF_37 (fun q _ h => hF_37 q h) (fun E_37 ce_37 q_37 u_37 t_37 H locs ht_37 hvm_37 hpx_37 hBX_37 hz_37 hk_37 hS hce_37 hcv_37 hcl_37 => ?_) (fun r_37 u_37 t_37 H locs ht_37 hvm_37 hw_37 hB_37 hz_37 hk_37 hS => ?_)
            · exact absurd hpx_37.2 (by unfold cNum; rw [if_pos (gNum_nI (n := nv) (i := i) (by omega) (by omega))]; decide)
            · obtain ⟨hP, hD⟩ := gk_back hF_37 hB_37 ht_37
              have hP : va_P D vwCl ((xn, .inl (cyI, 10, .inl nf)) :: (xb, .inl (cyI, 36, .inl bf)) :: (xd, .inl (cyI, 40, .inl df)) :: (xa, .inl (cyI, 40, .inl af)) :: (xl, .inl (cyI, 40, .inl lf)) :: (xp, .inl (cyI, 40, .inl pf)) :: (xu, .inl (cyI, 6, .inl uf_34)) :: G) H := hP
              have hD : va_D A ((xn, .inl (cyI, 10, .inl nf)) :: (xb, .inl (cyI, 36, .inl bf)) :: (xd, .inl (cyI, 40, .inl df)) :: (xa, .inl (cyI, 40, .inl af)) :: (xl, .inl (cyI, 40, .inl lf)) :: (xp, .inl (cyI, 40, .inl pf)) :: (xu, .inl (cyI, 6, .inl uf_34)) :: G) := hD
              obtain ⟨-, hv_37⟩ := hw_37
              rw [show gIxn (nI i) = i from nI_clamp (by omega)] at hv_37
              subst hv_37
              refine lv_iload hx hb dL_isBook_156 (lv_at hl 0 rfl) ?_
              refine lv_icmp_ne (tgt := 165) hx hb dL_isBook_158 (by decide) (fun c9 => absurd rfl c9) (fun _ => ?_)
              refine lv_iconst (v := 1) hx hb dL_isBook_161 (by decide) ?_
              refine lv_goto (tgt := 166) hx hb dL_isBook_162 (by decide) ?_
              refine lv_istore (lv' := [(8, .int 1), (11, .int ((gEL (fun l => bud l + mto l - maw l) (fun v => gAcc (fsd (lnf v)) (las (lnf v)) (rfd v) (dya v)) lnf amo orf nv) i)), (10, .int (nI i)), (9, .ref xu), (0, .ref g), (1, .ref xn), (2, .ref xb), (3, .ref xd), (4, .ref xa), (5, .ref xl), (6, .ref xp), (7, .int (nI yy))]) hx hb dL_isBook_166 hl (by decide) rfl (fun ls hl => ?_)
              refine lv_iinc (v := nI (i + 1)) (lv' := [(10, .int (nI (i + 1))), (8, .int 1), (11, .int ((gEL (fun l => bud l + mto l - maw l) (fun v => gAcc (fsd (lnf v)) (las (lnf v)) (rfd v) (dya v)) lnf amo orf nv) i)), (9, .ref xu), (0, .ref g), (1, .ref xn), (2, .ref xb), (3, .ref xd), (4, .ref xa), (5, .ref xl), (6, .ref xp), (7, .int (nI yy))]) hx hb dL_isBook_168 hl (k := 2) rfl (by show nI i + 1 = nI (i + 1); exact nI_1 _) (by decide) rfl (fun ls hl => ?_)
              refine lv_goto (tgt := 89) hx hb dL_isBook_171 (by decide) ?_
              refine W.widen (k := (1 + 2 * (i + 1))) (n := (6 + 12 * (i + 1))) (by omega) (by omega) ?_
              exact ih (i + 1) _ _ _ (by omega) (by omega) (by rw [euf_34] at hP; exact hP) (by rw [euf_34] at hD; exact hD) hS (lv_sub hl [0, 3, 1, 4, 5, 6, 7, 8, 9, 10, 11] rfl)
        · rw [hlf_32]
          refine lv_bipush (v := 100) hx hb dL_isBook_123 (by decide) ?_
          refine lv_irem hx hb dL_isBook_125 (by decide) ?_
          refine lv_topi (fun y_38 h_38 => ?_)
          obtain rfl : y_38 = (nI (lnf i)) := h_38.trans (pN_rem2 (a := (lnf i + 100)) (b := 100) (by omega) (by omega) (by omega) (by omega))
          refine lv_dup2_11 hx hb dL_isBook_126 rfl rfl ?_
          refine gk_iald (i := (lnf i)) hx hb hK hP 6 0 rfl rfl (by omega) (by decide) dL_isBook_127 ?_
          refine lv_iload hx hb dL_isBook_128 (lv_at hl 0 rfl) ?_
          refine lv_iadd hx hb dL_isBook_130 ?_
          refine gk_iast (i := (lnf i)) hx hb hK hP hD hS 6 0 rfl rfl (by omega) (by decide) dL_isBook_131 (fun H locs hP hD hS => ?_)
          have hP : va_P D vwCl ((xn, .inl (cyI, 10, .inl nf)) :: (xb, .inl (cyI, 36, .inl bf)) :: (xd, .inl (cyI, 40, .inl df)) :: (xa, .inl (cyI, 40, .inl af)) :: (xl, .inl (cyI, 40, .inl lf)) :: (xp, .inl (cyI, 40, .inl pf)) :: (xu, .inl (cyI, 6, .inl (va_up (pUs (gEL (fun l => bud l + mto l - maw l) (fun v => gAcc (fsd (lnf v)) (las (lnf v)) (rfd v) (dya v)) lnf amo orf nv) lnf i) (lnf i) (((pUs (gEL (fun l => bud l + mto l - maw l) (fun v => gAcc (fsd (lnf v)) (las (lnf v)) (rfd v) (dya v)) lnf amo orf nv) lnf i) (lnf i)) + ((gEL (fun l => bud l + mto l - maw l) (fun v => gAcc (fsd (lnf v)) (las (lnf v)) (rfd v) (dya v)) lnf amo orf nv) i))))) :: G) H := hP
          have hD : va_D A ((xn, .inl (cyI, 10, .inl nf)) :: (xb, .inl (cyI, 36, .inl bf)) :: (xd, .inl (cyI, 40, .inl df)) :: (xa, .inl (cyI, 40, .inl af)) :: (xl, .inl (cyI, 40, .inl lf)) :: (xp, .inl (cyI, 40, .inl pf)) :: (xu, .inl (cyI, 6, .inl (va_up (pUs (gEL (fun l => bud l + mto l - maw l) (fun v => gAcc (fsd (lnf v)) (las (lnf v)) (rfd v) (dya v)) lnf amo orf nv) lnf i) (lnf i) (((pUs (gEL (fun l => bud l + mto l - maw l) (fun v => gAcc (fsd (lnf v)) (las (lnf v)) (rfd v) (dya v)) lnf amo orf nv) lnf i) (lnf i)) + ((gEL (fun l => bud l + mto l - maw l) (fun v => gAcc (fsd (lnf v)) (las (lnf v)) (rfd v) (dya v)) lnf amo orf nv) i))))) :: G) := hD
          obtain ⟨uf_39, euf_39⟩ : ∃ z, z = (va_up (pUs (gEL (fun l => bud l + mto l - maw l) (fun v => gAcc (fsd (lnf v)) (las (lnf v)) (rfd v) (dya v)) lnf amo orf nv) lnf i) (lnf i) (((pUs (gEL (fun l => bud l + mto l - maw l) (fun v => gAcc (fsd (lnf v)) (las (lnf v)) (rfd v) (dya v)) lnf amo orf nv) lnf i) (lnf i)) + ((gEL (fun l => bud l + mto l - maw l) (fun v => gAcc (fsd (lnf v)) (las (lnf v)) (rfd v) (dya v)) lnf amo orf nv) i))) := ⟨_, rfl⟩
          rw [← euf_39] at hP hD
          refine lv_aload_n hx hb dL_isBook_132 rfl (lv_at hl 4 rfl) ?_
          refine lv_iload hx hb dL_isBook_133 (lv_at hl 1 rfl) ?_
          have hP : va_P D vwCl (([(xn, .inl (cyI, 10, .inl nf)), (xb, .inl (cyI, 36, .inl bf)), (xd, .inl (cyI, 40, .inl df)), (xa, .inl (cyI, 40, .inl af)), (xl, .inl (cyI, 40, .inl lf)), (xp, .inl (cyI, 40, .inl pf)), (xu, .inl (cyI, 6, .inl uf_39))] : va_W) ++ G) H := hP
          have hD : va_D A (([(xn, .inl (cyI, 10, .inl nf)), (xb, .inl (cyI, 36, .inl bf)), (xd, .inl (cyI, 40, .inl df)), (xa, .inl (cyI, 40, .inl af)), (xl, .inl (cyI, 40, .inl lf)), (xp, .inl (cyI, 40, .inl pf)), (xu, .inl (cyI, 6, .inl uf_39))] : va_W) ++ G) := hD
          have hF_40 := gk_all hD hS hA
          refine vx_calli (vx_runV (As := [.int (nI i)]) (rest := []) ⟨hx, hb, hml, hown, hts⟩ (kQ_fits l hst D cyI cyZ cyL cyV cyJ gr sh rt ce nl nv am nc cd bud fsd las isB mto maw lno dya amo rfd ord cpa lnf orf g ([(xn, .inl (cyI, 10, .inl nf)), (xb, .inl (cyI, 36, .inl bf)), (xd, .inl (cyI, 40, .inl df)), (xa, .inl (cyI, 40, .inl af)), (xl, .inl (cyI, 40, .inl lf)), (xp, .inl (cyI, 40, .inl pf)), (xu, .inl (cyI, 6, .inl uf_39))] : va_W) G hG (nI i) H.size _ rfl) (cwV 1 hts gL_isBook_X2_fits rfl rfl rfl (by decide +kernel) ⟨(Nat.le_of_ble_eq_true rfl), (Nat.le_of_ble_eq_true rfl)⟩) (gk_preVT hTF hS hF_40 hP hK hD (gQ_recv hG hK hP)) rfl rfl hl.1 rfl (lv_room (Nat.le_of_ble_eq_true rfl)) dL_isBook_135 ⟨(by show _ ≤ (200 : Nat); omega), (by show _ ≤ (1200 : Nat); omega)⟩) hS (fun q _ h => hF_40 q h) hF_40 (fun q _ h => hF_40 q h) (fun E_40 ce_40 q_40 u_40 t_40 H locs ht_40 hvm_40 hpx_40 hBX_40 hz_40 hk_40 hS hce_40 hcv_40 hcl_40 => ?_) (fun r_40 u_40 t_40 H locs ht_40 hvm_40 hw_40 hB_40 hz_40 hk_40 hS => ?_)
          · exact absurd hpx_40.2 (by unfold cNum; rw [if_pos (gNum_nI (n := nv) (i := i) (by omega) (by omega))]; decide)
          · obtain ⟨hP, hD⟩ := gk_back hF_40 hB_40 ht_40
            have hP : va_P D vwCl ((xn, .inl (cyI, 10, .inl nf)) :: (xb, .inl (cyI, 36, .inl bf)) :: (xd, .inl (cyI, 40, .inl df)) :: (xa, .inl (cyI, 40, .inl af)) :: (xl, .inl (cyI, 40, .inl lf)) :: (xp, .inl (cyI, 40, .inl pf)) :: (xu, .inl (cyI, 6, .inl uf_39)) :: G) H := hP
            have hD : va_D A ((xn, .inl (cyI, 10, .inl nf)) :: (xb, .inl (cyI, 36, .inl bf)) :: (xd, .inl (cyI, 40, .inl df)) :: (xa, .inl (cyI, 40, .inl af)) :: (xl, .inl (cyI, 40, .inl lf)) :: (xp, .inl (cyI, 40, .inl pf)) :: (xu, .inl (cyI, 6, .inl uf_39)) :: G) := hD
            obtain ⟨-, hv_40⟩ := hw_40
            rw [show gIxn (nI i) = i from nI_clamp (by omega)] at hv_40
            subst hv_40
            refine lv_aload_n hx hb dL_isBook_138 rfl (lv_at hl 6 rfl) ?_
            refine lv_aload_n hx hb dL_isBook_139 rfl (lv_at hl 7 rfl) ?_
            refine lv_aload hx hb dL_isBook_140 (lv_at hl 9 rfl) ?_
            refine lv_iload hx hb dL_isBook_142 (lv_at hl 1 rfl) ?_
            have hF_41 := gk_all hD hS hA
            refine va_calli (va_runS (As := [.ref xb, .ref xd, .ref xl, .int (nI i)]) (rest := [.int (gAcc (fsd (lnf i)) (las (lnf i)) (rfd i) (dya i))]) ⟨hx, hb, hml, hown, hts⟩ (kL_fits l D cyI cyZ cyL cyV cyJ xn xb xd xa xl nl nv gr sh rt ce bud fsd las isB mto maw dya amo rfd lnf nf bf df af lf ((xp, .inl (cyI, 40, .inl pf)) :: (xu, .inl (cyI, 6, .inl uf_39)) :: G) hR i (by omega) H.size _ rfl) (va_cwS 4 hts gL_isBook_L_fits rfl rfl rfl (by decide +kernel) ⟨(Nat.le_of_ble_eq_true rfl), (Nat.le_of_ble_eq_true rfl)⟩) (gk_preS hP hK hD) rfl rfl hl.1 rfl (lv_room (Nat.le_of_ble_eq_true rfl)) dL_isBook_144 ⟨(by show _ ≤ (200 : Nat); omega), (by show _ ≤ (1200 : Nat); omega)⟩) hS (fun q _ h => hF_41 q h) hF_41 (fun r_41 u_41 t_41 H locs ht_41 hvm_41 hw_41 hB_41 hz_41 hk_41 hS => ?_)
            obtain ⟨hP, hD⟩ := gk_back hF_41 hB_41 ht_41
            subst hw_41
            refine lv_icmp_ne (tgt := 165) hx hb dL_isBook_147 (by decide) (fun c9 => absurd rfl c9) (fun _ => ?_)
            refine lv_aload_n hx hb dL_isBook_150 rfl (lv_at hl 4 rfl) ?_
            refine lv_iload hx hb dL_isBook_151 (lv_at hl 1 rfl) ?_
            have hP : va_P D vwCl (([(xn, .inl (cyI, 10, .inl nf)), (xb, .inl (cyI, 36, .inl bf)), (xd, .inl (cyI, 40, .inl df)), (xa, .inl (cyI, 40, .inl af)), (xl, .inl (cyI, 40, .inl lf)), (xp, .inl (cyI, 40, .inl pf)), (xu, .inl (cyI, 6, .inl uf_39))] : va_W) ++ G) H := hP
            have hD : va_D A (([(xn, .inl (cyI, 10, .inl nf)), (xb, .inl (cyI, 36, .inl bf)), (xd, .inl (cyI, 40, .inl df)), (xa, .inl (cyI, 40, .inl af)), (xl, .inl (cyI, 40, .inl lf)), (xp, .inl (cyI, 40, .inl pf)), (xu, .inl (cyI, 6, .inl uf_39))] : va_W) ++ G) := hD
            have hF_42 := gk_all hD hS hA
            refine vx_calli (vx_runV (As := [.int (nI i)]) (rest := []) ⟨hx, hb, hml, hown, hts⟩ (kQ_eligible l hst D cyI cyZ cyL cyV cyJ gr sh rt ce nl nv am nc cd bud fsd las isB mto maw lno dya amo rfd ord cpa lnf orf g ([(xn, .inl (cyI, 10, .inl nf)), (xb, .inl (cyI, 36, .inl bf)), (xd, .inl (cyI, 40, .inl df)), (xa, .inl (cyI, 40, .inl af)), (xl, .inl (cyI, 40, .inl lf)), (xp, .inl (cyI, 40, .inl pf)), (xu, .inl (cyI, 6, .inl uf_39))] : va_W) G hG (nI i) H.size _ rfl) (cwV 1 hts gL_isBook_X2_eligible rfl rfl rfl (by decide +kernel) ⟨(Nat.le_of_ble_eq_true rfl), (Nat.le_of_ble_eq_true rfl)⟩) (gk_preVT hTF hS hF_42 hP hK hD (gQ_recv hG hK hP)) rfl rfl hl.1 rfl (lv_room (Nat.le_of_ble_eq_true rfl)) dL_isBook_153 ⟨(by show _ ≤ (200 : Nat); omega), (by show _ ≤ (1200 : Nat); omega)⟩) hS (fun q _ h => hF_42 q h) hF_42 (fun q _ h => hF_42 q h) (fun E_42 ce_42 q_42 u_42 t_42 H locs ht_42 hvm_42 hpx_42 hBX_42 hz_42 hk_42 hS hce_42 hcv_42 hcl_42 => ?_) (fun r_42 u_42 t_42 H locs ht_42 hvm_42 hw_42 hB_42 hz_42 hk_42 hS => ?_)
            · exact absurd hpx_42.2 (by unfold cNum; rw [if_pos (gNum_nI (n := nv) (i := i) (by omega) (by omega))]; decide)
            · obtain ⟨hP, hD⟩ := gk_back hF_42 hB_42 ht_42
              have hP : va_P D vwCl ((xn, .inl (cyI, 10, .inl nf)) :: (xb, .inl (cyI, 36, .inl bf)) :: (xd, .inl (cyI, 40, .inl df)) :: (xa, .inl (cyI, 40, .inl af)) :: (xl, .inl (cyI, 40, .inl lf)) :: (xp, .inl (cyI, 40, .inl pf)) :: (xu, .inl (cyI, 6, .inl uf_39)) :: G) H := hP
              have hD : va_D A ((xn, .inl (cyI, 10, .inl nf)) :: (xb, .inl (cyI, 36, .inl bf)) :: (xd, .inl (cyI, 40, .inl df)) :: (xa, .inl (cyI, 40, .inl af)) :: (xl, .inl (cyI, 40, .inl lf)) :: (xp, .inl (cyI, 40, .inl pf)) :: (xu, .inl (cyI, 6, .inl uf_39)) :: G) := hD
              obtain ⟨-, hv_42⟩ := hw_42
              rw [show gIxn (nI i) = i from nI_clamp (by omega)] at hv_42
              subst hv_42
              refine lv_iload hx hb dL_isBook_156 (lv_at hl 0 rfl) ?_
              refine lv_icmp_ne (tgt := 165) hx hb dL_isBook_158 (by decide) (fun c9 => absurd rfl c9) (fun _ => ?_)
              refine lv_iconst (v := 1) hx hb dL_isBook_161 (by decide) ?_
              refine lv_goto (tgt := 166) hx hb dL_isBook_162 (by decide) ?_
              refine lv_istore (lv' := [(8, .int 1), (11, .int ((gEL (fun l => bud l + mto l - maw l) (fun v => gAcc (fsd (lnf v)) (las (lnf v)) (rfd v) (dya v)) lnf amo orf nv) i)), (10, .int (nI i)), (9, .ref xu), (0, .ref g), (1, .ref xn), (2, .ref xb), (3, .ref xd), (4, .ref xa), (5, .ref xl), (6, .ref xp), (7, .int (nI yy))]) hx hb dL_isBook_166 hl (by decide) rfl (fun ls hl => ?_)
              refine lv_iinc (v := nI (i + 1)) (lv' := [(10, .int (nI (i + 1))), (8, .int 1), (11, .int ((gEL (fun l => bud l + mto l - maw l) (fun v => gAcc (fsd (lnf v)) (las (lnf v)) (rfd v) (dya v)) lnf amo orf nv) i)), (9, .ref xu), (0, .ref g), (1, .ref xn), (2, .ref xb), (3, .ref xd), (4, .ref xa), (5, .ref xl), (6, .ref xp), (7, .int (nI yy))]) hx hb dL_isBook_168 hl (k := 2) rfl (by show nI i + 1 = nI (i + 1); exact nI_1 _) (by decide) rfl (fun ls hl => ?_)
              refine lv_goto (tgt := 89) hx hb dL_isBook_171 (by decide) ?_
              refine W.widen (k := (1 + 2 * (i + 1))) (n := (6 + 12 * (i + 1))) (by omega) (by omega) ?_
              exact ih (i + 1) _ _ _ (by omega) (by omega) (by rw [euf_39] at hP; exact hP) (by rw [euf_39] at hD; exact hD) hS (lv_sub hl [0, 3, 1, 4, 5, 6, 7, 8, 9, 10, 11] rfl)
  refine lv_aload_n hx hb dL_isBook_0 rfl (lv_at hl 0 rfl) ?_
  have hP : va_P D vwCl (([(xn, .inl (cyI, 10, .inl nf)), (xb, .inl (cyI, 36, .inl bf)), (xd, .inl (cyI, 40, .inl df)), (xa, .inl (cyI, 40, .inl af)), (xl, .inl (cyI, 40, .inl lf)), (xp, .inl (cyI, 40, .inl pf))] : va_W) ++ G) s.heap := hP
  have hD : va_D A (([(xn, .inl (cyI, 10, .inl nf)), (xb, .inl (cyI, 36, .inl bf)), (xd, .inl (cyI, 40, .inl df)), (xa, .inl (cyI, 40, .inl af)), (xl, .inl (cyI, 40, .inl lf)), (xp, .inl (cyI, 40, .inl pf))] : va_W) ++ G) := hD
  have hF_43 := gk_all hD hS hA
  refine va_calli (va_runV (As := []) (rest := []) ⟨hx, hb, hml, hown, hts⟩ (kQ_lines l D cyI cyZ cyL cyV cyJ gr sh rt ce nl nv am nc cd bud fsd las isB mto maw lno dya amo rfd ord cpa lnf orf g ([(xn, .inl (cyI, 10, .inl nf)), (xb, .inl (cyI, 36, .inl bf)), (xd, .inl (cyI, 40, .inl df)), (xa, .inl (cyI, 40, .inl af)), (xl, .inl (cyI, 40, .inl lf)), (xp, .inl (cyI, 40, .inl pf))] : va_W) G hG s.heap.size _ rfl) (cwV 0 hts gL_isBook_X2_lines rfl rfl rfl (by decide +kernel) ⟨(Nat.le_of_ble_eq_true rfl), (Nat.le_of_ble_eq_true rfl)⟩) (gk_preV hP hK hD (gQ_recv hG hK hP)) rfl rfl hl.1 rfl (lv_room (Nat.le_of_ble_eq_true rfl)) dL_isBook_1 ⟨(by show _ ≤ (200 : Nat); omega), (by show _ ≤ (1200 : Nat); omega)⟩) hS (fun q _ h => hF_43 q h) hF_43 (fun r_43 u_43 t_43 H locs ht_43 hvm_43 hw_43 hB_43 hz_43 hk_43 hS => ?_)
  obtain ⟨hP, hD⟩ := gk_back hF_43 hB_43 ht_43
  have hP : va_P D vwCl ((xn, .inl (cyI, 10, .inl nf)) :: (xb, .inl (cyI, 36, .inl bf)) :: (xd, .inl (cyI, 40, .inl df)) :: (xa, .inl (cyI, 40, .inl af)) :: (xl, .inl (cyI, 40, .inl lf)) :: (xp, .inl (cyI, 40, .inl pf)) :: G) H := hP
  have hD : va_D A ((xn, .inl (cyI, 10, .inl nf)) :: (xb, .inl (cyI, 36, .inl bf)) :: (xd, .inl (cyI, 40, .inl df)) :: (xa, .inl (cyI, 40, .inl af)) :: (xl, .inl (cyI, 40, .inl lf)) :: (xp, .inl (cyI, 40, .inl pf)) :: G) := hD
  subst hw_43
  refine lv_aload_n hx hb dL_isBook_4 rfl (lv_at hl 1 rfl) ?_
  refine lv_iconst (v := 4) hx hb dL_isBook_5 (by decide) ?_
  refine gk_iald (i := 4) hx hb hK hP 0 0 rfl rfl (by omega) (by decide) dL_isBook_6 ?_
  rw [hn4]
  refine lv_icmp_ne (tgt := 77) hx hb dL_isBook_7 (by decide) (fun c9 => absurd rfl c9) (fun _ => ?_)
  refine lv_aload_n hx hb dL_isBook_10 rfl (lv_at hl 0 rfl) ?_
  have hP : va_P D vwCl (([(xn, .inl (cyI, 10, .inl nf)), (xb, .inl (cyI, 36, .inl bf)), (xd, .inl (cyI, 40, .inl df)), (xa, .inl (cyI, 40, .inl af)), (xl, .inl (cyI, 40, .inl lf)), (xp, .inl (cyI, 40, .inl pf))] : va_W) ++ G) H := hP
  have hD : va_D A (([(xn, .inl (cyI, 10, .inl nf)), (xb, .inl (cyI, 36, .inl bf)), (xd, .inl (cyI, 40, .inl df)), (xa, .inl (cyI, 40, .inl af)), (xl, .inl (cyI, 40, .inl lf)), (xp, .inl (cyI, 40, .inl pf))] : va_W) ++ G) := hD
  have hF_44 := gk_all hD hS hA
  refine va_calli (va_runV (As := []) (rest := []) ⟨hx, hb, hml, hown, hts⟩ (kQ_vouchers l D cyI cyZ cyL cyV cyJ gr sh rt ce nl nv am nc cd bud fsd las isB mto maw lno dya amo rfd ord cpa lnf orf g ([(xn, .inl (cyI, 10, .inl nf)), (xb, .inl (cyI, 36, .inl bf)), (xd, .inl (cyI, 40, .inl df)), (xa, .inl (cyI, 40, .inl af)), (xl, .inl (cyI, 40, .inl lf)), (xp, .inl (cyI, 40, .inl pf))] : va_W) G hG H.size _ rfl) (cwV 0 hts gL_isBook_X2_vouchers rfl rfl rfl (by decide +kernel) ⟨(Nat.le_of_ble_eq_true rfl), (Nat.le_of_ble_eq_true rfl)⟩) (gk_preV hP hK hD (gQ_recv hG hK hP)) rfl rfl hl.1 rfl (lv_room (Nat.le_of_ble_eq_true rfl)) dL_isBook_11 ⟨(by show _ ≤ (200 : Nat); omega), (by show _ ≤ (1200 : Nat); omega)⟩) hS (fun q _ h => hF_44 q h) hF_44 (fun r_44 u_44 t_44 H locs ht_44 hvm_44 hw_44 hB_44 hz_44 hk_44 hS => ?_)
  obtain ⟨hP, hD⟩ := gk_back hF_44 hB_44 ht_44
  have hP : va_P D vwCl ((xn, .inl (cyI, 10, .inl nf)) :: (xb, .inl (cyI, 36, .inl bf)) :: (xd, .inl (cyI, 40, .inl df)) :: (xa, .inl (cyI, 40, .inl af)) :: (xl, .inl (cyI, 40, .inl lf)) :: (xp, .inl (cyI, 40, .inl pf)) :: G) H := hP
  have hD : va_D A ((xn, .inl (cyI, 10, .inl nf)) :: (xb, .inl (cyI, 36, .inl bf)) :: (xd, .inl (cyI, 40, .inl df)) :: (xa, .inl (cyI, 40, .inl af)) :: (xl, .inl (cyI, 40, .inl lf)) :: (xp, .inl (cyI, 40, .inl pf)) :: G) := hD
  subst hw_44
  refine lv_aload_n hx hb dL_isBook_14 rfl (lv_at hl 1 rfl) ?_
  refine lv_iconst (v := 5) hx hb dL_isBook_15 (by decide) ?_
  refine gk_iald (i := 5) hx hb hK hP 0 0 rfl rfl (by omega) (by decide) dL_isBook_16 ?_
  rw [hn5]
  refine lv_icmp_ne (tgt := 77) hx hb dL_isBook_17 (by decide) (fun c9 => absurd rfl c9) (fun _ => ?_)
  refine lv_aload_n hx hb dL_isBook_20 rfl (lv_at hl 0 rfl) ?_
  have hP : va_P D vwCl (([(xn, .inl (cyI, 10, .inl nf)), (xb, .inl (cyI, 36, .inl bf)), (xd, .inl (cyI, 40, .inl df)), (xa, .inl (cyI, 40, .inl af)), (xl, .inl (cyI, 40, .inl lf)), (xp, .inl (cyI, 40, .inl pf))] : va_W) ++ G) H := hP
  have hD : va_D A (([(xn, .inl (cyI, 10, .inl nf)), (xb, .inl (cyI, 36, .inl bf)), (xd, .inl (cyI, 40, .inl df)), (xa, .inl (cyI, 40, .inl af)), (xl, .inl (cyI, 40, .inl lf)), (xp, .inl (cyI, 40, .inl pf))] : va_W) ++ G) := hD
  have hF_45 := gk_all hD hS hA
  refine va_calli (va_runV (As := []) (rest := []) ⟨hx, hb, hml, hown, hts⟩ (kQ_claims l D cyI cyZ cyL cyV cyJ gr sh rt ce nl nv am nc cd bud fsd las isB mto maw lno dya amo rfd ord cpa lnf orf g ([(xn, .inl (cyI, 10, .inl nf)), (xb, .inl (cyI, 36, .inl bf)), (xd, .inl (cyI, 40, .inl df)), (xa, .inl (cyI, 40, .inl af)), (xl, .inl (cyI, 40, .inl lf)), (xp, .inl (cyI, 40, .inl pf))] : va_W) G hG H.size _ rfl) (cwV 0 hts gL_isBook_X2_claims rfl rfl rfl (by decide +kernel) ⟨(Nat.le_of_ble_eq_true rfl), (Nat.le_of_ble_eq_true rfl)⟩) (gk_preV hP hK hD (gQ_recv hG hK hP)) rfl rfl hl.1 rfl (lv_room (Nat.le_of_ble_eq_true rfl)) dL_isBook_21 ⟨(by show _ ≤ (200 : Nat); omega), (by show _ ≤ (1200 : Nat); omega)⟩) hS (fun q _ h => hF_45 q h) hF_45 (fun r_45 u_45 t_45 H locs ht_45 hvm_45 hw_45 hB_45 hz_45 hk_45 hS => ?_)
  obtain ⟨hP, hD⟩ := gk_back hF_45 hB_45 ht_45
  have hP : va_P D vwCl ((xn, .inl (cyI, 10, .inl nf)) :: (xb, .inl (cyI, 36, .inl bf)) :: (xd, .inl (cyI, 40, .inl df)) :: (xa, .inl (cyI, 40, .inl af)) :: (xl, .inl (cyI, 40, .inl lf)) :: (xp, .inl (cyI, 40, .inl pf)) :: G) H := hP
  have hD : va_D A ((xn, .inl (cyI, 10, .inl nf)) :: (xb, .inl (cyI, 36, .inl bf)) :: (xd, .inl (cyI, 40, .inl df)) :: (xa, .inl (cyI, 40, .inl af)) :: (xl, .inl (cyI, 40, .inl lf)) :: (xp, .inl (cyI, 40, .inl pf)) :: G) := hD
  subst hw_45
  refine lv_aload_n hx hb dL_isBook_24 rfl (lv_at hl 1 rfl) ?_
  refine lv_bipush (v := 7) hx hb dL_isBook_25 (by decide) ?_
  refine gk_iald (i := 7) hx hb hK hP 0 0 rfl rfl (by omega) (by decide) dL_isBook_27 ?_
  rw [hn7]
  refine lv_icmp_ne (tgt := 77) hx hb dL_isBook_28 (by decide) (fun c9 => absurd rfl c9) (fun _ => ?_)
  refine lv_aload_n hx hb dL_isBook_31 rfl (lv_at hl 0 rfl) ?_
  have hP : va_P D vwCl (([(xn, .inl (cyI, 10, .inl nf)), (xb, .inl (cyI, 36, .inl bf)), (xd, .inl (cyI, 40, .inl df)), (xa, .inl (cyI, 40, .inl af)), (xl, .inl (cyI, 40, .inl lf)), (xp, .inl (cyI, 40, .inl pf))] : va_W) ++ G) H := hP
  have hD : va_D A (([(xn, .inl (cyI, 10, .inl nf)), (xb, .inl (cyI, 36, .inl bf)), (xd, .inl (cyI, 40, .inl df)), (xa, .inl (cyI, 40, .inl af)), (xl, .inl (cyI, 40, .inl lf)), (xp, .inl (cyI, 40, .inl pf))] : va_W) ++ G) := hD
  have hF_46 := gk_all hD hS hA
  refine va_calli (va_runV (As := []) (rest := []) ⟨hx, hb, hml, hown, hts⟩ (kQ_unsettled l D cyI cyZ cyL cyV cyJ gr sh rt ce nl nv am nc cd bud fsd las isB mto maw lno dya amo rfd ord cpa lnf orf g ([(xn, .inl (cyI, 10, .inl nf)), (xb, .inl (cyI, 36, .inl bf)), (xd, .inl (cyI, 40, .inl df)), (xa, .inl (cyI, 40, .inl af)), (xl, .inl (cyI, 40, .inl lf)), (xp, .inl (cyI, 40, .inl pf))] : va_W) G hG H.size _ rfl) (cwV 0 hts gL_isBook_X2_unsettled rfl rfl rfl (by decide +kernel) ⟨(Nat.le_of_ble_eq_true rfl), (Nat.le_of_ble_eq_true rfl)⟩) (gk_preV hP hK hD (gQ_recv hG hK hP)) rfl rfl hl.1 rfl (lv_room (Nat.le_of_ble_eq_true rfl)) dL_isBook_32 ⟨(by show _ ≤ (200 : Nat); omega), (by show _ ≤ (1200 : Nat); omega)⟩) hS (fun q _ h => hF_46 q h) hF_46 (fun r_46 u_46 t_46 H locs ht_46 hvm_46 hw_46 hB_46 hz_46 hk_46 hS => ?_)
  obtain ⟨hP, hD⟩ := gk_back hF_46 hB_46 ht_46
  have hP : va_P D vwCl ((xn, .inl (cyI, 10, .inl nf)) :: (xb, .inl (cyI, 36, .inl bf)) :: (xd, .inl (cyI, 40, .inl df)) :: (xa, .inl (cyI, 40, .inl af)) :: (xl, .inl (cyI, 40, .inl lf)) :: (xp, .inl (cyI, 40, .inl pf)) :: G) H := hP
  have hD : va_D A ((xn, .inl (cyI, 10, .inl nf)) :: (xb, .inl (cyI, 36, .inl bf)) :: (xd, .inl (cyI, 40, .inl df)) :: (xa, .inl (cyI, 40, .inl af)) :: (xl, .inl (cyI, 40, .inl lf)) :: (xp, .inl (cyI, 40, .inl pf)) :: G) := hD
  refine lv_aload_n hx hb dL_isBook_35 rfl (lv_at hl 1 rfl) ?_
  refine lv_bipush (v := 7) hx hb dL_isBook_36 (by decide) ?_
  refine gk_iald (i := 7) hx hb hK hP 0 0 rfl rfl (by omega) (by decide) dL_isBook_38 ?_
  rw [hn7]
  refine lv_if_ne (tgt := 46) hx hb dL_isBook_39 (by decide) (fun c_47 => ?_) (fun c_47 => ?_)
  · have n_47 : ¬ nc = 0 := pf_neq (a := nc) (b := 0) (by omega) (by omega) c_47
    obtain rfl : r_46 = ((gEt sh am (gUb sh gr (gSm (gCx dya isB (gEL (fun l => bud l + mto l - maw l) (fun v => gAcc (fsd (lnf v)) (las (lnf v)) (rfd v) (dya v)) lnf amo orf nv) lnf cd 0) nv) (gOw rt ce (gSm (gCx dya isB (gEL (fun l => bud l + mto l - maw l) (fun v => gAcc (fsd (lnf v)) (las (lnf v)) (rfd v) (dya v)) lnf amo orf nv) lnf cd 1) nv)))) - (gSm cpa nc)) := hw_46.trans (if_neg c_47)
    refine lv_aload_n hx hb dL_isBook_46 rfl (lv_at hl 1 rfl) ?_
    refine lv_aload_n hx hb dL_isBook_47 rfl (lv_at hl 2 rfl) ?_
    refine lv_aload_n hx hb dL_isBook_48 rfl (lv_at hl 3 rfl) ?_
    refine lv_aload hx hb dL_isBook_49 (lv_at hl 4 rfl) ?_
    refine lv_aload hx hb dL_isBook_51 (lv_at hl 5 rfl) ?_
    refine lv_aload_n hx hb dL_isBook_53 rfl (lv_at hl 1 rfl) ?_
    refine lv_bipush (v := 8) hx hb dL_isBook_54 (by decide) ?_
    refine gk_iald (i := 8) hx hb hK hP 0 0 rfl rfl (by omega) (by decide) dL_isBook_56 ?_
    rw [hn8]
    refine lv_aload_n hx hb dL_isBook_57 rfl (lv_at hl 1 rfl) ?_
    refine lv_bipush (v := 6) hx hb dL_isBook_58 (by decide) ?_
    refine gk_iald (i := 6) hx hb hK hP 0 0 rfl rfl (by omega) (by decide) dL_isBook_60 ?_
    rw [hn6]
    refine lv_i2l hx hb dL_isBook_61 rfl ?_
    have hF_48 := gk_all hD hS hA
    refine va_calli (va_runS (As := [.ref xn, .ref xb, .ref xd, .ref xa, .ref xl, .int cd, .long am.toInt64]) (rest := [.int ((gEt sh am (gUb sh gr (gSm (gCx dya isB (gEL (fun l => bud l + mto l - maw l) (fun v => gAcc (fsd (lnf v)) (las (lnf v)) (rfd v) (dya v)) lnf amo orf nv) lnf cd 0) nv) (gOw rt ce (gSm (gCx dya isB (gEL (fun l => bud l + mto l - maw l) (fun v => gAcc (fsd (lnf v)) (las (lnf v)) (rfd v) (dya v)) lnf amo orf nv) lnf cd 1) nv)))) - (gSm cpa nc))]) ⟨hx, hb, hml, hown, hts⟩ (kL_earned l D cyI cyZ cyL cyV cyJ xn xb xd xa xl nl nv gr sh rt ce bud fsd las isB mto maw dya amo rfd lnf nf bf df af lf ((xp, .inl (cyI, 40, .inl pf)) :: G) hR (gEL (fun l => bud l + mto l - maw l) (fun v => gAcc (fsd (lnf v)) (las (lnf v)) (rfd v) (dya v)) lnf amo orf nv) hel cd am.toInt64 H.size _ rfl) (va_cwS 7 hts gL_isBook_L_earned rfl rfl rfl (by decide +kernel) ⟨(Nat.le_of_ble_eq_true rfl), (Nat.le_of_ble_eq_true rfl)⟩) (gk_preS hP hK hD) rfl rfl hl.1 rfl (lv_room (Nat.le_of_ble_eq_true rfl)) dL_isBook_62 ⟨(by show _ ≤ (200 : Nat); omega), (by show _ ≤ (1200 : Nat); omega)⟩) hS (fun q _ h => hF_48 q h) hF_48 (fun r_48 u_48 t_48 H locs ht_48 hvm_48 hw_48 hB_48 hz_48 hk_48 hS => ?_)
    obtain ⟨hP, hD⟩ := gk_back hF_48 hB_48 ht_48
    obtain rfl : r_48 = (gEt sh am (gUb sh gr (gSm (gCx dya isB (gEL (fun l => bud l + mto l - maw l) (fun v => gAcc (fsd (lnf v)) (las (lnf v)) (rfd v) (dya v)) lnf amo orf nv) lnf cd 0) nv) (gOw rt ce (gSm (gCx dya isB (gEL (fun l => bud l + mto l - maw l) (fun v => gAcc (fsd (lnf v)) (las (lnf v)) (rfd v) (dya v)) lnf amo orf nv) lnf cd 1) nv)))) := hw_48.trans (pG_am hG cd)
    refine lv_aload_n hx hb dL_isBook_65 rfl (lv_at hl 1 rfl) ?_
    refine lv_bipush (v := 9) hx hb dL_isBook_66 (by decide) ?_
    refine gk_iald (i := 9) hx hb hK hP 0 0 rfl rfl (by omega) (by decide) dL_isBook_68 ?_
    rw [hn9]
    refine lv_isub hx hb dL_isBook_69 ?_
    refine lv_icmp_ne (tgt := 77) hx hb dL_isBook_70 (by decide) (fun c9 => absurd rfl c9) (fun _ => ?_)
    refine lv_iconst (v := 1) hx hb dL_isBook_73 (by decide) ?_
    refine lv_goto (tgt := 78) hx hb dL_isBook_74 (by decide) ?_
    refine lv_istore (lv' := [(8, .int 1), (0, .ref g), (1, .ref xn), (2, .ref xb), (3, .ref xd), (4, .ref xa), (5, .ref xl), (6, .ref xp), (7, .int (nI yy))]) hx hb dL_isBook_78 hl (by decide) rfl (fun ls hl => ?_)
    refine lv_bipush (v := 6) hx hb dL_isBook_80 (by decide) ?_
    refine va_newa (atype := .int) hx hb (hts (.arrayClass .int) (List.mem_of_getElem? (i := 1) rfl)) (ty := .int) rfl hK hP hD hS hA (n := 6) (N' := 6) (a0 := (6, .inl (fun _ => 0))) (fun _ => rfl) (by decide) (by decide) (by decide) (Nat.le_of_ble_eq_true rfl) (Nat.le_of_ble_eq_true rfl) dL_isBook_82 (fun xu cA_49 H hK_49 hP hD hS => ?_)
    have hcA_49 : cA_49 = cyI := gRA_eq (hK_49.2 5 _ rfl).2 (hK.2 0 _ rfl).2
    rw [hcA_49] at hP hD
    have hP : va_P D vwCl ((xn, .inl (cyI, 10, .inl nf)) :: (xb, .inl (cyI, 36, .inl bf)) :: (xd, .inl (cyI, 40, .inl df)) :: (xa, .inl (cyI, 40, .inl af)) :: (xl, .inl (cyI, 40, .inl lf)) :: (xp, .inl (cyI, 40, .inl pf)) :: (xu, .inl (cyI, 6, .inl (fun _ => 0))) :: G) H := gk_permP hP (gPn [(xn, .inl (cyI, 10, .inl nf)), (xb, .inl (cyI, 36, .inl bf)), (xd, .inl (cyI, 40, .inl df)), (xa, .inl (cyI, 40, .inl af)), (xl, .inl (cyI, 40, .inl lf)), (xp, .inl (cyI, 40, .inl pf))] G (xu, .inl (cyI, 6, .inl (fun _ => 0))))
    have hD : va_D A ((xn, .inl (cyI, 10, .inl nf)) :: (xb, .inl (cyI, 36, .inl bf)) :: (xd, .inl (cyI, 40, .inl df)) :: (xa, .inl (cyI, 40, .inl af)) :: (xl, .inl (cyI, 40, .inl lf)) :: (xp, .inl (cyI, 40, .inl pf)) :: (xu, .inl (cyI, 6, .inl (fun _ => 0))) :: G) := gk_permD hD (gPn [(xn, .inl (cyI, 10, .inl nf)), (xb, .inl (cyI, 36, .inl bf)), (xd, .inl (cyI, 40, .inl df)), (xa, .inl (cyI, 40, .inl af)), (xl, .inl (cyI, 40, .inl lf)), (xp, .inl (cyI, 40, .inl pf))] G (xu, .inl (cyI, 6, .inl (fun _ => 0))))
    refine lv_astore (lv' := [(9, .ref xu), (8, .int 1), (0, .ref g), (1, .ref xn), (2, .ref xb), (3, .ref xd), (4, .ref xa), (5, .ref xl), (6, .ref xp), (7, .int (nI yy))]) hx hb dL_isBook_84 hl (by decide) rfl (fun ls hl => ?_)
    refine lv_iconst (v := 0) hx hb dL_isBook_86 (by decide) ?_
    refine lv_istore (lv' := [(10, .int 0), (9, .ref xu), (8, .int 1), (0, .ref g), (1, .ref xn), (2, .ref xb), (3, .ref xd), (4, .ref xa), (5, .ref xl), (6, .ref xp), (7, .int (nI yy))]) hx hb dL_isBook_87 hl (by decide) rfl (fun ls hl => ?_)
    refine W.widen (k := (1 + 2 * 0)) (n := (6 + 12 * 0)) (by omega) (by omega) ?_
    exact loop1 xu (nv + 1) 0 _ _ _ (by omega) (by omega) hP hD hS (lv_sub hl [0, 1, 2, 3, 4, 5, 6, 7, 8, 9, 10] rfl)
  · have n_47 : nc = 0 := pf_eq (a := nc) (b := 0) (by omega) (by omega) c_47
    obtain rfl : r_46 = 0 := hw_46.trans (if_pos (c_47))
    refine lv_iconst (v := 0) hx hb dL_isBook_42 (by decide) ?_
    refine lv_goto (tgt := 70) hx hb dL_isBook_43 (by decide) ?_
    refine lv_icmp_ne (tgt := 77) hx hb dL_isBook_70 (by decide) (fun c => by first | exact absurd c (by decide) | exact absurd (by decide) c) (fun _ => ?_)
    refine lv_iconst (v := 1) hx hb dL_isBook_73 (by decide) ?_
    refine lv_goto (tgt := 78) hx hb dL_isBook_74 (by decide) ?_
    refine lv_istore (lv' := [(8, .int 1), (0, .ref g), (1, .ref xn), (2, .ref xb), (3, .ref xd), (4, .ref xa), (5, .ref xl), (6, .ref xp), (7, .int (nI yy))]) hx hb dL_isBook_78 hl (by decide) rfl (fun ls hl => ?_)
    refine lv_bipush (v := 6) hx hb dL_isBook_80 (by decide) ?_
    refine va_newa (atype := .int) hx hb (hts (.arrayClass .int) (List.mem_of_getElem? (i := 1) rfl)) (ty := .int) rfl hK hP hD hS hA (n := 6) (N' := 6) (a0 := (6, .inl (fun _ => 0))) (fun _ => rfl) (by decide) (by decide) (by decide) (Nat.le_of_ble_eq_true rfl) (Nat.le_of_ble_eq_true rfl) dL_isBook_82 (fun xu cA_51 H hK_51 hP hD hS => ?_)
    have hcA_51 : cA_51 = cyI := gRA_eq (hK_51.2 5 _ rfl).2 (hK.2 0 _ rfl).2
    rw [hcA_51] at hP hD
    have hP : va_P D vwCl ((xn, .inl (cyI, 10, .inl nf)) :: (xb, .inl (cyI, 36, .inl bf)) :: (xd, .inl (cyI, 40, .inl df)) :: (xa, .inl (cyI, 40, .inl af)) :: (xl, .inl (cyI, 40, .inl lf)) :: (xp, .inl (cyI, 40, .inl pf)) :: (xu, .inl (cyI, 6, .inl (fun _ => 0))) :: G) H := gk_permP hP (gPn [(xn, .inl (cyI, 10, .inl nf)), (xb, .inl (cyI, 36, .inl bf)), (xd, .inl (cyI, 40, .inl df)), (xa, .inl (cyI, 40, .inl af)), (xl, .inl (cyI, 40, .inl lf)), (xp, .inl (cyI, 40, .inl pf))] G (xu, .inl (cyI, 6, .inl (fun _ => 0))))
    have hD : va_D A ((xn, .inl (cyI, 10, .inl nf)) :: (xb, .inl (cyI, 36, .inl bf)) :: (xd, .inl (cyI, 40, .inl df)) :: (xa, .inl (cyI, 40, .inl af)) :: (xl, .inl (cyI, 40, .inl lf)) :: (xp, .inl (cyI, 40, .inl pf)) :: (xu, .inl (cyI, 6, .inl (fun _ => 0))) :: G) := gk_permD hD (gPn [(xn, .inl (cyI, 10, .inl nf)), (xb, .inl (cyI, 36, .inl bf)), (xd, .inl (cyI, 40, .inl df)), (xa, .inl (cyI, 40, .inl af)), (xl, .inl (cyI, 40, .inl lf)), (xp, .inl (cyI, 40, .inl pf))] G (xu, .inl (cyI, 6, .inl (fun _ => 0))))
    refine lv_astore (lv' := [(9, .ref xu), (8, .int 1), (0, .ref g), (1, .ref xn), (2, .ref xb), (3, .ref xd), (4, .ref xa), (5, .ref xl), (6, .ref xp), (7, .int (nI yy))]) hx hb dL_isBook_84 hl (by decide) rfl (fun ls hl => ?_)
    refine lv_iconst (v := 0) hx hb dL_isBook_86 (by decide) ?_
    refine lv_istore (lv' := [(10, .int 0), (9, .ref xu), (8, .int 1), (0, .ref g), (1, .ref xn), (2, .ref xb), (3, .ref xd), (4, .ref xa), (5, .ref xl), (6, .ref xp), (7, .int (nI yy))]) hx hb dL_isBook_87 hl (by decide) rfl (fun ls hl => ?_)
    refine W.widen (k := (1 + 2 * 0)) (n := (6 + 12 * 0)) (by omega) (by omega) ?_
    exact loop1 xu (nv + 1) 0 _ _ _ (by omega) (by omega) hP hD hS (lv_sub hl [0, 1, 2, 3, 4, 5, 6, 7, 8, 9, 10] rfl)
