set_option maxHeartbeats 4000000 in
set_option maxRecDepth 100000 in
theorem kL_does_move (l : Launch) (hst : l.stackTraces = false) (D : va_G) (cyI cyZ cyL cyV cyJ : ClassId) (gr sh rt ce : Int32) (nl nv : Nat) (am : Int32) (nc : Nat) (cd : Int32) (bud fsd las isB mto maw lno dya amo rfd ord cpa : Nat → Int32) (lnf orf : Nat → Nat) (g : Nat) (Yf G : va_W) (hG : gGP cyI cyL cyV gr sh rt ce nl nv am nc cd bud fsd las isB mto maw lno dya amo rfd ord cpa lnf orf g G) (k0 k1 p2 : Int32) (hni : ¬ cMove nl bud maw k0 k1 p2 = 1) (sz : Nat) (A : Nat → Prop) (hAe : va_A ((Yf ++ G)) sz = A) : Met l yL_does wsL_does ({ frames := 8, cells := 4, slots := 24, locals := 129 }) (va_Pc [.ref g, .int 0, .int k0, .int k1, .int p2] (gPreN D (gTy cyI cyZ cyL cyV cyJ) ((Yf ++ G)) sz)) (va_Qi (fun (r : Int32) (u : va_W) => (cMove nl bud maw k0 k1 p2 = 0 ∧ r = bud (gIxn k0) + va_up mto (gIxn k1) (mto (gIxn k1) + p2) (gIxn k0) - va_up maw (gIxn k0) (maw (gIxn k0) + p2) (gIxn k0) ∧ gGP cyI cyL cyV gr sh rt ce nl nv am nc cd bud fsd las isB (va_up mto (gIxn k1) (mto (gIxn k1) + p2)) (va_up maw (gIxn k0) (maw (gIxn k0) + p2)) lno dya amo rfd ord cpa lnf orf g u) ∨ (cMove nl bud maw k0 k1 p2 = 2 ∧ r = (-2000000012) ∧ gGP cyI cyL cyV gr sh rt ce nl nv am nc cd bud fsd las isB mto maw lno dya amo rfd ord cpa lnf orf g u) ∨ (cMove nl bud maw k0 k1 p2 = 3 ∧ r = (-2000000013) ∧ gGP cyI cyL cyV gr sh rt ce nl nv am nc cd bud fsd las isB mto maw lno dya amo rfd ord cpa lnf orf g u)) (fun (u : va_W) t => gPost D (gTy cyI cyZ cyL cyV cyJ) A (Yf ++ u) t) A) 4 24 A := by
  refine va_MetW (cc := cL_does) (maxL := 6) (ret := (some .int)) (by decide) rfl ?_
  intro p e s m args below meth c s₁ B hml hv
  obtain ⟨rfl, hNC, hTF, hsz, hP, hK, hD0⟩ := hv
  have hx := B.exec
  have hb := B.bytes
  have hr := B.returns
  have hts := atoms_spec (ws := wsL_does) B.pre
  have hown : s.vm.findClass RL = some m.cls := findClass_of_methodNamed B.named
  have hlocks := B.notSynchronized
  subst hsz
  have hD := hD0.self (sz := s.heap.size)
  rw [hAe] at hD hTF
  have hA : ∀ q : Nat, s.heap.size ≤ q → A q := fun q h => by rw [← hAe]; exact Or.inr h
  have hS : va_S A s.heap s.heap [] := va_S.rf
  have hP : va_P D vwCl (Yf ++ G) s.heap := hP
  have hl := lv_entry ([.ref g, .int 0, .int k0, .int k1, .int p2]) (n := 6) (Nat.le_of_ble_eq_true rfl)
  rw [lg_entry_eq]
  generalize (lg_sl ([.ref g, .int 0, .int k0, .int k1, .int p2]) ++ List.replicate (6 - (lg_sl ([.ref g, .int 0, .int k0, .int k1, .int p2])).length) Slot.unset).toArray = ls at hl ⊢
  have hl : lv_has ls 6 [(0, .ref g), (1, .int 0), (2, .int k0), (3, .int k1), (4, .int p2)] := hl
  have htb : c.exceptionTable.toList = tableOf [(0, 73, 74, 53), (0, 73, 79, 56)] := vx_table (x := yL_does) B (hts _ List.mem_cons_self)
  refine lv_iload_n hx hb dL_does_0 rfl (lv_at hl 1 rfl) ?_
  refine lv_if_ne (tgt := 15) hx hb dL_does_1 (by decide) (fun c => by first | exact absurd c (by decide) | exact absurd (by decide) c) (fun _ => ?_)
  refine lv_aload_n hx hb dL_does_4 rfl (lv_at hl 0 rfl) ?_
  refine lv_iload_n hx hb dL_does_5 rfl (lv_at hl 2 rfl) ?_
  refine lv_iload_n hx hb dL_does_6 rfl (lv_at hl 3 rfl) ?_
  refine lv_iload hx hb dL_does_7 (lv_at hl 4 rfl) ?_
  have hF_2 := gk_all hD hS hA
  refine vx_calli (vx_runV (As := [.int k0, .int k1, .int p2]) (rest := []) ⟨hx, hb, hml, hown, hts⟩ (kQ_move l hst D cyI cyZ cyL cyV cyJ gr sh rt ce nl nv am nc cd bud fsd las isB mto maw lno dya amo rfd ord cpa lnf orf g Yf G hG k0 k1 p2 s.heap.size _ rfl) (cwV 3 hts gL_does_X2_move rfl rfl rfl (by decide +kernel) ⟨(Nat.le_of_ble_eq_true rfl), (Nat.le_of_ble_eq_true rfl)⟩) (gk_preVT hTF hS hF_2 hP hK hD (gQ_recv hG hK hP)) rfl rfl hl.1 rfl (lv_room (Nat.le_of_ble_eq_true rfl)) dL_does_9 ⟨(Nat.le_of_ble_eq_true rfl), (Nat.le_of_ble_eq_true rfl)⟩) hS (fun q _ h => hF_2 q h) hF_2 (fun q _ h => hF_2 q h) (fun E_2 ce_2 q_2 u_2 t_2 H locs ht_2 hvm_2 hpx_2 hBX_2 hz_2 hk_2 hS hce_2 hcv_2 hcl_2 => ?_) (fun r_2 u_2 t_2 H locs ht_2 hvm_2 hw_2 hB_2 hz_2 hk_2 hS => ?_)
  · obtain ⟨rfl, hB_2⟩ := hBX_2
    obtain ⟨hP, hD⟩ := gk_back hF_2 hB_2 ht_2
    rcases hpx_2 with ⟨rfl, hc⟩ | ⟨rfl, hc⟩ | ⟨rfl, hc⟩
    · exact absurd hc hni
    · refine vx_catch hown [] ⟨0, 73, 74, 53⟩ [⟨0, 73, 79, 56⟩] htb (fun z hz => absurd hz List.not_mem_nil) rfl (by decide) (hts (.classLink RL 53 "java/lang/IllegalArgumentException") (List.mem_of_getElem? (i := 1) rfl)) (va_Nw.use rfl (hTF.2.2.1 (.castable "java/lang/IllegalArgumentException" "java/lang/IllegalArgumentException") (by decide +kernel))) hce_2 hcv_2 hcl_2 ?_
      refine lv_astore (lv' := [(5, .ref q_2), (0, .ref g), (1, .int 0), (2, .int k0), (3, .int k1), (4, .int p2)]) hx hb dL_does_74 hl (by decide) rfl (fun ls hl => ?_)
      refine lv_ldc hx hb hown (hts (.constant RL 55 (-2000000012)) (List.mem_of_getElem? (i := 3) rfl)) dL_does_76 ?_
      refine W.widen (k := 4) (n := 24) (Nat.le_of_ble_eq_true rfl) (Nat.le_of_ble_eq_true rfl) ?_
      exact W.iret (v := (-2000000012)) hx hb hr (fun t ht hW => ⟨⟨(-2000000012), G, rfl, (Or.inr (Or.inl ⟨hc, rfl, hG⟩)), by rw [ht]; exact hP, va_K.moved hW.alike hK, hD⟩, hS.F ht⟩) hS.2.2 dL_does_78
    · refine vx_catch hown [⟨0, 73, 74, 53⟩] ⟨0, 73, 79, 56⟩ [] htb (List.forall_mem_cons.mpr ⟨Or.inr ⟨by decide, _, (hts (.classLink RL 53 "java/lang/IllegalArgumentException") (List.mem_of_getElem? (i := 1) rfl)), hNC.1⟩, (fun z hz => absurd hz List.not_mem_nil)⟩) rfl (by decide) (hts (.classLink RL 56 "java/lang/IllegalStateException") (List.mem_of_getElem? (i := 2) rfl)) (va_Nw.use rfl (hTF.2.2.1 (.castable "java/lang/IllegalStateException" "java/lang/IllegalStateException") (by decide +kernel))) hce_2 hcv_2 hcl_2 ?_
      refine lv_astore (lv' := [(5, .ref q_2), (0, .ref g), (1, .int 0), (2, .int k0), (3, .int k1), (4, .int p2)]) hx hb dL_does_79 hl (by decide) rfl (fun ls hl => ?_)
      refine lv_ldc hx hb hown (hts (.constant RL 58 (-2000000013)) (List.mem_of_getElem? (i := 4) rfl)) dL_does_81 ?_
      refine W.widen (k := 4) (n := 24) (Nat.le_of_ble_eq_true rfl) (Nat.le_of_ble_eq_true rfl) ?_
      exact W.iret (v := (-2000000013)) hx hb hr (fun t ht hW => ⟨⟨(-2000000013), G, rfl, (Or.inr (Or.inr ⟨hc, rfl, hG⟩)), by rw [ht]; exact hP, va_K.moved hW.alike hK, hD⟩, hS.F ht⟩) hS.2.2 dL_does_83
  · obtain ⟨hP, hD⟩ := gk_back hF_2 hB_2 ht_2
    refine lv_goto (tgt := 73) hx hb dL_does_12 (by decide) ?_
    refine W.widen (k := 4) (n := 24) (Nat.le_of_ble_eq_true rfl) (Nat.le_of_ble_eq_true rfl) ?_
    exact W.iret (v := r_2) hx hb hr (fun t ht hW => ⟨⟨r_2, u_2, rfl, (Or.inl hw_2), by rw [ht]; exact hP, va_K.moved hW.alike hK, hD⟩, hS.F ht⟩) hS.2.2 dL_does_73
set_option maxHeartbeats 4000000 in
set_option maxRecDepth 100000 in
theorem kL_does_refuse (l : Launch) (hst : l.stackTraces = false) (D : va_G) (cyI cyZ cyL cyV cyJ : ClassId) (gr sh rt ce : Int32) (nl nv : Nat) (am : Int32) (nc : Nat) (cd : Int32) (bud fsd las isB mto maw lno dya amo rfd ord cpa : Nat → Int32) (lnf orf : Nat → Nat) (g : Nat) (Yf G : va_W) (hG : gGP cyI cyL cyV gr sh rt ce nl nv am nc cd bud fsd las isB mto maw lno dya amo rfd ord cpa lnf orf g G) (k0 w1 w2 : Int32) (hni : ¬ cMark nv rfd k0 1 = 1) (sz : Nat) (A : Nat → Prop) (hAe : va_A ((Yf ++ G)) sz = A) : Met l yL_does wsL_does ({ frames := 8, cells := 2, slots := 12, locals := 126 }) (va_Pc [.ref g, .int 1, .int k0, .int w1, .int w2] (gPreN D (gTy cyI cyZ cyL cyV cyJ) ((Yf ++ G)) sz)) (va_Qi (fun (r : Int32) (u : va_W) => (cMark nv rfd k0 1 = 0 ∧ r = (gSm (gEL (fun l => bud l + mto l - maw l) (fun v => gAcc (fsd (lnf v)) (las (lnf v)) (rfd v) (dya v)) lnf amo orf nv) nv) - (gSm (gEL (fun l => bud l + mto l - maw l) (fun v => gAcc (fsd (lnf v)) (las (lnf v)) (va_up rfd (gIxn k0) 1 v) (dya v)) lnf amo orf nv) nv) ∧ gGP cyI cyL cyV gr sh rt ce nl nv am nc cd bud fsd las isB mto maw lno dya amo (va_up rfd (gIxn k0) 1) ord cpa lnf orf g u) ∨ (cMark nv rfd k0 1 = 2 ∧ r = (-2000000013) ∧ gGP cyI cyL cyV gr sh rt ce nl nv am nc cd bud fsd las isB mto maw lno dya amo rfd ord cpa lnf orf g u)) (fun (u : va_W) t => gPost D (gTy cyI cyZ cyL cyV cyJ) A (Yf ++ u) t) A) 2 12 A := by
  refine va_MetW (cc := cL_does) (maxL := 6) (ret := (some .int)) (by decide) rfl ?_
  intro p e s m args below meth c s₁ B hml hv
  obtain ⟨rfl, hNC, hTF, hsz, hP, hK, hD0⟩ := hv
  have hx := B.exec
  have hb := B.bytes
  have hr := B.returns
  have hts := atoms_spec (ws := wsL_does) B.pre
  have hown : s.vm.findClass RL = some m.cls := findClass_of_methodNamed B.named
  have hlocks := B.notSynchronized
  subst hsz
  have hD := hD0.self (sz := s.heap.size)
  rw [hAe] at hD hTF
  have hA : ∀ q : Nat, s.heap.size ≤ q → A q := fun q h => by rw [← hAe]; exact Or.inr h
  have hS : va_S A s.heap s.heap [] := va_S.rf
  have hP : va_P D vwCl (Yf ++ G) s.heap := hP
  have hl := lv_entry ([.ref g, .int 1, .int k0, .int w1, .int w2]) (n := 6) (Nat.le_of_ble_eq_true rfl)
  rw [lg_entry_eq]
  generalize (lg_sl ([.ref g, .int 1, .int k0, .int w1, .int w2]) ++ List.replicate (6 - (lg_sl ([.ref g, .int 1, .int k0, .int w1, .int w2])).length) Slot.unset).toArray = ls at hl ⊢
  have hl : lv_has ls 6 [(0, .ref g), (1, .int 1), (2, .int k0), (3, .int w1), (4, .int w2)] := hl
  have htb : c.exceptionTable.toList = tableOf [(0, 73, 74, 53), (0, 73, 79, 56)] := vx_table (x := yL_does) B (hts _ List.mem_cons_self)
  refine lv_iload_n hx hb dL_does_0 rfl (lv_at hl 1 rfl) ?_
  refine lv_if_ne (tgt := 15) hx hb dL_does_1 (by decide) (fun _ => ?_) (fun c => by first | exact absurd c (by decide) | exact absurd (by decide) c)
  refine lv_iload_n hx hb dL_does_15 rfl (lv_at hl 1 rfl) ?_
  refine lv_iconst (v := 1) hx hb dL_does_16 (by decide) ?_
  refine lv_icmp_ne (tgt := 28) hx hb dL_does_17 (by decide) (fun c => by first | exact absurd c (by decide) | exact absurd (by decide) c) (fun _ => ?_)
  refine lv_aload_n hx hb dL_does_20 rfl (lv_at hl 0 rfl) ?_
  refine lv_iload_n hx hb dL_does_21 rfl (lv_at hl 2 rfl) ?_
  have hF_3 := gk_all hD hS hA
  refine vx_calli (vx_runV (As := [.int k0]) (rest := []) ⟨hx, hb, hml, hown, hts⟩ (kQ_refuse l hst D cyI cyZ cyL cyV cyJ gr sh rt ce nl nv am nc cd bud fsd las isB mto maw lno dya amo rfd ord cpa lnf orf g Yf G hG k0 s.heap.size _ rfl) (cwV 1 hts gL_does_X2_refuse rfl rfl rfl (by decide +kernel) ⟨(Nat.le_of_ble_eq_true rfl), (Nat.le_of_ble_eq_true rfl)⟩) (gk_preVT hTF hS hF_3 hP hK hD (gQ_recv hG hK hP)) rfl rfl hl.1 rfl (lv_room (Nat.le_of_ble_eq_true rfl)) dL_does_22 ⟨(Nat.le_of_ble_eq_true rfl), (Nat.le_of_ble_eq_true rfl)⟩) hS (fun q _ h => hF_3 q h) hF_3 (fun q _ h => hF_3 q h) (fun E_3 ce_3 q_3 u_3 t_3 H locs ht_3 hvm_3 hpx_3 hBX_3 hz_3 hk_3 hS hce_3 hcv_3 hcl_3 => ?_) (fun r_3 u_3 t_3 H locs ht_3 hvm_3 hw_3 hB_3 hz_3 hk_3 hS => ?_)
  · obtain ⟨rfl, hB_3⟩ := hBX_3
    obtain ⟨hP, hD⟩ := gk_back hF_3 hB_3 ht_3
    rcases hpx_3 with ⟨rfl, hc⟩ | ⟨rfl, hc⟩
    · exact absurd hc hni
    · refine vx_catch hown [⟨0, 73, 74, 53⟩] ⟨0, 73, 79, 56⟩ [] htb (List.forall_mem_cons.mpr ⟨Or.inr ⟨by decide, _, (hts (.classLink RL 53 "java/lang/IllegalArgumentException") (List.mem_of_getElem? (i := 1) rfl)), hNC.1⟩, (fun z hz => absurd hz List.not_mem_nil)⟩) rfl (by decide) (hts (.classLink RL 56 "java/lang/IllegalStateException") (List.mem_of_getElem? (i := 2) rfl)) (va_Nw.use rfl (hTF.2.2.1 (.castable "java/lang/IllegalStateException" "java/lang/IllegalStateException") (by decide +kernel))) hce_3 hcv_3 hcl_3 ?_
      refine lv_astore (lv' := [(5, .ref q_3), (0, .ref g), (1, .int 1), (2, .int k0), (3, .int w1), (4, .int w2)]) hx hb dL_does_79 hl (by decide) rfl (fun ls hl => ?_)
      refine lv_ldc hx hb hown (hts (.constant RL 58 (-2000000013)) (List.mem_of_getElem? (i := 4) rfl)) dL_does_81 ?_
      refine W.widen (k := 2) (n := 12) (Nat.le_of_ble_eq_true rfl) (Nat.le_of_ble_eq_true rfl) ?_
      exact W.iret (v := (-2000000013)) hx hb hr (fun t ht hW => ⟨⟨(-2000000013), G, rfl, (Or.inr ⟨hc, rfl, hG⟩), by rw [ht]; exact hP, va_K.moved hW.alike hK, hD⟩, hS.F ht⟩) hS.2.2 dL_does_83
  · obtain ⟨hP, hD⟩ := gk_back hF_3 hB_3 ht_3
    refine lv_goto (tgt := 73) hx hb dL_does_25 (by decide) ?_
    refine W.widen (k := 2) (n := 12) (Nat.le_of_ble_eq_true rfl) (Nat.le_of_ble_eq_true rfl) ?_
    exact W.iret (v := r_3) hx hb hr (fun t ht hW => ⟨⟨r_3, u_3, rfl, (Or.inl hw_3), by rw [ht]; exact hP, va_K.moved hW.alike hK, hD⟩, hS.F ht⟩) hS.2.2 dL_does_73
set_option maxHeartbeats 4000000 in
set_option maxRecDepth 100000 in
theorem kL_does_admit (l : Launch) (hst : l.stackTraces = false) (D : va_G) (cyI cyZ cyL cyV cyJ : ClassId) (gr sh rt ce : Int32) (nl nv : Nat) (am : Int32) (nc : Nat) (cd : Int32) (bud fsd las isB mto maw lno dya amo rfd ord cpa : Nat → Int32) (lnf orf : Nat → Nat) (g : Nat) (Yf G : va_W) (hG : gGP cyI cyL cyV gr sh rt ce nl nv am nc cd bud fsd las isB mto maw lno dya amo rfd ord cpa lnf orf g G) (k0 w1 w2 : Int32) (hni : ¬ cMark nv rfd k0 0 = 1) (sz : Nat) (A : Nat → Prop) (hAe : va_A ((Yf ++ G)) sz = A) : Met l yL_does wsL_does ({ frames := 8, cells := 2, slots := 12, locals := 126 }) (va_Pc [.ref g, .int 2, .int k0, .int w1, .int w2] (gPreN D (gTy cyI cyZ cyL cyV cyJ) ((Yf ++ G)) sz)) (va_Qi (fun (r : Int32) (u : va_W) => (cMark nv rfd k0 0 = 0 ∧ r = -((gSm (gEL (fun l => bud l + mto l - maw l) (fun v => gAcc (fsd (lnf v)) (las (lnf v)) (rfd v) (dya v)) lnf amo orf nv) nv) - (gSm (gEL (fun l => bud l + mto l - maw l) (fun v => gAcc (fsd (lnf v)) (las (lnf v)) (va_up rfd (gIxn k0) 0 v) (dya v)) lnf amo orf nv) nv)) ∧ gGP cyI cyL cyV gr sh rt ce nl nv am nc cd bud fsd las isB mto maw lno dya amo (va_up rfd (gIxn k0) 0) ord cpa lnf orf g u) ∨ (cMark nv rfd k0 0 = 2 ∧ r = (-2000000013) ∧ gGP cyI cyL cyV gr sh rt ce nl nv am nc cd bud fsd las isB mto maw lno dya amo rfd ord cpa lnf orf g u)) (fun (u : va_W) t => gPost D (gTy cyI cyZ cyL cyV cyJ) A (Yf ++ u) t) A) 2 12 A := by
  refine va_MetW (cc := cL_does) (maxL := 6) (ret := (some .int)) (by decide) rfl ?_
  intro p e s m args below meth c s₁ B hml hv
  obtain ⟨rfl, hNC, hTF, hsz, hP, hK, hD0⟩ := hv
  have hx := B.exec
  have hb := B.bytes
  have hr := B.returns
  have hts := atoms_spec (ws := wsL_does) B.pre
  have hown : s.vm.findClass RL = some m.cls := findClass_of_methodNamed B.named
  have hlocks := B.notSynchronized
  subst hsz
  have hD := hD0.self (sz := s.heap.size)
  rw [hAe] at hD hTF
  have hA : ∀ q : Nat, s.heap.size ≤ q → A q := fun q h => by rw [← hAe]; exact Or.inr h
  have hS : va_S A s.heap s.heap [] := va_S.rf
  have hP : va_P D vwCl (Yf ++ G) s.heap := hP
  have hl := lv_entry ([.ref g, .int 2, .int k0, .int w1, .int w2]) (n := 6) (Nat.le_of_ble_eq_true rfl)
  rw [lg_entry_eq]
  generalize (lg_sl ([.ref g, .int 2, .int k0, .int w1, .int w2]) ++ List.replicate (6 - (lg_sl ([.ref g, .int 2, .int k0, .int w1, .int w2])).length) Slot.unset).toArray = ls at hl ⊢
  have hl : lv_has ls 6 [(0, .ref g), (1, .int 2), (2, .int k0), (3, .int w1), (4, .int w2)] := hl
  have htb : c.exceptionTable.toList = tableOf [(0, 73, 74, 53), (0, 73, 79, 56)] := vx_table (x := yL_does) B (hts _ List.mem_cons_self)
  refine lv_iload_n hx hb dL_does_0 rfl (lv_at hl 1 rfl) ?_
  refine lv_if_ne (tgt := 15) hx hb dL_does_1 (by decide) (fun _ => ?_) (fun c => by first | exact absurd c (by decide) | exact absurd (by decide) c)
  refine lv_iload_n hx hb dL_does_15 rfl (lv_at hl 1 rfl) ?_
  refine lv_iconst (v := 1) hx hb dL_does_16 (by decide) ?_
  refine lv_icmp_ne (tgt := 28) hx hb dL_does_17 (by decide) (fun _ => ?_) (fun c => by first | exact absurd c (by decide) | exact absurd (by decide) c)
  refine lv_iload_n hx hb dL_does_28 rfl (lv_at hl 1 rfl) ?_
  refine lv_iconst (v := 2) hx hb dL_does_29 (by decide) ?_
  refine lv_icmp_ne (tgt := 41) hx hb dL_does_30 (by decide) (fun c => by first | exact absurd c (by decide) | exact absurd (by decide) c) (fun _ => ?_)
  refine lv_aload_n hx hb dL_does_33 rfl (lv_at hl 0 rfl) ?_
  refine lv_iload_n hx hb dL_does_34 rfl (lv_at hl 2 rfl) ?_
  have hF_4 := gk_all hD hS hA
  refine vx_calli (vx_runV (As := [.int k0]) (rest := []) ⟨hx, hb, hml, hown, hts⟩ (kQ_admit l hst D cyI cyZ cyL cyV cyJ gr sh rt ce nl nv am nc cd bud fsd las isB mto maw lno dya amo rfd ord cpa lnf orf g Yf G hG k0 s.heap.size _ rfl) (cwV 1 hts gL_does_X2_admit rfl rfl rfl (by decide +kernel) ⟨(Nat.le_of_ble_eq_true rfl), (Nat.le_of_ble_eq_true rfl)⟩) (gk_preVT hTF hS hF_4 hP hK hD (gQ_recv hG hK hP)) rfl rfl hl.1 rfl (lv_room (Nat.le_of_ble_eq_true rfl)) dL_does_35 ⟨(Nat.le_of_ble_eq_true rfl), (Nat.le_of_ble_eq_true rfl)⟩) hS (fun q _ h => hF_4 q h) hF_4 (fun q _ h => hF_4 q h) (fun E_4 ce_4 q_4 u_4 t_4 H locs ht_4 hvm_4 hpx_4 hBX_4 hz_4 hk_4 hS hce_4 hcv_4 hcl_4 => ?_) (fun r_4 u_4 t_4 H locs ht_4 hvm_4 hw_4 hB_4 hz_4 hk_4 hS => ?_)
  · obtain ⟨rfl, hB_4⟩ := hBX_4
    obtain ⟨hP, hD⟩ := gk_back hF_4 hB_4 ht_4
    rcases hpx_4 with ⟨rfl, hc⟩ | ⟨rfl, hc⟩
    · exact absurd hc hni
    · refine vx_catch hown [⟨0, 73, 74, 53⟩] ⟨0, 73, 79, 56⟩ [] htb (List.forall_mem_cons.mpr ⟨Or.inr ⟨by decide, _, (hts (.classLink RL 53 "java/lang/IllegalArgumentException") (List.mem_of_getElem? (i := 1) rfl)), hNC.1⟩, (fun z hz => absurd hz List.not_mem_nil)⟩) rfl (by decide) (hts (.classLink RL 56 "java/lang/IllegalStateException") (List.mem_of_getElem? (i := 2) rfl)) (va_Nw.use rfl (hTF.2.2.1 (.castable "java/lang/IllegalStateException" "java/lang/IllegalStateException") (by decide +kernel))) hce_4 hcv_4 hcl_4 ?_
      refine lv_astore (lv' := [(5, .ref q_4), (0, .ref g), (1, .int 2), (2, .int k0), (3, .int w1), (4, .int w2)]) hx hb dL_does_79 hl (by decide) rfl (fun ls hl => ?_)
      refine lv_ldc hx hb hown (hts (.constant RL 58 (-2000000013)) (List.mem_of_getElem? (i := 4) rfl)) dL_does_81 ?_
      refine W.widen (k := 2) (n := 12) (Nat.le_of_ble_eq_true rfl) (Nat.le_of_ble_eq_true rfl) ?_
      exact W.iret (v := (-2000000013)) hx hb hr (fun t ht hW => ⟨⟨(-2000000013), G, rfl, (Or.inr ⟨hc, rfl, hG⟩), by rw [ht]; exact hP, va_K.moved hW.alike hK, hD⟩, hS.F ht⟩) hS.2.2 dL_does_83
  · obtain ⟨hP, hD⟩ := gk_back hF_4 hB_4 ht_4
    refine lv_goto (tgt := 73) hx hb dL_does_38 (by decide) ?_
    refine W.widen (k := 2) (n := 12) (Nat.le_of_ble_eq_true rfl) (Nat.le_of_ble_eq_true rfl) ?_
    exact W.iret (v := r_4) hx hb hr (fun t ht hW => ⟨⟨r_4, u_4, rfl, (Or.inl hw_4), by rw [ht]; exact hP, va_K.moved hW.alike hK, hD⟩, hS.F ht⟩) hS.2.2 dL_does_73
set_option maxHeartbeats 4000000 in
set_option maxRecDepth 100000 in
theorem kL_does_match (l : Launch) (hst : l.stackTraces = false) (D : va_G) (cyI cyZ cyL cyV cyJ : ClassId) (gr sh rt ce : Int32) (nl nv : Nat) (am : Int32) (nc : Nat) (cd : Int32) (bud fsd las isB mto maw lno dya amo rfd ord cpa : Nat → Int32) (lnf orf : Nat → Nat) (g : Nat) (Yf G : va_W) (hG : gGP cyI cyL cyV gr sh rt ce nl nv am nc cd bud fsd las isB mto maw lno dya amo rfd ord cpa lnf orf g G) (p0 w1 w2 : Int32) (sz : Nat) (A : Nat → Prop) (hAe : va_A ((Yf ++ G)) sz = A) : Met l yL_does wsL_does ({ frames := 8, cells := 2, slots := 12, locals := 125 }) (va_Pc [.ref g, .int 3, .int p0, .int w1, .int w2] (gPreN D (gTy cyI cyZ cyL cyV cyJ) ((Yf ++ G)) sz)) (va_Qi (fun (r : Int32) (u : va_W) => (cMatch am p0 = 0 ∧ r = am + p0 ∧ gGP cyI cyL cyV gr sh rt ce nl nv (am + p0) nc cd bud fsd las isB mto maw lno dya amo rfd ord cpa lnf orf g u) ∨ (cMatch am p0 = 1 ∧ r = (-2000000012) ∧ gGP cyI cyL cyV gr sh rt ce nl nv am nc cd bud fsd las isB mto maw lno dya amo rfd ord cpa lnf orf g u) ∨ (cMatch am p0 = 2 ∧ r = (-2000000013) ∧ gGP cyI cyL cyV gr sh rt ce nl nv am nc cd bud fsd las isB mto maw lno dya amo rfd ord cpa lnf orf g u)) (fun (u : va_W) t => gPost D (gTy cyI cyZ cyL cyV cyJ) A (Yf ++ u) t) A) 2 12 A := by
  refine va_MetW (cc := cL_does) (maxL := 6) (ret := (some .int)) (by decide) rfl ?_
  intro p e s m args below meth c s₁ B hml hv
  obtain ⟨rfl, hNC, hTF, hsz, hP, hK, hD0⟩ := hv
  have hx := B.exec
  have hb := B.bytes
  have hr := B.returns
  have hts := atoms_spec (ws := wsL_does) B.pre
  have hown : s.vm.findClass RL = some m.cls := findClass_of_methodNamed B.named
  have hlocks := B.notSynchronized
  subst hsz
  have hD := hD0.self (sz := s.heap.size)
  rw [hAe] at hD hTF
  have hA : ∀ q : Nat, s.heap.size ≤ q → A q := fun q h => by rw [← hAe]; exact Or.inr h
  have hS : va_S A s.heap s.heap [] := va_S.rf
  have hP : va_P D vwCl (Yf ++ G) s.heap := hP
  have hl := lv_entry ([.ref g, .int 3, .int p0, .int w1, .int w2]) (n := 6) (Nat.le_of_ble_eq_true rfl)
  rw [lg_entry_eq]
  generalize (lg_sl ([.ref g, .int 3, .int p0, .int w1, .int w2]) ++ List.replicate (6 - (lg_sl ([.ref g, .int 3, .int p0, .int w1, .int w2])).length) Slot.unset).toArray = ls at hl ⊢
  have hl : lv_has ls 6 [(0, .ref g), (1, .int 3), (2, .int p0), (3, .int w1), (4, .int w2)] := hl
  have htb : c.exceptionTable.toList = tableOf [(0, 73, 74, 53), (0, 73, 79, 56)] := vx_table (x := yL_does) B (hts _ List.mem_cons_self)
  refine lv_iload_n hx hb dL_does_0 rfl (lv_at hl 1 rfl) ?_
  refine lv_if_ne (tgt := 15) hx hb dL_does_1 (by decide) (fun _ => ?_) (fun c => by first | exact absurd c (by decide) | exact absurd (by decide) c)
  refine lv_iload_n hx hb dL_does_15 rfl (lv_at hl 1 rfl) ?_
  refine lv_iconst (v := 1) hx hb dL_does_16 (by decide) ?_
  refine lv_icmp_ne (tgt := 28) hx hb dL_does_17 (by decide) (fun _ => ?_) (fun c => by first | exact absurd c (by decide) | exact absurd (by decide) c)
  refine lv_iload_n hx hb dL_does_28 rfl (lv_at hl 1 rfl) ?_
  refine lv_iconst (v := 2) hx hb dL_does_29 (by decide) ?_
  refine lv_icmp_ne (tgt := 41) hx hb dL_does_30 (by decide) (fun _ => ?_) (fun c => by first | exact absurd c (by decide) | exact absurd (by decide) c)
  refine lv_iload_n hx hb dL_does_41 rfl (lv_at hl 1 rfl) ?_
  refine lv_iconst (v := 3) hx hb dL_does_42 (by decide) ?_
  refine lv_icmp_ne (tgt := 54) hx hb dL_does_43 (by decide) (fun c => by first | exact absurd c (by decide) | exact absurd (by decide) c) (fun _ => ?_)
  refine lv_aload_n hx hb dL_does_46 rfl (lv_at hl 0 rfl) ?_
  refine lv_iload_n hx hb dL_does_47 rfl (lv_at hl 2 rfl) ?_
  have hF_5 := gk_all hD hS hA
  refine vx_calli (vx_runV (As := [.int p0]) (rest := []) ⟨hx, hb, hml, hown, hts⟩ (kQ_match l hst D cyI cyZ cyL cyV cyJ gr sh rt ce nl nv am nc cd bud fsd las isB mto maw lno dya amo rfd ord cpa lnf orf g Yf G hG p0 s.heap.size _ rfl) (cwV 1 hts gL_does_X2_match rfl rfl rfl (by decide +kernel) ⟨(Nat.le_of_ble_eq_true rfl), (Nat.le_of_ble_eq_true rfl)⟩) (gk_preVT hTF hS hF_5 hP hK hD (gQ_recv hG hK hP)) rfl rfl hl.1 rfl (lv_room (Nat.le_of_ble_eq_true rfl)) dL_does_48 ⟨(Nat.le_of_ble_eq_true rfl), (Nat.le_of_ble_eq_true rfl)⟩) hS (fun q _ h => hF_5 q h) hF_5 (fun q _ h => hF_5 q h) (fun E_5 ce_5 q_5 u_5 t_5 H locs ht_5 hvm_5 hpx_5 hBX_5 hz_5 hk_5 hS hce_5 hcv_5 hcl_5 => ?_) (fun r_5 u_5 t_5 H locs ht_5 hvm_5 hw_5 hB_5 hz_5 hk_5 hS => ?_)
  · obtain ⟨rfl, hB_5⟩ := hBX_5
    obtain ⟨hP, hD⟩ := gk_back hF_5 hB_5 ht_5
    rcases hpx_5 with ⟨rfl, hc⟩ | ⟨rfl, hc⟩
    · refine vx_catch hown [] ⟨0, 73, 74, 53⟩ [⟨0, 73, 79, 56⟩] htb (fun z hz => absurd hz List.not_mem_nil) rfl (by decide) (hts (.classLink RL 53 "java/lang/IllegalArgumentException") (List.mem_of_getElem? (i := 1) rfl)) (va_Nw.use rfl (hTF.2.2.1 (.castable "java/lang/IllegalArgumentException" "java/lang/IllegalArgumentException") (by decide +kernel))) hce_5 hcv_5 hcl_5 ?_
      refine lv_astore (lv' := [(5, .ref q_5), (0, .ref g), (1, .int 3), (2, .int p0), (3, .int w1), (4, .int w2)]) hx hb dL_does_74 hl (by decide) rfl (fun ls hl => ?_)
      refine lv_ldc hx hb hown (hts (.constant RL 55 (-2000000012)) (List.mem_of_getElem? (i := 3) rfl)) dL_does_76 ?_
      refine W.widen (k := 2) (n := 12) (Nat.le_of_ble_eq_true rfl) (Nat.le_of_ble_eq_true rfl) ?_
      exact W.iret (v := (-2000000012)) hx hb hr (fun t ht hW => ⟨⟨(-2000000012), G, rfl, (Or.inr (Or.inl ⟨hc, rfl, hG⟩)), by rw [ht]; exact hP, va_K.moved hW.alike hK, hD⟩, hS.F ht⟩) hS.2.2 dL_does_78
    · refine vx_catch hown [⟨0, 73, 74, 53⟩] ⟨0, 73, 79, 56⟩ [] htb (List.forall_mem_cons.mpr ⟨Or.inr ⟨by decide, _, (hts (.classLink RL 53 "java/lang/IllegalArgumentException") (List.mem_of_getElem? (i := 1) rfl)), hNC.1⟩, (fun z hz => absurd hz List.not_mem_nil)⟩) rfl (by decide) (hts (.classLink RL 56 "java/lang/IllegalStateException") (List.mem_of_getElem? (i := 2) rfl)) (va_Nw.use rfl (hTF.2.2.1 (.castable "java/lang/IllegalStateException" "java/lang/IllegalStateException") (by decide +kernel))) hce_5 hcv_5 hcl_5 ?_
      refine lv_astore (lv' := [(5, .ref q_5), (0, .ref g), (1, .int 3), (2, .int p0), (3, .int w1), (4, .int w2)]) hx hb dL_does_79 hl (by decide) rfl (fun ls hl => ?_)
      refine lv_ldc hx hb hown (hts (.constant RL 58 (-2000000013)) (List.mem_of_getElem? (i := 4) rfl)) dL_does_81 ?_
      refine W.widen (k := 2) (n := 12) (Nat.le_of_ble_eq_true rfl) (Nat.le_of_ble_eq_true rfl) ?_
      exact W.iret (v := (-2000000013)) hx hb hr (fun t ht hW => ⟨⟨(-2000000013), G, rfl, (Or.inr (Or.inr ⟨hc, rfl, hG⟩)), by rw [ht]; exact hP, va_K.moved hW.alike hK, hD⟩, hS.F ht⟩) hS.2.2 dL_does_83
  · obtain ⟨hP, hD⟩ := gk_back hF_5 hB_5 ht_5
    refine lv_goto (tgt := 73) hx hb dL_does_51 (by decide) ?_
    refine W.widen (k := 2) (n := 12) (Nat.le_of_ble_eq_true rfl) (Nat.le_of_ble_eq_true rfl) ?_
    exact W.iret (v := r_5) hx hb hr (fun t ht hW => ⟨⟨r_5, u_5, rfl, (Or.inl hw_5), by rw [ht]; exact hP, va_K.moved hW.alike hK, hD⟩, hS.F ht⟩) hS.2.2 dL_does_73
set_option maxHeartbeats 4000000 in
set_option maxRecDepth 100000 in
theorem kL_does_claim (l : Launch) (hst : l.stackTraces = false) (D : va_G) (cyI cyZ cyL cyV cyJ : ClassId) (gr sh rt ce : Int32) (nl nv : Nat) (am : Int32) (nc : Nat) (cd : Int32) (bud fsd las isB mto maw lno dya amo rfd ord cpa : Nat → Int32) (lnf orf : Nat → Nat) (g : Nat) (Yf G : va_W) (hG : gGP cyI cyL cyV gr sh rt ce nl nv am nc cd bud fsd las isB mto maw lno dya amo rfd ord cpa lnf orf g G) (d0 w1 w2 : Int32) (sz : Nat) (A : Nat → Prop) (hAe : va_A ((Yf ++ G)) sz = A) : Met l yL_does wsL_does ({ frames := 8, cells := 2, slots := 12, locals := 143 }) (va_Pc [.ref g, .int 4, .int d0, .int w1, .int w2] (gPreN D (gTy cyI cyZ cyL cyV cyJ) ((Yf ++ G)) sz)) (va_Qi (fun (r : Int32) (u : va_W) => (cClaim cd nc d0 = 0 ∧ r = ((gEt sh am (gUb sh gr (gSm (gCx dya isB (gEL (fun l => bud l + mto l - maw l) (fun v => gAcc (fsd (lnf v)) (las (lnf v)) (rfd v) (dya v)) lnf amo orf nv) lnf d0 0) nv) (gOw rt ce (gSm (gCx dya isB (gEL (fun l => bud l + mto l - maw l) (fun v => gAcc (fsd (lnf v)) (las (lnf v)) (rfd v) (dya v)) lnf amo orf nv) lnf d0 1) nv)))) - gSm cpa nc) ∧ gGP cyI cyL cyV gr sh rt ce nl nv am (nc + 1) d0 bud fsd las isB mto maw lno dya amo rfd ord (va_up cpa nc ((gEt sh am (gUb sh gr (gSm (gCx dya isB (gEL (fun l => bud l + mto l - maw l) (fun v => gAcc (fsd (lnf v)) (las (lnf v)) (rfd v) (dya v)) lnf amo orf nv) lnf d0 0) nv) (gOw rt ce (gSm (gCx dya isB (gEL (fun l => bud l + mto l - maw l) (fun v => gAcc (fsd (lnf v)) (las (lnf v)) (rfd v) (dya v)) lnf amo orf nv) lnf d0 1) nv)))) - gSm cpa nc)) lnf orf g u) ∨ (cClaim cd nc d0 = 1 ∧ r = (-2000000012) ∧ gGP cyI cyL cyV gr sh rt ce nl nv am nc cd bud fsd las isB mto maw lno dya amo rfd ord cpa lnf orf g u) ∨ (cClaim cd nc d0 = 2 ∧ r = (-2000000013) ∧ gGP cyI cyL cyV gr sh rt ce nl nv am nc cd bud fsd las isB mto maw lno dya amo rfd ord cpa lnf orf g u)) (fun (u : va_W) t => gPost D (gTy cyI cyZ cyL cyV cyJ) A (Yf ++ u) t) A) 2 12 A := by
  refine va_MetW (cc := cL_does) (maxL := 6) (ret := (some .int)) (by decide) rfl ?_
  intro p e s m args below meth c s₁ B hml hv
  obtain ⟨rfl, hNC, hTF, hsz, hP, hK, hD0⟩ := hv
  have hx := B.exec
  have hb := B.bytes
  have hr := B.returns
  have hts := atoms_spec (ws := wsL_does) B.pre
  have hown : s.vm.findClass RL = some m.cls := findClass_of_methodNamed B.named
  have hlocks := B.notSynchronized
  subst hsz
  have hD := hD0.self (sz := s.heap.size)
  rw [hAe] at hD hTF
  have hA : ∀ q : Nat, s.heap.size ≤ q → A q := fun q h => by rw [← hAe]; exact Or.inr h
  have hS : va_S A s.heap s.heap [] := va_S.rf
  have hP : va_P D vwCl (Yf ++ G) s.heap := hP
  have hl := lv_entry ([.ref g, .int 4, .int d0, .int w1, .int w2]) (n := 6) (Nat.le_of_ble_eq_true rfl)
  rw [lg_entry_eq]
  generalize (lg_sl ([.ref g, .int 4, .int d0, .int w1, .int w2]) ++ List.replicate (6 - (lg_sl ([.ref g, .int 4, .int d0, .int w1, .int w2])).length) Slot.unset).toArray = ls at hl ⊢
  have hl : lv_has ls 6 [(0, .ref g), (1, .int 4), (2, .int d0), (3, .int w1), (4, .int w2)] := hl
  have htb : c.exceptionTable.toList = tableOf [(0, 73, 74, 53), (0, 73, 79, 56)] := vx_table (x := yL_does) B (hts _ List.mem_cons_self)
  refine lv_iload_n hx hb dL_does_0 rfl (lv_at hl 1 rfl) ?_
  refine lv_if_ne (tgt := 15) hx hb dL_does_1 (by decide) (fun _ => ?_) (fun c => by first | exact absurd c (by decide) | exact absurd (by decide) c)
  refine lv_iload_n hx hb dL_does_15 rfl (lv_at hl 1 rfl) ?_
  refine lv_iconst (v := 1) hx hb dL_does_16 (by decide) ?_
  refine lv_icmp_ne (tgt := 28) hx hb dL_does_17 (by decide) (fun _ => ?_) (fun c => by first | exact absurd c (by decide) | exact absurd (by decide) c)
  refine lv_iload_n hx hb dL_does_28 rfl (lv_at hl 1 rfl) ?_
  refine lv_iconst (v := 2) hx hb dL_does_29 (by decide) ?_
  refine lv_icmp_ne (tgt := 41) hx hb dL_does_30 (by decide) (fun _ => ?_) (fun c => by first | exact absurd c (by decide) | exact absurd (by decide) c)
  refine lv_iload_n hx hb dL_does_41 rfl (lv_at hl 1 rfl) ?_
  refine lv_iconst (v := 3) hx hb dL_does_42 (by decide) ?_
  refine lv_icmp_ne (tgt := 54) hx hb dL_does_43 (by decide) (fun _ => ?_) (fun c => by first | exact absurd c (by decide) | exact absurd (by decide) c)
  refine lv_iload_n hx hb dL_does_54 rfl (lv_at hl 1 rfl) ?_
  refine lv_iconst (v := 4) hx hb dL_does_55 (by decide) ?_
  refine lv_icmp_ne (tgt := 67) hx hb dL_does_56 (by decide) (fun c => by first | exact absurd c (by decide) | exact absurd (by decide) c) (fun _ => ?_)
  refine lv_aload_n hx hb dL_does_59 rfl (lv_at hl 0 rfl) ?_
  refine lv_iload_n hx hb dL_does_60 rfl (lv_at hl 2 rfl) ?_
  have hF_6 := gk_all hD hS hA
  refine vx_calli (vx_runV (As := [.int d0]) (rest := []) ⟨hx, hb, hml, hown, hts⟩ (kQ_claim l hst D cyI cyZ cyL cyV cyJ gr sh rt ce nl nv am nc cd bud fsd las isB mto maw lno dya amo rfd ord cpa lnf orf g Yf G hG d0 s.heap.size _ rfl) (cwV 1 hts gL_does_X2_claim rfl rfl rfl (by decide +kernel) ⟨(Nat.le_of_ble_eq_true rfl), (Nat.le_of_ble_eq_true rfl)⟩) (gk_preVT hTF hS hF_6 hP hK hD (gQ_recv hG hK hP)) rfl rfl hl.1 rfl (lv_room (Nat.le_of_ble_eq_true rfl)) dL_does_61 ⟨(Nat.le_of_ble_eq_true rfl), (Nat.le_of_ble_eq_true rfl)⟩) hS (fun q _ h => hF_6 q h) hF_6 (fun q _ h => hF_6 q h) (fun E_6 ce_6 q_6 u_6 t_6 H locs ht_6 hvm_6 hpx_6 hBX_6 hz_6 hk_6 hS hce_6 hcv_6 hcl_6 => ?_) (fun r_6 u_6 t_6 H locs ht_6 hvm_6 hw_6 hB_6 hz_6 hk_6 hS => ?_)
  · obtain ⟨rfl, hB_6⟩ := hBX_6
    obtain ⟨hP, hD⟩ := gk_back hF_6 hB_6 ht_6
    rcases hpx_6 with ⟨rfl, hc⟩ | ⟨rfl, hc⟩
    · refine vx_catch hown [] ⟨0, 73, 74, 53⟩ [⟨0, 73, 79, 56⟩] htb (fun z hz => absurd hz List.not_mem_nil) rfl (by decide) (hts (.classLink RL 53 "java/lang/IllegalArgumentException") (List.mem_of_getElem? (i := 1) rfl)) (va_Nw.use rfl (hTF.2.2.1 (.castable "java/lang/IllegalArgumentException" "java/lang/IllegalArgumentException") (by decide +kernel))) hce_6 hcv_6 hcl_6 ?_
      refine lv_astore (lv' := [(5, .ref q_6), (0, .ref g), (1, .int 4), (2, .int d0), (3, .int w1), (4, .int w2)]) hx hb dL_does_74 hl (by decide) rfl (fun ls hl => ?_)
      refine lv_ldc hx hb hown (hts (.constant RL 55 (-2000000012)) (List.mem_of_getElem? (i := 3) rfl)) dL_does_76 ?_
      refine W.widen (k := 2) (n := 12) (Nat.le_of_ble_eq_true rfl) (Nat.le_of_ble_eq_true rfl) ?_
      exact W.iret (v := (-2000000012)) hx hb hr (fun t ht hW => ⟨⟨(-2000000012), G, rfl, (Or.inr (Or.inl ⟨hc, rfl, hG⟩)), by rw [ht]; exact hP, va_K.moved hW.alike hK, hD⟩, hS.F ht⟩) hS.2.2 dL_does_78
    · refine vx_catch hown [⟨0, 73, 74, 53⟩] ⟨0, 73, 79, 56⟩ [] htb (List.forall_mem_cons.mpr ⟨Or.inr ⟨by decide, _, (hts (.classLink RL 53 "java/lang/IllegalArgumentException") (List.mem_of_getElem? (i := 1) rfl)), hNC.1⟩, (fun z hz => absurd hz List.not_mem_nil)⟩) rfl (by decide) (hts (.classLink RL 56 "java/lang/IllegalStateException") (List.mem_of_getElem? (i := 2) rfl)) (va_Nw.use rfl (hTF.2.2.1 (.castable "java/lang/IllegalStateException" "java/lang/IllegalStateException") (by decide +kernel))) hce_6 hcv_6 hcl_6 ?_
      refine lv_astore (lv' := [(5, .ref q_6), (0, .ref g), (1, .int 4), (2, .int d0), (3, .int w1), (4, .int w2)]) hx hb dL_does_79 hl (by decide) rfl (fun ls hl => ?_)
      refine lv_ldc hx hb hown (hts (.constant RL 58 (-2000000013)) (List.mem_of_getElem? (i := 4) rfl)) dL_does_81 ?_
      refine W.widen (k := 2) (n := 12) (Nat.le_of_ble_eq_true rfl) (Nat.le_of_ble_eq_true rfl) ?_
      exact W.iret (v := (-2000000013)) hx hb hr (fun t ht hW => ⟨⟨(-2000000013), G, rfl, (Or.inr (Or.inr ⟨hc, rfl, hG⟩)), by rw [ht]; exact hP, va_K.moved hW.alike hK, hD⟩, hS.F ht⟩) hS.2.2 dL_does_83
  · obtain ⟨hP, hD⟩ := gk_back hF_6 hB_6 ht_6
    refine lv_goto (tgt := 73) hx hb dL_does_64 (by decide) ?_
    refine W.widen (k := 2) (n := 12) (Nat.le_of_ble_eq_true rfl) (Nat.le_of_ble_eq_true rfl) ?_
    exact W.iret (v := r_6) hx hb hr (fun t ht hW => ⟨⟨r_6, u_6, rfl, (Or.inl hw_6), by rw [ht]; exact hP, va_K.moved hW.alike hK, hD⟩, hS.F ht⟩) hS.2.2 dL_does_73
set_option maxHeartbeats 4000000 in
set_option maxRecDepth 100000 in
theorem kL_does_extend (l : Launch) (hst : l.stackTraces = false) (D : va_G) (cyI cyZ cyL cyV cyJ : ClassId) (gr sh rt ce : Int32) (nl nv : Nat) (am : Int32) (nc : Nat) (cd : Int32) (bud fsd las isB mto maw lno dya amo rfd ord cpa : Nat → Int32) (lnf orf : Nat → Nat) (g : Nat) (Yf G : va_W) (hG : gGP cyI cyL cyV gr sh rt ce nl nv am nc cd bud fsd las isB mto maw lno dya amo rfd ord cpa lnf orf g G) (k0 p1 w2 : Int32) (hni : ¬ cExtend nl las k0 p1 = 1) (sz : Nat) (A : Nat → Prop) (hAe : va_A ((Yf ++ G)) sz = A) : Met l yL_does wsL_does ({ frames := 8, cells := 2, slots := 12, locals := 128 }) (va_Pc [.ref g, .int 5, .int k0, .int p1, .int w2] (gPreN D (gTy cyI cyZ cyL cyV cyJ) ((Yf ++ G)) sz)) (va_Qi (fun (r : Int32) (u : va_W) => (cExtend nl las k0 p1 = 0 ∧ r = las (gIxn k0) ∧ gGP cyI cyL cyV gr sh rt ce nl nv am nc cd bud fsd (va_up las (gIxn k0) p1) isB mto maw lno dya amo rfd ord cpa lnf orf g u) ∨ (cExtend nl las k0 p1 = 2 ∧ r = (-2000000012) ∧ gGP cyI cyL cyV gr sh rt ce nl nv am nc cd bud fsd las isB mto maw lno dya amo rfd ord cpa lnf orf g u)) (fun (u : va_W) t => gPost D (gTy cyI cyZ cyL cyV cyJ) A (Yf ++ u) t) A) 2 12 A := by
  refine va_MetW (cc := cL_does) (maxL := 6) (ret := (some .int)) (by decide) rfl ?_
  intro p e s m args below meth c s₁ B hml hv
  obtain ⟨rfl, hNC, hTF, hsz, hP, hK, hD0⟩ := hv
  have hx := B.exec
  have hb := B.bytes
  have hr := B.returns
  have hts := atoms_spec (ws := wsL_does) B.pre
  have hown : s.vm.findClass RL = some m.cls := findClass_of_methodNamed B.named
  have hlocks := B.notSynchronized
  subst hsz
  have hD := hD0.self (sz := s.heap.size)
  rw [hAe] at hD hTF
  have hA : ∀ q : Nat, s.heap.size ≤ q → A q := fun q h => by rw [← hAe]; exact Or.inr h
  have hS : va_S A s.heap s.heap [] := va_S.rf
  have hP : va_P D vwCl (Yf ++ G) s.heap := hP
  have hl := lv_entry ([.ref g, .int 5, .int k0, .int p1, .int w2]) (n := 6) (Nat.le_of_ble_eq_true rfl)
  rw [lg_entry_eq]
  generalize (lg_sl ([.ref g, .int 5, .int k0, .int p1, .int w2]) ++ List.replicate (6 - (lg_sl ([.ref g, .int 5, .int k0, .int p1, .int w2])).length) Slot.unset).toArray = ls at hl ⊢
  have hl : lv_has ls 6 [(0, .ref g), (1, .int 5), (2, .int k0), (3, .int p1), (4, .int w2)] := hl
  have htb : c.exceptionTable.toList = tableOf [(0, 73, 74, 53), (0, 73, 79, 56)] := vx_table (x := yL_does) B (hts _ List.mem_cons_self)
  refine lv_iload_n hx hb dL_does_0 rfl (lv_at hl 1 rfl) ?_
  refine lv_if_ne (tgt := 15) hx hb dL_does_1 (by decide) (fun _ => ?_) (fun c => by first | exact absurd c (by decide) | exact absurd (by decide) c)
  refine lv_iload_n hx hb dL_does_15 rfl (lv_at hl 1 rfl) ?_
  refine lv_iconst (v := 1) hx hb dL_does_16 (by decide) ?_
  refine lv_icmp_ne (tgt := 28) hx hb dL_does_17 (by decide) (fun _ => ?_) (fun c => by first | exact absurd c (by decide) | exact absurd (by decide) c)
  refine lv_iload_n hx hb dL_does_28 rfl (lv_at hl 1 rfl) ?_
  refine lv_iconst (v := 2) hx hb dL_does_29 (by decide) ?_
  refine lv_icmp_ne (tgt := 41) hx hb dL_does_30 (by decide) (fun _ => ?_) (fun c => by first | exact absurd c (by decide) | exact absurd (by decide) c)
  refine lv_iload_n hx hb dL_does_41 rfl (lv_at hl 1 rfl) ?_
  refine lv_iconst (v := 3) hx hb dL_does_42 (by decide) ?_
  refine lv_icmp_ne (tgt := 54) hx hb dL_does_43 (by decide) (fun _ => ?_) (fun c => by first | exact absurd c (by decide) | exact absurd (by decide) c)
  refine lv_iload_n hx hb dL_does_54 rfl (lv_at hl 1 rfl) ?_
  refine lv_iconst (v := 4) hx hb dL_does_55 (by decide) ?_
  refine lv_icmp_ne (tgt := 67) hx hb dL_does_56 (by decide) (fun _ => ?_) (fun c => by first | exact absurd c (by decide) | exact absurd (by decide) c)
  refine lv_aload_n hx hb dL_does_67 rfl (lv_at hl 0 rfl) ?_
  refine lv_iload_n hx hb dL_does_68 rfl (lv_at hl 2 rfl) ?_
  refine lv_iload_n hx hb dL_does_69 rfl (lv_at hl 3 rfl) ?_
  have hF_6 := gk_all hD hS hA
  refine vx_calli (vx_runV (As := [.int k0, .int p1]) (rest := []) ⟨hx, hb, hml, hown, hts⟩ (kQ_extend l hst D cyI cyZ cyL cyV cyJ gr sh rt ce nl nv am nc cd bud fsd las isB mto maw lno dya amo rfd ord cpa lnf orf g Yf G hG k0 p1 s.heap.size _ rfl) (cwV 2 hts gL_does_X2_extend rfl rfl rfl (by decide +kernel) ⟨(Nat.le_of_ble_eq_true rfl), (Nat.le_of_ble_eq_true rfl)⟩) (gk_preVT hTF hS hF_6 hP hK hD (gQ_recv hG hK hP)) rfl rfl hl.1 rfl (lv_room (Nat.le_of_ble_eq_true rfl)) dL_does_70 ⟨(Nat.le_of_ble_eq_true rfl), (Nat.le_of_ble_eq_true rfl)⟩) hS (fun q _ h => hF_6 q h) hF_6 (fun q _ h => hF_6 q h) (fun E_6 ce_6 q_6 u_6 t_6 H locs ht_6 hvm_6 hpx_6 hBX_6 hz_6 hk_6 hS hce_6 hcv_6 hcl_6 => ?_) (fun r_6 u_6 t_6 H locs ht_6 hvm_6 hw_6 hB_6 hz_6 hk_6 hS => ?_)
  · obtain ⟨rfl, hB_6⟩ := hBX_6
    obtain ⟨hP, hD⟩ := gk_back hF_6 hB_6 ht_6
    rcases hpx_6 with ⟨rfl, hc⟩ | ⟨rfl, hc⟩
    · exact absurd hc hni
    · refine vx_catch hown [] ⟨0, 73, 74, 53⟩ [⟨0, 73, 79, 56⟩] htb (fun z hz => absurd hz List.not_mem_nil) rfl (by decide) (hts (.classLink RL 53 "java/lang/IllegalArgumentException") (List.mem_of_getElem? (i := 1) rfl)) (va_Nw.use rfl (hTF.2.2.1 (.castable "java/lang/IllegalArgumentException" "java/lang/IllegalArgumentException") (by decide +kernel))) hce_6 hcv_6 hcl_6 ?_
      refine lv_astore (lv' := [(5, .ref q_6), (0, .ref g), (1, .int 5), (2, .int k0), (3, .int p1), (4, .int w2)]) hx hb dL_does_74 hl (by decide) rfl (fun ls hl => ?_)
      refine lv_ldc hx hb hown (hts (.constant RL 55 (-2000000012)) (List.mem_of_getElem? (i := 3) rfl)) dL_does_76 ?_
      refine W.widen (k := 2) (n := 12) (Nat.le_of_ble_eq_true rfl) (Nat.le_of_ble_eq_true rfl) ?_
      exact W.iret (v := (-2000000012)) hx hb hr (fun t ht hW => ⟨⟨(-2000000012), G, rfl, (Or.inr ⟨hc, rfl, hG⟩), by rw [ht]; exact hP, va_K.moved hW.alike hK, hD⟩, hS.F ht⟩) hS.2.2 dL_does_78
  · obtain ⟨hP, hD⟩ := gk_back hF_6 hB_6 ht_6
    refine W.widen (k := 2) (n := 12) (Nat.le_of_ble_eq_true rfl) (Nat.le_of_ble_eq_true rfl) ?_
    exact W.iret (v := r_6) hx hb hr (fun t ht hW => ⟨⟨r_6, u_6, rfl, (Or.inl hw_6), by rw [ht]; exact hP, va_K.moved hW.alike hK, hD⟩, hS.F ht⟩) hS.2.2 dL_does_73
set_option maxHeartbeats 4000000 in
set_option maxRecDepth 100000 in
theorem kL_isSet (l : Launch) (hst : l.stackTraces = false) (D : va_G) (cyI cyZ cyL cyV cyJ : ClassId) (gr sh rt ce : Int32) (nl nv : Nat) (am : Int32) (nc : Nat) (cd : Int32) (bud fsd las isB mto maw lno dya amo rfd ord cpa : Nat → Int32) (lnf orf : Nat → Nat) (g : Nat) (Yf G : va_W) (hG : gGP cyI cyL cyV gr sh rt ce nl nv am nc cd bud fsd las isB mto maw lno dya amo rfd ord cpa lnf orf g G) (p0 p1 p2 p3 : Int32) (hni : ¬ cSetGrant nc p0 p1 p2 p3 = 1) (sz : Nat) (A : Nat → Prop) (hAe : va_A ((Yf ++ G)) sz = A) : Met l yL_isSet wsL_isSet ({ frames := 8, cells := 5, slots := 30, locals := 128 }) (va_Pc [.ref g, .int p0, .int p1, .int p2, .int p3] (gPreN D (gTy cyI cyZ cyL cyV cyJ) ((Yf ++ G)) sz)) (va_Qi (fun (r : Int32) (u : va_W) => (cSetGrant nc p0 p1 p2 p3 = 0 ∧ r = 1 ∧ gGP cyI cyL cyV p0 p1 p2 p3 nl nv am nc cd bud fsd las isB mto maw lno dya amo rfd ord cpa lnf orf g u) ∨ (cSetGrant nc p0 p1 p2 p3 = 2 ∧ r = 0 ∧ gGP cyI cyL cyV gr sh rt ce nl nv am nc cd bud fsd las isB mto maw lno dya amo rfd ord cpa lnf orf g u)) (fun (u : va_W) t => gPost D (gTy cyI cyZ cyL cyV cyJ) A (Yf ++ u) t) A) 5 30 A := by
  refine va_MetW (cc := cL_isSet) (maxL := 6) (ret := (some .boolean)) (by decide) rfl ?_
  intro p e s m args below meth c s₁ B hml hv
  obtain ⟨rfl, hNC, hTF, hsz, hP, hK, hD0⟩ := hv
  have hx := B.exec
  have hb := B.bytes
  have hr := B.returns
  have hts := atoms_spec (ws := wsL_isSet) B.pre
  have hown : s.vm.findClass RL = some m.cls := findClass_of_methodNamed B.named
  have hlocks := B.notSynchronized
  subst hsz
  have hD := hD0.self (sz := s.heap.size)
  rw [hAe] at hD hTF
  have hA : ∀ q : Nat, s.heap.size ≤ q → A q := fun q h => by rw [← hAe]; exact Or.inr h
  have hS : va_S A s.heap s.heap [] := va_S.rf
  have hP : va_P D vwCl (Yf ++ G) s.heap := hP
  have hl := lv_entry ([.ref g, .int p0, .int p1, .int p2, .int p3]) (n := 6) (Nat.le_of_ble_eq_true rfl)
  rw [lg_entry_eq]
  generalize (lg_sl ([.ref g, .int p0, .int p1, .int p2, .int p3]) ++ List.replicate (6 - (lg_sl ([.ref g, .int p0, .int p1, .int p2, .int p3])).length) Slot.unset).toArray = ls at hl ⊢
  have hl : lv_has ls 6 [(0, .ref g), (1, .int p0), (2, .int p1), (3, .int p2), (4, .int p3)] := hl
  have htb : c.exceptionTable.toList = tableOf [(0, 10, 11, 56)] := vx_table (x := yL_isSet) B (hts _ List.mem_cons_self)
  refine lv_aload_n hx hb dL_isSet_0 rfl (lv_at hl 0 rfl) ?_
  refine lv_iload_n hx hb dL_isSet_1 rfl (lv_at hl 1 rfl) ?_
  refine lv_iload_n hx hb dL_isSet_2 rfl (lv_at hl 2 rfl) ?_
  refine lv_iload_n hx hb dL_isSet_3 rfl (lv_at hl 3 rfl) ?_
  refine lv_iload hx hb dL_isSet_4 (lv_at hl 4 rfl) ?_
  have hF_1 := gk_all hD hS hA
  refine vx_callv (vx_runV (As := [.int p0, .int p1, .int p2, .int p3]) (rest := []) ⟨hx, hb, hml, hown, hts⟩ (kQ_setGrant l hst D cyI cyZ cyL cyV cyJ gr sh rt ce nl nv am nc cd bud fsd las isB mto maw lno dya amo rfd ord cpa lnf orf g Yf G hG p0 p1 p2 p3 s.heap.size _ rfl) (cwV 4 hts gL_isSet_X2_setGrant rfl rfl rfl (by decide +kernel) ⟨(Nat.le_of_ble_eq_true rfl), (Nat.le_of_ble_eq_true rfl)⟩) (gk_preVT hTF hS hF_1 hP hK hD (gQ_recv hG hK hP)) rfl rfl hl.1 rfl (lv_room (Nat.le_of_ble_eq_true rfl)) dL_isSet_6 ⟨(Nat.le_of_ble_eq_true rfl), (Nat.le_of_ble_eq_true rfl)⟩) hS (fun q _ h => hF_1 q h) hF_1 (fun q _ h => hF_1 q h) (fun E_1 ce_1 q_1 u_1 t_1 H locs ht_1 hvm_1 hpx_1 hBX_1 hz_1 hk_1 hS hce_1 hcv_1 hcl_1 => ?_) (fun u_1 t_1 H locs ht_1 hvm_1 hw_1 hB_1 hz_1 hk_1 hS => ?_)
  · obtain ⟨rfl, hB_1⟩ := hBX_1
    obtain ⟨hP, hD⟩ := gk_back hF_1 hB_1 ht_1
    rcases hpx_1 with ⟨rfl, hc⟩ | ⟨rfl, hc⟩
    · exact absurd hc hni
    · refine vx_catch hown [] ⟨0, 10, 11, 56⟩ [] htb (fun z hz => absurd hz List.not_mem_nil) rfl (by decide) (hts (.classLink RL 56 "java/lang/IllegalStateException") (List.mem_of_getElem? (i := 1) rfl)) (va_Nw.use rfl (hTF.2.2.1 (.castable "java/lang/IllegalStateException" "java/lang/IllegalStateException") (by decide +kernel))) hce_1 hcv_1 hcl_1 ?_
      refine lv_astore (lv' := [(5, .ref q_1), (0, .ref g), (1, .int p0), (2, .int p1), (3, .int p2), (4, .int p3)]) hx hb dL_isSet_11 hl (by decide) rfl (fun ls hl => ?_)
      refine lv_iconst (v := 0) hx hb dL_isSet_13 (by decide) ?_
      refine W.widen (k := 5) (n := 30) (Nat.le_of_ble_eq_true rfl) (Nat.le_of_ble_eq_true rfl) ?_
      exact W.zret (v := 0) hx hb hr rfl (fun t ht hW => ⟨⟨0, G, rfl, (Or.inr ⟨hc, rfl, hG⟩), by rw [ht]; exact hP, va_K.moved hW.alike hK, hD⟩, hS.F ht⟩) hS.2.2 dL_isSet_14
  · obtain ⟨hP, hD⟩ := gk_back hF_1 hB_1 ht_1
    refine lv_iconst (v := 1) hx hb dL_isSet_9 (by decide) ?_
    refine W.widen (k := 5) (n := 30) (Nat.le_of_ble_eq_true rfl) (Nat.le_of_ble_eq_true rfl) ?_
    exact W.zret (v := 1) hx hb hr rfl (fun t ht hW => ⟨⟨1, u_1, rfl, (Or.inl ⟨hw_1.1, rfl, hw_1.2⟩), by rw [ht]; exact hP, va_K.moved hW.alike hK, hD⟩, hS.F ht⟩) hS.2.2 dL_isSet_10
