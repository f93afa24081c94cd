theorem gShn {gr sh rt ce : Int32} {nl nv : Nat} {am : Int32} {nc : Nat} {cd : Int32} {bud fsd las isB mto maw lno dya amo rfd ord cpa : Nat → Int32} {lnf orf : Nat → Nat} (hM : gMI gr sh rt ce nl nv am nc cd bud fsd las isB mto maw lno dya amo rfd ord cpa lnf orf) : ¬ sh.toInt64 = 0 := by
  intro h
  have h1 := hM.2.2.2.2.2.2.2.2.2.2.1.1
  have h3 : sh.toInt64.toInt = 0 := by rw [h]; rfl
  rw [Int32.toInt_toInt64] at h3
  omega
theorem gMet_mono {l : Launch} {y : MethodName} {ws : List Cond} {rm : Room} {Pc Pc' : Array Value → State → Prop} {Qc Qc' : Array Value → State → Outcome → State → Prop} {mc ms : Nat} {free : Addr → Prop} (h : Met l y ws rm Pc Qc mc ms free) (hp : ∀ a s, Pc' a s → Pc a s) (hq : ∀ a st o t, Qc a st o t → Qc' a st o t) : Met l y ws rm Pc' Qc' mc ms free := by
  intro p e ha hc hk s m args below hf hs hP hK
  obtain ⟨n, o, h1, h2, h3, h4, h5⟩ := h p e ha hc hk s m args below hf hs (hp _ _ hP) hK
  exact ⟨n, o, h1, h2, h3, hq _ _ _ _ h4, h5⟩
theorem gSw (x : Int32) : (x.toInt < 0 ∨ 21 < x.toInt) ∨ x = 0 ∨ x = 1 ∨ x = 2 ∨ x = 3 ∨ x = 4 ∨ x = 5 ∨ x = 6 ∨ x = 7 ∨ x = 8 ∨ x = 9 ∨ x = 10 ∨ x = 11 ∨ x = 12 ∨ x = 13 ∨ x = 14 ∨ x = 15 ∨ x = 16 ∨ x = 17 ∨ x = 18 ∨ x = 19 ∨ x = 20 ∨ x = 21 := by
  by_cases h : x.toInt < 0 ∨ 21 < x.toInt
  · exact Or.inl h
  · right
    have h0 : 0 ≤ x.toInt ∧ x.toInt ≤ 21 := by omega
    obtain ⟨n, hn⟩ : ∃ n : Nat, x.toInt = (n : Int) := ⟨x.toInt.toNat, by omega⟩
    have hn2 : n ≤ 21 := by omega
    have hx : x = nI n := Int32.toInt_inj.mp (by rw [hn, nI_toInt (by omega)])
    subst hx
    clear hn h0 h
    rcases (show n = 0 ∨ n = 1 ∨ n = 2 ∨ n = 3 ∨ n = 4 ∨ n = 5 ∨ n = 6 ∨ n = 7 ∨ n = 8 ∨ n = 9 ∨ n = 10 ∨ n = 11 ∨ n = 12 ∨ n = 13 ∨ n = 14 ∨ n = 15 ∨ n = 16 ∨ n = 17 ∨ n = 18 ∨ n = 19 ∨ n = 20 ∨ n = 21 by omega) with rfl | rfl | rfl | rfl | rfl | rfl | rfl | rfl | rfl | rfl | rfl | rfl | rfl | rfl | rfl | rfl | rfl | rfl | rfl | rfl | rfl | rfl <;> simp [nI]
theorem gLw {L j : Nat} (hL : L ≤ 2560) (hj : j ≤ 512) (c : ¬ Int32.ofNat L - 5 < nI (5 * j)) : 5 * j + 5 ≤ L := by
  by_cases h5 : 5 ≤ L
  · obtain ⟨d, rfl⟩ : ∃ d, L = d + 5 := ⟨L - 5, by omega⟩
    have e : Int32.ofNat (d + 5) - 5 = nI d := by
      show nI (d + 5) - 5 = nI d
      rw [← nI_add, show nI 5 = 5 from rfl, Int32.add_sub_cancel]
    rw [e] at c
    have h6 : 5 * j ≤ d := by
      rcases Nat.lt_or_ge d (5 * j) with q | q
      · exact absurd (nI_lt q (by omega)) c
      · exact q
    omega
  · exfalso
    apply c
    have hL4 : L = 0 ∨ L = 1 ∨ L = 2 ∨ L = 3 ∨ L = 4 := by omega
    have h7 : Int32.ofNat L - 5 < 0 := by rcases hL4 with rfl | rfl | rfl | rfl | rfl <;> decide
    exact Int32.lt_of_lt_of_le h7 (nI_pos' (by omega))
section GL
variable {p : Program} {l : Launch} {e : Env} {R : Room} {s : State} {m : MethodId} {args : Array Value} {below : List Frame} {meth : Method} {c : Code} {H H0 : Heap} {locs : List Loc} {cells slots : Nat} {Q : State → Prop} {A : Nat → Prop}
variable {cc : ByteArray} {pc : Nat} {ls : Array Slot} {rest : List Value}
theorem gk_sld (hexec : p.tables.exec = Jvm.exec) (hb : c.code = cc) {b L : Nat} {xs : Nat → Int32} (hX : va_X b L xs s H0) (hbl : b < H0.size) (hbA : ¬ A b) (hS : va_S A H0 H locs) {i : Nat} (hi : i < L) (hL : L ≤ 2560) (hdg : decode cc pc = .ok (.iaload, 1))
    (kk : W p l e R s m args below meth c H locs cells slots Q (F0 m (pc + 1) ls (.int (xs i) :: rest))) : W p l e R s m args below meth c H locs cells slots Q (F0 m pc ls (.int (nI i) :: .ref b :: rest)) :=
  va_sld hexec hb hX hbl hbA hS (vp_in_nI hi (by omega)) hdg (by rw [nI_clamp (by omega)]; exact kk)
end GL
theorem gQ_recv {cyI cyL cyV cyJ : ClassId} {gr sh rt ce : Int32} {nl nv : Nat} {am : Int32} {nc : Nat} {cd : Int32} {bud fsd las isB mto maw lno dya amo rfd ord cpa : Nat → Int32} {lnf orf : Nat → Nat} {g o : Nat} {y0 y1 y2 y3 y4 y5 y6 y7 y8 y9 y10 y11 y12 y13 y14 : Nat × va_E} {fo : Nat → Int64} {G : va_W} (hG : gGP cyI cyL cyV gr sh rt ce nl nv am nc cd bud fsd las isB mto maw lno dya amo rfd ord cpa lnf orf g G) {D : va_G} {tys : List (ClassId × FieldType)} {s : State} {H : Heap} (hK : va_K D vwCl tys s) (hP : va_P D vwCl (y0 :: y1 :: y2 :: y3 :: y4 :: y5 :: y6 :: y7 :: y8 :: y9 :: y10 :: y11 :: y12 :: y13 :: y14 :: (o, .inl (cyJ, 1, .inr (.inl fo))) :: G) H) : ∃ cell : Cell, H[g]? = some cell ∧ cell.vm.isStatics = false ∧ s.vm.findClass RX2 = some cell.cls := by
  obtain ⟨hM, lr, vr, py, lrow, vrow, pia, Lc, Kc, budc, fsdc, lasc, basc, mvic, mvac, earc, vlnc, vdac, vamc, vrfc, velc, vnxc, ch, la, va, rfl, hOK, hC⟩ := hG
  have hP2 : va_P D vwCl (((g, .inr (2, [.int gr, .int sh, .int rt, .int ce, .ref lr, .int (nI nl), .ref vr, .int (nI nv), .int am, .ref py, .int (nI nc), .int cd, .int pia])) :: (lr, .inl (cyL, 12, .inr (.inr (.inr (.inr lrow))))) :: (vr, .inl (cyV, 100, .inr (.inr (.inr (.inr vrow))))) :: (py, .inl (cyI, 40, .inl cpa)) :: y0 :: y1 :: y2 :: y3 :: y4 :: y5 :: y6 :: y7 :: y8 :: y9 :: y10 :: y11 :: y12 :: y13 :: y14 :: (o, .inl (cyJ, 1, .inr (.inl fo))) :: [] : va_W) ++ va_pl Lc (gE Kc budc fsdc lasc basc mvic mvac earc vlnc vdac vamc vrfc velc vnxc)) H := gk_permP hP (gPm [(g, .inr (2, [.int gr, .int sh, .int rt, .int ce, .ref lr, .int (nI nl), .ref vr, .int (nI nv), .int am, .ref py, .int (nI nc), .int cd, .int pia])), (lr, .inl (cyL, 12, .inr (.inr (.inr (.inr lrow))))), (vr, .inl (cyV, 100, .inr (.inr (.inr (.inr vrow))))), (py, .inl (cyI, 40, .inl cpa))] [y0, y1, y2, y3, y4, y5, y6, y7, y8, y9, y10, y11, y12, y13, y14, (o, .inl (cyJ, 1, .inr (.inl fo)))] (va_pl Lc (gE Kc budc fsdc lasc basc mvic mvac earc vlnc vdac vamc vrfc velc vnxc)))
  exact va_recv hK hP2 (ci := 2) (q0 := 0) rfl rfl
set_option maxHeartbeats 4000000 in
set_option maxRecDepth 100000 in
theorem kQ_lines (l : Launch) (D : va_G) (cyI cyZ cyL cyV cyJ : ClassId) (gr sh rt ce : Int32) (nl nv : Nat) (am : Int32) (nc : Nat) (cd : Int32) (bud fsd las isB mto maw lno dya amo rfd ord cpa : Nat → Int32) (lnf orf : Nat → Nat) (g o : Nat) (y0 y1 y2 y3 y4 y5 y6 y7 y8 y9 y10 y11 y12 y13 y14 : Nat × va_E) (fo : Nat → Int64) (G : va_W) (hG : gGP cyI cyL cyV gr sh rt ce nl nv am nc cd bud fsd las isB mto maw lno dya amo rfd ord cpa lnf orf g G) (sz : Nat) (A : Nat → Prop) (hAe : va_A (y0 :: y1 :: y2 :: y3 :: y4 :: y5 :: y6 :: y7 :: y8 :: y9 :: y10 :: y11 :: y12 :: y13 :: y14 :: (o, .inl (cyJ, 1, .inr (.inl fo))) :: G) sz = A) : Met l yX2_lines wsX2_lines ({ frames := 0, cells := 0, slots := 0, locals := 0 }) (va_Pc [.ref g] (gPre D (gTy cyI cyZ cyL cyV cyJ) (y0 :: y1 :: y2 :: y3 :: y4 :: y5 :: y6 :: y7 :: y8 :: y9 :: y10 :: y11 :: y12 :: y13 :: y14 :: (o, .inl (cyJ, 1, .inr (.inl fo))) :: G) sz)) (va_Qi (fun (r : Int32) (_ : Unit) => r = nI nl) (fun (_ : Unit) t => gPost D (gTy cyI cyZ cyL cyV cyJ) A (y0 :: y1 :: y2 :: y3 :: y4 :: y5 :: y6 :: y7 :: y8 :: y9 :: y10 :: y11 :: y12 :: y13 :: y14 :: (o, .inl (cyJ, 1, .inr (.inl fo))) :: G) t) A) 0 0 A := by
  obtain ⟨hM, lr, vr, py, lrow, vrow, pia, Lc, Kc, budc, fsdc, lasc, basc, mvic, mvac, earc, vlnc, vdac, vamc, vrfc, velc, vnxc, ch, la, va, rfl, hOK, hC⟩ := hG
  have pm := gPm [(g, .inr (2, [.int gr, .int sh, .int rt, .int ce, .ref lr, .int (nI nl), .ref vr, .int (nI nv), .int am, .ref py, .int (nI nc), .int cd, .int pia])), (lr, .inl (cyL, 12, .inr (.inr (.inr (.inr lrow))))), (vr, .inl (cyV, 100, .inr (.inr (.inr (.inr vrow))))), (py, .inl (cyI, 40, .inl cpa))] [y0, y1, y2, y3, y4, y5, y6, y7, y8, y9, y10, y11, y12, y13, y14, (o, .inl (cyJ, 1, .inr (.inl fo)))] (va_pl Lc (gE Kc budc fsdc lasc basc mvic mvac earc vlnc vdac vamc vrfc velc vnxc))
  have hAe2 : va_A (((g, .inr (2, [.int gr, .int sh, .int rt, .int ce, .ref lr, .int (nI nl), .ref vr, .int (nI nv), .int am, .ref py, .int (nI nc), .int cd, .int pia])) :: (lr, .inl (cyL, 12, .inr (.inr (.inr (.inr lrow))))) :: (vr, .inl (cyV, 100, .inr (.inr (.inr (.inr vrow))))) :: (py, .inl (cyI, 40, .inl cpa)) :: y0 :: y1 :: y2 :: y3 :: y4 :: y5 :: y6 :: y7 :: y8 :: y9 :: y10 :: y11 :: y12 :: y13 :: y14 :: (o, .inl (cyJ, 1, .inr (.inl fo))) :: [] : va_W) ++ va_pl Lc (gE Kc budc fsdc lasc basc mvic mvac earc vlnc vdac vamc vrfc velc vnxc)) sz = A := by
    rw [← hAe]
    funext q
    exact propext ⟨fun h => gk_permA pm.symm h, fun h => gk_permA pm h⟩
  refine gMet_mono (kX2_lines l D cyI cyZ cyL cyV cyJ g lr vr py gr sh rt ce lrow vrow nl nv am cpa nc cd pia (y0 :: y1 :: y2 :: y3 :: y4 :: y5 :: y6 :: y7 :: y8 :: y9 :: y10 :: y11 :: y12 :: y13 :: y14 :: (o, .inl (cyJ, 1, .inr (.inl fo))) :: []) Lc Kc budc fsdc lasc basc mvic mvac earc vlnc vdac vamc vrfc velc vnxc ch hOK sz A hAe2) (fun a s h => ?_) (fun a st oc t h => ?_)
  · obtain ⟨h1, h2, h3, h4, h5⟩ := h
    exact ⟨h1, h2, gk_permP h3 pm, h4, gk_permD h5 pm⟩
  · obtain ⟨⟨r, u, h1, h2, h3, h4, h5⟩, h6⟩ := h
    exact ⟨⟨r, (), h1, h2, gk_permP h3 pm.symm, h4, gk_permD h5 pm.symm⟩, h6⟩
set_option maxHeartbeats 4000000 in
set_option maxRecDepth 100000 in
theorem kQ_vouchers (l : Launch) (D : va_G) (cyI cyZ cyL cyV cyJ : ClassId) (gr sh rt ce : Int32) (nl nv : Nat) (am : Int32) (nc : Nat) (cd : Int32) (bud fsd las isB mto maw lno dya amo rfd ord cpa : Nat → Int32) (lnf orf : Nat → Nat) (g o : Nat) (y0 y1 y2 y3 y4 y5 y6 y7 y8 y9 y10 y11 y12 y13 y14 : Nat × va_E) (fo : Nat → Int64) (G : va_W) (hG : gGP cyI cyL cyV gr sh rt ce nl nv am nc cd bud fsd las isB mto maw lno dya amo rfd ord cpa lnf orf g G) (sz : Nat) (A : Nat → Prop) (hAe : va_A (y0 :: y1 :: y2 :: y3 :: y4 :: y5 :: y6 :: y7 :: y8 :: y9 :: y10 :: y11 :: y12 :: y13 :: y14 :: (o, .inl (cyJ, 1, .inr (.inl fo))) :: G) sz = A) : Met l yX2_vouchers wsX2_vouchers ({ frames := 0, cells := 0, slots := 0, locals := 0 }) (va_Pc [.ref g] (gPre D (gTy cyI cyZ cyL cyV cyJ) (y0 :: y1 :: y2 :: y3 :: y4 :: y5 :: y6 :: y7 :: y8 :: y9 :: y10 :: y11 :: y12 :: y13 :: y14 :: (o, .inl (cyJ, 1, .inr (.inl fo))) :: G) sz)) (va_Qi (fun (r : Int32) (_ : Unit) => r = nI nv) (fun (_ : Unit) t => gPost D (gTy cyI cyZ cyL cyV cyJ) A (y0 :: y1 :: y2 :: y3 :: y4 :: y5 :: y6 :: y7 :: y8 :: y9 :: y10 :: y11 :: y12 :: y13 :: y14 :: (o, .inl (cyJ, 1, .inr (.inl fo))) :: G) t) A) 0 0 A := by
  obtain ⟨hM, lr, vr, py, lrow, vrow, pia, Lc, Kc, budc, fsdc, lasc, basc, mvic, mvac, earc, vlnc, vdac, vamc, vrfc, velc, vnxc, ch, la, va, rfl, hOK, hC⟩ := hG
  have pm := gPm [(g, .inr (2, [.int gr, .int sh, .int rt, .int ce, .ref lr, .int (nI nl), .ref vr, .int (nI nv), .int am, .ref py, .int (nI nc), .int cd, .int pia])), (lr, .inl (cyL, 12, .inr (.inr (.inr (.inr lrow))))), (vr, .inl (cyV, 100, .inr (.inr (.inr (.inr vrow))))), (py, .inl (cyI, 40, .inl cpa))] [y0, y1, y2, y3, y4, y5, y6, y7, y8, y9, y10, y11, y12, y13, y14, (o, .inl (cyJ, 1, .inr (.inl fo)))] (va_pl Lc (gE Kc budc fsdc lasc basc mvic mvac earc vlnc vdac vamc vrfc velc vnxc))
  have hAe2 : va_A (((g, .inr (2, [.int gr, .int sh, .int rt, .int ce, .ref lr, .int (nI nl), .ref vr, .int (nI nv), .int am, .ref py, .int (nI nc), .int cd, .int pia])) :: (lr, .inl (cyL, 12, .inr (.inr (.inr (.inr lrow))))) :: (vr, .inl (cyV, 100, .inr (.inr (.inr (.inr vrow))))) :: (py, .inl (cyI, 40, .inl cpa)) :: y0 :: y1 :: y2 :: y3 :: y4 :: y5 :: y6 :: y7 :: y8 :: y9 :: y10 :: y11 :: y12 :: y13 :: y14 :: (o, .inl (cyJ, 1, .inr (.inl fo))) :: [] : va_W) ++ va_pl Lc (gE Kc budc fsdc lasc basc mvic mvac earc vlnc vdac vamc vrfc velc vnxc)) sz = A := by
    rw [← hAe]
    funext q
    exact propext ⟨fun h => gk_permA pm.symm h, fun h => gk_permA pm h⟩
  refine gMet_mono (kX2_vouchers l D cyI cyZ cyL cyV cyJ g lr vr py gr sh rt ce lrow vrow nl nv am cpa nc cd pia (y0 :: y1 :: y2 :: y3 :: y4 :: y5 :: y6 :: y7 :: y8 :: y9 :: y10 :: y11 :: y12 :: y13 :: y14 :: (o, .inl (cyJ, 1, .inr (.inl fo))) :: []) Lc Kc budc fsdc lasc basc mvic mvac earc vlnc vdac vamc vrfc velc vnxc ch hOK sz A hAe2) (fun a s h => ?_) (fun a st oc t h => ?_)
  · obtain ⟨h1, h2, h3, h4, h5⟩ := h
    exact ⟨h1, h2, gk_permP h3 pm, h4, gk_permD h5 pm⟩
  · obtain ⟨⟨r, u, h1, h2, h3, h4, h5⟩, h6⟩ := h
    exact ⟨⟨r, (), h1, h2, gk_permP h3 pm.symm, h4, gk_permD h5 pm.symm⟩, h6⟩
set_option maxHeartbeats 4000000 in
set_option maxRecDepth 100000 in
theorem kQ_claims (l : Launch) (D : va_G) (cyI cyZ cyL cyV cyJ : ClassId) (gr sh rt ce : Int32) (nl nv : Nat) (am : Int32) (nc : Nat) (cd : Int32) (bud fsd las isB mto maw lno dya amo rfd ord cpa : Nat → Int32) (lnf orf : Nat → Nat) (g o : Nat) (y0 y1 y2 y3 y4 y5 y6 y7 y8 y9 y10 y11 y12 y13 y14 : Nat × va_E) (fo : Nat → Int64) (G : va_W) (hG : gGP cyI cyL cyV gr sh rt ce nl nv am nc cd bud fsd las isB mto maw lno dya amo rfd ord cpa lnf orf g G) (sz : Nat) (A : Nat → Prop) (hAe : va_A (y0 :: y1 :: y2 :: y3 :: y4 :: y5 :: y6 :: y7 :: y8 :: y9 :: y10 :: y11 :: y12 :: y13 :: y14 :: (o, .inl (cyJ, 1, .inr (.inl fo))) :: G) sz = A) : Met l yX2_claims wsX2_claims ({ frames := 0, cells := 0, slots := 0, locals := 0 }) (va_Pc [.ref g] (gPre D (gTy cyI cyZ cyL cyV cyJ) (y0 :: y1 :: y2 :: y3 :: y4 :: y5 :: y6 :: y7 :: y8 :: y9 :: y10 :: y11 :: y12 :: y13 :: y14 :: (o, .inl (cyJ, 1, .inr (.inl fo))) :: G) sz)) (va_Qi (fun (r : Int32) (_ : Unit) => r = nI nc) (fun (_ : Unit) t => gPost D (gTy cyI cyZ cyL cyV cyJ) A (y0 :: y1 :: y2 :: y3 :: y4 :: y5 :: y6 :: y7 :: y8 :: y9 :: y10 :: y11 :: y12 :: y13 :: y14 :: (o, .inl (cyJ, 1, .inr (.inl fo))) :: G) t) A) 0 0 A := by
  obtain ⟨hM, lr, vr, py, lrow, vrow, pia, Lc, Kc, budc, fsdc, lasc, basc, mvic, mvac, earc, vlnc, vdac, vamc, vrfc, velc, vnxc, ch, la, va, rfl, hOK, hC⟩ := hG
  have pm := gPm [(g, .inr (2, [.int gr, .int sh, .int rt, .int ce, .ref lr, .int (nI nl), .ref vr, .int (nI nv), .int am, .ref py, .int (nI nc), .int cd, .int pia])), (lr, .inl (cyL, 12, .inr (.inr (.inr (.inr lrow))))), (vr, .inl (cyV, 100, .inr (.inr (.inr (.inr vrow))))), (py, .inl (cyI, 40, .inl cpa))] [y0, y1, y2, y3, y4, y5, y6, y7, y8, y9, y10, y11, y12, y13, y14, (o, .inl (cyJ, 1, .inr (.inl fo)))] (va_pl Lc (gE Kc budc fsdc lasc basc mvic mvac earc vlnc vdac vamc vrfc velc vnxc))
  have hAe2 : va_A (((g, .inr (2, [.int gr, .int sh, .int rt, .int ce, .ref lr, .int (nI nl), .ref vr, .int (nI nv), .int am, .ref py, .int (nI nc), .int cd, .int pia])) :: (lr, .inl (cyL, 12, .inr (.inr (.inr (.inr lrow))))) :: (vr, .inl (cyV, 100, .inr (.inr (.inr (.inr vrow))))) :: (py, .inl (cyI, 40, .inl cpa)) :: y0 :: y1 :: y2 :: y3 :: y4 :: y5 :: y6 :: y7 :: y8 :: y9 :: y10 :: y11 :: y12 :: y13 :: y14 :: (o, .inl (cyJ, 1, .inr (.inl fo))) :: [] : va_W) ++ va_pl Lc (gE Kc budc fsdc lasc basc mvic mvac earc vlnc vdac vamc vrfc velc vnxc)) sz = A := by
    rw [← hAe]
    funext q
    exact propext ⟨fun h => gk_permA pm.symm h, fun h => gk_permA pm h⟩
  refine gMet_mono (kX2_claims l D cyI cyZ cyL cyV cyJ g lr vr py gr sh rt ce lrow vrow nl nv am cpa nc cd pia (y0 :: y1 :: y2 :: y3 :: y4 :: y5 :: y6 :: y7 :: y8 :: y9 :: y10 :: y11 :: y12 :: y13 :: y14 :: (o, .inl (cyJ, 1, .inr (.inl fo))) :: []) Lc Kc budc fsdc lasc basc mvic mvac earc vlnc vdac vamc vrfc velc vnxc ch hOK sz A hAe2) (fun a s h => ?_) (fun a st oc t h => ?_)
  · obtain ⟨h1, h2, h3, h4, h5⟩ := h
    exact ⟨h1, h2, gk_permP h3 pm, h4, gk_permD h5 pm⟩
  · obtain ⟨⟨r, u, h1, h2, h3, h4, h5⟩, h6⟩ := h
    exact ⟨⟨r, (), h1, h2, gk_permP h3 pm.symm, h4, gk_permD h5 pm.symm⟩, h6⟩
set_option maxHeartbeats 4000000 in
set_option maxRecDepth 100000 in
theorem kQ_unsettled (l : Launch) (D : va_G) (cyI cyZ cyL cyV cyJ : ClassId) (gr sh rt ce : Int32) (nl nv : Nat) (am : Int32) (nc : Nat) (cd : Int32) (bud fsd las isB mto maw lno dya amo rfd ord cpa : Nat → Int32) (lnf orf : Nat → Nat) (g o : Nat) (y0 y1 y2 y3 y4 y5 y6 y7 y8 y9 y10 y11 y12 y13 y14 : Nat × va_E) (fo : Nat → Int64) (G : va_W) (hG : gGP cyI cyL cyV gr sh rt ce nl nv am nc cd bud fsd las isB mto maw lno dya amo rfd ord cpa lnf orf g G) (sz : Nat) (A : Nat → Prop) (hAe : va_A (y0 :: y1 :: y2 :: y3 :: y4 :: y5 :: y6 :: y7 :: y8 :: y9 :: y10 :: y11 :: y12 :: y13 :: y14 :: (o, .inl (cyJ, 1, .inr (.inl fo))) :: G) sz = A) : Met l yX2_unsettled wsX2_unsettled ({ frames := 5, cells := 0, slots := 0, locals := 120 }) (va_Pc [.ref g] (gPre D (gTy cyI cyZ cyL cyV cyJ) (y0 :: y1 :: y2 :: y3 :: y4 :: y5 :: y6 :: y7 :: y8 :: y9 :: y10 :: y11 :: y12 :: y13 :: y14 :: (o, .inl (cyJ, 1, .inr (.inl fo))) :: G) sz)) (va_Qi (fun (r : Int32) (_ : Unit) => r = (if nI nc = 0 then 0 else (gEt sh am (gUb sh gr (gSm (gCx dya isB (gEL (fun l => bud l + mto l - maw l) (fun v => gAcc (fsd (lnf v)) (las (lnf v)) (rfd v) (dya v)) lnf amo orf nv) lnf cd 0) nv) (gOw rt ce (gSm (gCx dya isB (gEL (fun l => bud l + mto l - maw l) (fun v => gAcc (fsd (lnf v)) (las (lnf v)) (rfd v) (dya v)) lnf amo orf nv) lnf cd 1) nv)))) - gSm cpa nc)) (fun (_ : Unit) t => gPost D (gTy cyI cyZ cyL cyV cyJ) A (y0 :: y1 :: y2 :: y3 :: y4 :: y5 :: y6 :: y7 :: y8 :: y9 :: y10 :: y11 :: y12 :: y13 :: y14 :: (o, .inl (cyJ, 1, .inr (.inl fo))) :: G) t) A) 0 0 A := by
  obtain ⟨hM, lr, vr, py, lrow, vrow, pia, Lc, Kc, budc, fsdc, lasc, basc, mvic, mvac, earc, vlnc, vdac, vamc, vrfc, velc, vnxc, ch, la, va, rfl, hOK, hC⟩ := hG
  have pm := gPm [(g, .inr (2, [.int gr, .int sh, .int rt, .int ce, .ref lr, .int (nI nl), .ref vr, .int (nI nv), .int am, .ref py, .int (nI nc), .int cd, .int pia])), (lr, .inl (cyL, 12, .inr (.inr (.inr (.inr lrow))))), (vr, .inl (cyV, 100, .inr (.inr (.inr (.inr vrow))))), (py, .inl (cyI, 40, .inl cpa))] [y0, y1, y2, y3, y4, y5, y6, y7, y8, y9, y10, y11, y12, y13, y14, (o, .inl (cyJ, 1, .inr (.inl fo)))] (va_pl Lc (gE Kc budc fsdc lasc basc mvic mvac earc vlnc vdac vamc vrfc velc vnxc))
  have hAe2 : va_A (((g, .inr (2, [.int gr, .int sh, .int rt, .int ce, .ref lr, .int (nI nl), .ref vr, .int (nI nv), .int am, .ref py, .int (nI nc), .int cd, .int pia])) :: (lr, .inl (cyL, 12, .inr (.inr (.inr (.inr lrow))))) :: (vr, .inl (cyV, 100, .inr (.inr (.inr (.inr vrow))))) :: (py, .inl (cyI, 40, .inl cpa)) :: y0 :: y1 :: y2 :: y3 :: y4 :: y5 :: y6 :: y7 :: y8 :: y9 :: y10 :: y11 :: y12 :: y13 :: y14 :: (o, .inl (cyJ, 1, .inr (.inl fo))) :: [] : va_W) ++ va_pl Lc (gE Kc budc fsdc lasc basc mvic mvac earc vlnc vdac vamc vrfc velc vnxc)) sz = A := by
    rw [← hAe]
    funext q
    exact propext ⟨fun h => gk_permA pm.symm h, fun h => gk_permA pm h⟩
  refine gMet_mono (kX2_unsettled l D cyI cyZ cyL cyV cyJ g lr vr py gr sh rt ce lrow vrow nl nv am cpa nc cd pia (y0 :: y1 :: y2 :: y3 :: y4 :: y5 :: y6 :: y7 :: y8 :: y9 :: y10 :: y11 :: y12 :: y13 :: y14 :: (o, .inl (cyJ, 1, .inr (.inl fo))) :: []) Lc Kc budc fsdc lasc basc mvic mvac earc vlnc vdac vamc vrfc velc vnxc ch hOK sz A hAe2) (fun a s h => ?_) (fun a st oc t h => ?_)
  · obtain ⟨h1, h2, h3, h4, h5⟩ := h
    exact ⟨h1, h2, gk_permP h3 pm, h4, gk_permD h5 pm⟩
  · obtain ⟨⟨r, u, h1, h2, h3, h4, h5⟩, h6⟩ := h
    exact ⟨⟨r, (), h1, (gR_unsettled hM hOK hC h2), gk_permP h3 pm.symm, h4, gk_permD h5 pm.symm⟩, h6⟩
