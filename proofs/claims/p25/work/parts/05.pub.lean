set_option maxHeartbeats 4000000 in
set_option maxRecDepth 100000 in
theorem kX2_setGrant (l : Launch) (hst : l.stackTraces = false) (D : va_G) (cyI cyZ cyL cyV cyJ : ClassId) (g lr vr py : Nat) (ga gs ora oc : Int32) (lrow vrow : Nat → Option Nat) (nl nv : Nat) (am : Int32) (pay : Nat → Int32) (nc : Nat) (lcd pia : Int32) (Y : va_W) (L : List Nat) (K : Nat → Nat) (bud fsd las bas mvi mva : Nat → Int32) (ear vln : Nat → Option Nat) (vda vam vrf vel : Nat → Int32) (vnx : Nat → Option Nat) (ch : Nat → List Nat) (hOK : gOK L K lrow vrow ear vln vnx ch) (p0 p1 p2 p3 : Int32) (sz : Nat) (A : Nat → Prop) (hAe : va_A (((g, .inr (2, [.int ga, .int gs, .int ora, .int oc, .ref lr, .int (nI nl), .ref vr, .int (nI nv), .int am, .ref py, .int (nI nc), .int lcd, .int pia])) :: (lr, .inl (cyL, 12, .inr (.inr (.inr (.inr lrow))))) :: (vr, .inl (cyV, 100, .inr (.inr (.inr (.inr vrow))))) :: (py, .inl (cyI, 40, .inl pay)) :: Y : va_W) ++ va_pl L (gE K bud fsd las bas mvi mva ear vln vda vam vrf vel vnx)) sz = A) : vx_Met l yX2_setGrant wsX2_setGrant ({ frames := 7, cells := 5, slots := 30, locals := 104 }) (va_Pc [.ref g, .int p0, .int p1, .int p2, .int p3] (gPreT D (gTy cyI cyZ cyL cyV cyJ) (((g, .inr (2, [.int ga, .int gs, .int ora, .int oc, .ref lr, .int (nI nl), .ref vr, .int (nI nv), .int am, .ref py, .int (nI nc), .int lcd, .int pia])) :: (lr, .inl (cyL, 12, .inr (.inr (.inr (.inr lrow))))) :: (vr, .inl (cyV, 100, .inr (.inr (.inr (.inr vrow))))) :: (py, .inl (cyI, 40, .inl pay)) :: Y : va_W) ++ va_pl L (gE K bud fsd las bas mvi mva ear vln vda vam vrf vel vnx)) sz)) (va_Qv (fun (_ : Unit) => gIn p0 0 100000000 ∧ gIn p1 1 100 ∧ gIn p2 0 100 ∧ gIn p3 0 100000000 ∧ nI nc ≤ 0 ∧ True) (fun (_ : Unit) t => gPost D (gTy cyI cyZ cyL cyV cyJ) A (((g, .inr (2, [.int p0, .int p1, .int p2, .int p3, .ref lr, .int (nI nl), .ref vr, .int (nI nv), .int am, .ref py, .int (nI nc), .int lcd, .int pia])) :: (lr, .inl (cyL, 12, .inr (.inr (.inr (.inr lrow))))) :: (vr, .inl (cyV, 100, .inr (.inr (.inr (.inr vrow))))) :: (py, .inl (cyI, 40, .inl pay)) :: Y : va_W) ++ va_pl L (gE K bud fsd las bas mvi mva ear vln vda vam vrf vel vnx)) t) A) (gThr D (gTy cyI cyZ cyL cyV cyJ) A (((g, .inr (2, [.int ga, .int gs, .int ora, .int oc, .ref lr, .int (nI nl), .ref vr, .int (nI nv), .int am, .ref py, .int (nI nc), .int lcd, .int pia])) :: (lr, .inl (cyL, 12, .inr (.inr (.inr (.inr lrow))))) :: (vr, .inl (cyV, 100, .inr (.inr (.inr (.inr vrow))))) :: (py, .inl (cyI, 40, .inl pay)) :: Y : va_W) ++ va_pl L (gE K bud fsd las bas mvi mva ear vln vda vam vrf vel vnx)) (fun E => (E = "java/lang/IllegalArgumentException" ∧ ¬ (gIn p0 0 100000000)) ∨ (E = "java/lang/IllegalArgumentException" ∧ gIn p0 0 100000000 ∧ ¬ (gIn p1 1 100)) ∨ (E = "java/lang/IllegalArgumentException" ∧ gIn p0 0 100000000 ∧ gIn p1 1 100 ∧ ¬ (gIn p2 0 100)) ∨ (E = "java/lang/IllegalArgumentException" ∧ gIn p0 0 100000000 ∧ gIn p1 1 100 ∧ gIn p2 0 100 ∧ ¬ (gIn p3 0 100000000)) ∨ (E = "java/lang/IllegalStateException" ∧ gIn p0 0 100000000 ∧ gIn p1 1 100 ∧ gIn p2 0 100 ∧ gIn p3 0 100000000 ∧ ¬ (nI nc ≤ 0)))) 5 30 A := by
  refine vx_ofW (cc := cX2_setGrant) (maxL := 5) (ret := none) (by decide) rfl ?_
  intro p e s m args below meth c s₁ B hml htb hv
  obtain ⟨rfl, hTF, hsz, hP, hK, hD0⟩ := hv
  have hx := B.exec
  have hb := B.bytes
  have hr := B.returns
  have hts := atoms_spec (ws := wsX2_setGrant) B.pre
  have hown : s.vm.findClass RX2 = some m.cls := findClass_of_methodNamed B.named
  have hlocks := B.notSynchronized
  subst hsz
  have hD := hD0.self (sz := s.heap.size)
  rw [hAe] at hD hTF
  have hA : ∀ q : Nat, s.heap.size ≤ q → A q := fun q h => by rw [← hAe]; exact Or.inr h
  have hS : va_S A s.heap s.heap [] := va_S.rf
  have hP : va_P D vwCl (((g, .inr (2, [.int ga, .int gs, .int ora, .int oc, .ref lr, .int (nI nl), .ref vr, .int (nI nv), .int am, .ref py, .int (nI nc), .int lcd, .int pia])) :: (lr, .inl (cyL, 12, .inr (.inr (.inr (.inr lrow))))) :: (vr, .inl (cyV, 100, .inr (.inr (.inr (.inr vrow))))) :: (py, .inl (cyI, 40, .inl pay)) :: Y : va_W) ++ va_pl L (gE K bud fsd las bas mvi mva ear vln vda vam vrf vel vnx)) s.heap := hP
  have hi2 : ∀ w ∈ wsX20, w ∈ wsX2_setGrant := fun _ h => List.mem_cons_of_mem _ (List.mem_append_left _ (List.mem_append_left _ (List.mem_append_right _ h)))
  have hl := lv_entry ([.ref g, .int p0, .int p1, .int p2, .int p3]) (n := 5) (Nat.le_of_ble_eq_true rfl)
  rw [lg_entry_eq]
  generalize (lg_sl ([.ref g, .int p0, .int p1, .int p2, .int p3]) ++ List.replicate (5 - (lg_sl ([.ref g, .int p0, .int p1, .int p2, .int p3])).length) Slot.unset).toArray = ls at hl ⊢
  have hl : lv_has ls 5 [(0, .ref g), (1, .int p0), (2, .int p1), (3, .int p2), (4, .int p3)] := hl
  refine lv_iload_n hx hb dX2_setGrant_0 rfl (lv_at hl 1 rfl) ?_
  refine lv_iconst (v := 0) hx hb dX2_setGrant_1 (by decide) ?_
  refine lv_ldc hx hb hown (hts (.constant RX2 58 (100000000)) (List.mem_of_getElem? (i := 3) rfl)) dX2_setGrant_2 ?_
  have hF_1 := gk_all hD hS hA
  refine vx_callv (vx_runS (As := [.int p0, .int 0, .int 100000000]) (rest := []) ⟨hx, hb, hml, hown, hts⟩ (kX2_checkRange l hst D (gTy cyI cyZ cyL cyV cyJ) (((g, .inr (2, [.int ga, .int gs, .int ora, .int oc, .ref lr, .int (nI nl), .ref vr, .int (nI nv), .int am, .ref py, .int (nI nc), .int lcd, .int pia])) :: (lr, .inl (cyL, 12, .inr (.inr (.inr (.inr lrow))))) :: (vr, .inl (cyV, 100, .inr (.inr (.inr (.inr vrow))))) :: (py, .inl (cyI, 40, .inl pay)) :: Y : va_W) ++ va_pl L (gE K bud fsd las bas mvi mva ear vln vda vam vrf vel vnx)) p0 0 100000000 s.heap.size _ rfl) (va_cwS 3 hts gX2_setGrant_X2_checkRange rfl rfl rfl (by decide +kernel) ⟨(Nat.le_of_ble_eq_true rfl), (Nat.le_of_ble_eq_true rfl)⟩) (gk_preST hTF hS hF_1 hP hK hD) rfl rfl hl.1 rfl (lv_room (Nat.le_of_ble_eq_true rfl)) dX2_setGrant_4 ⟨(Nat.le_of_ble_eq_true rfl), (Nat.le_of_ble_eq_true rfl)⟩) hS (fun q _ h => hF_1 q h) hF_1 (fun q _ h => hF_1 q h) (fun E_1 ce_1 q_1 u_1 t_1 H locs ht_1 hvm_1 hpx_1 hBX_1 hz_1 hk_1 hS hce_1 hcv_1 hcl_1 => ?_) (fun u_1 t_1 H locs ht_1 hvm_1 hw_1 hB_1 hz_1 hk_1 hS => ?_)
  · obtain ⟨rfl, hB_1⟩ := hBX_1
    obtain ⟨hP, hD⟩ := gk_back hF_1 hB_1 ht_1
    refine vx_out (fun x hx9 => (htb x hx9).elim) hlocks hce_1 hcv_1 hcl_1 (fun t ht hal => ⟨E_1, Or.inl ⟨hpx_1.1, hpx_1.2⟩, ⟨rfl, by rw [ht]; exact hP, va_K.moved hal hK, hD⟩, hS.F ht⟩) hS.2.2 (Nat.le_of_ble_eq_true rfl) (Nat.le_of_ble_eq_true rfl)
  · obtain ⟨hP, hD⟩ := gk_back hF_1 hB_1 ht_1
    refine lv_iload_n hx hb dX2_setGrant_7 rfl (lv_at hl 2 rfl) ?_
    refine lv_iconst (v := 1) hx hb dX2_setGrant_8 (by decide) ?_
    refine lv_bipush (v := 100) hx hb dX2_setGrant_9 (by decide) ?_
    have hF_2 := gk_all hD hS hA
    refine vx_callv (vx_runS (As := [.int p1, .int 1, .int 100]) (rest := []) ⟨hx, hb, hml, hown, hts⟩ (kX2_checkRange l hst D (gTy cyI cyZ cyL cyV cyJ) (((g, .inr (2, [.int ga, .int gs, .int ora, .int oc, .ref lr, .int (nI nl), .ref vr, .int (nI nv), .int am, .ref py, .int (nI nc), .int lcd, .int pia])) :: (lr, .inl (cyL, 12, .inr (.inr (.inr (.inr lrow))))) :: (vr, .inl (cyV, 100, .inr (.inr (.inr (.inr vrow))))) :: (py, .inl (cyI, 40, .inl pay)) :: Y : va_W) ++ va_pl L (gE K bud fsd las bas mvi mva ear vln vda vam vrf vel vnx)) p1 1 100 H.size _ rfl) (va_cwS 3 hts gX2_setGrant_X2_checkRange rfl rfl rfl (by decide +kernel) ⟨(Nat.le_of_ble_eq_true rfl), (Nat.le_of_ble_eq_true rfl)⟩) (gk_preST hTF hS hF_2 hP hK hD) rfl rfl hl.1 rfl (lv_room (Nat.le_of_ble_eq_true rfl)) dX2_setGrant_11 ⟨(Nat.le_of_ble_eq_true rfl), (Nat.le_of_ble_eq_true rfl)⟩) hS (fun q _ h => hF_2 q h) hF_2 (fun q _ h => hF_2 q h) (fun E_2 ce_2 q_2 u_2 t_2 H locs ht_2 hvm_2 hpx_2 hBX_2 hz_2 hk_2 hS hce_2 hcv_2 hcl_2 => ?_) (fun u_2 t_2 H locs ht_2 hvm_2 hw_2 hB_2 hz_2 hk_2 hS => ?_)
    · obtain ⟨rfl, hB_2⟩ := hBX_2
      obtain ⟨hP, hD⟩ := gk_back hF_2 hB_2 ht_2
      refine vx_out (fun x hx9 => (htb x hx9).elim) hlocks hce_2 hcv_2 hcl_2 (fun t ht hal => ⟨E_2, Or.inr (Or.inl ⟨hpx_2.1, hw_1, hpx_2.2⟩), ⟨rfl, by rw [ht]; exact hP, va_K.moved hal hK, hD⟩, hS.F ht⟩) hS.2.2 (Nat.le_of_ble_eq_true rfl) (Nat.le_of_ble_eq_true rfl)
    · obtain ⟨hP, hD⟩ := gk_back hF_2 hB_2 ht_2
      refine lv_iload_n hx hb dX2_setGrant_14 rfl (lv_at hl 3 rfl) ?_
      refine lv_iconst (v := 0) hx hb dX2_setGrant_15 (by decide) ?_
      refine lv_bipush (v := 100) hx hb dX2_setGrant_16 (by decide) ?_
      have hF_3 := gk_all hD hS hA
      refine vx_callv (vx_runS (As := [.int p2, .int 0, .int 100]) (rest := []) ⟨hx, hb, hml, hown, hts⟩ (kX2_checkRange l hst D (gTy cyI cyZ cyL cyV cyJ) (((g, .inr (2, [.int ga, .int gs, .int ora, .int oc, .ref lr, .int (nI nl), .ref vr, .int (nI nv), .int am, .ref py, .int (nI nc), .int lcd, .int pia])) :: (lr, .inl (cyL, 12, .inr (.inr (.inr (.inr lrow))))) :: (vr, .inl (cyV, 100, .inr (.inr (.inr (.inr vrow))))) :: (py, .inl (cyI, 40, .inl pay)) :: Y : va_W) ++ va_pl L (gE K bud fsd las bas mvi mva ear vln vda vam vrf vel vnx)) p2 0 100 H.size _ rfl) (va_cwS 3 hts gX2_setGrant_X2_checkRange rfl rfl rfl (by decide +kernel) ⟨(Nat.le_of_ble_eq_true rfl), (Nat.le_of_ble_eq_true rfl)⟩) (gk_preST hTF hS hF_3 hP hK hD) rfl rfl hl.1 rfl (lv_room (Nat.le_of_ble_eq_true rfl)) dX2_setGrant_18 ⟨(Nat.le_of_ble_eq_true rfl), (Nat.le_of_ble_eq_true rfl)⟩) hS (fun q _ h => hF_3 q h) hF_3 (fun q _ h => hF_3 q h) (fun E_3 ce_3 q_3 u_3 t_3 H locs ht_3 hvm_3 hpx_3 hBX_3 hz_3 hk_3 hS hce_3 hcv_3 hcl_3 => ?_) (fun u_3 t_3 H locs ht_3 hvm_3 hw_3 hB_3 hz_3 hk_3 hS => ?_)
      · obtain ⟨rfl, hB_3⟩ := hBX_3
        obtain ⟨hP, hD⟩ := gk_back hF_3 hB_3 ht_3
        refine vx_out (fun x hx9 => (htb x hx9).elim) hlocks hce_3 hcv_3 hcl_3 (fun t ht hal => ⟨E_3, Or.inr (Or.inr (Or.inl ⟨hpx_3.1, hw_1, hw_2, hpx_3.2⟩)), ⟨rfl, by rw [ht]; exact hP, va_K.moved hal hK, hD⟩, hS.F ht⟩) hS.2.2 (Nat.le_of_ble_eq_true rfl) (Nat.le_of_ble_eq_true rfl)
      · obtain ⟨hP, hD⟩ := gk_back hF_3 hB_3 ht_3
        refine lv_iload hx hb dX2_setGrant_21 (lv_at hl 4 rfl) ?_
        refine lv_iconst (v := 0) hx hb dX2_setGrant_23 (by decide) ?_
        refine lv_ldc hx hb hown (hts (.constant RX2 58 (100000000)) (List.mem_of_getElem? (i := 3) rfl)) dX2_setGrant_24 ?_
        have hF_4 := gk_all hD hS hA
        refine vx_callv (vx_runS (As := [.int p3, .int 0, .int 100000000]) (rest := []) ⟨hx, hb, hml, hown, hts⟩ (kX2_checkRange l hst D (gTy cyI cyZ cyL cyV cyJ) (((g, .inr (2, [.int ga, .int gs, .int ora, .int oc, .ref lr, .int (nI nl), .ref vr, .int (nI nv), .int am, .ref py, .int (nI nc), .int lcd, .int pia])) :: (lr, .inl (cyL, 12, .inr (.inr (.inr (.inr lrow))))) :: (vr, .inl (cyV, 100, .inr (.inr (.inr (.inr vrow))))) :: (py, .inl (cyI, 40, .inl pay)) :: Y : va_W) ++ va_pl L (gE K bud fsd las bas mvi mva ear vln vda vam vrf vel vnx)) p3 0 100000000 H.size _ rfl) (va_cwS 3 hts gX2_setGrant_X2_checkRange rfl rfl rfl (by decide +kernel) ⟨(Nat.le_of_ble_eq_true rfl), (Nat.le_of_ble_eq_true rfl)⟩) (gk_preST hTF hS hF_4 hP hK hD) rfl rfl hl.1 rfl (lv_room (Nat.le_of_ble_eq_true rfl)) dX2_setGrant_26 ⟨(Nat.le_of_ble_eq_true rfl), (Nat.le_of_ble_eq_true rfl)⟩) hS (fun q _ h => hF_4 q h) hF_4 (fun q _ h => hF_4 q h) (fun E_4 ce_4 q_4 u_4 t_4 H locs ht_4 hvm_4 hpx_4 hBX_4 hz_4 hk_4 hS hce_4 hcv_4 hcl_4 => ?_) (fun u_4 t_4 H locs ht_4 hvm_4 hw_4 hB_4 hz_4 hk_4 hS => ?_)
        · obtain ⟨rfl, hB_4⟩ := hBX_4
          obtain ⟨hP, hD⟩ := gk_back hF_4 hB_4 ht_4
          refine vx_out (fun x hx9 => (htb x hx9).elim) hlocks hce_4 hcv_4 hcl_4 (fun t ht hal => ⟨E_4, Or.inr (Or.inr (Or.inr (Or.inl ⟨hpx_4.1, hw_1, hw_2, hw_3, hpx_4.2⟩))), ⟨rfl, by rw [ht]; exact hP, va_K.moved hal hK, hD⟩, hS.F ht⟩) hS.2.2 (Nat.le_of_ble_eq_true rfl) (Nat.le_of_ble_eq_true rfl)
        · obtain ⟨hP, hD⟩ := gk_back hF_4 hB_4 ht_4
          refine lv_aload_n hx hb dX2_setGrant_29 rfl (lv_at hl 0 rfl) ?_
          refine va_get (D := D) (ci := 2) (v := .int (nI nc)) (C := RX2) (T := TX2) (N := 13) hx hb hts hi2 hown hK hP 0 rfl rfl 10 (by decide) (hts (.fieldLink RX2 49 "GrantBook" "claimCount" "I") (List.mem_of_getElem? (i := 4) rfl)) (fun _ h9 => h9) rfl dX2_setGrant_30 ?_
          refine lv_if_le (tgt := 46) hx hb dX2_setGrant_33 (by decide) (fun c_5 => ?_) (fun c_5 => ?_)
          · refine lv_aload_n hx hb dX2_setGrant_46 rfl (lv_at hl 0 rfl) ?_
            refine lv_iload_n hx hb dX2_setGrant_47 rfl (lv_at hl 1 rfl) ?_
            refine va_put (D := D) (ci := 2) (v := .int p0) (ty := .int) (C := RX2) (T := TX2) (N := 13) hx hb hts hi2 tyX2 tyX2_ok nmX2 hown hK hP hD hS 0 rfl rfl 0 (by decide) (hts (.fieldLink RX2 8 "GrantBook" "grantAmount" "I") (List.mem_of_getElem? (i := 5) rfl)) (fun _ h9 => h9) rfl (by decide +kernel) rfl rfl (Nat.le_of_ble_eq_true rfl) dX2_setGrant_48 (fun H locs hP hD hS => ?_)
            have hP : va_P D vwCl (((g, .inr (2, [.int p0, .int gs, .int ora, .int oc, .ref lr, .int (nI nl), .ref vr, .int (nI nv), .int am, .ref py, .int (nI nc), .int lcd, .int pia])) :: (lr, .inl (cyL, 12, .inr (.inr (.inr (.inr lrow))))) :: (vr, .inl (cyV, 100, .inr (.inr (.inr (.inr vrow))))) :: (py, .inl (cyI, 40, .inl pay)) :: Y : va_W) ++ va_pl L (gE K bud fsd las bas mvi mva ear vln vda vam vrf vel vnx)) H := hP
            have hD : va_D A (((g, .inr (2, [.int p0, .int gs, .int ora, .int oc, .ref lr, .int (nI nl), .ref vr, .int (nI nv), .int am, .ref py, .int (nI nc), .int lcd, .int pia])) :: (lr, .inl (cyL, 12, .inr (.inr (.inr (.inr lrow))))) :: (vr, .inl (cyV, 100, .inr (.inr (.inr (.inr vrow))))) :: (py, .inl (cyI, 40, .inl pay)) :: Y : va_W) ++ va_pl L (gE K bud fsd las bas mvi mva ear vln vda vam vrf vel vnx)) := hD
            refine lv_aload_n hx hb dX2_setGrant_51 rfl (lv_at hl 0 rfl) ?_
            refine lv_iload_n hx hb dX2_setGrant_52 rfl (lv_at hl 2 rfl) ?_
            refine va_put (D := D) (ci := 2) (v := .int p1) (ty := .int) (C := RX2) (T := TX2) (N := 13) hx hb hts hi2 tyX2 tyX2_ok nmX2 hown hK hP hD hS 0 rfl rfl 1 (by decide) (hts (.fieldLink RX2 14 "GrantBook" "grantShare" "I") (List.mem_of_getElem? (i := 6) rfl)) (fun _ h9 => h9) rfl (by decide +kernel) rfl rfl (Nat.le_of_ble_eq_true rfl) dX2_setGrant_53 (fun H locs hP hD hS => ?_)
            have hP : va_P D vwCl (((g, .inr (2, [.int p0, .int p1, .int ora, .int oc, .ref lr, .int (nI nl), .ref vr, .int (nI nv), .int am, .ref py, .int (nI nc), .int lcd, .int pia])) :: (lr, .inl (cyL, 12, .inr (.inr (.inr (.inr lrow))))) :: (vr, .inl (cyV, 100, .inr (.inr (.inr (.inr vrow))))) :: (py, .inl (cyI, 40, .inl pay)) :: Y : va_W) ++ va_pl L (gE K bud fsd las bas mvi mva ear vln vda vam vrf vel vnx)) H := hP
            have hD : va_D A (((g, .inr (2, [.int p0, .int p1, .int ora, .int oc, .ref lr, .int (nI nl), .ref vr, .int (nI nv), .int am, .ref py, .int (nI nc), .int lcd, .int pia])) :: (lr, .inl (cyL, 12, .inr (.inr (.inr (.inr lrow))))) :: (vr, .inl (cyV, 100, .inr (.inr (.inr (.inr vrow))))) :: (py, .inl (cyI, 40, .inl pay)) :: Y : va_W) ++ va_pl L (gE K bud fsd las bas mvi mva ear vln vda vam vrf vel vnx)) := hD
            refine lv_aload_n hx hb dX2_setGrant_56 rfl (lv_at hl 0 rfl) ?_
            refine lv_iload_n hx hb dX2_setGrant_57 rfl (lv_at hl 3 rfl) ?_
            refine va_put (D := D) (ci := 2) (v := .int p2) (ty := .int) (C := RX2) (T := TX2) (N := 13) hx hb hts hi2 tyX2 tyX2_ok nmX2 hown hK hP hD hS 0 rfl rfl 2 (by decide) (hts (.fieldLink RX2 17 "GrantBook" "overheadRate" "I") (List.mem_of_getElem? (i := 7) rfl)) (fun _ h9 => h9) rfl (by decide +kernel) rfl rfl (Nat.le_of_ble_eq_true rfl) dX2_setGrant_58 (fun H locs hP hD hS => ?_)
            have hP : va_P D vwCl (((g, .inr (2, [.int p0, .int p1, .int p2, .int oc, .ref lr, .int (nI nl), .ref vr, .int (nI nv), .int am, .ref py, .int (nI nc), .int lcd, .int pia])) :: (lr, .inl (cyL, 12, .inr (.inr (.inr (.inr lrow))))) :: (vr, .inl (cyV, 100, .inr (.inr (.inr (.inr vrow))))) :: (py, .inl (cyI, 40, .inl pay)) :: Y : va_W) ++ va_pl L (gE K bud fsd las bas mvi mva ear vln vda vam vrf vel vnx)) H := hP
            have hD : va_D A (((g, .inr (2, [.int p0, .int p1, .int p2, .int oc, .ref lr, .int (nI nl), .ref vr, .int (nI nv), .int am, .ref py, .int (nI nc), .int lcd, .int pia])) :: (lr, .inl (cyL, 12, .inr (.inr (.inr (.inr lrow))))) :: (vr, .inl (cyV, 100, .inr (.inr (.inr (.inr vrow))))) :: (py, .inl (cyI, 40, .inl pay)) :: Y : va_W) ++ va_pl L (gE K bud fsd las bas mvi mva ear vln vda vam vrf vel vnx)) := hD
            refine lv_aload_n hx hb dX2_setGrant_61 rfl (lv_at hl 0 rfl) ?_
            refine lv_iload hx hb dX2_setGrant_62 (lv_at hl 4 rfl) ?_
            refine va_put (D := D) (ci := 2) (v := .int p3) (ty := .int) (C := RX2) (T := TX2) (N := 13) hx hb hts hi2 tyX2 tyX2_ok nmX2 hown hK hP hD hS 0 rfl rfl 3 (by decide) (hts (.fieldLink RX2 21 "GrantBook" "overheadCeiling" "I") (List.mem_of_getElem? (i := 8) rfl)) (fun _ h9 => h9) rfl (by decide +kernel) rfl rfl (Nat.le_of_ble_eq_true rfl) dX2_setGrant_64 (fun H locs hP hD hS => ?_)
            have hP : va_P D vwCl (((g, .inr (2, [.int p0, .int p1, .int p2, .int p3, .ref lr, .int (nI nl), .ref vr, .int (nI nv), .int am, .ref py, .int (nI nc), .int lcd, .int pia])) :: (lr, .inl (cyL, 12, .inr (.inr (.inr (.inr lrow))))) :: (vr, .inl (cyV, 100, .inr (.inr (.inr (.inr vrow))))) :: (py, .inl (cyI, 40, .inl pay)) :: Y : va_W) ++ va_pl L (gE K bud fsd las bas mvi mva ear vln vda vam vrf vel vnx)) H := hP
            have hD : va_D A (((g, .inr (2, [.int p0, .int p1, .int p2, .int p3, .ref lr, .int (nI nl), .ref vr, .int (nI nv), .int am, .ref py, .int (nI nc), .int lcd, .int pia])) :: (lr, .inl (cyL, 12, .inr (.inr (.inr (.inr lrow))))) :: (vr, .inl (cyV, 100, .inr (.inr (.inr (.inr vrow))))) :: (py, .inl (cyI, 40, .inl pay)) :: Y : va_W) ++ va_pl L (gE K bud fsd las bas mvi mva ear vln vda vam vrf vel vnx)) := hD
            refine W.widen (k := 5) (n := 30) (Nat.le_of_ble_eq_true rfl) (Nat.le_of_ble_eq_true rfl) ?_
            refine vx_ret ?_
            exact W.vret hx hb hr (fun t ht hW => ⟨⟨(), rfl, ⟨hw_1, hw_2, hw_3, hw_4, c_5, trivial⟩, by rw [ht]; exact hP, va_K.moved hW.alike hK, hD⟩, hS.F ht⟩) hS.2.2 dX2_setGrant_67
          · obtain ⟨sa_6, hsa_6⟩ := hTF.2.2.2 (65, "a claim was made") (by decide +kernel)
            exact vx_throwS hx hb hst (sa := sa_6) (text := "a claim was made") (is := 65) (names := ["java/lang/RuntimeException", "java/lang/Exception"]) hown (by decide +kernel) (by decide +kernel) (hts (.classLink RX2 63 "java/lang/IllegalStateException") (List.mem_of_getElem? (i := 1) rfl)) (hts (.initialized "java/lang/IllegalStateException") (List.mem_of_getElem? (i := 2) rfl)) hsa_6 (gk_hat (fun w hw => hts w (List.mem_cons_of_mem _ (List.mem_append_left _ (List.mem_append_right _ hw)))) hTF (by decide +kernel)) (by decide +kernel) hTF.1 hTF.2.1 hS (hl.1.trans hml.symm) dX2_setGrant_36 dX2_setGrant_39 dX2_setGrant_40 dX2_setGrant_42 dX2_setGrant_45 (fun x hx9 => (htb x hx9).elim) (Nat.le_of_ble_eq_true rfl) (Nat.le_of_ble_eq_true rfl) (Nat.le_of_ble_eq_true rfl) (Nat.le_of_ble_eq_true rfl) hlocks (fun t hal hsz9 hkp => ⟨"java/lang/IllegalStateException", Or.inr (Or.inr (Or.inr (Or.inr (⟨rfl, hw_1, hw_2, hw_3, hw_4, c_5⟩)))), ⟨rfl, hP.kept (fun k q hk => hkp q.1 (vx_lt hP hk)), va_K.moved hal hK, hD⟩, Nat.le_trans hS.1 hsz9, fun q h1 h2 => (hkp q (Nat.lt_of_lt_of_le h1 hS.1)).trans (hS.2.1 q h1 h2)⟩) hS.2.2 (Nat.le_of_ble_eq_true rfl) (Nat.le_of_ble_eq_true rfl)
set_option maxHeartbeats 4000000 in
set_option maxRecDepth 100000 in
theorem kX2_addLine (l : Launch) (hst : l.stackTraces = false) (D : va_G) (cyI cyZ cyL cyV cyJ : ClassId) (g lr vr py : Nat) (ga gs ora oc : Int32) (lrow vrow : Nat → Option Nat) (nl nv : Nat) (am : Int32) (pay : Nat → Int32) (nc : Nat) (lcd pia : Int32) (Y : va_W) (L : List Nat) (K : Nat → Nat) (bud fsd las bas mvi mva : Nat → Int32) (ear vln : Nat → Option Nat) (vda vam vrf vel : Nat → Int32) (vnx : Nat → Option Nat) (ch : Nat → List Nat) (hOK : gOK L K lrow vrow ear vln vnx ch) (hnl : nl ≤ 12) (p0 p1 p2 p3 : Int32) (hz3 : p3 = 0 ∨ p3 = 1) (sz : Nat) (A : Nat → Prop) (hAe : va_A (((g, .inr (2, [.int ga, .int gs, .int ora, .int oc, .ref lr, .int (nI nl), .ref vr, .int (nI nv), .int am, .ref py, .int (nI nc), .int lcd, .int pia])) :: (lr, .inl (cyL, 12, .inr (.inr (.inr (.inr lrow))))) :: (vr, .inl (cyV, 100, .inr (.inr (.inr (.inr vrow))))) :: (py, .inl (cyI, 40, .inl pay)) :: Y : va_W) ++ va_pl L (gE K bud fsd las bas mvi mva ear vln vda vam vrf vel vnx)) sz = A) : vx_Met l yX2_addLine wsX2_addLine ({ frames := 8, cells := 4, slots := 25, locals := 124 }) (va_Pc [.ref g, .int p0, .int p1, .int p2, .int p3] (gPreT D (gTy cyI cyZ cyL cyV cyJ) (((g, .inr (2, [.int ga, .int gs, .int ora, .int oc, .ref lr, .int (nI nl), .ref vr, .int (nI nv), .int am, .ref py, .int (nI nc), .int lcd, .int pia])) :: (lr, .inl (cyL, 12, .inr (.inr (.inr (.inr lrow))))) :: (vr, .inl (cyV, 100, .inr (.inr (.inr (.inr vrow))))) :: (py, .inl (cyI, 40, .inl pay)) :: Y : va_W) ++ va_pl L (gE K bud fsd las bas mvi mva ear vln vda vam vrf vel vnx)) sz)) (va_Qi (fun (r : Int32) (q : Nat) => gIn p0 0 10000000 ∧ gIn p1 0 9999 ∧ gIn p2 p1 9999 ∧ nI nl < 12 ∧ r = nI nl ∧ q ∉ L) (fun (q : Nat) t => gPost D (gTy cyI cyZ cyL cyV cyJ) A (((g, .inr (2, [.int ga, .int gs, .int ora, .int oc, .ref lr, .int (nI (nl + 1)), .ref vr, .int (nI nv), .int am, .ref py, .int (nI nc), .int lcd, .int pia])) :: (lr, .inl (cyL, 12, .inr (.inr (.inr (.inr (va_up lrow nl (some q))))))) :: (vr, .inl (cyV, 100, .inr (.inr (.inr (.inr vrow))))) :: (py, .inl (cyI, 40, .inl pay)) :: Y : va_W) ++ va_pl (L ++ [q]) (gE (va_up K q 0) (va_up bud q p0) (va_up fsd q p1) (va_up las q p2) (va_up bas q p3) (va_up mvi q 0) (va_up mva q 0) (va_up ear q none) vln vda vam vrf vel vnx)) t) A) (gThr D (gTy cyI cyZ cyL cyV cyJ) A (((g, .inr (2, [.int ga, .int gs, .int ora, .int oc, .ref lr, .int (nI nl), .ref vr, .int (nI nv), .int am, .ref py, .int (nI nc), .int lcd, .int pia])) :: (lr, .inl (cyL, 12, .inr (.inr (.inr (.inr lrow))))) :: (vr, .inl (cyV, 100, .inr (.inr (.inr (.inr vrow))))) :: (py, .inl (cyI, 40, .inl pay)) :: Y : va_W) ++ va_pl L (gE K bud fsd las bas mvi mva ear vln vda vam vrf vel vnx)) (fun E => (E = "java/lang/IllegalArgumentException" ∧ ¬ (gIn p0 0 10000000)) ∨ (E = "java/lang/IllegalArgumentException" ∧ gIn p0 0 10000000 ∧ ¬ (gIn p1 0 9999)) ∨ (E = "java/lang/IllegalArgumentException" ∧ gIn p0 0 10000000 ∧ gIn p1 0 9999 ∧ ¬ (gIn p2 p1 9999)) ∨ (E = "java/lang/IllegalStateException" ∧ gIn p0 0 10000000 ∧ gIn p1 0 9999 ∧ gIn p2 p1 9999 ∧ ¬ (nI nl < 12)))) 4 25 A := by
  refine vx_ofW (cc := cX2_addLine) (maxL := 6) (ret := (some .int)) (by decide) rfl ?_
  intro p e s m args below meth c s₁ B hml htb hv
  obtain ⟨rfl, hTF, hsz, hP, hK, hD0⟩ := hv
  have hx := B.exec
  have hb := B.bytes
  have hr := B.returns
  have hts := atoms_spec (ws := wsX2_addLine) B.pre
  have hown : s.vm.findClass RX2 = some m.cls := findClass_of_methodNamed B.named
  have hlocks := B.notSynchronized
  subst hsz
  have hD := hD0.self (sz := s.heap.size)
  rw [hAe] at hD hTF
  have hA : ∀ q : Nat, s.heap.size ≤ q → A q := fun q h => by rw [← hAe]; exact Or.inr h
  have hS : va_S A s.heap s.heap [] := va_S.rf
  have hP : va_P D vwCl (((g, .inr (2, [.int ga, .int gs, .int ora, .int oc, .ref lr, .int (nI nl), .ref vr, .int (nI nv), .int am, .ref py, .int (nI nc), .int lcd, .int pia])) :: (lr, .inl (cyL, 12, .inr (.inr (.inr (.inr lrow))))) :: (vr, .inl (cyV, 100, .inr (.inr (.inr (.inr vrow))))) :: (py, .inl (cyI, 40, .inl pay)) :: Y : va_W) ++ va_pl L (gE K bud fsd las bas mvi mva ear vln vda vam vrf vel vnx)) s.heap := hP
  have hi0 : ∀ w ∈ wsX00, w ∈ wsX2_addLine := fun _ h => List.mem_cons_of_mem _ (List.mem_append_left _ (List.mem_append_left _ (List.mem_append_right _ h)))
  have hi2 : ∀ w ∈ wsX20, w ∈ wsX2_addLine := fun _ h => List.mem_cons_of_mem _ (List.mem_append_left _ (List.mem_append_left _ (List.mem_append_left _ (List.mem_append_right _ h))))
  have hl := lv_entry ([.ref g, .int p0, .int p1, .int p2, .int p3]) (n := 6) (Nat.le_of_ble_eq_true rfl)
  rw [lg_entry_eq]
  generalize (lg_sl ([.ref g, .int p0, .int p1, .int p2, .int p3]) ++ List.replicate (6 - (lg_sl ([.ref g, .int p0, .int p1, .int p2, .int p3])).length) Slot.unset).toArray = ls at hl ⊢
  have hl : lv_has ls 6 [(0, .ref g), (1, .int p0), (2, .int p1), (3, .int p2), (4, .int p3)] := hl
  refine lv_iload_n hx hb dX2_addLine_0 rfl (lv_at hl 1 rfl) ?_
  refine lv_iconst (v := 0) hx hb dX2_addLine_1 (by decide) ?_
  refine lv_ldc hx hb hown (hts (.constant RX2 70 (10000000)) (List.mem_of_getElem? (i := 3) rfl)) dX2_addLine_2 ?_
  have hF_1 := gk_all hD hS hA
  refine vx_callv (vx_runS (As := [.int p0, .int 0, .int 10000000]) (rest := []) ⟨hx, hb, hml, hown, hts⟩ (kX2_checkRange l hst D (gTy cyI cyZ cyL cyV cyJ) (((g, .inr (2, [.int ga, .int gs, .int ora, .int oc, .ref lr, .int (nI nl), .ref vr, .int (nI nv), .int am, .ref py, .int (nI nc), .int lcd, .int pia])) :: (lr, .inl (cyL, 12, .inr (.inr (.inr (.inr lrow))))) :: (vr, .inl (cyV, 100, .inr (.inr (.inr (.inr vrow))))) :: (py, .inl (cyI, 40, .inl pay)) :: Y : va_W) ++ va_pl L (gE K bud fsd las bas mvi mva ear vln vda vam vrf vel vnx)) p0 0 10000000 s.heap.size _ rfl) (va_cwS 3 hts gX2_addLine_X2_checkRange rfl rfl rfl (by decide +kernel) ⟨(Nat.le_of_ble_eq_true rfl), (Nat.le_of_ble_eq_true rfl)⟩) (gk_preST hTF hS hF_1 hP hK hD) rfl rfl hl.1 rfl (lv_room (Nat.le_of_ble_eq_true rfl)) dX2_addLine_4 ⟨(Nat.le_of_ble_eq_true rfl), (Nat.le_of_ble_eq_true rfl)⟩) hS (fun q _ h => hF_1 q h) hF_1 (fun q _ h => hF_1 q h) (fun E_1 ce_1 q_1 u_1 t_1 H locs ht_1 hvm_1 hpx_1 hBX_1 hz_1 hk_1 hS hce_1 hcv_1 hcl_1 => ?_) (fun u_1 t_1 H locs ht_1 hvm_1 hw_1 hB_1 hz_1 hk_1 hS => ?_)
  · obtain ⟨rfl, hB_1⟩ := hBX_1
    obtain ⟨hP, hD⟩ := gk_back hF_1 hB_1 ht_1
    refine vx_out (fun x hx9 => (htb x hx9).elim) hlocks hce_1 hcv_1 hcl_1 (fun t ht hal => ⟨E_1, Or.inl ⟨hpx_1.1, hpx_1.2⟩, ⟨rfl, by rw [ht]; exact hP, va_K.moved hal hK, hD⟩, hS.F ht⟩) hS.2.2 (Nat.le_of_ble_eq_true rfl) (Nat.le_of_ble_eq_true rfl)
  · obtain ⟨hP, hD⟩ := gk_back hF_1 hB_1 ht_1
    refine lv_iload_n hx hb dX2_addLine_7 rfl (lv_at hl 2 rfl) ?_
    have hF_2 := gk_all hD hS hA
    refine vx_callv (vx_runS (As := [.int p1]) (rest := []) ⟨hx, hb, hml, hown, hts⟩ (kX2_checkDay l hst D (gTy cyI cyZ cyL cyV cyJ) (((g, .inr (2, [.int ga, .int gs, .int ora, .int oc, .ref lr, .int (nI nl), .ref vr, .int (nI nv), .int am, .ref py, .int (nI nc), .int lcd, .int pia])) :: (lr, .inl (cyL, 12, .inr (.inr (.inr (.inr lrow))))) :: (vr, .inl (cyV, 100, .inr (.inr (.inr (.inr vrow))))) :: (py, .inl (cyI, 40, .inl pay)) :: Y : va_W) ++ va_pl L (gE K bud fsd las bas mvi mva ear vln vda vam vrf vel vnx)) p1 H.size _ rfl) (va_cwS 1 hts gX2_addLine_X2_checkDay rfl rfl rfl (by decide +kernel) ⟨(Nat.le_of_ble_eq_true rfl), (Nat.le_of_ble_eq_true rfl)⟩) (gk_preST hTF hS hF_2 hP hK hD) rfl rfl hl.1 rfl (lv_room (Nat.le_of_ble_eq_true rfl)) dX2_addLine_8 ⟨(Nat.le_of_ble_eq_true rfl), (Nat.le_of_ble_eq_true rfl)⟩) hS (fun q _ h => hF_2 q h) hF_2 (fun q _ h => hF_2 q h) (fun E_2 ce_2 q_2 u_2 t_2 H locs ht_2 hvm_2 hpx_2 hBX_2 hz_2 hk_2 hS hce_2 hcv_2 hcl_2 => ?_) (fun u_2 t_2 H locs ht_2 hvm_2 hw_2 hB_2 hz_2 hk_2 hS => ?_)
    · obtain ⟨rfl, hB_2⟩ := hBX_2
      obtain ⟨hP, hD⟩ := gk_back hF_2 hB_2 ht_2
      refine vx_out (fun x hx9 => (htb x hx9).elim) hlocks hce_2 hcv_2 hcl_2 (fun t ht hal => ⟨E_2, Or.inr (Or.inl ⟨hpx_2.1, hw_1, hpx_2.2⟩), ⟨rfl, by rw [ht]; exact hP, va_K.moved hal hK, hD⟩, hS.F ht⟩) hS.2.2 (Nat.le_of_ble_eq_true rfl) (Nat.le_of_ble_eq_true rfl)
    · obtain ⟨hP, hD⟩ := gk_back hF_2 hB_2 ht_2
      refine lv_iload_n hx hb dX2_addLine_11 rfl (lv_at hl 3 rfl) ?_
      refine lv_iload_n hx hb dX2_addLine_12 rfl (lv_at hl 2 rfl) ?_
      refine lv_sipush (v := 9999) hx hb dX2_addLine_13 (by decide) ?_
      have hF_3 := gk_all hD hS hA
      refine vx_callv (vx_runS (As := [.int p2, .int p1, .int 9999]) (rest := []) ⟨hx, hb, hml, hown, hts⟩ (kX2_checkRange l hst D (gTy cyI cyZ cyL cyV cyJ) (((g, .inr (2, [.int ga, .int gs, .int ora, .int oc, .ref lr, .int (nI nl), .ref vr, .int (nI nv), .int am, .ref py, .int (nI nc), .int lcd, .int pia])) :: (lr, .inl (cyL, 12, .inr (.inr (.inr (.inr lrow))))) :: (vr, .inl (cyV, 100, .inr (.inr (.inr (.inr vrow))))) :: (py, .inl (cyI, 40, .inl pay)) :: Y : va_W) ++ va_pl L (gE K bud fsd las bas mvi mva ear vln vda vam vrf vel vnx)) p2 p1 9999 H.size _ rfl) (va_cwS 3 hts gX2_addLine_X2_checkRange rfl rfl rfl (by decide +kernel) ⟨(Nat.le_of_ble_eq_true rfl), (Nat.le_of_ble_eq_true rfl)⟩) (gk_preST hTF hS hF_3 hP hK hD) rfl rfl hl.1 rfl (lv_room (Nat.le_of_ble_eq_true rfl)) dX2_addLine_16 ⟨(Nat.le_of_ble_eq_true rfl), (Nat.le_of_ble_eq_true rfl)⟩) hS (fun q _ h => hF_3 q h) hF_3 (fun q _ h => hF_3 q h) (fun E_3 ce_3 q_3 u_3 t_3 H locs ht_3 hvm_3 hpx_3 hBX_3 hz_3 hk_3 hS hce_3 hcv_3 hcl_3 => ?_) (fun u_3 t_3 H locs ht_3 hvm_3 hw_3 hB_3 hz_3 hk_3 hS => ?_)
      · obtain ⟨rfl, hB_3⟩ := hBX_3
        obtain ⟨hP, hD⟩ := gk_back hF_3 hB_3 ht_3
        refine vx_out (fun x hx9 => (htb x hx9).elim) hlocks hce_3 hcv_3 hcl_3 (fun t ht hal => ⟨E_3, Or.inr (Or.inr (Or.inl ⟨hpx_3.1, hw_1, hw_2, hpx_3.2⟩)), ⟨rfl, by rw [ht]; exact hP, va_K.moved hal hK, hD⟩, hS.F ht⟩) hS.2.2 (Nat.le_of_ble_eq_true rfl) (Nat.le_of_ble_eq_true rfl)
      · obtain ⟨hP, hD⟩ := gk_back hF_3 hB_3 ht_3
        refine lv_aload_n hx hb dX2_addLine_19 rfl (lv_at hl 0 rfl) ?_
        refine va_get (D := D) (ci := 2) (v := .int (nI nl)) (C := RX2) (T := TX2) (N := 13) hx hb hts hi2 hown hK hP 0 rfl rfl 5 (by decide) (hts (.fieldLink RX2 30 "GrantBook" "lineCount" "I") (List.mem_of_getElem? (i := 4) rfl)) (fun _ h9 => h9) rfl dX2_addLine_20 ?_
        refine lv_istore (lv' := [(5, .int (nI nl)), (0, .ref g), (1, .int p0), (2, .int p1), (3, .int p2), (4, .int p3)]) hx hb dX2_addLine_23 hl (by decide) rfl (fun ls hl => ?_)
        refine lv_iload hx hb dX2_addLine_25 (lv_at hl 0 rfl) ?_
        refine lv_if_lt (tgt := 40) hx hb dX2_addLine_27 (by decide) (fun c9 => absurd c9 (nI_pos (by omega))) (fun _ => ?_)
        refine lv_iload hx hb dX2_addLine_30 (lv_at hl 0 rfl) ?_
        refine lv_aload_n hx hb dX2_addLine_32 rfl (lv_at hl 1 rfl) ?_
        refine va_get (D := D) (ci := 2) (v := .ref lr) (C := RX2) (T := TX2) (N := 13) hx hb hts hi2 hown hK hP 0 rfl rfl 4 (by decide) (hts (.fieldLink RX2 26 "GrantBook" "lineRows" "[LGrantBook$Line;") (List.mem_of_getElem? (i := 5) rfl)) (fun _ h9 => h9) rfl dX2_addLine_33 ?_
        refine va_alen hx hb hK hP 1 2 rfl rfl (v := 12) rfl dX2_addLine_36 ?_
        refine lv_icmp_lt (tgt := 50) hx hb dX2_addLine_37 (by decide) (fun c_4 => ?_) (fun c_4 => ?_)
        · refine lv_aload_n hx hb dX2_addLine_50 rfl (lv_at hl 1 rfl) ?_
          refine va_get (D := D) (ci := 2) (v := .ref lr) (C := RX2) (T := TX2) (N := 13) hx hb hts hi2 hown hK hP 0 rfl rfl 4 (by decide) (hts (.fieldLink RX2 26 "GrantBook" "lineRows" "[LGrantBook$Line;") (List.mem_of_getElem? (i := 5) rfl)) (fun _ h9 => h9) rfl dX2_addLine_51 ?_
          refine lv_iload hx hb dX2_addLine_54 (lv_at hl 0 rfl) ?_
          refine va_new (ci := 0) (fs := [.int 0, .int 0, .int 0, .int 0, .int 0, .int 0, .null]) (C := RX0) (T := TX0) (N := 7) hx hb hts hi0 tyX0 tyX0_ok hown (hts (.classLink RX2 24 RX0) (List.mem_of_getElem? (i := 6) rfl)) (hts (.instantiable RX0 7) (by decide +kernel)) (hts (.initialized RX0) (by decide +kernel)) hK hP hD hS hA rfl (fun j hj => by rcases (show j = 0 ∨ j = 1 ∨ j = 2 ∨ j = 3 ∨ j = 4 ∨ j = 5 ∨ j = 6 by omega) with rfl | rfl | rfl | rfl | rfl | rfl | rfl <;> rfl) (Nat.le_of_ble_eq_true rfl) (Nat.le_of_ble_eq_true rfl) dX2_addLine_56 (fun q_5 H hP hD hS => ?_)
          obtain ⟨hq_5, hP, hD⟩ := gk_push (q := q_5) (f' := (gE (va_up K q_5 0) (va_up bud q_5 0) (va_up fsd q_5 0) (va_up las q_5 0) (va_up bas q_5 0) (va_up mvi q_5 0) (va_up mva q_5 0) (va_up ear q_5 none) vln vda vam vrf vel vnx)) hP hD (gN_0)
          refine W.widen (k := 4) (n := 25) (Nat.le_of_ble_eq_true rfl) (Nat.le_of_ble_eq_true rfl) ?_
          have hLq_5 : q_5 ∈ (L ++ [q_5]) := List.mem_append_right _ List.mem_cons_self
          have hKq_5 : (va_up K q_5 0) q_5 = 0 := va_up_self _ _ _
          refine lv_dup hx hb dX2_addLine_59 rfl ?_
          refine lv_iload_n hx hb dX2_addLine_60 rfl (lv_at hl 2 rfl) ?_
          refine lv_iload_n hx hb dX2_addLine_61 rfl (lv_at hl 3 rfl) ?_
          refine lv_iload_n hx hb dX2_addLine_62 rfl (lv_at hl 4 rfl) ?_
          refine lv_iload hx hb dX2_addLine_63 (lv_at hl 5 rfl) ?_
          have hF_6 := gk_all hD hS hA
          refine va_callv (va_runI (As := [.int p0, .int p1, .int p2, .int p3]) (rest := [.ref q_5, .int (nI nl), .ref lr]) ⟨hx, hb, hml, hown, hts⟩ (kX0_init l D (gTy cyI cyZ cyL cyV cyJ) ((g, .inr (2, [.int ga, .int gs, .int ora, .int oc, .ref lr, .int (nI nl), .ref vr, .int (nI nv), .int am, .ref py, .int (nI nc), .int lcd, .int pia])) :: (lr, .inl (cyL, 12, .inr (.inr (.inr (.inr lrow))))) :: (vr, .inl (cyV, 100, .inr (.inr (.inr (.inr vrow))))) :: (py, .inl (cyI, 40, .inl pay)) :: Y) (L ++ [q_5]) (va_up K q_5 0) (va_up bud q_5 0) (va_up fsd q_5 0) (va_up las q_5 0) (va_up bas q_5 0) (va_up mvi q_5 0) (va_up mva q_5 0) (va_up ear q_5 none) vln vda vam vrf vel vnx q_5 hLq_5 hKq_5 p0 p1 p2 p3 hz3 H.size _ rfl) (cwI 4 hts gX2_addLine_X0_init rfl rfl rfl (hts (.initialized RX0) (by decide +kernel)) (hts (.methodLink RX2 77 yX0_init) (by decide +kernel)) (hts (.instanceMethod yX0_init) (by decide +kernel)) rfl (by decide +kernel) ⟨(Nat.le_of_ble_eq_true rfl), (Nat.le_of_ble_eq_true rfl)⟩) (gk_preS hP hK hD) rfl rfl hl.1 rfl (lv_room (Nat.le_of_ble_eq_true rfl)) dX2_addLine_65 ⟨(Nat.le_of_ble_eq_true rfl), (Nat.le_of_ble_eq_true rfl)⟩) hS (fun q _ h => hF_6 q h) hF_6 (fun u_6 t_6 H locs ht_6 hvm_6 hw_6 hB_6 hz_6 hk_6 hS => ?_)
          obtain ⟨hP, hD⟩ := gk_back hF_6 hB_6 ht_6
          obtain ⟨bud_6, fsd_6, las_6, bas_6, mvi_6, mva_6, ear_6⟩ := u_6
          obtain ⟨ebud_6, efsd_6, elas_6, ebas_6, emvi_6, emva_6, eear_6⟩ := hw_6
          dsimp only at ebud_6 efsd_6 elas_6 ebas_6 emvi_6 emva_6 eear_6 hP hD
          rw [gUp2] at ebud_6 efsd_6 elas_6 ebas_6 emvi_6 emva_6 eear_6
          subst ebud_6 efsd_6 elas_6 ebas_6 emvi_6 emva_6 eear_6
          obtain ⟨k_7, hk_7⟩ := va_pl_get (X := (g, .inr (2, [.int ga, .int gs, .int ora, .int oc, .ref lr, .int (nI nl), .ref vr, .int (nI nv), .int am, .ref py, .int (nI nc), .int lcd, .int pia])) :: (lr, .inl (cyL, 12, .inr (.inr (.inr (.inr lrow))))) :: (vr, .inl (cyV, 100, .inr (.inr (.inr (.inr vrow))))) :: (py, .inl (cyI, 40, .inl pay)) :: Y) (f := (gE (va_up K q_5 0) (va_up bud q_5 p0) (va_up fsd q_5 p1) (va_up las q_5 p2) (va_up bas q_5 p3) (va_up mvi q_5 0) (va_up mva q_5 0) (va_up ear q_5 none) vln vda vam vrf vel vnx)) hLq_5
          rw [gE_0 hKq_5] at hk_7
          refine gk_astq (i := nl) (r := (RX0, TX0, 7)) hx hb hK hP hD hS 1 2 k_7 0 rfl rfl hk_7 rfl (gLt (N := 12) (by omega) (by decide) c_4) (by decide) dX2_addLine_68 (fun H locs hP hD hS => ?_)
          have hP : va_P D vwCl (((g, .inr (2, [.int ga, .int gs, .int ora, .int oc, .ref lr, .int (nI nl), .ref vr, .int (nI nv), .int am, .ref py, .int (nI nc), .int lcd, .int pia])) :: (lr, .inl (cyL, 12, .inr (.inr (.inr (.inr (va_up lrow nl (some q_5))))))) :: (vr, .inl (cyV, 100, .inr (.inr (.inr (.inr vrow))))) :: (py, .inl (cyI, 40, .inl pay)) :: Y : va_W) ++ va_pl (L ++ [q_5]) (gE (va_up K q_5 0) (va_up bud q_5 p0) (va_up fsd q_5 p1) (va_up las q_5 p2) (va_up bas q_5 p3) (va_up mvi q_5 0) (va_up mva q_5 0) (va_up ear q_5 none) vln vda vam vrf vel vnx)) H := hP
          have hD : va_D A (((g, .inr (2, [.int ga, .int gs, .int ora, .int oc, .ref lr, .int (nI nl), .ref vr, .int (nI nv), .int am, .ref py, .int (nI nc), .int lcd, .int pia])) :: (lr, .inl (cyL, 12, .inr (.inr (.inr (.inr (va_up lrow nl (some q_5))))))) :: (vr, .inl (cyV, 100, .inr (.inr (.inr (.inr vrow))))) :: (py, .inl (cyI, 40, .inl pay)) :: Y : va_W) ++ va_pl (L ++ [q_5]) (gE (va_up K q_5 0) (va_up bud q_5 p0) (va_up fsd q_5 p1) (va_up las q_5 p2) (va_up bas q_5 p3) (va_up mvi q_5 0) (va_up mva q_5 0) (va_up ear q_5 none) vln vda vam vrf vel vnx)) := hD
          obtain ⟨lrow_8, elrow_8⟩ : ∃ z, z = (va_up lrow nl (some q_5)) := ⟨_, rfl⟩
          rw [← elrow_8] at hP hD
          refine lv_aload_n hx hb dX2_addLine_69 rfl (lv_at hl 1 rfl) ?_
          refine lv_iload hx hb dX2_addLine_70 (lv_at hl 0 rfl) ?_
          refine lv_iconst (v := 1) hx hb dX2_addLine_72 (by decide) ?_
          refine lv_iadd hx hb dX2_addLine_73 ?_
          rw [show nI nl + 1 = nI (nl + 1) from nI_1 nl]
          refine va_put (D := D) (ci := 2) (v := .int (nI (nl + 1))) (ty := .int) (C := RX2) (T := TX2) (N := 13) hx hb hts hi2 tyX2 tyX2_ok nmX2 hown hK hP hD hS 0 rfl rfl 5 (by decide) (hts (.fieldLink RX2 30 "GrantBook" "lineCount" "I") (List.mem_of_getElem? (i := 4) rfl)) (fun _ h9 => h9) rfl (by decide +kernel) rfl rfl (Nat.le_of_ble_eq_true rfl) dX2_addLine_74 (fun H locs hP hD hS => ?_)
          have hP : va_P D vwCl (((g, .inr (2, [.int ga, .int gs, .int ora, .int oc, .ref lr, .int (nI (nl + 1)), .ref vr, .int (nI nv), .int am, .ref py, .int (nI nc), .int lcd, .int pia])) :: (lr, .inl (cyL, 12, .inr (.inr (.inr (.inr lrow_8))))) :: (vr, .inl (cyV, 100, .inr (.inr (.inr (.inr vrow))))) :: (py, .inl (cyI, 40, .inl pay)) :: Y : va_W) ++ va_pl (L ++ [q_5]) (gE (va_up K q_5 0) (va_up bud q_5 p0) (va_up fsd q_5 p1) (va_up las q_5 p2) (va_up bas q_5 p3) (va_up mvi q_5 0) (va_up mva q_5 0) (va_up ear q_5 none) vln vda vam vrf vel vnx)) H := hP
          have hD : va_D A (((g, .inr (2, [.int ga, .int gs, .int ora, .int oc, .ref lr, .int (nI (nl + 1)), .ref vr, .int (nI nv), .int am, .ref py, .int (nI nc), .int lcd, .int pia])) :: (lr, .inl (cyL, 12, .inr (.inr (.inr (.inr lrow_8))))) :: (vr, .inl (cyV, 100, .inr (.inr (.inr (.inr vrow))))) :: (py, .inl (cyI, 40, .inl pay)) :: Y : va_W) ++ va_pl (L ++ [q_5]) (gE (va_up K q_5 0) (va_up bud q_5 p0) (va_up fsd q_5 p1) (va_up las q_5 p2) (va_up bas q_5 p3) (va_up mvi q_5 0) (va_up mva q_5 0) (va_up ear q_5 none) vln vda vam vrf vel vnx)) := hD
          refine lv_iload hx hb dX2_addLine_77 (lv_at hl 0 rfl) ?_
          subst elrow_8
          refine W.widen (k := 4) (n := 25) (Nat.le_of_ble_eq_true rfl) (Nat.le_of_ble_eq_true rfl) ?_
          refine vx_ret ?_
          exact W.iret (v := (nI nl)) hx hb hr (fun t ht hW => ⟨⟨(nI nl), q_5, rfl, ⟨hw_1, hw_2, hw_3, c_4, rfl, hq_5⟩, by rw [ht]; exact hP, va_K.moved hW.alike hK, hD⟩, hS.F ht⟩) hS.2.2 dX2_addLine_79
        · obtain ⟨sa_9, hsa_9⟩ := hTF.2.2.2 (75, "no more lines can be added") (by decide +kernel)
          exact vx_throwS hx hb hst (sa := sa_9) (text := "no more lines can be added") (is := 75) (names := ["java/lang/RuntimeException", "java/lang/Exception"]) hown (by decide +kernel) (by decide +kernel) (hts (.classLink RX2 63 "java/lang/IllegalStateException") (List.mem_of_getElem? (i := 1) rfl)) (hts (.initialized "java/lang/IllegalStateException") (List.mem_of_getElem? (i := 2) rfl)) hsa_9 (gk_hat (fun w hw => hts w (List.mem_cons_of_mem _ (List.mem_append_left _ (List.mem_append_right _ hw)))) hTF (by decide +kernel)) (by decide +kernel) hTF.1 hTF.2.1 hS (hl.1.trans hml.symm) dX2_addLine_40 dX2_addLine_43 dX2_addLine_44 dX2_addLine_46 dX2_addLine_49 (fun x hx9 => (htb x hx9).elim) (Nat.le_of_ble_eq_true rfl) (Nat.le_of_ble_eq_true rfl) (Nat.le_of_ble_eq_true rfl) (Nat.le_of_ble_eq_true rfl) hlocks (fun t hal hsz9 hkp => ⟨"java/lang/IllegalStateException", Or.inr (Or.inr (Or.inr (⟨rfl, hw_1, hw_2, hw_3, c_4⟩))), ⟨rfl, hP.kept (fun k q hk => hkp q.1 (vx_lt hP hk)), va_K.moved hal hK, hD⟩, Nat.le_trans hS.1 hsz9, fun q h1 h2 => (hkp q (Nat.lt_of_lt_of_le h1 hS.1)).trans (hS.2.1 q h1 h2)⟩) hS.2.2 (Nat.le_of_ble_eq_true rfl) (Nat.le_of_ble_eq_true rfl)
set_option maxHeartbeats 4000000 in
set_option maxRecDepth 100000 in
theorem kX2_extend (l : Launch) (hst : l.stackTraces = false) (D : va_G) (cyI cyZ cyL cyV cyJ : ClassId) (g lr vr py : Nat) (ga gs ora oc : Int32) (lrow vrow : Nat → Option Nat) (nl nv : Nat) (am : Int32) (pay : Nat → Int32) (nc : Nat) (lcd pia : Int32) (Y : va_W) (L : List Nat) (K : Nat → Nat) (bud fsd las bas mvi mva : Nat → Int32) (ear vln : Nat → Option Nat) (vda vam vrf vel : Nat → Int32) (vnx : Nat → Option Nat) (ch : Nat → List Nat) (hOK : gOK L K lrow vrow ear vln vnx ch) (k0 p1 : Int32) (sz : Nat) (A : Nat → Prop) (hAe : va_A (((g, .inr (2, [.int ga, .int gs, .int ora, .int oc, .ref lr, .int (nI nl), .ref vr, .int (nI nv), .int am, .ref py, .int (nI nc), .int lcd, .int pia])) :: (lr, .inl (cyL, 12, .inr (.inr (.inr (.inr lrow))))) :: (vr, .inl (cyV, 100, .inr (.inr (.inr (.inr vrow))))) :: (py, .inl (cyI, 40, .inl pay)) :: Y : va_W) ++ va_pl L (gE K bud fsd las bas mvi mva ear vln vda vam vrf vel vnx)) sz = A) : vx_Met l yX2_extend wsX2_extend ({ frames := 7, cells := 2, slots := 12, locals := 104 }) (va_Pc [.ref g, .int k0, .int p1] (gPreT D (gTy cyI cyZ cyL cyV cyJ) (((g, .inr (2, [.int ga, .int gs, .int ora, .int oc, .ref lr, .int (nI nl), .ref vr, .int (nI nv), .int am, .ref py, .int (nI nc), .int lcd, .int pia])) :: (lr, .inl (cyL, 12, .inr (.inr (.inr (.inr lrow))))) :: (vr, .inl (cyV, 100, .inr (.inr (.inr (.inr vrow))))) :: (py, .inl (cyI, 40, .inl pay)) :: Y : va_W) ++ va_pl L (gE K bud fsd las bas mvi mva ear vln vda vam vrf vel vnx)) sz)) (va_Qi (fun (r : Int32) (u : Nat × (Nat → Int32)) => ∃ a, gHas 12 lrow k0 a ∧ gIn p1 (las a) 9999 ∧ u.1 = a ∧ r = las a ∧ u.2 = gRk (fsd a) (va_up las a p1 a) vrf vda vam (ch a) (bud a + mvi a - mva a) vel) (fun (u : Nat × (Nat → Int32)) t => gPost D (gTy cyI cyZ cyL cyV cyJ) A (((g, .inr (2, [.int ga, .int gs, .int ora, .int oc, .ref lr, .int (nI nl), .ref vr, .int (nI nv), .int am, .ref py, .int (nI nc), .int lcd, .int pia])) :: (lr, .inl (cyL, 12, .inr (.inr (.inr (.inr lrow))))) :: (vr, .inl (cyV, 100, .inr (.inr (.inr (.inr vrow))))) :: (py, .inl (cyI, 40, .inl pay)) :: Y : va_W) ++ va_pl L (gE K bud fsd (va_up las u.1 p1) bas mvi mva ear vln vda vam vrf u.2 vnx)) t) A) (gThr D (gTy cyI cyZ cyL cyV cyJ) A (((g, .inr (2, [.int ga, .int gs, .int ora, .int oc, .ref lr, .int (nI nl), .ref vr, .int (nI nv), .int am, .ref py, .int (nI nc), .int lcd, .int pia])) :: (lr, .inl (cyL, 12, .inr (.inr (.inr (.inr lrow))))) :: (vr, .inl (cyV, 100, .inr (.inr (.inr (.inr vrow))))) :: (py, .inl (cyI, 40, .inl pay)) :: Y : va_W) ++ va_pl L (gE K bud fsd las bas mvi mva ear vln vda vam vrf vel vnx)) (fun E => (E = "java/lang/IndexOutOfBoundsException" ∧ ¬ ∃ a, gHas 12 lrow k0 a) ∨ (E = "java/lang/IllegalArgumentException" ∧ ∃ a, gHas 12 lrow k0 a ∧ ¬ (gIn p1 (las a) 9999)))) 2 12 A := by
  refine vx_ofW (cc := cX2_extend) (maxL := 5) (ret := (some .int)) (by decide) rfl ?_
  intro p e s m args below meth c s₁ B hml htb hv
  obtain ⟨rfl, hTF, hsz, hP, hK, hD0⟩ := hv
  have hx := B.exec
  have hb := B.bytes
  have hr := B.returns
  have hts := atoms_spec (ws := wsX2_extend) B.pre
  have hown : s.vm.findClass RX2 = some m.cls := findClass_of_methodNamed B.named
  have hlocks := B.notSynchronized
  subst hsz
  have hD := hD0.self (sz := s.heap.size)
  rw [hAe] at hD hTF
  have hA : ∀ q : Nat, s.heap.size ≤ q → A q := fun q h => by rw [← hAe]; exact Or.inr h
  have hS : va_S A s.heap s.heap [] := va_S.rf
  have hP : va_P D vwCl (((g, .inr (2, [.int ga, .int gs, .int ora, .int oc, .ref lr, .int (nI nl), .ref vr, .int (nI nv), .int am, .ref py, .int (nI nc), .int lcd, .int pia])) :: (lr, .inl (cyL, 12, .inr (.inr (.inr (.inr lrow))))) :: (vr, .inl (cyV, 100, .inr (.inr (.inr (.inr vrow))))) :: (py, .inl (cyI, 40, .inl pay)) :: Y : va_W) ++ va_pl L (gE K bud fsd las bas mvi mva ear vln vda vam vrf vel vnx)) s.heap := hP
  have hi0 : ∀ w ∈ wsX00, w ∈ wsX2_extend := fun _ h => List.mem_cons_of_mem _ (List.mem_append_left _ (List.mem_append_left _ (List.mem_append_left _ (List.mem_append_left _ (List.mem_append_right _ h)))))
  have hl := lv_entry ([.ref g, .int k0, .int p1]) (n := 5) (Nat.le_of_ble_eq_true rfl)
  rw [lg_entry_eq]
  generalize (lg_sl ([.ref g, .int k0, .int p1]) ++ List.replicate (5 - (lg_sl ([.ref g, .int k0, .int p1])).length) Slot.unset).toArray = ls at hl ⊢
  have hl : lv_has ls 5 [(0, .ref g), (1, .int k0), (2, .int p1)] := hl
  refine lv_aload_n hx hb dX2_extend_0 rfl (lv_at hl 0 rfl) ?_
  refine lv_iload_n hx hb dX2_extend_1 rfl (lv_at hl 1 rfl) ?_
  have hF_1 := gk_all hD hS hA
  refine vx_callq (vx_runV (As := [.int k0]) (rest := []) ⟨hx, hb, hml, hown, hts⟩ (kX2_findLine l hst D cyI cyZ cyL cyV cyJ g lr vr py ga gs ora oc lrow vrow nl nv am pay nc lcd pia Y L K bud fsd las bas mvi mva ear vln vda vam vrf vel vnx k0 s.heap.size _ rfl) (cwV 1 hts gX2_extend_X2_findLine rfl rfl rfl (by decide +kernel) ⟨(Nat.le_of_ble_eq_true rfl), (Nat.le_of_ble_eq_true rfl)⟩) (gk_preVT hTF hS hF_1 hP hK hD (va_recv hK hP (ci := 2) (q0 := 0) rfl rfl)) rfl rfl hl.1 rfl (lv_room (Nat.le_of_ble_eq_true rfl)) dX2_extend_2 ⟨(Nat.le_of_ble_eq_true rfl), (Nat.le_of_ble_eq_true rfl)⟩) hS (fun q _ h => hF_1 q h) hF_1 (fun q _ h => hF_1 q h) (fun E_1 ce_1 q_1 u_1 t_1 H locs ht_1 hvm_1 hpx_1 hBX_1 hz_1 hk_1 hS hce_1 hcv_1 hcl_1 => ?_) (fun r_1 u_1 t_1 H locs ht_1 hvm_1 hw_1 hB_1 hz_1 hk_1 hS => ?_)
  · obtain ⟨rfl, hB_1⟩ := hBX_1
    obtain ⟨hP, hD⟩ := gk_back hF_1 hB_1 ht_1
    refine vx_out (fun x hx9 => (htb x hx9).elim) hlocks hce_1 hcv_1 hcl_1 (fun t ht hal => ⟨E_1, Or.inl ⟨hpx_1.1, hpx_1.2⟩, ⟨rfl, by rw [ht]; exact hP, va_K.moved hal hK, hD⟩, hS.F ht⟩) hS.2.2 (Nat.le_of_ble_eq_true rfl) (Nat.le_of_ble_eq_true rfl)
  · obtain ⟨hP, hD⟩ := gk_back hF_1 hB_1 ht_1
    obtain ⟨a_1, rfl, hh_1⟩ := hw_1
    obtain ⟨hL_1, hK_1⟩ := hOK.l hh_1
    refine lv_astore_n (lv' := [(3, .ref a_1), (0, .ref g), (1, .int k0), (2, .int p1)]) hx hb dX2_extend_5 rfl hl (by decide) rfl (fun ls hl => ?_)
    refine lv_aload_n hx hb dX2_extend_6 rfl (lv_at hl 0 rfl) ?_
    refine gk_get (C := RX0) (T := TX0) (N := 7) (v := .int (las a_1)) hx hb hts hi0 hown hK hP hL_1 (gE_0 hK_1) rfl 2 (by decide) (hts (.fieldLink RX2 84 "GrantBook$Line" "last" "I") (List.mem_of_getElem? (i := 1) rfl)) (fun _ h9 => h9) rfl dX2_extend_7 ?_
    refine lv_istore (lv' := [(4, .int (las a_1)), (3, .ref a_1), (0, .ref g), (1, .int k0), (2, .int p1)]) hx hb dX2_extend_10 hl (by decide) rfl (fun ls hl => ?_)
    refine lv_iload_n hx hb dX2_extend_12 rfl (lv_at hl 4 rfl) ?_
    refine lv_iload hx hb dX2_extend_13 (lv_at hl 0 rfl) ?_
    refine lv_sipush (v := 9999) hx hb dX2_extend_15 (by decide) ?_
    have hF_2 := gk_all hD hS hA
    refine vx_callv (vx_runS (As := [.int p1, .int (las a_1), .int 9999]) (rest := []) ⟨hx, hb, hml, hown, hts⟩ (kX2_checkRange l hst D (gTy cyI cyZ cyL cyV cyJ) (((g, .inr (2, [.int ga, .int gs, .int ora, .int oc, .ref lr, .int (nI nl), .ref vr, .int (nI nv), .int am, .ref py, .int (nI nc), .int lcd, .int pia])) :: (lr, .inl (cyL, 12, .inr (.inr (.inr (.inr lrow))))) :: (vr, .inl (cyV, 100, .inr (.inr (.inr (.inr vrow))))) :: (py, .inl (cyI, 40, .inl pay)) :: Y : va_W) ++ va_pl L (gE K bud fsd las bas mvi mva ear vln vda vam vrf vel vnx)) p1 (las a_1) 9999 H.size _ rfl) (va_cwS 3 hts gX2_extend_X2_checkRange rfl rfl rfl (by decide +kernel) ⟨(Nat.le_of_ble_eq_true rfl), (Nat.le_of_ble_eq_true rfl)⟩) (gk_preST hTF hS hF_2 hP hK hD) rfl rfl hl.1 rfl (lv_room (Nat.le_of_ble_eq_true rfl)) dX2_extend_18 ⟨(Nat.le_of_ble_eq_true rfl), (Nat.le_of_ble_eq_true rfl)⟩) hS (fun q _ h => hF_2 q h) hF_2 (fun q _ h => hF_2 q h) (fun E_2 ce_2 q_2 u_2 t_2 H locs ht_2 hvm_2 hpx_2 hBX_2 hz_2 hk_2 hS hce_2 hcv_2 hcl_2 => ?_) (fun u_2 t_2 H locs ht_2 hvm_2 hw_2 hB_2 hz_2 hk_2 hS => ?_)
    · obtain ⟨rfl, hB_2⟩ := hBX_2
      obtain ⟨hP, hD⟩ := gk_back hF_2 hB_2 ht_2
      refine vx_out (fun x hx9 => (htb x hx9).elim) hlocks hce_2 hcv_2 hcl_2 (fun t ht hal => ⟨E_2, Or.inr (⟨hpx_2.1, a_1, hh_1, hpx_2.2⟩), ⟨rfl, by rw [ht]; exact hP, va_K.moved hal hK, hD⟩, hS.F ht⟩) hS.2.2 (Nat.le_of_ble_eq_true rfl) (Nat.le_of_ble_eq_true rfl)
    · obtain ⟨hP, hD⟩ := gk_back hF_2 hB_2 ht_2
      refine lv_aload_n hx hb dX2_extend_21 rfl (lv_at hl 1 rfl) ?_
      refine lv_iload_n hx hb dX2_extend_22 rfl (lv_at hl 4 rfl) ?_
      refine gk_put (f' := (gE K bud fsd (va_up las a_1 p1) bas mvi mva ear vln vda vam vrf vel vnx)) (v := .int p1) (ty := .int) (C := RX0) (T := TX0) (N := 7) hx hb hts hi0 tyX0 tyX0_ok nmX0 hown hK hP hD hS hL_1 (gE_0 hK_1) rfl 2 (by decide) (hts (.fieldLink RX2 84 "GrantBook$Line" "last" "I") (List.mem_of_getElem? (i := 1) rfl)) (fun _ h9 => h9) rfl (by decide +kernel) rfl rfl (Nat.le_of_ble_eq_true rfl) (gU_las hK_1 p1) dX2_extend_23 (fun H locs hP hD hS => ?_)
      obtain ⟨las_3, elas_3⟩ : ∃ z, z = (va_up las a_1 p1) := ⟨_, rfl⟩
      rw [← elas_3] at hP hD
      refine lv_aload_n hx hb dX2_extend_26 rfl (lv_at hl 1 rfl) ?_
      have hF_4 := gk_all hD hS hA
      refine va_callv (va_runV (As := []) (rest := []) ⟨hx, hb, hml, hown, hts⟩ (kX0_reckon l D (gTy cyI cyZ cyL cyV cyJ) ((g, .inr (2, [.int ga, .int gs, .int ora, .int oc, .ref lr, .int (nI nl), .ref vr, .int (nI nv), .int am, .ref py, .int (nI nc), .int lcd, .int pia])) :: (lr, .inl (cyL, 12, .inr (.inr (.inr (.inr lrow))))) :: (vr, .inl (cyV, 100, .inr (.inr (.inr (.inr vrow))))) :: (py, .inl (cyI, 40, .inl pay)) :: Y) L K bud fsd las_3 bas mvi mva ear vln vda vam vrf vel vnx a_1 hL_1 hK_1 (ch a_1) (hOK.2.2 a_1 hL_1 hK_1).1 (hOK.2.2 a_1 hL_1 hK_1).2 H.size _ rfl) (cwV 0 hts gX2_extend_X0_reckon rfl rfl rfl (by decide +kernel) ⟨(Nat.le_of_ble_eq_true rfl), (Nat.le_of_ble_eq_true rfl)⟩) (gk_preV hP hK hD (gk_recv hK hP hL_1 (gE_0 hK_1) rfl)) rfl rfl hl.1 rfl (lv_room (Nat.le_of_ble_eq_true rfl)) dX2_extend_27 ⟨(Nat.le_of_ble_eq_true rfl), (Nat.le_of_ble_eq_true rfl)⟩) hS (fun q _ h => hF_4 q h) hF_4 (fun u_4 t_4 H locs ht_4 hvm_4 hw_4 hB_4 hz_4 hk_4 hS => ?_)
      obtain ⟨hP, hD⟩ := gk_back hF_4 hB_4 ht_4
      obtain ⟨vel_4, evel_4⟩ : ∃ z, z = u_4 := ⟨_, rfl⟩
      rw [← evel_4] at hP hD hw_4
      refine lv_iload hx hb dX2_extend_30 (lv_at hl 0 rfl) ?_
      subst elas_3
      refine W.widen (k := 2) (n := 12) (Nat.le_of_ble_eq_true rfl) (Nat.le_of_ble_eq_true rfl) ?_
      refine vx_ret ?_
      exact W.iret (v := (las a_1)) hx hb hr (fun t ht hW => ⟨⟨(las a_1), (a_1, vel_4), rfl, ⟨a_1, hh_1, hw_2, rfl, rfl, hw_4⟩, by rw [ht]; exact hP, va_K.moved hW.alike hK, hD⟩, hS.F ht⟩) hS.2.2 dX2_extend_32
set_option maxHeartbeats 4000000 in
set_option maxRecDepth 100000 in
theorem kX2_move (l : Launch) (hst : l.stackTraces = false) (D : va_G) (cyI cyZ cyL cyV cyJ : ClassId) (g lr vr py : Nat) (ga gs ora oc : Int32) (lrow vrow : Nat → Option Nat) (nl nv : Nat) (am : Int32) (pay : Nat → Int32) (nc : Nat) (lcd pia : Int32) (Y : va_W) (L : List Nat) (K : Nat → Nat) (bud fsd las bas mvi mva : Nat → Int32) (ear vln : Nat → Option Nat) (vda vam vrf vel : Nat → Int32) (vnx : Nat → Option Nat) (ch : Nat → List Nat) (hOK : gOK L K lrow vrow ear vln vnx ch) (k0 k1 p2 : Int32) (sz : Nat) (A : Nat → Prop) (hAe : va_A (((g, .inr (2, [.int ga, .int gs, .int ora, .int oc, .ref lr, .int (nI nl), .ref vr, .int (nI nv), .int am, .ref py, .int (nI nc), .int lcd, .int pia])) :: (lr, .inl (cyL, 12, .inr (.inr (.inr (.inr lrow))))) :: (vr, .inl (cyV, 100, .inr (.inr (.inr (.inr vrow))))) :: (py, .inl (cyI, 40, .inl pay)) :: Y : va_W) ++ va_pl L (gE K bud fsd las bas mvi mva ear vln vda vam vrf vel vnx)) sz = A) : vx_Met l yX2_move wsX2_move ({ frames := 7, cells := 4, slots := 24, locals := 104 }) (va_Pc [.ref g, .int k0, .int k1, .int p2] (gPreT D (gTy cyI cyZ cyL cyV cyJ) (((g, .inr (2, [.int ga, .int gs, .int ora, .int oc, .ref lr, .int (nI nl), .ref vr, .int (nI nv), .int am, .ref py, .int (nI nc), .int lcd, .int pia])) :: (lr, .inl (cyL, 12, .inr (.inr (.inr (.inr lrow))))) :: (vr, .inl (cyV, 100, .inr (.inr (.inr (.inr vrow))))) :: (py, .inl (cyI, 40, .inl pay)) :: Y : va_W) ++ va_pl L (gE K bud fsd las bas mvi mva ear vln vda vam vrf vel vnx)) sz)) (va_Qi (fun (r : Int32) (u : Nat × Nat × (Nat → Int32)) => ∃ a, gHas 12 lrow k0 a ∧ ∃ b, gHas 12 lrow k1 b ∧ gIn p2 1 10000000 ∧ ¬ some a = some b ∧ mva a + p2 ≤ bud a / 10 ∧ u.1 = a ∧ u.2.1 = b ∧ r = bud a + (va_up mvi b (mvi b + p2)) a - (va_up mva a (mva a + p2)) a ∧ u.2.2 = gRk (fsd b) (las b) vrf vda vam (ch b) (bud b + (va_up mvi b (mvi b + p2)) b - (va_up mva a (mva a + p2)) b) (gRk (fsd a) (las a) vrf vda vam (ch a) (bud a + (va_up mvi b (mvi b + p2)) a - (va_up mva a (mva a + p2)) a) vel)) (fun (u : Nat × Nat × (Nat → Int32)) t => gPost D (gTy cyI cyZ cyL cyV cyJ) A (((g, .inr (2, [.int ga, .int gs, .int ora, .int oc, .ref lr, .int (nI nl), .ref vr, .int (nI nv), .int am, .ref py, .int (nI nc), .int lcd, .int pia])) :: (lr, .inl (cyL, 12, .inr (.inr (.inr (.inr lrow))))) :: (vr, .inl (cyV, 100, .inr (.inr (.inr (.inr vrow))))) :: (py, .inl (cyI, 40, .inl pay)) :: Y : va_W) ++ va_pl L (gE K bud fsd las bas (va_up mvi u.2.1 (mvi u.2.1 + p2)) (va_up mva u.1 (mva u.1 + p2)) ear vln vda vam vrf u.2.2 vnx)) t) A) (gThr D (gTy cyI cyZ cyL cyV cyJ) A (((g, .inr (2, [.int ga, .int gs, .int ora, .int oc, .ref lr, .int (nI nl), .ref vr, .int (nI nv), .int am, .ref py, .int (nI nc), .int lcd, .int pia])) :: (lr, .inl (cyL, 12, .inr (.inr (.inr (.inr lrow))))) :: (vr, .inl (cyV, 100, .inr (.inr (.inr (.inr vrow))))) :: (py, .inl (cyI, 40, .inl pay)) :: Y : va_W) ++ va_pl L (gE K bud fsd las bas mvi mva ear vln vda vam vrf vel vnx)) (fun E => (E = "java/lang/IndexOutOfBoundsException" ∧ ¬ ∃ a, gHas 12 lrow k0 a) ∨ (E = "java/lang/IndexOutOfBoundsException" ∧ ∃ a, gHas 12 lrow k0 a ∧ ¬ ∃ b, gHas 12 lrow k1 b) ∨ (E = "java/lang/IllegalArgumentException" ∧ ∃ a, gHas 12 lrow k0 a ∧ ∃ b, gHas 12 lrow k1 b ∧ ¬ (gIn p2 1 10000000)) ∨ (E = "java/lang/IllegalArgumentException" ∧ ∃ a, gHas 12 lrow k0 a ∧ ∃ b, gHas 12 lrow k1 b ∧ gIn p2 1 10000000 ∧ ¬ (¬ some a = some b)) ∨ (E = "java/lang/IllegalStateException" ∧ ∃ a, gHas 12 lrow k0 a ∧ ∃ b, gHas 12 lrow k1 b ∧ gIn p2 1 10000000 ∧ ¬ some a = some b ∧ ¬ (mva a + p2 ≤ bud a / 10)))) 4 24 A := by
  refine vx_ofW (cc := cX2_move) (maxL := 6) (ret := (some .int)) (by decide) rfl ?_
  intro p e s m args below meth c s₁ B hml htb hv
  obtain ⟨rfl, hTF, hsz, hP, hK, hD0⟩ := hv
  have hx := B.exec
  have hb := B.bytes
  have hr := B.returns
  have hts := atoms_spec (ws := wsX2_move) B.pre
  have hown : s.vm.findClass RX2 = some m.cls := findClass_of_methodNamed B.named
  have hlocks := B.notSynchronized
  subst hsz
  have hD := hD0.self (sz := s.heap.size)
  rw [hAe] at hD hTF
  have hA : ∀ q : Nat, s.heap.size ≤ q → A q := fun q h => by rw [← hAe]; exact Or.inr h
  have hS : va_S A s.heap s.heap [] := va_S.rf
  have hP : va_P D vwCl (((g, .inr (2, [.int ga, .int gs, .int ora, .int oc, .ref lr, .int (nI nl), .ref vr, .int (nI nv), .int am, .ref py, .int (nI nc), .int lcd, .int pia])) :: (lr, .inl (cyL, 12, .inr (.inr (.inr (.inr lrow))))) :: (vr, .inl (cyV, 100, .inr (.inr (.inr (.inr vrow))))) :: (py, .inl (cyI, 40, .inl pay)) :: Y : va_W) ++ va_pl L (gE K bud fsd las bas mvi mva ear vln vda vam vrf vel vnx)) s.heap := hP
  have hi0 : ∀ w ∈ wsX00, w ∈ wsX2_move := fun _ h => List.mem_cons_of_mem _ (List.mem_append_left _ (List.mem_append_left _ (List.mem_append_left _ (List.mem_append_left _ (List.mem_append_left _ (List.mem_append_right _ h))))))
  have hl := lv_entry ([.ref g, .int k0, .int k1, .int p2]) (n := 6) (Nat.le_of_ble_eq_true rfl)
  rw [lg_entry_eq]
  generalize (lg_sl ([.ref g, .int k0, .int k1, .int p2]) ++ List.replicate (6 - (lg_sl ([.ref g, .int k0, .int k1, .int p2])).length) Slot.unset).toArray = ls at hl ⊢
  have hl : lv_has ls 6 [(0, .ref g), (1, .int k0), (2, .int k1), (3, .int p2)] := hl
  refine lv_aload_n hx hb dX2_move_0 rfl (lv_at hl 0 rfl) ?_
  refine lv_iload_n hx hb dX2_move_1 rfl (lv_at hl 1 rfl) ?_
  have hF_1 := gk_all hD hS hA
  refine vx_callq (vx_runV (As := [.int k0]) (rest := []) ⟨hx, hb, hml, hown, hts⟩ (kX2_findLine l hst D cyI cyZ cyL cyV cyJ g lr vr py ga gs ora oc lrow vrow nl nv am pay nc lcd pia Y L K bud fsd las bas mvi mva ear vln vda vam vrf vel vnx k0 s.heap.size _ rfl) (cwV 1 hts gX2_move_X2_findLine rfl rfl rfl (by decide +kernel) ⟨(Nat.le_of_ble_eq_true rfl), (Nat.le_of_ble_eq_true rfl)⟩) (gk_preVT hTF hS hF_1 hP hK hD (va_recv hK hP (ci := 2) (q0 := 0) rfl rfl)) rfl rfl hl.1 rfl (lv_room (Nat.le_of_ble_eq_true rfl)) dX2_move_2 ⟨(Nat.le_of_ble_eq_true rfl), (Nat.le_of_ble_eq_true rfl)⟩) hS (fun q _ h => hF_1 q h) hF_1 (fun q _ h => hF_1 q h) (fun E_1 ce_1 q_1 u_1 t_1 H locs ht_1 hvm_1 hpx_1 hBX_1 hz_1 hk_1 hS hce_1 hcv_1 hcl_1 => ?_) (fun r_1 u_1 t_1 H locs ht_1 hvm_1 hw_1 hB_1 hz_1 hk_1 hS => ?_)
  · obtain ⟨rfl, hB_1⟩ := hBX_1
    obtain ⟨hP, hD⟩ := gk_back hF_1 hB_1 ht_1
    refine vx_out (fun x hx9 => (htb x hx9).elim) hlocks hce_1 hcv_1 hcl_1 (fun t ht hal => ⟨E_1, Or.inl ⟨hpx_1.1, hpx_1.2⟩, ⟨rfl, by rw [ht]; exact hP, va_K.moved hal hK, hD⟩, hS.F ht⟩) hS.2.2 (Nat.le_of_ble_eq_true rfl) (Nat.le_of_ble_eq_true rfl)
  · obtain ⟨hP, hD⟩ := gk_back hF_1 hB_1 ht_1
    obtain ⟨a_1, rfl, hh_1⟩ := hw_1
    obtain ⟨hL_1, hK_1⟩ := hOK.l hh_1
    refine lv_astore (lv' := [(4, .ref a_1), (0, .ref g), (1, .int k0), (2, .int k1), (3, .int p2)]) hx hb dX2_move_5 hl (by decide) rfl (fun ls hl => ?_)
    refine lv_aload_n hx hb dX2_move_7 rfl (lv_at hl 1 rfl) ?_
    refine lv_iload_n hx hb dX2_move_8 rfl (lv_at hl 3 rfl) ?_
    have hF_2 := gk_all hD hS hA
    refine vx_callq (vx_runV (As := [.int k1]) (rest := []) ⟨hx, hb, hml, hown, hts⟩ (kX2_findLine l hst D cyI cyZ cyL cyV cyJ g lr vr py ga gs ora oc lrow vrow nl nv am pay nc lcd pia Y L K bud fsd las bas mvi mva ear vln vda vam vrf vel vnx k1 H.size _ rfl) (cwV 1 hts gX2_move_X2_findLine rfl rfl rfl (by decide +kernel) ⟨(Nat.le_of_ble_eq_true rfl), (Nat.le_of_ble_eq_true rfl)⟩) (gk_preVT hTF hS hF_2 hP hK hD (va_recv hK hP (ci := 2) (q0 := 0) rfl rfl)) rfl rfl hl.1 rfl (lv_room (Nat.le_of_ble_eq_true rfl)) dX2_move_9 ⟨(Nat.le_of_ble_eq_true rfl), (Nat.le_of_ble_eq_true rfl)⟩) hS (fun q _ h => hF_2 q h) hF_2 (fun q _ h => hF_2 q h) (fun E_2 ce_2 q_2 u_2 t_2 H locs ht_2 hvm_2 hpx_2 hBX_2 hz_2 hk_2 hS hce_2 hcv_2 hcl_2 => ?_) (fun r_2 u_2 t_2 H locs ht_2 hvm_2 hw_2 hB_2 hz_2 hk_2 hS => ?_)
    · obtain ⟨rfl, hB_2⟩ := hBX_2
      obtain ⟨hP, hD⟩ := gk_back hF_2 hB_2 ht_2
      refine vx_out (fun x hx9 => (htb x hx9).elim) hlocks hce_2 hcv_2 hcl_2 (fun t ht hal => ⟨E_2, Or.inr (Or.inl ⟨hpx_2.1, a_1, hh_1, hpx_2.2⟩), ⟨rfl, by rw [ht]; exact hP, va_K.moved hal hK, hD⟩, hS.F ht⟩) hS.2.2 (Nat.le_of_ble_eq_true rfl) (Nat.le_of_ble_eq_true rfl)
    · obtain ⟨hP, hD⟩ := gk_back hF_2 hB_2 ht_2
      obtain ⟨a_2, rfl, hh_2⟩ := hw_2
      obtain ⟨hL_2, hK_2⟩ := hOK.l hh_2
      refine lv_astore (lv' := [(5, .ref a_2), (4, .ref a_1), (0, .ref g), (1, .int k0), (2, .int k1), (3, .int p2)]) hx hb dX2_move_12 hl (by decide) rfl (fun ls hl => ?_)
      refine lv_iload_n hx hb dX2_move_14 rfl (lv_at hl 5 rfl) ?_
      refine lv_iconst (v := 1) hx hb dX2_move_15 (by decide) ?_
      refine lv_ldc hx hb hown (hts (.constant RX2 70 (10000000)) (List.mem_of_getElem? (i := 5) rfl)) dX2_move_16 ?_
      have hF_3 := gk_all hD hS hA
      refine vx_callv (vx_runS (As := [.int p2, .int 1, .int 10000000]) (rest := []) ⟨hx, hb, hml, hown, hts⟩ (kX2_checkRange l hst D (gTy cyI cyZ cyL cyV cyJ) (((g, .inr (2, [.int ga, .int gs, .int ora, .int oc, .ref lr, .int (nI nl), .ref vr, .int (nI nv), .int am, .ref py, .int (nI nc), .int lcd, .int pia])) :: (lr, .inl (cyL, 12, .inr (.inr (.inr (.inr lrow))))) :: (vr, .inl (cyV, 100, .inr (.inr (.inr (.inr vrow))))) :: (py, .inl (cyI, 40, .inl pay)) :: Y : va_W) ++ va_pl L (gE K bud fsd las bas mvi mva ear vln vda vam vrf vel vnx)) p2 1 10000000 H.size _ rfl) (va_cwS 3 hts gX2_move_X2_checkRange rfl rfl rfl (by decide +kernel) ⟨(Nat.le_of_ble_eq_true rfl), (Nat.le_of_ble_eq_true rfl)⟩) (gk_preST hTF hS hF_3 hP hK hD) rfl rfl hl.1 rfl (lv_room (Nat.le_of_ble_eq_true rfl)) dX2_move_18 ⟨(Nat.le_of_ble_eq_true rfl), (Nat.le_of_ble_eq_true rfl)⟩) hS (fun q _ h => hF_3 q h) hF_3 (fun q _ h => hF_3 q h) (fun E_3 ce_3 q_3 u_3 t_3 H locs ht_3 hvm_3 hpx_3 hBX_3 hz_3 hk_3 hS hce_3 hcv_3 hcl_3 => ?_) (fun u_3 t_3 H locs ht_3 hvm_3 hw_3 hB_3 hz_3 hk_3 hS => ?_)
      · obtain ⟨rfl, hB_3⟩ := hBX_3
        obtain ⟨hP, hD⟩ := gk_back hF_3 hB_3 ht_3
        refine vx_out (fun x hx9 => (htb x hx9).elim) hlocks hce_3 hcv_3 hcl_3 (fun t ht hal => ⟨E_3, Or.inr (Or.inr (Or.inl ⟨hpx_3.1, a_1, hh_1, a_2, hh_2, hpx_3.2⟩)), ⟨rfl, by rw [ht]; exact hP, va_K.moved hal hK, hD⟩, hS.F ht⟩) hS.2.2 (Nat.le_of_ble_eq_true rfl) (Nat.le_of_ble_eq_true rfl)
      · obtain ⟨hP, hD⟩ := gk_back hF_3 hB_3 ht_3
        refine lv_aload hx hb dX2_move_21 (lv_at hl 1 rfl) ?_
        refine lv_aload hx hb dX2_move_23 (lv_at hl 0 rfl) ?_
        refine lv_acmp_ne (rx := some a_1) (ry := some a_2) (tgt := 38) hx hb dX2_move_25 (by decide) (fun c_4 => ?_) (fun c_4 => ?_)
        · refine lv_aload hx hb dX2_move_38 (lv_at hl 1 rfl) ?_
          refine gk_get (C := RX0) (T := TX0) (N := 7) (v := .int (mva a_1)) hx hb hts hi0 hown hK hP hL_1 (gE_0 hK_1) rfl 5 (by decide) (hts (.fieldLink RX2 95 "GrantBook$Line" "movedAway" "I") (List.mem_of_getElem? (i := 6) rfl)) (fun _ h9 => h9) rfl dX2_move_40 ?_
          refine lv_iload_n hx hb dX2_move_43 rfl (lv_at hl 5 rfl) ?_
          refine lv_iadd hx hb dX2_move_44 ?_
          refine lv_aload hx hb dX2_move_45 (lv_at hl 1 rfl) ?_
          refine gk_get (C := RX0) (T := TX0) (N := 7) (v := .int (bud a_1)) hx hb hts hi0 hown hK hP hL_1 (gE_0 hK_1) rfl 0 (by decide) (hts (.fieldLink RX2 98 "GrantBook$Line" "budget" "I") (List.mem_of_getElem? (i := 7) rfl)) (fun _ h9 => h9) rfl dX2_move_47 ?_
          refine lv_bipush (v := 10) hx hb dX2_move_50 (by decide) ?_
          refine lv_idiv hx hb dX2_move_52 (by decide) ?_
          refine lv_icmp_le (tgt := 66) hx hb dX2_move_53 (by decide) (fun c_5 => ?_) (fun c_5 => ?_)
          · refine lv_aload hx hb dX2_move_66 (lv_at hl 1 rfl) ?_
            refine lv_dup hx hb dX2_move_68 rfl ?_
            refine gk_get (C := RX0) (T := TX0) (N := 7) (v := .int (mva a_1)) hx hb hts hi0 hown hK hP hL_1 (gE_0 hK_1) rfl 5 (by decide) (hts (.fieldLink RX2 95 "GrantBook$Line" "movedAway" "I") (List.mem_of_getElem? (i := 6) rfl)) (fun _ h9 => h9) rfl dX2_move_69 ?_
            refine lv_iload_n hx hb dX2_move_72 rfl (lv_at hl 5 rfl) ?_
            refine lv_iadd hx hb dX2_move_73 ?_
            refine gk_put (f' := (gE K bud fsd las bas mvi (va_up mva a_1 ((mva a_1) + p2)) ear vln vda vam vrf vel vnx)) (v := .int ((mva a_1) + p2)) (ty := .int) (C := RX0) (T := TX0) (N := 7) hx hb hts hi0 tyX0 tyX0_ok nmX0 hown hK hP hD hS hL_1 (gE_0 hK_1) rfl 5 (by decide) (hts (.fieldLink RX2 95 "GrantBook$Line" "movedAway" "I") (List.mem_of_getElem? (i := 6) rfl)) (fun _ h9 => h9) rfl (by decide +kernel) rfl rfl (Nat.le_of_ble_eq_true rfl) (gU_mva hK_1 ((mva a_1) + p2)) dX2_move_74 (fun H locs hP hD hS => ?_)
            obtain ⟨mva_6, emva_6⟩ : ∃ z, z = (va_up mva a_1 ((mva a_1) + p2)) := ⟨_, rfl⟩
            rw [← emva_6] at hP hD
            refine lv_aload hx hb dX2_move_77 (lv_at hl 0 rfl) ?_
            refine lv_dup hx hb dX2_move_79 rfl ?_
            refine gk_get (C := RX0) (T := TX0) (N := 7) (v := .int (mvi a_2)) hx hb hts hi0 hown hK hP hL_2 (gE_0 hK_2) rfl 4 (by decide) (hts (.fieldLink RX2 103 "GrantBook$Line" "movedIn" "I") (List.mem_of_getElem? (i := 8) rfl)) (fun _ h9 => h9) rfl dX2_move_80 ?_
            refine lv_iload_n hx hb dX2_move_83 rfl (lv_at hl 5 rfl) ?_
            refine lv_iadd hx hb dX2_move_84 ?_
            refine gk_put (f' := (gE K bud fsd las bas (va_up mvi a_2 ((mvi a_2) + p2)) mva_6 ear vln vda vam vrf vel vnx)) (v := .int ((mvi a_2) + p2)) (ty := .int) (C := RX0) (T := TX0) (N := 7) hx hb hts hi0 tyX0 tyX0_ok nmX0 hown hK hP hD hS hL_2 (gE_0 hK_2) rfl 4 (by decide) (hts (.fieldLink RX2 103 "GrantBook$Line" "movedIn" "I") (List.mem_of_getElem? (i := 8) rfl)) (fun _ h9 => h9) rfl (by decide +kernel) rfl rfl (Nat.le_of_ble_eq_true rfl) (gU_mvi hK_2 ((mvi a_2) + p2)) dX2_move_85 (fun H locs hP hD hS => ?_)
            obtain ⟨mvi_7, emvi_7⟩ : ∃ z, z = (va_up mvi a_2 ((mvi a_2) + p2)) := ⟨_, rfl⟩
            rw [← emvi_7] at hP hD
            refine lv_aload hx hb dX2_move_88 (lv_at hl 1 rfl) ?_
            have hF_8 := gk_all hD hS hA
            refine va_callv (va_runV (As := []) (rest := []) ⟨hx, hb, hml, hown, hts⟩ (kX0_reckon l D (gTy cyI cyZ cyL cyV cyJ) ((g, .inr (2, [.int ga, .int gs, .int ora, .int oc, .ref lr, .int (nI nl), .ref vr, .int (nI nv), .int am, .ref py, .int (nI nc), .int lcd, .int pia])) :: (lr, .inl (cyL, 12, .inr (.inr (.inr (.inr lrow))))) :: (vr, .inl (cyV, 100, .inr (.inr (.inr (.inr vrow))))) :: (py, .inl (cyI, 40, .inl pay)) :: Y) L K bud fsd las bas mvi_7 mva_6 ear vln vda vam vrf vel vnx a_1 hL_1 hK_1 (ch a_1) (hOK.2.2 a_1 hL_1 hK_1).1 (hOK.2.2 a_1 hL_1 hK_1).2 H.size _ rfl) (cwV 0 hts gX2_move_X0_reckon rfl rfl rfl (by decide +kernel) ⟨(Nat.le_of_ble_eq_true rfl), (Nat.le_of_ble_eq_true rfl)⟩) (gk_preV hP hK hD (gk_recv hK hP hL_1 (gE_0 hK_1) rfl)) rfl rfl hl.1 rfl (lv_room (Nat.le_of_ble_eq_true rfl)) dX2_move_90 ⟨(Nat.le_of_ble_eq_true rfl), (Nat.le_of_ble_eq_true rfl)⟩) hS (fun q _ h => hF_8 q h) hF_8 (fun u_8 t_8 H locs ht_8 hvm_8 hw_8 hB_8 hz_8 hk_8 hS => ?_)
            obtain ⟨hP, hD⟩ := gk_back hF_8 hB_8 ht_8
            obtain ⟨vel_8, evel_8⟩ : ∃ z, z = u_8 := ⟨_, rfl⟩
            rw [← evel_8] at hP hD hw_8
            refine lv_aload hx hb dX2_move_93 (lv_at hl 0 rfl) ?_
            have hF_9 := gk_all hD hS hA
            refine va_callv (va_runV (As := []) (rest := []) ⟨hx, hb, hml, hown, hts⟩ (kX0_reckon l D (gTy cyI cyZ cyL cyV cyJ) ((g, .inr (2, [.int ga, .int gs, .int ora, .int oc, .ref lr, .int (nI nl), .ref vr, .int (nI nv), .int am, .ref py, .int (nI nc), .int lcd, .int pia])) :: (lr, .inl (cyL, 12, .inr (.inr (.inr (.inr lrow))))) :: (vr, .inl (cyV, 100, .inr (.inr (.inr (.inr vrow))))) :: (py, .inl (cyI, 40, .inl pay)) :: Y) L K bud fsd las bas mvi_7 mva_6 ear vln vda vam vrf vel_8 vnx a_2 hL_2 hK_2 (ch a_2) (hOK.2.2 a_2 hL_2 hK_2).1 (hOK.2.2 a_2 hL_2 hK_2).2 H.size _ rfl) (cwV 0 hts gX2_move_X0_reckon rfl rfl rfl (by decide +kernel) ⟨(Nat.le_of_ble_eq_true rfl), (Nat.le_of_ble_eq_true rfl)⟩) (gk_preV hP hK hD (gk_recv hK hP hL_2 (gE_0 hK_2) rfl)) rfl rfl hl.1 rfl (lv_room (Nat.le_of_ble_eq_true rfl)) dX2_move_95 ⟨(Nat.le_of_ble_eq_true rfl), (Nat.le_of_ble_eq_true rfl)⟩) hS (fun q _ h => hF_9 q h) hF_9 (fun u_9 t_9 H locs ht_9 hvm_9 hw_9 hB_9 hz_9 hk_9 hS => ?_)
            obtain ⟨hP, hD⟩ := gk_back hF_9 hB_9 ht_9
            obtain ⟨vel_9, evel_9⟩ : ∃ z, z = u_9 := ⟨_, rfl⟩
            rw [← evel_9] at hP hD hw_9
            refine lv_aload hx hb dX2_move_98 (lv_at hl 1 rfl) ?_
            have hF_10 := gk_all hD hS hA
            refine va_calli (va_runV (As := []) (rest := []) ⟨hx, hb, hml, hown, hts⟩ (kX0_roomNow l D (gTy cyI cyZ cyL cyV cyJ) ((g, .inr (2, [.int ga, .int gs, .int ora, .int oc, .ref lr, .int (nI nl), .ref vr, .int (nI nv), .int am, .ref py, .int (nI nc), .int lcd, .int pia])) :: (lr, .inl (cyL, 12, .inr (.inr (.inr (.inr lrow))))) :: (vr, .inl (cyV, 100, .inr (.inr (.inr (.inr vrow))))) :: (py, .inl (cyI, 40, .inl pay)) :: Y) L K bud fsd las bas mvi_7 mva_6 ear vln vda vam vrf vel_9 vnx a_1 hL_1 hK_1 H.size _ rfl) (cwV 0 hts gX2_move_X0_roomNow rfl rfl rfl (by decide +kernel) ⟨(Nat.le_of_ble_eq_true rfl), (Nat.le_of_ble_eq_true rfl)⟩) (gk_preV hP hK hD (gk_recv hK hP hL_1 (gE_0 hK_1) rfl)) rfl rfl hl.1 rfl (lv_room (Nat.le_of_ble_eq_true rfl)) dX2_move_100 ⟨(Nat.le_of_ble_eq_true rfl), (Nat.le_of_ble_eq_true rfl)⟩) hS (fun q _ h => hF_10 q h) hF_10 (fun r_10 u_10 t_10 H locs ht_10 hvm_10 hw_10 hB_10 hz_10 hk_10 hS => ?_)
            obtain ⟨hP, hD⟩ := gk_back hF_10 hB_10 ht_10
            subst hw_10
            subst emva_6
            subst emvi_7
            rw [hw_8] at hw_9
            refine W.widen (k := 4) (n := 24) (Nat.le_of_ble_eq_true rfl) (Nat.le_of_ble_eq_true rfl) ?_
            refine vx_ret ?_
            exact W.iret (v := (bud a_1 + (va_up mvi a_2 ((mvi a_2) + p2)) a_1 - (va_up mva a_1 ((mva a_1) + p2)) a_1)) hx hb hr (fun t ht hW => ⟨⟨(bud a_1 + (va_up mvi a_2 ((mvi a_2) + p2)) a_1 - (va_up mva a_1 ((mva a_1) + p2)) a_1), (a_1, a_2, vel_9), rfl, ⟨a_1, hh_1, a_2, hh_2, hw_3, c_4, c_5, rfl, rfl, rfl, hw_9⟩, by rw [ht]; exact hP, va_K.moved hW.alike hK, hD⟩, hS.F ht⟩) hS.2.2 dX2_move_103
          · obtain ⟨sa_11, hsa_11⟩ := hTF.2.2.2 (101, "at most a tenth of a budget can be moved away") (by decide +kernel)
            exact vx_throwS hx hb hst (sa := sa_11) (text := "at most a tenth of a budget can be moved away") (is := 101) (names := ["java/lang/RuntimeException", "java/lang/Exception"]) hown (by decide +kernel) (by decide +kernel) (hts (.classLink RX2 63 "java/lang/IllegalStateException") (List.mem_of_getElem? (i := 3) rfl)) (hts (.initialized "java/lang/IllegalStateException") (List.mem_of_getElem? (i := 4) rfl)) hsa_11 (gk_hat (fun w hw => hts w (List.mem_cons_of_mem _ (List.mem_append_left _ (List.mem_append_right _ hw)))) hTF (by decide +kernel)) (by decide +kernel) hTF.1 hTF.2.1 hS (hl.1.trans hml.symm) dX2_move_56 dX2_move_59 dX2_move_60 dX2_move_62 dX2_move_65 (fun x hx9 => (htb x hx9).elim) (Nat.le_of_ble_eq_true rfl) (Nat.le_of_ble_eq_true rfl) (Nat.le_of_ble_eq_true rfl) (Nat.le_of_ble_eq_true rfl) hlocks (fun t hal hsz9 hkp => ⟨"java/lang/IllegalStateException", Or.inr (Or.inr (Or.inr (Or.inr (⟨rfl, a_1, hh_1, a_2, hh_2, hw_3, c_4, c_5⟩)))), ⟨rfl, hP.kept (fun k q hk => hkp q.1 (vx_lt hP hk)), va_K.moved hal hK, hD⟩, Nat.le_trans hS.1 hsz9, fun q h1 h2 => (hkp q (Nat.lt_of_lt_of_le h1 hS.1)).trans (hS.2.1 q h1 h2)⟩) hS.2.2 (Nat.le_of_ble_eq_true rfl) (Nat.le_of_ble_eq_true rfl)
        · obtain ⟨sa_12, hsa_12⟩ := hTF.2.2.2 (92, "money is moved to another line") (by decide +kernel)
          exact vx_throwS hx hb hst (sa := sa_12) (text := "money is moved to another line") (is := 92) (names := ["java/lang/RuntimeException", "java/lang/Exception"]) hown (by decide +kernel) (by decide +kernel) (hts (.classLink RX2 90 "java/lang/IllegalArgumentException") (List.mem_of_getElem? (i := 1) rfl)) (hts (.initialized "java/lang/IllegalArgumentException") (List.mem_of_getElem? (i := 2) rfl)) hsa_12 (gk_hat (fun w hw => hts w (List.mem_cons_of_mem _ (List.mem_append_left _ (List.mem_append_left _ (List.mem_append_right _ hw))))) hTF (by decide +kernel)) (by decide +kernel) hTF.1 hTF.2.1 hS (hl.1.trans hml.symm) dX2_move_28 dX2_move_31 dX2_move_32 dX2_move_34 dX2_move_37 (fun x hx9 => (htb x hx9).elim) (Nat.le_of_ble_eq_true rfl) (Nat.le_of_ble_eq_true rfl) (Nat.le_of_ble_eq_true rfl) (Nat.le_of_ble_eq_true rfl) hlocks (fun t hal hsz9 hkp => ⟨"java/lang/IllegalArgumentException", Or.inr (Or.inr (Or.inr (Or.inl ⟨rfl, a_1, hh_1, a_2, hh_2, hw_3, (fun h => h c_4)⟩))), ⟨rfl, hP.kept (fun k q hk => hkp q.1 (vx_lt hP hk)), va_K.moved hal hK, hD⟩, Nat.le_trans hS.1 hsz9, fun q h1 h2 => (hkp q (Nat.lt_of_lt_of_le h1 hS.1)).trans (hS.2.1 q h1 h2)⟩) hS.2.2 (Nat.le_of_ble_eq_true rfl) (Nat.le_of_ble_eq_true rfl)
set_option maxHeartbeats 4000000 in
set_option maxRecDepth 100000 in
theorem kX2_lines (l : Launch) (D : va_G) (cyI cyZ cyL cyV cyJ : ClassId) (g lr vr py : Nat) (ga gs ora oc : Int32) (lrow vrow : Nat → Option Nat) (nl nv : Nat) (am : Int32) (pay : Nat → Int32) (nc : Nat) (lcd pia : Int32) (Y : va_W) (L : List Nat) (K : Nat → Nat) (bud fsd las bas mvi mva : Nat → Int32) (ear vln : Nat → Option Nat) (vda vam vrf vel : Nat → Int32) (vnx : Nat → Option Nat) (ch : Nat → List Nat) (hOK : gOK L K lrow vrow ear vln vnx ch) (sz : Nat) (A : Nat → Prop) (hAe : va_A (((g, .inr (2, [.int ga, .int gs, .int ora, .int oc, .ref lr, .int (nI nl), .ref vr, .int (nI nv), .int am, .ref py, .int (nI nc), .int lcd, .int pia])) :: (lr, .inl (cyL, 12, .inr (.inr (.inr (.inr lrow))))) :: (vr, .inl (cyV, 100, .inr (.inr (.inr (.inr vrow))))) :: (py, .inl (cyI, 40, .inl pay)) :: Y : va_W) ++ va_pl L (gE K bud fsd las bas mvi mva ear vln vda vam vrf vel vnx)) sz = A) : Met l yX2_lines wsX2_lines ({ frames := 0, cells := 0, slots := 0, locals := 0 }) (va_Pc [.ref g] (gPre D (gTy cyI cyZ cyL cyV cyJ) (((g, .inr (2, [.int ga, .int gs, .int ora, .int oc, .ref lr, .int (nI nl), .ref vr, .int (nI nv), .int am, .ref py, .int (nI nc), .int lcd, .int pia])) :: (lr, .inl (cyL, 12, .inr (.inr (.inr (.inr lrow))))) :: (vr, .inl (cyV, 100, .inr (.inr (.inr (.inr vrow))))) :: (py, .inl (cyI, 40, .inl pay)) :: Y : va_W) ++ va_pl L (gE K bud fsd las bas mvi mva ear vln vda vam vrf vel vnx)) sz)) (va_Qi (fun (r : Int32) (_ : Unit) => r = nI nl) (fun (_ : Unit) t => gPost D (gTy cyI cyZ cyL cyV cyJ) A (((g, .inr (2, [.int ga, .int gs, .int ora, .int oc, .ref lr, .int (nI nl), .ref vr, .int (nI nv), .int am, .ref py, .int (nI nc), .int lcd, .int pia])) :: (lr, .inl (cyL, 12, .inr (.inr (.inr (.inr lrow))))) :: (vr, .inl (cyV, 100, .inr (.inr (.inr (.inr vrow))))) :: (py, .inl (cyI, 40, .inl pay)) :: Y : va_W) ++ va_pl L (gE K bud fsd las bas mvi mva ear vln vda vam vrf vel vnx)) t) A) 0 0 A := by
  refine Met.ofW (cc := cX2_lines) (maxL := 1) (ret := (some .int)) (by decide) rfl ?_
  intro p e s m args below meth c s₁ B hml hv
  obtain ⟨rfl, hsz, hP, hK, hD0⟩ := hv
  have hx := B.exec
  have hb := B.bytes
  have hr := B.returns
  have hts := atoms_spec (ws := wsX2_lines) B.pre
  have hown : s.vm.findClass RX2 = some m.cls := findClass_of_methodNamed B.named
  have hlocks := B.notSynchronized
  subst hsz
  have hD := hD0.self (sz := s.heap.size)
  rw [hAe] at hD
  have hA : ∀ q : Nat, s.heap.size ≤ q → A q := fun q h => by rw [← hAe]; exact Or.inr h
  have hS : va_S A s.heap s.heap [] := va_S.rf
  have hP : va_P D vwCl (((g, .inr (2, [.int ga, .int gs, .int ora, .int oc, .ref lr, .int (nI nl), .ref vr, .int (nI nv), .int am, .ref py, .int (nI nc), .int lcd, .int pia])) :: (lr, .inl (cyL, 12, .inr (.inr (.inr (.inr lrow))))) :: (vr, .inl (cyV, 100, .inr (.inr (.inr (.inr vrow))))) :: (py, .inl (cyI, 40, .inl pay)) :: Y : va_W) ++ va_pl L (gE K bud fsd las bas mvi mva ear vln vda vam vrf vel vnx)) s.heap := hP
  have hi2 : ∀ w ∈ wsX20, w ∈ wsX2_lines := fun _ h => List.mem_cons_of_mem _ (List.mem_append_right _ h)
  have hl := lv_entry ([.ref g]) (n := 1) (Nat.le_of_ble_eq_true rfl)
  rw [lg_entry_eq]
  generalize (lg_sl ([.ref g]) ++ List.replicate (1 - (lg_sl ([.ref g])).length) Slot.unset).toArray = ls at hl ⊢
  have hl : lv_has ls 1 [(0, .ref g)] := hl
  refine lv_aload_n hx hb dX2_lines_0 rfl (lv_at hl 0 rfl) ?_
  refine va_get (D := D) (ci := 2) (v := .int (nI nl)) (C := RX2) (T := TX2) (N := 13) hx hb hts hi2 hown hK hP 0 rfl rfl 5 (by decide) (hts (.fieldLink RX2 30 "GrantBook" "lineCount" "I") (List.mem_of_getElem? (i := 1) rfl)) (fun _ h9 => h9) rfl dX2_lines_1 ?_
  refine W.widen (k := 0) (n := 0) (Nat.le_of_ble_eq_true rfl) (Nat.le_of_ble_eq_true rfl) ?_
  exact W.iret (v := (nI nl)) hx hb hr (fun t ht hW => ⟨⟨(nI nl), (), rfl, rfl, by rw [ht]; exact hP, va_K.moved hW.alike hK, hD⟩, hS.F ht⟩) hS.2.2 dX2_lines_4
set_option maxHeartbeats 4000000 in
set_option maxRecDepth 100000 in
theorem kX2_vouchers (l : Launch) (D : va_G) (cyI cyZ cyL cyV cyJ : ClassId) (g lr vr py : Nat) (ga gs ora oc : Int32) (lrow vrow : Nat → Option Nat) (nl nv : Nat) (am : Int32) (pay : Nat → Int32) (nc : Nat) (lcd pia : Int32) (Y : va_W) (L : List Nat) (K : Nat → Nat) (bud fsd las bas mvi mva : Nat → Int32) (ear vln : Nat → Option Nat) (vda vam vrf vel : Nat → Int32) (vnx : Nat → Option Nat) (ch : Nat → List Nat) (hOK : gOK L K lrow vrow ear vln vnx ch) (sz : Nat) (A : Nat → Prop) (hAe : va_A (((g, .inr (2, [.int ga, .int gs, .int ora, .int oc, .ref lr, .int (nI nl), .ref vr, .int (nI nv), .int am, .ref py, .int (nI nc), .int lcd, .int pia])) :: (lr, .inl (cyL, 12, .inr (.inr (.inr (.inr lrow))))) :: (vr, .inl (cyV, 100, .inr (.inr (.inr (.inr vrow))))) :: (py, .inl (cyI, 40, .inl pay)) :: Y : va_W) ++ va_pl L (gE K bud fsd las bas mvi mva ear vln vda vam vrf vel vnx)) sz = A) : Met l yX2_vouchers wsX2_vouchers ({ frames := 0, cells := 0, slots := 0, locals := 0 }) (va_Pc [.ref g] (gPre D (gTy cyI cyZ cyL cyV cyJ) (((g, .inr (2, [.int ga, .int gs, .int ora, .int oc, .ref lr, .int (nI nl), .ref vr, .int (nI nv), .int am, .ref py, .int (nI nc), .int lcd, .int pia])) :: (lr, .inl (cyL, 12, .inr (.inr (.inr (.inr lrow))))) :: (vr, .inl (cyV, 100, .inr (.inr (.inr (.inr vrow))))) :: (py, .inl (cyI, 40, .inl pay)) :: Y : va_W) ++ va_pl L (gE K bud fsd las bas mvi mva ear vln vda vam vrf vel vnx)) sz)) (va_Qi (fun (r : Int32) (_ : Unit) => r = nI nv) (fun (_ : Unit) t => gPost D (gTy cyI cyZ cyL cyV cyJ) A (((g, .inr (2, [.int ga, .int gs, .int ora, .int oc, .ref lr, .int (nI nl), .ref vr, .int (nI nv), .int am, .ref py, .int (nI nc), .int lcd, .int pia])) :: (lr, .inl (cyL, 12, .inr (.inr (.inr (.inr lrow))))) :: (vr, .inl (cyV, 100, .inr (.inr (.inr (.inr vrow))))) :: (py, .inl (cyI, 40, .inl pay)) :: Y : va_W) ++ va_pl L (gE K bud fsd las bas mvi mva ear vln vda vam vrf vel vnx)) t) A) 0 0 A := by
  refine Met.ofW (cc := cX2_vouchers) (maxL := 1) (ret := (some .int)) (by decide) rfl ?_
  intro p e s m args below meth c s₁ B hml hv
  obtain ⟨rfl, hsz, hP, hK, hD0⟩ := hv
  have hx := B.exec
  have hb := B.bytes
  have hr := B.returns
  have hts := atoms_spec (ws := wsX2_vouchers) B.pre
  have hown : s.vm.findClass RX2 = some m.cls := findClass_of_methodNamed B.named
  have hlocks := B.notSynchronized
  subst hsz
  have hD := hD0.self (sz := s.heap.size)
  rw [hAe] at hD
  have hA : ∀ q : Nat, s.heap.size ≤ q → A q := fun q h => by rw [← hAe]; exact Or.inr h
  have hS : va_S A s.heap s.heap [] := va_S.rf
  have hP : va_P D vwCl (((g, .inr (2, [.int ga, .int gs, .int ora, .int oc, .ref lr, .int (nI nl), .ref vr, .int (nI nv), .int am, .ref py, .int (nI nc), .int lcd, .int pia])) :: (lr, .inl (cyL, 12, .inr (.inr (.inr (.inr lrow))))) :: (vr, .inl (cyV, 100, .inr (.inr (.inr (.inr vrow))))) :: (py, .inl (cyI, 40, .inl pay)) :: Y : va_W) ++ va_pl L (gE K bud fsd las bas mvi mva ear vln vda vam vrf vel vnx)) s.heap := hP
  have hi2 : ∀ w ∈ wsX20, w ∈ wsX2_vouchers := fun _ h => List.mem_cons_of_mem _ (List.mem_append_right _ h)
  have hl := lv_entry ([.ref g]) (n := 1) (Nat.le_of_ble_eq_true rfl)
  rw [lg_entry_eq]
  generalize (lg_sl ([.ref g]) ++ List.replicate (1 - (lg_sl ([.ref g])).length) Slot.unset).toArray = ls at hl ⊢
  have hl : lv_has ls 1 [(0, .ref g)] := hl
  refine lv_aload_n hx hb dX2_vouchers_0 rfl (lv_at hl 0 rfl) ?_
  refine va_get (D := D) (ci := 2) (v := .int (nI nv)) (C := RX2) (T := TX2) (N := 13) hx hb hts hi2 hown hK hP 0 rfl rfl 7 (by decide) (hts (.fieldLink RX2 39 "GrantBook" "voucherCount" "I") (List.mem_of_getElem? (i := 1) rfl)) (fun _ h9 => h9) rfl dX2_vouchers_1 ?_
  refine W.widen (k := 0) (n := 0) (Nat.le_of_ble_eq_true rfl) (Nat.le_of_ble_eq_true rfl) ?_
  exact W.iret (v := (nI nv)) hx hb hr (fun t ht hW => ⟨⟨(nI nv), (), rfl, rfl, by rw [ht]; exact hP, va_K.moved hW.alike hK, hD⟩, hS.F ht⟩) hS.2.2 dX2_vouchers_4
set_option maxHeartbeats 4000000 in
set_option maxRecDepth 100000 in
theorem kX2_claims (l : Launch) (D : va_G) (cyI cyZ cyL cyV cyJ : ClassId) (g lr vr py : Nat) (ga gs ora oc : Int32) (lrow vrow : Nat → Option Nat) (nl nv : Nat) (am : Int32) (pay : Nat → Int32) (nc : Nat) (lcd pia : Int32) (Y : va_W) (L : List Nat) (K : Nat → Nat) (bud fsd las bas mvi mva : Nat → Int32) (ear vln : Nat → Option Nat) (vda vam vrf vel : Nat → Int32) (vnx : Nat → Option Nat) (ch : Nat → List Nat) (hOK : gOK L K lrow vrow ear vln vnx ch) (sz : Nat) (A : Nat → Prop) (hAe : va_A (((g, .inr (2, [.int ga, .int gs, .int ora, .int oc, .ref lr, .int (nI nl), .ref vr, .int (nI nv), .int am, .ref py, .int (nI nc), .int lcd, .int pia])) :: (lr, .inl (cyL, 12, .inr (.inr (.inr (.inr lrow))))) :: (vr, .inl (cyV, 100, .inr (.inr (.inr (.inr vrow))))) :: (py, .inl (cyI, 40, .inl pay)) :: Y : va_W) ++ va_pl L (gE K bud fsd las bas mvi mva ear vln vda vam vrf vel vnx)) sz = A) : Met l yX2_claims wsX2_claims ({ frames := 0, cells := 0, slots := 0, locals := 0 }) (va_Pc [.ref g] (gPre D (gTy cyI cyZ cyL cyV cyJ) (((g, .inr (2, [.int ga, .int gs, .int ora, .int oc, .ref lr, .int (nI nl), .ref vr, .int (nI nv), .int am, .ref py, .int (nI nc), .int lcd, .int pia])) :: (lr, .inl (cyL, 12, .inr (.inr (.inr (.inr lrow))))) :: (vr, .inl (cyV, 100, .inr (.inr (.inr (.inr vrow))))) :: (py, .inl (cyI, 40, .inl pay)) :: Y : va_W) ++ va_pl L (gE K bud fsd las bas mvi mva ear vln vda vam vrf vel vnx)) sz)) (va_Qi (fun (r : Int32) (_ : Unit) => r = nI nc) (fun (_ : Unit) t => gPost D (gTy cyI cyZ cyL cyV cyJ) A (((g, .inr (2, [.int ga, .int gs, .int ora, .int oc, .ref lr, .int (nI nl), .ref vr, .int (nI nv), .int am, .ref py, .int (nI nc), .int lcd, .int pia])) :: (lr, .inl (cyL, 12, .inr (.inr (.inr (.inr lrow))))) :: (vr, .inl (cyV, 100, .inr (.inr (.inr (.inr vrow))))) :: (py, .inl (cyI, 40, .inl pay)) :: Y : va_W) ++ va_pl L (gE K bud fsd las bas mvi mva ear vln vda vam vrf vel vnx)) t) A) 0 0 A := by
  refine Met.ofW (cc := cX2_claims) (maxL := 1) (ret := (some .int)) (by decide) rfl ?_
  intro p e s m args below meth c s₁ B hml hv
  obtain ⟨rfl, hsz, hP, hK, hD0⟩ := hv
  have hx := B.exec
  have hb := B.bytes
  have hr := B.returns
  have hts := atoms_spec (ws := wsX2_claims) B.pre
  have hown : s.vm.findClass RX2 = some m.cls := findClass_of_methodNamed B.named
  have hlocks := B.notSynchronized
  subst hsz
  have hD := hD0.self (sz := s.heap.size)
  rw [hAe] at hD
  have hA : ∀ q : Nat, s.heap.size ≤ q → A q := fun q h => by rw [← hAe]; exact Or.inr h
  have hS : va_S A s.heap s.heap [] := va_S.rf
  have hP : va_P D vwCl (((g, .inr (2, [.int ga, .int gs, .int ora, .int oc, .ref lr, .int (nI nl), .ref vr, .int (nI nv), .int am, .ref py, .int (nI nc), .int lcd, .int pia])) :: (lr, .inl (cyL, 12, .inr (.inr (.inr (.inr lrow))))) :: (vr, .inl (cyV, 100, .inr (.inr (.inr (.inr vrow))))) :: (py, .inl (cyI, 40, .inl pay)) :: Y : va_W) ++ va_pl L (gE K bud fsd las bas mvi mva ear vln vda vam vrf vel vnx)) s.heap := hP
  have hi2 : ∀ w ∈ wsX20, w ∈ wsX2_claims := fun _ h => List.mem_cons_of_mem _ (List.mem_append_right _ h)
  have hl := lv_entry ([.ref g]) (n := 1) (Nat.le_of_ble_eq_true rfl)
  rw [lg_entry_eq]
  generalize (lg_sl ([.ref g]) ++ List.replicate (1 - (lg_sl ([.ref g])).length) Slot.unset).toArray = ls at hl ⊢
  have hl : lv_has ls 1 [(0, .ref g)] := hl
  refine lv_aload_n hx hb dX2_claims_0 rfl (lv_at hl 0 rfl) ?_
  refine va_get (D := D) (ci := 2) (v := .int (nI nc)) (C := RX2) (T := TX2) (N := 13) hx hb hts hi2 hown hK hP 0 rfl rfl 10 (by decide) (hts (.fieldLink RX2 49 "GrantBook" "claimCount" "I") (List.mem_of_getElem? (i := 1) rfl)) (fun _ h9 => h9) rfl dX2_claims_1 ?_
  refine W.widen (k := 0) (n := 0) (Nat.le_of_ble_eq_true rfl) (Nat.le_of_ble_eq_true rfl) ?_
  exact W.iret (v := (nI nc)) hx hb hr (fun t ht hW => ⟨⟨(nI nc), (), rfl, rfl, by rw [ht]; exact hP, va_K.moved hW.alike hK, hD⟩, hS.F ht⟩) hS.2.2 dX2_claims_4
set_option maxHeartbeats 4000000 in
set_option maxRecDepth 100000 in
theorem kX2_room (l : Launch) (hst : l.stackTraces = false) (D : va_G) (cyI cyZ cyL cyV cyJ : ClassId) (g lr vr py : Nat) (ga gs ora oc : Int32) (lrow vrow : Nat → Option Nat) (nl nv : Nat) (am : Int32) (pay : Nat → Int32) (nc : Nat) (lcd pia : Int32) (Y : va_W) (L : List Nat) (K : Nat → Nat) (bud fsd las bas mvi mva : Nat → Int32) (ear vln : Nat → Option Nat) (vda vam vrf vel : Nat → Int32) (vnx : Nat → Option Nat) (ch : Nat → List Nat) (hOK : gOK L K lrow vrow ear vln vnx ch) (k0 : Int32) (sz : Nat) (A : Nat → Prop) (hAe : va_A (((g, .inr (2, [.int ga, .int gs, .int ora, .int oc, .ref lr, .int (nI nl), .ref vr, .int (nI nv), .int am, .ref py, .int (nI nc), .int lcd, .int pia])) :: (lr, .inl (cyL, 12, .inr (.inr (.inr (.inr lrow))))) :: (vr, .inl (cyV, 100, .inr (.inr (.inr (.inr vrow))))) :: (py, .inl (cyI, 40, .inl pay)) :: Y : va_W) ++ va_pl L (gE K bud fsd las bas mvi mva ear vln vda vam vrf vel vnx)) sz = A) : vx_Met l yX2_room wsX2_room ({ frames := 7, cells := 1, slots := 6, locals := 104 }) (va_Pc [.ref g, .int k0] (gPreT D (gTy cyI cyZ cyL cyV cyJ) (((g, .inr (2, [.int ga, .int gs, .int ora, .int oc, .ref lr, .int (nI nl), .ref vr, .int (nI nv), .int am, .ref py, .int (nI nc), .int lcd, .int pia])) :: (lr, .inl (cyL, 12, .inr (.inr (.inr (.inr lrow))))) :: (vr, .inl (cyV, 100, .inr (.inr (.inr (.inr vrow))))) :: (py, .inl (cyI, 40, .inl pay)) :: Y : va_W) ++ va_pl L (gE K bud fsd las bas mvi mva ear vln vda vam vrf vel vnx)) sz)) (va_Qi (fun (r : Int32) (_ : Unit) => ∃ a, gHas 12 lrow k0 a ∧ r = bud a + mvi a - mva a) (fun (_ : Unit) t => gPost D (gTy cyI cyZ cyL cyV cyJ) A (((g, .inr (2, [.int ga, .int gs, .int ora, .int oc, .ref lr, .int (nI nl), .ref vr, .int (nI nv), .int am, .ref py, .int (nI nc), .int lcd, .int pia])) :: (lr, .inl (cyL, 12, .inr (.inr (.inr (.inr lrow))))) :: (vr, .inl (cyV, 100, .inr (.inr (.inr (.inr vrow))))) :: (py, .inl (cyI, 40, .inl pay)) :: Y : va_W) ++ va_pl L (gE K bud fsd las bas mvi mva ear vln vda vam vrf vel vnx)) t) A) (gThr D (gTy cyI cyZ cyL cyV cyJ) A (((g, .inr (2, [.int ga, .int gs, .int ora, .int oc, .ref lr, .int (nI nl), .ref vr, .int (nI nv), .int am, .ref py, .int (nI nc), .int lcd, .int pia])) :: (lr, .inl (cyL, 12, .inr (.inr (.inr (.inr lrow))))) :: (vr, .inl (cyV, 100, .inr (.inr (.inr (.inr vrow))))) :: (py, .inl (cyI, 40, .inl pay)) :: Y : va_W) ++ va_pl L (gE K bud fsd las bas mvi mva ear vln vda vam vrf vel vnx)) (fun E => (E = "java/lang/IndexOutOfBoundsException" ∧ ¬ ∃ a, gHas 12 lrow k0 a))) 1 6 A := by
  refine vx_ofW (cc := cX2_room) (maxL := 2) (ret := (some .int)) (by decide) rfl ?_
  intro p e s m args below meth c s₁ B hml htb hv
  obtain ⟨rfl, hTF, hsz, hP, hK, hD0⟩ := hv
  have hx := B.exec
  have hb := B.bytes
  have hr := B.returns
  have hts := atoms_spec (ws := wsX2_room) B.pre
  have hown : s.vm.findClass RX2 = some m.cls := findClass_of_methodNamed B.named
  have hlocks := B.notSynchronized
  subst hsz
  have hD := hD0.self (sz := s.heap.size)
  rw [hAe] at hD hTF
  have hA : ∀ q : Nat, s.heap.size ≤ q → A q := fun q h => by rw [← hAe]; exact Or.inr h
  have hS : va_S A s.heap s.heap [] := va_S.rf
  have hP : va_P D vwCl (((g, .inr (2, [.int ga, .int gs, .int ora, .int oc, .ref lr, .int (nI nl), .ref vr, .int (nI nv), .int am, .ref py, .int (nI nc), .int lcd, .int pia])) :: (lr, .inl (cyL, 12, .inr (.inr (.inr (.inr lrow))))) :: (vr, .inl (cyV, 100, .inr (.inr (.inr (.inr vrow))))) :: (py, .inl (cyI, 40, .inl pay)) :: Y : va_W) ++ va_pl L (gE K bud fsd las bas mvi mva ear vln vda vam vrf vel vnx)) s.heap := hP
  have hl := lv_entry ([.ref g, .int k0]) (n := 2) (Nat.le_of_ble_eq_true rfl)
  rw [lg_entry_eq]
  generalize (lg_sl ([.ref g, .int k0]) ++ List.replicate (2 - (lg_sl ([.ref g, .int k0])).length) Slot.unset).toArray = ls at hl ⊢
  have hl : lv_has ls 2 [(0, .ref g), (1, .int k0)] := hl
  refine lv_aload_n hx hb dX2_room_0 rfl (lv_at hl 0 rfl) ?_
  refine lv_iload_n hx hb dX2_room_1 rfl (lv_at hl 1 rfl) ?_
  have hF_1 := gk_all hD hS hA
  refine vx_callq (vx_runV (As := [.int k0]) (rest := []) ⟨hx, hb, hml, hown, hts⟩ (kX2_findLine l hst D cyI cyZ cyL cyV cyJ g lr vr py ga gs ora oc lrow vrow nl nv am pay nc lcd pia Y L K bud fsd las bas mvi mva ear vln vda vam vrf vel vnx k0 s.heap.size _ rfl) (cwV 1 hts gX2_room_X2_findLine rfl rfl rfl (by decide +kernel) ⟨(Nat.le_of_ble_eq_true rfl), (Nat.le_of_ble_eq_true rfl)⟩) (gk_preVT hTF hS hF_1 hP hK hD (va_recv hK hP (ci := 2) (q0 := 0) rfl rfl)) rfl rfl hl.1 rfl (lv_room (Nat.le_of_ble_eq_true rfl)) dX2_room_2 ⟨(Nat.le_of_ble_eq_true rfl), (Nat.le_of_ble_eq_true rfl)⟩) hS (fun q _ h => hF_1 q h) hF_1 (fun q _ h => hF_1 q h) (fun E_1 ce_1 q_1 u_1 t_1 H locs ht_1 hvm_1 hpx_1 hBX_1 hz_1 hk_1 hS hce_1 hcv_1 hcl_1 => ?_) (fun r_1 u_1 t_1 H locs ht_1 hvm_1 hw_1 hB_1 hz_1 hk_1 hS => ?_)
  · obtain ⟨rfl, hB_1⟩ := hBX_1
    obtain ⟨hP, hD⟩ := gk_back hF_1 hB_1 ht_1
    refine vx_out (fun x hx9 => (htb x hx9).elim) hlocks hce_1 hcv_1 hcl_1 (fun t ht hal => ⟨E_1, ⟨hpx_1.1, hpx_1.2⟩, ⟨rfl, by rw [ht]; exact hP, va_K.moved hal hK, hD⟩, hS.F ht⟩) hS.2.2 (Nat.le_of_ble_eq_true rfl) (Nat.le_of_ble_eq_true rfl)
  · obtain ⟨hP, hD⟩ := gk_back hF_1 hB_1 ht_1
    obtain ⟨a_1, rfl, hh_1⟩ := hw_1
    obtain ⟨hL_1, hK_1⟩ := hOK.l hh_1
    have hF_2 := gk_all hD hS hA
    refine va_calli (va_runV (As := []) (rest := []) ⟨hx, hb, hml, hown, hts⟩ (kX0_roomNow l D (gTy cyI cyZ cyL cyV cyJ) ((g, .inr (2, [.int ga, .int gs, .int ora, .int oc, .ref lr, .int (nI nl), .ref vr, .int (nI nv), .int am, .ref py, .int (nI nc), .int lcd, .int pia])) :: (lr, .inl (cyL, 12, .inr (.inr (.inr (.inr lrow))))) :: (vr, .inl (cyV, 100, .inr (.inr (.inr (.inr vrow))))) :: (py, .inl (cyI, 40, .inl pay)) :: Y) L K bud fsd las bas mvi mva ear vln vda vam vrf vel vnx a_1 hL_1 hK_1 H.size _ rfl) (cwV 0 hts gX2_room_X0_roomNow rfl rfl rfl (by decide +kernel) ⟨(Nat.le_of_ble_eq_true rfl), (Nat.le_of_ble_eq_true rfl)⟩) (gk_preV hP hK hD (gk_recv hK hP hL_1 (gE_0 hK_1) rfl)) rfl rfl hl.1 rfl (lv_room (Nat.le_of_ble_eq_true rfl)) dX2_room_5 ⟨(Nat.le_of_ble_eq_true rfl), (Nat.le_of_ble_eq_true rfl)⟩) hS (fun q _ h => hF_2 q h) hF_2 (fun r_2 u_2 t_2 H locs ht_2 hvm_2 hw_2 hB_2 hz_2 hk_2 hS => ?_)
    obtain ⟨hP, hD⟩ := gk_back hF_2 hB_2 ht_2
    subst hw_2
    refine W.widen (k := 1) (n := 6) (Nat.le_of_ble_eq_true rfl) (Nat.le_of_ble_eq_true rfl) ?_
    refine vx_ret ?_
    exact W.iret (v := (bud a_1 + mvi a_1 - mva a_1)) hx hb hr (fun t ht hW => ⟨⟨(bud a_1 + mvi a_1 - mva a_1), (), rfl, ⟨a_1, hh_1, rfl⟩, by rw [ht]; exact hP, va_K.moved hW.alike hK, hD⟩, hS.F ht⟩) hS.2.2 dX2_room_8
set_option maxHeartbeats 4000000 in
set_option maxRecDepth 100000 in
theorem kX2_left (l : Launch) (hst : l.stackTraces = false) (D : va_G) (cyI cyZ cyL cyV cyJ : ClassId) (g lr vr py : Nat) (ga gs ora oc : Int32) (lrow vrow : Nat → Option Nat) (nl nv : Nat) (am : Int32) (pay : Nat → Int32) (nc : Nat) (lcd pia : Int32) (Y : va_W) (L : List Nat) (K : Nat → Nat) (bud fsd las bas mvi mva : Nat → Int32) (ear vln : Nat → Option Nat) (vda vam vrf vel : Nat → Int32) (vnx : Nat → Option Nat) (ch : Nat → List Nat) (hOK : gOK L K lrow vrow ear vln vnx ch) (k0 : Int32) (sz : Nat) (A : Nat → Prop) (hAe : va_A (((g, .inr (2, [.int ga, .int gs, .int ora, .int oc, .ref lr, .int (nI nl), .ref vr, .int (nI nv), .int am, .ref py, .int (nI nc), .int lcd, .int pia])) :: (lr, .inl (cyL, 12, .inr (.inr (.inr (.inr lrow))))) :: (vr, .inl (cyV, 100, .inr (.inr (.inr (.inr vrow))))) :: (py, .inl (cyI, 40, .inl pay)) :: Y : va_W) ++ va_pl L (gE K bud fsd las bas mvi mva ear vln vda vam vrf vel vnx)) sz = A) : vx_Met l yX2_left wsX2_left ({ frames := 7, cells := 1, slots := 6, locals := 104 }) (va_Pc [.ref g, .int k0] (gPreT D (gTy cyI cyZ cyL cyV cyJ) (((g, .inr (2, [.int ga, .int gs, .int ora, .int oc, .ref lr, .int (nI nl), .ref vr, .int (nI nv), .int am, .ref py, .int (nI nc), .int lcd, .int pia])) :: (lr, .inl (cyL, 12, .inr (.inr (.inr (.inr lrow))))) :: (vr, .inl (cyV, 100, .inr (.inr (.inr (.inr vrow))))) :: (py, .inl (cyI, 40, .inl pay)) :: Y : va_W) ++ va_pl L (gE K bud fsd las bas mvi mva ear vln vda vam vrf vel vnx)) sz)) (va_Qi (fun (r : Int32) (_ : Unit) => ∃ a, gHas 12 lrow k0 a ∧ r = bud a + mvi a - mva a - gSu vel vda 9999 (ch a) 0) (fun (_ : Unit) t => gPost D (gTy cyI cyZ cyL cyV cyJ) A (((g, .inr (2, [.int ga, .int gs, .int ora, .int oc, .ref lr, .int (nI nl), .ref vr, .int (nI nv), .int am, .ref py, .int (nI nc), .int lcd, .int pia])) :: (lr, .inl (cyL, 12, .inr (.inr (.inr (.inr lrow))))) :: (vr, .inl (cyV, 100, .inr (.inr (.inr (.inr vrow))))) :: (py, .inl (cyI, 40, .inl pay)) :: Y : va_W) ++ va_pl L (gE K bud fsd las bas mvi mva ear vln vda vam vrf vel vnx)) t) A) (gThr D (gTy cyI cyZ cyL cyV cyJ) A (((g, .inr (2, [.int ga, .int gs, .int ora, .int oc, .ref lr, .int (nI nl), .ref vr, .int (nI nv), .int am, .ref py, .int (nI nc), .int lcd, .int pia])) :: (lr, .inl (cyL, 12, .inr (.inr (.inr (.inr lrow))))) :: (vr, .inl (cyV, 100, .inr (.inr (.inr (.inr vrow))))) :: (py, .inl (cyI, 40, .inl pay)) :: Y : va_W) ++ va_pl L (gE K bud fsd las bas mvi mva ear vln vda vam vrf vel vnx)) (fun E => (E = "java/lang/IndexOutOfBoundsException" ∧ ¬ ∃ a, gHas 12 lrow k0 a))) 1 6 A := by
  refine vx_ofW (cc := cX2_left) (maxL := 3) (ret := (some .int)) (by decide) rfl ?_
  intro p e s m args below meth c s₁ B hml htb hv
  obtain ⟨rfl, hTF, hsz, hP, hK, hD0⟩ := hv
  have hx := B.exec
  have hb := B.bytes
  have hr := B.returns
  have hts := atoms_spec (ws := wsX2_left) B.pre
  have hown : s.vm.findClass RX2 = some m.cls := findClass_of_methodNamed B.named
  have hlocks := B.notSynchronized
  subst hsz
  have hD := hD0.self (sz := s.heap.size)
  rw [hAe] at hD hTF
  have hA : ∀ q : Nat, s.heap.size ≤ q → A q := fun q h => by rw [← hAe]; exact Or.inr h
  have hS : va_S A s.heap s.heap [] := va_S.rf
  have hP : va_P D vwCl (((g, .inr (2, [.int ga, .int gs, .int ora, .int oc, .ref lr, .int (nI nl), .ref vr, .int (nI nv), .int am, .ref py, .int (nI nc), .int lcd, .int pia])) :: (lr, .inl (cyL, 12, .inr (.inr (.inr (.inr lrow))))) :: (vr, .inl (cyV, 100, .inr (.inr (.inr (.inr vrow))))) :: (py, .inl (cyI, 40, .inl pay)) :: Y : va_W) ++ va_pl L (gE K bud fsd las bas mvi mva ear vln vda vam vrf vel vnx)) s.heap := hP
  have hl := lv_entry ([.ref g, .int k0]) (n := 3) (Nat.le_of_ble_eq_true rfl)
  rw [lg_entry_eq]
  generalize (lg_sl ([.ref g, .int k0]) ++ List.replicate (3 - (lg_sl ([.ref g, .int k0])).length) Slot.unset).toArray = ls at hl ⊢
  have hl : lv_has ls 3 [(0, .ref g), (1, .int k0)] := hl
  refine lv_aload_n hx hb dX2_left_0 rfl (lv_at hl 0 rfl) ?_
  refine lv_iload_n hx hb dX2_left_1 rfl (lv_at hl 1 rfl) ?_
  have hF_1 := gk_all hD hS hA
  refine vx_callq (vx_runV (As := [.int k0]) (rest := []) ⟨hx, hb, hml, hown, hts⟩ (kX2_findLine l hst D cyI cyZ cyL cyV cyJ g lr vr py ga gs ora oc lrow vrow nl nv am pay nc lcd pia Y L K bud fsd las bas mvi mva ear vln vda vam vrf vel vnx k0 s.heap.size _ rfl) (cwV 1 hts gX2_left_X2_findLine rfl rfl rfl (by decide +kernel) ⟨(Nat.le_of_ble_eq_true rfl), (Nat.le_of_ble_eq_true rfl)⟩) (gk_preVT hTF hS hF_1 hP hK hD (va_recv hK hP (ci := 2) (q0 := 0) rfl rfl)) rfl rfl hl.1 rfl (lv_room (Nat.le_of_ble_eq_true rfl)) dX2_left_2 ⟨(Nat.le_of_ble_eq_true rfl), (Nat.le_of_ble_eq_true rfl)⟩) hS (fun q _ h => hF_1 q h) hF_1 (fun q _ h => hF_1 q h) (fun E_1 ce_1 q_1 u_1 t_1 H locs ht_1 hvm_1 hpx_1 hBX_1 hz_1 hk_1 hS hce_1 hcv_1 hcl_1 => ?_) (fun r_1 u_1 t_1 H locs ht_1 hvm_1 hw_1 hB_1 hz_1 hk_1 hS => ?_)
  · obtain ⟨rfl, hB_1⟩ := hBX_1
    obtain ⟨hP, hD⟩ := gk_back hF_1 hB_1 ht_1
    refine vx_out (fun x hx9 => (htb x hx9).elim) hlocks hce_1 hcv_1 hcl_1 (fun t ht hal => ⟨E_1, ⟨hpx_1.1, hpx_1.2⟩, ⟨rfl, by rw [ht]; exact hP, va_K.moved hal hK, hD⟩, hS.F ht⟩) hS.2.2 (Nat.le_of_ble_eq_true rfl) (Nat.le_of_ble_eq_true rfl)
  · obtain ⟨hP, hD⟩ := gk_back hF_1 hB_1 ht_1
    obtain ⟨a_1, rfl, hh_1⟩ := hw_1
    obtain ⟨hL_1, hK_1⟩ := hOK.l hh_1
    refine lv_astore_n (lv' := [(2, .ref a_1), (0, .ref g), (1, .int k0)]) hx hb dX2_left_5 rfl hl (by decide) rfl (fun ls hl => ?_)
    refine lv_aload_n hx hb dX2_left_6 rfl (lv_at hl 0 rfl) ?_
    have hF_2 := gk_all hD hS hA
    refine va_calli (va_runV (As := []) (rest := []) ⟨hx, hb, hml, hown, hts⟩ (kX0_roomNow l D (gTy cyI cyZ cyL cyV cyJ) ((g, .inr (2, [.int ga, .int gs, .int ora, .int oc, .ref lr, .int (nI nl), .ref vr, .int (nI nv), .int am, .ref py, .int (nI nc), .int lcd, .int pia])) :: (lr, .inl (cyL, 12, .inr (.inr (.inr (.inr lrow))))) :: (vr, .inl (cyV, 100, .inr (.inr (.inr (.inr vrow))))) :: (py, .inl (cyI, 40, .inl pay)) :: Y) L K bud fsd las bas mvi mva ear vln vda vam vrf vel vnx a_1 hL_1 hK_1 H.size _ rfl) (cwV 0 hts gX2_left_X0_roomNow rfl rfl rfl (by decide +kernel) ⟨(Nat.le_of_ble_eq_true rfl), (Nat.le_of_ble_eq_true rfl)⟩) (gk_preV hP hK hD (gk_recv hK hP hL_1 (gE_0 hK_1) rfl)) rfl rfl hl.1 rfl (lv_room (Nat.le_of_ble_eq_true rfl)) dX2_left_7 ⟨(Nat.le_of_ble_eq_true rfl), (Nat.le_of_ble_eq_true rfl)⟩) hS (fun q _ h => hF_2 q h) hF_2 (fun r_2 u_2 t_2 H locs ht_2 hvm_2 hw_2 hB_2 hz_2 hk_2 hS => ?_)
    obtain ⟨hP, hD⟩ := gk_back hF_2 hB_2 ht_2
    subst hw_2
    refine lv_aload_n hx hb dX2_left_10 rfl (lv_at hl 0 rfl) ?_
    refine lv_sipush (v := 9999) hx hb dX2_left_11 (by decide) ?_
    have hF_3 := gk_all hD hS hA
    refine va_calli (va_runV (As := [.int 9999]) (rest := [.int (bud a_1 + mvi a_1 - mva a_1)]) ⟨hx, hb, hml, hown, hts⟩ (kX0_eligibleUpTo l D (gTy cyI cyZ cyL cyV cyJ) ((g, .inr (2, [.int ga, .int gs, .int ora, .int oc, .ref lr, .int (nI nl), .ref vr, .int (nI nv), .int am, .ref py, .int (nI nc), .int lcd, .int pia])) :: (lr, .inl (cyL, 12, .inr (.inr (.inr (.inr lrow))))) :: (vr, .inl (cyV, 100, .inr (.inr (.inr (.inr vrow))))) :: (py, .inl (cyI, 40, .inl pay)) :: Y) L K bud fsd las bas mvi mva ear vln vda vam vrf vel vnx a_1 hL_1 hK_1 (ch a_1) (hOK.2.2 a_1 hL_1 hK_1).1 (hOK.2.2 a_1 hL_1 hK_1).2 9999 H.size _ rfl) (cwV 1 hts gX2_left_X0_eligibleUpTo rfl rfl rfl (by decide +kernel) ⟨(Nat.le_of_ble_eq_true rfl), (Nat.le_of_ble_eq_true rfl)⟩) (gk_preV hP hK hD (gk_recv hK hP hL_1 (gE_0 hK_1) rfl)) rfl rfl hl.1 rfl (lv_room (Nat.le_of_ble_eq_true rfl)) dX2_left_14 ⟨(Nat.le_of_ble_eq_true rfl), (Nat.le_of_ble_eq_true rfl)⟩) hS (fun q _ h => hF_3 q h) hF_3 (fun r_3 u_3 t_3 H locs ht_3 hvm_3 hw_3 hB_3 hz_3 hk_3 hS => ?_)
    obtain ⟨hP, hD⟩ := gk_back hF_3 hB_3 ht_3
    subst hw_3
    refine lv_isub hx hb dX2_left_17 ?_
    refine W.widen (k := 1) (n := 6) (Nat.le_of_ble_eq_true rfl) (Nat.le_of_ble_eq_true rfl) ?_
    refine vx_ret ?_
    exact W.iret (v := ((bud a_1 + mvi a_1 - mva a_1) - (gSu vel vda 9999 (ch a_1) 0))) hx hb hr (fun t ht hW => ⟨⟨((bud a_1 + mvi a_1 - mva a_1) - (gSu vel vda 9999 (ch a_1) 0)), (), rfl, ⟨a_1, hh_1, rfl⟩, by rw [ht]; exact hP, va_K.moved hW.alike hK, hD⟩, hS.F ht⟩) hS.2.2 dX2_left_18
set_option maxHeartbeats 4000000 in
set_option maxRecDepth 100000 in
theorem kX2_refuse (l : Launch) (hst : l.stackTraces = false) (D : va_G) (cyI cyZ cyL cyV cyJ : ClassId) (g lr vr py : Nat) (ga gs ora oc : Int32) (lrow vrow : Nat → Option Nat) (nl nv : Nat) (am : Int32) (pay : Nat → Int32) (nc : Nat) (lcd pia : Int32) (Y : va_W) (L : List Nat) (K : Nat → Nat) (bud fsd las bas mvi mva : Nat → Int32) (ear vln : Nat → Option Nat) (vda vam vrf vel : Nat → Int32) (vnx : Nat → Option Nat) (ch : Nat → List Nat) (hOK : gOK L K lrow vrow ear vln vnx ch) (k0 : Int32) (sz : Nat) (A : Nat → Prop) (hAe : va_A (((g, .inr (2, [.int ga, .int gs, .int ora, .int oc, .ref lr, .int (nI nl), .ref vr, .int (nI nv), .int am, .ref py, .int (nI nc), .int lcd, .int pia])) :: (lr, .inl (cyL, 12, .inr (.inr (.inr (.inr lrow))))) :: (vr, .inl (cyV, 100, .inr (.inr (.inr (.inr vrow))))) :: (py, .inl (cyI, 40, .inl pay)) :: Y : va_W) ++ va_pl L (gE K bud fsd las bas mvi mva ear vln vda vam vrf vel vnx)) sz = A) : vx_Met l yX2_refuse wsX2_refuse ({ frames := 7, cells := 2, slots := 12, locals := 104 }) (va_Pc [.ref g, .int k0] (gPreT D (gTy cyI cyZ cyL cyV cyJ) (((g, .inr (2, [.int ga, .int gs, .int ora, .int oc, .ref lr, .int (nI nl), .ref vr, .int (nI nv), .int am, .ref py, .int (nI nc), .int lcd, .int pia])) :: (lr, .inl (cyL, 12, .inr (.inr (.inr (.inr lrow))))) :: (vr, .inl (cyV, 100, .inr (.inr (.inr (.inr vrow))))) :: (py, .inl (cyI, 40, .inl pay)) :: Y : va_W) ++ va_pl L (gE K bud fsd las bas mvi mva ear vln vda vam vrf vel vnx)) sz)) (va_Qi (fun (r : Int32) (u : Nat × (Nat → Int32)) => ∃ v, gHas 100 vrow k0 v ∧ vrf v = 0 ∧ ∃ b, vln v = some b ∧ u.1 = v ∧ r = -(gSu u.2 vda 9999 (ch b) 0 - gSu vel vda 9999 (ch b) 0) ∧ u.2 = gRk (fsd b) (las b) (va_up vrf v 1) vda vam (ch b) (bud b + mvi b - mva b) vel) (fun (u : Nat × (Nat → Int32)) t => gPost D (gTy cyI cyZ cyL cyV cyJ) A (((g, .inr (2, [.int ga, .int gs, .int ora, .int oc, .ref lr, .int (nI nl), .ref vr, .int (nI nv), .int am, .ref py, .int (nI nc), .int lcd, .int pia])) :: (lr, .inl (cyL, 12, .inr (.inr (.inr (.inr lrow))))) :: (vr, .inl (cyV, 100, .inr (.inr (.inr (.inr vrow))))) :: (py, .inl (cyI, 40, .inl pay)) :: Y : va_W) ++ va_pl L (gE K bud fsd las bas mvi mva ear vln vda vam (va_up vrf u.1 1) u.2 vnx)) t) A) (gThr D (gTy cyI cyZ cyL cyV cyJ) A (((g, .inr (2, [.int ga, .int gs, .int ora, .int oc, .ref lr, .int (nI nl), .ref vr, .int (nI nv), .int am, .ref py, .int (nI nc), .int lcd, .int pia])) :: (lr, .inl (cyL, 12, .inr (.inr (.inr (.inr lrow))))) :: (vr, .inl (cyV, 100, .inr (.inr (.inr (.inr vrow))))) :: (py, .inl (cyI, 40, .inl pay)) :: Y : va_W) ++ va_pl L (gE K bud fsd las bas mvi mva ear vln vda vam vrf vel vnx)) (fun E => (E = "java/lang/IndexOutOfBoundsException" ∧ ¬ ∃ v, gHas 100 vrow k0 v) ∨ (E = "java/lang/IllegalStateException" ∧ ∃ v, gHas 100 vrow k0 v ∧ ¬ (vrf v = 0)))) 2 12 A := by
  refine vx_ofW (cc := cX2_refuse) (maxL := 3) (ret := (some .int)) (by decide) rfl ?_
  intro p e s m args below meth c s₁ B hml htb hv
  obtain ⟨rfl, hTF, hsz, hP, hK, hD0⟩ := hv
  have hx := B.exec
  have hb := B.bytes
  have hr := B.returns
  have hts := atoms_spec (ws := wsX2_refuse) B.pre
  have hown : s.vm.findClass RX2 = some m.cls := findClass_of_methodNamed B.named
  have hlocks := B.notSynchronized
  subst hsz
  have hD := hD0.self (sz := s.heap.size)
  rw [hAe] at hD hTF
  have hA : ∀ q : Nat, s.heap.size ≤ q → A q := fun q h => by rw [← hAe]; exact Or.inr h
  have hS : va_S A s.heap s.heap [] := va_S.rf
  have hP : va_P D vwCl (((g, .inr (2, [.int ga, .int gs, .int ora, .int oc, .ref lr, .int (nI nl), .ref vr, .int (nI nv), .int am, .ref py, .int (nI nc), .int lcd, .int pia])) :: (lr, .inl (cyL, 12, .inr (.inr (.inr (.inr lrow))))) :: (vr, .inl (cyV, 100, .inr (.inr (.inr (.inr vrow))))) :: (py, .inl (cyI, 40, .inl pay)) :: Y : va_W) ++ va_pl L (gE K bud fsd las bas mvi mva ear vln vda vam vrf vel vnx)) s.heap := hP
  have hi1 : ∀ w ∈ wsX10, w ∈ wsX2_refuse := fun _ h => List.mem_cons_of_mem _ (List.mem_append_left _ (List.mem_append_left _ (List.mem_append_left _ (List.mem_append_left _ (List.mem_append_right _ h)))))
  have hl := lv_entry ([.ref g, .int k0]) (n := 3) (Nat.le_of_ble_eq_true rfl)
  rw [lg_entry_eq]
  generalize (lg_sl ([.ref g, .int k0]) ++ List.replicate (3 - (lg_sl ([.ref g, .int k0])).length) Slot.unset).toArray = ls at hl ⊢
  have hl : lv_has ls 3 [(0, .ref g), (1, .int k0)] := hl
  refine lv_aload_n hx hb dX2_refuse_0 rfl (lv_at hl 0 rfl) ?_
  refine lv_iload_n hx hb dX2_refuse_1 rfl (lv_at hl 1 rfl) ?_
  have hF_1 := gk_all hD hS hA
  refine vx_callq (vx_runV (As := [.int k0]) (rest := []) ⟨hx, hb, hml, hown, hts⟩ (kX2_findVoucher l hst D cyI cyZ cyL cyV cyJ g lr vr py ga gs ora oc lrow vrow nl nv am pay nc lcd pia Y L K bud fsd las bas mvi mva ear vln vda vam vrf vel vnx k0 s.heap.size _ rfl) (cwV 1 hts gX2_refuse_X2_findVoucher rfl rfl rfl (by decide +kernel) ⟨(Nat.le_of_ble_eq_true rfl), (Nat.le_of_ble_eq_true rfl)⟩) (gk_preVT hTF hS hF_1 hP hK hD (va_recv hK hP (ci := 2) (q0 := 0) rfl rfl)) rfl rfl hl.1 rfl (lv_room (Nat.le_of_ble_eq_true rfl)) dX2_refuse_2 ⟨(Nat.le_of_ble_eq_true rfl), (Nat.le_of_ble_eq_true rfl)⟩) hS (fun q _ h => hF_1 q h) hF_1 (fun q _ h => hF_1 q h) (fun E_1 ce_1 q_1 u_1 t_1 H locs ht_1 hvm_1 hpx_1 hBX_1 hz_1 hk_1 hS hce_1 hcv_1 hcl_1 => ?_) (fun r_1 u_1 t_1 H locs ht_1 hvm_1 hw_1 hB_1 hz_1 hk_1 hS => ?_)
  · obtain ⟨rfl, hB_1⟩ := hBX_1
    obtain ⟨hP, hD⟩ := gk_back hF_1 hB_1 ht_1
    refine vx_out (fun x hx9 => (htb x hx9).elim) hlocks hce_1 hcv_1 hcl_1 (fun t ht hal => ⟨E_1, Or.inl ⟨hpx_1.1, hpx_1.2⟩, ⟨rfl, by rw [ht]; exact hP, va_K.moved hal hK, hD⟩, hS.F ht⟩) hS.2.2 (Nat.le_of_ble_eq_true rfl) (Nat.le_of_ble_eq_true rfl)
  · obtain ⟨hP, hD⟩ := gk_back hF_1 hB_1 ht_1
    obtain ⟨a_1, rfl, hh_1⟩ := hw_1
    obtain ⟨hL_1, hK_1, b_1, hv_1, hLb_1, hKb_1⟩ := hOK.v hh_1
    refine lv_astore_n (lv' := [(2, .ref a_1), (0, .ref g), (1, .int k0)]) hx hb dX2_refuse_5 rfl hl (by decide) rfl (fun ls hl => ?_)
    refine lv_aload_n hx hb dX2_refuse_6 rfl (lv_at hl 0 rfl) ?_
    refine gk_get (C := RX1) (T := TX1) (N := 6) (v := .int (vrf a_1)) hx hb hts hi1 hown hK hP hL_1 (gE_1 hK_1) rfl 3 (by decide) (hts (.fieldLink RX2 127 "GrantBook$Voucher" "isRefused" "Z") (List.mem_of_getElem? (i := 3) rfl)) (fun _ h9 => h9) rfl dX2_refuse_7 ?_
    refine lv_if_eq (tgt := 23) hx hb dX2_refuse_10 (by decide) (fun c_2 => ?_) (fun c_2 => ?_)
    · refine lv_aload_n hx hb dX2_refuse_23 rfl (lv_at hl 0 rfl) ?_
      refine lv_iconst (v := 1) hx hb dX2_refuse_24 (by decide) ?_
      have hF_3 := gk_all hD hS hA
      refine va_calli (va_runS (As := [.ref a_1, .int 1]) (rest := []) ⟨hx, hb, hml, hown, hts⟩ (kX2_eligibleMoreWith l D (gTy cyI cyZ cyL cyV cyJ) ((g, .inr (2, [.int ga, .int gs, .int ora, .int oc, .ref lr, .int (nI nl), .ref vr, .int (nI nv), .int am, .ref py, .int (nI nc), .int lcd, .int pia])) :: (lr, .inl (cyL, 12, .inr (.inr (.inr (.inr lrow))))) :: (vr, .inl (cyV, 100, .inr (.inr (.inr (.inr vrow))))) :: (py, .inl (cyI, 40, .inl pay)) :: Y) L K bud fsd las bas mvi mva ear vln vda vam vrf vel vnx a_1 hL_1 hK_1 b_1 hLb_1 hKb_1 hv_1 (ch b_1) (hOK.2.2 b_1 hLb_1 hKb_1).1 (hOK.2.2 b_1 hLb_1 hKb_1).2 1 (by decide) H.size _ rfl) (va_cwS 2 hts gX2_refuse_X2_eligibleMoreWith rfl rfl rfl (by decide +kernel) ⟨(Nat.le_of_ble_eq_true rfl), (Nat.le_of_ble_eq_true rfl)⟩) (gk_preS hP hK hD) rfl rfl hl.1 rfl (lv_room (Nat.le_of_ble_eq_true rfl)) dX2_refuse_25 ⟨(Nat.le_of_ble_eq_true rfl), (Nat.le_of_ble_eq_true rfl)⟩) hS (fun q _ h => hF_3 q h) hF_3 (fun r_3 u_3 t_3 H locs ht_3 hvm_3 hw_3 hB_3 hz_3 hk_3 hS => ?_)
      obtain ⟨hP, hD⟩ := gk_back hF_3 hB_3 ht_3
      obtain ⟨hr_3, hw_3⟩ := hw_3
      refine lv_ineg hx hb dX2_refuse_28 ?_
      refine W.widen (k := 2) (n := 12) (Nat.le_of_ble_eq_true rfl) (Nat.le_of_ble_eq_true rfl) ?_
      refine vx_ret ?_
      exact W.iret (v := (-r_3)) hx hb hr (fun t ht hW => ⟨⟨(-r_3), (a_1, u_3), rfl, ⟨a_1, hh_1, c_2, b_1, hv_1, rfl, by rw [hr_3], hw_3⟩, by rw [ht]; exact hP, va_K.moved hW.alike hK, hD⟩, hS.F ht⟩) hS.2.2 dX2_refuse_29
    · obtain ⟨sa_4, hsa_4⟩ := hTF.2.2.2 (131, "the voucher is refused") (by decide +kernel)
      exact vx_throwS hx hb hst (sa := sa_4) (text := "the voucher is refused") (is := 131) (names := ["java/lang/RuntimeException", "java/lang/Exception"]) hown (by decide +kernel) (by decide +kernel) (hts (.classLink RX2 63 "java/lang/IllegalStateException") (List.mem_of_getElem? (i := 1) rfl)) (hts (.initialized "java/lang/IllegalStateException") (List.mem_of_getElem? (i := 2) rfl)) hsa_4 (gk_hat (fun w hw => hts w (List.mem_cons_of_mem _ (List.mem_append_left _ (List.mem_append_right _ hw)))) hTF (by decide +kernel)) (by decide +kernel) hTF.1 hTF.2.1 hS (hl.1.trans hml.symm) dX2_refuse_13 dX2_refuse_16 dX2_refuse_17 dX2_refuse_19 dX2_refuse_22 (fun x hx9 => (htb x hx9).elim) (Nat.le_of_ble_eq_true rfl) (Nat.le_of_ble_eq_true rfl) (Nat.le_of_ble_eq_true rfl) (Nat.le_of_ble_eq_true rfl) hlocks (fun t hal hsz9 hkp => ⟨"java/lang/IllegalStateException", Or.inr (⟨rfl, a_1, hh_1, c_2⟩), ⟨rfl, hP.kept (fun k q hk => hkp q.1 (vx_lt hP hk)), va_K.moved hal hK, hD⟩, Nat.le_trans hS.1 hsz9, fun q h1 h2 => (hkp q (Nat.lt_of_lt_of_le h1 hS.1)).trans (hS.2.1 q h1 h2)⟩) hS.2.2 (Nat.le_of_ble_eq_true rfl) (Nat.le_of_ble_eq_true rfl)
set_option maxHeartbeats 4000000 in
set_option maxRecDepth 100000 in
theorem kX2_admit (l : Launch) (hst : l.stackTraces = false) (D : va_G) (cyI cyZ cyL cyV cyJ : ClassId) (g lr vr py : Nat) (ga gs ora oc : Int32) (lrow vrow : Nat → Option Nat) (nl nv : Nat) (am : Int32) (pay : Nat → Int32) (nc : Nat) (lcd pia : Int32) (Y : va_W) (L : List Nat) (K : Nat → Nat) (bud fsd las bas mvi mva : Nat → Int32) (ear vln : Nat → Option Nat) (vda vam vrf vel : Nat → Int32) (vnx : Nat → Option Nat) (ch : Nat → List Nat) (hOK : gOK L K lrow vrow ear vln vnx ch) (k0 : Int32) (sz : Nat) (A : Nat → Prop) (hAe : va_A (((g, .inr (2, [.int ga, .int gs, .int ora, .int oc, .ref lr, .int (nI nl), .ref vr, .int (nI nv), .int am, .ref py, .int (nI nc), .int lcd, .int pia])) :: (lr, .inl (cyL, 12, .inr (.inr (.inr (.inr lrow))))) :: (vr, .inl (cyV, 100, .inr (.inr (.inr (.inr vrow))))) :: (py, .inl (cyI, 40, .inl pay)) :: Y : va_W) ++ va_pl L (gE K bud fsd las bas mvi mva ear vln vda vam vrf vel vnx)) sz = A) : vx_Met l yX2_admit wsX2_admit ({ frames := 7, cells := 2, slots := 12, locals := 104 }) (va_Pc [.ref g, .int k0] (gPreT D (gTy cyI cyZ cyL cyV cyJ) (((g, .inr (2, [.int ga, .int gs, .int ora, .int oc, .ref lr, .int (nI nl), .ref vr, .int (nI nv), .int am, .ref py, .int (nI nc), .int lcd, .int pia])) :: (lr, .inl (cyL, 12, .inr (.inr (.inr (.inr lrow))))) :: (vr, .inl (cyV, 100, .inr (.inr (.inr (.inr vrow))))) :: (py, .inl (cyI, 40, .inl pay)) :: Y : va_W) ++ va_pl L (gE K bud fsd las bas mvi mva ear vln vda vam vrf vel vnx)) sz)) (va_Qi (fun (r : Int32) (u : Nat × (Nat → Int32)) => ∃ v, gHas 100 vrow k0 v ∧ ¬ vrf v = 0 ∧ ∃ b, vln v = some b ∧ u.1 = v ∧ r = gSu u.2 vda 9999 (ch b) 0 - gSu vel vda 9999 (ch b) 0 ∧ u.2 = gRk (fsd b) (las b) (va_up vrf v 0) vda vam (ch b) (bud b + mvi b - mva b) vel) (fun (u : Nat × (Nat → Int32)) t => gPost D (gTy cyI cyZ cyL cyV cyJ) A (((g, .inr (2, [.int ga, .int gs, .int ora, .int oc, .ref lr, .int (nI nl), .ref vr, .int (nI nv), .int am, .ref py, .int (nI nc), .int lcd, .int pia])) :: (lr, .inl (cyL, 12, .inr (.inr (.inr (.inr lrow))))) :: (vr, .inl (cyV, 100, .inr (.inr (.inr (.inr vrow))))) :: (py, .inl (cyI, 40, .inl pay)) :: Y : va_W) ++ va_pl L (gE K bud fsd las bas mvi mva ear vln vda vam (va_up vrf u.1 0) u.2 vnx)) t) A) (gThr D (gTy cyI cyZ cyL cyV cyJ) A (((g, .inr (2, [.int ga, .int gs, .int ora, .int oc, .ref lr, .int (nI nl), .ref vr, .int (nI nv), .int am, .ref py, .int (nI nc), .int lcd, .int pia])) :: (lr, .inl (cyL, 12, .inr (.inr (.inr (.inr lrow))))) :: (vr, .inl (cyV, 100, .inr (.inr (.inr (.inr vrow))))) :: (py, .inl (cyI, 40, .inl pay)) :: Y : va_W) ++ va_pl L (gE K bud fsd las bas mvi mva ear vln vda vam vrf vel vnx)) (fun E => (E = "java/lang/IndexOutOfBoundsException" ∧ ¬ ∃ v, gHas 100 vrow k0 v) ∨ (E = "java/lang/IllegalStateException" ∧ ∃ v, gHas 100 vrow k0 v ∧ ¬ (¬ vrf v = 0)))) 2 12 A := by
  refine vx_ofW (cc := cX2_admit) (maxL := 3) (ret := (some .int)) (by decide) rfl ?_
  intro p e s m args below meth c s₁ B hml htb hv
  obtain ⟨rfl, hTF, hsz, hP, hK, hD0⟩ := hv
  have hx := B.exec
  have hb := B.bytes
  have hr := B.returns
  have hts := atoms_spec (ws := wsX2_admit) B.pre
  have hown : s.vm.findClass RX2 = some m.cls := findClass_of_methodNamed B.named
  have hlocks := B.notSynchronized
  subst hsz
  have hD := hD0.self (sz := s.heap.size)
  rw [hAe] at hD hTF
  have hA : ∀ q : Nat, s.heap.size ≤ q → A q := fun q h => by rw [← hAe]; exact Or.inr h
  have hS : va_S A s.heap s.heap [] := va_S.rf
  have hP : va_P D vwCl (((g, .inr (2, [.int ga, .int gs, .int ora, .int oc, .ref lr, .int (nI nl), .ref vr, .int (nI nv), .int am, .ref py, .int (nI nc), .int lcd, .int pia])) :: (lr, .inl (cyL, 12, .inr (.inr (.inr (.inr lrow))))) :: (vr, .inl (cyV, 100, .inr (.inr (.inr (.inr vrow))))) :: (py, .inl (cyI, 40, .inl pay)) :: Y : va_W) ++ va_pl L (gE K bud fsd las bas mvi mva ear vln vda vam vrf vel vnx)) s.heap := hP
  have hi1 : ∀ w ∈ wsX10, w ∈ wsX2_admit := fun _ h => List.mem_cons_of_mem _ (List.mem_append_left _ (List.mem_append_left _ (List.mem_append_left _ (List.mem_append_left _ (List.mem_append_right _ h)))))
  have hl := lv_entry ([.ref g, .int k0]) (n := 3) (Nat.le_of_ble_eq_true rfl)
  rw [lg_entry_eq]
  generalize (lg_sl ([.ref g, .int k0]) ++ List.replicate (3 - (lg_sl ([.ref g, .int k0])).length) Slot.unset).toArray = ls at hl ⊢
  have hl : lv_has ls 3 [(0, .ref g), (1, .int k0)] := hl
  refine lv_aload_n hx hb dX2_admit_0 rfl (lv_at hl 0 rfl) ?_
  refine lv_iload_n hx hb dX2_admit_1 rfl (lv_at hl 1 rfl) ?_
  have hF_1 := gk_all hD hS hA
  refine vx_callq (vx_runV (As := [.int k0]) (rest := []) ⟨hx, hb, hml, hown, hts⟩ (kX2_findVoucher l hst D cyI cyZ cyL cyV cyJ g lr vr py ga gs ora oc lrow vrow nl nv am pay nc lcd pia Y L K bud fsd las bas mvi mva ear vln vda vam vrf vel vnx k0 s.heap.size _ rfl) (cwV 1 hts gX2_admit_X2_findVoucher rfl rfl rfl (by decide +kernel) ⟨(Nat.le_of_ble_eq_true rfl), (Nat.le_of_ble_eq_true rfl)⟩) (gk_preVT hTF hS hF_1 hP hK hD (va_recv hK hP (ci := 2) (q0 := 0) rfl rfl)) rfl rfl hl.1 rfl (lv_room (Nat.le_of_ble_eq_true rfl)) dX2_admit_2 ⟨(Nat.le_of_ble_eq_true rfl), (Nat.le_of_ble_eq_true rfl)⟩) hS (fun q _ h => hF_1 q h) hF_1 (fun q _ h => hF_1 q h) (fun E_1 ce_1 q_1 u_1 t_1 H locs ht_1 hvm_1 hpx_1 hBX_1 hz_1 hk_1 hS hce_1 hcv_1 hcl_1 => ?_) (fun r_1 u_1 t_1 H locs ht_1 hvm_1 hw_1 hB_1 hz_1 hk_1 hS => ?_)
  · obtain ⟨rfl, hB_1⟩ := hBX_1
    obtain ⟨hP, hD⟩ := gk_back hF_1 hB_1 ht_1
    refine vx_out (fun x hx9 => (htb x hx9).elim) hlocks hce_1 hcv_1 hcl_1 (fun t ht hal => ⟨E_1, Or.inl ⟨hpx_1.1, hpx_1.2⟩, ⟨rfl, by rw [ht]; exact hP, va_K.moved hal hK, hD⟩, hS.F ht⟩) hS.2.2 (Nat.le_of_ble_eq_true rfl) (Nat.le_of_ble_eq_true rfl)
  · obtain ⟨hP, hD⟩ := gk_back hF_1 hB_1 ht_1
    obtain ⟨a_1, rfl, hh_1⟩ := hw_1
    obtain ⟨hL_1, hK_1, b_1, hv_1, hLb_1, hKb_1⟩ := hOK.v hh_1
    refine lv_astore_n (lv' := [(2, .ref a_1), (0, .ref g), (1, .int k0)]) hx hb dX2_admit_5 rfl hl (by decide) rfl (fun ls hl => ?_)
    refine lv_aload_n hx hb dX2_admit_6 rfl (lv_at hl 0 rfl) ?_
    refine gk_get (C := RX1) (T := TX1) (N := 6) (v := .int (vrf a_1)) hx hb hts hi1 hown hK hP hL_1 (gE_1 hK_1) rfl 3 (by decide) (hts (.fieldLink RX2 127 "GrantBook$Voucher" "isRefused" "Z") (List.mem_of_getElem? (i := 3) rfl)) (fun _ h9 => h9) rfl dX2_admit_7 ?_
    refine lv_if_ne (tgt := 23) hx hb dX2_admit_10 (by decide) (fun c_2 => ?_) (fun c_2 => ?_)
    · refine lv_aload_n hx hb dX2_admit_23 rfl (lv_at hl 0 rfl) ?_
      refine lv_iconst (v := 0) hx hb dX2_admit_24 (by decide) ?_
      have hF_3 := gk_all hD hS hA
      refine va_calli (va_runS (As := [.ref a_1, .int 0]) (rest := []) ⟨hx, hb, hml, hown, hts⟩ (kX2_eligibleMoreWith l D (gTy cyI cyZ cyL cyV cyJ) ((g, .inr (2, [.int ga, .int gs, .int ora, .int oc, .ref lr, .int (nI nl), .ref vr, .int (nI nv), .int am, .ref py, .int (nI nc), .int lcd, .int pia])) :: (lr, .inl (cyL, 12, .inr (.inr (.inr (.inr lrow))))) :: (vr, .inl (cyV, 100, .inr (.inr (.inr (.inr vrow))))) :: (py, .inl (cyI, 40, .inl pay)) :: Y) L K bud fsd las bas mvi mva ear vln vda vam vrf vel vnx a_1 hL_1 hK_1 b_1 hLb_1 hKb_1 hv_1 (ch b_1) (hOK.2.2 b_1 hLb_1 hKb_1).1 (hOK.2.2 b_1 hLb_1 hKb_1).2 0 (by decide) H.size _ rfl) (va_cwS 2 hts gX2_admit_X2_eligibleMoreWith rfl rfl rfl (by decide +kernel) ⟨(Nat.le_of_ble_eq_true rfl), (Nat.le_of_ble_eq_true rfl)⟩) (gk_preS hP hK hD) rfl rfl hl.1 rfl (lv_room (Nat.le_of_ble_eq_true rfl)) dX2_admit_25 ⟨(Nat.le_of_ble_eq_true rfl), (Nat.le_of_ble_eq_true rfl)⟩) hS (fun q _ h => hF_3 q h) hF_3 (fun r_3 u_3 t_3 H locs ht_3 hvm_3 hw_3 hB_3 hz_3 hk_3 hS => ?_)
      obtain ⟨hP, hD⟩ := gk_back hF_3 hB_3 ht_3
      obtain ⟨hr_3, hw_3⟩ := hw_3
      refine W.widen (k := 2) (n := 12) (Nat.le_of_ble_eq_true rfl) (Nat.le_of_ble_eq_true rfl) ?_
      refine vx_ret ?_
      exact W.iret (v := r_3) hx hb hr (fun t ht hW => ⟨⟨r_3, (a_1, u_3), rfl, ⟨a_1, hh_1, c_2, b_1, hv_1, rfl, by rw [hr_3], hw_3⟩, by rw [ht]; exact hP, va_K.moved hW.alike hK, hD⟩, hS.F ht⟩) hS.2.2 dX2_admit_28
    · obtain ⟨sa_4, hsa_4⟩ := hTF.2.2.2 (137, "the voucher is not refused") (by decide +kernel)
      exact vx_throwS hx hb hst (sa := sa_4) (text := "the voucher is not refused") (is := 137) (names := ["java/lang/RuntimeException", "java/lang/Exception"]) hown (by decide +kernel) (by decide +kernel) (hts (.classLink RX2 63 "java/lang/IllegalStateException") (List.mem_of_getElem? (i := 1) rfl)) (hts (.initialized "java/lang/IllegalStateException") (List.mem_of_getElem? (i := 2) rfl)) hsa_4 (gk_hat (fun w hw => hts w (List.mem_cons_of_mem _ (List.mem_append_left _ (List.mem_append_right _ hw)))) hTF (by decide +kernel)) (by decide +kernel) hTF.1 hTF.2.1 hS (hl.1.trans hml.symm) dX2_admit_13 dX2_admit_16 dX2_admit_17 dX2_admit_19 dX2_admit_22 (fun x hx9 => (htb x hx9).elim) (Nat.le_of_ble_eq_true rfl) (Nat.le_of_ble_eq_true rfl) (Nat.le_of_ble_eq_true rfl) (Nat.le_of_ble_eq_true rfl) hlocks (fun t hal hsz9 hkp => ⟨"java/lang/IllegalStateException", Or.inr (⟨rfl, a_1, hh_1, (fun h => h c_2)⟩), ⟨rfl, hP.kept (fun k q hk => hkp q.1 (vx_lt hP hk)), va_K.moved hal hK, hD⟩, Nat.le_trans hS.1 hsz9, fun q h1 h2 => (hkp q (Nat.lt_of_lt_of_le h1 hS.1)).trans (hS.2.1 q h1 h2)⟩) hS.2.2 (Nat.le_of_ble_eq_true rfl) (Nat.le_of_ble_eq_true rfl)
set_option maxHeartbeats 4000000 in
set_option maxRecDepth 100000 in
theorem kX2_match (l : Launch) (hst : l.stackTraces = false) (D : va_G) (cyI cyZ cyL cyV cyJ : ClassId) (g lr vr py : Nat) (ga gs ora oc : Int32) (lrow vrow : Nat → Option Nat) (nl nv : Nat) (am : Int32) (pay : Nat → Int32) (nc : Nat) (lcd pia : Int32) (Y : va_W) (L : List Nat) (K : Nat → Nat) (bud fsd las bas mvi mva : Nat → Int32) (ear vln : Nat → Option Nat) (vda vam vrf vel : Nat → Int32) (vnx : Nat → Option Nat) (ch : Nat → List Nat) (hOK : gOK L K lrow vrow ear vln vnx ch) (p0 : Int32) (sz : Nat) (A : Nat → Prop) (hAe : va_A (((g, .inr (2, [.int ga, .int gs, .int ora, .int oc, .ref lr, .int (nI nl), .ref vr, .int (nI nv), .int am, .ref py, .int (nI nc), .int lcd, .int pia])) :: (lr, .inl (cyL, 12, .inr (.inr (.inr (.inr lrow))))) :: (vr, .inl (cyV, 100, .inr (.inr (.inr (.inr vrow))))) :: (py, .inl (cyI, 40, .inl pay)) :: Y : va_W) ++ va_pl L (gE K bud fsd las bas mvi mva ear vln vda vam vrf vel vnx)) sz = A) : vx_Met l yX2_match wsX2_match ({ frames := 7, cells := 2, slots := 12, locals := 104 }) (va_Pc [.ref g, .int p0] (gPreT D (gTy cyI cyZ cyL cyV cyJ) (((g, .inr (2, [.int ga, .int gs, .int ora, .int oc, .ref lr, .int (nI nl), .ref vr, .int (nI nv), .int am, .ref py, .int (nI nc), .int lcd, .int pia])) :: (lr, .inl (cyL, 12, .inr (.inr (.inr (.inr lrow))))) :: (vr, .inl (cyV, 100, .inr (.inr (.inr (.inr vrow))))) :: (py, .inl (cyI, 40, .inl pay)) :: Y : va_W) ++ va_pl L (gE K bud fsd las bas mvi mva ear vln vda vam vrf vel vnx)) sz)) (va_Qi (fun (r : Int32) (_ : Unit) => gIn p0 1 10000000 ∧ am + p0 ≤ 100000000 ∧ r = am + p0) (fun (_ : Unit) t => gPost D (gTy cyI cyZ cyL cyV cyJ) A (((g, .inr (2, [.int ga, .int gs, .int ora, .int oc, .ref lr, .int (nI nl), .ref vr, .int (nI nv), .int (am + p0), .ref py, .int (nI nc), .int lcd, .int pia])) :: (lr, .inl (cyL, 12, .inr (.inr (.inr (.inr lrow))))) :: (vr, .inl (cyV, 100, .inr (.inr (.inr (.inr vrow))))) :: (py, .inl (cyI, 40, .inl pay)) :: Y : va_W) ++ va_pl L (gE K bud fsd las bas mvi mva ear vln vda vam vrf vel vnx)) t) A) (gThr D (gTy cyI cyZ cyL cyV cyJ) A (((g, .inr (2, [.int ga, .int gs, .int ora, .int oc, .ref lr, .int (nI nl), .ref vr, .int (nI nv), .int am, .ref py, .int (nI nc), .int lcd, .int pia])) :: (lr, .inl (cyL, 12, .inr (.inr (.inr (.inr lrow))))) :: (vr, .inl (cyV, 100, .inr (.inr (.inr (.inr vrow))))) :: (py, .inl (cyI, 40, .inl pay)) :: Y : va_W) ++ va_pl L (gE K bud fsd las bas mvi mva ear vln vda vam vrf vel vnx)) (fun E => (E = "java/lang/IllegalArgumentException" ∧ ¬ (gIn p0 1 10000000)) ∨ (E = "java/lang/IllegalStateException" ∧ gIn p0 1 10000000 ∧ ¬ (am + p0 ≤ 100000000)))) 2 12 A := by
  refine vx_ofW (cc := cX2_match) (maxL := 2) (ret := (some .int)) (by decide) rfl ?_
  intro p e s m args below meth c s₁ B hml htb hv
  obtain ⟨rfl, hTF, hsz, hP, hK, hD0⟩ := hv
  have hx := B.exec
  have hb := B.bytes
  have hr := B.returns
  have hts := atoms_spec (ws := wsX2_match) B.pre
  have hown : s.vm.findClass RX2 = some m.cls := findClass_of_methodNamed B.named
  have hlocks := B.notSynchronized
  subst hsz
  have hD := hD0.self (sz := s.heap.size)
  rw [hAe] at hD hTF
  have hA : ∀ q : Nat, s.heap.size ≤ q → A q := fun q h => by rw [← hAe]; exact Or.inr h
  have hS : va_S A s.heap s.heap [] := va_S.rf
  have hP : va_P D vwCl (((g, .inr (2, [.int ga, .int gs, .int ora, .int oc, .ref lr, .int (nI nl), .ref vr, .int (nI nv), .int am, .ref py, .int (nI nc), .int lcd, .int pia])) :: (lr, .inl (cyL, 12, .inr (.inr (.inr (.inr lrow))))) :: (vr, .inl (cyV, 100, .inr (.inr (.inr (.inr vrow))))) :: (py, .inl (cyI, 40, .inl pay)) :: Y : va_W) ++ va_pl L (gE K bud fsd las bas mvi mva ear vln vda vam vrf vel vnx)) s.heap := hP
  have hi2 : ∀ w ∈ wsX20, w ∈ wsX2_match := fun _ h => List.mem_cons_of_mem _ (List.mem_append_left _ (List.mem_append_left _ (List.mem_append_right _ h)))
  have hl := lv_entry ([.ref g, .int p0]) (n := 2) (Nat.le_of_ble_eq_true rfl)
  rw [lg_entry_eq]
  generalize (lg_sl ([.ref g, .int p0]) ++ List.replicate (2 - (lg_sl ([.ref g, .int p0])).length) Slot.unset).toArray = ls at hl ⊢
  have hl : lv_has ls 2 [(0, .ref g), (1, .int p0)] := hl
  refine lv_iload_n hx hb dX2_match_0 rfl (lv_at hl 1 rfl) ?_
  refine lv_iconst (v := 1) hx hb dX2_match_1 (by decide) ?_
  refine lv_ldc hx hb hown (hts (.constant RX2 70 (10000000)) (List.mem_of_getElem? (i := 3) rfl)) dX2_match_2 ?_
  have hF_1 := gk_all hD hS hA
  refine vx_callv (vx_runS (As := [.int p0, .int 1, .int 10000000]) (rest := []) ⟨hx, hb, hml, hown, hts⟩ (kX2_checkRange l hst D (gTy cyI cyZ cyL cyV cyJ) (((g, .inr (2, [.int ga, .int gs, .int ora, .int oc, .ref lr, .int (nI nl), .ref vr, .int (nI nv), .int am, .ref py, .int (nI nc), .int lcd, .int pia])) :: (lr, .inl (cyL, 12, .inr (.inr (.inr (.inr lrow))))) :: (vr, .inl (cyV, 100, .inr (.inr (.inr (.inr vrow))))) :: (py, .inl (cyI, 40, .inl pay)) :: Y : va_W) ++ va_pl L (gE K bud fsd las bas mvi mva ear vln vda vam vrf vel vnx)) p0 1 10000000 s.heap.size _ rfl) (va_cwS 3 hts gX2_match_X2_checkRange rfl rfl rfl (by decide +kernel) ⟨(Nat.le_of_ble_eq_true rfl), (Nat.le_of_ble_eq_true rfl)⟩) (gk_preST hTF hS hF_1 hP hK hD) rfl rfl hl.1 rfl (lv_room (Nat.le_of_ble_eq_true rfl)) dX2_match_4 ⟨(Nat.le_of_ble_eq_true rfl), (Nat.le_of_ble_eq_true rfl)⟩) hS (fun q _ h => hF_1 q h) hF_1 (fun q _ h => hF_1 q h) (fun E_1 ce_1 q_1 u_1 t_1 H locs ht_1 hvm_1 hpx_1 hBX_1 hz_1 hk_1 hS hce_1 hcv_1 hcl_1 => ?_) (fun u_1 t_1 H locs ht_1 hvm_1 hw_1 hB_1 hz_1 hk_1 hS => ?_)
  · obtain ⟨rfl, hB_1⟩ := hBX_1
    obtain ⟨hP, hD⟩ := gk_back hF_1 hB_1 ht_1
    refine vx_out (fun x hx9 => (htb x hx9).elim) hlocks hce_1 hcv_1 hcl_1 (fun t ht hal => ⟨E_1, Or.inl ⟨hpx_1.1, hpx_1.2⟩, ⟨rfl, by rw [ht]; exact hP, va_K.moved hal hK, hD⟩, hS.F ht⟩) hS.2.2 (Nat.le_of_ble_eq_true rfl) (Nat.le_of_ble_eq_true rfl)
  · obtain ⟨hP, hD⟩ := gk_back hF_1 hB_1 ht_1
    refine lv_aload_n hx hb dX2_match_7 rfl (lv_at hl 0 rfl) ?_
    refine va_get (D := D) (ci := 2) (v := .int am) (C := RX2) (T := TX2) (N := 13) hx hb hts hi2 hown hK hP 0 rfl rfl 8 (by decide) (hts (.fieldLink RX2 42 "GrantBook" "allMatch" "I") (List.mem_of_getElem? (i := 4) rfl)) (fun _ h9 => h9) rfl dX2_match_8 ?_
    refine lv_iload_n hx hb dX2_match_11 rfl (lv_at hl 1 rfl) ?_
    refine lv_iadd hx hb dX2_match_12 ?_
    refine lv_ldc hx hb hown (hts (.constant RX2 58 (100000000)) (List.mem_of_getElem? (i := 5) rfl)) dX2_match_13 ?_
    refine lv_icmp_le (tgt := 28) hx hb dX2_match_15 (by decide) (fun c_2 => ?_) (fun c_2 => ?_)
    · refine lv_aload_n hx hb dX2_match_28 rfl (lv_at hl 0 rfl) ?_
      refine lv_dup hx hb dX2_match_29 rfl ?_
      refine va_get (D := D) (ci := 2) (v := .int am) (C := RX2) (T := TX2) (N := 13) hx hb hts hi2 hown hK hP 0 rfl rfl 8 (by decide) (hts (.fieldLink RX2 42 "GrantBook" "allMatch" "I") (List.mem_of_getElem? (i := 4) rfl)) (fun _ h9 => h9) rfl dX2_match_30 ?_
      refine lv_iload_n hx hb dX2_match_33 rfl (lv_at hl 1 rfl) ?_
      refine lv_iadd hx hb dX2_match_34 ?_
      refine va_put (D := D) (ci := 2) (v := .int (am + p0)) (ty := .int) (C := RX2) (T := TX2) (N := 13) hx hb hts hi2 tyX2 tyX2_ok nmX2 hown hK hP hD hS 0 rfl rfl 8 (by decide) (hts (.fieldLink RX2 42 "GrantBook" "allMatch" "I") (List.mem_of_getElem? (i := 4) rfl)) (fun _ h9 => h9) rfl (by decide +kernel) rfl rfl (Nat.le_of_ble_eq_true rfl) dX2_match_35 (fun H locs hP hD hS => ?_)
      have hP : va_P D vwCl (((g, .inr (2, [.int ga, .int gs, .int ora, .int oc, .ref lr, .int (nI nl), .ref vr, .int (nI nv), .int (am + p0), .ref py, .int (nI nc), .int lcd, .int pia])) :: (lr, .inl (cyL, 12, .inr (.inr (.inr (.inr lrow))))) :: (vr, .inl (cyV, 100, .inr (.inr (.inr (.inr vrow))))) :: (py, .inl (cyI, 40, .inl pay)) :: Y : va_W) ++ va_pl L (gE K bud fsd las bas mvi mva ear vln vda vam vrf vel vnx)) H := hP
      have hD : va_D A (((g, .inr (2, [.int ga, .int gs, .int ora, .int oc, .ref lr, .int (nI nl), .ref vr, .int (nI nv), .int (am + p0), .ref py, .int (nI nc), .int lcd, .int pia])) :: (lr, .inl (cyL, 12, .inr (.inr (.inr (.inr lrow))))) :: (vr, .inl (cyV, 100, .inr (.inr (.inr (.inr vrow))))) :: (py, .inl (cyI, 40, .inl pay)) :: Y : va_W) ++ va_pl L (gE K bud fsd las bas mvi mva ear vln vda vam vrf vel vnx)) := hD
      refine lv_aload_n hx hb dX2_match_38 rfl (lv_at hl 0 rfl) ?_
      refine va_get (D := D) (ci := 2) (v := .int (am + p0)) (C := RX2) (T := TX2) (N := 13) hx hb hts hi2 hown hK hP 0 rfl rfl 8 (by decide) (hts (.fieldLink RX2 42 "GrantBook" "allMatch" "I") (List.mem_of_getElem? (i := 4) rfl)) (fun _ h9 => h9) rfl dX2_match_39 ?_
      refine W.widen (k := 2) (n := 12) (Nat.le_of_ble_eq_true rfl) (Nat.le_of_ble_eq_true rfl) ?_
      refine vx_ret ?_
      exact W.iret (v := (am + p0)) hx hb hr (fun t ht hW => ⟨⟨(am + p0), (), rfl, ⟨hw_1, c_2, rfl⟩, by rw [ht]; exact hP, va_K.moved hW.alike hK, hD⟩, hS.F ht⟩) hS.2.2 dX2_match_42
    · obtain ⟨sa_3, hsa_3⟩ := hTF.2.2.2 (139, "all match would be too much") (by decide +kernel)
      exact vx_throwS hx hb hst (sa := sa_3) (text := "all match would be too much") (is := 139) (names := ["java/lang/RuntimeException", "java/lang/Exception"]) hown (by decide +kernel) (by decide +kernel) (hts (.classLink RX2 63 "java/lang/IllegalStateException") (List.mem_of_getElem? (i := 1) rfl)) (hts (.initialized "java/lang/IllegalStateException") (List.mem_of_getElem? (i := 2) rfl)) hsa_3 (gk_hat (fun w hw => hts w (List.mem_cons_of_mem _ (List.mem_append_left _ (List.mem_append_right _ hw)))) hTF (by decide +kernel)) (by decide +kernel) hTF.1 hTF.2.1 hS (hl.1.trans hml.symm) dX2_match_18 dX2_match_21 dX2_match_22 dX2_match_24 dX2_match_27 (fun x hx9 => (htb x hx9).elim) (Nat.le_of_ble_eq_true rfl) (Nat.le_of_ble_eq_true rfl) (Nat.le_of_ble_eq_true rfl) (Nat.le_of_ble_eq_true rfl) hlocks (fun t hal hsz9 hkp => ⟨"java/lang/IllegalStateException", Or.inr (⟨rfl, hw_1, c_2⟩), ⟨rfl, hP.kept (fun k q hk => hkp q.1 (vx_lt hP hk)), va_K.moved hal hK, hD⟩, Nat.le_trans hS.1 hsz9, fun q h1 h2 => (hkp q (Nat.lt_of_lt_of_le h1 hS.1)).trans (hS.2.1 q h1 h2)⟩) hS.2.2 (Nat.le_of_ble_eq_true rfl) (Nat.le_of_ble_eq_true rfl)
set_option maxHeartbeats 4000000 in
set_option maxRecDepth 100000 in
theorem kX2_fits (l : Launch) (hst : l.stackTraces = false) (D : va_G) (cyI cyZ cyL cyV cyJ : ClassId) (g lr vr py : Nat) (ga gs ora oc : Int32) (lrow vrow : Nat → Option Nat) (nl nv : Nat) (am : Int32) (pay : Nat → Int32) (nc : Nat) (lcd pia : Int32) (Y : va_W) (L : List Nat) (K : Nat → Nat) (bud fsd las bas mvi mva : Nat → Int32) (ear vln : Nat → Option Nat) (vda vam vrf vel : Nat → Int32) (vnx : Nat → Option Nat) (ch : Nat → List Nat) (hOK : gOK L K lrow vrow ear vln vnx ch) (k0 : Int32) (sz : Nat) (A : Nat → Prop) (hAe : va_A (((g, .inr (2, [.int ga, .int gs, .int ora, .int oc, .ref lr, .int (nI nl), .ref vr, .int (nI nv), .int am, .ref py, .int (nI nc), .int lcd, .int pia])) :: (lr, .inl (cyL, 12, .inr (.inr (.inr (.inr lrow))))) :: (vr, .inl (cyV, 100, .inr (.inr (.inr (.inr vrow))))) :: (py, .inl (cyI, 40, .inl pay)) :: Y : va_W) ++ va_pl L (gE K bud fsd las bas mvi mva ear vln vda vam vrf vel vnx)) sz = A) : vx_Met l yX2_fits wsX2_fits ({ frames := 7, cells := 1, slots := 6, locals := 104 }) (va_Pc [.ref g, .int k0] (gPreT D (gTy cyI cyZ cyL cyV cyJ) (((g, .inr (2, [.int ga, .int gs, .int ora, .int oc, .ref lr, .int (nI nl), .ref vr, .int (nI nv), .int am, .ref py, .int (nI nc), .int lcd, .int pia])) :: (lr, .inl (cyL, 12, .inr (.inr (.inr (.inr lrow))))) :: (vr, .inl (cyV, 100, .inr (.inr (.inr (.inr vrow))))) :: (py, .inl (cyI, 40, .inl pay)) :: Y : va_W) ++ va_pl L (gE K bud fsd las bas mvi mva ear vln vda vam vrf vel vnx)) sz)) (va_Qi (fun (r : Int32) (_ : Unit) => ∃ v, gHas 100 vrow k0 v ∧ ∃ b, vln v = some b ∧ r = gAcc (fsd b) (las b) (vrf v) (vda v)) (fun (_ : Unit) t => gPost D (gTy cyI cyZ cyL cyV cyJ) A (((g, .inr (2, [.int ga, .int gs, .int ora, .int oc, .ref lr, .int (nI nl), .ref vr, .int (nI nv), .int am, .ref py, .int (nI nc), .int lcd, .int pia])) :: (lr, .inl (cyL, 12, .inr (.inr (.inr (.inr lrow))))) :: (vr, .inl (cyV, 100, .inr (.inr (.inr (.inr vrow))))) :: (py, .inl (cyI, 40, .inl pay)) :: Y : va_W) ++ va_pl L (gE K bud fsd las bas mvi mva ear vln vda vam vrf vel vnx)) t) A) (gThr D (gTy cyI cyZ cyL cyV cyJ) A (((g, .inr (2, [.int ga, .int gs, .int ora, .int oc, .ref lr, .int (nI nl), .ref vr, .int (nI nv), .int am, .ref py, .int (nI nc), .int lcd, .int pia])) :: (lr, .inl (cyL, 12, .inr (.inr (.inr (.inr lrow))))) :: (vr, .inl (cyV, 100, .inr (.inr (.inr (.inr vrow))))) :: (py, .inl (cyI, 40, .inl pay)) :: Y : va_W) ++ va_pl L (gE K bud fsd las bas mvi mva ear vln vda vam vrf vel vnx)) (fun E => (E = "java/lang/IndexOutOfBoundsException" ∧ ¬ ∃ v, gHas 100 vrow k0 v))) 1 6 A := by
  refine vx_ofW (cc := cX2_fits) (maxL := 3) (ret := (some .boolean)) (by decide) rfl ?_
  intro p e s m args below meth c s₁ B hml htb hv
  obtain ⟨rfl, hTF, hsz, hP, hK, hD0⟩ := hv
  have hx := B.exec
  have hb := B.bytes
  have hr := B.returns
  have hts := atoms_spec (ws := wsX2_fits) B.pre
  have hown : s.vm.findClass RX2 = some m.cls := findClass_of_methodNamed B.named
  have hlocks := B.notSynchronized
  subst hsz
  have hD := hD0.self (sz := s.heap.size)
  rw [hAe] at hD hTF
  have hA : ∀ q : Nat, s.heap.size ≤ q → A q := fun q h => by rw [← hAe]; exact Or.inr h
  have hS : va_S A s.heap s.heap [] := va_S.rf
  have hP : va_P D vwCl (((g, .inr (2, [.int ga, .int gs, .int ora, .int oc, .ref lr, .int (nI nl), .ref vr, .int (nI nv), .int am, .ref py, .int (nI nc), .int lcd, .int pia])) :: (lr, .inl (cyL, 12, .inr (.inr (.inr (.inr lrow))))) :: (vr, .inl (cyV, 100, .inr (.inr (.inr (.inr vrow))))) :: (py, .inl (cyI, 40, .inl pay)) :: Y : va_W) ++ va_pl L (gE K bud fsd las bas mvi mva ear vln vda vam vrf vel vnx)) s.heap := hP
  have hi1 : ∀ w ∈ wsX10, w ∈ wsX2_fits := fun _ h => List.mem_cons_of_mem _ (List.mem_append_left _ (List.mem_append_left _ (List.mem_append_left _ (List.mem_append_right _ h))))
  have hl := lv_entry ([.ref g, .int k0]) (n := 3) (Nat.le_of_ble_eq_true rfl)
  rw [lg_entry_eq]
  generalize (lg_sl ([.ref g, .int k0]) ++ List.replicate (3 - (lg_sl ([.ref g, .int k0])).length) Slot.unset).toArray = ls at hl ⊢
  have hl : lv_has ls 3 [(0, .ref g), (1, .int k0)] := hl
  refine lv_aload_n hx hb dX2_fits_0 rfl (lv_at hl 0 rfl) ?_
  refine lv_iload_n hx hb dX2_fits_1 rfl (lv_at hl 1 rfl) ?_
  have hF_1 := gk_all hD hS hA
  refine vx_callq (vx_runV (As := [.int k0]) (rest := []) ⟨hx, hb, hml, hown, hts⟩ (kX2_findVoucher l hst D cyI cyZ cyL cyV cyJ g lr vr py ga gs ora oc lrow vrow nl nv am pay nc lcd pia Y L K bud fsd las bas mvi mva ear vln vda vam vrf vel vnx k0 s.heap.size _ rfl) (cwV 1 hts gX2_fits_X2_findVoucher rfl rfl rfl (by decide +kernel) ⟨(Nat.le_of_ble_eq_true rfl), (Nat.le_of_ble_eq_true rfl)⟩) (gk_preVT hTF hS hF_1 hP hK hD (va_recv hK hP (ci := 2) (q0 := 0) rfl rfl)) rfl rfl hl.1 rfl (lv_room (Nat.le_of_ble_eq_true rfl)) dX2_fits_2 ⟨(Nat.le_of_ble_eq_true rfl), (Nat.le_of_ble_eq_true rfl)⟩) hS (fun q _ h => hF_1 q h) hF_1 (fun q _ h => hF_1 q h) (fun E_1 ce_1 q_1 u_1 t_1 H locs ht_1 hvm_1 hpx_1 hBX_1 hz_1 hk_1 hS hce_1 hcv_1 hcl_1 => ?_) (fun r_1 u_1 t_1 H locs ht_1 hvm_1 hw_1 hB_1 hz_1 hk_1 hS => ?_)
  · obtain ⟨rfl, hB_1⟩ := hBX_1
    obtain ⟨hP, hD⟩ := gk_back hF_1 hB_1 ht_1
    refine vx_out (fun x hx9 => (htb x hx9).elim) hlocks hce_1 hcv_1 hcl_1 (fun t ht hal => ⟨E_1, ⟨hpx_1.1, hpx_1.2⟩, ⟨rfl, by rw [ht]; exact hP, va_K.moved hal hK, hD⟩, hS.F ht⟩) hS.2.2 (Nat.le_of_ble_eq_true rfl) (Nat.le_of_ble_eq_true rfl)
  · obtain ⟨hP, hD⟩ := gk_back hF_1 hB_1 ht_1
    obtain ⟨a_1, rfl, hh_1⟩ := hw_1
    obtain ⟨hL_1, hK_1, b_1, hv_1, hLb_1, hKb_1⟩ := hOK.v hh_1
    refine lv_astore_n (lv' := [(2, .ref a_1), (0, .ref g), (1, .int k0)]) hx hb dX2_fits_5 rfl hl (by decide) rfl (fun ls hl => ?_)
    refine lv_aload_n hx hb dX2_fits_6 rfl (lv_at hl 0 rfl) ?_
    refine gk_get (C := RX1) (T := TX1) (N := 6) (v := va_rf (vln a_1)) hx hb hts hi1 hown hK hP hL_1 (gE_1 hK_1) rfl 0 (by decide) (hts (.fieldLink RX2 141 "GrantBook$Voucher" "line" "LGrantBook$Line;") (List.mem_of_getElem? (i := 1) rfl)) (fun _ h9 => h9) rfl dX2_fits_7 ?_
    rw [hv_1]
    refine lv_aload_n hx hb dX2_fits_10 rfl (lv_at hl 0 rfl) ?_
    have hF_2 := gk_all hD hS hA
    refine va_calli (va_runV (As := [.ref a_1]) (rest := []) ⟨hx, hb, hml, hown, hts⟩ (kX0_accepts l D (gTy cyI cyZ cyL cyV cyJ) ((g, .inr (2, [.int ga, .int gs, .int ora, .int oc, .ref lr, .int (nI nl), .ref vr, .int (nI nv), .int am, .ref py, .int (nI nc), .int lcd, .int pia])) :: (lr, .inl (cyL, 12, .inr (.inr (.inr (.inr lrow))))) :: (vr, .inl (cyV, 100, .inr (.inr (.inr (.inr vrow))))) :: (py, .inl (cyI, 40, .inl pay)) :: Y) L K bud fsd las bas mvi mva ear vln vda vam vrf vel vnx b_1 hLb_1 hKb_1 a_1 hL_1 hK_1 H.size _ rfl) (cwV 1 hts gX2_fits_X0_accepts rfl rfl rfl (by decide +kernel) ⟨(Nat.le_of_ble_eq_true rfl), (Nat.le_of_ble_eq_true rfl)⟩) (gk_preV hP hK hD (gk_recv hK hP hLb_1 (gE_0 hKb_1) rfl)) rfl rfl hl.1 rfl (lv_room (Nat.le_of_ble_eq_true rfl)) dX2_fits_11 ⟨(Nat.le_of_ble_eq_true rfl), (Nat.le_of_ble_eq_true rfl)⟩) hS (fun q _ h => hF_2 q h) hF_2 (fun r_2 u_2 t_2 H locs ht_2 hvm_2 hw_2 hB_2 hz_2 hk_2 hS => ?_)
    obtain ⟨hP, hD⟩ := gk_back hF_2 hB_2 ht_2
    subst hw_2
    refine W.widen (k := 1) (n := 6) (Nat.le_of_ble_eq_true rfl) (Nat.le_of_ble_eq_true rfl) ?_
    refine vx_ret ?_
    exact W.zret (v := (gAcc (fsd b_1) (las b_1) (vrf a_1) (vda a_1))) hx hb hr (gAcc_z _ _ _ _) (fun t ht hW => ⟨⟨(gAcc (fsd b_1) (las b_1) (vrf a_1) (vda a_1)), (), rfl, ⟨a_1, hh_1, b_1, hv_1, rfl⟩, by rw [ht]; exact hP, va_K.moved hW.alike hK, hD⟩, hS.F ht⟩) hS.2.2 dX2_fits_14
set_option maxHeartbeats 4000000 in
set_option maxRecDepth 100000 in
theorem kX2_eligible (l : Launch) (hst : l.stackTraces = false) (D : va_G) (cyI cyZ cyL cyV cyJ : ClassId) (g lr vr py : Nat) (ga gs ora oc : Int32) (lrow vrow : Nat → Option Nat) (nl nv : Nat) (am : Int32) (pay : Nat → Int32) (nc : Nat) (lcd pia : Int32) (Y : va_W) (L : List Nat) (K : Nat → Nat) (bud fsd las bas mvi mva : Nat → Int32) (ear vln : Nat → Option Nat) (vda vam vrf vel : Nat → Int32) (vnx : Nat → Option Nat) (ch : Nat → List Nat) (hOK : gOK L K lrow vrow ear vln vnx ch) (k0 : Int32) (sz : Nat) (A : Nat → Prop) (hAe : va_A (((g, .inr (2, [.int ga, .int gs, .int ora, .int oc, .ref lr, .int (nI nl), .ref vr, .int (nI nv), .int am, .ref py, .int (nI nc), .int lcd, .int pia])) :: (lr, .inl (cyL, 12, .inr (.inr (.inr (.inr lrow))))) :: (vr, .inl (cyV, 100, .inr (.inr (.inr (.inr vrow))))) :: (py, .inl (cyI, 40, .inl pay)) :: Y : va_W) ++ va_pl L (gE K bud fsd las bas mvi mva ear vln vda vam vrf vel vnx)) sz = A) : vx_Met l yX2_eligible wsX2_eligible ({ frames := 7, cells := 1, slots := 6, locals := 104 }) (va_Pc [.ref g, .int k0] (gPreT D (gTy cyI cyZ cyL cyV cyJ) (((g, .inr (2, [.int ga, .int gs, .int ora, .int oc, .ref lr, .int (nI nl), .ref vr, .int (nI nv), .int am, .ref py, .int (nI nc), .int lcd, .int pia])) :: (lr, .inl (cyL, 12, .inr (.inr (.inr (.inr lrow))))) :: (vr, .inl (cyV, 100, .inr (.inr (.inr (.inr vrow))))) :: (py, .inl (cyI, 40, .inl pay)) :: Y : va_W) ++ va_pl L (gE K bud fsd las bas mvi mva ear vln vda vam vrf vel vnx)) sz)) (va_Qi (fun (r : Int32) (_ : Unit) => ∃ v, gHas 100 vrow k0 v ∧ r = vel v) (fun (_ : Unit) t => gPost D (gTy cyI cyZ cyL cyV cyJ) A (((g, .inr (2, [.int ga, .int gs, .int ora, .int oc, .ref lr, .int (nI nl), .ref vr, .int (nI nv), .int am, .ref py, .int (nI nc), .int lcd, .int pia])) :: (lr, .inl (cyL, 12, .inr (.inr (.inr (.inr lrow))))) :: (vr, .inl (cyV, 100, .inr (.inr (.inr (.inr vrow))))) :: (py, .inl (cyI, 40, .inl pay)) :: Y : va_W) ++ va_pl L (gE K bud fsd las bas mvi mva ear vln vda vam vrf vel vnx)) t) A) (gThr D (gTy cyI cyZ cyL cyV cyJ) A (((g, .inr (2, [.int ga, .int gs, .int ora, .int oc, .ref lr, .int (nI nl), .ref vr, .int (nI nv), .int am, .ref py, .int (nI nc), .int lcd, .int pia])) :: (lr, .inl (cyL, 12, .inr (.inr (.inr (.inr lrow))))) :: (vr, .inl (cyV, 100, .inr (.inr (.inr (.inr vrow))))) :: (py, .inl (cyI, 40, .inl pay)) :: Y : va_W) ++ va_pl L (gE K bud fsd las bas mvi mva ear vln vda vam vrf vel vnx)) (fun E => (E = "java/lang/IndexOutOfBoundsException" ∧ ¬ ∃ v, gHas 100 vrow k0 v))) 1 6 A := by
  refine vx_ofW (cc := cX2_eligible) (maxL := 2) (ret := (some .int)) (by decide) rfl ?_
  intro p e s m args below meth c s₁ B hml htb hv
  obtain ⟨rfl, hTF, hsz, hP, hK, hD0⟩ := hv
  have hx := B.exec
  have hb := B.bytes
  have hr := B.returns
  have hts := atoms_spec (ws := wsX2_eligible) B.pre
  have hown : s.vm.findClass RX2 = some m.cls := findClass_of_methodNamed B.named
  have hlocks := B.notSynchronized
  subst hsz
  have hD := hD0.self (sz := s.heap.size)
  rw [hAe] at hD hTF
  have hA : ∀ q : Nat, s.heap.size ≤ q → A q := fun q h => by rw [← hAe]; exact Or.inr h
  have hS : va_S A s.heap s.heap [] := va_S.rf
  have hP : va_P D vwCl (((g, .inr (2, [.int ga, .int gs, .int ora, .int oc, .ref lr, .int (nI nl), .ref vr, .int (nI nv), .int am, .ref py, .int (nI nc), .int lcd, .int pia])) :: (lr, .inl (cyL, 12, .inr (.inr (.inr (.inr lrow))))) :: (vr, .inl (cyV, 100, .inr (.inr (.inr (.inr vrow))))) :: (py, .inl (cyI, 40, .inl pay)) :: Y : va_W) ++ va_pl L (gE K bud fsd las bas mvi mva ear vln vda vam vrf vel vnx)) s.heap := hP
  have hi1 : ∀ w ∈ wsX10, w ∈ wsX2_eligible := fun _ h => List.mem_cons_of_mem _ (List.mem_append_left _ (List.mem_append_left _ (List.mem_append_right _ h)))
  have hl := lv_entry ([.ref g, .int k0]) (n := 2) (Nat.le_of_ble_eq_true rfl)
  rw [lg_entry_eq]
  generalize (lg_sl ([.ref g, .int k0]) ++ List.replicate (2 - (lg_sl ([.ref g, .int k0])).length) Slot.unset).toArray = ls at hl ⊢
  have hl : lv_has ls 2 [(0, .ref g), (1, .int k0)] := hl
  refine lv_aload_n hx hb dX2_eligible_0 rfl (lv_at hl 0 rfl) ?_
  refine lv_iload_n hx hb dX2_eligible_1 rfl (lv_at hl 1 rfl) ?_
  have hF_1 := gk_all hD hS hA
  refine vx_callq (vx_runV (As := [.int k0]) (rest := []) ⟨hx, hb, hml, hown, hts⟩ (kX2_findVoucher l hst D cyI cyZ cyL cyV cyJ g lr vr py ga gs ora oc lrow vrow nl nv am pay nc lcd pia Y L K bud fsd las bas mvi mva ear vln vda vam vrf vel vnx k0 s.heap.size _ rfl) (cwV 1 hts gX2_eligible_X2_findVoucher rfl rfl rfl (by decide +kernel) ⟨(Nat.le_of_ble_eq_true rfl), (Nat.le_of_ble_eq_true rfl)⟩) (gk_preVT hTF hS hF_1 hP hK hD (va_recv hK hP (ci := 2) (q0 := 0) rfl rfl)) rfl rfl hl.1 rfl (lv_room (Nat.le_of_ble_eq_true rfl)) dX2_eligible_2 ⟨(Nat.le_of_ble_eq_true rfl), (Nat.le_of_ble_eq_true rfl)⟩) hS (fun q _ h => hF_1 q h) hF_1 (fun q _ h => hF_1 q h) (fun E_1 ce_1 q_1 u_1 t_1 H locs ht_1 hvm_1 hpx_1 hBX_1 hz_1 hk_1 hS hce_1 hcv_1 hcl_1 => ?_) (fun r_1 u_1 t_1 H locs ht_1 hvm_1 hw_1 hB_1 hz_1 hk_1 hS => ?_)
  · obtain ⟨rfl, hB_1⟩ := hBX_1
    obtain ⟨hP, hD⟩ := gk_back hF_1 hB_1 ht_1
    refine vx_out (fun x hx9 => (htb x hx9).elim) hlocks hce_1 hcv_1 hcl_1 (fun t ht hal => ⟨E_1, ⟨hpx_1.1, hpx_1.2⟩, ⟨rfl, by rw [ht]; exact hP, va_K.moved hal hK, hD⟩, hS.F ht⟩) hS.2.2 (Nat.le_of_ble_eq_true rfl) (Nat.le_of_ble_eq_true rfl)
  · obtain ⟨hP, hD⟩ := gk_back hF_1 hB_1 ht_1
    obtain ⟨a_1, rfl, hh_1⟩ := hw_1
    obtain ⟨hL_1, hK_1, b_1, hv_1, hLb_1, hKb_1⟩ := hOK.v hh_1
    refine gk_get (C := RX1) (T := TX1) (N := 6) (v := .int (vel a_1)) hx hb hts hi1 hown hK hP hL_1 (gE_1 hK_1) rfl 4 (by decide) (hts (.fieldLink RX2 149 "GrantBook$Voucher" "eligible" "I") (List.mem_of_getElem? (i := 1) rfl)) (fun _ h9 => h9) rfl dX2_eligible_5 ?_
    refine W.widen (k := 1) (n := 6) (Nat.le_of_ble_eq_true rfl) (Nat.le_of_ble_eq_true rfl) ?_
    refine vx_ret ?_
    exact W.iret (v := (vel a_1)) hx hb hr (fun t ht hW => ⟨⟨(vel a_1), (), rfl, ⟨a_1, hh_1, rfl⟩, by rw [ht]; exact hP, va_K.moved hW.alike hK, hD⟩, hS.F ht⟩) hS.2.2 dX2_eligible_8
set_option maxHeartbeats 4000000 in
set_option maxRecDepth 100000 in
theorem kX2_costs (l : Launch) (hst : l.stackTraces = false) (D : va_G) (cyI cyZ cyL cyV cyJ : ClassId) (g lr vr py : Nat) (ga gs ora oc : Int32) (lrow vrow : Nat → Option Nat) (nl nv : Nat) (am : Int32) (pay : Nat → Int32) (nc : Nat) (lcd pia : Int32) (Y : va_W) (L : List Nat) (K : Nat → Nat) (bud fsd las bas mvi mva : Nat → Int32) (ear vln : Nat → Option Nat) (vda vam vrf vel : Nat → Int32) (vnx : Nat → Option Nat) (ch : Nat → List Nat) (hOK : gOK L K lrow vrow ear vln vnx ch) (d0 : Int32) (sz : Nat) (A : Nat → Prop) (hAe : va_A (((g, .inr (2, [.int ga, .int gs, .int ora, .int oc, .ref lr, .int (nI nl), .ref vr, .int (nI nv), .int am, .ref py, .int (nI nc), .int lcd, .int pia])) :: (lr, .inl (cyL, 12, .inr (.inr (.inr (.inr lrow))))) :: (vr, .inl (cyV, 100, .inr (.inr (.inr (.inr vrow))))) :: (py, .inl (cyI, 40, .inl pay)) :: Y : va_W) ++ va_pl L (gE K bud fsd las bas mvi mva ear vln vda vam vrf vel vnx)) sz = A) : vx_Met l yX2_costs wsX2_costs ({ frames := 8, cells := 1, slots := 6, locals := 124 }) (va_Pc [.ref g, .int d0] (gPreT D (gTy cyI cyZ cyL cyV cyJ) (((g, .inr (2, [.int ga, .int gs, .int ora, .int oc, .ref lr, .int (nI nl), .ref vr, .int (nI nv), .int am, .ref py, .int (nI nc), .int lcd, .int pia])) :: (lr, .inl (cyL, 12, .inr (.inr (.inr (.inr lrow))))) :: (vr, .inl (cyV, 100, .inr (.inr (.inr (.inr vrow))))) :: (py, .inl (cyI, 40, .inl pay)) :: Y : va_W) ++ va_pl L (gE K bud fsd las bas mvi mva ear vln vda vam vrf vel vnx)) sz)) (va_Qi (fun (r : Int32) (_ : Unit) => gIn d0 0 9999 ∧ r = (gSa lrow bas vel vda ch d0 0 12)) (fun (_ : Unit) t => gPost D (gTy cyI cyZ cyL cyV cyJ) A (((g, .inr (2, [.int ga, .int gs, .int ora, .int oc, .ref lr, .int (nI nl), .ref vr, .int (nI nv), .int am, .ref py, .int (nI nc), .int lcd, .int pia])) :: (lr, .inl (cyL, 12, .inr (.inr (.inr (.inr lrow))))) :: (vr, .inl (cyV, 100, .inr (.inr (.inr (.inr vrow))))) :: (py, .inl (cyI, 40, .inl pay)) :: Y : va_W) ++ va_pl L (gE K bud fsd las bas mvi mva ear vln vda vam vrf vel vnx)) t) A) (gThr D (gTy cyI cyZ cyL cyV cyJ) A (((g, .inr (2, [.int ga, .int gs, .int ora, .int oc, .ref lr, .int (nI nl), .ref vr, .int (nI nv), .int am, .ref py, .int (nI nc), .int lcd, .int pia])) :: (lr, .inl (cyL, 12, .inr (.inr (.inr (.inr lrow))))) :: (vr, .inl (cyV, 100, .inr (.inr (.inr (.inr vrow))))) :: (py, .inl (cyI, 40, .inl pay)) :: Y : va_W) ++ va_pl L (gE K bud fsd las bas mvi mva ear vln vda vam vrf vel vnx)) (fun E => (E = "java/lang/IllegalArgumentException" ∧ ¬ (gIn d0 0 9999)))) 1 6 A := by
  refine vx_ofW (cc := cX2_costs) (maxL := 2) (ret := (some .int)) (by decide) rfl ?_
  intro p e s m args below meth c s₁ B hml htb hv
  obtain ⟨rfl, hTF, hsz, hP, hK, hD0⟩ := hv
  have hx := B.exec
  have hb := B.bytes
  have hr := B.returns
  have hts := atoms_spec (ws := wsX2_costs) B.pre
  have hown : s.vm.findClass RX2 = some m.cls := findClass_of_methodNamed B.named
  have hlocks := B.notSynchronized
  subst hsz
  have hD := hD0.self (sz := s.heap.size)
  rw [hAe] at hD hTF
  have hA : ∀ q : Nat, s.heap.size ≤ q → A q := fun q h => by rw [← hAe]; exact Or.inr h
  have hS : va_S A s.heap s.heap [] := va_S.rf
  have hP : va_P D vwCl (((g, .inr (2, [.int ga, .int gs, .int ora, .int oc, .ref lr, .int (nI nl), .ref vr, .int (nI nv), .int am, .ref py, .int (nI nc), .int lcd, .int pia])) :: (lr, .inl (cyL, 12, .inr (.inr (.inr (.inr lrow))))) :: (vr, .inl (cyV, 100, .inr (.inr (.inr (.inr vrow))))) :: (py, .inl (cyI, 40, .inl pay)) :: Y : va_W) ++ va_pl L (gE K bud fsd las bas mvi mva ear vln vda vam vrf vel vnx)) s.heap := hP
  have hl := lv_entry ([.ref g, .int d0]) (n := 2) (Nat.le_of_ble_eq_true rfl)
  rw [lg_entry_eq]
  generalize (lg_sl ([.ref g, .int d0]) ++ List.replicate (2 - (lg_sl ([.ref g, .int d0])).length) Slot.unset).toArray = ls at hl ⊢
  have hl : lv_has ls 2 [(0, .ref g), (1, .int d0)] := hl
  refine lv_iload_n hx hb dX2_costs_0 rfl (lv_at hl 1 rfl) ?_
  have hF_1 := gk_all hD hS hA
  refine vx_callv (vx_runS (As := [.int d0]) (rest := []) ⟨hx, hb, hml, hown, hts⟩ (kX2_checkDay l hst D (gTy cyI cyZ cyL cyV cyJ) (((g, .inr (2, [.int ga, .int gs, .int ora, .int oc, .ref lr, .int (nI nl), .ref vr, .int (nI nv), .int am, .ref py, .int (nI nc), .int lcd, .int pia])) :: (lr, .inl (cyL, 12, .inr (.inr (.inr (.inr lrow))))) :: (vr, .inl (cyV, 100, .inr (.inr (.inr (.inr vrow))))) :: (py, .inl (cyI, 40, .inl pay)) :: Y : va_W) ++ va_pl L (gE K bud fsd las bas mvi mva ear vln vda vam vrf vel vnx)) d0 s.heap.size _ rfl) (va_cwS 1 hts gX2_costs_X2_checkDay rfl rfl rfl (by decide +kernel) ⟨(Nat.le_of_ble_eq_true rfl), (Nat.le_of_ble_eq_true rfl)⟩) (gk_preST hTF hS hF_1 hP hK hD) rfl rfl hl.1 rfl (lv_room (Nat.le_of_ble_eq_true rfl)) dX2_costs_1 ⟨(Nat.le_of_ble_eq_true rfl), (Nat.le_of_ble_eq_true rfl)⟩) hS (fun q _ h => hF_1 q h) hF_1 (fun q _ h => hF_1 q h) (fun E_1 ce_1 q_1 u_1 t_1 H locs ht_1 hvm_1 hpx_1 hBX_1 hz_1 hk_1 hS hce_1 hcv_1 hcl_1 => ?_) (fun u_1 t_1 H locs ht_1 hvm_1 hw_1 hB_1 hz_1 hk_1 hS => ?_)
  · obtain ⟨rfl, hB_1⟩ := hBX_1
    obtain ⟨hP, hD⟩ := gk_back hF_1 hB_1 ht_1
    refine vx_out (fun x hx9 => (htb x hx9).elim) hlocks hce_1 hcv_1 hcl_1 (fun t ht hal => ⟨E_1, ⟨hpx_1.1, hpx_1.2⟩, ⟨rfl, by rw [ht]; exact hP, va_K.moved hal hK, hD⟩, hS.F ht⟩) hS.2.2 (Nat.le_of_ble_eq_true rfl) (Nat.le_of_ble_eq_true rfl)
  · obtain ⟨hP, hD⟩ := gk_back hF_1 hB_1 ht_1
    refine lv_aload_n hx hb dX2_costs_4 rfl (lv_at hl 0 rfl) ?_
    refine lv_iload_n hx hb dX2_costs_5 rfl (lv_at hl 1 rfl) ?_
    have hF_2 := gk_all hD hS hA
    refine va_calli (va_runV (As := [.int d0]) (rest := []) ⟨hx, hb, hml, hown, hts⟩ (kX2_costsUpTo l D cyI cyZ cyL cyV cyJ g lr vr py ga gs ora oc lrow vrow nl nv am pay nc lcd pia Y L K bud fsd las bas mvi mva ear vln vda vam vrf vel vnx ch hOK d0 H.size _ rfl) (cwV 1 hts gX2_costs_X2_costsUpTo rfl rfl rfl (by decide +kernel) ⟨(Nat.le_of_ble_eq_true rfl), (Nat.le_of_ble_eq_true rfl)⟩) (gk_preV hP hK hD (va_recv hK hP (ci := 2) (q0 := 0) rfl rfl)) rfl rfl hl.1 rfl (lv_room (Nat.le_of_ble_eq_true rfl)) dX2_costs_6 ⟨(Nat.le_of_ble_eq_true rfl), (Nat.le_of_ble_eq_true rfl)⟩) hS (fun q _ h => hF_2 q h) hF_2 (fun r_2 u_2 t_2 H locs ht_2 hvm_2 hw_2 hB_2 hz_2 hk_2 hS => ?_)
    obtain ⟨hP, hD⟩ := gk_back hF_2 hB_2 ht_2
    subst hw_2
    refine W.widen (k := 1) (n := 6) (Nat.le_of_ble_eq_true rfl) (Nat.le_of_ble_eq_true rfl) ?_
    refine vx_ret ?_
    exact W.iret (v := (gSa lrow bas vel vda ch d0 0 12)) hx hb hr (fun t ht hW => ⟨⟨(gSa lrow bas vel vda ch d0 0 12), (), rfl, ⟨hw_1, rfl⟩, by rw [ht]; exact hP, va_K.moved hW.alike hK, hD⟩, hS.F ht⟩) hS.2.2 dX2_costs_9
set_option maxHeartbeats 4000000 in
set_option maxRecDepth 100000 in
theorem kX2_overhead (l : Launch) (hst : l.stackTraces = false) (D : va_G) (cyI cyZ cyL cyV cyJ : ClassId) (g lr vr py : Nat) (ga gs ora oc : Int32) (lrow vrow : Nat → Option Nat) (nl nv : Nat) (am : Int32) (pay : Nat → Int32) (nc : Nat) (lcd pia : Int32) (Y : va_W) (L : List Nat) (K : Nat → Nat) (bud fsd las bas mvi mva : Nat → Int32) (ear vln : Nat → Option Nat) (vda vam vrf vel : Nat → Int32) (vnx : Nat → Option Nat) (ch : Nat → List Nat) (hOK : gOK L K lrow vrow ear vln vnx ch) (d0 : Int32) (sz : Nat) (A : Nat → Prop) (hAe : va_A (((g, .inr (2, [.int ga, .int gs, .int ora, .int oc, .ref lr, .int (nI nl), .ref vr, .int (nI nv), .int am, .ref py, .int (nI nc), .int lcd, .int pia])) :: (lr, .inl (cyL, 12, .inr (.inr (.inr (.inr lrow))))) :: (vr, .inl (cyV, 100, .inr (.inr (.inr (.inr vrow))))) :: (py, .inl (cyI, 40, .inl pay)) :: Y : va_W) ++ va_pl L (gE K bud fsd las bas mvi mva ear vln vda vam vrf vel vnx)) sz = A) : vx_Met l yX2_overhead wsX2_overhead ({ frames := 8, cells := 1, slots := 6, locals := 124 }) (va_Pc [.ref g, .int d0] (gPreT D (gTy cyI cyZ cyL cyV cyJ) (((g, .inr (2, [.int ga, .int gs, .int ora, .int oc, .ref lr, .int (nI nl), .ref vr, .int (nI nv), .int am, .ref py, .int (nI nc), .int lcd, .int pia])) :: (lr, .inl (cyL, 12, .inr (.inr (.inr (.inr lrow))))) :: (vr, .inl (cyV, 100, .inr (.inr (.inr (.inr vrow))))) :: (py, .inl (cyI, 40, .inl pay)) :: Y : va_W) ++ va_pl L (gE K bud fsd las bas mvi mva ear vln vda vam vrf vel vnx)) sz)) (va_Qi (fun (r : Int32) (_ : Unit) => gIn d0 0 9999 ∧ r = (gOv ora oc (gSa lrow bas vel vda ch d0 1 12))) (fun (_ : Unit) t => gPost D (gTy cyI cyZ cyL cyV cyJ) A (((g, .inr (2, [.int ga, .int gs, .int ora, .int oc, .ref lr, .int (nI nl), .ref vr, .int (nI nv), .int am, .ref py, .int (nI nc), .int lcd, .int pia])) :: (lr, .inl (cyL, 12, .inr (.inr (.inr (.inr lrow))))) :: (vr, .inl (cyV, 100, .inr (.inr (.inr (.inr vrow))))) :: (py, .inl (cyI, 40, .inl pay)) :: Y : va_W) ++ va_pl L (gE K bud fsd las bas mvi mva ear vln vda vam vrf vel vnx)) t) A) (gThr D (gTy cyI cyZ cyL cyV cyJ) A (((g, .inr (2, [.int ga, .int gs, .int ora, .int oc, .ref lr, .int (nI nl), .ref vr, .int (nI nv), .int am, .ref py, .int (nI nc), .int lcd, .int pia])) :: (lr, .inl (cyL, 12, .inr (.inr (.inr (.inr lrow))))) :: (vr, .inl (cyV, 100, .inr (.inr (.inr (.inr vrow))))) :: (py, .inl (cyI, 40, .inl pay)) :: Y : va_W) ++ va_pl L (gE K bud fsd las bas mvi mva ear vln vda vam vrf vel vnx)) (fun E => (E = "java/lang/IllegalArgumentException" ∧ ¬ (gIn d0 0 9999)))) 1 6 A := by
  refine vx_ofW (cc := cX2_overhead) (maxL := 2) (ret := (some .int)) (by decide) rfl ?_
  intro p e s m args below meth c s₁ B hml htb hv
  obtain ⟨rfl, hTF, hsz, hP, hK, hD0⟩ := hv
  have hx := B.exec
  have hb := B.bytes
  have hr := B.returns
  have hts := atoms_spec (ws := wsX2_overhead) B.pre
  have hown : s.vm.findClass RX2 = some m.cls := findClass_of_methodNamed B.named
  have hlocks := B.notSynchronized
  subst hsz
  have hD := hD0.self (sz := s.heap.size)
  rw [hAe] at hD hTF
  have hA : ∀ q : Nat, s.heap.size ≤ q → A q := fun q h => by rw [← hAe]; exact Or.inr h
  have hS : va_S A s.heap s.heap [] := va_S.rf
  have hP : va_P D vwCl (((g, .inr (2, [.int ga, .int gs, .int ora, .int oc, .ref lr, .int (nI nl), .ref vr, .int (nI nv), .int am, .ref py, .int (nI nc), .int lcd, .int pia])) :: (lr, .inl (cyL, 12, .inr (.inr (.inr (.inr lrow))))) :: (vr, .inl (cyV, 100, .inr (.inr (.inr (.inr vrow))))) :: (py, .inl (cyI, 40, .inl pay)) :: Y : va_W) ++ va_pl L (gE K bud fsd las bas mvi mva ear vln vda vam vrf vel vnx)) s.heap := hP
  have hl := lv_entry ([.ref g, .int d0]) (n := 2) (Nat.le_of_ble_eq_true rfl)
  rw [lg_entry_eq]
  generalize (lg_sl ([.ref g, .int d0]) ++ List.replicate (2 - (lg_sl ([.ref g, .int d0])).length) Slot.unset).toArray = ls at hl ⊢
  have hl : lv_has ls 2 [(0, .ref g), (1, .int d0)] := hl
  refine lv_iload_n hx hb dX2_overhead_0 rfl (lv_at hl 1 rfl) ?_
  have hF_1 := gk_all hD hS hA
  refine vx_callv (vx_runS (As := [.int d0]) (rest := []) ⟨hx, hb, hml, hown, hts⟩ (kX2_checkDay l hst D (gTy cyI cyZ cyL cyV cyJ) (((g, .inr (2, [.int ga, .int gs, .int ora, .int oc, .ref lr, .int (nI nl), .ref vr, .int (nI nv), .int am, .ref py, .int (nI nc), .int lcd, .int pia])) :: (lr, .inl (cyL, 12, .inr (.inr (.inr (.inr lrow))))) :: (vr, .inl (cyV, 100, .inr (.inr (.inr (.inr vrow))))) :: (py, .inl (cyI, 40, .inl pay)) :: Y : va_W) ++ va_pl L (gE K bud fsd las bas mvi mva ear vln vda vam vrf vel vnx)) d0 s.heap.size _ rfl) (va_cwS 1 hts gX2_overhead_X2_checkDay rfl rfl rfl (by decide +kernel) ⟨(Nat.le_of_ble_eq_true rfl), (Nat.le_of_ble_eq_true rfl)⟩) (gk_preST hTF hS hF_1 hP hK hD) rfl rfl hl.1 rfl (lv_room (Nat.le_of_ble_eq_true rfl)) dX2_overhead_1 ⟨(Nat.le_of_ble_eq_true rfl), (Nat.le_of_ble_eq_true rfl)⟩) hS (fun q _ h => hF_1 q h) hF_1 (fun q _ h => hF_1 q h) (fun E_1 ce_1 q_1 u_1 t_1 H locs ht_1 hvm_1 hpx_1 hBX_1 hz_1 hk_1 hS hce_1 hcv_1 hcl_1 => ?_) (fun u_1 t_1 H locs ht_1 hvm_1 hw_1 hB_1 hz_1 hk_1 hS => ?_)
  · obtain ⟨rfl, hB_1⟩ := hBX_1
    obtain ⟨hP, hD⟩ := gk_back hF_1 hB_1 ht_1
    refine vx_out (fun x hx9 => (htb x hx9).elim) hlocks hce_1 hcv_1 hcl_1 (fun t ht hal => ⟨E_1, ⟨hpx_1.1, hpx_1.2⟩, ⟨rfl, by rw [ht]; exact hP, va_K.moved hal hK, hD⟩, hS.F ht⟩) hS.2.2 (Nat.le_of_ble_eq_true rfl) (Nat.le_of_ble_eq_true rfl)
  · obtain ⟨hP, hD⟩ := gk_back hF_1 hB_1 ht_1
    refine lv_aload_n hx hb dX2_overhead_4 rfl (lv_at hl 0 rfl) ?_
    refine lv_iload_n hx hb dX2_overhead_5 rfl (lv_at hl 1 rfl) ?_
    have hF_2 := gk_all hD hS hA
    refine va_calli (va_runV (As := [.int d0]) (rest := []) ⟨hx, hb, hml, hown, hts⟩ (kX2_overheadUpTo l D cyI cyZ cyL cyV cyJ g lr vr py ga gs ora oc lrow vrow nl nv am pay nc lcd pia Y L K bud fsd las bas mvi mva ear vln vda vam vrf vel vnx ch hOK d0 H.size _ rfl) (cwV 1 hts gX2_overhead_X2_overheadUpTo rfl rfl rfl (by decide +kernel) ⟨(Nat.le_of_ble_eq_true rfl), (Nat.le_of_ble_eq_true rfl)⟩) (gk_preV hP hK hD (va_recv hK hP (ci := 2) (q0 := 0) rfl rfl)) rfl rfl hl.1 rfl (lv_room (Nat.le_of_ble_eq_true rfl)) dX2_overhead_6 ⟨(Nat.le_of_ble_eq_true rfl), (Nat.le_of_ble_eq_true rfl)⟩) hS (fun q _ h => hF_2 q h) hF_2 (fun r_2 u_2 t_2 H locs ht_2 hvm_2 hw_2 hB_2 hz_2 hk_2 hS => ?_)
    obtain ⟨hP, hD⟩ := gk_back hF_2 hB_2 ht_2
    subst hw_2
    refine W.widen (k := 1) (n := 6) (Nat.le_of_ble_eq_true rfl) (Nat.le_of_ble_eq_true rfl) ?_
    refine vx_ret ?_
    exact W.iret (v := (gOv ora oc (gSa lrow bas vel vda ch d0 1 12))) hx hb hr (fun t ht hW => ⟨⟨(gOv ora oc (gSa lrow bas vel vda ch d0 1 12)), (), rfl, ⟨hw_1, rfl⟩, by rw [ht]; exact hP, va_K.moved hW.alike hK, hD⟩, hS.F ht⟩) hS.2.2 dX2_overhead_9
set_option maxHeartbeats 4000000 in
set_option maxRecDepth 100000 in
theorem kX2_earned (l : Launch) (hst : l.stackTraces = false) (D : va_G) (cyI cyZ cyL cyV cyJ : ClassId) (g lr vr py : Nat) (ga gs ora oc : Int32) (lrow vrow : Nat → Option Nat) (nl nv : Nat) (am : Int32) (pay : Nat → Int32) (nc : Nat) (lcd pia : Int32) (Y : va_W) (L : List Nat) (K : Nat → Nat) (bud fsd las bas mvi mva : Nat → Int32) (ear vln : Nat → Option Nat) (vda vam vrf vel : Nat → Int32) (vnx : Nat → Option Nat) (ch : Nat → List Nat) (hOK : gOK L K lrow vrow ear vln vnx ch) (d0 : Int32) (sz : Nat) (A : Nat → Prop) (hAe : va_A (((g, .inr (2, [.int ga, .int gs, .int ora, .int oc, .ref lr, .int (nI nl), .ref vr, .int (nI nv), .int am, .ref py, .int (nI nc), .int lcd, .int pia])) :: (lr, .inl (cyL, 12, .inr (.inr (.inr (.inr lrow))))) :: (vr, .inl (cyV, 100, .inr (.inr (.inr (.inr vrow))))) :: (py, .inl (cyI, 40, .inl pay)) :: Y : va_W) ++ va_pl L (gE K bud fsd las bas mvi mva ear vln vda vam vrf vel vnx)) sz = A) : vx_Met l yX2_earned wsX2_earned ({ frames := 8, cells := 1, slots := 6, locals := 124 }) (va_Pc [.ref g, .int d0] (gPreT D (gTy cyI cyZ cyL cyV cyJ) (((g, .inr (2, [.int ga, .int gs, .int ora, .int oc, .ref lr, .int (nI nl), .ref vr, .int (nI nv), .int am, .ref py, .int (nI nc), .int lcd, .int pia])) :: (lr, .inl (cyL, 12, .inr (.inr (.inr (.inr lrow))))) :: (vr, .inl (cyV, 100, .inr (.inr (.inr (.inr vrow))))) :: (py, .inl (cyI, 40, .inl pay)) :: Y : va_W) ++ va_pl L (gE K bud fsd las bas mvi mva ear vln vda vam vrf vel vnx)) sz)) (va_Qi (fun (r : Int32) (_ : Unit) => gIn d0 0 9999 ∧ r = (gEa gs am (gEb gs ga (gSa lrow bas vel vda ch d0 0 12) (gOv ora oc (gSa lrow bas vel vda ch d0 1 12))))) (fun (_ : Unit) t => gPost D (gTy cyI cyZ cyL cyV cyJ) A (((g, .inr (2, [.int ga, .int gs, .int ora, .int oc, .ref lr, .int (nI nl), .ref vr, .int (nI nv), .int am, .ref py, .int (nI nc), .int lcd, .int pia])) :: (lr, .inl (cyL, 12, .inr (.inr (.inr (.inr lrow))))) :: (vr, .inl (cyV, 100, .inr (.inr (.inr (.inr vrow))))) :: (py, .inl (cyI, 40, .inl pay)) :: Y : va_W) ++ va_pl L (gE K bud fsd las bas mvi mva ear vln vda vam vrf vel vnx)) t) A) (gThr D (gTy cyI cyZ cyL cyV cyJ) A (((g, .inr (2, [.int ga, .int gs, .int ora, .int oc, .ref lr, .int (nI nl), .ref vr, .int (nI nv), .int am, .ref py, .int (nI nc), .int lcd, .int pia])) :: (lr, .inl (cyL, 12, .inr (.inr (.inr (.inr lrow))))) :: (vr, .inl (cyV, 100, .inr (.inr (.inr (.inr vrow))))) :: (py, .inl (cyI, 40, .inl pay)) :: Y : va_W) ++ va_pl L (gE K bud fsd las bas mvi mva ear vln vda vam vrf vel vnx)) (fun E => (E = "java/lang/IllegalArgumentException" ∧ ¬ (gIn d0 0 9999)))) 1 6 A := by
  refine vx_ofW (cc := cX2_earned) (maxL := 2) (ret := (some .int)) (by decide) rfl ?_
  intro p e s m args below meth c s₁ B hml htb hv
  obtain ⟨rfl, hTF, hsz, hP, hK, hD0⟩ := hv
  have hx := B.exec
  have hb := B.bytes
  have hr := B.returns
  have hts := atoms_spec (ws := wsX2_earned) B.pre
  have hown : s.vm.findClass RX2 = some m.cls := findClass_of_methodNamed B.named
  have hlocks := B.notSynchronized
  subst hsz
  have hD := hD0.self (sz := s.heap.size)
  rw [hAe] at hD hTF
  have hA : ∀ q : Nat, s.heap.size ≤ q → A q := fun q h => by rw [← hAe]; exact Or.inr h
  have hS : va_S A s.heap s.heap [] := va_S.rf
  have hP : va_P D vwCl (((g, .inr (2, [.int ga, .int gs, .int ora, .int oc, .ref lr, .int (nI nl), .ref vr, .int (nI nv), .int am, .ref py, .int (nI nc), .int lcd, .int pia])) :: (lr, .inl (cyL, 12, .inr (.inr (.inr (.inr lrow))))) :: (vr, .inl (cyV, 100, .inr (.inr (.inr (.inr vrow))))) :: (py, .inl (cyI, 40, .inl pay)) :: Y : va_W) ++ va_pl L (gE K bud fsd las bas mvi mva ear vln vda vam vrf vel vnx)) s.heap := hP
  have hl := lv_entry ([.ref g, .int d0]) (n := 2) (Nat.le_of_ble_eq_true rfl)
  rw [lg_entry_eq]
  generalize (lg_sl ([.ref g, .int d0]) ++ List.replicate (2 - (lg_sl ([.ref g, .int d0])).length) Slot.unset).toArray = ls at hl ⊢
  have hl : lv_has ls 2 [(0, .ref g), (1, .int d0)] := hl
  refine lv_iload_n hx hb dX2_earned_0 rfl (lv_at hl 1 rfl) ?_
  have hF_1 := gk_all hD hS hA
  refine vx_callv (vx_runS (As := [.int d0]) (rest := []) ⟨hx, hb, hml, hown, hts⟩ (kX2_checkDay l hst D (gTy cyI cyZ cyL cyV cyJ) (((g, .inr (2, [.int ga, .int gs, .int ora, .int oc, .ref lr, .int (nI nl), .ref vr, .int (nI nv), .int am, .ref py, .int (nI nc), .int lcd, .int pia])) :: (lr, .inl (cyL, 12, .inr (.inr (.inr (.inr lrow))))) :: (vr, .inl (cyV, 100, .inr (.inr (.inr (.inr vrow))))) :: (py, .inl (cyI, 40, .inl pay)) :: Y : va_W) ++ va_pl L (gE K bud fsd las bas mvi mva ear vln vda vam vrf vel vnx)) d0 s.heap.size _ rfl) (va_cwS 1 hts gX2_earned_X2_checkDay rfl rfl rfl (by decide +kernel) ⟨(Nat.le_of_ble_eq_true rfl), (Nat.le_of_ble_eq_true rfl)⟩) (gk_preST hTF hS hF_1 hP hK hD) rfl rfl hl.1 rfl (lv_room (Nat.le_of_ble_eq_true rfl)) dX2_earned_1 ⟨(Nat.le_of_ble_eq_true rfl), (Nat.le_of_ble_eq_true rfl)⟩) hS (fun q _ h => hF_1 q h) hF_1 (fun q _ h => hF_1 q h) (fun E_1 ce_1 q_1 u_1 t_1 H locs ht_1 hvm_1 hpx_1 hBX_1 hz_1 hk_1 hS hce_1 hcv_1 hcl_1 => ?_) (fun u_1 t_1 H locs ht_1 hvm_1 hw_1 hB_1 hz_1 hk_1 hS => ?_)
  · obtain ⟨rfl, hB_1⟩ := hBX_1
    obtain ⟨hP, hD⟩ := gk_back hF_1 hB_1 ht_1
    refine vx_out (fun x hx9 => (htb x hx9).elim) hlocks hce_1 hcv_1 hcl_1 (fun t ht hal => ⟨E_1, ⟨hpx_1.1, hpx_1.2⟩, ⟨rfl, by rw [ht]; exact hP, va_K.moved hal hK, hD⟩, hS.F ht⟩) hS.2.2 (Nat.le_of_ble_eq_true rfl) (Nat.le_of_ble_eq_true rfl)
  · obtain ⟨hP, hD⟩ := gk_back hF_1 hB_1 ht_1
    refine lv_aload_n hx hb dX2_earned_4 rfl (lv_at hl 0 rfl) ?_
    refine lv_iload_n hx hb dX2_earned_5 rfl (lv_at hl 1 rfl) ?_
    have hF_2 := gk_all hD hS hA
    refine va_calli (va_runV (As := [.int d0]) (rest := []) ⟨hx, hb, hml, hown, hts⟩ (kX2_earnedUpTo l D cyI cyZ cyL cyV cyJ g lr vr py ga gs ora oc lrow vrow nl nv am pay nc lcd pia Y L K bud fsd las bas mvi mva ear vln vda vam vrf vel vnx ch hOK d0 H.size _ rfl) (cwV 1 hts gX2_earned_X2_earnedUpTo rfl rfl rfl (by decide +kernel) ⟨(Nat.le_of_ble_eq_true rfl), (Nat.le_of_ble_eq_true rfl)⟩) (gk_preV hP hK hD (va_recv hK hP (ci := 2) (q0 := 0) rfl rfl)) rfl rfl hl.1 rfl (lv_room (Nat.le_of_ble_eq_true rfl)) dX2_earned_6 ⟨(Nat.le_of_ble_eq_true rfl), (Nat.le_of_ble_eq_true rfl)⟩) hS (fun q _ h => hF_2 q h) hF_2 (fun r_2 u_2 t_2 H locs ht_2 hvm_2 hw_2 hB_2 hz_2 hk_2 hS => ?_)
    obtain ⟨hP, hD⟩ := gk_back hF_2 hB_2 ht_2
    subst hw_2
    refine W.widen (k := 1) (n := 6) (Nat.le_of_ble_eq_true rfl) (Nat.le_of_ble_eq_true rfl) ?_
    refine vx_ret ?_
    exact W.iret (v := (gEa gs am (gEb gs ga (gSa lrow bas vel vda ch d0 0 12) (gOv ora oc (gSa lrow bas vel vda ch d0 1 12))))) hx hb hr (fun t ht hW => ⟨⟨(gEa gs am (gEb gs ga (gSa lrow bas vel vda ch d0 0 12) (gOv ora oc (gSa lrow bas vel vda ch d0 1 12)))), (), rfl, ⟨hw_1, rfl⟩, by rw [ht]; exact hP, va_K.moved hW.alike hK, hD⟩, hS.F ht⟩) hS.2.2 dX2_earned_9
set_option maxHeartbeats 4000000 in
set_option maxRecDepth 100000 in
theorem kX2_missingMatch (l : Launch) (hst : l.stackTraces = false) (D : va_G) (cyI cyZ cyL cyV cyJ : ClassId) (g lr vr py : Nat) (ga gs ora oc : Int32) (lrow vrow : Nat → Option Nat) (nl nv : Nat) (am : Int32) (pay : Nat → Int32) (nc : Nat) (lcd pia : Int32) (Y : va_W) (L : List Nat) (K : Nat → Nat) (bud fsd las bas mvi mva : Nat → Int32) (ear vln : Nat → Option Nat) (vda vam vrf vel : Nat → Int32) (vnx : Nat → Option Nat) (ch : Nat → List Nat) (hOK : gOK L K lrow vrow ear vln vnx ch) (d0 : Int32) (sz : Nat) (A : Nat → Prop) (hAe : va_A (((g, .inr (2, [.int ga, .int gs, .int ora, .int oc, .ref lr, .int (nI nl), .ref vr, .int (nI nv), .int am, .ref py, .int (nI nc), .int lcd, .int pia])) :: (lr, .inl (cyL, 12, .inr (.inr (.inr (.inr lrow))))) :: (vr, .inl (cyV, 100, .inr (.inr (.inr (.inr vrow))))) :: (py, .inl (cyI, 40, .inl pay)) :: Y : va_W) ++ va_pl L (gE K bud fsd las bas mvi mva ear vln vda vam vrf vel vnx)) sz = A) : vx_Met l yX2_missingMatch wsX2_missingMatch ({ frames := 8, cells := 1, slots := 6, locals := 124 }) (va_Pc [.ref g, .int d0] (gPreT D (gTy cyI cyZ cyL cyV cyJ) (((g, .inr (2, [.int ga, .int gs, .int ora, .int oc, .ref lr, .int (nI nl), .ref vr, .int (nI nv), .int am, .ref py, .int (nI nc), .int lcd, .int pia])) :: (lr, .inl (cyL, 12, .inr (.inr (.inr (.inr lrow))))) :: (vr, .inl (cyV, 100, .inr (.inr (.inr (.inr vrow))))) :: (py, .inl (cyI, 40, .inl pay)) :: Y : va_W) ++ va_pl L (gE K bud fsd las bas mvi mva ear vln vda vam vrf vel vnx)) sz)) (va_Qi (fun (r : Int32) (_ : Unit) => gIn d0 0 9999 ∧ r = gMm gs am (gEb gs ga (gSa lrow bas vel vda ch d0 0 12) (gOv ora oc (gSa lrow bas vel vda ch d0 1 12)))) (fun (_ : Unit) t => gPost D (gTy cyI cyZ cyL cyV cyJ) A (((g, .inr (2, [.int ga, .int gs, .int ora, .int oc, .ref lr, .int (nI nl), .ref vr, .int (nI nv), .int am, .ref py, .int (nI nc), .int lcd, .int pia])) :: (lr, .inl (cyL, 12, .inr (.inr (.inr (.inr lrow))))) :: (vr, .inl (cyV, 100, .inr (.inr (.inr (.inr vrow))))) :: (py, .inl (cyI, 40, .inl pay)) :: Y : va_W) ++ va_pl L (gE K bud fsd las bas mvi mva ear vln vda vam vrf vel vnx)) t) A) (gThr D (gTy cyI cyZ cyL cyV cyJ) A (((g, .inr (2, [.int ga, .int gs, .int ora, .int oc, .ref lr, .int (nI nl), .ref vr, .int (nI nv), .int am, .ref py, .int (nI nc), .int lcd, .int pia])) :: (lr, .inl (cyL, 12, .inr (.inr (.inr (.inr lrow))))) :: (vr, .inl (cyV, 100, .inr (.inr (.inr (.inr vrow))))) :: (py, .inl (cyI, 40, .inl pay)) :: Y : va_W) ++ va_pl L (gE K bud fsd las bas mvi mva ear vln vda vam vrf vel vnx)) (fun E => (E = "java/lang/IllegalArgumentException" ∧ ¬ (gIn d0 0 9999)))) 1 6 A := by
  refine vx_ofW (cc := cX2_missingMatch) (maxL := 4) (ret := (some .int)) (by decide) rfl ?_
  intro p e s m args below meth c s₁ B hml htb hv
  obtain ⟨rfl, hTF, hsz, hP, hK, hD0⟩ := hv
  have hx := B.exec
  have hb := B.bytes
  have hr := B.returns
  have hts := atoms_spec (ws := wsX2_missingMatch) B.pre
  have hown : s.vm.findClass RX2 = some m.cls := findClass_of_methodNamed B.named
  have hlocks := B.notSynchronized
  subst hsz
  have hD := hD0.self (sz := s.heap.size)
  rw [hAe] at hD hTF
  have hA : ∀ q : Nat, s.heap.size ≤ q → A q := fun q h => by rw [← hAe]; exact Or.inr h
  have hS : va_S A s.heap s.heap [] := va_S.rf
  have hP : va_P D vwCl (((g, .inr (2, [.int ga, .int gs, .int ora, .int oc, .ref lr, .int (nI nl), .ref vr, .int (nI nv), .int am, .ref py, .int (nI nc), .int lcd, .int pia])) :: (lr, .inl (cyL, 12, .inr (.inr (.inr (.inr lrow))))) :: (vr, .inl (cyV, 100, .inr (.inr (.inr (.inr vrow))))) :: (py, .inl (cyI, 40, .inl pay)) :: Y : va_W) ++ va_pl L (gE K bud fsd las bas mvi mva ear vln vda vam vrf vel vnx)) s.heap := hP
  have hi2 : ∀ w ∈ wsX20, w ∈ wsX2_missingMatch := fun _ h => List.mem_cons_of_mem _ (List.mem_append_left _ (List.mem_append_left _ (List.mem_append_left _ (List.mem_append_right _ h))))
  have hl := lv_entry ([.ref g, .int d0]) (n := 4) (Nat.le_of_ble_eq_true rfl)
  rw [lg_entry_eq]
  generalize (lg_sl ([.ref g, .int d0]) ++ List.replicate (4 - (lg_sl ([.ref g, .int d0])).length) Slot.unset).toArray = ls at hl ⊢
  have hl : lv_has ls 4 [(0, .ref g), (1, .int d0)] := hl
  refine lv_iload_n hx hb dX2_missingMatch_0 rfl (lv_at hl 1 rfl) ?_
  have hF_1 := gk_all hD hS hA
  refine vx_callv (vx_runS (As := [.int d0]) (rest := []) ⟨hx, hb, hml, hown, hts⟩ (kX2_checkDay l hst D (gTy cyI cyZ cyL cyV cyJ) (((g, .inr (2, [.int ga, .int gs, .int ora, .int oc, .ref lr, .int (nI nl), .ref vr, .int (nI nv), .int am, .ref py, .int (nI nc), .int lcd, .int pia])) :: (lr, .inl (cyL, 12, .inr (.inr (.inr (.inr lrow))))) :: (vr, .inl (cyV, 100, .inr (.inr (.inr (.inr vrow))))) :: (py, .inl (cyI, 40, .inl pay)) :: Y : va_W) ++ va_pl L (gE K bud fsd las bas mvi mva ear vln vda vam vrf vel vnx)) d0 s.heap.size _ rfl) (va_cwS 1 hts gX2_missingMatch_X2_checkDay rfl rfl rfl (by decide +kernel) ⟨(Nat.le_of_ble_eq_true rfl), (Nat.le_of_ble_eq_true rfl)⟩) (gk_preST hTF hS hF_1 hP hK hD) rfl rfl hl.1 rfl (lv_room (Nat.le_of_ble_eq_true rfl)) dX2_missingMatch_1 ⟨(Nat.le_of_ble_eq_true rfl), (Nat.le_of_ble_eq_true rfl)⟩) hS (fun q _ h => hF_1 q h) hF_1 (fun q _ h => hF_1 q h) (fun E_1 ce_1 q_1 u_1 t_1 H locs ht_1 hvm_1 hpx_1 hBX_1 hz_1 hk_1 hS hce_1 hcv_1 hcl_1 => ?_) (fun u_1 t_1 H locs ht_1 hvm_1 hw_1 hB_1 hz_1 hk_1 hS => ?_)
  · obtain ⟨rfl, hB_1⟩ := hBX_1
    obtain ⟨hP, hD⟩ := gk_back hF_1 hB_1 ht_1
    refine vx_out (fun x hx9 => (htb x hx9).elim) hlocks hce_1 hcv_1 hcl_1 (fun t ht hal => ⟨E_1, ⟨hpx_1.1, hpx_1.2⟩, ⟨rfl, by rw [ht]; exact hP, va_K.moved hal hK, hD⟩, hS.F ht⟩) hS.2.2 (Nat.le_of_ble_eq_true rfl) (Nat.le_of_ble_eq_true rfl)
  · obtain ⟨hP, hD⟩ := gk_back hF_1 hB_1 ht_1
    refine lv_aload_n hx hb dX2_missingMatch_4 rfl (lv_at hl 0 rfl) ?_
    refine lv_aload_n hx hb dX2_missingMatch_5 rfl (lv_at hl 0 rfl) ?_
    refine lv_iload_n hx hb dX2_missingMatch_6 rfl (lv_at hl 1 rfl) ?_
    have hF_2 := gk_all hD hS hA
    refine va_calll (va_runV (As := [.int d0]) (rest := [.ref g]) ⟨hx, hb, hml, hown, hts⟩ (kX2_earnedButForMatch l D cyI cyZ cyL cyV cyJ g lr vr py ga gs ora oc lrow vrow nl nv am pay nc lcd pia Y L K bud fsd las bas mvi mva ear vln vda vam vrf vel vnx ch hOK d0 H.size _ rfl) (cwV 1 hts gX2_missingMatch_X2_earnedButForMatch rfl rfl rfl (by decide +kernel) ⟨(Nat.le_of_ble_eq_true rfl), (Nat.le_of_ble_eq_true rfl)⟩) (gk_preV hP hK hD (va_recv hK hP (ci := 2) (q0 := 0) rfl rfl)) rfl rfl hl.1 rfl (lv_room (Nat.le_of_ble_eq_true rfl)) dX2_missingMatch_7 ⟨(Nat.le_of_ble_eq_true rfl), (Nat.le_of_ble_eq_true rfl)⟩) hS (fun q _ h => hF_2 q h) hF_2 (fun r_2 u_2 t_2 H locs ht_2 hvm_2 hw_2 hB_2 hz_2 hk_2 hS => ?_)
    obtain ⟨hP, hD⟩ := gk_back hF_2 hB_2 ht_2
    subst hw_2
    have hF_3 := gk_all hD hS hA
    refine va_calll (va_runV (As := [.long (gEb gs ga (gSa lrow bas vel vda ch d0 0 12) (gOv ora oc (gSa lrow bas vel vda ch d0 1 12)))]) (rest := []) ⟨hx, hb, hml, hown, hts⟩ (kX2_leastMatchFor l D cyI cyZ cyL cyV cyJ g lr vr py ga gs ora oc lrow vrow nl nv am pay nc lcd pia Y L K bud fsd las bas mvi mva ear vln vda vam vrf vel vnx ch hOK (gEb gs ga (gSa lrow bas vel vda ch d0 0 12) (gOv ora oc (gSa lrow bas vel vda ch d0 1 12))) H.size _ rfl) (cwV 1 hts gX2_missingMatch_X2_leastMatchFor rfl rfl rfl (by decide +kernel) ⟨(Nat.le_of_ble_eq_true rfl), (Nat.le_of_ble_eq_true rfl)⟩) (gk_preV hP hK hD (va_recv hK hP (ci := 2) (q0 := 0) rfl rfl)) rfl rfl hl.1 rfl (lv_room (Nat.le_of_ble_eq_true rfl)) dX2_missingMatch_10 ⟨(Nat.le_of_ble_eq_true rfl), (Nat.le_of_ble_eq_true rfl)⟩) hS (fun q _ h => hF_3 q h) hF_3 (fun r_3 u_3 t_3 H locs ht_3 hvm_3 hw_3 hB_3 hz_3 hk_3 hS => ?_)
    obtain ⟨hP, hD⟩ := gk_back hF_3 hB_3 ht_3
    subst hw_3
    refine lv_aload_n hx hb dX2_missingMatch_13 rfl (lv_at hl 0 rfl) ?_
    refine va_get (D := D) (ci := 2) (v := .int am) (C := RX2) (T := TX2) (N := 13) hx hb hts hi2 hown hK hP 0 rfl rfl 8 (by decide) (hts (.fieldLink RX2 42 "GrantBook" "allMatch" "I") (List.mem_of_getElem? (i := 1) rfl)) (fun _ h9 => h9) rfl dX2_missingMatch_14 ?_
    refine lv_i2l hx hb dX2_missingMatch_17 rfl ?_
    refine lv_lsub hx hb dX2_missingMatch_18 ?_
    refine lv_lstore_n (lv' := [(2, .long ((gLm gs (gEb gs ga (gSa lrow bas vel vda ch d0 0 12) (gOv ora oc (gSa lrow bas vel vda ch d0 1 12)))) - am.toInt64)), (0, .ref g), (1, .int d0)]) hx hb dX2_missingMatch_19 rfl hl (by decide) rfl (fun ls hl => ?_)
    refine lv_lload_n hx hb dX2_missingMatch_20 rfl (lv_at hl 0 rfl) ?_
    refine lv_lconst (v := 0) hx hb dX2_missingMatch_21 (by decide) ?_
    refine va_mmax_long hx hb (hml.trans hl.1.symm) hown (hts (.methodLink RX2 169 Lib.MathLoose.max_long.x) (List.mem_of_getElem? (i := 2) rfl)) (hts (.static Lib.MathLoose.max_long.x) (List.mem_of_getElem? (i := 3) rfl)) (hts (.initialized "java/lang/Math") (List.mem_of_getElem? (i := 4) rfl)) (hts (.code Lib.MathLoose.max_long.x Lib.MathLoose.max_long.code 4 (some .long)) (List.mem_of_getElem? (i := 5) rfl)) (Nat.le_of_ble_eq_true rfl) (Nat.le_of_ble_eq_true rfl) (Nat.le_of_ble_eq_true rfl) (Nat.le_of_ble_eq_true rfl) dX2_missingMatch_22 ?_
    refine lv_l2i hx hb dX2_missingMatch_25 rfl ?_
    refine W.widen (k := 1) (n := 6) (Nat.le_of_ble_eq_true rfl) (Nat.le_of_ble_eq_true rfl) ?_
    refine vx_ret ?_
    exact W.iret (v := (if 0 < ((gLm gs (gEb gs ga (gSa lrow bas vel vda ch d0 0 12) (gOv ora oc (gSa lrow bas vel vda ch d0 1 12)))) - am.toInt64) then ((gLm gs (gEb gs ga (gSa lrow bas vel vda ch d0 0 12) (gOv ora oc (gSa lrow bas vel vda ch d0 1 12)))) - am.toInt64) else 0).toInt32) hx hb hr (fun t ht hW => ⟨⟨(if 0 < ((gLm gs (gEb gs ga (gSa lrow bas vel vda ch d0 0 12) (gOv ora oc (gSa lrow bas vel vda ch d0 1 12)))) - am.toInt64) then ((gLm gs (gEb gs ga (gSa lrow bas vel vda ch d0 0 12) (gOv ora oc (gSa lrow bas vel vda ch d0 1 12)))) - am.toInt64) else 0).toInt32, (), rfl, ⟨hw_1, rfl⟩, by rw [ht]; exact hP, va_K.moved hW.alike hK, hD⟩, hS.F ht⟩) hS.2.2 dX2_missingMatch_26
set_option maxHeartbeats 4000000 in
set_option maxRecDepth 100000 in
theorem kX2_claim (l : Launch) (hst : l.stackTraces = false) (D : va_G) (cyI cyZ cyL cyV cyJ : ClassId) (g lr vr py : Nat) (ga gs ora oc : Int32) (lrow vrow : Nat → Option Nat) (nl nv : Nat) (am : Int32) (pay : Nat → Int32) (nc : Nat) (lcd pia : Int32) (Y : va_W) (L : List Nat) (K : Nat → Nat) (bud fsd las bas mvi mva : Nat → Int32) (ear vln : Nat → Option Nat) (vda vam vrf vel : Nat → Int32) (vnx : Nat → Option Nat) (ch : Nat → List Nat) (hOK : gOK L K lrow vrow ear vln vnx ch) (hnc : nc ≤ 40) (d0 : Int32) (sz : Nat) (A : Nat → Prop) (hAe : va_A (((g, .inr (2, [.int ga, .int gs, .int ora, .int oc, .ref lr, .int (nI nl), .ref vr, .int (nI nv), .int am, .ref py, .int (nI nc), .int lcd, .int pia])) :: (lr, .inl (cyL, 12, .inr (.inr (.inr (.inr lrow))))) :: (vr, .inl (cyV, 100, .inr (.inr (.inr (.inr vrow))))) :: (py, .inl (cyI, 40, .inl pay)) :: Y : va_W) ++ va_pl L (gE K bud fsd las bas mvi mva ear vln vda vam vrf vel vnx)) sz = A) : vx_Met l yX2_claim wsX2_claim ({ frames := 7, cells := 2, slots := 12, locals := 120 }) (va_Pc [.ref g, .int d0] (gPreT D (gTy cyI cyZ cyL cyV cyJ) (((g, .inr (2, [.int ga, .int gs, .int ora, .int oc, .ref lr, .int (nI nl), .ref vr, .int (nI nv), .int am, .ref py, .int (nI nc), .int lcd, .int pia])) :: (lr, .inl (cyL, 12, .inr (.inr (.inr (.inr lrow))))) :: (vr, .inl (cyV, 100, .inr (.inr (.inr (.inr vrow))))) :: (py, .inl (cyI, 40, .inl pay)) :: Y : va_W) ++ va_pl L (gE K bud fsd las bas mvi mva ear vln vda vam vrf vel vnx)) sz)) (va_Qi (fun (r : Int32) (_ : Unit) => gIn d0 lcd 9999 ∧ nI nc < 40 ∧ r = ((gEa gs am (gEb gs ga (gSa lrow bas vel vda ch d0 0 12) (gOv ora oc (gSa lrow bas vel vda ch d0 1 12)))) - pia)) (fun (_ : Unit) t => gPost D (gTy cyI cyZ cyL cyV cyJ) A (((g, .inr (2, [.int ga, .int gs, .int ora, .int oc, .ref lr, .int (nI nl), .ref vr, .int (nI nv), .int am, .ref py, .int (nI (nc + 1)), .int d0, .int (pia + ((gEa gs am (gEb gs ga (gSa lrow bas vel vda ch d0 0 12) (gOv ora oc (gSa lrow bas vel vda ch d0 1 12)))) - pia))])) :: (lr, .inl (cyL, 12, .inr (.inr (.inr (.inr lrow))))) :: (vr, .inl (cyV, 100, .inr (.inr (.inr (.inr vrow))))) :: (py, .inl (cyI, 40, .inl (va_up pay nc ((gEa gs am (gEb gs ga (gSa lrow bas vel vda ch d0 0 12) (gOv ora oc (gSa lrow bas vel vda ch d0 1 12)))) - pia)))) :: Y : va_W) ++ va_pl L (gE K bud fsd las bas mvi mva ear vln vda vam vrf vel vnx)) t) A) (gThr D (gTy cyI cyZ cyL cyV cyJ) A (((g, .inr (2, [.int ga, .int gs, .int ora, .int oc, .ref lr, .int (nI nl), .ref vr, .int (nI nv), .int am, .ref py, .int (nI nc), .int lcd, .int pia])) :: (lr, .inl (cyL, 12, .inr (.inr (.inr (.inr lrow))))) :: (vr, .inl (cyV, 100, .inr (.inr (.inr (.inr vrow))))) :: (py, .inl (cyI, 40, .inl pay)) :: Y : va_W) ++ va_pl L (gE K bud fsd las bas mvi mva ear vln vda vam vrf vel vnx)) (fun E => (E = "java/lang/IllegalArgumentException" ∧ ¬ (gIn d0 lcd 9999)) ∨ (E = "java/lang/IllegalStateException" ∧ gIn d0 lcd 9999 ∧ ¬ (nI nc < 40)))) 2 12 A := by
  refine vx_ofW (cc := cX2_claim) (maxL := 4) (ret := (some .int)) (by decide) rfl ?_
  intro p e s m args below meth c s₁ B hml htb hv
  obtain ⟨rfl, hTF, hsz, hP, hK, hD0⟩ := hv
  have hx := B.exec
  have hb := B.bytes
  have hr := B.returns
  have hts := atoms_spec (ws := wsX2_claim) B.pre
  have hown : s.vm.findClass RX2 = some m.cls := findClass_of_methodNamed B.named
  have hlocks := B.notSynchronized
  subst hsz
  have hD := hD0.self (sz := s.heap.size)
  rw [hAe] at hD hTF
  have hA : ∀ q : Nat, s.heap.size ≤ q → A q := fun q h => by rw [← hAe]; exact Or.inr h
  have hS : va_S A s.heap s.heap [] := va_S.rf
  have hP : va_P D vwCl (((g, .inr (2, [.int ga, .int gs, .int ora, .int oc, .ref lr, .int (nI nl), .ref vr, .int (nI nv), .int am, .ref py, .int (nI nc), .int lcd, .int pia])) :: (lr, .inl (cyL, 12, .inr (.inr (.inr (.inr lrow))))) :: (vr, .inl (cyV, 100, .inr (.inr (.inr (.inr vrow))))) :: (py, .inl (cyI, 40, .inl pay)) :: Y : va_W) ++ va_pl L (gE K bud fsd las bas mvi mva ear vln vda vam vrf vel vnx)) s.heap := hP
  have hi2 : ∀ w ∈ wsX20, w ∈ wsX2_claim := fun _ h => List.mem_cons_of_mem _ (List.mem_append_left _ (List.mem_append_left _ (List.mem_append_left _ (List.mem_append_left _ (List.mem_append_right _ h)))))
  have hl := lv_entry ([.ref g, .int d0]) (n := 4) (Nat.le_of_ble_eq_true rfl)
  rw [lg_entry_eq]
  generalize (lg_sl ([.ref g, .int d0]) ++ List.replicate (4 - (lg_sl ([.ref g, .int d0])).length) Slot.unset).toArray = ls at hl ⊢
  have hl : lv_has ls 4 [(0, .ref g), (1, .int d0)] := hl
  refine lv_iload_n hx hb dX2_claim_0 rfl (lv_at hl 1 rfl) ?_
  refine lv_aload_n hx hb dX2_claim_1 rfl (lv_at hl 0 rfl) ?_
  refine va_get (D := D) (ci := 2) (v := .int lcd) (C := RX2) (T := TX2) (N := 13) hx hb hts hi2 hown hK hP 0 rfl rfl 11 (by decide) (hts (.fieldLink RX2 52 "GrantBook" "lastClaimDay" "I") (List.mem_of_getElem? (i := 3) rfl)) (fun _ h9 => h9) rfl dX2_claim_2 ?_
  refine lv_sipush (v := 9999) hx hb dX2_claim_5 (by decide) ?_
  have hF_1 := gk_all hD hS hA
  refine vx_callv (vx_runS (As := [.int d0, .int lcd, .int 9999]) (rest := []) ⟨hx, hb, hml, hown, hts⟩ (kX2_checkRange l hst D (gTy cyI cyZ cyL cyV cyJ) (((g, .inr (2, [.int ga, .int gs, .int ora, .int oc, .ref lr, .int (nI nl), .ref vr, .int (nI nv), .int am, .ref py, .int (nI nc), .int lcd, .int pia])) :: (lr, .inl (cyL, 12, .inr (.inr (.inr (.inr lrow))))) :: (vr, .inl (cyV, 100, .inr (.inr (.inr (.inr vrow))))) :: (py, .inl (cyI, 40, .inl pay)) :: Y : va_W) ++ va_pl L (gE K bud fsd las bas mvi mva ear vln vda vam vrf vel vnx)) d0 lcd 9999 s.heap.size _ rfl) (va_cwS 3 hts gX2_claim_X2_checkRange rfl rfl rfl (by decide +kernel) ⟨(Nat.le_of_ble_eq_true rfl), (Nat.le_of_ble_eq_true rfl)⟩) (gk_preST hTF hS hF_1 hP hK hD) rfl rfl hl.1 rfl (lv_room (Nat.le_of_ble_eq_true rfl)) dX2_claim_8 ⟨(Nat.le_of_ble_eq_true rfl), (Nat.le_of_ble_eq_true rfl)⟩) hS (fun q _ h => hF_1 q h) hF_1 (fun q _ h => hF_1 q h) (fun E_1 ce_1 q_1 u_1 t_1 H locs ht_1 hvm_1 hpx_1 hBX_1 hz_1 hk_1 hS hce_1 hcv_1 hcl_1 => ?_) (fun u_1 t_1 H locs ht_1 hvm_1 hw_1 hB_1 hz_1 hk_1 hS => ?_)
  · obtain ⟨rfl, hB_1⟩ := hBX_1
    obtain ⟨hP, hD⟩ := gk_back hF_1 hB_1 ht_1
    refine vx_out (fun x hx9 => (htb x hx9).elim) hlocks hce_1 hcv_1 hcl_1 (fun t ht hal => ⟨E_1, Or.inl ⟨hpx_1.1, hpx_1.2⟩, ⟨rfl, by rw [ht]; exact hP, va_K.moved hal hK, hD⟩, hS.F ht⟩) hS.2.2 (Nat.le_of_ble_eq_true rfl) (Nat.le_of_ble_eq_true rfl)
  · obtain ⟨hP, hD⟩ := gk_back hF_1 hB_1 ht_1
    refine lv_aload_n hx hb dX2_claim_11 rfl (lv_at hl 0 rfl) ?_
    refine va_get (D := D) (ci := 2) (v := .int (nI nc)) (C := RX2) (T := TX2) (N := 13) hx hb hts hi2 hown hK hP 0 rfl rfl 10 (by decide) (hts (.fieldLink RX2 49 "GrantBook" "claimCount" "I") (List.mem_of_getElem? (i := 4) rfl)) (fun _ h9 => h9) rfl dX2_claim_12 ?_
    refine lv_istore_n (lv' := [(2, .int (nI nc)), (0, .ref g), (1, .int d0)]) hx hb dX2_claim_15 rfl hl (by decide) rfl (fun ls hl => ?_)
    refine lv_iload_n hx hb dX2_claim_16 rfl (lv_at hl 0 rfl) ?_
    refine lv_if_lt (tgt := 29) hx hb dX2_claim_17 (by decide) (fun c9 => absurd c9 (nI_pos (by omega))) (fun _ => ?_)
    refine lv_iload_n hx hb dX2_claim_20 rfl (lv_at hl 0 rfl) ?_
    refine lv_aload_n hx hb dX2_claim_21 rfl (lv_at hl 1 rfl) ?_
    refine va_get (D := D) (ci := 2) (v := .ref py) (C := RX2) (T := TX2) (N := 13) hx hb hts hi2 hown hK hP 0 rfl rfl 9 (by decide) (hts (.fieldLink RX2 45 "GrantBook" "payments" "[I") (List.mem_of_getElem? (i := 5) rfl)) (fun _ h9 => h9) rfl dX2_claim_22 ?_
    refine va_alen hx hb hK hP 3 0 rfl rfl (v := 40) rfl dX2_claim_25 ?_
    refine lv_icmp_lt (tgt := 39) hx hb dX2_claim_26 (by decide) (fun c_2 => ?_) (fun c_2 => ?_)
    · refine lv_aload_n hx hb dX2_claim_39 rfl (lv_at hl 1 rfl) ?_
      refine lv_iload_n hx hb dX2_claim_40 rfl (lv_at hl 2 rfl) ?_
      have hF_3 := gk_all hD hS hA
      refine va_calli (va_runV (As := [.int d0]) (rest := []) ⟨hx, hb, hml, hown, hts⟩ (kX2_earnedUpTo l D cyI cyZ cyL cyV cyJ g lr vr py ga gs ora oc lrow vrow nl nv am pay nc lcd pia Y L K bud fsd las bas mvi mva ear vln vda vam vrf vel vnx ch hOK d0 H.size _ rfl) (cwV 1 hts gX2_claim_X2_earnedUpTo rfl rfl rfl (by decide +kernel) ⟨(Nat.le_of_ble_eq_true rfl), (Nat.le_of_ble_eq_true rfl)⟩) (gk_preV hP hK hD (va_recv hK hP (ci := 2) (q0 := 0) rfl rfl)) rfl rfl hl.1 rfl (lv_room (Nat.le_of_ble_eq_true rfl)) dX2_claim_41 ⟨(Nat.le_of_ble_eq_true rfl), (Nat.le_of_ble_eq_true rfl)⟩) hS (fun q _ h => hF_3 q h) hF_3 (fun r_3 u_3 t_3 H locs ht_3 hvm_3 hw_3 hB_3 hz_3 hk_3 hS => ?_)
      obtain ⟨hP, hD⟩ := gk_back hF_3 hB_3 ht_3
      subst hw_3
      refine lv_aload_n hx hb dX2_claim_44 rfl (lv_at hl 1 rfl) ?_
      refine va_get (D := D) (ci := 2) (v := .int pia) (C := RX2) (T := TX2) (N := 13) hx hb hts hi2 hown hK hP 0 rfl rfl 12 (by decide) (hts (.fieldLink RX2 55 "GrantBook" "paidInAll" "I") (List.mem_of_getElem? (i := 6) rfl)) (fun _ h9 => h9) rfl dX2_claim_45 ?_
      refine lv_isub hx hb dX2_claim_48 ?_
      refine lv_istore_n (lv' := [(3, .int ((gEa gs am (gEb gs ga (gSa lrow bas vel vda ch d0 0 12) (gOv ora oc (gSa lrow bas vel vda ch d0 1 12)))) - pia)), (2, .int (nI nc)), (0, .ref g), (1, .int d0)]) hx hb dX2_claim_49 rfl hl (by decide) rfl (fun ls hl => ?_)
      refine lv_aload_n hx hb dX2_claim_50 rfl (lv_at hl 2 rfl) ?_
      refine va_get (D := D) (ci := 2) (v := .ref py) (C := RX2) (T := TX2) (N := 13) hx hb hts hi2 hown hK hP 0 rfl rfl 9 (by decide) (hts (.fieldLink RX2 45 "GrantBook" "payments" "[I") (List.mem_of_getElem? (i := 5) rfl)) (fun _ h9 => h9) rfl dX2_claim_51 ?_
      refine lv_iload_n hx hb dX2_claim_54 rfl (lv_at hl 1 rfl) ?_
      refine lv_iload_n hx hb dX2_claim_55 rfl (lv_at hl 0 rfl) ?_
      refine gk_iast (i := nc) hx hb hK hP hD hS 3 0 rfl rfl (gLt (N := 40) (by omega) (by decide) c_2) (by decide) dX2_claim_56 (fun H locs hP hD hS => ?_)
      have hP : va_P D vwCl (((g, .inr (2, [.int ga, .int gs, .int ora, .int oc, .ref lr, .int (nI nl), .ref vr, .int (nI nv), .int am, .ref py, .int (nI nc), .int lcd, .int pia])) :: (lr, .inl (cyL, 12, .inr (.inr (.inr (.inr lrow))))) :: (vr, .inl (cyV, 100, .inr (.inr (.inr (.inr vrow))))) :: (py, .inl (cyI, 40, .inl (va_up pay nc ((gEa gs am (gEb gs ga (gSa lrow bas vel vda ch d0 0 12) (gOv ora oc (gSa lrow bas vel vda ch d0 1 12)))) - pia)))) :: Y : va_W) ++ va_pl L (gE K bud fsd las bas mvi mva ear vln vda vam vrf vel vnx)) H := hP
      have hD : va_D A (((g, .inr (2, [.int ga, .int gs, .int ora, .int oc, .ref lr, .int (nI nl), .ref vr, .int (nI nv), .int am, .ref py, .int (nI nc), .int lcd, .int pia])) :: (lr, .inl (cyL, 12, .inr (.inr (.inr (.inr lrow))))) :: (vr, .inl (cyV, 100, .inr (.inr (.inr (.inr vrow))))) :: (py, .inl (cyI, 40, .inl (va_up pay nc ((gEa gs am (gEb gs ga (gSa lrow bas vel vda ch d0 0 12) (gOv ora oc (gSa lrow bas vel vda ch d0 1 12)))) - pia)))) :: Y : va_W) ++ va_pl L (gE K bud fsd las bas mvi mva ear vln vda vam vrf vel vnx)) := hD
      obtain ⟨pay_4, epay_4⟩ : ∃ z, z = (va_up pay nc ((gEa gs am (gEb gs ga (gSa lrow bas vel vda ch d0 0 12) (gOv ora oc (gSa lrow bas vel vda ch d0 1 12)))) - pia)) := ⟨_, rfl⟩
      rw [← epay_4] at hP hD
      refine lv_aload_n hx hb dX2_claim_57 rfl (lv_at hl 2 rfl) ?_
      refine lv_iload_n hx hb dX2_claim_58 rfl (lv_at hl 1 rfl) ?_
      refine lv_iconst (v := 1) hx hb dX2_claim_59 (by decide) ?_
      refine lv_iadd hx hb dX2_claim_60 ?_
      rw [show nI nc + 1 = nI (nc + 1) from nI_1 nc]
      refine va_put (D := D) (ci := 2) (v := .int (nI (nc + 1))) (ty := .int) (C := RX2) (T := TX2) (N := 13) hx hb hts hi2 tyX2 tyX2_ok nmX2 hown hK hP hD hS 0 rfl rfl 10 (by decide) (hts (.fieldLink RX2 49 "GrantBook" "claimCount" "I") (List.mem_of_getElem? (i := 4) rfl)) (fun _ h9 => h9) rfl (by decide +kernel) rfl rfl (Nat.le_of_ble_eq_true rfl) dX2_claim_61 (fun H locs hP hD hS => ?_)
      have hP : va_P D vwCl (((g, .inr (2, [.int ga, .int gs, .int ora, .int oc, .ref lr, .int (nI nl), .ref vr, .int (nI nv), .int am, .ref py, .int (nI (nc + 1)), .int lcd, .int pia])) :: (lr, .inl (cyL, 12, .inr (.inr (.inr (.inr lrow))))) :: (vr, .inl (cyV, 100, .inr (.inr (.inr (.inr vrow))))) :: (py, .inl (cyI, 40, .inl pay_4)) :: Y : va_W) ++ va_pl L (gE K bud fsd las bas mvi mva ear vln vda vam vrf vel vnx)) H := hP
      have hD : va_D A (((g, .inr (2, [.int ga, .int gs, .int ora, .int oc, .ref lr, .int (nI nl), .ref vr, .int (nI nv), .int am, .ref py, .int (nI (nc + 1)), .int lcd, .int pia])) :: (lr, .inl (cyL, 12, .inr (.inr (.inr (.inr lrow))))) :: (vr, .inl (cyV, 100, .inr (.inr (.inr (.inr vrow))))) :: (py, .inl (cyI, 40, .inl pay_4)) :: Y : va_W) ++ va_pl L (gE K bud fsd las bas mvi mva ear vln vda vam vrf vel vnx)) := hD
      refine lv_aload_n hx hb dX2_claim_64 rfl (lv_at hl 2 rfl) ?_
      refine lv_iload_n hx hb dX2_claim_65 rfl (lv_at hl 3 rfl) ?_
      refine va_put (D := D) (ci := 2) (v := .int d0) (ty := .int) (C := RX2) (T := TX2) (N := 13) hx hb hts hi2 tyX2 tyX2_ok nmX2 hown hK hP hD hS 0 rfl rfl 11 (by decide) (hts (.fieldLink RX2 52 "GrantBook" "lastClaimDay" "I") (List.mem_of_getElem? (i := 3) rfl)) (fun _ h9 => h9) rfl (by decide +kernel) rfl rfl (Nat.le_of_ble_eq_true rfl) dX2_claim_66 (fun H locs hP hD hS => ?_)
      have hP : va_P D vwCl (((g, .inr (2, [.int ga, .int gs, .int ora, .int oc, .ref lr, .int (nI nl), .ref vr, .int (nI nv), .int am, .ref py, .int (nI (nc + 1)), .int d0, .int pia])) :: (lr, .inl (cyL, 12, .inr (.inr (.inr (.inr lrow))))) :: (vr, .inl (cyV, 100, .inr (.inr (.inr (.inr vrow))))) :: (py, .inl (cyI, 40, .inl pay_4)) :: Y : va_W) ++ va_pl L (gE K bud fsd las bas mvi mva ear vln vda vam vrf vel vnx)) H := hP
      have hD : va_D A (((g, .inr (2, [.int ga, .int gs, .int ora, .int oc, .ref lr, .int (nI nl), .ref vr, .int (nI nv), .int am, .ref py, .int (nI (nc + 1)), .int d0, .int pia])) :: (lr, .inl (cyL, 12, .inr (.inr (.inr (.inr lrow))))) :: (vr, .inl (cyV, 100, .inr (.inr (.inr (.inr vrow))))) :: (py, .inl (cyI, 40, .inl pay_4)) :: Y : va_W) ++ va_pl L (gE K bud fsd las bas mvi mva ear vln vda vam vrf vel vnx)) := hD
      refine lv_aload_n hx hb dX2_claim_69 rfl (lv_at hl 2 rfl) ?_
      refine lv_dup hx hb dX2_claim_70 rfl ?_
      refine va_get (D := D) (ci := 2) (v := .int pia) (C := RX2) (T := TX2) (N := 13) hx hb hts hi2 hown hK hP 0 rfl rfl 12 (by decide) (hts (.fieldLink RX2 55 "GrantBook" "paidInAll" "I") (List.mem_of_getElem? (i := 6) rfl)) (fun _ h9 => h9) rfl dX2_claim_71 ?_
      refine lv_iload_n hx hb dX2_claim_74 rfl (lv_at hl 0 rfl) ?_
      refine lv_iadd hx hb dX2_claim_75 ?_
      refine va_put (D := D) (ci := 2) (v := .int (pia + ((gEa gs am (gEb gs ga (gSa lrow bas vel vda ch d0 0 12) (gOv ora oc (gSa lrow bas vel vda ch d0 1 12)))) - pia))) (ty := .int) (C := RX2) (T := TX2) (N := 13) hx hb hts hi2 tyX2 tyX2_ok nmX2 hown hK hP hD hS 0 rfl rfl 12 (by decide) (hts (.fieldLink RX2 55 "GrantBook" "paidInAll" "I") (List.mem_of_getElem? (i := 6) rfl)) (fun _ h9 => h9) rfl (by decide +kernel) rfl rfl (Nat.le_of_ble_eq_true rfl) dX2_claim_76 (fun H locs hP hD hS => ?_)
      have hP : va_P D vwCl (((g, .inr (2, [.int ga, .int gs, .int ora, .int oc, .ref lr, .int (nI nl), .ref vr, .int (nI nv), .int am, .ref py, .int (nI (nc + 1)), .int d0, .int (pia + ((gEa gs am (gEb gs ga (gSa lrow bas vel vda ch d0 0 12) (gOv ora oc (gSa lrow bas vel vda ch d0 1 12)))) - pia))])) :: (lr, .inl (cyL, 12, .inr (.inr (.inr (.inr lrow))))) :: (vr, .inl (cyV, 100, .inr (.inr (.inr (.inr vrow))))) :: (py, .inl (cyI, 40, .inl pay_4)) :: Y : va_W) ++ va_pl L (gE K bud fsd las bas mvi mva ear vln vda vam vrf vel vnx)) H := hP
      have hD : va_D A (((g, .inr (2, [.int ga, .int gs, .int ora, .int oc, .ref lr, .int (nI nl), .ref vr, .int (nI nv), .int am, .ref py, .int (nI (nc + 1)), .int d0, .int (pia + ((gEa gs am (gEb gs ga (gSa lrow bas vel vda ch d0 0 12) (gOv ora oc (gSa lrow bas vel vda ch d0 1 12)))) - pia))])) :: (lr, .inl (cyL, 12, .inr (.inr (.inr (.inr lrow))))) :: (vr, .inl (cyV, 100, .inr (.inr (.inr (.inr vrow))))) :: (py, .inl (cyI, 40, .inl pay_4)) :: Y : va_W) ++ va_pl L (gE K bud fsd las bas mvi mva ear vln vda vam vrf vel vnx)) := hD
      refine lv_iload_n hx hb dX2_claim_79 rfl (lv_at hl 0 rfl) ?_
      subst epay_4
      refine W.widen (k := 2) (n := 12) (Nat.le_of_ble_eq_true rfl) (Nat.le_of_ble_eq_true rfl) ?_
      refine vx_ret ?_
      exact W.iret (v := ((gEa gs am (gEb gs ga (gSa lrow bas vel vda ch d0 0 12) (gOv ora oc (gSa lrow bas vel vda ch d0 1 12)))) - pia)) hx hb hr (fun t ht hW => ⟨⟨((gEa gs am (gEb gs ga (gSa lrow bas vel vda ch d0 0 12) (gOv ora oc (gSa lrow bas vel vda ch d0 1 12)))) - pia), (), rfl, ⟨hw_1, c_2, rfl⟩, by rw [ht]; exact hP, va_K.moved hW.alike hK, hD⟩, hS.F ht⟩) hS.2.2 dX2_claim_80
    · obtain ⟨sa_5, hsa_5⟩ := hTF.2.2.2 (175, "no more claims can be made") (by decide +kernel)
      exact vx_throwS hx hb hst (sa := sa_5) (text := "no more claims can be made") (is := 175) (names := ["java/lang/RuntimeException", "java/lang/Exception"]) hown (by decide +kernel) (by decide +kernel) (hts (.classLink RX2 63 "java/lang/IllegalStateException") (List.mem_of_getElem? (i := 1) rfl)) (hts (.initialized "java/lang/IllegalStateException") (List.mem_of_getElem? (i := 2) rfl)) hsa_5 (gk_hat (fun w hw => hts w (List.mem_cons_of_mem _ (List.mem_append_left _ (List.mem_append_right _ hw)))) hTF (by decide +kernel)) (by decide +kernel) hTF.1 hTF.2.1 hS (hl.1.trans hml.symm) dX2_claim_29 dX2_claim_32 dX2_claim_33 dX2_claim_35 dX2_claim_38 (fun x hx9 => (htb x hx9).elim) (Nat.le_of_ble_eq_true rfl) (Nat.le_of_ble_eq_true rfl) (Nat.le_of_ble_eq_true rfl) (Nat.le_of_ble_eq_true rfl) hlocks (fun t hal hsz9 hkp => ⟨"java/lang/IllegalStateException", Or.inr (⟨rfl, hw_1, c_2⟩), ⟨rfl, hP.kept (fun k q hk => hkp q.1 (vx_lt hP hk)), va_K.moved hal hK, hD⟩, Nat.le_trans hS.1 hsz9, fun q h1 h2 => (hkp q (Nat.lt_of_lt_of_le h1 hS.1)).trans (hS.2.1 q h1 h2)⟩) hS.2.2 (Nat.le_of_ble_eq_true rfl) (Nat.le_of_ble_eq_true rfl)
set_option maxHeartbeats 4000000 in
set_option maxRecDepth 100000 in
theorem kX2_paid (l : Launch) (hst : l.stackTraces = false) (D : va_G) (cyI cyZ cyL cyV cyJ : ClassId) (g lr vr py : Nat) (ga gs ora oc : Int32) (lrow vrow : Nat → Option Nat) (nl nv : Nat) (am : Int32) (pay : Nat → Int32) (nc : Nat) (lcd pia : Int32) (Y : va_W) (L : List Nat) (K : Nat → Nat) (bud fsd las bas mvi mva : Nat → Int32) (ear vln : Nat → Option Nat) (vda vam vrf vel : Nat → Int32) (vnx : Nat → Option Nat) (ch : Nat → List Nat) (hOK : gOK L K lrow vrow ear vln vnx ch) (hnc : nc ≤ 40) (k0 : Int32) (sz : Nat) (A : Nat → Prop) (hAe : va_A (((g, .inr (2, [.int ga, .int gs, .int ora, .int oc, .ref lr, .int (nI nl), .ref vr, .int (nI nv), .int am, .ref py, .int (nI nc), .int lcd, .int pia])) :: (lr, .inl (cyL, 12, .inr (.inr (.inr (.inr lrow))))) :: (vr, .inl (cyV, 100, .inr (.inr (.inr (.inr vrow))))) :: (py, .inl (cyI, 40, .inl pay)) :: Y : va_W) ++ va_pl L (gE K bud fsd las bas mvi mva ear vln vda vam vrf vel vnx)) sz = A) : vx_Met l yX2_paid wsX2_paid ({ frames := 6, cells := 1, slots := 6, locals := 82 }) (va_Pc [.ref g, .int k0] (gPreT D (gTy cyI cyZ cyL cyV cyJ) (((g, .inr (2, [.int ga, .int gs, .int ora, .int oc, .ref lr, .int (nI nl), .ref vr, .int (nI nv), .int am, .ref py, .int (nI nc), .int lcd, .int pia])) :: (lr, .inl (cyL, 12, .inr (.inr (.inr (.inr lrow))))) :: (vr, .inl (cyV, 100, .inr (.inr (.inr (.inr vrow))))) :: (py, .inl (cyI, 40, .inl pay)) :: Y : va_W) ++ va_pl L (gE K bud fsd las bas mvi mva ear vln vda vam vrf vel vnx)) sz)) (va_Qi (fun (r : Int32) (_ : Unit) => ∃ i, i < nc ∧ k0 = nI i ∧ r = pay i) (fun (_ : Unit) t => gPost D (gTy cyI cyZ cyL cyV cyJ) A (((g, .inr (2, [.int ga, .int gs, .int ora, .int oc, .ref lr, .int (nI nl), .ref vr, .int (nI nv), .int am, .ref py, .int (nI nc), .int lcd, .int pia])) :: (lr, .inl (cyL, 12, .inr (.inr (.inr (.inr lrow))))) :: (vr, .inl (cyV, 100, .inr (.inr (.inr (.inr vrow))))) :: (py, .inl (cyI, 40, .inl pay)) :: Y : va_W) ++ va_pl L (gE K bud fsd las bas mvi mva ear vln vda vam vrf vel vnx)) t) A) (gThr D (gTy cyI cyZ cyL cyV cyJ) A (((g, .inr (2, [.int ga, .int gs, .int ora, .int oc, .ref lr, .int (nI nl), .ref vr, .int (nI nv), .int am, .ref py, .int (nI nc), .int lcd, .int pia])) :: (lr, .inl (cyL, 12, .inr (.inr (.inr (.inr lrow))))) :: (vr, .inl (cyV, 100, .inr (.inr (.inr (.inr vrow))))) :: (py, .inl (cyI, 40, .inl pay)) :: Y : va_W) ++ va_pl L (gE K bud fsd las bas mvi mva ear vln vda vam vrf vel vnx)) (fun E => E = "java/lang/IndexOutOfBoundsException" ∧ ¬ ∃ i, i < nc ∧ k0 = nI i)) 1 6 A := by
  refine vx_ofW (cc := cX2_paid) (maxL := 2) (ret := (some .int)) (by decide) rfl ?_
  intro p e s m args below meth c s₁ B hml htb hv
  obtain ⟨rfl, hTF, hsz, hP, hK, hD0⟩ := hv
  have hx := B.exec
  have hb := B.bytes
  have hr := B.returns
  have hts := atoms_spec (ws := wsX2_paid) B.pre
  have hown : s.vm.findClass RX2 = some m.cls := findClass_of_methodNamed B.named
  have hlocks := B.notSynchronized
  subst hsz
  have hD := hD0.self (sz := s.heap.size)
  rw [hAe] at hD hTF
  have hA : ∀ q : Nat, s.heap.size ≤ q → A q := fun q h => by rw [← hAe]; exact Or.inr h
  have hS : va_S A s.heap s.heap [] := va_S.rf
  have hP : va_P D vwCl (((g, .inr (2, [.int ga, .int gs, .int ora, .int oc, .ref lr, .int (nI nl), .ref vr, .int (nI nv), .int am, .ref py, .int (nI nc), .int lcd, .int pia])) :: (lr, .inl (cyL, 12, .inr (.inr (.inr (.inr lrow))))) :: (vr, .inl (cyV, 100, .inr (.inr (.inr (.inr vrow))))) :: (py, .inl (cyI, 40, .inl pay)) :: Y : va_W) ++ va_pl L (gE K bud fsd las bas mvi mva ear vln vda vam vrf vel vnx)) s.heap := hP
  have hi2 : ∀ w ∈ wsX20, w ∈ wsX2_paid := fun _ h => List.mem_cons_of_mem _ (List.mem_append_left _ (List.mem_append_right _ h))
  have hl := lv_entry ([.ref g, .int k0]) (n := 2) (Nat.le_of_ble_eq_true rfl)
  rw [lg_entry_eq]
  generalize (lg_sl ([.ref g, .int k0]) ++ List.replicate (2 - (lg_sl ([.ref g, .int k0])).length) Slot.unset).toArray = ls at hl ⊢
  have hl : lv_has ls 2 [(0, .ref g), (1, .int k0)] := hl
  refine lv_iload_n hx hb dX2_paid_0 rfl (lv_at hl 1 rfl) ?_
  refine lv_if_lt (tgt := 21) hx hb dX2_paid_1 (by decide) (fun c_1 => ?_) (fun c_1 => ?_)
  · obtain ⟨sa_2, hsa_2⟩ := hTF.2.2.2 (179, "no such claim") (by decide +kernel)
    exact vx_throwS hx hb hst (sa := sa_2) (text := "no such claim") (is := 179) (names := ["java/lang/RuntimeException", "java/lang/Exception"]) hown (by decide +kernel) (by decide +kernel) (hts (.classLink RX2 177 "java/lang/IndexOutOfBoundsException") (List.mem_of_getElem? (i := 1) rfl)) (hts (.initialized "java/lang/IndexOutOfBoundsException") (List.mem_of_getElem? (i := 2) rfl)) hsa_2 (gk_hat (fun w hw => hts w (List.mem_cons_of_mem _ (List.mem_append_right _ hw))) hTF (by decide +kernel)) (by decide +kernel) hTF.1 hTF.2.1 hS (hl.1.trans hml.symm) dX2_paid_21 dX2_paid_24 dX2_paid_25 dX2_paid_27 dX2_paid_30 (fun x hx9 => (htb x hx9).elim) (Nat.le_of_ble_eq_true rfl) (Nat.le_of_ble_eq_true rfl) (Nat.le_of_ble_eq_true rfl) (Nat.le_of_ble_eq_true rfl) hlocks (fun t hal hsz9 hkp => ⟨"java/lang/IndexOutOfBoundsException", ⟨rfl, gPn_lt hnc c_1⟩, ⟨rfl, hP.kept (fun k q hk => hkp q.1 (vx_lt hP hk)), va_K.moved hal hK, hD⟩, Nat.le_trans hS.1 hsz9, fun q h1 h2 => (hkp q (Nat.lt_of_lt_of_le h1 hS.1)).trans (hS.2.1 q h1 h2)⟩) hS.2.2 (Nat.le_of_ble_eq_true rfl) (Nat.le_of_ble_eq_true rfl)
  · refine lv_iload_n hx hb dX2_paid_4 rfl (lv_at hl 1 rfl) ?_
    refine lv_aload_n hx hb dX2_paid_5 rfl (lv_at hl 0 rfl) ?_
    refine va_get (D := D) (ci := 2) (v := .int (nI nc)) (C := RX2) (T := TX2) (N := 13) hx hb hts hi2 hown hK hP 0 rfl rfl 10 (by decide) (hts (.fieldLink RX2 49 "GrantBook" "claimCount" "I") (List.mem_of_getElem? (i := 3) rfl)) (fun _ h9 => h9) rfl dX2_paid_6 ?_
    refine lv_icmp_ge (tgt := 21) hx hb dX2_paid_9 (by decide) (fun c_3 => ?_) (fun c_3 => ?_)
    · obtain ⟨sa_4, hsa_4⟩ := hTF.2.2.2 (179, "no such claim") (by decide +kernel)
      exact vx_throwS hx hb hst (sa := sa_4) (text := "no such claim") (is := 179) (names := ["java/lang/RuntimeException", "java/lang/Exception"]) hown (by decide +kernel) (by decide +kernel) (hts (.classLink RX2 177 "java/lang/IndexOutOfBoundsException") (List.mem_of_getElem? (i := 1) rfl)) (hts (.initialized "java/lang/IndexOutOfBoundsException") (List.mem_of_getElem? (i := 2) rfl)) hsa_4 (gk_hat (fun w hw => hts w (List.mem_cons_of_mem _ (List.mem_append_right _ hw))) hTF (by decide +kernel)) (by decide +kernel) hTF.1 hTF.2.1 hS (hl.1.trans hml.symm) dX2_paid_21 dX2_paid_24 dX2_paid_25 dX2_paid_27 dX2_paid_30 (fun x hx9 => (htb x hx9).elim) (Nat.le_of_ble_eq_true rfl) (Nat.le_of_ble_eq_true rfl) (Nat.le_of_ble_eq_true rfl) (Nat.le_of_ble_eq_true rfl) hlocks (fun t hal hsz9 hkp => ⟨"java/lang/IndexOutOfBoundsException", ⟨rfl, gPn_ge hnc c_3⟩, ⟨rfl, hP.kept (fun k q hk => hkp q.1 (vx_lt hP hk)), va_K.moved hal hK, hD⟩, Nat.le_trans hS.1 hsz9, fun q h1 h2 => (hkp q (Nat.lt_of_lt_of_le h1 hS.1)).trans (hS.2.1 q h1 h2)⟩) hS.2.2 (Nat.le_of_ble_eq_true rfl) (Nat.le_of_ble_eq_true rfl)
    · refine lv_iload_n hx hb dX2_paid_12 rfl (lv_at hl 1 rfl) ?_
      refine lv_aload_n hx hb dX2_paid_13 rfl (lv_at hl 0 rfl) ?_
      refine va_get (D := D) (ci := 2) (v := .ref py) (C := RX2) (T := TX2) (N := 13) hx hb hts hi2 hown hK hP 0 rfl rfl 9 (by decide) (hts (.fieldLink RX2 45 "GrantBook" "payments" "[I") (List.mem_of_getElem? (i := 4) rfl)) (fun _ h9 => h9) rfl dX2_paid_14 ?_
      refine va_alen hx hb hK hP 3 0 rfl rfl (v := 40) rfl dX2_paid_17 ?_
      refine lv_icmp_lt (tgt := 31) hx hb dX2_paid_18 (by decide) (fun c_5 => ?_) (fun c_5 => ?_)
      · obtain ⟨i0, hix, rfl⟩ := gIx (N := nc) (by omega) c_1 c_3
        refine lv_aload_n hx hb dX2_paid_31 rfl (lv_at hl 0 rfl) ?_
        refine va_get (D := D) (ci := 2) (v := .ref py) (C := RX2) (T := TX2) (N := 13) hx hb hts hi2 hown hK hP 0 rfl rfl 9 (by decide) (hts (.fieldLink RX2 45 "GrantBook" "payments" "[I") (List.mem_of_getElem? (i := 4) rfl)) (fun _ h9 => h9) rfl dX2_paid_32 ?_
        refine lv_iload_n hx hb dX2_paid_35 rfl (lv_at hl 1 rfl) ?_
        refine gk_iald (i := i0) hx hb hK hP 3 0 rfl rfl (by omega) (by decide) dX2_paid_36 ?_
        refine W.widen (k := 1) (n := 6) (Nat.le_of_ble_eq_true rfl) (Nat.le_of_ble_eq_true rfl) ?_
        refine vx_ret ?_
        exact W.iret (v := (pay i0)) hx hb hr (fun t ht hW => ⟨⟨(pay i0), (), rfl, ⟨i0, hix, rfl, rfl⟩, by rw [ht]; exact hP, va_K.moved hW.alike hK, hD⟩, hS.F ht⟩) hS.2.2 dX2_paid_37
      · obtain ⟨sa_6, hsa_6⟩ := hTF.2.2.2 (179, "no such claim") (by decide +kernel)
        exact vx_throwS hx hb hst (sa := sa_6) (text := "no such claim") (is := 179) (names := ["java/lang/RuntimeException", "java/lang/Exception"]) hown (by decide +kernel) (by decide +kernel) (hts (.classLink RX2 177 "java/lang/IndexOutOfBoundsException") (List.mem_of_getElem? (i := 1) rfl)) (hts (.initialized "java/lang/IndexOutOfBoundsException") (List.mem_of_getElem? (i := 2) rfl)) hsa_6 (gk_hat (fun w hw => hts w (List.mem_cons_of_mem _ (List.mem_append_right _ hw))) hTF (by decide +kernel)) (by decide +kernel) hTF.1 hTF.2.1 hS (hl.1.trans hml.symm) dX2_paid_21 dX2_paid_24 dX2_paid_25 dX2_paid_27 dX2_paid_30 (fun x hx9 => (htb x hx9).elim) (Nat.le_of_ble_eq_true rfl) (Nat.le_of_ble_eq_true rfl) (Nat.le_of_ble_eq_true rfl) (Nat.le_of_ble_eq_true rfl) hlocks (fun t hal hsz9 hkp => ⟨"java/lang/IndexOutOfBoundsException", absurd (gPn_40 hnc c_1 c_3) c_5, ⟨rfl, hP.kept (fun k q hk => hkp q.1 (vx_lt hP hk)), va_K.moved hal hK, hD⟩, Nat.le_trans hS.1 hsz9, fun q h1 h2 => (hkp q (Nat.lt_of_lt_of_le h1 hS.1)).trans (hS.2.1 q h1 h2)⟩) hS.2.2 (Nat.le_of_ble_eq_true rfl) (Nat.le_of_ble_eq_true rfl)
set_option maxHeartbeats 4000000 in
set_option maxRecDepth 100000 in
theorem kX2_unsettled (l : Launch) (D : va_G) (cyI cyZ cyL cyV cyJ : ClassId) (g lr vr py : Nat) (ga gs ora oc : Int32) (lrow vrow : Nat → Option Nat) (nl nv : Nat) (am : Int32) (pay : Nat → Int32) (nc : Nat) (lcd pia : Int32) (Y : va_W) (L : List Nat) (K : Nat → Nat) (bud fsd las bas mvi mva : Nat → Int32) (ear vln : Nat → Option Nat) (vda vam vrf vel : Nat → Int32) (vnx : Nat → Option Nat) (ch : Nat → List Nat) (hOK : gOK L K lrow vrow ear vln vnx ch) (sz : Nat) (A : Nat → Prop) (hAe : va_A (((g, .inr (2, [.int ga, .int gs, .int ora, .int oc, .ref lr, .int (nI nl), .ref vr, .int (nI nv), .int am, .ref py, .int (nI nc), .int lcd, .int pia])) :: (lr, .inl (cyL, 12, .inr (.inr (.inr (.inr lrow))))) :: (vr, .inl (cyV, 100, .inr (.inr (.inr (.inr vrow))))) :: (py, .inl (cyI, 40, .inl pay)) :: Y : va_W) ++ va_pl L (gE K bud fsd las bas mvi mva ear vln vda vam vrf vel vnx)) sz = A) : Met l yX2_unsettled wsX2_unsettled ({ frames := 5, cells := 0, slots := 0, locals := 120 }) (va_Pc [.ref g] (gPre D (gTy cyI cyZ cyL cyV cyJ) (((g, .inr (2, [.int ga, .int gs, .int ora, .int oc, .ref lr, .int (nI nl), .ref vr, .int (nI nv), .int am, .ref py, .int (nI nc), .int lcd, .int pia])) :: (lr, .inl (cyL, 12, .inr (.inr (.inr (.inr lrow))))) :: (vr, .inl (cyV, 100, .inr (.inr (.inr (.inr vrow))))) :: (py, .inl (cyI, 40, .inl pay)) :: Y : va_W) ++ va_pl L (gE K bud fsd las bas mvi mva ear vln vda vam vrf vel vnx)) sz)) (va_Qi (fun (r : Int32) (_ : Unit) => r = if nI nc = 0 then 0 else (gEa gs am (gEb gs ga (gSa lrow bas vel vda ch lcd 0 12) (gOv ora oc (gSa lrow bas vel vda ch lcd 1 12)))) - pia) (fun (_ : Unit) t => gPost D (gTy cyI cyZ cyL cyV cyJ) A (((g, .inr (2, [.int ga, .int gs, .int ora, .int oc, .ref lr, .int (nI nl), .ref vr, .int (nI nv), .int am, .ref py, .int (nI nc), .int lcd, .int pia])) :: (lr, .inl (cyL, 12, .inr (.inr (.inr (.inr lrow))))) :: (vr, .inl (cyV, 100, .inr (.inr (.inr (.inr vrow))))) :: (py, .inl (cyI, 40, .inl pay)) :: Y : va_W) ++ va_pl L (gE K bud fsd las bas mvi mva ear vln vda vam vrf vel vnx)) t) A) 0 0 A := by
  refine Met.ofW (cc := cX2_unsettled) (maxL := 1) (ret := (some .int)) (by decide) rfl ?_
  intro p e s m args below meth c s₁ B hml hv
  obtain ⟨rfl, hsz, hP, hK, hD0⟩ := hv
  have hx := B.exec
  have hb := B.bytes
  have hr := B.returns
  have hts := atoms_spec (ws := wsX2_unsettled) B.pre
  have hown : s.vm.findClass RX2 = some m.cls := findClass_of_methodNamed B.named
  have hlocks := B.notSynchronized
  subst hsz
  have hD := hD0.self (sz := s.heap.size)
  rw [hAe] at hD
  have hA : ∀ q : Nat, s.heap.size ≤ q → A q := fun q h => by rw [← hAe]; exact Or.inr h
  have hS : va_S A s.heap s.heap [] := va_S.rf
  have hP : va_P D vwCl (((g, .inr (2, [.int ga, .int gs, .int ora, .int oc, .ref lr, .int (nI nl), .ref vr, .int (nI nv), .int am, .ref py, .int (nI nc), .int lcd, .int pia])) :: (lr, .inl (cyL, 12, .inr (.inr (.inr (.inr lrow))))) :: (vr, .inl (cyV, 100, .inr (.inr (.inr (.inr vrow))))) :: (py, .inl (cyI, 40, .inl pay)) :: Y : va_W) ++ va_pl L (gE K bud fsd las bas mvi mva ear vln vda vam vrf vel vnx)) s.heap := hP
  have hi2 : ∀ w ∈ wsX20, w ∈ wsX2_unsettled := fun _ h => List.mem_cons_of_mem _ (List.mem_append_left _ (List.mem_append_left _ (List.mem_append_right _ h)))
  have hl := lv_entry ([.ref g]) (n := 1) (Nat.le_of_ble_eq_true rfl)
  rw [lg_entry_eq]
  generalize (lg_sl ([.ref g]) ++ List.replicate (1 - (lg_sl ([.ref g])).length) Slot.unset).toArray = ls at hl ⊢
  have hl : lv_has ls 1 [(0, .ref g)] := hl
  refine lv_aload_n hx hb dX2_unsettled_0 rfl (lv_at hl 0 rfl) ?_
  refine va_get (D := D) (ci := 2) (v := .int (nI nc)) (C := RX2) (T := TX2) (N := 13) hx hb hts hi2 hown hK hP 0 rfl rfl 10 (by decide) (hts (.fieldLink RX2 49 "GrantBook" "claimCount" "I") (List.mem_of_getElem? (i := 1) rfl)) (fun _ h9 => h9) rfl dX2_unsettled_1 ?_
  refine lv_if_ne (tgt := 11) hx hb dX2_unsettled_4 (by decide) (fun c_1 => ?_) (fun c_1 => ?_)
  · refine lv_aload_n hx hb dX2_unsettled_11 rfl (lv_at hl 0 rfl) ?_
    refine lv_aload_n hx hb dX2_unsettled_12 rfl (lv_at hl 0 rfl) ?_
    refine va_get (D := D) (ci := 2) (v := .int lcd) (C := RX2) (T := TX2) (N := 13) hx hb hts hi2 hown hK hP 0 rfl rfl 11 (by decide) (hts (.fieldLink RX2 52 "GrantBook" "lastClaimDay" "I") (List.mem_of_getElem? (i := 2) rfl)) (fun _ h9 => h9) rfl dX2_unsettled_13 ?_
    have hF_2 := gk_all hD hS hA
    refine va_calli (va_runV (As := [.int lcd]) (rest := []) ⟨hx, hb, hml, hown, hts⟩ (kX2_earnedUpTo l D cyI cyZ cyL cyV cyJ g lr vr py ga gs ora oc lrow vrow nl nv am pay nc lcd pia Y L K bud fsd las bas mvi mva ear vln vda vam vrf vel vnx ch hOK lcd s.heap.size _ rfl) (cwV 1 hts gX2_unsettled_X2_earnedUpTo rfl rfl rfl (by decide +kernel) ⟨(Nat.le_of_ble_eq_true rfl), (Nat.le_of_ble_eq_true rfl)⟩) (gk_preV hP hK hD (va_recv hK hP (ci := 2) (q0 := 0) rfl rfl)) rfl rfl hl.1 rfl (lv_room (Nat.le_of_ble_eq_true rfl)) dX2_unsettled_16 ⟨(Nat.le_of_ble_eq_true rfl), (Nat.le_of_ble_eq_true rfl)⟩) hS (fun q _ h => hF_2 q h) hF_2 (fun r_2 u_2 t_2 H locs ht_2 hvm_2 hw_2 hB_2 hz_2 hk_2 hS => ?_)
    obtain ⟨hP, hD⟩ := gk_back hF_2 hB_2 ht_2
    subst hw_2
    refine lv_aload_n hx hb dX2_unsettled_19 rfl (lv_at hl 0 rfl) ?_
    refine va_get (D := D) (ci := 2) (v := .int pia) (C := RX2) (T := TX2) (N := 13) hx hb hts hi2 hown hK hP 0 rfl rfl 12 (by decide) (hts (.fieldLink RX2 55 "GrantBook" "paidInAll" "I") (List.mem_of_getElem? (i := 3) rfl)) (fun _ h9 => h9) rfl dX2_unsettled_20 ?_
    refine lv_isub hx hb dX2_unsettled_23 ?_
    refine W.widen (k := 0) (n := 0) (Nat.le_of_ble_eq_true rfl) (Nat.le_of_ble_eq_true rfl) ?_
    exact W.iret (v := ((gEa gs am (gEb gs ga (gSa lrow bas vel vda ch lcd 0 12) (gOv ora oc (gSa lrow bas vel vda ch lcd 1 12)))) - pia)) hx hb hr (fun t ht hW => ⟨⟨((gEa gs am (gEb gs ga (gSa lrow bas vel vda ch lcd 0 12) (gOv ora oc (gSa lrow bas vel vda ch lcd 1 12)))) - pia), (), rfl, (if_neg c_1).symm, by rw [ht]; exact hP, va_K.moved hW.alike hK, hD⟩, hS.F ht⟩) hS.2.2 dX2_unsettled_24
  · refine lv_iconst (v := 0) hx hb dX2_unsettled_7 (by decide) ?_
    refine lv_goto (tgt := 24) hx hb dX2_unsettled_8 (by decide) ?_
    refine W.widen (k := 0) (n := 0) (Nat.le_of_ble_eq_true rfl) (Nat.le_of_ble_eq_true rfl) ?_
    exact W.iret (v := 0) hx hb hr (fun t ht hW => ⟨⟨0, (), rfl, (if_pos c_1).symm, by rw [ht]; exact hP, va_K.moved hW.alike hK, hD⟩, hS.F ht⟩) hS.2.2 dX2_unsettled_24
set_option maxHeartbeats 4000000 in
set_option maxRecDepth 100000 in
theorem kX2_spend (l : Launch) (hst : l.stackTraces = false) (D : va_G) (cyI cyZ cyL cyV cyJ : ClassId) (g lr vr py : Nat) (ga gs ora oc : Int32) (lrow vrow : Nat → Option Nat) (nl nv : Nat) (am : Int32) (pay : Nat → Int32) (nc : Nat) (lcd pia : Int32) (Y : va_W) (L : List Nat) (K : Nat → Nat) (bud fsd las bas mvi mva : Nat → Int32) (ear vln : Nat → Option Nat) (vda vam vrf vel : Nat → Int32) (vnx : Nat → Option Nat) (ch : Nat → List Nat) (hOK : gOK L K lrow vrow ear vln vnx ch) (hnv : nv ≤ 100) (k0 p1 p2 : Int32) (sz : Nat) (A : Nat → Prop) (hAe : va_A (((g, .inr (2, [.int ga, .int gs, .int ora, .int oc, .ref lr, .int (nI nl), .ref vr, .int (nI nv), .int am, .ref py, .int (nI nc), .int lcd, .int pia])) :: (lr, .inl (cyL, 12, .inr (.inr (.inr (.inr lrow))))) :: (vr, .inl (cyV, 100, .inr (.inr (.inr (.inr vrow))))) :: (py, .inl (cyI, 40, .inl pay)) :: Y : va_W) ++ va_pl L (gE K bud fsd las bas mvi mva ear vln vda vam vrf vel vnx)) sz = A) : vx_Met l yX2_spend wsX2_spend ({ frames := 8, cells := 4, slots := 24, locals := 124 }) (va_Pc [.ref g, .int k0, .int p1, .int p2] (gPreT D (gTy cyI cyZ cyL cyV cyJ) (((g, .inr (2, [.int ga, .int gs, .int ora, .int oc, .ref lr, .int (nI nl), .ref vr, .int (nI nv), .int am, .ref py, .int (nI nc), .int lcd, .int pia])) :: (lr, .inl (cyL, 12, .inr (.inr (.inr (.inr lrow))))) :: (vr, .inl (cyV, 100, .inr (.inr (.inr (.inr vrow))))) :: (py, .inl (cyI, 40, .inl pay)) :: Y : va_W) ++ va_pl L (gE K bud fsd las bas mvi mva ear vln vda vam vrf vel vnx)) sz)) (va_Qi (fun (r : Int32) (u : Nat × Nat × (Nat → Option Nat) × (Nat → Option Nat) × (Nat → Int32)) => ∃ a, gHas 12 lrow k0 a ∧ gIn p1 0 9999 ∧ gIn p2 1 10000000 ∧ nI nv < 100 ∧ u.1 = a ∧ r = nI nv ∧ u.2.1 ∉ L ∧ gCh u.2.2.2.1 (u.2.2.1 a) (gFr (va_up vda u.2.1 p1) ((va_up vda u.2.1 p1) u.2.1) (ch a) ++ u.2.1 :: gBk (va_up vda u.2.1 p1) ((va_up vda u.2.1 p1) u.2.1) (ch a)) ∧ (∀ y, y ∉ u.2.1 :: ch a → u.2.2.2.1 y = va_up vnx u.2.1 none y) ∧ (∀ y, y ≠ a → u.2.2.1 y = ear y) ∧ u.2.2.2.2 = gRk (fsd a) (las a) (va_up vrf u.2.1 0) (va_up vda u.2.1 p1) (va_up vam u.2.1 p2) (gFr (va_up vda u.2.1 p1) ((va_up vda u.2.1 p1) u.2.1) (ch a) ++ u.2.1 :: gBk (va_up vda u.2.1 p1) ((va_up vda u.2.1 p1) u.2.1) (ch a)) (bud a + mvi a - mva a) (va_up vel u.2.1 0)) (fun (u : Nat × Nat × (Nat → Option Nat) × (Nat → Option Nat) × (Nat → Int32)) t => gPost D (gTy cyI cyZ cyL cyV cyJ) A (((g, .inr (2, [.int ga, .int gs, .int ora, .int oc, .ref lr, .int (nI nl), .ref vr, .int (nI (nv + 1)), .int am, .ref py, .int (nI nc), .int lcd, .int pia])) :: (lr, .inl (cyL, 12, .inr (.inr (.inr (.inr lrow))))) :: (vr, .inl (cyV, 100, .inr (.inr (.inr (.inr (va_up vrow nv (some u.2.1))))))) :: (py, .inl (cyI, 40, .inl pay)) :: Y : va_W) ++ va_pl (L ++ [u.2.1]) (gE (va_up K u.2.1 1) bud fsd las bas mvi mva u.2.2.1 (va_up vln u.2.1 (some u.1)) (va_up vda u.2.1 p1) (va_up vam u.2.1 p2) (va_up vrf u.2.1 0) u.2.2.2.2 u.2.2.2.1)) t) A) (gThr D (gTy cyI cyZ cyL cyV cyJ) A (((g, .inr (2, [.int ga, .int gs, .int ora, .int oc, .ref lr, .int (nI nl), .ref vr, .int (nI nv), .int am, .ref py, .int (nI nc), .int lcd, .int pia])) :: (lr, .inl (cyL, 12, .inr (.inr (.inr (.inr lrow))))) :: (vr, .inl (cyV, 100, .inr (.inr (.inr (.inr vrow))))) :: (py, .inl (cyI, 40, .inl pay)) :: Y : va_W) ++ va_pl L (gE K bud fsd las bas mvi mva ear vln vda vam vrf vel vnx)) (fun E => (E = "java/lang/IndexOutOfBoundsException" ∧ ¬ ∃ a, gHas 12 lrow k0 a) ∨ (E = "java/lang/IllegalArgumentException" ∧ ∃ a, gHas 12 lrow k0 a ∧ ¬ (gIn p1 0 9999)) ∨ (E = "java/lang/IllegalArgumentException" ∧ ∃ a, gHas 12 lrow k0 a ∧ gIn p1 0 9999 ∧ ¬ (gIn p2 1 10000000)) ∨ (E = "java/lang/IllegalStateException" ∧ ∃ a, gHas 12 lrow k0 a ∧ gIn p1 0 9999 ∧ gIn p2 1 10000000 ∧ ¬ (nI nv < 100)))) 4 24 A := by
  refine vx_ofW (cc := cX2_spend) (maxL := 7) (ret := (some .int)) (by decide) rfl ?_
  intro p e s m args below meth c s₁ B hml htb hv
  obtain ⟨rfl, hTF, hsz, hP, hK, hD0⟩ := hv
  have hx := B.exec
  have hb := B.bytes
  have hr := B.returns
  have hts := atoms_spec (ws := wsX2_spend) B.pre
  have hown : s.vm.findClass RX2 = some m.cls := findClass_of_methodNamed B.named
  have hlocks := B.notSynchronized
  subst hsz
  have hD := hD0.self (sz := s.heap.size)
  rw [hAe] at hD hTF
  have hA : ∀ q : Nat, s.heap.size ≤ q → A q := fun q h => by rw [← hAe]; exact Or.inr h
  have hS : va_S A s.heap s.heap [] := va_S.rf
  have hP : va_P D vwCl (((g, .inr (2, [.int ga, .int gs, .int ora, .int oc, .ref lr, .int (nI nl), .ref vr, .int (nI nv), .int am, .ref py, .int (nI nc), .int lcd, .int pia])) :: (lr, .inl (cyL, 12, .inr (.inr (.inr (.inr lrow))))) :: (vr, .inl (cyV, 100, .inr (.inr (.inr (.inr vrow))))) :: (py, .inl (cyI, 40, .inl pay)) :: Y : va_W) ++ va_pl L (gE K bud fsd las bas mvi mva ear vln vda vam vrf vel vnx)) s.heap := hP
  have hi1 : ∀ w ∈ wsX10, w ∈ wsX2_spend := fun _ h => List.mem_cons_of_mem _ (List.mem_append_left _ (List.mem_append_left _ (List.mem_append_left _ (List.mem_append_left _ (List.mem_append_right _ h)))))
  have hi2 : ∀ w ∈ wsX20, w ∈ wsX2_spend := fun _ h => List.mem_cons_of_mem _ (List.mem_append_left _ (List.mem_append_left _ (List.mem_append_left _ (List.mem_append_left _ (List.mem_append_left _ (List.mem_append_right _ h))))))
  have hl := lv_entry ([.ref g, .int k0, .int p1, .int p2]) (n := 7) (Nat.le_of_ble_eq_true rfl)
  rw [lg_entry_eq]
  generalize (lg_sl ([.ref g, .int k0, .int p1, .int p2]) ++ List.replicate (7 - (lg_sl ([.ref g, .int k0, .int p1, .int p2])).length) Slot.unset).toArray = ls at hl ⊢
  have hl : lv_has ls 7 [(0, .ref g), (1, .int k0), (2, .int p1), (3, .int p2)] := hl
  refine lv_aload_n hx hb dX2_spend_0 rfl (lv_at hl 0 rfl) ?_
  refine lv_iload_n hx hb dX2_spend_1 rfl (lv_at hl 1 rfl) ?_
  have hF_1 := gk_all hD hS hA
  refine vx_callq (vx_runV (As := [.int k0]) (rest := []) ⟨hx, hb, hml, hown, hts⟩ (kX2_findLine l hst D cyI cyZ cyL cyV cyJ g lr vr py ga gs ora oc lrow vrow nl nv am pay nc lcd pia Y L K bud fsd las bas mvi mva ear vln vda vam vrf vel vnx k0 s.heap.size _ rfl) (cwV 1 hts gX2_spend_X2_findLine rfl rfl rfl (by decide +kernel) ⟨(Nat.le_of_ble_eq_true rfl), (Nat.le_of_ble_eq_true rfl)⟩) (gk_preVT hTF hS hF_1 hP hK hD (va_recv hK hP (ci := 2) (q0 := 0) rfl rfl)) rfl rfl hl.1 rfl (lv_room (Nat.le_of_ble_eq_true rfl)) dX2_spend_2 ⟨(Nat.le_of_ble_eq_true rfl), (Nat.le_of_ble_eq_true rfl)⟩) hS (fun q _ h => hF_1 q h) hF_1 (fun q _ h => hF_1 q h) (fun E_1 ce_1 q_1 u_1 t_1 H locs ht_1 hvm_1 hpx_1 hBX_1 hz_1 hk_1 hS hce_1 hcv_1 hcl_1 => ?_) (fun r_1 u_1 t_1 H locs ht_1 hvm_1 hw_1 hB_1 hz_1 hk_1 hS => ?_)
  · obtain ⟨rfl, hB_1⟩ := hBX_1
    obtain ⟨hP, hD⟩ := gk_back hF_1 hB_1 ht_1
    refine vx_out (fun x hx9 => (htb x hx9).elim) hlocks hce_1 hcv_1 hcl_1 (fun t ht hal => ⟨E_1, Or.inl ⟨hpx_1.1, hpx_1.2⟩, ⟨rfl, by rw [ht]; exact hP, va_K.moved hal hK, hD⟩, hS.F ht⟩) hS.2.2 (Nat.le_of_ble_eq_true rfl) (Nat.le_of_ble_eq_true rfl)
  · obtain ⟨hP, hD⟩ := gk_back hF_1 hB_1 ht_1
    obtain ⟨a_1, rfl, hh_1⟩ := hw_1
    obtain ⟨hL_1, hK_1⟩ := hOK.l hh_1
    refine lv_astore (lv' := [(4, .ref a_1), (0, .ref g), (1, .int k0), (2, .int p1), (3, .int p2)]) hx hb dX2_spend_5 hl (by decide) rfl (fun ls hl => ?_)
    refine lv_iload_n hx hb dX2_spend_7 rfl (lv_at hl 3 rfl) ?_
    have hF_2 := gk_all hD hS hA
    refine vx_callv (vx_runS (As := [.int p1]) (rest := []) ⟨hx, hb, hml, hown, hts⟩ (kX2_checkDay l hst D (gTy cyI cyZ cyL cyV cyJ) (((g, .inr (2, [.int ga, .int gs, .int ora, .int oc, .ref lr, .int (nI nl), .ref vr, .int (nI nv), .int am, .ref py, .int (nI nc), .int lcd, .int pia])) :: (lr, .inl (cyL, 12, .inr (.inr (.inr (.inr lrow))))) :: (vr, .inl (cyV, 100, .inr (.inr (.inr (.inr vrow))))) :: (py, .inl (cyI, 40, .inl pay)) :: Y : va_W) ++ va_pl L (gE K bud fsd las bas mvi mva ear vln vda vam vrf vel vnx)) p1 H.size _ rfl) (va_cwS 1 hts gX2_spend_X2_checkDay rfl rfl rfl (by decide +kernel) ⟨(Nat.le_of_ble_eq_true rfl), (Nat.le_of_ble_eq_true rfl)⟩) (gk_preST hTF hS hF_2 hP hK hD) rfl rfl hl.1 rfl (lv_room (Nat.le_of_ble_eq_true rfl)) dX2_spend_8 ⟨(Nat.le_of_ble_eq_true rfl), (Nat.le_of_ble_eq_true rfl)⟩) hS (fun q _ h => hF_2 q h) hF_2 (fun q _ h => hF_2 q h) (fun E_2 ce_2 q_2 u_2 t_2 H locs ht_2 hvm_2 hpx_2 hBX_2 hz_2 hk_2 hS hce_2 hcv_2 hcl_2 => ?_) (fun u_2 t_2 H locs ht_2 hvm_2 hw_2 hB_2 hz_2 hk_2 hS => ?_)
    · obtain ⟨rfl, hB_2⟩ := hBX_2
      obtain ⟨hP, hD⟩ := gk_back hF_2 hB_2 ht_2
      refine vx_out (fun x hx9 => (htb x hx9).elim) hlocks hce_2 hcv_2 hcl_2 (fun t ht hal => ⟨E_2, Or.inr (Or.inl ⟨hpx_2.1, a_1, hh_1, hpx_2.2⟩), ⟨rfl, by rw [ht]; exact hP, va_K.moved hal hK, hD⟩, hS.F ht⟩) hS.2.2 (Nat.le_of_ble_eq_true rfl) (Nat.le_of_ble_eq_true rfl)
    · obtain ⟨hP, hD⟩ := gk_back hF_2 hB_2 ht_2
      refine lv_iload_n hx hb dX2_spend_11 rfl (lv_at hl 4 rfl) ?_
      refine lv_iconst (v := 1) hx hb dX2_spend_12 (by decide) ?_
      refine lv_ldc hx hb hown (hts (.constant RX2 70 (10000000)) (List.mem_of_getElem? (i := 3) rfl)) dX2_spend_13 ?_
      have hF_3 := gk_all hD hS hA
      refine vx_callv (vx_runS (As := [.int p2, .int 1, .int 10000000]) (rest := []) ⟨hx, hb, hml, hown, hts⟩ (kX2_checkRange l hst D (gTy cyI cyZ cyL cyV cyJ) (((g, .inr (2, [.int ga, .int gs, .int ora, .int oc, .ref lr, .int (nI nl), .ref vr, .int (nI nv), .int am, .ref py, .int (nI nc), .int lcd, .int pia])) :: (lr, .inl (cyL, 12, .inr (.inr (.inr (.inr lrow))))) :: (vr, .inl (cyV, 100, .inr (.inr (.inr (.inr vrow))))) :: (py, .inl (cyI, 40, .inl pay)) :: Y : va_W) ++ va_pl L (gE K bud fsd las bas mvi mva ear vln vda vam vrf vel vnx)) p2 1 10000000 H.size _ rfl) (va_cwS 3 hts gX2_spend_X2_checkRange rfl rfl rfl (by decide +kernel) ⟨(Nat.le_of_ble_eq_true rfl), (Nat.le_of_ble_eq_true rfl)⟩) (gk_preST hTF hS hF_3 hP hK hD) rfl rfl hl.1 rfl (lv_room (Nat.le_of_ble_eq_true rfl)) dX2_spend_15 ⟨(Nat.le_of_ble_eq_true rfl), (Nat.le_of_ble_eq_true rfl)⟩) hS (fun q _ h => hF_3 q h) hF_3 (fun q _ h => hF_3 q h) (fun E_3 ce_3 q_3 u_3 t_3 H locs ht_3 hvm_3 hpx_3 hBX_3 hz_3 hk_3 hS hce_3 hcv_3 hcl_3 => ?_) (fun u_3 t_3 H locs ht_3 hvm_3 hw_3 hB_3 hz_3 hk_3 hS => ?_)
      · obtain ⟨rfl, hB_3⟩ := hBX_3
        obtain ⟨hP, hD⟩ := gk_back hF_3 hB_3 ht_3
        refine vx_out (fun x hx9 => (htb x hx9).elim) hlocks hce_3 hcv_3 hcl_3 (fun t ht hal => ⟨E_3, Or.inr (Or.inr (Or.inl ⟨hpx_3.1, a_1, hh_1, hw_2, hpx_3.2⟩)), ⟨rfl, by rw [ht]; exact hP, va_K.moved hal hK, hD⟩, hS.F ht⟩) hS.2.2 (Nat.le_of_ble_eq_true rfl) (Nat.le_of_ble_eq_true rfl)
      · obtain ⟨hP, hD⟩ := gk_back hF_3 hB_3 ht_3
        refine lv_aload_n hx hb dX2_spend_18 rfl (lv_at hl 1 rfl) ?_
        refine va_get (D := D) (ci := 2) (v := .int (nI nv)) (C := RX2) (T := TX2) (N := 13) hx hb hts hi2 hown hK hP 0 rfl rfl 7 (by decide) (hts (.fieldLink RX2 39 "GrantBook" "voucherCount" "I") (List.mem_of_getElem? (i := 4) rfl)) (fun _ h9 => h9) rfl dX2_spend_19 ?_
        refine lv_istore (lv' := [(5, .int (nI nv)), (4, .ref a_1), (0, .ref g), (1, .int k0), (2, .int p1), (3, .int p2)]) hx hb dX2_spend_22 hl (by decide) rfl (fun ls hl => ?_)
        refine lv_iload hx hb dX2_spend_24 (lv_at hl 0 rfl) ?_
        refine lv_if_lt (tgt := 39) hx hb dX2_spend_26 (by decide) (fun c9 => absurd c9 (nI_pos (by omega))) (fun _ => ?_)
        refine lv_iload hx hb dX2_spend_29 (lv_at hl 0 rfl) ?_
        refine lv_aload_n hx hb dX2_spend_31 rfl (lv_at hl 2 rfl) ?_
        refine va_get (D := D) (ci := 2) (v := .ref vr) (C := RX2) (T := TX2) (N := 13) hx hb hts hi2 hown hK hP 0 rfl rfl 6 (by decide) (hts (.fieldLink RX2 35 "GrantBook" "voucherRows" "[LGrantBook$Voucher;") (List.mem_of_getElem? (i := 5) rfl)) (fun _ h9 => h9) rfl dX2_spend_32 ?_
        refine va_alen hx hb hK hP 2 3 rfl rfl (v := 100) rfl dX2_spend_35 ?_
        refine lv_icmp_lt (tgt := 49) hx hb dX2_spend_36 (by decide) (fun c_4 => ?_) (fun c_4 => ?_)
        · refine va_new (ci := 1) (fs := [.null, .int 0, .int 0, .int 0, .int 0, .null]) (C := RX1) (T := TX1) (N := 6) hx hb hts hi1 tyX1 tyX1_ok hown (hts (.classLink RX2 33 RX1) (List.mem_of_getElem? (i := 6) rfl)) (hts (.instantiable RX1 6) (by decide +kernel)) (hts (.initialized RX1) (by decide +kernel)) hK hP hD hS hA rfl (fun j hj => by rcases (show j = 0 ∨ j = 1 ∨ j = 2 ∨ j = 3 ∨ j = 4 ∨ j = 5 by omega) with rfl | rfl | rfl | rfl | rfl | rfl <;> rfl) (Nat.le_of_ble_eq_true rfl) (Nat.le_of_ble_eq_true rfl) dX2_spend_49 (fun q_5 H hP hD hS => ?_)
          obtain ⟨hq_5, hP, hD⟩ := gk_push (q := q_5) (f' := (gE (va_up K q_5 1) bud fsd las bas mvi mva ear (va_up vln q_5 none) (va_up vda q_5 0) (va_up vam q_5 0) (va_up vrf q_5 0) (va_up vel q_5 0) (va_up vnx q_5 none))) hP hD (gN_1)
          refine W.widen (k := 4) (n := 24) (Nat.le_of_ble_eq_true rfl) (Nat.le_of_ble_eq_true rfl) ?_
          have hL_5_a_1 : a_1 ∈ (L ++ [q_5]) := List.mem_append_left _ hL_1
          have hne_5_a_1 : a_1 ≠ q_5 := fun h => hq_5 (h ▸ hL_1)
          have hK_5_a_1 : (va_up K q_5 1) a_1 = 0 := (va_up_ne _ _ hne_5_a_1).trans hK_1
          have hLq_5 : q_5 ∈ (L ++ [q_5]) := List.mem_append_right _ List.mem_cons_self
          have hKq_5 : (va_up K q_5 1) q_5 = 1 := va_up_self _ _ _
          refine lv_dup hx hb dX2_spend_52 rfl ?_
          refine lv_aload hx hb dX2_spend_53 (lv_at hl 1 rfl) ?_
          refine lv_iload_n hx hb dX2_spend_55 rfl (lv_at hl 4 rfl) ?_
          refine lv_iload_n hx hb dX2_spend_56 rfl (lv_at hl 5 rfl) ?_
          have hF_6 := gk_all hD hS hA
          refine va_callv (va_runI (As := [.ref a_1, .int p1, .int p2]) (rest := [.ref q_5]) ⟨hx, hb, hml, hown, hts⟩ (kX1_init l D (gTy cyI cyZ cyL cyV cyJ) ((g, .inr (2, [.int ga, .int gs, .int ora, .int oc, .ref lr, .int (nI nl), .ref vr, .int (nI nv), .int am, .ref py, .int (nI nc), .int lcd, .int pia])) :: (lr, .inl (cyL, 12, .inr (.inr (.inr (.inr lrow))))) :: (vr, .inl (cyV, 100, .inr (.inr (.inr (.inr vrow))))) :: (py, .inl (cyI, 40, .inl pay)) :: Y) (L ++ [q_5]) (va_up K q_5 1) bud fsd las bas mvi mva ear (va_up vln q_5 none) (va_up vda q_5 0) (va_up vam q_5 0) (va_up vrf q_5 0) (va_up vel q_5 0) (va_up vnx q_5 none) q_5 hLq_5 hKq_5 a_1 p1 p2 H.size _ rfl) (cwI 3 hts gX2_spend_X1_init rfl rfl rfl (hts (.initialized RX1) (by decide +kernel)) (hts (.methodLink RX2 116 yX1_init) (by decide +kernel)) (hts (.instanceMethod yX1_init) (by decide +kernel)) rfl (by decide +kernel) ⟨(Nat.le_of_ble_eq_true rfl), (Nat.le_of_ble_eq_true rfl)⟩) (gk_preS hP hK hD) rfl rfl hl.1 rfl (lv_room (Nat.le_of_ble_eq_true rfl)) dX2_spend_57 ⟨(Nat.le_of_ble_eq_true rfl), (Nat.le_of_ble_eq_true rfl)⟩) hS (fun q _ h => hF_6 q h) hF_6 (fun u_6 t_6 H locs ht_6 hvm_6 hw_6 hB_6 hz_6 hk_6 hS => ?_)
          obtain ⟨hP, hD⟩ := gk_back hF_6 hB_6 ht_6
          obtain ⟨vln_6, vda_6, vam_6, vrf_6, vel_6, vnx_6⟩ := u_6
          obtain ⟨evln_6, evda_6, evam_6, evrf_6, evel_6, evnx_6⟩ := hw_6
          dsimp only at evln_6 evda_6 evam_6 evrf_6 evel_6 evnx_6 hP hD
          rw [gUp2] at evln_6 evda_6 evam_6 evrf_6 evel_6 evnx_6
          subst evln_6 evda_6 evam_6 evrf_6 evel_6 evnx_6
          refine lv_astore (lv' := [(6, .ref q_5), (5, .int (nI nv)), (4, .ref a_1), (0, .ref g), (1, .int k0), (2, .int p1), (3, .int p2)]) hx hb dX2_spend_60 hl (by decide) rfl (fun ls hl => ?_)
          refine lv_aload_n hx hb dX2_spend_62 rfl (lv_at hl 3 rfl) ?_
          refine va_get (D := D) (ci := 2) (v := .ref vr) (C := RX2) (T := TX2) (N := 13) hx hb hts hi2 hown hK hP 0 rfl rfl 6 (by decide) (hts (.fieldLink RX2 35 "GrantBook" "voucherRows" "[LGrantBook$Voucher;") (List.mem_of_getElem? (i := 5) rfl)) (fun _ h9 => h9) rfl dX2_spend_63 ?_
          refine lv_iload hx hb dX2_spend_66 (lv_at hl 1 rfl) ?_
          refine lv_aload hx hb dX2_spend_68 (lv_at hl 0 rfl) ?_
          obtain ⟨k_7, hk_7⟩ := va_pl_get (X := (g, .inr (2, [.int ga, .int gs, .int ora, .int oc, .ref lr, .int (nI nl), .ref vr, .int (nI nv), .int am, .ref py, .int (nI nc), .int lcd, .int pia])) :: (lr, .inl (cyL, 12, .inr (.inr (.inr (.inr lrow))))) :: (vr, .inl (cyV, 100, .inr (.inr (.inr (.inr vrow))))) :: (py, .inl (cyI, 40, .inl pay)) :: Y) (f := (gE (va_up K q_5 1) bud fsd las bas mvi mva ear (va_up vln q_5 (some a_1)) (va_up vda q_5 p1) (va_up vam q_5 p2) (va_up vrf q_5 0) (va_up vel q_5 0) (va_up vnx q_5 none))) hLq_5
          rw [gE_1 hKq_5] at hk_7
          refine gk_astq (i := nv) (r := (RX1, TX1, 6)) hx hb hK hP hD hS 2 3 k_7 1 rfl rfl hk_7 rfl (gLt (N := 100) (by omega) (by decide) c_4) (by decide) dX2_spend_70 (fun H locs hP hD hS => ?_)
          have hP : va_P D vwCl (((g, .inr (2, [.int ga, .int gs, .int ora, .int oc, .ref lr, .int (nI nl), .ref vr, .int (nI nv), .int am, .ref py, .int (nI nc), .int lcd, .int pia])) :: (lr, .inl (cyL, 12, .inr (.inr (.inr (.inr lrow))))) :: (vr, .inl (cyV, 100, .inr (.inr (.inr (.inr (va_up vrow nv (some q_5))))))) :: (py, .inl (cyI, 40, .inl pay)) :: Y : va_W) ++ va_pl (L ++ [q_5]) (gE (va_up K q_5 1) bud fsd las bas mvi mva ear (va_up vln q_5 (some a_1)) (va_up vda q_5 p1) (va_up vam q_5 p2) (va_up vrf q_5 0) (va_up vel q_5 0) (va_up vnx q_5 none))) H := hP
          have hD : va_D A (((g, .inr (2, [.int ga, .int gs, .int ora, .int oc, .ref lr, .int (nI nl), .ref vr, .int (nI nv), .int am, .ref py, .int (nI nc), .int lcd, .int pia])) :: (lr, .inl (cyL, 12, .inr (.inr (.inr (.inr lrow))))) :: (vr, .inl (cyV, 100, .inr (.inr (.inr (.inr (va_up vrow nv (some q_5))))))) :: (py, .inl (cyI, 40, .inl pay)) :: Y : va_W) ++ va_pl (L ++ [q_5]) (gE (va_up K q_5 1) bud fsd las bas mvi mva ear (va_up vln q_5 (some a_1)) (va_up vda q_5 p1) (va_up vam q_5 p2) (va_up vrf q_5 0) (va_up vel q_5 0) (va_up vnx q_5 none))) := hD
          obtain ⟨vrow_8, evrow_8⟩ : ∃ z, z = (va_up vrow nv (some q_5)) := ⟨_, rfl⟩
          rw [← evrow_8] at hP hD
          refine lv_aload_n hx hb dX2_spend_71 rfl (lv_at hl 3 rfl) ?_
          refine lv_iload hx hb dX2_spend_72 (lv_at hl 1 rfl) ?_
          refine lv_iconst (v := 1) hx hb dX2_spend_74 (by decide) ?_
          refine lv_iadd hx hb dX2_spend_75 ?_
          rw [show nI nv + 1 = nI (nv + 1) from nI_1 nv]
          refine va_put (D := D) (ci := 2) (v := .int (nI (nv + 1))) (ty := .int) (C := RX2) (T := TX2) (N := 13) hx hb hts hi2 tyX2 tyX2_ok nmX2 hown hK hP hD hS 0 rfl rfl 7 (by decide) (hts (.fieldLink RX2 39 "GrantBook" "voucherCount" "I") (List.mem_of_getElem? (i := 4) rfl)) (fun _ h9 => h9) rfl (by decide +kernel) rfl rfl (Nat.le_of_ble_eq_true rfl) dX2_spend_76 (fun H locs hP hD hS => ?_)
          have hP : va_P D vwCl (((g, .inr (2, [.int ga, .int gs, .int ora, .int oc, .ref lr, .int (nI nl), .ref vr, .int (nI (nv + 1)), .int am, .ref py, .int (nI nc), .int lcd, .int pia])) :: (lr, .inl (cyL, 12, .inr (.inr (.inr (.inr lrow))))) :: (vr, .inl (cyV, 100, .inr (.inr (.inr (.inr vrow_8))))) :: (py, .inl (cyI, 40, .inl pay)) :: Y : va_W) ++ va_pl (L ++ [q_5]) (gE (va_up K q_5 1) bud fsd las bas mvi mva ear (va_up vln q_5 (some a_1)) (va_up vda q_5 p1) (va_up vam q_5 p2) (va_up vrf q_5 0) (va_up vel q_5 0) (va_up vnx q_5 none))) H := hP
          have hD : va_D A (((g, .inr (2, [.int ga, .int gs, .int ora, .int oc, .ref lr, .int (nI nl), .ref vr, .int (nI (nv + 1)), .int am, .ref py, .int (nI nc), .int lcd, .int pia])) :: (lr, .inl (cyL, 12, .inr (.inr (.inr (.inr lrow))))) :: (vr, .inl (cyV, 100, .inr (.inr (.inr (.inr vrow_8))))) :: (py, .inl (cyI, 40, .inl pay)) :: Y : va_W) ++ va_pl (L ++ [q_5]) (gE (va_up K q_5 1) bud fsd las bas mvi mva ear (va_up vln q_5 (some a_1)) (va_up vda q_5 p1) (va_up vam q_5 p2) (va_up vrf q_5 0) (va_up vel q_5 0) (va_up vnx q_5 none))) := hD
          refine lv_aload hx hb dX2_spend_79 (lv_at hl 2 rfl) ?_
          refine lv_aload hx hb dX2_spend_81 (lv_at hl 0 rfl) ?_
          obtain ⟨hch9, hcl9⟩ := hOK.2.2 a_1 hL_1 hK_1
          have hqc : q_5 ∉ ch a_1 := fun h => hq_5 (hcl9 q_5 h).1
          have hne9 : ∀ y ∈ ch a_1, y ≠ q_5 := fun y hy h => hqc (h ▸ hy)
          have hch8 : gCh (va_up vnx q_5 none) (ear a_1) (ch a_1) := gCh_congr hch9 (fun y hy => va_up_ne _ _ (hne9 y hy))
          have hcl8 : ∀ y ∈ ch a_1, y ∈ (L ++ [q_5]) ∧ (va_up K q_5 1) y = 1 := fun y hy => ⟨List.mem_append_left _ (hcl9 y hy).1, (va_up_ne _ _ (hne9 y hy)).trans (hcl9 y hy).2⟩
          have hF_9 := gk_all hD hS hA
          refine va_callv (va_runV (As := [.ref q_5]) (rest := []) ⟨hx, hb, hml, hown, hts⟩ (kX0_putInOrder l D (gTy cyI cyZ cyL cyV cyJ) ((g, .inr (2, [.int ga, .int gs, .int ora, .int oc, .ref lr, .int (nI nl), .ref vr, .int (nI (nv + 1)), .int am, .ref py, .int (nI nc), .int lcd, .int pia])) :: (lr, .inl (cyL, 12, .inr (.inr (.inr (.inr lrow))))) :: (vr, .inl (cyV, 100, .inr (.inr (.inr (.inr vrow_8))))) :: (py, .inl (cyI, 40, .inl pay)) :: Y) (L ++ [q_5]) (va_up K q_5 1) bud fsd las bas mvi mva ear (va_up vln q_5 (some a_1)) (va_up vda q_5 p1) (va_up vam q_5 p2) (va_up vrf q_5 0) (va_up vel q_5 0) (va_up vnx q_5 none) a_1 hL_5_a_1 hK_5_a_1 q_5 hLq_5 hKq_5 (ch a_1) hch8 hcl8 hqc H.size _ rfl) (cwV 1 hts gX2_spend_X0_putInOrder rfl rfl rfl (by decide +kernel) ⟨(Nat.le_of_ble_eq_true rfl), (Nat.le_of_ble_eq_true rfl)⟩) (gk_preV hP hK hD (gk_recv hK hP hL_5_a_1 (gE_0 hK_5_a_1) rfl)) rfl rfl hl.1 rfl (lv_room (Nat.le_of_ble_eq_true rfl)) dX2_spend_83 ⟨(Nat.le_of_ble_eq_true rfl), (Nat.le_of_ble_eq_true rfl)⟩) hS (fun q _ h => hF_9 q h) hF_9 (fun u_9 t_9 H locs ht_9 hvm_9 hw_9 hB_9 hz_9 hk_9 hS => ?_)
          obtain ⟨hP, hD⟩ := gk_back hF_9 hB_9 ht_9
          obtain ⟨ear_9, vnx_9⟩ := u_9
          obtain ⟨hc1_9, hc2_9, hc3_9⟩ := hw_9
          dsimp only at hP hD hc1_9 hc2_9 hc3_9
          have hcl7 : ∀ y ∈ (gFr (va_up vda q_5 p1) ((va_up vda q_5 p1) q_5) (ch a_1) ++ q_5 :: gBk (va_up vda q_5 p1) ((va_up vda q_5 p1) q_5) (ch a_1)), y ∈ (L ++ [q_5]) ∧ (va_up K q_5 1) y = 1 := fun y hy => by
            rcases List.mem_append.mp hy with h | h
            · exact hcl8 y (by rw [← gFB (va_up vda q_5 p1) ((va_up vda q_5 p1) q_5) (ch a_1)]; exact List.mem_append_left _ h)
            · rcases List.mem_cons.mp h with rfl | h
              · exact ⟨hLq_5, hKq_5⟩
              · exact hcl8 y (by rw [← gFB (va_up vda q_5 p1) ((va_up vda q_5 p1) q_5) (ch a_1)]; exact List.mem_append_right _ h)
          refine lv_aload hx hb dX2_spend_86 (lv_at hl 2 rfl) ?_
          have hF_10 := gk_all hD hS hA
          refine va_callv (va_runV (As := []) (rest := []) ⟨hx, hb, hml, hown, hts⟩ (kX0_reckon l D (gTy cyI cyZ cyL cyV cyJ) ((g, .inr (2, [.int ga, .int gs, .int ora, .int oc, .ref lr, .int (nI nl), .ref vr, .int (nI (nv + 1)), .int am, .ref py, .int (nI nc), .int lcd, .int pia])) :: (lr, .inl (cyL, 12, .inr (.inr (.inr (.inr lrow))))) :: (vr, .inl (cyV, 100, .inr (.inr (.inr (.inr vrow_8))))) :: (py, .inl (cyI, 40, .inl pay)) :: Y) (L ++ [q_5]) (va_up K q_5 1) bud fsd las bas mvi mva ear_9 (va_up vln q_5 (some a_1)) (va_up vda q_5 p1) (va_up vam q_5 p2) (va_up vrf q_5 0) (va_up vel q_5 0) vnx_9 a_1 hL_5_a_1 hK_5_a_1 (gFr (va_up vda q_5 p1) ((va_up vda q_5 p1) q_5) (ch a_1) ++ q_5 :: gBk (va_up vda q_5 p1) ((va_up vda q_5 p1) q_5) (ch a_1)) hc1_9 hcl7 H.size _ rfl) (cwV 0 hts gX2_spend_X0_reckon rfl rfl rfl (by decide +kernel) ⟨(Nat.le_of_ble_eq_true rfl), (Nat.le_of_ble_eq_true rfl)⟩) (gk_preV hP hK hD (gk_recv hK hP hL_5_a_1 (gE_0 hK_5_a_1) rfl)) rfl rfl hl.1 rfl (lv_room (Nat.le_of_ble_eq_true rfl)) dX2_spend_88 ⟨(Nat.le_of_ble_eq_true rfl), (Nat.le_of_ble_eq_true rfl)⟩) hS (fun q _ h => hF_10 q h) hF_10 (fun u_10 t_10 H locs ht_10 hvm_10 hw_10 hB_10 hz_10 hk_10 hS => ?_)
          obtain ⟨hP, hD⟩ := gk_back hF_10 hB_10 ht_10
          obtain ⟨vel_10, evel_10⟩ : ∃ z, z = u_10 := ⟨_, rfl⟩
          rw [← evel_10] at hP hD hw_10
          refine lv_iload hx hb dX2_spend_91 (lv_at hl 1 rfl) ?_
          subst evrow_8
          refine W.widen (k := 4) (n := 24) (Nat.le_of_ble_eq_true rfl) (Nat.le_of_ble_eq_true rfl) ?_
          refine vx_ret ?_
          exact W.iret (v := (nI nv)) hx hb hr (fun t ht hW => ⟨⟨(nI nv), (a_1, q_5, ear_9, vnx_9, vel_10), rfl, ⟨a_1, hh_1, hw_2, hw_3, c_4, rfl, rfl, hq_5, hc1_9, hc2_9, hc3_9, hw_10⟩, by rw [ht]; exact hP, va_K.moved hW.alike hK, hD⟩, hS.F ht⟩) hS.2.2 dX2_spend_93
        · obtain ⟨sa_11, hsa_11⟩ := hTF.2.2.2 (114, "no more vouchers can be added") (by decide +kernel)
          exact vx_throwS hx hb hst (sa := sa_11) (text := "no more vouchers can be added") (is := 114) (names := ["java/lang/RuntimeException", "java/lang/Exception"]) hown (by decide +kernel) (by decide +kernel) (hts (.classLink RX2 63 "java/lang/IllegalStateException") (List.mem_of_getElem? (i := 1) rfl)) (hts (.initialized "java/lang/IllegalStateException") (List.mem_of_getElem? (i := 2) rfl)) hsa_11 (gk_hat (fun w hw => hts w (List.mem_cons_of_mem _ (List.mem_append_left _ (List.mem_append_left _ (List.mem_append_right _ hw))))) hTF (by decide +kernel)) (by decide +kernel) hTF.1 hTF.2.1 hS (hl.1.trans hml.symm) dX2_spend_39 dX2_spend_42 dX2_spend_43 dX2_spend_45 dX2_spend_48 (fun x hx9 => (htb x hx9).elim) (Nat.le_of_ble_eq_true rfl) (Nat.le_of_ble_eq_true rfl) (Nat.le_of_ble_eq_true rfl) (Nat.le_of_ble_eq_true rfl) hlocks (fun t hal hsz9 hkp => ⟨"java/lang/IllegalStateException", Or.inr (Or.inr (Or.inr (⟨rfl, a_1, hh_1, hw_2, hw_3, c_4⟩))), ⟨rfl, hP.kept (fun k q hk => hkp q.1 (vx_lt hP hk)), va_K.moved hal hK, hD⟩, Nat.le_trans hS.1 hsz9, fun q h1 h2 => (hkp q (Nat.lt_of_lt_of_le h1 hS.1)).trans (hS.2.1 q h1 h2)⟩) hS.2.2 (Nat.le_of_ble_eq_true rfl) (Nat.le_of_ble_eq_true rfl)
