theorem gPn (A Z : va_W) (q : Nat × va_E) : ((A ++ Z) ++ [q]).Perm (A ++ q :: Z) := by
  rw [List.append_assoc]
  exact List.Perm.append_left A (List.perm_append_singleton q Z)
theorem gPm (A Y P : va_W) : (Y ++ (A ++ P)).Perm ((A ++ Y) ++ P) := by
  rw [← List.append_assoc]
  exact List.Perm.append_right P List.perm_append_comm
/-- the classes of the rows of references -/
def gAO (U : State) : Prop := va_AO RX0 U ∧ va_AO RX1 U
abbrev gPreA (D : va_G) (tys : List (ClassId × FieldType)) (W : va_W) (sz : Nat) : State → Prop := fun U => gAO U ∧ gPre D tys W sz U
theorem gPreA_blind {av : List Value} {D : va_G} {tys : List (ClassId × FieldType)} {W : va_W} {sz : Nat} : FrameBlind (va_Pc av (gPreA D tys W sz)) := fun a U g mk q => by
  obtain ⟨q0, ⟨a1, a2⟩, q1, qP, qK, qD⟩ := q
  exact ⟨q0, ⟨va_AO.moved (u := U) (U := U.calling g mk a) (Vm.Alike.refl U.vm) a1, va_AO.moved (u := U) (U := U.calling g mk a) (Vm.Alike.refl U.vm) a2⟩, q1, qP, va_K.moved (u := U) (U := U.calling g mk a) (Vm.Alike.refl U.vm) qK, qD⟩
theorem gk_preSA {av : List Value} {D : va_G} {tys : List (ClassId × FieldType)} {W : va_W} {A : Nat → Prop} {s : State} {H : Heap} (hO : gAO s) (hP : va_P D vwCl W H) (hK : va_K D vwCl tys s) (hD : va_D A W) : PreS s H (va_Pc av (gPreA D tys W H.size)) av :=
  ⟨gPreA_blind, fun _ hU hW => ⟨rfl, ⟨va_AO.moved hW.alike hO.1, va_AO.moved hW.alike hO.2⟩, gPre_at hP hK hD hU hW⟩⟩
/-- which exceptions are no others -/
def gNC (U : State) : Prop := va_Nc "java/lang/IllegalStateException" "java/lang/IllegalArgumentException" U ∧ True
theorem gNC.moved {u U : State} (hvm : u.vm.Alike U.vm) (h : gNC u) : gNC U := ⟨va_Nc.moved hvm h.1, trivial⟩
abbrev gPreN (D : va_G) (tys : List (ClassId × FieldType)) (W : va_W) (sz : Nat) : State → Prop := fun U => gNC U ∧ gPreT D tys W sz U
theorem gPreN_blind {av : List Value} {D : va_G} {tys : List (ClassId × FieldType)} {W : va_W} {sz : Nat} : FrameBlind (va_Pc av (gPreN D tys W sz)) := fun a U g mk q => by
  obtain ⟨q0, q1, q2⟩ := q
  exact ⟨q0, gNC.moved (u := U) (U := U.calling g mk a) (Vm.Alike.refl U.vm) q1, (gPreT_blind a U g mk ⟨q0, q2⟩).2⟩
theorem gk_preSN {av : List Value} {D : va_G} {tys : List (ClassId × FieldType)} {W : va_W} {A : Nat → Prop} {s : State} {H : Heap} {locs : List Loc} (hN : gNC s) (hT : gTF A s s.heap) (hS : va_S A s.heap H locs) (hF : ∀ q, va_A W H.size q → A q) (hP : va_P D vwCl W H) (hK : va_K D vwCl tys s) (hD : va_D A W) : PreS s H (va_Pc av (gPreN D tys W H.size)) av :=
  ⟨gPreN_blind, fun _ hU hW => ⟨rfl, hN.moved hW.alike, gTF_at hT hS hF hU hW, gPre_at hP hK hD hU hW⟩⟩
set_option maxHeartbeats 4000000 in
set_option maxRecDepth 100000 in
theorem kX2_init (l : Launch) (D : va_G) (cyI cyZ cyL cyV cyJ : ClassId) (g : Nat) (Y : va_W) (sz : Nat) (A : Nat → Prop) (hAe : va_A ((g, .inr (2, [.int 0, .int 0, .int 0, .int 0, .null, .int 0, .null, .int 0, .int 0, .null, .int 0, .int 0, .int 0])) :: Y) sz = A) : Met l yX2_init wsX2_init ({ frames := 1, cells := 3, slots := 152, locals := 12 }) (va_Pc [.ref g] (gPreA D (gTy cyI cyZ cyL cyV cyJ) ((g, .inr (2, [.int 0, .int 0, .int 0, .int 0, .null, .int 0, .null, .int 0, .int 0, .null, .int 0, .int 0, .int 0])) :: Y) sz)) (va_Qv (fun (_ : Nat × Nat × Nat) => True) (fun (u : Nat × Nat × Nat) t => gPost D (gTy cyI cyZ cyL cyV cyJ) A ((g, .inr (2, [.int 1000000, .int 75, .int 10, .int 50000, .ref u.1, .int 0, .ref u.2.1, .int 0, .int 0, .ref u.2.2, .int 0, .int 0, .int 0])) :: (u.1, .inl (cyL, 12, .inr (.inr (.inr (.inr (fun _ => none)))))) :: (u.2.1, .inl (cyV, 100, .inr (.inr (.inr (.inr (fun _ => none)))))) :: (u.2.2, .inl (cyI, 40, .inl (fun _ => 0))) :: Y) t) A) 3 152 A := by
  refine Met.ofW (cc := cX2_init) (maxL := 1) (ret := none) (by decide) rfl ?_
  intro p e s m args below meth c s₁ B hml hv
  obtain ⟨rfl, hAO, hsz, hP, hK, hD0⟩ := hv
  have hx := B.exec
  have hb := B.bytes
  have hr := B.returns
  have hts := atoms_spec (ws := wsX2_init) B.pre
  have hown : s.vm.findClass RX2 = some m.cls := findClass_of_methodNamed B.named
  have hlocks := B.notSynchronized
  subst hsz
  have hin : meth.name = "<init>" := (name_of_methodNamed B.named B.method).1
  have hD := hD0.self (sz := s.heap.size)
  rw [hAe] at hD
  have hA : ∀ q : Nat, s.heap.size ≤ q → A q := fun q h => by rw [← hAe]; exact Or.inr h
  have hS : va_S A s.heap s.heap [] := va_S.rf
  have hP : va_P D vwCl ((g, .inr (2, [.int 0, .int 0, .int 0, .int 0, .null, .int 0, .null, .int 0, .int 0, .null, .int 0, .int 0, .int 0])) :: Y) s.heap := hP
  have hi2 : ∀ w ∈ wsX20, w ∈ wsX2_init := fun _ h => List.mem_cons_of_mem _ (List.mem_append_right _ h)
  have hl := lv_entry ([.ref g]) (n := 1) (Nat.le_of_ble_eq_true rfl)
  rw [lg_entry_eq]
  generalize (lg_sl ([.ref g]) ++ List.replicate (1 - (lg_sl ([.ref g])).length) Slot.unset).toArray = ls at hl ⊢
  have hl : lv_has ls 1 [(0, .ref g)] := hl
  refine lv_aload_n hx hb dX2_init_0 rfl (lv_at hl 0 rfl) ?_
  refine W.objInit hx hb hown (hts (.methodLink RX2 1 objectInit) (List.mem_of_getElem? (i := 1) rfl)) (hts (.instanceMethod objectInit) (List.mem_of_getElem? (i := 2) rfl)) (hts (.code objectInit ⟨#[0xb1]⟩ 1 none) (List.mem_of_getElem? (i := 3) rfl)) rfl (by rw [hml]; exact hl.1) rfl dX2_init_1 (Nat.le_of_ble_eq_true rfl) (Nat.le_of_ble_eq_true rfl) ?_
  refine W.eq (g2 := F0 m 4 ls []) rfl ?_
  refine lv_aload_n hx hb dX2_init_4 rfl (lv_at hl 0 rfl) ?_
  refine lv_ldc hx hb hown (hts (.constant RX2 7 (1000000)) (List.mem_of_getElem? (i := 4) rfl)) dX2_init_5 ?_
  refine va_put (D := D) (ci := 2) (v := .int 1000000) (ty := .int) (C := RX2) (T := TX2) (N := 13) hx hb hts hi2 tyX2 tyX2_ok nmX2 hown hK hP hD hS 0 rfl rfl 0 (by decide) (hts (.fieldLink RX2 8 "GrantBook" "grantAmount" "I") (List.mem_of_getElem? (i := 5) rfl)) (fun _ h9 => h9) rfl (by decide +kernel) rfl rfl (Nat.le_of_ble_eq_true rfl) dX2_init_7 (fun H locs hP hD hS => ?_)
  have hP : va_P D vwCl ((g, .inr (2, [.int 1000000, .int 0, .int 0, .int 0, .null, .int 0, .null, .int 0, .int 0, .null, .int 0, .int 0, .int 0])) :: Y) H := hP
  have hD : va_D A ((g, .inr (2, [.int 1000000, .int 0, .int 0, .int 0, .null, .int 0, .null, .int 0, .int 0, .null, .int 0, .int 0, .int 0])) :: Y) := hD
  refine lv_aload_n hx hb dX2_init_10 rfl (lv_at hl 0 rfl) ?_
  refine lv_bipush (v := 75) hx hb dX2_init_11 (by decide) ?_
  refine va_put (D := D) (ci := 2) (v := .int 75) (ty := .int) (C := RX2) (T := TX2) (N := 13) hx hb hts hi2 tyX2 tyX2_ok nmX2 hown hK hP hD hS 0 rfl rfl 1 (by decide) (hts (.fieldLink RX2 14 "GrantBook" "grantShare" "I") (List.mem_of_getElem? (i := 6) rfl)) (fun _ h9 => h9) rfl (by decide +kernel) rfl rfl (Nat.le_of_ble_eq_true rfl) dX2_init_13 (fun H locs hP hD hS => ?_)
  have hP : va_P D vwCl ((g, .inr (2, [.int 1000000, .int 75, .int 0, .int 0, .null, .int 0, .null, .int 0, .int 0, .null, .int 0, .int 0, .int 0])) :: Y) H := hP
  have hD : va_D A ((g, .inr (2, [.int 1000000, .int 75, .int 0, .int 0, .null, .int 0, .null, .int 0, .int 0, .null, .int 0, .int 0, .int 0])) :: Y) := hD
  refine lv_aload_n hx hb dX2_init_16 rfl (lv_at hl 0 rfl) ?_
  refine lv_bipush (v := 10) hx hb dX2_init_17 (by decide) ?_
  refine va_put (D := D) (ci := 2) (v := .int 10) (ty := .int) (C := RX2) (T := TX2) (N := 13) hx hb hts hi2 tyX2 tyX2_ok nmX2 hown hK hP hD hS 0 rfl rfl 2 (by decide) (hts (.fieldLink RX2 17 "GrantBook" "overheadRate" "I") (List.mem_of_getElem? (i := 7) rfl)) (fun _ h9 => h9) rfl (by decide +kernel) rfl rfl (Nat.le_of_ble_eq_true rfl) dX2_init_19 (fun H locs hP hD hS => ?_)
  have hP : va_P D vwCl ((g, .inr (2, [.int 1000000, .int 75, .int 10, .int 0, .null, .int 0, .null, .int 0, .int 0, .null, .int 0, .int 0, .int 0])) :: Y) H := hP
  have hD : va_D A ((g, .inr (2, [.int 1000000, .int 75, .int 10, .int 0, .null, .int 0, .null, .int 0, .int 0, .null, .int 0, .int 0, .int 0])) :: Y) := hD
  refine lv_aload_n hx hb dX2_init_22 rfl (lv_at hl 0 rfl) ?_
  refine lv_ldc hx hb hown (hts (.constant RX2 20 (50000)) (List.mem_of_getElem? (i := 8) rfl)) dX2_init_23 ?_
  refine va_put (D := D) (ci := 2) (v := .int 50000) (ty := .int) (C := RX2) (T := TX2) (N := 13) hx hb hts hi2 tyX2 tyX2_ok nmX2 hown hK hP hD hS 0 rfl rfl 3 (by decide) (hts (.fieldLink RX2 21 "GrantBook" "overheadCeiling" "I") (List.mem_of_getElem? (i := 9) rfl)) (fun _ h9 => h9) rfl (by decide +kernel) rfl rfl (Nat.le_of_ble_eq_true rfl) dX2_init_25 (fun H locs hP hD hS => ?_)
  have hP : va_P D vwCl ((g, .inr (2, [.int 1000000, .int 75, .int 10, .int 50000, .null, .int 0, .null, .int 0, .int 0, .null, .int 0, .int 0, .int 0])) :: Y) H := hP
  have hD : va_D A ((g, .inr (2, [.int 1000000, .int 75, .int 10, .int 50000, .null, .int 0, .null, .int 0, .int 0, .null, .int 0, .int 0, .int 0])) :: Y) := hD
  refine lv_aload_n hx hb dX2_init_28 rfl (lv_at hl 0 rfl) ?_
  refine lv_bipush (v := 12) hx hb dX2_init_29 (by decide) ?_
  refine va_newq hx hb hown (hts (.classLink RX2 24 RX0) (List.mem_of_getElem? (i := 10) rfl)) hAO.1 hK hP hD hS hA (n := 12) (N' := 12) (by decide) (by decide) (by decide) (Nat.le_of_ble_eq_true rfl) (Nat.le_of_ble_eq_true rfl) dX2_init_31 (fun q_1 cA_1 H hK_1 hP hD hS => ?_)
  have hcA_1 : cA_1 = cyL := gRA_eq (hK_1.2 5 _ rfl).2 (hK.2 2 _ rfl).2
  rw [hcA_1] at hP hD
  have hP : va_P D vwCl ((g, .inr (2, [.int 1000000, .int 75, .int 10, .int 50000, .null, .int 0, .null, .int 0, .int 0, .null, .int 0, .int 0, .int 0])) :: (q_1, .inl (cyL, 12, .inr (.inr (.inr (.inr (fun _ => none)))))) :: Y) H := gk_permP hP (gPn [(g, .inr (2, [.int 1000000, .int 75, .int 10, .int 50000, .null, .int 0, .null, .int 0, .int 0, .null, .int 0, .int 0, .int 0]))] Y (q_1, .inl (cyL, 12, .inr (.inr (.inr (.inr (fun _ => none)))))))
  have hD : va_D A ((g, .inr (2, [.int 1000000, .int 75, .int 10, .int 50000, .null, .int 0, .null, .int 0, .int 0, .null, .int 0, .int 0, .int 0])) :: (q_1, .inl (cyL, 12, .inr (.inr (.inr (.inr (fun _ => none)))))) :: Y) := gk_permD hD (gPn [(g, .inr (2, [.int 1000000, .int 75, .int 10, .int 50000, .null, .int 0, .null, .int 0, .int 0, .null, .int 0, .int 0, .int 0]))] Y (q_1, .inl (cyL, 12, .inr (.inr (.inr (.inr (fun _ => none)))))))
  refine va_putF (D := D) (ci := 2) (v := .ref q_1) (ty := (.array (.object "GrantBook$Line"))) (C := RX2) (T := TX2) (N := 13) hx hb hts hi2 tyX2 tyX2_ok nmX2 hown hK hP hD hS 0 rfl rfl 4 (by decide) (hts (.fieldLink RX2 26 "GrantBook" "lineRows" "[LGrantBook$Line;") (List.mem_of_getElem? (i := 11) rfl)) (fun _ h9 => h9) rfl hin rfl (by decide +kernel) rfl rfl (Nat.le_of_ble_eq_true rfl) dX2_init_34 (fun H locs hP hD hS => ?_)
  have hP : va_P D vwCl ((g, .inr (2, [.int 1000000, .int 75, .int 10, .int 50000, .ref q_1, .int 0, .null, .int 0, .int 0, .null, .int 0, .int 0, .int 0])) :: (q_1, .inl (cyL, 12, .inr (.inr (.inr (.inr (fun _ => none)))))) :: Y) H := hP
  have hD : va_D A ((g, .inr (2, [.int 1000000, .int 75, .int 10, .int 50000, .ref q_1, .int 0, .null, .int 0, .int 0, .null, .int 0, .int 0, .int 0])) :: (q_1, .inl (cyL, 12, .inr (.inr (.inr (.inr (fun _ => none)))))) :: Y) := hD
  refine lv_aload_n hx hb dX2_init_37 rfl (lv_at hl 0 rfl) ?_
  refine lv_iconst (v := 0) hx hb dX2_init_38 (by decide) ?_
  refine va_put (D := D) (ci := 2) (v := .int 0) (ty := .int) (C := RX2) (T := TX2) (N := 13) hx hb hts hi2 tyX2 tyX2_ok nmX2 hown hK hP hD hS 0 rfl rfl 5 (by decide) (hts (.fieldLink RX2 30 "GrantBook" "lineCount" "I") (List.mem_of_getElem? (i := 12) rfl)) (fun _ h9 => h9) rfl (by decide +kernel) rfl rfl (Nat.le_of_ble_eq_true rfl) dX2_init_39 (fun H locs hP hD hS => ?_)
  have hP : va_P D vwCl ((g, .inr (2, [.int 1000000, .int 75, .int 10, .int 50000, .ref q_1, .int 0, .null, .int 0, .int 0, .null, .int 0, .int 0, .int 0])) :: (q_1, .inl (cyL, 12, .inr (.inr (.inr (.inr (fun _ => none)))))) :: Y) H := hP
  have hD : va_D A ((g, .inr (2, [.int 1000000, .int 75, .int 10, .int 50000, .ref q_1, .int 0, .null, .int 0, .int 0, .null, .int 0, .int 0, .int 0])) :: (q_1, .inl (cyL, 12, .inr (.inr (.inr (.inr (fun _ => none)))))) :: Y) := hD
  refine lv_aload_n hx hb dX2_init_42 rfl (lv_at hl 0 rfl) ?_
  refine lv_bipush (v := 100) hx hb dX2_init_43 (by decide) ?_
  refine va_newq hx hb hown (hts (.classLink RX2 33 RX1) (List.mem_of_getElem? (i := 13) rfl)) hAO.2 hK hP hD hS hA (n := 100) (N' := 100) (by decide) (by decide) (by decide) (Nat.le_of_ble_eq_true rfl) (Nat.le_of_ble_eq_true rfl) dX2_init_45 (fun q_2 cA_2 H hK_2 hP hD hS => ?_)
  have hcA_2 : cA_2 = cyV := gRA_eq (hK_2.2 5 _ rfl).2 (hK.2 3 _ rfl).2
  rw [hcA_2] at hP hD
  have hP : va_P D vwCl ((g, .inr (2, [.int 1000000, .int 75, .int 10, .int 50000, .ref q_1, .int 0, .null, .int 0, .int 0, .null, .int 0, .int 0, .int 0])) :: (q_1, .inl (cyL, 12, .inr (.inr (.inr (.inr (fun _ => none)))))) :: (q_2, .inl (cyV, 100, .inr (.inr (.inr (.inr (fun _ => none)))))) :: Y) H := gk_permP hP (gPn [(g, .inr (2, [.int 1000000, .int 75, .int 10, .int 50000, .ref q_1, .int 0, .null, .int 0, .int 0, .null, .int 0, .int 0, .int 0])), (q_1, .inl (cyL, 12, .inr (.inr (.inr (.inr (fun _ => none))))))] Y (q_2, .inl (cyV, 100, .inr (.inr (.inr (.inr (fun _ => none)))))))
  have hD : va_D A ((g, .inr (2, [.int 1000000, .int 75, .int 10, .int 50000, .ref q_1, .int 0, .null, .int 0, .int 0, .null, .int 0, .int 0, .int 0])) :: (q_1, .inl (cyL, 12, .inr (.inr (.inr (.inr (fun _ => none)))))) :: (q_2, .inl (cyV, 100, .inr (.inr (.inr (.inr (fun _ => none)))))) :: Y) := gk_permD hD (gPn [(g, .inr (2, [.int 1000000, .int 75, .int 10, .int 50000, .ref q_1, .int 0, .null, .int 0, .int 0, .null, .int 0, .int 0, .int 0])), (q_1, .inl (cyL, 12, .inr (.inr (.inr (.inr (fun _ => none))))))] Y (q_2, .inl (cyV, 100, .inr (.inr (.inr (.inr (fun _ => none)))))))
  refine va_putF (D := D) (ci := 2) (v := .ref q_2) (ty := (.array (.object "GrantBook$Voucher"))) (C := RX2) (T := TX2) (N := 13) hx hb hts hi2 tyX2 tyX2_ok nmX2 hown hK hP hD hS 0 rfl rfl 6 (by decide) (hts (.fieldLink RX2 35 "GrantBook" "voucherRows" "[LGrantBook$Voucher;") (List.mem_of_getElem? (i := 14) rfl)) (fun _ h9 => h9) rfl hin rfl (by decide +kernel) rfl rfl (Nat.le_of_ble_eq_true rfl) dX2_init_48 (fun H locs hP hD hS => ?_)
  have hP : va_P D vwCl ((g, .inr (2, [.int 1000000, .int 75, .int 10, .int 50000, .ref q_1, .int 0, .ref q_2, .int 0, .int 0, .null, .int 0, .int 0, .int 0])) :: (q_1, .inl (cyL, 12, .inr (.inr (.inr (.inr (fun _ => none)))))) :: (q_2, .inl (cyV, 100, .inr (.inr (.inr (.inr (fun _ => none)))))) :: Y) H := hP
  have hD : va_D A ((g, .inr (2, [.int 1000000, .int 75, .int 10, .int 50000, .ref q_1, .int 0, .ref q_2, .int 0, .int 0, .null, .int 0, .int 0, .int 0])) :: (q_1, .inl (cyL, 12, .inr (.inr (.inr (.inr (fun _ => none)))))) :: (q_2, .inl (cyV, 100, .inr (.inr (.inr (.inr (fun _ => none)))))) :: Y) := hD
  refine lv_aload_n hx hb dX2_init_51 rfl (lv_at hl 0 rfl) ?_
  refine lv_iconst (v := 0) hx hb dX2_init_52 (by decide) ?_
  refine va_put (D := D) (ci := 2) (v := .int 0) (ty := .int) (C := RX2) (T := TX2) (N := 13) hx hb hts hi2 tyX2 tyX2_ok nmX2 hown hK hP hD hS 0 rfl rfl 7 (by decide) (hts (.fieldLink RX2 39 "GrantBook" "voucherCount" "I") (List.mem_of_getElem? (i := 15) rfl)) (fun _ h9 => h9) rfl (by decide +kernel) rfl rfl (Nat.le_of_ble_eq_true rfl) dX2_init_53 (fun H locs hP hD hS => ?_)
  have hP : va_P D vwCl ((g, .inr (2, [.int 1000000, .int 75, .int 10, .int 50000, .ref q_1, .int 0, .ref q_2, .int 0, .int 0, .null, .int 0, .int 0, .int 0])) :: (q_1, .inl (cyL, 12, .inr (.inr (.inr (.inr (fun _ => none)))))) :: (q_2, .inl (cyV, 100, .inr (.inr (.inr (.inr (fun _ => none)))))) :: Y) H := hP
  have hD : va_D A ((g, .inr (2, [.int 1000000, .int 75, .int 10, .int 50000, .ref q_1, .int 0, .ref q_2, .int 0, .int 0, .null, .int 0, .int 0, .int 0])) :: (q_1, .inl (cyL, 12, .inr (.inr (.inr (.inr (fun _ => none)))))) :: (q_2, .inl (cyV, 100, .inr (.inr (.inr (.inr (fun _ => none)))))) :: Y) := hD
  refine lv_aload_n hx hb dX2_init_56 rfl (lv_at hl 0 rfl) ?_
  refine lv_iconst (v := 0) hx hb dX2_init_57 (by decide) ?_
  refine va_put (D := D) (ci := 2) (v := .int 0) (ty := .int) (C := RX2) (T := TX2) (N := 13) hx hb hts hi2 tyX2 tyX2_ok nmX2 hown hK hP hD hS 0 rfl rfl 8 (by decide) (hts (.fieldLink RX2 42 "GrantBook" "allMatch" "I") (List.mem_of_getElem? (i := 16) rfl)) (fun _ h9 => h9) rfl (by decide +kernel) rfl rfl (Nat.le_of_ble_eq_true rfl) dX2_init_58 (fun H locs hP hD hS => ?_)
  have hP : va_P D vwCl ((g, .inr (2, [.int 1000000, .int 75, .int 10, .int 50000, .ref q_1, .int 0, .ref q_2, .int 0, .int 0, .null, .int 0, .int 0, .int 0])) :: (q_1, .inl (cyL, 12, .inr (.inr (.inr (.inr (fun _ => none)))))) :: (q_2, .inl (cyV, 100, .inr (.inr (.inr (.inr (fun _ => none)))))) :: Y) H := hP
  have hD : va_D A ((g, .inr (2, [.int 1000000, .int 75, .int 10, .int 50000, .ref q_1, .int 0, .ref q_2, .int 0, .int 0, .null, .int 0, .int 0, .int 0])) :: (q_1, .inl (cyL, 12, .inr (.inr (.inr (.inr (fun _ => none)))))) :: (q_2, .inl (cyV, 100, .inr (.inr (.inr (.inr (fun _ => none)))))) :: Y) := hD
  refine lv_aload_n hx hb dX2_init_61 rfl (lv_at hl 0 rfl) ?_
  refine lv_bipush (v := 40) hx hb dX2_init_62 (by decide) ?_
  refine va_newa (atype := .int) hx hb (hts (.arrayClass .int) (List.mem_of_getElem? (i := 17) rfl)) (ty := .int) rfl hK hP hD hS hA (n := 40) (N' := 40) (a0 := (40, .inl (fun _ => 0))) (fun _ => rfl) (by decide) (by decide) (by decide) (Nat.le_of_ble_eq_true rfl) (Nat.le_of_ble_eq_true rfl) dX2_init_64 (fun q_3 cA_3 H hK_3 hP hD hS => ?_)
  have hcA_3 : cA_3 = cyI := gRA_eq (hK_3.2 5 _ rfl).2 (hK.2 0 _ rfl).2
  rw [hcA_3] at hP hD
  have hP : va_P D vwCl ((g, .inr (2, [.int 1000000, .int 75, .int 10, .int 50000, .ref q_1, .int 0, .ref q_2, .int 0, .int 0, .null, .int 0, .int 0, .int 0])) :: (q_1, .inl (cyL, 12, .inr (.inr (.inr (.inr (fun _ => none)))))) :: (q_2, .inl (cyV, 100, .inr (.inr (.inr (.inr (fun _ => none)))))) :: (q_3, .inl (cyI, 40, .inl (fun _ => 0))) :: Y) H := gk_permP hP (gPn [(g, .inr (2, [.int 1000000, .int 75, .int 10, .int 50000, .ref q_1, .int 0, .ref q_2, .int 0, .int 0, .null, .int 0, .int 0, .int 0])), (q_1, .inl (cyL, 12, .inr (.inr (.inr (.inr (fun _ => none)))))), (q_2, .inl (cyV, 100, .inr (.inr (.inr (.inr (fun _ => none))))))] Y (q_3, .inl (cyI, 40, .inl (fun _ => 0))))
  have hD : va_D A ((g, .inr (2, [.int 1000000, .int 75, .int 10, .int 50000, .ref q_1, .int 0, .ref q_2, .int 0, .int 0, .null, .int 0, .int 0, .int 0])) :: (q_1, .inl (cyL, 12, .inr (.inr (.inr (.inr (fun _ => none)))))) :: (q_2, .inl (cyV, 100, .inr (.inr (.inr (.inr (fun _ => none)))))) :: (q_3, .inl (cyI, 40, .inl (fun _ => 0))) :: Y) := gk_permD hD (gPn [(g, .inr (2, [.int 1000000, .int 75, .int 10, .int 50000, .ref q_1, .int 0, .ref q_2, .int 0, .int 0, .null, .int 0, .int 0, .int 0])), (q_1, .inl (cyL, 12, .inr (.inr (.inr (.inr (fun _ => none)))))), (q_2, .inl (cyV, 100, .inr (.inr (.inr (.inr (fun _ => none))))))] Y (q_3, .inl (cyI, 40, .inl (fun _ => 0))))
  refine va_putF (D := D) (ci := 2) (v := .ref q_3) (ty := (.array .int)) (C := RX2) (T := TX2) (N := 13) hx hb hts hi2 tyX2 tyX2_ok nmX2 hown hK hP hD hS 0 rfl rfl 9 (by decide) (hts (.fieldLink RX2 45 "GrantBook" "payments" "[I") (List.mem_of_getElem? (i := 18) rfl)) (fun _ h9 => h9) rfl hin rfl (by decide +kernel) rfl rfl (Nat.le_of_ble_eq_true rfl) dX2_init_66 (fun H locs hP hD hS => ?_)
  have hP : va_P D vwCl ((g, .inr (2, [.int 1000000, .int 75, .int 10, .int 50000, .ref q_1, .int 0, .ref q_2, .int 0, .int 0, .ref q_3, .int 0, .int 0, .int 0])) :: (q_1, .inl (cyL, 12, .inr (.inr (.inr (.inr (fun _ => none)))))) :: (q_2, .inl (cyV, 100, .inr (.inr (.inr (.inr (fun _ => none)))))) :: (q_3, .inl (cyI, 40, .inl (fun _ => 0))) :: Y) H := hP
  have hD : va_D A ((g, .inr (2, [.int 1000000, .int 75, .int 10, .int 50000, .ref q_1, .int 0, .ref q_2, .int 0, .int 0, .ref q_3, .int 0, .int 0, .int 0])) :: (q_1, .inl (cyL, 12, .inr (.inr (.inr (.inr (fun _ => none)))))) :: (q_2, .inl (cyV, 100, .inr (.inr (.inr (.inr (fun _ => none)))))) :: (q_3, .inl (cyI, 40, .inl (fun _ => 0))) :: Y) := hD
  refine lv_aload_n hx hb dX2_init_69 rfl (lv_at hl 0 rfl) ?_
  refine lv_iconst (v := 0) hx hb dX2_init_70 (by decide) ?_
  refine va_put (D := D) (ci := 2) (v := .int 0) (ty := .int) (C := RX2) (T := TX2) (N := 13) hx hb hts hi2 tyX2 tyX2_ok nmX2 hown hK hP hD hS 0 rfl rfl 10 (by decide) (hts (.fieldLink RX2 49 "GrantBook" "claimCount" "I") (List.mem_of_getElem? (i := 19) rfl)) (fun _ h9 => h9) rfl (by decide +kernel) rfl rfl (Nat.le_of_ble_eq_true rfl) dX2_init_71 (fun H locs hP hD hS => ?_)
  have hP : va_P D vwCl ((g, .inr (2, [.int 1000000, .int 75, .int 10, .int 50000, .ref q_1, .int 0, .ref q_2, .int 0, .int 0, .ref q_3, .int 0, .int 0, .int 0])) :: (q_1, .inl (cyL, 12, .inr (.inr (.inr (.inr (fun _ => none)))))) :: (q_2, .inl (cyV, 100, .inr (.inr (.inr (.inr (fun _ => none)))))) :: (q_3, .inl (cyI, 40, .inl (fun _ => 0))) :: Y) H := hP
  have hD : va_D A ((g, .inr (2, [.int 1000000, .int 75, .int 10, .int 50000, .ref q_1, .int 0, .ref q_2, .int 0, .int 0, .ref q_3, .int 0, .int 0, .int 0])) :: (q_1, .inl (cyL, 12, .inr (.inr (.inr (.inr (fun _ => none)))))) :: (q_2, .inl (cyV, 100, .inr (.inr (.inr (.inr (fun _ => none)))))) :: (q_3, .inl (cyI, 40, .inl (fun _ => 0))) :: Y) := hD
  refine lv_aload_n hx hb dX2_init_74 rfl (lv_at hl 0 rfl) ?_
  refine lv_iconst (v := 0) hx hb dX2_init_75 (by decide) ?_
  refine va_put (D := D) (ci := 2) (v := .int 0) (ty := .int) (C := RX2) (T := TX2) (N := 13) hx hb hts hi2 tyX2 tyX2_ok nmX2 hown hK hP hD hS 0 rfl rfl 11 (by decide) (hts (.fieldLink RX2 52 "GrantBook" "lastClaimDay" "I") (List.mem_of_getElem? (i := 20) rfl)) (fun _ h9 => h9) rfl (by decide +kernel) rfl rfl (Nat.le_of_ble_eq_true rfl) dX2_init_76 (fun H locs hP hD hS => ?_)
  have hP : va_P D vwCl ((g, .inr (2, [.int 1000000, .int 75, .int 10, .int 50000, .ref q_1, .int 0, .ref q_2, .int 0, .int 0, .ref q_3, .int 0, .int 0, .int 0])) :: (q_1, .inl (cyL, 12, .inr (.inr (.inr (.inr (fun _ => none)))))) :: (q_2, .inl (cyV, 100, .inr (.inr (.inr (.inr (fun _ => none)))))) :: (q_3, .inl (cyI, 40, .inl (fun _ => 0))) :: Y) H := hP
  have hD : va_D A ((g, .inr (2, [.int 1000000, .int 75, .int 10, .int 50000, .ref q_1, .int 0, .ref q_2, .int 0, .int 0, .ref q_3, .int 0, .int 0, .int 0])) :: (q_1, .inl (cyL, 12, .inr (.inr (.inr (.inr (fun _ => none)))))) :: (q_2, .inl (cyV, 100, .inr (.inr (.inr (.inr (fun _ => none)))))) :: (q_3, .inl (cyI, 40, .inl (fun _ => 0))) :: Y) := hD
  refine lv_aload_n hx hb dX2_init_79 rfl (lv_at hl 0 rfl) ?_
  refine lv_iconst (v := 0) hx hb dX2_init_80 (by decide) ?_
  refine va_put (D := D) (ci := 2) (v := .int 0) (ty := .int) (C := RX2) (T := TX2) (N := 13) hx hb hts hi2 tyX2 tyX2_ok nmX2 hown hK hP hD hS 0 rfl rfl 12 (by decide) (hts (.fieldLink RX2 55 "GrantBook" "paidInAll" "I") (List.mem_of_getElem? (i := 21) rfl)) (fun _ h9 => h9) rfl (by decide +kernel) rfl rfl (Nat.le_of_ble_eq_true rfl) dX2_init_81 (fun H locs hP hD hS => ?_)
  have hP : va_P D vwCl ((g, .inr (2, [.int 1000000, .int 75, .int 10, .int 50000, .ref q_1, .int 0, .ref q_2, .int 0, .int 0, .ref q_3, .int 0, .int 0, .int 0])) :: (q_1, .inl (cyL, 12, .inr (.inr (.inr (.inr (fun _ => none)))))) :: (q_2, .inl (cyV, 100, .inr (.inr (.inr (.inr (fun _ => none)))))) :: (q_3, .inl (cyI, 40, .inl (fun _ => 0))) :: Y) H := hP
  have hD : va_D A ((g, .inr (2, [.int 1000000, .int 75, .int 10, .int 50000, .ref q_1, .int 0, .ref q_2, .int 0, .int 0, .ref q_3, .int 0, .int 0, .int 0])) :: (q_1, .inl (cyL, 12, .inr (.inr (.inr (.inr (fun _ => none)))))) :: (q_2, .inl (cyV, 100, .inr (.inr (.inr (.inr (fun _ => none)))))) :: (q_3, .inl (cyI, 40, .inl (fun _ => 0))) :: Y) := hD
  refine W.widen (k := 3) (n := 152) (Nat.le_of_ble_eq_true rfl) (Nat.le_of_ble_eq_true rfl) ?_
  exact W.vret hx hb hr (fun t ht hW => ⟨⟨(q_1, q_2, q_3), rfl, trivial, by rw [ht]; exact hP, va_K.moved hW.alike hK, hD⟩, hS.F ht⟩) hS.2.2 dX2_init_84
