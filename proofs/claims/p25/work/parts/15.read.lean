/-- the law's arrays tell the book's numbers -/
def pRB (nl nv : Nat) (gr sh rt ce : Int32) (bud fsd las isB mto maw dya amo rfd : Nat → Int32) (lnf : Nat → Nat) (nf bf df af lf : Nat → Int32) : Prop :=
  (nl ≤ 6 ∧ nv ≤ 40) ∧ (nf 0 = gr ∧ nf 1 = sh ∧ nf 2 = rt ∧ nf 3 = ce ∧ nf 5 = nI nv) ∧
  (∀ i, i < nl → bf (6 * i) = bud i ∧ bf (6 * i + 1) = fsd i ∧ bf (6 * i + 2) = las i ∧ bf (6 * i + 3) = isB i ∧ bf (6 * i + 4) = mto i ∧ bf (6 * i + 5) = maw i ∧ (isB i = 0 ∨ isB i = 1)) ∧
  ∀ j, j < nv → df j = dya j ∧ af j = amo j ∧ lnf j < nl ∧ (rfd j = 0 ∧ lf j = nI (lnf j) ∨ rfd j = 1 ∧ lf j = nI (lnf j + 100))
set_option maxHeartbeats 4000000 in
set_option maxRecDepth 100000 in
theorem kL_room (l : Launch) (D : va_G) (cyI cyZ cyL cyV cyJ : ClassId) (xn xb xd xa xl : Nat) (nl nv : Nat) (gr sh rt ce : Int32) (bud fsd las isB mto maw dya amo rfd : Nat → Int32) (lnf : Nat → Nat) (nf bf df af lf : Nat → Int32) (Z : va_W) (hR : pRB nl nv gr sh rt ce bud fsd las isB mto maw dya amo rfd lnf nf bf df af lf) (i : Nat) (hi : i < nl) (sz : Nat) (A : Nat → Prop) (hAe : va_A ((xn, .inl (cyI, 10, .inl nf)) :: (xb, .inl (cyI, 36, .inl bf)) :: (xd, .inl (cyI, 40, .inl df)) :: (xa, .inl (cyI, 40, .inl af)) :: (xl, .inl (cyI, 40, .inl lf)) :: Z) sz = A) : Met l yL_room wsL_room ({ frames := 0, cells := 0, slots := 0, locals := 0 }) (va_Pc [.ref xb, .int (nI i)] (gPre D (gTy cyI cyZ cyL cyV cyJ) ((xn, .inl (cyI, 10, .inl nf)) :: (xb, .inl (cyI, 36, .inl bf)) :: (xd, .inl (cyI, 40, .inl df)) :: (xa, .inl (cyI, 40, .inl af)) :: (xl, .inl (cyI, 40, .inl lf)) :: Z) sz)) (va_Qi (fun (r : Int32) (_ : Unit) => r = bud i + mto i - maw i) (fun (_ : Unit) t => gPost D (gTy cyI cyZ cyL cyV cyJ) A ((xn, .inl (cyI, 10, .inl nf)) :: (xb, .inl (cyI, 36, .inl bf)) :: (xd, .inl (cyI, 40, .inl df)) :: (xa, .inl (cyI, 40, .inl af)) :: (xl, .inl (cyI, 40, .inl lf)) :: Z) t) A) 0 0 A := by
  refine Met.ofW (cc := cL_room) (maxL := 2) (ret := (some .int)) (by decide) rfl ?_
  intro p e s m args below meth c s₁ B hml hv
  obtain ⟨rfl, hsz, hP, hK, hD0⟩ := hv
  have hx := B.exec
  have hb := B.bytes
  have hr := B.returns
  have hts := atoms_spec (ws := wsL_room) B.pre
  have hown : s.vm.findClass RL = some m.cls := findClass_of_methodNamed B.named
  have hlocks := B.notSynchronized
  subst hsz
  have hD := hD0.self (sz := s.heap.size)
  rw [hAe] at hD
  have hA : ∀ q : Nat, s.heap.size ≤ q → A q := fun q h => by rw [← hAe]; exact Or.inr h
  have hS : va_S A s.heap s.heap [] := va_S.rf
  have hP : va_P D vwCl ((xn, .inl (cyI, 10, .inl nf)) :: (xb, .inl (cyI, 36, .inl bf)) :: (xd, .inl (cyI, 40, .inl df)) :: (xa, .inl (cyI, 40, .inl af)) :: (xl, .inl (cyI, 40, .inl lf)) :: Z) s.heap := hP
  have hl := lv_entry ([.ref xb, .int (nI i)]) (n := 2) (Nat.le_of_ble_eq_true rfl)
  rw [lg_entry_eq]
  generalize (lg_sl ([.ref xb, .int (nI i)]) ++ List.replicate (2 - (lg_sl ([.ref xb, .int (nI i)])).length) Slot.unset).toArray = ls at hl ⊢
  have hl : lv_has ls 2 [(0, .ref xb), (1, .int (nI i))] := hl
  obtain ⟨⟨hnl, hnv⟩, ⟨hn0, hn1, hn2, hn3, hn5⟩, hbl, hvl⟩ := id hR
  refine lv_aload_n hx hb dL_room_0 rfl (lv_at hl 0 rfl) ?_
  refine lv_bipush (v := 6) hx hb dL_room_1 (by decide) ?_
  refine lv_iload_n hx hb dL_room_3 rfl (lv_at hl 1 rfl) ?_
  refine lv_imul hx hb dL_room_4 ?_
  refine lv_topi (fun y_1 h_1 => ?_)
  obtain rfl : y_1 = (nI (6 * i)) := h_1.trans (pk_mul 6 i)
  refine gk_iald (i := (6 * i)) hx hb hK hP 1 0 rfl rfl (by omega) (by decide) dL_room_5 ?_
  rw [(hbl i (by omega)).1]
  refine lv_aload_n hx hb dL_room_6 rfl (lv_at hl 0 rfl) ?_
  refine lv_bipush (v := 6) hx hb dL_room_7 (by decide) ?_
  refine lv_iload_n hx hb dL_room_9 rfl (lv_at hl 1 rfl) ?_
  refine lv_imul hx hb dL_room_10 ?_
  refine lv_topi (fun y_2 h_2 => ?_)
  obtain rfl : y_2 = (nI (6 * i)) := h_2.trans (pk_mul 6 i)
  refine lv_iconst (v := 4) hx hb dL_room_11 (by decide) ?_
  refine lv_iadd hx hb dL_room_12 ?_
  refine lv_topi (fun y_3 h_3 => ?_)
  obtain rfl : y_3 = (nI ((6 * i) + 4)) := h_3.trans (nI_add (6 * i) 4)
  refine gk_iald (i := ((6 * i) + 4)) hx hb hK hP 1 0 rfl rfl (by omega) (by decide) dL_room_13 ?_
  rw [(hbl i (by omega)).2.2.2.2.1]
  refine lv_iadd hx hb dL_room_14 ?_
  refine lv_aload_n hx hb dL_room_15 rfl (lv_at hl 0 rfl) ?_
  refine lv_bipush (v := 6) hx hb dL_room_16 (by decide) ?_
  refine lv_iload_n hx hb dL_room_18 rfl (lv_at hl 1 rfl) ?_
  refine lv_imul hx hb dL_room_19 ?_
  refine lv_topi (fun y_4 h_4 => ?_)
  obtain rfl : y_4 = (nI (6 * i)) := h_4.trans (pk_mul 6 i)
  refine lv_iconst (v := 5) hx hb dL_room_20 (by decide) ?_
  refine lv_iadd hx hb dL_room_21 ?_
  refine lv_topi (fun y_5 h_5 => ?_)
  obtain rfl : y_5 = (nI ((6 * i) + 5)) := h_5.trans (nI_add (6 * i) 5)
  refine gk_iald (i := ((6 * i) + 5)) hx hb hK hP 1 0 rfl rfl (by omega) (by decide) dL_room_22 ?_
  rw [(hbl i (by omega)).2.2.2.2.2.1]
  refine lv_isub hx hb dL_room_23 ?_
  refine W.widen (k := 0) (n := 0) (Nat.le_of_ble_eq_true rfl) (Nat.le_of_ble_eq_true rfl) ?_
  exact W.iret (v := (((bud i) + (mto i)) - (maw i))) hx hb hr (fun t ht hW => ⟨⟨(((bud i) + (mto i)) - (maw i)), (), rfl, rfl, by rw [ht]; exact hP, va_K.moved hW.alike hK, hD⟩, hS.F ht⟩) hS.2.2 dL_room_24
set_option maxHeartbeats 4000000 in
set_option maxRecDepth 100000 in
theorem kL_fits (l : Launch) (D : va_G) (cyI cyZ cyL cyV cyJ : ClassId) (xn xb xd xa xl : Nat) (nl nv : Nat) (gr sh rt ce : Int32) (bud fsd las isB mto maw dya amo rfd : Nat → Int32) (lnf : Nat → Nat) (nf bf df af lf : Nat → Int32) (Z : va_W) (hR : pRB nl nv gr sh rt ce bud fsd las isB mto maw dya amo rfd lnf nf bf df af lf) (k : Nat) (hk : k < nv) (sz : Nat) (A : Nat → Prop) (hAe : va_A ((xn, .inl (cyI, 10, .inl nf)) :: (xb, .inl (cyI, 36, .inl bf)) :: (xd, .inl (cyI, 40, .inl df)) :: (xa, .inl (cyI, 40, .inl af)) :: (xl, .inl (cyI, 40, .inl lf)) :: Z) sz = A) : Met l yL_fits wsL_fits ({ frames := 0, cells := 0, slots := 0, locals := 0 }) (va_Pc [.ref xb, .ref xd, .ref xl, .int (nI k)] (gPre D (gTy cyI cyZ cyL cyV cyJ) ((xn, .inl (cyI, 10, .inl nf)) :: (xb, .inl (cyI, 36, .inl bf)) :: (xd, .inl (cyI, 40, .inl df)) :: (xa, .inl (cyI, 40, .inl af)) :: (xl, .inl (cyI, 40, .inl lf)) :: Z) sz)) (va_Qi (fun (r : Int32) (_ : Unit) => r = (gAcc (fsd (lnf k)) (las (lnf k)) (rfd k) (dya k))) (fun (_ : Unit) t => gPost D (gTy cyI cyZ cyL cyV cyJ) A ((xn, .inl (cyI, 10, .inl nf)) :: (xb, .inl (cyI, 36, .inl bf)) :: (xd, .inl (cyI, 40, .inl df)) :: (xa, .inl (cyI, 40, .inl af)) :: (xl, .inl (cyI, 40, .inl lf)) :: Z) t) A) 0 0 A := by
  refine Met.ofW (cc := cL_fits) (maxL := 4) (ret := (some .boolean)) (by decide) rfl ?_
  intro p e s m args below meth c s₁ B hml hv
  obtain ⟨rfl, hsz, hP, hK, hD0⟩ := hv
  have hx := B.exec
  have hb := B.bytes
  have hr := B.returns
  have hts := atoms_spec (ws := wsL_fits) B.pre
  have hown : s.vm.findClass RL = some m.cls := findClass_of_methodNamed B.named
  have hlocks := B.notSynchronized
  subst hsz
  have hD := hD0.self (sz := s.heap.size)
  rw [hAe] at hD
  have hA : ∀ q : Nat, s.heap.size ≤ q → A q := fun q h => by rw [← hAe]; exact Or.inr h
  have hS : va_S A s.heap s.heap [] := va_S.rf
  have hP : va_P D vwCl ((xn, .inl (cyI, 10, .inl nf)) :: (xb, .inl (cyI, 36, .inl bf)) :: (xd, .inl (cyI, 40, .inl df)) :: (xa, .inl (cyI, 40, .inl af)) :: (xl, .inl (cyI, 40, .inl lf)) :: Z) s.heap := hP
  have hl := lv_entry ([.ref xb, .ref xd, .ref xl, .int (nI k)]) (n := 4) (Nat.le_of_ble_eq_true rfl)
  rw [lg_entry_eq]
  generalize (lg_sl ([.ref xb, .ref xd, .ref xl, .int (nI k)]) ++ List.replicate (4 - (lg_sl ([.ref xb, .ref xd, .ref xl, .int (nI k)])).length) Slot.unset).toArray = ls at hl ⊢
  have hl : lv_has ls 4 [(0, .ref xb), (1, .ref xd), (2, .ref xl), (3, .int (nI k))] := hl
  obtain ⟨⟨hnl, hnv⟩, ⟨hn0, hn1, hn2, hn3, hn5⟩, hbl, hvl⟩ := id hR
  refine lv_aload_n hx hb dL_fits_0 rfl (lv_at hl 2 rfl) ?_
  refine lv_iload_n hx hb dL_fits_1 rfl (lv_at hl 3 rfl) ?_
  refine gk_iald (i := k) hx hb hK hP 4 0 rfl rfl (by omega) (by decide) dL_fits_2 ?_
  have hll_1 : lnf k < nl := (hvl k (by omega)).2.2.1
  rcases (hvl k (by omega)).2.2.2 with ⟨hr_1, hlf_1⟩ | ⟨hr_1, hlf_1⟩
  · rw [hlf_1]
    refine lv_bipush (v := 100) hx hb dL_fits_3 (by decide) ?_
    refine lv_icmp_ge (tgt := 44) hx hb dL_fits_5 (by decide) (fun c9 => absurd c9 (pn_le (a := 100) (b := (lnf k)) (by omega) (by omega) (by omega))) (fun _ => ?_)
    refine lv_aload_n hx hb dL_fits_8 rfl (lv_at hl 1 rfl) ?_
    refine lv_iload_n hx hb dL_fits_9 rfl (lv_at hl 3 rfl) ?_
    refine gk_iald (i := k) hx hb hK hP 2 0 rfl rfl (by omega) (by decide) dL_fits_10 ?_
    rw [(hvl k (by omega)).1]
    refine lv_aload_n hx hb dL_fits_11 rfl (lv_at hl 0 rfl) ?_
    refine lv_bipush (v := 6) hx hb dL_fits_12 (by decide) ?_
    refine lv_aload_n hx hb dL_fits_14 rfl (lv_at hl 2 rfl) ?_
    refine lv_iload_n hx hb dL_fits_15 rfl (lv_at hl 3 rfl) ?_
    refine gk_iald (i := k) hx hb hK hP 4 0 rfl rfl (by omega) (by decide) dL_fits_16 ?_
    rw [hlf_1]
    refine lv_imul hx hb dL_fits_17 ?_
    refine lv_topi (fun y_2 h_2 => ?_)
    obtain rfl : y_2 = (nI (6 * (lnf k))) := h_2.trans (pk_mul 6 (lnf k))
    refine lv_iconst (v := 1) hx hb dL_fits_18 (by decide) ?_
    refine lv_iadd hx hb dL_fits_19 ?_
    refine lv_topi (fun y_3 h_3 => ?_)
    obtain rfl : y_3 = (nI ((6 * (lnf k)) + 1)) := h_3.trans (nI_add (6 * (lnf k)) 1)
    refine gk_iald (i := ((6 * (lnf k)) + 1)) hx hb hK hP 1 0 rfl rfl (by omega) (by decide) dL_fits_20 ?_
    rw [(hbl (lnf k) (by omega)).2.1]
    refine lv_icmp_lt (tgt := 44) hx hb dL_fits_21 (by decide) (fun c_4 => ?_) (fun c_4 => ?_)
    · refine lv_iconst (v := 0) hx hb dL_fits_44 (by decide) ?_
      refine W.widen (k := 0) (n := 0) (Nat.le_of_ble_eq_true rfl) (Nat.le_of_ble_eq_true rfl) ?_
      exact W.zret (v := 0) hx hb hr rfl (fun t ht hW => ⟨⟨0, (), rfl, (by unfold gAcc; rw [if_pos hr_1, if_pos c_4]), by rw [ht]; exact hP, va_K.moved hW.alike hK, hD⟩, hS.F ht⟩) hS.2.2 dL_fits_45
    · refine lv_aload_n hx hb dL_fits_24 rfl (lv_at hl 1 rfl) ?_
      refine lv_iload_n hx hb dL_fits_25 rfl (lv_at hl 3 rfl) ?_
      refine gk_iald (i := k) hx hb hK hP 2 0 rfl rfl (by omega) (by decide) dL_fits_26 ?_
      rw [(hvl k (by omega)).1]
      refine lv_aload_n hx hb dL_fits_27 rfl (lv_at hl 0 rfl) ?_
      refine lv_bipush (v := 6) hx hb dL_fits_28 (by decide) ?_
      refine lv_aload_n hx hb dL_fits_30 rfl (lv_at hl 2 rfl) ?_
      refine lv_iload_n hx hb dL_fits_31 rfl (lv_at hl 3 rfl) ?_
      refine gk_iald (i := k) hx hb hK hP 4 0 rfl rfl (by omega) (by decide) dL_fits_32 ?_
      rw [hlf_1]
      refine lv_imul hx hb dL_fits_33 ?_
      refine lv_topi (fun y_5 h_5 => ?_)
      obtain rfl : y_5 = (nI (6 * (lnf k))) := h_5.trans (pk_mul 6 (lnf k))
      refine lv_iconst (v := 2) hx hb dL_fits_34 (by decide) ?_
      refine lv_iadd hx hb dL_fits_35 ?_
      refine lv_topi (fun y_6 h_6 => ?_)
      obtain rfl : y_6 = (nI ((6 * (lnf k)) + 2)) := h_6.trans (nI_add (6 * (lnf k)) 2)
      refine gk_iald (i := ((6 * (lnf k)) + 2)) hx hb hK hP 1 0 rfl rfl (by omega) (by decide) dL_fits_36 ?_
      rw [(hbl (lnf k) (by omega)).2.2.1]
      refine lv_icmp_gt (tgt := 44) hx hb dL_fits_37 (by decide) (fun c_7 => ?_) (fun c_7 => ?_)
      · refine lv_iconst (v := 0) hx hb dL_fits_44 (by decide) ?_
        refine W.widen (k := 0) (n := 0) (Nat.le_of_ble_eq_true rfl) (Nat.le_of_ble_eq_true rfl) ?_
        exact W.zret (v := 0) hx hb hr rfl (fun t ht hW => ⟨⟨0, (), rfl, (by unfold gAcc; rw [if_pos hr_1, if_neg c_4, if_pos c_7]), by rw [ht]; exact hP, va_K.moved hW.alike hK, hD⟩, hS.F ht⟩) hS.2.2 dL_fits_45
      · refine lv_iconst (v := 1) hx hb dL_fits_40 (by decide) ?_
        refine lv_goto (tgt := 45) hx hb dL_fits_41 (by decide) ?_
        refine W.widen (k := 0) (n := 0) (Nat.le_of_ble_eq_true rfl) (Nat.le_of_ble_eq_true rfl) ?_
        exact W.zret (v := 1) hx hb hr rfl (fun t ht hW => ⟨⟨1, (), rfl, (by unfold gAcc; rw [if_pos hr_1, if_neg c_4, if_neg c_7]), by rw [ht]; exact hP, va_K.moved hW.alike hK, hD⟩, hS.F ht⟩) hS.2.2 dL_fits_45
  · rw [hlf_1]
    refine lv_bipush (v := 100) hx hb dL_fits_3 (by decide) ?_
    refine lv_icmp_ge (tgt := 44) hx hb dL_fits_5 (by decide) (fun _ => ?_) (fun c9 => absurd (pc_le (a := 100) (b := (lnf k + 100)) (by omega) (by omega) (by omega)) c9)
    refine lv_iconst (v := 0) hx hb dL_fits_44 (by decide) ?_
    refine W.widen (k := 0) (n := 0) (Nat.le_of_ble_eq_true rfl) (Nat.le_of_ble_eq_true rfl) ?_
    exact W.zret (v := 0) hx hb hr rfl (fun t ht hW => ⟨⟨0, (), rfl, (by unfold gAcc; rw [hr_1]; rfl), by rw [ht]; exact hP, va_K.moved hW.alike hK, hD⟩, hS.F ht⟩) hS.2.2 dL_fits_45
set_option maxHeartbeats 4000000 in
set_option maxRecDepth 100000 in
theorem kL_eligible (l : Launch) (D : va_G) (cyI cyZ cyL cyV cyJ : ClassId) (xn xb xd xa xl : Nat) (nl nv : Nat) (gr sh rt ce : Int32) (bud fsd las isB mto maw dya amo rfd : Nat → Int32) (lnf : Nat → Nat) (nf bf df af lf : Nat → Int32) (Z : va_W) (hR : pRB nl nv gr sh rt ce bud fsd las isB mto maw dya amo rfd lnf nf bf df af lf) (k : Nat) (hk : k < nv) (sz : Nat) (A : Nat → Prop) (hAe : va_A ((xn, .inl (cyI, 10, .inl nf)) :: (xb, .inl (cyI, 36, .inl bf)) :: (xd, .inl (cyI, 40, .inl df)) :: (xa, .inl (cyI, 40, .inl af)) :: (xl, .inl (cyI, 40, .inl lf)) :: Z) sz = A) : Met l yL_eligible wsL_eligible ({ frames := 1, cells := 0, slots := 0, locals := 23 }) (va_Pc [.ref xn, .ref xb, .ref xd, .ref xa, .ref xl, .int (nI k)] (gPre D (gTy cyI cyZ cyL cyV cyJ) ((xn, .inl (cyI, 10, .inl nf)) :: (xb, .inl (cyI, 36, .inl bf)) :: (xd, .inl (cyI, 40, .inl df)) :: (xa, .inl (cyI, 40, .inl af)) :: (xl, .inl (cyI, 40, .inl lf)) :: Z) sz)) (va_Qi (fun (r : Int32) (_ : Unit) => r = pEl (fun l => bud l + mto l - maw l) dya amo (fun v => gAcc (fsd (lnf v)) (las (lnf v)) (rfd v) (dya v)) lnf nv k) (fun (_ : Unit) t => gPost D (gTy cyI cyZ cyL cyV cyJ) A ((xn, .inl (cyI, 10, .inl nf)) :: (xb, .inl (cyI, 36, .inl bf)) :: (xd, .inl (cyI, 40, .inl df)) :: (xa, .inl (cyI, 40, .inl af)) :: (xl, .inl (cyI, 40, .inl lf)) :: Z) t) A) 0 0 A := by
  refine Met.ofW (cc := cL_eligible) (maxL := 14) (ret := (some .int)) (by decide) rfl ?_
  intro p e s m args below meth c s₁ B hml hv
  obtain ⟨rfl, hsz, hP, hK, hD0⟩ := hv
  have hx := B.exec
  have hb := B.bytes
  have hr := B.returns
  have hts := atoms_spec (ws := wsL_eligible) B.pre
  have hown : s.vm.findClass RL = some m.cls := findClass_of_methodNamed B.named
  have hlocks := B.notSynchronized
  subst hsz
  have hD := hD0.self (sz := s.heap.size)
  rw [hAe] at hD
  have hA : ∀ q : Nat, s.heap.size ≤ q → A q := fun q h => by rw [← hAe]; exact Or.inr h
  have hS : va_S A s.heap s.heap [] := va_S.rf
  have hP : va_P D vwCl ((xn, .inl (cyI, 10, .inl nf)) :: (xb, .inl (cyI, 36, .inl bf)) :: (xd, .inl (cyI, 40, .inl df)) :: (xa, .inl (cyI, 40, .inl af)) :: (xl, .inl (cyI, 40, .inl lf)) :: Z) s.heap := hP
  have hl := lv_entry ([.ref xn, .ref xb, .ref xd, .ref xa, .ref xl, .int (nI k)]) (n := 14) (Nat.le_of_ble_eq_true rfl)
  rw [lg_entry_eq]
  generalize (lg_sl ([.ref xn, .ref xb, .ref xd, .ref xa, .ref xl, .int (nI k)]) ++ List.replicate (14 - (lg_sl ([.ref xn, .ref xb, .ref xd, .ref xa, .ref xl, .int (nI k)])).length) Slot.unset).toArray = ls at hl ⊢
  have hl : lv_has ls 14 [(0, .ref xn), (1, .ref xb), (2, .ref xd), (3, .ref xa), (4, .ref xl), (5, .int (nI k))] := hl
  obtain ⟨⟨hnl, hnv⟩, ⟨hn0, hn1, hn2, hn3, hn5⟩, hbl, hvl⟩ := id hR
  refine lv_aload_n hx hb dL_eligible_0 rfl (lv_at hl 1 rfl) ?_
  refine lv_aload_n hx hb dL_eligible_1 rfl (lv_at hl 2 rfl) ?_
  refine lv_aload hx hb dL_eligible_2 (lv_at hl 4 rfl) ?_
  refine lv_iload hx hb dL_eligible_4 (lv_at hl 5 rfl) ?_
  have hF_1 := gk_all hD hS hA
  refine va_calli (va_runS (As := [.ref xb, .ref xd, .ref xl, .int (nI k)]) (rest := []) ⟨hx, hb, hml, hown, hts⟩ (kL_fits l D cyI cyZ cyL cyV cyJ xn xb xd xa xl nl nv gr sh rt ce bud fsd las isB mto maw dya amo rfd lnf nf bf df af lf Z hR k (by omega) s.heap.size _ rfl) (va_cwS 4 hts gL_eligible_L_fits rfl rfl rfl (by decide +kernel) ⟨(Nat.le_of_ble_eq_true rfl), (Nat.le_of_ble_eq_true rfl)⟩) (gk_preS hP hK hD) rfl rfl hl.1 rfl (lv_room (Nat.le_of_ble_eq_true rfl)) dL_eligible_6 ⟨(Nat.le_of_ble_eq_true rfl), (Nat.le_of_ble_eq_true rfl)⟩) hS (fun q _ h => hF_1 q h) hF_1 (fun r_1 u_1 t_1 H locs ht_1 hvm_1 hw_1 hB_1 hz_1 hk_1 hS => ?_)
  obtain ⟨hP, hD⟩ := gk_back hF_1 hB_1 ht_1
  subst hw_1
  refine lv_if_ne (tgt := 14) hx hb dL_eligible_9 (by decide) (fun c_2 => ?_) (fun c_2 => ?_)
  · have hll_k : lnf k < nl := (hvl k (by omega)).2.2.1
    obtain ⟨hr_k, hlf_k⟩ : rfd k = 0 ∧ lf k = nI (lnf k) := by
      rcases (hvl k (by omega)).2.2.2 with h | ⟨h, -⟩
      · exact h
      · exact absurd (show gAcc _ _ (rfd k) _ = 0 by unfold gAcc; rw [h]; rfl) c_2
    refine lv_lconst (v := 0) hx hb dL_eligible_14 (by decide) ?_
    refine lv_lstore (lv' := [(6, .long 0), (0, .ref xn), (1, .ref xb), (2, .ref xd), (3, .ref xa), (4, .ref xl), (5, .int (nI k))]) hx hb dL_eligible_15 hl (by decide) rfl (fun ls hl => ?_)
    refine lv_iconst (v := 0) hx hb dL_eligible_17 (by decide) ?_
    refine lv_istore (lv' := [(8, .int 0), (6, .long 0), (0, .ref xn), (1, .ref xb), (2, .ref xd), (3, .ref xa), (4, .ref xl), (5, .int (nI k))]) hx hb dL_eligible_18 hl (by decide) rfl (fun ls hl => ?_)
    have loop : ∀ (n i : Nat) (H : Heap) (locs : List Loc) (ls : Array Slot), i ≤ nv → nv + 1 ≤ i + n → va_P D vwCl ((xn, .inl (cyI, 10, .inl nf)) :: (xb, .inl (cyI, 36, .inl bf)) :: (xd, .inl (cyI, 40, .inl df)) :: (xa, .inl (cyI, 40, .inl af)) :: (xl, .inl (cyI, 40, .inl lf)) :: Z) H → va_D A ((xn, .inl (cyI, 10, .inl nf)) :: (xb, .inl (cyI, 36, .inl bf)) :: (xd, .inl (cyI, 40, .inl df)) :: (xa, .inl (cyI, 40, .inl af)) :: (xl, .inl (cyI, 40, .inl lf)) :: Z) → va_S A s.heap H locs → lv_has ls 14 [(8, .int (nI i)), (6, .long (pAh dya amo (fun v => gAcc (fsd (lnf v)) (las (lnf v)) (rfd v) (dya v)) lnf k i)), (0, .ref xn), (1, .ref xb), (2, .ref xd), (3, .ref xa), (4, .ref xl), (5, .int (nI k))] → W p l e (headSpec wsL_eligible ({ frames := 1, cells := 0, slots := 0, locals := 23 })).room s m ([.ref xn, .ref xb, .ref xd, .ref xa, .ref xl, .int (nI k)] : List Value).toArray below meth c H locs 0 0 (MQ below (va_Qi (fun (r : Int32) (_ : Unit) => r = pEl (fun l => bud l + mto l - maw l) dya amo (fun v => gAcc (fsd (lnf v)) (las (lnf v)) (rfd v) (dya v)) lnf nv k) (fun (_ : Unit) t => gPost D (gTy cyI cyZ cyL cyV cyJ) A ((xn, .inl (cyI, 10, .inl nf)) :: (xb, .inl (cyI, 36, .inl bf)) :: (xd, .inl (cyI, 40, .inl df)) :: (xa, .inl (cyI, 40, .inl af)) :: (xl, .inl (cyI, 40, .inl lf)) :: Z) t) A) ([.ref xn, .ref xb, .ref xd, .ref xa, .ref xl, .int (nI k)] : List Value).toArray s 0 0 A) (F0 m 20 ls []) := by
      intro n
      induction n with
      | zero => intro i H locs ls h1 h2; exact absurd h2 (by omega)
      | succ n ih =>
        intro i H locs ls h1 h2 hP hD hS hl
        refine lv_iload hx hb dL_eligible_20 (lv_at hl 0 rfl) ?_
        refine lv_aload_n hx hb dL_eligible_22 rfl (lv_at hl 2 rfl) ?_
        refine lv_iconst (v := 5) hx hb dL_eligible_23 (by decide) ?_
        refine gk_iald (i := 5) hx hb hK hP 0 0 rfl rfl (by omega) (by decide) dL_eligible_24 ?_
        rw [hn5]
        refine lv_icmp_ge (tgt := 114) hx hb dL_eligible_25 (by decide) (fun c_3 => ?_) (fun c_3 => ?_)
        · have n_3 : nv ≤ i := pf_le (a := nv) (b := i) (by omega) (by omega) c_3
          obtain rfl : nv = i := by omega
          refine lv_aload_n hx hb dL_eligible_114 rfl (lv_at hl 3 rfl) ?_
          refine lv_aload hx hb dL_eligible_115 (lv_at hl 6 rfl) ?_
          refine lv_iload hx hb dL_eligible_117 (lv_at hl 7 rfl) ?_
          refine gk_iald (i := k) hx hb hK hP 4 0 rfl rfl (by omega) (by decide) dL_eligible_119 ?_
          rw [hlf_k]
          have hF_4 := gk_all hD hS hA
          refine va_calli (va_runS (As := [.ref xb, .int (nI (lnf k))]) (rest := []) ⟨hx, hb, hml, hown, hts⟩ (kL_room l D cyI cyZ cyL cyV cyJ xn xb xd xa xl nl nv gr sh rt ce bud fsd las isB mto maw dya amo rfd lnf nf bf df af lf Z hR (lnf k) (by omega) H.size _ rfl) (va_cwS 2 hts gL_eligible_L_room rfl rfl rfl (by decide +kernel) ⟨(Nat.le_of_ble_eq_true rfl), (Nat.le_of_ble_eq_true rfl)⟩) (gk_preS hP hK hD) rfl rfl hl.1 rfl (lv_room (Nat.le_of_ble_eq_true rfl)) dL_eligible_120 ⟨(Nat.le_of_ble_eq_true rfl), (Nat.le_of_ble_eq_true rfl)⟩) hS (fun q _ h => hF_4 q h) hF_4 (fun r_4 u_4 t_4 H locs ht_4 hvm_4 hw_4 hB_4 hz_4 hk_4 hS => ?_)
          obtain ⟨hP, hD⟩ := gk_back hF_4 hB_4 ht_4
          subst hw_4
          refine lv_i2l hx hb dL_eligible_123 rfl ?_
          refine lv_lstore (lv' := [(8, .long ((bud (lnf k) + mto (lnf k) - maw (lnf k)).toInt64)), (6, .long (pAh dya amo (fun v => gAcc (fsd (lnf v)) (las (lnf v)) (rfd v) (dya v)) lnf k nv)), (0, .ref xn), (1, .ref xb), (2, .ref xd), (3, .ref xa), (4, .ref xl), (5, .int (nI k))]) hx hb dL_eligible_124 hl (by decide) rfl (fun ls hl => ?_)
          refine lv_lload hx hb dL_eligible_126 (lv_at hl 1 rfl) ?_
          refine lv_lload hx hb dL_eligible_128 (lv_at hl 0 rfl) ?_
          refine W.lcmp hx hb dL_eligible_130 ?_
          refine lv_if_ge (tgt := 139) hx hb dL_eligible_131 (by decide) (fun c_5 => ?_) (fun c_5 => ?_)
          · refine lv_lload hx hb dL_eligible_139 (lv_at hl 0 rfl) ?_
            refine lv_lstore (lv' := [(10, .long ((bud (lnf k) + mto (lnf k) - maw (lnf k)).toInt64)), (8, .long ((bud (lnf k) + mto (lnf k) - maw (lnf k)).toInt64)), (6, .long (pAh dya amo (fun v => gAcc (fsd (lnf v)) (las (lnf v)) (rfd v) (dya v)) lnf k nv)), (0, .ref xn), (1, .ref xb), (2, .ref xd), (3, .ref xa), (4, .ref xl), (5, .int (nI k))]) hx hb dL_eligible_141 hl (by decide) rfl (fun ls hl => ?_)
            refine lv_lload hx hb dL_eligible_143 (lv_at hl 2 rfl) ?_
            refine lv_aload_n hx hb dL_eligible_145 rfl (lv_at hl 6 rfl) ?_
            refine lv_iload hx hb dL_eligible_146 (lv_at hl 8 rfl) ?_
            refine gk_iald (i := k) hx hb hK hP 3 0 rfl rfl (by omega) (by decide) dL_eligible_148 ?_
            rw [(hvl k (by omega)).2.1]
            refine lv_i2l hx hb dL_eligible_149 rfl ?_
            refine lv_ladd hx hb dL_eligible_150 ?_
            refine lv_lload hx hb dL_eligible_151 (lv_at hl 1 rfl) ?_
            refine W.lcmp hx hb dL_eligible_153 ?_
            refine lv_if_ge (tgt := 168) hx hb dL_eligible_154 (by decide) (fun c_6 => ?_) (fun c_6 => ?_)
            · refine lv_lload hx hb dL_eligible_168 (lv_at hl 1 rfl) ?_
              refine lv_lstore (lv' := [(12, .long ((bud (lnf k) + mto (lnf k) - maw (lnf k)).toInt64)), (10, .long ((bud (lnf k) + mto (lnf k) - maw (lnf k)).toInt64)), (8, .long ((bud (lnf k) + mto (lnf k) - maw (lnf k)).toInt64)), (6, .long (pAh dya amo (fun v => gAcc (fsd (lnf v)) (las (lnf v)) (rfd v) (dya v)) lnf k nv)), (0, .ref xn), (1, .ref xb), (2, .ref xd), (3, .ref xa), (4, .ref xl), (5, .int (nI k))]) hx hb dL_eligible_170 hl (by decide) rfl (fun ls hl => ?_)
              refine lv_lload hx hb dL_eligible_172 (lv_at hl 0 rfl) ?_
              refine lv_lload hx hb dL_eligible_174 (lv_at hl 1 rfl) ?_
              refine lv_lsub hx hb dL_eligible_176 ?_
              refine lv_l2i hx hb dL_eligible_177 rfl ?_
              refine W.widen (k := 0) (n := 0) (Nat.le_of_ble_eq_true rfl) (Nat.le_of_ble_eq_true rfl) ?_
              exact W.iret (v := ((bud (lnf k) + mto (lnf k) - maw (lnf k)).toInt64 - (bud (lnf k) + mto (lnf k) - maw (lnf k)).toInt64).toInt32) hx hb hr (fun t ht hW => ⟨⟨((bud (lnf k) + mto (lnf k) - maw (lnf k)).toInt64 - (bud (lnf k) + mto (lnf k) - maw (lnf k)).toInt64).toInt32, (), rfl, (by unfold pEl; rw [if_neg c_2, if_neg (pL_nlt c_6), if_neg (pL_nlt c_5)]), by rw [ht]; exact hP, va_K.moved hW.alike hK, hD⟩, hS.F ht⟩) hS.2.2 dL_eligible_178
            · refine lv_lload hx hb dL_eligible_157 (lv_at hl 2 rfl) ?_
              refine lv_aload_n hx hb dL_eligible_159 rfl (lv_at hl 6 rfl) ?_
              refine lv_iload hx hb dL_eligible_160 (lv_at hl 8 rfl) ?_
              refine gk_iald (i := k) hx hb hK hP 3 0 rfl rfl (by omega) (by decide) dL_eligible_162 ?_
              rw [(hvl k (by omega)).2.1]
              refine lv_i2l hx hb dL_eligible_163 rfl ?_
              refine lv_ladd hx hb dL_eligible_164 ?_
              refine lv_goto (tgt := 170) hx hb dL_eligible_165 (by decide) ?_
              refine lv_lstore (lv' := [(12, .long ((pAh dya amo (fun v => gAcc (fsd (lnf v)) (las (lnf v)) (rfd v) (dya v)) lnf k nv) + (amo k).toInt64)), (10, .long ((bud (lnf k) + mto (lnf k) - maw (lnf k)).toInt64)), (8, .long ((bud (lnf k) + mto (lnf k) - maw (lnf k)).toInt64)), (6, .long (pAh dya amo (fun v => gAcc (fsd (lnf v)) (las (lnf v)) (rfd v) (dya v)) lnf k nv)), (0, .ref xn), (1, .ref xb), (2, .ref xd), (3, .ref xa), (4, .ref xl), (5, .int (nI k))]) hx hb dL_eligible_170 hl (by decide) rfl (fun ls hl => ?_)
              refine lv_lload hx hb dL_eligible_172 (lv_at hl 0 rfl) ?_
              refine lv_lload hx hb dL_eligible_174 (lv_at hl 1 rfl) ?_
              refine lv_lsub hx hb dL_eligible_176 ?_
              refine lv_l2i hx hb dL_eligible_177 rfl ?_
              refine W.widen (k := 0) (n := 0) (Nat.le_of_ble_eq_true rfl) (Nat.le_of_ble_eq_true rfl) ?_
              exact W.iret (v := (((pAh dya amo (fun v => gAcc (fsd (lnf v)) (las (lnf v)) (rfd v) (dya v)) lnf k nv) + (amo k).toInt64) - (bud (lnf k) + mto (lnf k) - maw (lnf k)).toInt64).toInt32) hx hb hr (fun t ht hW => ⟨⟨(((pAh dya amo (fun v => gAcc (fsd (lnf v)) (las (lnf v)) (rfd v) (dya v)) lnf k nv) + (amo k).toInt64) - (bud (lnf k) + mto (lnf k) - maw (lnf k)).toInt64).toInt32, (), rfl, (by unfold pEl; rw [if_neg c_2, if_pos (pL_lt c_6), if_neg (pL_nlt c_5)]), by rw [ht]; exact hP, va_K.moved hW.alike hK, hD⟩, hS.F ht⟩) hS.2.2 dL_eligible_178
          · refine lv_lload hx hb dL_eligible_134 (lv_at hl 1 rfl) ?_
            refine lv_goto (tgt := 141) hx hb dL_eligible_136 (by decide) ?_
            refine lv_lstore (lv' := [(10, .long (pAh dya amo (fun v => gAcc (fsd (lnf v)) (las (lnf v)) (rfd v) (dya v)) lnf k nv)), (8, .long ((bud (lnf k) + mto (lnf k) - maw (lnf k)).toInt64)), (6, .long (pAh dya amo (fun v => gAcc (fsd (lnf v)) (las (lnf v)) (rfd v) (dya v)) lnf k nv)), (0, .ref xn), (1, .ref xb), (2, .ref xd), (3, .ref xa), (4, .ref xl), (5, .int (nI k))]) hx hb dL_eligible_141 hl (by decide) rfl (fun ls hl => ?_)
            refine lv_lload hx hb dL_eligible_143 (lv_at hl 2 rfl) ?_
            refine lv_aload_n hx hb dL_eligible_145 rfl (lv_at hl 6 rfl) ?_
            refine lv_iload hx hb dL_eligible_146 (lv_at hl 8 rfl) ?_
            refine gk_iald (i := k) hx hb hK hP 3 0 rfl rfl (by omega) (by decide) dL_eligible_148 ?_
            rw [(hvl k (by omega)).2.1]
            refine lv_i2l hx hb dL_eligible_149 rfl ?_
            refine lv_ladd hx hb dL_eligible_150 ?_
            refine lv_lload hx hb dL_eligible_151 (lv_at hl 1 rfl) ?_
            refine W.lcmp hx hb dL_eligible_153 ?_
            refine lv_if_ge (tgt := 168) hx hb dL_eligible_154 (by decide) (fun c_7 => ?_) (fun c_7 => ?_)
            · refine lv_lload hx hb dL_eligible_168 (lv_at hl 1 rfl) ?_
              refine lv_lstore (lv' := [(12, .long ((bud (lnf k) + mto (lnf k) - maw (lnf k)).toInt64)), (10, .long (pAh dya amo (fun v => gAcc (fsd (lnf v)) (las (lnf v)) (rfd v) (dya v)) lnf k nv)), (8, .long ((bud (lnf k) + mto (lnf k) - maw (lnf k)).toInt64)), (6, .long (pAh dya amo (fun v => gAcc (fsd (lnf v)) (las (lnf v)) (rfd v) (dya v)) lnf k nv)), (0, .ref xn), (1, .ref xb), (2, .ref xd), (3, .ref xa), (4, .ref xl), (5, .int (nI k))]) hx hb dL_eligible_170 hl (by decide) rfl (fun ls hl => ?_)
              refine lv_lload hx hb dL_eligible_172 (lv_at hl 0 rfl) ?_
              refine lv_lload hx hb dL_eligible_174 (lv_at hl 1 rfl) ?_
              refine lv_lsub hx hb dL_eligible_176 ?_
              refine lv_l2i hx hb dL_eligible_177 rfl ?_
              refine W.widen (k := 0) (n := 0) (Nat.le_of_ble_eq_true rfl) (Nat.le_of_ble_eq_true rfl) ?_
              exact W.iret (v := ((bud (lnf k) + mto (lnf k) - maw (lnf k)).toInt64 - (pAh dya amo (fun v => gAcc (fsd (lnf v)) (las (lnf v)) (rfd v) (dya v)) lnf k nv)).toInt32) hx hb hr (fun t ht hW => ⟨⟨((bud (lnf k) + mto (lnf k) - maw (lnf k)).toInt64 - (pAh dya amo (fun v => gAcc (fsd (lnf v)) (las (lnf v)) (rfd v) (dya v)) lnf k nv)).toInt32, (), rfl, (by unfold pEl; rw [if_neg c_2, if_neg (pL_nlt c_7), if_pos (pL_lt c_5)]), by rw [ht]; exact hP, va_K.moved hW.alike hK, hD⟩, hS.F ht⟩) hS.2.2 dL_eligible_178
            · refine lv_lload hx hb dL_eligible_157 (lv_at hl 2 rfl) ?_
              refine lv_aload_n hx hb dL_eligible_159 rfl (lv_at hl 6 rfl) ?_
              refine lv_iload hx hb dL_eligible_160 (lv_at hl 8 rfl) ?_
              refine gk_iald (i := k) hx hb hK hP 3 0 rfl rfl (by omega) (by decide) dL_eligible_162 ?_
              rw [(hvl k (by omega)).2.1]
              refine lv_i2l hx hb dL_eligible_163 rfl ?_
              refine lv_ladd hx hb dL_eligible_164 ?_
              refine lv_goto (tgt := 170) hx hb dL_eligible_165 (by decide) ?_
              refine lv_lstore (lv' := [(12, .long ((pAh dya amo (fun v => gAcc (fsd (lnf v)) (las (lnf v)) (rfd v) (dya v)) lnf k nv) + (amo k).toInt64)), (10, .long (pAh dya amo (fun v => gAcc (fsd (lnf v)) (las (lnf v)) (rfd v) (dya v)) lnf k nv)), (8, .long ((bud (lnf k) + mto (lnf k) - maw (lnf k)).toInt64)), (6, .long (pAh dya amo (fun v => gAcc (fsd (lnf v)) (las (lnf v)) (rfd v) (dya v)) lnf k nv)), (0, .ref xn), (1, .ref xb), (2, .ref xd), (3, .ref xa), (4, .ref xl), (5, .int (nI k))]) hx hb dL_eligible_170 hl (by decide) rfl (fun ls hl => ?_)
              refine lv_lload hx hb dL_eligible_172 (lv_at hl 0 rfl) ?_
              refine lv_lload hx hb dL_eligible_174 (lv_at hl 1 rfl) ?_
              refine lv_lsub hx hb dL_eligible_176 ?_
              refine lv_l2i hx hb dL_eligible_177 rfl ?_
              refine W.widen (k := 0) (n := 0) (Nat.le_of_ble_eq_true rfl) (Nat.le_of_ble_eq_true rfl) ?_
              exact W.iret (v := (((pAh dya amo (fun v => gAcc (fsd (lnf v)) (las (lnf v)) (rfd v) (dya v)) lnf k nv) + (amo k).toInt64) - (pAh dya amo (fun v => gAcc (fsd (lnf v)) (las (lnf v)) (rfd v) (dya v)) lnf k nv)).toInt32) hx hb hr (fun t ht hW => ⟨⟨(((pAh dya amo (fun v => gAcc (fsd (lnf v)) (las (lnf v)) (rfd v) (dya v)) lnf k nv) + (amo k).toInt64) - (pAh dya amo (fun v => gAcc (fsd (lnf v)) (las (lnf v)) (rfd v) (dya v)) lnf k nv)).toInt32, (), rfl, (by unfold pEl; rw [if_neg c_2, if_pos (pL_lt c_7), if_pos (pL_lt c_5)]), by rw [ht]; exact hP, va_K.moved hW.alike hK, hD⟩, hS.F ht⟩) hS.2.2 dL_eligible_178
        · have n_3 : i < nv := pf_nle (a := nv) (b := i) (by omega) (by omega) c_3
          refine lv_aload_n hx hb dL_eligible_28 rfl (lv_at hl 4 rfl) ?_
          refine lv_iload hx hb dL_eligible_29 (lv_at hl 0 rfl) ?_
          refine gk_iald (i := i) hx hb hK hP 2 0 rfl rfl (by omega) (by decide) dL_eligible_31 ?_
          rw [(hvl i (by omega)).1]
          refine lv_aload_n hx hb dL_eligible_32 rfl (lv_at hl 4 rfl) ?_
          refine lv_iload hx hb dL_eligible_33 (lv_at hl 7 rfl) ?_
          refine gk_iald (i := k) hx hb hK hP 2 0 rfl rfl (by omega) (by decide) dL_eligible_35 ?_
          rw [(hvl k (by omega)).1]
          refine lv_icmp_lt (tgt := 57) hx hb dL_eligible_36 (by decide) (fun c_8 => ?_) (fun c_8 => ?_)
          · refine lv_iconst (v := 1) hx hb dL_eligible_57 (by decide) ?_
            refine lv_goto (tgt := 62) hx hb dL_eligible_58 (by decide) ?_
            refine lv_istore (lv' := [(9, .int 1), (8, .int (nI i)), (6, .long (pAh dya amo (fun v => gAcc (fsd (lnf v)) (las (lnf v)) (rfd v) (dya v)) lnf k i)), (0, .ref xn), (1, .ref xb), (2, .ref xd), (3, .ref xa), (4, .ref xl), (5, .int (nI k))]) hx hb dL_eligible_62 hl (by decide) rfl (fun ls hl => ?_)
            refine lv_lload hx hb dL_eligible_64 (lv_at hl 2 rfl) ?_
            refine lv_iload hx hb dL_eligible_66 (lv_at hl 0 rfl) ?_
            refine lv_if_eq (tgt := 104) hx hb dL_eligible_68 (by decide) (fun c => by first | exact absurd c (by decide) | exact absurd (by decide) c) (fun _ => ?_)
            refine lv_aload hx hb dL_eligible_71 (lv_at hl 7 rfl) ?_
            refine lv_iload hx hb dL_eligible_73 (lv_at hl 1 rfl) ?_
            refine gk_iald (i := i) hx hb hK hP 4 0 rfl rfl (by omega) (by decide) dL_eligible_75 ?_
            have hll_10 : lnf i < nl := (hvl i (by omega)).2.2.1
            rcases (hvl i (by omega)).2.2.2 with ⟨hr_10, hlf_10⟩ | ⟨hr_10, hlf_10⟩
            · rw [hlf_10]
              refine lv_aload hx hb dL_eligible_76 (lv_at hl 7 rfl) ?_
              refine lv_iload hx hb dL_eligible_78 (lv_at hl 8 rfl) ?_
              refine gk_iald (i := k) hx hb hK hP 4 0 rfl rfl (by omega) (by decide) dL_eligible_80 ?_
              rw [hlf_k]
              refine lv_icmp_ne (tgt := 104) hx hb dL_eligible_81 (by decide) (fun c_11 => ?_) (fun c_11 => ?_)
              · have n_11 : ¬ (lnf i) = (lnf k) := pf_neq (a := (lnf i)) (b := (lnf k)) (by omega) (by omega) c_11
                refine lv_lconst (v := 0) hx hb dL_eligible_104 (by decide) ?_
                refine lv_ladd hx hb dL_eligible_105 ?_
                refine lv_lstore (lv' := [(6, .long ((pAh dya amo (fun v => gAcc (fsd (lnf v)) (las (lnf v)) (rfd v) (dya v)) lnf k i) + 0)), (9, .int 1), (8, .int (nI i)), (0, .ref xn), (1, .ref xb), (2, .ref xd), (3, .ref xa), (4, .ref xl), (5, .int (nI k))]) hx hb dL_eligible_106 hl (by decide) rfl (fun ls hl => ?_)
                refine lv_iinc (v := nI (i + 1)) (lv' := [(8, .int (nI (i + 1))), (6, .long ((pAh dya amo (fun v => gAcc (fsd (lnf v)) (las (lnf v)) (rfd v) (dya v)) lnf k i) + 0)), (9, .int 1), (0, .ref xn), (1, .ref xb), (2, .ref xd), (3, .ref xa), (4, .ref xl), (5, .int (nI k))]) hx hb dL_eligible_108 hl (k := 2) rfl (by show nI i + 1 = nI (i + 1); exact nI_1 _) (by decide) rfl (fun ls hl => ?_)
                refine lv_goto (tgt := 20) hx hb dL_eligible_111 (by decide) ?_
                exact ih (i + 1) _ _ _ (by omega) (by omega) hP hD hS (by rw [show pAh dya amo (fun v => gAcc (fsd (lnf v)) (las (lnf v)) (rfd v) (dya v)) lnf k (i + 1) = ((pAh dya amo (fun v => gAcc (fsd (lnf v)) (las (lnf v)) (rfd v) (dya v)) lnf k i) + 0) from congrArg (fun z => pAh dya amo (fun v => gAcc (fsd (lnf v)) (las (lnf v)) (rfd v) (dya v)) lnf k i + z) (if_neg (fun h => n_11 h.2.1))]; exact lv_sub hl [0, 1, 3, 4, 5, 6, 7, 8] rfl)
              · have n_11 : (lnf i) = (lnf k) := pf_eq (a := (lnf i)) (b := (lnf k)) (by omega) (by omega) c_11
                refine lv_aload_n hx hb dL_eligible_84 rfl (lv_at hl 4 rfl) ?_
                refine lv_aload_n hx hb dL_eligible_85 rfl (lv_at hl 5 rfl) ?_
                refine lv_aload hx hb dL_eligible_86 (lv_at hl 7 rfl) ?_
                refine lv_iload hx hb dL_eligible_88 (lv_at hl 1 rfl) ?_
                have hF_12 := gk_all hD hS hA
                refine va_calli (va_runS (As := [.ref xb, .ref xd, .ref xl, .int (nI i)]) (rest := [.long (pAh dya amo (fun v => gAcc (fsd (lnf v)) (las (lnf v)) (rfd v) (dya v)) lnf k i)]) ⟨hx, hb, hml, hown, hts⟩ (kL_fits l D cyI cyZ cyL cyV cyJ xn xb xd xa xl nl nv gr sh rt ce bud fsd las isB mto maw dya amo rfd lnf nf bf df af lf Z hR i (by omega) H.size _ rfl) (va_cwS 4 hts gL_eligible_L_fits rfl rfl rfl (by decide +kernel) ⟨(Nat.le_of_ble_eq_true rfl), (Nat.le_of_ble_eq_true rfl)⟩) (gk_preS hP hK hD) rfl rfl hl.1 rfl (lv_room (Nat.le_of_ble_eq_true rfl)) dL_eligible_90 ⟨(Nat.le_of_ble_eq_true rfl), (Nat.le_of_ble_eq_true rfl)⟩) hS (fun q _ h => hF_12 q h) hF_12 (fun r_12 u_12 t_12 H locs ht_12 hvm_12 hw_12 hB_12 hz_12 hk_12 hS => ?_)
                obtain ⟨hP, hD⟩ := gk_back hF_12 hB_12 ht_12
                subst hw_12
                refine lv_if_eq (tgt := 104) hx hb dL_eligible_93 (by decide) (fun c_13 => ?_) (fun c_13 => ?_)
                · refine lv_lconst (v := 0) hx hb dL_eligible_104 (by decide) ?_
                  refine lv_ladd hx hb dL_eligible_105 ?_
                  refine lv_lstore (lv' := [(6, .long ((pAh dya amo (fun v => gAcc (fsd (lnf v)) (las (lnf v)) (rfd v) (dya v)) lnf k i) + 0)), (9, .int 1), (8, .int (nI i)), (0, .ref xn), (1, .ref xb), (2, .ref xd), (3, .ref xa), (4, .ref xl), (5, .int (nI k))]) hx hb dL_eligible_106 hl (by decide) rfl (fun ls hl => ?_)
                  refine lv_iinc (v := nI (i + 1)) (lv' := [(8, .int (nI (i + 1))), (6, .long ((pAh dya amo (fun v => gAcc (fsd (lnf v)) (las (lnf v)) (rfd v) (dya v)) lnf k i) + 0)), (9, .int 1), (0, .ref xn), (1, .ref xb), (2, .ref xd), (3, .ref xa), (4, .ref xl), (5, .int (nI k))]) hx hb dL_eligible_108 hl (k := 2) rfl (by show nI i + 1 = nI (i + 1); exact nI_1 _) (by decide) rfl (fun ls hl => ?_)
                  refine lv_goto (tgt := 20) hx hb dL_eligible_111 (by decide) ?_
                  exact ih (i + 1) _ _ _ (by omega) (by omega) hP hD hS (by rw [show pAh dya amo (fun v => gAcc (fsd (lnf v)) (las (lnf v)) (rfd v) (dya v)) lnf k (i + 1) = ((pAh dya amo (fun v => gAcc (fsd (lnf v)) (las (lnf v)) (rfd v) (dya v)) lnf k i) + 0) from congrArg (fun z => pAh dya amo (fun v => gAcc (fsd (lnf v)) (las (lnf v)) (rfd v) (dya v)) lnf k i + z) (if_neg (fun h => h.2.2 c_13))]; exact lv_sub hl [0, 1, 3, 4, 5, 6, 7, 8] rfl)
                · refine lv_aload_n hx hb dL_eligible_96 rfl (lv_at hl 6 rfl) ?_
                  refine lv_iload hx hb dL_eligible_97 (lv_at hl 1 rfl) ?_
                  refine gk_iald (i := i) hx hb hK hP 3 0 rfl rfl (by omega) (by decide) dL_eligible_99 ?_
                  rw [(hvl i (by omega)).2.1]
                  refine lv_i2l hx hb dL_eligible_100 rfl ?_
                  refine lv_goto (tgt := 105) hx hb dL_eligible_101 (by decide) ?_
                  refine lv_ladd hx hb dL_eligible_105 ?_
                  refine lv_lstore (lv' := [(6, .long ((pAh dya amo (fun v => gAcc (fsd (lnf v)) (las (lnf v)) (rfd v) (dya v)) lnf k i) + (amo i).toInt64)), (9, .int 1), (8, .int (nI i)), (0, .ref xn), (1, .ref xb), (2, .ref xd), (3, .ref xa), (4, .ref xl), (5, .int (nI k))]) hx hb dL_eligible_106 hl (by decide) rfl (fun ls hl => ?_)
                  refine lv_iinc (v := nI (i + 1)) (lv' := [(8, .int (nI (i + 1))), (6, .long ((pAh dya amo (fun v => gAcc (fsd (lnf v)) (las (lnf v)) (rfd v) (dya v)) lnf k i) + (amo i).toInt64)), (9, .int 1), (0, .ref xn), (1, .ref xb), (2, .ref xd), (3, .ref xa), (4, .ref xl), (5, .int (nI k))]) hx hb dL_eligible_108 hl (k := 2) rfl (by show nI i + 1 = nI (i + 1); exact nI_1 _) (by decide) rfl (fun ls hl => ?_)
                  refine lv_goto (tgt := 20) hx hb dL_eligible_111 (by decide) ?_
                  exact ih (i + 1) _ _ _ (by omega) (by omega) hP hD hS (by rw [show pAh dya amo (fun v => gAcc (fsd (lnf v)) (las (lnf v)) (rfd v) (dya v)) lnf k (i + 1) = ((pAh dya amo (fun v => gAcc (fsd (lnf v)) (las (lnf v)) (rfd v) (dya v)) lnf k i) + (amo i).toInt64) from congrArg (fun z => pAh dya amo (fun v => gAcc (fsd (lnf v)) (las (lnf v)) (rfd v) (dya v)) lnf k i + z) (if_pos ⟨(Or.inl c_8), n_11, c_13⟩)]; exact lv_sub hl [0, 1, 3, 4, 5, 6, 7, 8] rfl)
            · rw [hlf_10]
              refine lv_aload hx hb dL_eligible_76 (lv_at hl 7 rfl) ?_
              refine lv_iload hx hb dL_eligible_78 (lv_at hl 8 rfl) ?_
              refine gk_iald (i := k) hx hb hK hP 4 0 rfl rfl (by omega) (by decide) dL_eligible_80 ?_
              rw [hlf_k]
              refine lv_icmp_ne (tgt := 104) hx hb dL_eligible_81 (by decide) (fun _ => ?_) (fun c9 => absurd c9 (pn_eq (a := (lnf i + 100)) (b := (lnf k)) (by omega) (by omega) (by omega)))
              refine lv_lconst (v := 0) hx hb dL_eligible_104 (by decide) ?_
              refine lv_ladd hx hb dL_eligible_105 ?_
              refine lv_lstore (lv' := [(6, .long ((pAh dya amo (fun v => gAcc (fsd (lnf v)) (las (lnf v)) (rfd v) (dya v)) lnf k i) + 0)), (9, .int 1), (8, .int (nI i)), (0, .ref xn), (1, .ref xb), (2, .ref xd), (3, .ref xa), (4, .ref xl), (5, .int (nI k))]) hx hb dL_eligible_106 hl (by decide) rfl (fun ls hl => ?_)
              refine lv_iinc (v := nI (i + 1)) (lv' := [(8, .int (nI (i + 1))), (6, .long ((pAh dya amo (fun v => gAcc (fsd (lnf v)) (las (lnf v)) (rfd v) (dya v)) lnf k i) + 0)), (9, .int 1), (0, .ref xn), (1, .ref xb), (2, .ref xd), (3, .ref xa), (4, .ref xl), (5, .int (nI k))]) hx hb dL_eligible_108 hl (k := 2) rfl (by show nI i + 1 = nI (i + 1); exact nI_1 _) (by decide) rfl (fun ls hl => ?_)
              refine lv_goto (tgt := 20) hx hb dL_eligible_111 (by decide) ?_
              exact ih (i + 1) _ _ _ (by omega) (by omega) hP hD hS (by rw [show pAh dya amo (fun v => gAcc (fsd (lnf v)) (las (lnf v)) (rfd v) (dya v)) lnf k (i + 1) = ((pAh dya amo (fun v => gAcc (fsd (lnf v)) (las (lnf v)) (rfd v) (dya v)) lnf k i) + 0) from congrArg (fun z => pAh dya amo (fun v => gAcc (fsd (lnf v)) (las (lnf v)) (rfd v) (dya v)) lnf k i + z) (if_neg (fun h => h.2.2 (by show gAcc _ _ (rfd i) _ = 0; unfold gAcc; rw [hr_10]; rfl)))]; exact lv_sub hl [0, 1, 3, 4, 5, 6, 7, 8] rfl)
          · refine lv_aload_n hx hb dL_eligible_39 rfl (lv_at hl 4 rfl) ?_
            refine lv_iload hx hb dL_eligible_40 (lv_at hl 0 rfl) ?_
            refine gk_iald (i := i) hx hb hK hP 2 0 rfl rfl (by omega) (by decide) dL_eligible_42 ?_
            rw [(hvl i (by omega)).1]
            refine lv_aload_n hx hb dL_eligible_43 rfl (lv_at hl 4 rfl) ?_
            refine lv_iload hx hb dL_eligible_44 (lv_at hl 7 rfl) ?_
            refine gk_iald (i := k) hx hb hK hP 2 0 rfl rfl (by omega) (by decide) dL_eligible_46 ?_
            rw [(hvl k (by omega)).1]
            refine lv_icmp_ne (tgt := 61) hx hb dL_eligible_47 (by decide) (fun c_14 => ?_) (fun c_14 => ?_)
            · refine lv_iconst (v := 0) hx hb dL_eligible_61 (by decide) ?_
              refine lv_istore (lv' := [(9, .int 0), (8, .int (nI i)), (6, .long (pAh dya amo (fun v => gAcc (fsd (lnf v)) (las (lnf v)) (rfd v) (dya v)) lnf k i)), (0, .ref xn), (1, .ref xb), (2, .ref xd), (3, .ref xa), (4, .ref xl), (5, .int (nI k))]) hx hb dL_eligible_62 hl (by decide) rfl (fun ls hl => ?_)
              refine lv_lload hx hb dL_eligible_64 (lv_at hl 2 rfl) ?_
              refine lv_iload hx hb dL_eligible_66 (lv_at hl 0 rfl) ?_
              refine lv_if_eq (tgt := 104) hx hb dL_eligible_68 (by decide) (fun _ => ?_) (fun c => by first | exact absurd c (by decide) | exact absurd (by decide) c)
              refine lv_lconst (v := 0) hx hb dL_eligible_104 (by decide) ?_
              refine lv_ladd hx hb dL_eligible_105 ?_
              refine lv_lstore (lv' := [(6, .long ((pAh dya amo (fun v => gAcc (fsd (lnf v)) (las (lnf v)) (rfd v) (dya v)) lnf k i) + 0)), (9, .int 0), (8, .int (nI i)), (0, .ref xn), (1, .ref xb), (2, .ref xd), (3, .ref xa), (4, .ref xl), (5, .int (nI k))]) hx hb dL_eligible_106 hl (by decide) rfl (fun ls hl => ?_)
              refine lv_iinc (v := nI (i + 1)) (lv' := [(8, .int (nI (i + 1))), (6, .long ((pAh dya amo (fun v => gAcc (fsd (lnf v)) (las (lnf v)) (rfd v) (dya v)) lnf k i) + 0)), (9, .int 0), (0, .ref xn), (1, .ref xb), (2, .ref xd), (3, .ref xa), (4, .ref xl), (5, .int (nI k))]) hx hb dL_eligible_108 hl (k := 2) rfl (by show nI i + 1 = nI (i + 1); exact nI_1 _) (by decide) rfl (fun ls hl => ?_)
              refine lv_goto (tgt := 20) hx hb dL_eligible_111 (by decide) ?_
              exact ih (i + 1) _ _ _ (by omega) (by omega) hP hD hS (by rw [show pAh dya amo (fun v => gAcc (fsd (lnf v)) (las (lnf v)) (rfd v) (dya v)) lnf k (i + 1) = ((pAh dya amo (fun v => gAcc (fsd (lnf v)) (las (lnf v)) (rfd v) (dya v)) lnf k i) + 0) from congrArg (fun z => pAh dya amo (fun v => gAcc (fsd (lnf v)) (las (lnf v)) (rfd v) (dya v)) lnf k i + z) (if_neg (fun h => (fun h => h.elim c_8 (fun h => c_14 h.1)) h.1))]; exact lv_sub hl [0, 1, 3, 4, 5, 6, 7, 8] rfl)
            · refine lv_iload hx hb dL_eligible_50 (lv_at hl 0 rfl) ?_
              refine lv_iload hx hb dL_eligible_52 (lv_at hl 7 rfl) ?_
              refine lv_icmp_ge (tgt := 61) hx hb dL_eligible_54 (by decide) (fun c_16 => ?_) (fun c_16 => ?_)
              · have n_16 : k ≤ i := pf_le (a := k) (b := i) (by omega) (by omega) c_16
                refine lv_iconst (v := 0) hx hb dL_eligible_61 (by decide) ?_
                refine lv_istore (lv' := [(9, .int 0), (8, .int (nI i)), (6, .long (pAh dya amo (fun v => gAcc (fsd (lnf v)) (las (lnf v)) (rfd v) (dya v)) lnf k i)), (0, .ref xn), (1, .ref xb), (2, .ref xd), (3, .ref xa), (4, .ref xl), (5, .int (nI k))]) hx hb dL_eligible_62 hl (by decide) rfl (fun ls hl => ?_)
                refine lv_lload hx hb dL_eligible_64 (lv_at hl 2 rfl) ?_
                refine lv_iload hx hb dL_eligible_66 (lv_at hl 0 rfl) ?_
                refine lv_if_eq (tgt := 104) hx hb dL_eligible_68 (by decide) (fun _ => ?_) (fun c => by first | exact absurd c (by decide) | exact absurd (by decide) c)
                refine lv_lconst (v := 0) hx hb dL_eligible_104 (by decide) ?_
                refine lv_ladd hx hb dL_eligible_105 ?_
                refine lv_lstore (lv' := [(6, .long ((pAh dya amo (fun v => gAcc (fsd (lnf v)) (las (lnf v)) (rfd v) (dya v)) lnf k i) + 0)), (9, .int 0), (8, .int (nI i)), (0, .ref xn), (1, .ref xb), (2, .ref xd), (3, .ref xa), (4, .ref xl), (5, .int (nI k))]) hx hb dL_eligible_106 hl (by decide) rfl (fun ls hl => ?_)
                refine lv_iinc (v := nI (i + 1)) (lv' := [(8, .int (nI (i + 1))), (6, .long ((pAh dya amo (fun v => gAcc (fsd (lnf v)) (las (lnf v)) (rfd v) (dya v)) lnf k i) + 0)), (9, .int 0), (0, .ref xn), (1, .ref xb), (2, .ref xd), (3, .ref xa), (4, .ref xl), (5, .int (nI k))]) hx hb dL_eligible_108 hl (k := 2) rfl (by show nI i + 1 = nI (i + 1); exact nI_1 _) (by decide) rfl (fun ls hl => ?_)
                refine lv_goto (tgt := 20) hx hb dL_eligible_111 (by decide) ?_
                exact ih (i + 1) _ _ _ (by omega) (by omega) hP hD hS (by rw [show pAh dya amo (fun v => gAcc (fsd (lnf v)) (las (lnf v)) (rfd v) (dya v)) lnf k (i + 1) = ((pAh dya amo (fun v => gAcc (fsd (lnf v)) (las (lnf v)) (rfd v) (dya v)) lnf k i) + 0) from congrArg (fun z => pAh dya amo (fun v => gAcc (fsd (lnf v)) (las (lnf v)) (rfd v) (dya v)) lnf k i + z) (if_neg (fun h => (fun h => h.elim c_8 (fun h => absurd h.2 (by omega))) h.1))]; exact lv_sub hl [0, 1, 3, 4, 5, 6, 7, 8] rfl)
              · have n_16 : i < k := pf_nle (a := k) (b := i) (by omega) (by omega) c_16
                refine lv_iconst (v := 1) hx hb dL_eligible_57 (by decide) ?_
                refine lv_goto (tgt := 62) hx hb dL_eligible_58 (by decide) ?_
                refine lv_istore (lv' := [(9, .int 1), (8, .int (nI i)), (6, .long (pAh dya amo (fun v => gAcc (fsd (lnf v)) (las (lnf v)) (rfd v) (dya v)) lnf k i)), (0, .ref xn), (1, .ref xb), (2, .ref xd), (3, .ref xa), (4, .ref xl), (5, .int (nI k))]) hx hb dL_eligible_62 hl (by decide) rfl (fun ls hl => ?_)
                refine lv_lload hx hb dL_eligible_64 (lv_at hl 2 rfl) ?_
                refine lv_iload hx hb dL_eligible_66 (lv_at hl 0 rfl) ?_
                refine lv_if_eq (tgt := 104) hx hb dL_eligible_68 (by decide) (fun c => by first | exact absurd c (by decide) | exact absurd (by decide) c) (fun _ => ?_)
                refine lv_aload hx hb dL_eligible_71 (lv_at hl 7 rfl) ?_
                refine lv_iload hx hb dL_eligible_73 (lv_at hl 1 rfl) ?_
                refine gk_iald (i := i) hx hb hK hP 4 0 rfl rfl (by omega) (by decide) dL_eligible_75 ?_
                have hll_19 : lnf i < nl := (hvl i (by omega)).2.2.1
                rcases (hvl i (by omega)).2.2.2 with ⟨hr_19, hlf_19⟩ | ⟨hr_19, hlf_19⟩
                · rw [hlf_19]
                  refine lv_aload hx hb dL_eligible_76 (lv_at hl 7 rfl) ?_
                  refine lv_iload hx hb dL_eligible_78 (lv_at hl 8 rfl) ?_
                  refine gk_iald (i := k) hx hb hK hP 4 0 rfl rfl (by omega) (by decide) dL_eligible_80 ?_
                  rw [hlf_k]
                  refine lv_icmp_ne (tgt := 104) hx hb dL_eligible_81 (by decide) (fun c_20 => ?_) (fun c_20 => ?_)
                  · have n_20 : ¬ (lnf i) = (lnf k) := pf_neq (a := (lnf i)) (b := (lnf k)) (by omega) (by omega) c_20
                    refine lv_lconst (v := 0) hx hb dL_eligible_104 (by decide) ?_
                    refine lv_ladd hx hb dL_eligible_105 ?_
                    refine lv_lstore (lv' := [(6, .long ((pAh dya amo (fun v => gAcc (fsd (lnf v)) (las (lnf v)) (rfd v) (dya v)) lnf k i) + 0)), (9, .int 1), (8, .int (nI i)), (0, .ref xn), (1, .ref xb), (2, .ref xd), (3, .ref xa), (4, .ref xl), (5, .int (nI k))]) hx hb dL_eligible_106 hl (by decide) rfl (fun ls hl => ?_)
                    refine lv_iinc (v := nI (i + 1)) (lv' := [(8, .int (nI (i + 1))), (6, .long ((pAh dya amo (fun v => gAcc (fsd (lnf v)) (las (lnf v)) (rfd v) (dya v)) lnf k i) + 0)), (9, .int 1), (0, .ref xn), (1, .ref xb), (2, .ref xd), (3, .ref xa), (4, .ref xl), (5, .int (nI k))]) hx hb dL_eligible_108 hl (k := 2) rfl (by show nI i + 1 = nI (i + 1); exact nI_1 _) (by decide) rfl (fun ls hl => ?_)
                    refine lv_goto (tgt := 20) hx hb dL_eligible_111 (by decide) ?_
                    exact ih (i + 1) _ _ _ (by omega) (by omega) hP hD hS (by rw [show pAh dya amo (fun v => gAcc (fsd (lnf v)) (las (lnf v)) (rfd v) (dya v)) lnf k (i + 1) = ((pAh dya amo (fun v => gAcc (fsd (lnf v)) (las (lnf v)) (rfd v) (dya v)) lnf k i) + 0) from congrArg (fun z => pAh dya amo (fun v => gAcc (fsd (lnf v)) (las (lnf v)) (rfd v) (dya v)) lnf k i + z) (if_neg (fun h => n_20 h.2.1))]; exact lv_sub hl [0, 1, 3, 4, 5, 6, 7, 8] rfl)
                  · have n_20 : (lnf i) = (lnf k) := pf_eq (a := (lnf i)) (b := (lnf k)) (by omega) (by omega) c_20
                    refine lv_aload_n hx hb dL_eligible_84 rfl (lv_at hl 4 rfl) ?_
                    refine lv_aload_n hx hb dL_eligible_85 rfl (lv_at hl 5 rfl) ?_
                    refine lv_aload hx hb dL_eligible_86 (lv_at hl 7 rfl) ?_
                    refine lv_iload hx hb dL_eligible_88 (lv_at hl 1 rfl) ?_
                    have hF_21 := gk_all hD hS hA
                    refine va_calli (va_runS (As := [.ref xb, .ref xd, .ref xl, .int (nI i)]) (rest := [.long (pAh dya amo (fun v => gAcc (fsd (lnf v)) (las (lnf v)) (rfd v) (dya v)) lnf k i)]) ⟨hx, hb, hml, hown, hts⟩ (kL_fits l D cyI cyZ cyL cyV cyJ xn xb xd xa xl nl nv gr sh rt ce bud fsd las isB mto maw dya amo rfd lnf nf bf df af lf Z hR i (by omega) H.size _ rfl) (va_cwS 4 hts gL_eligible_L_fits rfl rfl rfl (by decide +kernel) ⟨(Nat.le_of_ble_eq_true rfl), (Nat.le_of_ble_eq_true rfl)⟩) (gk_preS hP hK hD) rfl rfl hl.1 rfl (lv_room (Nat.le_of_ble_eq_true rfl)) dL_eligible_90 ⟨(Nat.le_of_ble_eq_true rfl), (Nat.le_of_ble_eq_true rfl)⟩) hS (fun q _ h => hF_21 q h) hF_21 (fun r_21 u_21 t_21 H locs ht_21 hvm_21 hw_21 hB_21 hz_21 hk_21 hS => ?_)
                    obtain ⟨hP, hD⟩ := gk_back hF_21 hB_21 ht_21
                    subst hw_21
                    refine lv_if_eq (tgt := 104) hx hb dL_eligible_93 (by decide) (fun c_22 => ?_) (fun c_22 => ?_)
                    · refine lv_lconst (v := 0) hx hb dL_eligible_104 (by decide) ?_
                      refine lv_ladd hx hb dL_eligible_105 ?_
                      refine lv_lstore (lv' := [(6, .long ((pAh dya amo (fun v => gAcc (fsd (lnf v)) (las (lnf v)) (rfd v) (dya v)) lnf k i) + 0)), (9, .int 1), (8, .int (nI i)), (0, .ref xn), (1, .ref xb), (2, .ref xd), (3, .ref xa), (4, .ref xl), (5, .int (nI k))]) hx hb dL_eligible_106 hl (by decide) rfl (fun ls hl => ?_)
                      refine lv_iinc (v := nI (i + 1)) (lv' := [(8, .int (nI (i + 1))), (6, .long ((pAh dya amo (fun v => gAcc (fsd (lnf v)) (las (lnf v)) (rfd v) (dya v)) lnf k i) + 0)), (9, .int 1), (0, .ref xn), (1, .ref xb), (2, .ref xd), (3, .ref xa), (4, .ref xl), (5, .int (nI k))]) hx hb dL_eligible_108 hl (k := 2) rfl (by show nI i + 1 = nI (i + 1); exact nI_1 _) (by decide) rfl (fun ls hl => ?_)
                      refine lv_goto (tgt := 20) hx hb dL_eligible_111 (by decide) ?_
                      exact ih (i + 1) _ _ _ (by omega) (by omega) hP hD hS (by rw [show pAh dya amo (fun v => gAcc (fsd (lnf v)) (las (lnf v)) (rfd v) (dya v)) lnf k (i + 1) = ((pAh dya amo (fun v => gAcc (fsd (lnf v)) (las (lnf v)) (rfd v) (dya v)) lnf k i) + 0) from congrArg (fun z => pAh dya amo (fun v => gAcc (fsd (lnf v)) (las (lnf v)) (rfd v) (dya v)) lnf k i + z) (if_neg (fun h => h.2.2 c_22))]; exact lv_sub hl [0, 1, 3, 4, 5, 6, 7, 8] rfl)
                    · refine lv_aload_n hx hb dL_eligible_96 rfl (lv_at hl 6 rfl) ?_
                      refine lv_iload hx hb dL_eligible_97 (lv_at hl 1 rfl) ?_
                      refine gk_iald (i := i) hx hb hK hP 3 0 rfl rfl (by omega) (by decide) dL_eligible_99 ?_
                      rw [(hvl i (by omega)).2.1]
                      refine lv_i2l hx hb dL_eligible_100 rfl ?_
                      refine lv_goto (tgt := 105) hx hb dL_eligible_101 (by decide) ?_
                      refine lv_ladd hx hb dL_eligible_105 ?_
                      refine lv_lstore (lv' := [(6, .long ((pAh dya amo (fun v => gAcc (fsd (lnf v)) (las (lnf v)) (rfd v) (dya v)) lnf k i) + (amo i).toInt64)), (9, .int 1), (8, .int (nI i)), (0, .ref xn), (1, .ref xb), (2, .ref xd), (3, .ref xa), (4, .ref xl), (5, .int (nI k))]) hx hb dL_eligible_106 hl (by decide) rfl (fun ls hl => ?_)
                      refine lv_iinc (v := nI (i + 1)) (lv' := [(8, .int (nI (i + 1))), (6, .long ((pAh dya amo (fun v => gAcc (fsd (lnf v)) (las (lnf v)) (rfd v) (dya v)) lnf k i) + (amo i).toInt64)), (9, .int 1), (0, .ref xn), (1, .ref xb), (2, .ref xd), (3, .ref xa), (4, .ref xl), (5, .int (nI k))]) hx hb dL_eligible_108 hl (k := 2) rfl (by show nI i + 1 = nI (i + 1); exact nI_1 _) (by decide) rfl (fun ls hl => ?_)
                      refine lv_goto (tgt := 20) hx hb dL_eligible_111 (by decide) ?_
                      exact ih (i + 1) _ _ _ (by omega) (by omega) hP hD hS (by rw [show pAh dya amo (fun v => gAcc (fsd (lnf v)) (las (lnf v)) (rfd v) (dya v)) lnf k (i + 1) = ((pAh dya amo (fun v => gAcc (fsd (lnf v)) (las (lnf v)) (rfd v) (dya v)) lnf k i) + (amo i).toInt64) from congrArg (fun z => pAh dya amo (fun v => gAcc (fsd (lnf v)) (las (lnf v)) (rfd v) (dya v)) lnf k i + z) (if_pos ⟨(Or.inr ⟨c_14, by omega⟩), n_20, c_22⟩)]; exact lv_sub hl [0, 1, 3, 4, 5, 6, 7, 8] rfl)
                · rw [hlf_19]
                  refine lv_aload hx hb dL_eligible_76 (lv_at hl 7 rfl) ?_
                  refine lv_iload hx hb dL_eligible_78 (lv_at hl 8 rfl) ?_
                  refine gk_iald (i := k) hx hb hK hP 4 0 rfl rfl (by omega) (by decide) dL_eligible_80 ?_
                  rw [hlf_k]
                  refine lv_icmp_ne (tgt := 104) hx hb dL_eligible_81 (by decide) (fun _ => ?_) (fun c9 => absurd c9 (pn_eq (a := (lnf i + 100)) (b := (lnf k)) (by omega) (by omega) (by omega)))
                  refine lv_lconst (v := 0) hx hb dL_eligible_104 (by decide) ?_
                  refine lv_ladd hx hb dL_eligible_105 ?_
                  refine lv_lstore (lv' := [(6, .long ((pAh dya amo (fun v => gAcc (fsd (lnf v)) (las (lnf v)) (rfd v) (dya v)) lnf k i) + 0)), (9, .int 1), (8, .int (nI i)), (0, .ref xn), (1, .ref xb), (2, .ref xd), (3, .ref xa), (4, .ref xl), (5, .int (nI k))]) hx hb dL_eligible_106 hl (by decide) rfl (fun ls hl => ?_)
                  refine lv_iinc (v := nI (i + 1)) (lv' := [(8, .int (nI (i + 1))), (6, .long ((pAh dya amo (fun v => gAcc (fsd (lnf v)) (las (lnf v)) (rfd v) (dya v)) lnf k i) + 0)), (9, .int 1), (0, .ref xn), (1, .ref xb), (2, .ref xd), (3, .ref xa), (4, .ref xl), (5, .int (nI k))]) hx hb dL_eligible_108 hl (k := 2) rfl (by show nI i + 1 = nI (i + 1); exact nI_1 _) (by decide) rfl (fun ls hl => ?_)
                  refine lv_goto (tgt := 20) hx hb dL_eligible_111 (by decide) ?_
                  exact ih (i + 1) _ _ _ (by omega) (by omega) hP hD hS (by rw [show pAh dya amo (fun v => gAcc (fsd (lnf v)) (las (lnf v)) (rfd v) (dya v)) lnf k (i + 1) = ((pAh dya amo (fun v => gAcc (fsd (lnf v)) (las (lnf v)) (rfd v) (dya v)) lnf k i) + 0) from congrArg (fun z => pAh dya amo (fun v => gAcc (fsd (lnf v)) (las (lnf v)) (rfd v) (dya v)) lnf k i + z) (if_neg (fun h => h.2.2 (by show gAcc _ _ (rfd i) _ = 0; unfold gAcc; rw [hr_19]; rfl)))]; exact lv_sub hl [0, 1, 3, 4, 5, 6, 7, 8] rfl)
    exact loop (nv + 1) 0 _ _ _ (by omega) (by omega) hP hD hS (lv_sub hl [0, 1, 2, 3, 4, 5, 6, 7] rfl)
  · refine lv_iconst (v := 0) hx hb dL_eligible_12 (by decide) ?_
    refine W.widen (k := 0) (n := 0) (Nat.le_of_ble_eq_true rfl) (Nat.le_of_ble_eq_true rfl) ?_
    exact W.iret (v := 0) hx hb hr (fun t ht hW => ⟨⟨0, (), rfl, (by unfold pEl; rw [if_pos (c_2)]), by rw [ht]; exact hP, va_K.moved hW.alike hK, hD⟩, hS.F ht⟩) hS.2.2 dL_eligible_13
set_option maxHeartbeats 4000000 in
set_option maxRecDepth 100000 in
theorem kL_sum (l : Launch) (D : va_G) (cyI cyZ cyL cyV cyJ : ClassId) (xn xb xd xa xl : Nat) (nl nv : Nat) (gr sh rt ce : Int32) (bud fsd las isB mto maw dya amo rfd : Nat → Int32) (lnf : Nat → Nat) (nf bf df af lf : Nat → Int32) (Z : va_W) (hR : pRB nl nv gr sh rt ce bud fsd las isB mto maw dya amo rfd lnf nf bf df af lf) (el : Nat → Int32) (hel : ∀ k, k < nv → pEl (fun l => bud l + mto l - maw l) dya amo (fun v => gAcc (fsd (lnf v)) (las (lnf v)) (rfd v) (dya v)) lnf nv k = el k) (d0 z0 : Int32) (sz : Nat) (A : Nat → Prop) (hAe : va_A ((xn, .inl (cyI, 10, .inl nf)) :: (xb, .inl (cyI, 36, .inl bf)) :: (xd, .inl (cyI, 40, .inl df)) :: (xa, .inl (cyI, 40, .inl af)) :: (xl, .inl (cyI, 40, .inl lf)) :: Z) sz = A) : Met l yL_sum wsL_sum ({ frames := 2, cells := 0, slots := 0, locals := 56 }) (va_Pc [.ref xn, .ref xb, .ref xd, .ref xa, .ref xl, .int d0, .int z0] (gPre D (gTy cyI cyZ cyL cyV cyJ) ((xn, .inl (cyI, 10, .inl nf)) :: (xb, .inl (cyI, 36, .inl bf)) :: (xd, .inl (cyI, 40, .inl df)) :: (xa, .inl (cyI, 40, .inl af)) :: (xl, .inl (cyI, 40, .inl lf)) :: Z) sz)) (va_Qi (fun (r : Int32) (_ : Unit) => r = (gSm (gCx dya isB el lnf d0 z0) nv)) (fun (_ : Unit) t => gPost D (gTy cyI cyZ cyL cyV cyJ) A ((xn, .inl (cyI, 10, .inl nf)) :: (xb, .inl (cyI, 36, .inl bf)) :: (xd, .inl (cyI, 40, .inl df)) :: (xa, .inl (cyI, 40, .inl af)) :: (xl, .inl (cyI, 40, .inl lf)) :: Z) t) A) 0 0 A := by
  refine Met.ofW (cc := cL_sum) (maxL := 9) (ret := (some .int)) (by decide) rfl ?_
  intro p e s m args below meth c s₁ B hml hv
  obtain ⟨rfl, hsz, hP, hK, hD0⟩ := hv
  have hx := B.exec
  have hb := B.bytes
  have hr := B.returns
  have hts := atoms_spec (ws := wsL_sum) B.pre
  have hown : s.vm.findClass RL = some m.cls := findClass_of_methodNamed B.named
  have hlocks := B.notSynchronized
  subst hsz
  have hD := hD0.self (sz := s.heap.size)
  rw [hAe] at hD
  have hA : ∀ q : Nat, s.heap.size ≤ q → A q := fun q h => by rw [← hAe]; exact Or.inr h
  have hS : va_S A s.heap s.heap [] := va_S.rf
  have hP : va_P D vwCl ((xn, .inl (cyI, 10, .inl nf)) :: (xb, .inl (cyI, 36, .inl bf)) :: (xd, .inl (cyI, 40, .inl df)) :: (xa, .inl (cyI, 40, .inl af)) :: (xl, .inl (cyI, 40, .inl lf)) :: Z) s.heap := hP
  have hl := lv_entry ([.ref xn, .ref xb, .ref xd, .ref xa, .ref xl, .int d0, .int z0]) (n := 9) (Nat.le_of_ble_eq_true rfl)
  rw [lg_entry_eq]
  generalize (lg_sl ([.ref xn, .ref xb, .ref xd, .ref xa, .ref xl, .int d0, .int z0]) ++ List.replicate (9 - (lg_sl ([.ref xn, .ref xb, .ref xd, .ref xa, .ref xl, .int d0, .int z0])).length) Slot.unset).toArray = ls at hl ⊢
  have hl : lv_has ls 9 [(0, .ref xn), (1, .ref xb), (2, .ref xd), (3, .ref xa), (4, .ref xl), (5, .int d0), (6, .int z0)] := hl
  obtain ⟨⟨hnl, hnv⟩, ⟨hn0, hn1, hn2, hn3, hn5⟩, hbl, hvl⟩ := id hR
  have loop : ∀ (n i : Nat) (H : Heap) (locs : List Loc) (ls : Array Slot), i ≤ nv → nv + 1 ≤ i + n → va_P D vwCl ((xn, .inl (cyI, 10, .inl nf)) :: (xb, .inl (cyI, 36, .inl bf)) :: (xd, .inl (cyI, 40, .inl df)) :: (xa, .inl (cyI, 40, .inl af)) :: (xl, .inl (cyI, 40, .inl lf)) :: Z) H → va_D A ((xn, .inl (cyI, 10, .inl nf)) :: (xb, .inl (cyI, 36, .inl bf)) :: (xd, .inl (cyI, 40, .inl df)) :: (xa, .inl (cyI, 40, .inl af)) :: (xl, .inl (cyI, 40, .inl lf)) :: Z) → va_S A s.heap H locs → lv_has ls 9 [(8, .int (nI i)), (7, .int (gSm (gCx dya isB el lnf d0 z0) i)), (0, .ref xn), (1, .ref xb), (2, .ref xd), (3, .ref xa), (4, .ref xl), (5, .int d0), (6, .int z0)] → W p l e (headSpec wsL_sum ({ frames := 2, cells := 0, slots := 0, locals := 56 })).room s m ([.ref xn, .ref xb, .ref xd, .ref xa, .ref xl, .int d0, .int z0] : List Value).toArray below meth c H locs 0 0 (MQ below (va_Qi (fun (r : Int32) (_ : Unit) => r = (gSm (gCx dya isB el lnf d0 z0) nv)) (fun (_ : Unit) t => gPost D (gTy cyI cyZ cyL cyV cyJ) A ((xn, .inl (cyI, 10, .inl nf)) :: (xb, .inl (cyI, 36, .inl bf)) :: (xd, .inl (cyI, 40, .inl df)) :: (xa, .inl (cyI, 40, .inl af)) :: (xl, .inl (cyI, 40, .inl lf)) :: Z) t) A) ([.ref xn, .ref xb, .ref xd, .ref xa, .ref xl, .int d0, .int z0] : List Value).toArray s 0 0 A) (F0 m 6 ls []) := by
    intro n
    induction n with
    | zero => intro i H locs ls h1 h2; exact absurd h2 (by omega)
    | succ n ih =>
      intro i H locs ls h1 h2 hP hD hS hl
      refine lv_iload hx hb dL_sum_6 (lv_at hl 0 rfl) ?_
      refine lv_aload_n hx hb dL_sum_8 rfl (lv_at hl 2 rfl) ?_
      refine lv_iconst (v := 5) hx hb dL_sum_9 (by decide) ?_
      refine gk_iald (i := 5) hx hb hK hP 0 0 rfl rfl (by omega) (by decide) dL_sum_10 ?_
      rw [hn5]
      refine lv_icmp_ge (tgt := 73) hx hb dL_sum_11 (by decide) (fun c_1 => ?_) (fun c_1 => ?_)
      · have n_1 : nv ≤ i := pf_le (a := nv) (b := i) (by omega) (by omega) c_1
        refine lv_iload hx hb dL_sum_73 (lv_at hl 1 rfl) ?_
        obtain rfl : nv = i := by omega
        refine W.widen (k := 0) (n := 0) (Nat.le_of_ble_eq_true rfl) (Nat.le_of_ble_eq_true rfl) ?_
        exact W.iret (v := (gSm (gCx dya isB el lnf d0 z0) nv)) hx hb hr (fun t ht hW => ⟨⟨(gSm (gCx dya isB el lnf d0 z0) nv), (), rfl, rfl, by rw [ht]; exact hP, va_K.moved hW.alike hK, hD⟩, hS.F ht⟩) hS.2.2 dL_sum_75
      · have n_1 : i < nv := pf_nle (a := nv) (b := i) (by omega) (by omega) c_1
        refine lv_iload hx hb dL_sum_14 (lv_at hl 1 rfl) ?_
        refine lv_aload_n hx hb dL_sum_16 rfl (lv_at hl 4 rfl) ?_
        refine lv_iload hx hb dL_sum_17 (lv_at hl 0 rfl) ?_
        refine gk_iald (i := i) hx hb hK hP 2 0 rfl rfl (by omega) (by decide) dL_sum_19 ?_
        rw [(hvl i (by omega)).1]
        refine lv_iload hx hb dL_sum_20 (lv_at hl 7 rfl) ?_
        refine lv_icmp_gt (tgt := 63) hx hb dL_sum_22 (by decide) (fun c_2 => ?_) (fun c_2 => ?_)
        · refine lv_iconst (v := 0) hx hb dL_sum_63 (by decide) ?_
          refine lv_iadd hx hb dL_sum_64 ?_
          refine lv_istore (lv' := [(7, .int ((gSm (gCx dya isB el lnf d0 z0) i) + 0)), (8, .int (nI i)), (0, .ref xn), (1, .ref xb), (2, .ref xd), (3, .ref xa), (4, .ref xl), (5, .int d0), (6, .int z0)]) hx hb dL_sum_65 hl (by decide) rfl (fun ls hl => ?_)
          refine lv_iinc (v := nI (i + 1)) (lv' := [(8, .int (nI (i + 1))), (7, .int ((gSm (gCx dya isB el lnf d0 z0) i) + 0)), (0, .ref xn), (1, .ref xb), (2, .ref xd), (3, .ref xa), (4, .ref xl), (5, .int d0), (6, .int z0)]) hx hb dL_sum_67 hl (k := 1) rfl (by show nI i + 1 = nI (i + 1); exact nI_1 _) (by decide) rfl (fun ls hl => ?_)
          refine lv_goto (tgt := 6) hx hb dL_sum_70 (by decide) ?_
          exact ih (i + 1) _ _ _ (by omega) (by omega) hP hD hS (by rw [show gSm (gCx dya isB el lnf d0 z0) (i + 1) = ((gSm (gCx dya isB el lnf d0 z0) i) + 0) by show _ + gCx _ _ _ _ _ _ i = _; unfold gCx; rw [if_pos c_2]]; exact lv_sub hl [0, 1, 2, 3, 4, 5, 6, 7, 8] rfl)
        · refine lv_iload hx hb dL_sum_25 (lv_at hl 8 rfl) ?_
          refine lv_if_eq (tgt := 49) hx hb dL_sum_27 (by decide) (fun c_3 => ?_) (fun c_3 => ?_)
          · refine lv_aload_n hx hb dL_sum_49 rfl (lv_at hl 2 rfl) ?_
            refine lv_aload_n hx hb dL_sum_50 rfl (lv_at hl 3 rfl) ?_
            refine lv_aload_n hx hb dL_sum_51 rfl (lv_at hl 4 rfl) ?_
            refine lv_aload_n hx hb dL_sum_52 rfl (lv_at hl 5 rfl) ?_
            refine lv_aload hx hb dL_sum_53 (lv_at hl 6 rfl) ?_
            refine lv_iload hx hb dL_sum_55 (lv_at hl 0 rfl) ?_
            have hF_4 := gk_all hD hS hA
            refine va_calli (va_runS (As := [.ref xn, .ref xb, .ref xd, .ref xa, .ref xl, .int (nI i)]) (rest := [.int (gSm (gCx dya isB el lnf d0 z0) i)]) ⟨hx, hb, hml, hown, hts⟩ (kL_eligible l D cyI cyZ cyL cyV cyJ xn xb xd xa xl nl nv gr sh rt ce bud fsd las isB mto maw dya amo rfd lnf nf bf df af lf Z hR i (by omega) H.size _ rfl) (va_cwS 6 hts gL_sum_L_eligible rfl rfl rfl (by decide +kernel) ⟨(Nat.le_of_ble_eq_true rfl), (Nat.le_of_ble_eq_true rfl)⟩) (gk_preS hP hK hD) rfl rfl hl.1 rfl (lv_room (Nat.le_of_ble_eq_true rfl)) dL_sum_57 ⟨(Nat.le_of_ble_eq_true rfl), (Nat.le_of_ble_eq_true rfl)⟩) hS (fun q _ h => hF_4 q h) hF_4 (fun r_4 u_4 t_4 H locs ht_4 hvm_4 hw_4 hB_4 hz_4 hk_4 hS => ?_)
            obtain ⟨hP, hD⟩ := gk_back hF_4 hB_4 ht_4
            obtain rfl : r_4 = el i := hw_4.trans (hel i (by omega))
            refine lv_goto (tgt := 64) hx hb dL_sum_60 (by decide) ?_
            refine lv_iadd hx hb dL_sum_64 ?_
            refine lv_istore (lv' := [(7, .int ((gSm (gCx dya isB el lnf d0 z0) i) + (el i))), (8, .int (nI i)), (0, .ref xn), (1, .ref xb), (2, .ref xd), (3, .ref xa), (4, .ref xl), (5, .int d0), (6, .int z0)]) hx hb dL_sum_65 hl (by decide) rfl (fun ls hl => ?_)
            refine lv_iinc (v := nI (i + 1)) (lv' := [(8, .int (nI (i + 1))), (7, .int ((gSm (gCx dya isB el lnf d0 z0) i) + (el i))), (0, .ref xn), (1, .ref xb), (2, .ref xd), (3, .ref xa), (4, .ref xl), (5, .int d0), (6, .int z0)]) hx hb dL_sum_67 hl (k := 1) rfl (by show nI i + 1 = nI (i + 1); exact nI_1 _) (by decide) rfl (fun ls hl => ?_)
            refine lv_goto (tgt := 6) hx hb dL_sum_70 (by decide) ?_
            exact ih (i + 1) _ _ _ (by omega) (by omega) hP hD hS (by rw [show gSm (gCx dya isB el lnf d0 z0) (i + 1) = ((gSm (gCx dya isB el lnf d0 z0) i) + (el i)) by show _ + gCx _ _ _ _ _ _ i = _; unfold gCx; rw [if_neg c_2, if_pos c_3]]; exact lv_sub hl [0, 1, 2, 3, 4, 5, 6, 7, 8] rfl)
          · refine lv_aload_n hx hb dL_sum_30 rfl (lv_at hl 3 rfl) ?_
            refine lv_bipush (v := 6) hx hb dL_sum_31 (by decide) ?_
            refine lv_aload hx hb dL_sum_33 (lv_at hl 6 rfl) ?_
            refine lv_iload hx hb dL_sum_35 (lv_at hl 0 rfl) ?_
            refine gk_iald (i := i) hx hb hK hP 4 0 rfl rfl (by omega) (by decide) dL_sum_37 ?_
            have hll_5 : lnf i < nl := (hvl i (by omega)).2.2.1
            rcases (hvl i (by omega)).2.2.2 with ⟨hr_5, hlf_5⟩ | ⟨hr_5, hlf_5⟩
            · rw [hlf_5]
              refine lv_bipush (v := 100) hx hb dL_sum_38 (by decide) ?_
              refine lv_irem hx hb dL_sum_40 (by decide) ?_
              refine lv_topi (fun y_6 h_6 => ?_)
              obtain rfl : y_6 = (nI (lnf i)) := h_6.trans (pN_rem2 (a := (lnf i)) (b := 100) (by omega) (by omega) (by omega) (by omega))
              refine lv_imul hx hb dL_sum_41 ?_
              refine lv_topi (fun y_7 h_7 => ?_)
              obtain rfl : y_7 = (nI (6 * (lnf i))) := h_7.trans (pk_mul 6 (lnf i))
              refine lv_iconst (v := 3) hx hb dL_sum_42 (by decide) ?_
              refine lv_iadd hx hb dL_sum_43 ?_
              refine lv_topi (fun y_8 h_8 => ?_)
              obtain rfl : y_8 = (nI ((6 * (lnf i)) + 3)) := h_8.trans (nI_add (6 * (lnf i)) 3)
              refine gk_iald (i := ((6 * (lnf i)) + 3)) hx hb hK hP 1 0 rfl rfl (by omega) (by decide) dL_sum_44 ?_
              rw [(hbl (lnf i) (by omega)).2.2.2.1]
              refine lv_iconst (v := 1) hx hb dL_sum_45 (by decide) ?_
              refine lv_icmp_ne (tgt := 63) hx hb dL_sum_46 (by decide) (fun c_9 => ?_) (fun c_9 => ?_)
              · refine lv_iconst (v := 0) hx hb dL_sum_63 (by decide) ?_
                refine lv_iadd hx hb dL_sum_64 ?_
                refine lv_istore (lv' := [(7, .int ((gSm (gCx dya isB el lnf d0 z0) i) + 0)), (8, .int (nI i)), (0, .ref xn), (1, .ref xb), (2, .ref xd), (3, .ref xa), (4, .ref xl), (5, .int d0), (6, .int z0)]) hx hb dL_sum_65 hl (by decide) rfl (fun ls hl => ?_)
                refine lv_iinc (v := nI (i + 1)) (lv' := [(8, .int (nI (i + 1))), (7, .int ((gSm (gCx dya isB el lnf d0 z0) i) + 0)), (0, .ref xn), (1, .ref xb), (2, .ref xd), (3, .ref xa), (4, .ref xl), (5, .int d0), (6, .int z0)]) hx hb dL_sum_67 hl (k := 1) rfl (by show nI i + 1 = nI (i + 1); exact nI_1 _) (by decide) rfl (fun ls hl => ?_)
                refine lv_goto (tgt := 6) hx hb dL_sum_70 (by decide) ?_
                exact ih (i + 1) _ _ _ (by omega) (by omega) hP hD hS (by rw [show gSm (gCx dya isB el lnf d0 z0) (i + 1) = ((gSm (gCx dya isB el lnf d0 z0) i) + 0) by show _ + gCx _ _ _ _ _ _ i = _; unfold gCx; rw [if_neg c_2, if_neg c_3, if_pos (((hbl (lnf i) (by omega)).2.2.2.2.2.2).resolve_right c_9)]]; exact lv_sub hl [0, 1, 2, 3, 4, 5, 6, 7, 8] rfl)
              · refine lv_aload_n hx hb dL_sum_49 rfl (lv_at hl 2 rfl) ?_
                refine lv_aload_n hx hb dL_sum_50 rfl (lv_at hl 3 rfl) ?_
                refine lv_aload_n hx hb dL_sum_51 rfl (lv_at hl 4 rfl) ?_
                refine lv_aload_n hx hb dL_sum_52 rfl (lv_at hl 5 rfl) ?_
                refine lv_aload hx hb dL_sum_53 (lv_at hl 6 rfl) ?_
                refine lv_iload hx hb dL_sum_55 (lv_at hl 0 rfl) ?_
                have hF_10 := gk_all hD hS hA
                refine va_calli (va_runS (As := [.ref xn, .ref xb, .ref xd, .ref xa, .ref xl, .int (nI i)]) (rest := [.int (gSm (gCx dya isB el lnf d0 z0) i)]) ⟨hx, hb, hml, hown, hts⟩ (kL_eligible l D cyI cyZ cyL cyV cyJ xn xb xd xa xl nl nv gr sh rt ce bud fsd las isB mto maw dya amo rfd lnf nf bf df af lf Z hR i (by omega) H.size _ rfl) (va_cwS 6 hts gL_sum_L_eligible rfl rfl rfl (by decide +kernel) ⟨(Nat.le_of_ble_eq_true rfl), (Nat.le_of_ble_eq_true rfl)⟩) (gk_preS hP hK hD) rfl rfl hl.1 rfl (lv_room (Nat.le_of_ble_eq_true rfl)) dL_sum_57 ⟨(Nat.le_of_ble_eq_true rfl), (Nat.le_of_ble_eq_true rfl)⟩) hS (fun q _ h => hF_10 q h) hF_10 (fun r_10 u_10 t_10 H locs ht_10 hvm_10 hw_10 hB_10 hz_10 hk_10 hS => ?_)
                obtain ⟨hP, hD⟩ := gk_back hF_10 hB_10 ht_10
                obtain rfl : r_10 = el i := hw_10.trans (hel i (by omega))
                refine lv_goto (tgt := 64) hx hb dL_sum_60 (by decide) ?_
                refine lv_iadd hx hb dL_sum_64 ?_
                refine lv_istore (lv' := [(7, .int ((gSm (gCx dya isB el lnf d0 z0) i) + (el i))), (8, .int (nI i)), (0, .ref xn), (1, .ref xb), (2, .ref xd), (3, .ref xa), (4, .ref xl), (5, .int d0), (6, .int z0)]) hx hb dL_sum_65 hl (by decide) rfl (fun ls hl => ?_)
                refine lv_iinc (v := nI (i + 1)) (lv' := [(8, .int (nI (i + 1))), (7, .int ((gSm (gCx dya isB el lnf d0 z0) i) + (el i))), (0, .ref xn), (1, .ref xb), (2, .ref xd), (3, .ref xa), (4, .ref xl), (5, .int d0), (6, .int z0)]) hx hb dL_sum_67 hl (k := 1) rfl (by show nI i + 1 = nI (i + 1); exact nI_1 _) (by decide) rfl (fun ls hl => ?_)
                refine lv_goto (tgt := 6) hx hb dL_sum_70 (by decide) ?_
                exact ih (i + 1) _ _ _ (by omega) (by omega) hP hD hS (by rw [show gSm (gCx dya isB el lnf d0 z0) (i + 1) = ((gSm (gCx dya isB el lnf d0 z0) i) + (el i)) by show _ + gCx _ _ _ _ _ _ i = _; unfold gCx; rw [if_neg c_2, if_neg c_3, if_neg (by rw [c_9]; decide)]]; exact lv_sub hl [0, 1, 2, 3, 4, 5, 6, 7, 8] rfl)
            · rw [hlf_5]
              refine lv_bipush (v := 100) hx hb dL_sum_38 (by decide) ?_
              refine lv_irem hx hb dL_sum_40 (by decide) ?_
              refine lv_topi (fun y_11 h_11 => ?_)
              obtain rfl : y_11 = (nI (lnf i)) := h_11.trans (pN_rem2 (a := (lnf i + 100)) (b := 100) (by omega) (by omega) (by omega) (by omega))
              refine lv_imul hx hb dL_sum_41 ?_
              refine lv_topi (fun y_12 h_12 => ?_)
              obtain rfl : y_12 = (nI (6 * (lnf i))) := h_12.trans (pk_mul 6 (lnf i))
              refine lv_iconst (v := 3) hx hb dL_sum_42 (by decide) ?_
              refine lv_iadd hx hb dL_sum_43 ?_
              refine lv_topi (fun y_13 h_13 => ?_)
              obtain rfl : y_13 = (nI ((6 * (lnf i)) + 3)) := h_13.trans (nI_add (6 * (lnf i)) 3)
              refine gk_iald (i := ((6 * (lnf i)) + 3)) hx hb hK hP 1 0 rfl rfl (by omega) (by decide) dL_sum_44 ?_
              rw [(hbl (lnf i) (by omega)).2.2.2.1]
              refine lv_iconst (v := 1) hx hb dL_sum_45 (by decide) ?_
              refine lv_icmp_ne (tgt := 63) hx hb dL_sum_46 (by decide) (fun c_14 => ?_) (fun c_14 => ?_)
              · refine lv_iconst (v := 0) hx hb dL_sum_63 (by decide) ?_
                refine lv_iadd hx hb dL_sum_64 ?_
                refine lv_istore (lv' := [(7, .int ((gSm (gCx dya isB el lnf d0 z0) i) + 0)), (8, .int (nI i)), (0, .ref xn), (1, .ref xb), (2, .ref xd), (3, .ref xa), (4, .ref xl), (5, .int d0), (6, .int z0)]) hx hb dL_sum_65 hl (by decide) rfl (fun ls hl => ?_)
                refine lv_iinc (v := nI (i + 1)) (lv' := [(8, .int (nI (i + 1))), (7, .int ((gSm (gCx dya isB el lnf d0 z0) i) + 0)), (0, .ref xn), (1, .ref xb), (2, .ref xd), (3, .ref xa), (4, .ref xl), (5, .int d0), (6, .int z0)]) hx hb dL_sum_67 hl (k := 1) rfl (by show nI i + 1 = nI (i + 1); exact nI_1 _) (by decide) rfl (fun ls hl => ?_)
                refine lv_goto (tgt := 6) hx hb dL_sum_70 (by decide) ?_
                exact ih (i + 1) _ _ _ (by omega) (by omega) hP hD hS (by rw [show gSm (gCx dya isB el lnf d0 z0) (i + 1) = ((gSm (gCx dya isB el lnf d0 z0) i) + 0) by show _ + gCx _ _ _ _ _ _ i = _; unfold gCx; rw [if_neg c_2, if_neg c_3, if_pos (((hbl (lnf i) (by omega)).2.2.2.2.2.2).resolve_right c_14)]]; exact lv_sub hl [0, 1, 2, 3, 4, 5, 6, 7, 8] rfl)
              · refine lv_aload_n hx hb dL_sum_49 rfl (lv_at hl 2 rfl) ?_
                refine lv_aload_n hx hb dL_sum_50 rfl (lv_at hl 3 rfl) ?_
                refine lv_aload_n hx hb dL_sum_51 rfl (lv_at hl 4 rfl) ?_
                refine lv_aload_n hx hb dL_sum_52 rfl (lv_at hl 5 rfl) ?_
                refine lv_aload hx hb dL_sum_53 (lv_at hl 6 rfl) ?_
                refine lv_iload hx hb dL_sum_55 (lv_at hl 0 rfl) ?_
                have hF_15 := gk_all hD hS hA
                refine va_calli (va_runS (As := [.ref xn, .ref xb, .ref xd, .ref xa, .ref xl, .int (nI i)]) (rest := [.int (gSm (gCx dya isB el lnf d0 z0) i)]) ⟨hx, hb, hml, hown, hts⟩ (kL_eligible l D cyI cyZ cyL cyV cyJ xn xb xd xa xl nl nv gr sh rt ce bud fsd las isB mto maw dya amo rfd lnf nf bf df af lf Z hR i (by omega) H.size _ rfl) (va_cwS 6 hts gL_sum_L_eligible rfl rfl rfl (by decide +kernel) ⟨(Nat.le_of_ble_eq_true rfl), (Nat.le_of_ble_eq_true rfl)⟩) (gk_preS hP hK hD) rfl rfl hl.1 rfl (lv_room (Nat.le_of_ble_eq_true rfl)) dL_sum_57 ⟨(Nat.le_of_ble_eq_true rfl), (Nat.le_of_ble_eq_true rfl)⟩) hS (fun q _ h => hF_15 q h) hF_15 (fun r_15 u_15 t_15 H locs ht_15 hvm_15 hw_15 hB_15 hz_15 hk_15 hS => ?_)
                obtain ⟨hP, hD⟩ := gk_back hF_15 hB_15 ht_15
                obtain rfl : r_15 = el i := hw_15.trans (hel i (by omega))
                refine lv_goto (tgt := 64) hx hb dL_sum_60 (by decide) ?_
                refine lv_iadd hx hb dL_sum_64 ?_
                refine lv_istore (lv' := [(7, .int ((gSm (gCx dya isB el lnf d0 z0) i) + (el i))), (8, .int (nI i)), (0, .ref xn), (1, .ref xb), (2, .ref xd), (3, .ref xa), (4, .ref xl), (5, .int d0), (6, .int z0)]) hx hb dL_sum_65 hl (by decide) rfl (fun ls hl => ?_)
                refine lv_iinc (v := nI (i + 1)) (lv' := [(8, .int (nI (i + 1))), (7, .int ((gSm (gCx dya isB el lnf d0 z0) i) + (el i))), (0, .ref xn), (1, .ref xb), (2, .ref xd), (3, .ref xa), (4, .ref xl), (5, .int d0), (6, .int z0)]) hx hb dL_sum_67 hl (k := 1) rfl (by show nI i + 1 = nI (i + 1); exact nI_1 _) (by decide) rfl (fun ls hl => ?_)
                refine lv_goto (tgt := 6) hx hb dL_sum_70 (by decide) ?_
                exact ih (i + 1) _ _ _ (by omega) (by omega) hP hD hS (by rw [show gSm (gCx dya isB el lnf d0 z0) (i + 1) = ((gSm (gCx dya isB el lnf d0 z0) i) + (el i)) by show _ + gCx _ _ _ _ _ _ i = _; unfold gCx; rw [if_neg c_2, if_neg c_3, if_neg (by rw [c_14]; decide)]]; exact lv_sub hl [0, 1, 2, 3, 4, 5, 6, 7, 8] rfl)
  refine lv_iconst (v := 0) hx hb dL_sum_0 (by decide) ?_
  refine lv_istore (lv' := [(7, .int 0), (0, .ref xn), (1, .ref xb), (2, .ref xd), (3, .ref xa), (4, .ref xl), (5, .int d0), (6, .int z0)]) hx hb dL_sum_1 hl (by decide) rfl (fun ls hl => ?_)
  refine lv_iconst (v := 0) hx hb dL_sum_3 (by decide) ?_
  refine lv_istore (lv' := [(8, .int 0), (7, .int 0), (0, .ref xn), (1, .ref xb), (2, .ref xd), (3, .ref xa), (4, .ref xl), (5, .int d0), (6, .int z0)]) hx hb dL_sum_4 hl (by decide) rfl (fun ls hl => ?_)
  exact loop (nv + 1) 0 _ _ _ (by omega) (by omega) hP hD hS (lv_sub hl [0, 1, 2, 3, 4, 5, 6, 7, 8] rfl)
set_option maxHeartbeats 4000000 in
set_option maxRecDepth 100000 in
theorem kL_overhead (l : Launch) (D : va_G) (cyI cyZ cyL cyV cyJ : ClassId) (xn xb xd xa xl : Nat) (nl nv : Nat) (gr sh rt ce : Int32) (bud fsd las isB mto maw dya amo rfd : Nat → Int32) (lnf : Nat → Nat) (nf bf df af lf : Nat → Int32) (Z : va_W) (hR : pRB nl nv gr sh rt ce bud fsd las isB mto maw dya amo rfd lnf nf bf df af lf) (el : Nat → Int32) (hel : ∀ k, k < nv → pEl (fun l => bud l + mto l - maw l) dya amo (fun v => gAcc (fsd (lnf v)) (las (lnf v)) (rfd v) (dya v)) lnf nv k = el k) (d0 : Int32) (sz : Nat) (A : Nat → Prop) (hAe : va_A ((xn, .inl (cyI, 10, .inl nf)) :: (xb, .inl (cyI, 36, .inl bf)) :: (xd, .inl (cyI, 40, .inl df)) :: (xa, .inl (cyI, 40, .inl af)) :: (xl, .inl (cyI, 40, .inl lf)) :: Z) sz = A) : Met l yL_overhead wsL_overhead ({ frames := 3, cells := 0, slots := 0, locals := 84 }) (va_Pc [.ref xn, .ref xb, .ref xd, .ref xa, .ref xl, .int d0] (gPre D (gTy cyI cyZ cyL cyV cyJ) ((xn, .inl (cyI, 10, .inl nf)) :: (xb, .inl (cyI, 36, .inl bf)) :: (xd, .inl (cyI, 40, .inl df)) :: (xa, .inl (cyI, 40, .inl af)) :: (xl, .inl (cyI, 40, .inl lf)) :: Z) sz)) (va_Qi (fun (r : Int32) (_ : Unit) => r = (gOw rt ce (gSm (gCx dya isB el lnf d0 1) nv))) (fun (_ : Unit) t => gPost D (gTy cyI cyZ cyL cyV cyJ) A ((xn, .inl (cyI, 10, .inl nf)) :: (xb, .inl (cyI, 36, .inl bf)) :: (xd, .inl (cyI, 40, .inl df)) :: (xa, .inl (cyI, 40, .inl af)) :: (xl, .inl (cyI, 40, .inl lf)) :: Z) t) A) 0 0 A := by
  refine Met.ofW (cc := cL_overhead) (maxL := 8) (ret := (some .int)) (by decide) rfl ?_
  intro p e s m args below meth c s₁ B hml hv
  obtain ⟨rfl, hsz, hP, hK, hD0⟩ := hv
  have hx := B.exec
  have hb := B.bytes
  have hr := B.returns
  have hts := atoms_spec (ws := wsL_overhead) B.pre
  have hown : s.vm.findClass RL = some m.cls := findClass_of_methodNamed B.named
  have hlocks := B.notSynchronized
  subst hsz
  have hD := hD0.self (sz := s.heap.size)
  rw [hAe] at hD
  have hA : ∀ q : Nat, s.heap.size ≤ q → A q := fun q h => by rw [← hAe]; exact Or.inr h
  have hS : va_S A s.heap s.heap [] := va_S.rf
  have hP : va_P D vwCl ((xn, .inl (cyI, 10, .inl nf)) :: (xb, .inl (cyI, 36, .inl bf)) :: (xd, .inl (cyI, 40, .inl df)) :: (xa, .inl (cyI, 40, .inl af)) :: (xl, .inl (cyI, 40, .inl lf)) :: Z) s.heap := hP
  have hl := lv_entry ([.ref xn, .ref xb, .ref xd, .ref xa, .ref xl, .int d0]) (n := 8) (Nat.le_of_ble_eq_true rfl)
  rw [lg_entry_eq]
  generalize (lg_sl ([.ref xn, .ref xb, .ref xd, .ref xa, .ref xl, .int d0]) ++ List.replicate (8 - (lg_sl ([.ref xn, .ref xb, .ref xd, .ref xa, .ref xl, .int d0])).length) Slot.unset).toArray = ls at hl ⊢
  have hl : lv_has ls 8 [(0, .ref xn), (1, .ref xb), (2, .ref xd), (3, .ref xa), (4, .ref xl), (5, .int d0)] := hl
  obtain ⟨⟨hnl, hnv⟩, ⟨hn0, hn1, hn2, hn3, hn5⟩, hbl, hvl⟩ := id hR
  refine lv_aload_n hx hb dL_overhead_0 rfl (lv_at hl 0 rfl) ?_
  refine lv_aload_n hx hb dL_overhead_1 rfl (lv_at hl 1 rfl) ?_
  refine lv_aload_n hx hb dL_overhead_2 rfl (lv_at hl 2 rfl) ?_
  refine lv_aload_n hx hb dL_overhead_3 rfl (lv_at hl 3 rfl) ?_
  refine lv_aload hx hb dL_overhead_4 (lv_at hl 4 rfl) ?_
  refine lv_iload hx hb dL_overhead_6 (lv_at hl 5 rfl) ?_
  refine lv_iconst (v := 1) hx hb dL_overhead_8 (by decide) ?_
  have hF_1 := gk_all hD hS hA
  refine va_calli (va_runS (As := [.ref xn, .ref xb, .ref xd, .ref xa, .ref xl, .int d0, .int 1]) (rest := []) ⟨hx, hb, hml, hown, hts⟩ (kL_sum l D cyI cyZ cyL cyV cyJ xn xb xd xa xl nl nv gr sh rt ce bud fsd las isB mto maw dya amo rfd lnf nf bf df af lf Z hR el hel d0 1 s.heap.size _ rfl) (va_cwS 7 hts gL_overhead_L_sum rfl rfl rfl (by decide +kernel) ⟨(Nat.le_of_ble_eq_true rfl), (Nat.le_of_ble_eq_true rfl)⟩) (gk_preS hP hK hD) rfl rfl hl.1 rfl (lv_room (Nat.le_of_ble_eq_true rfl)) dL_overhead_9 ⟨(Nat.le_of_ble_eq_true rfl), (Nat.le_of_ble_eq_true rfl)⟩) hS (fun q _ h => hF_1 q h) hF_1 (fun r_1 u_1 t_1 H locs ht_1 hvm_1 hw_1 hB_1 hz_1 hk_1 hS => ?_)
  obtain ⟨hP, hD⟩ := gk_back hF_1 hB_1 ht_1
  subst hw_1
  refine lv_i2l hx hb dL_overhead_12 rfl ?_
  refine lv_aload_n hx hb dL_overhead_13 rfl (lv_at hl 0 rfl) ?_
  refine lv_iconst (v := 2) hx hb dL_overhead_14 (by decide) ?_
  refine gk_iald (i := 2) hx hb hK hP 0 0 rfl rfl (by omega) (by decide) dL_overhead_15 ?_
  rw [hn2]
  refine lv_i2l hx hb dL_overhead_16 rfl ?_
  refine lv_lmul hx hb dL_overhead_17 ?_
  refine lv_ldc2 hx hb hown (hts (.constantLong RL 25 (100)) (List.mem_of_getElem? (i := 1) rfl)) dL_overhead_18 ?_
  refine lv_ldiv hx hb dL_overhead_21 (by decide) ?_
  refine lv_lstore (lv' := [(6, .long (((gSm (gCx dya isB el lnf d0 1) nv).toInt64 * rt.toInt64) / 100)), (0, .ref xn), (1, .ref xb), (2, .ref xd), (3, .ref xa), (4, .ref xl), (5, .int d0)]) hx hb dL_overhead_22 hl (by decide) rfl (fun ls hl => ?_)
  refine lv_lload hx hb dL_overhead_24 (lv_at hl 0 rfl) ?_
  refine lv_aload_n hx hb dL_overhead_26 rfl (lv_at hl 1 rfl) ?_
  refine lv_iconst (v := 3) hx hb dL_overhead_27 (by decide) ?_
  refine gk_iald (i := 3) hx hb hK hP 0 0 rfl rfl (by omega) (by decide) dL_overhead_28 ?_
  rw [hn3]
  refine lv_i2l hx hb dL_overhead_29 rfl ?_
  refine W.lcmp hx hb dL_overhead_30 ?_
  refine lv_if_ge (tgt := 40) hx hb dL_overhead_31 (by decide) (fun c_2 => ?_) (fun c_2 => ?_)
  · refine lv_aload_n hx hb dL_overhead_40 rfl (lv_at hl 1 rfl) ?_
    refine lv_iconst (v := 3) hx hb dL_overhead_41 (by decide) ?_
    refine gk_iald (i := 3) hx hb hK hP 0 0 rfl rfl (by omega) (by decide) dL_overhead_42 ?_
    rw [hn3]
    refine W.widen (k := 0) (n := 0) (Nat.le_of_ble_eq_true rfl) (Nat.le_of_ble_eq_true rfl) ?_
    exact W.iret (v := ce) hx hb hr (fun t ht hW => ⟨⟨ce, (), rfl, (by rw [← pOw, if_neg (pL_nlt c_2)]), by rw [ht]; exact hP, va_K.moved hW.alike hK, hD⟩, hS.F ht⟩) hS.2.2 dL_overhead_43
  · refine lv_lload hx hb dL_overhead_34 (lv_at hl 0 rfl) ?_
    refine lv_l2i hx hb dL_overhead_36 rfl ?_
    refine lv_goto (tgt := 43) hx hb dL_overhead_37 (by decide) ?_
    refine W.widen (k := 0) (n := 0) (Nat.le_of_ble_eq_true rfl) (Nat.le_of_ble_eq_true rfl) ?_
    exact W.iret (v := (((gSm (gCx dya isB el lnf d0 1) nv).toInt64 * rt.toInt64) / 100).toInt32) hx hb hr (fun t ht hW => ⟨⟨(((gSm (gCx dya isB el lnf d0 1) nv).toInt64 * rt.toInt64) / 100).toInt32, (), rfl, (by rw [← pOw, if_pos (pL_lt c_2)]), by rw [ht]; exact hP, va_K.moved hW.alike hK, hD⟩, hS.F ht⟩) hS.2.2 dL_overhead_43
set_option maxHeartbeats 4000000 in
set_option maxRecDepth 100000 in
theorem kL_earned (l : Launch) (D : va_G) (cyI cyZ cyL cyV cyJ : ClassId) (xn xb xd xa xl : Nat) (nl nv : Nat) (gr sh rt ce : Int32) (bud fsd las isB mto maw dya amo rfd : Nat → Int32) (lnf : Nat → Nat) (nf bf df af lf : Nat → Int32) (Z : va_W) (hR : pRB nl nv gr sh rt ce bud fsd las isB mto maw dya amo rfd lnf nf bf df af lf) (el : Nat → Int32) (hel : ∀ k, k < nv → pEl (fun l => bud l + mto l - maw l) dya amo (fun v => gAcc (fsd (lnf v)) (las (lnf v)) (rfd v) (dya v)) lnf nv k = el k) (d0 : Int32) (m0 : Int64) (sz : Nat) (A : Nat → Prop) (hAe : va_A ((xn, .inl (cyI, 10, .inl nf)) :: (xb, .inl (cyI, 36, .inl bf)) :: (xd, .inl (cyI, 40, .inl df)) :: (xa, .inl (cyI, 40, .inl af)) :: (xl, .inl (cyI, 40, .inl lf)) :: Z) sz = A) : Met l yL_earned wsL_earned ({ frames := 4, cells := 0, slots := 0, locals := 111 }) (va_Pc [.ref xn, .ref xb, .ref xd, .ref xa, .ref xl, .int d0, .long m0] (gPre D (gTy cyI cyZ cyL cyV cyJ) ((xn, .inl (cyI, 10, .inl nf)) :: (xb, .inl (cyI, 36, .inl bf)) :: (xd, .inl (cyI, 40, .inl df)) :: (xa, .inl (cyI, 40, .inl af)) :: (xl, .inl (cyI, 40, .inl lf)) :: Z) sz)) (va_Qi (fun (r : Int32) (_ : Unit) => r = (pEa sh gr (gSm (gCx dya isB el lnf d0 0) nv) (gOw rt ce (gSm (gCx dya isB el lnf d0 1) nv)) m0)) (fun (_ : Unit) t => gPost D (gTy cyI cyZ cyL cyV cyJ) A ((xn, .inl (cyI, 10, .inl nf)) :: (xb, .inl (cyI, 36, .inl bf)) :: (xd, .inl (cyI, 40, .inl df)) :: (xa, .inl (cyI, 40, .inl af)) :: (xl, .inl (cyI, 40, .inl lf)) :: Z) t) A) 0 0 A := by
  refine Met.ofW (cc := cL_earned) (maxL := 12) (ret := (some .int)) (by decide) rfl ?_
  intro p e s m args below meth c s₁ B hml hv
  obtain ⟨rfl, hsz, hP, hK, hD0⟩ := hv
  have hx := B.exec
  have hb := B.bytes
  have hr := B.returns
  have hts := atoms_spec (ws := wsL_earned) B.pre
  have hown : s.vm.findClass RL = some m.cls := findClass_of_methodNamed B.named
  have hlocks := B.notSynchronized
  subst hsz
  have hD := hD0.self (sz := s.heap.size)
  rw [hAe] at hD
  have hA : ∀ q : Nat, s.heap.size ≤ q → A q := fun q h => by rw [← hAe]; exact Or.inr h
  have hS : va_S A s.heap s.heap [] := va_S.rf
  have hP : va_P D vwCl ((xn, .inl (cyI, 10, .inl nf)) :: (xb, .inl (cyI, 36, .inl bf)) :: (xd, .inl (cyI, 40, .inl df)) :: (xa, .inl (cyI, 40, .inl af)) :: (xl, .inl (cyI, 40, .inl lf)) :: Z) s.heap := hP
  have hl := lv_entry ([.ref xn, .ref xb, .ref xd, .ref xa, .ref xl, .int d0, .long m0]) (n := 12) (Nat.le_of_ble_eq_true rfl)
  rw [lg_entry_eq]
  generalize (lg_sl ([.ref xn, .ref xb, .ref xd, .ref xa, .ref xl, .int d0, .long m0]) ++ List.replicate (12 - (lg_sl ([.ref xn, .ref xb, .ref xd, .ref xa, .ref xl, .int d0, .long m0])).length) Slot.unset).toArray = ls at hl ⊢
  have hl : lv_has ls 12 [(0, .ref xn), (1, .ref xb), (2, .ref xd), (3, .ref xa), (4, .ref xl), (5, .int d0), (6, .long m0)] := hl
  obtain ⟨⟨hnl, hnv⟩, ⟨hn0, hn1, hn2, hn3, hn5⟩, hbl, hvl⟩ := id hR
  refine lv_aload_n hx hb dL_earned_0 rfl (lv_at hl 0 rfl) ?_
  refine lv_aload_n hx hb dL_earned_1 rfl (lv_at hl 1 rfl) ?_
  refine lv_aload_n hx hb dL_earned_2 rfl (lv_at hl 2 rfl) ?_
  refine lv_aload_n hx hb dL_earned_3 rfl (lv_at hl 3 rfl) ?_
  refine lv_aload hx hb dL_earned_4 (lv_at hl 4 rfl) ?_
  refine lv_iload hx hb dL_earned_6 (lv_at hl 5 rfl) ?_
  refine lv_iconst (v := 0) hx hb dL_earned_8 (by decide) ?_
  have hF_1 := gk_all hD hS hA
  refine va_calli (va_runS (As := [.ref xn, .ref xb, .ref xd, .ref xa, .ref xl, .int d0, .int 0]) (rest := []) ⟨hx, hb, hml, hown, hts⟩ (kL_sum l D cyI cyZ cyL cyV cyJ xn xb xd xa xl nl nv gr sh rt ce bud fsd las isB mto maw dya amo rfd lnf nf bf df af lf Z hR el hel d0 0 s.heap.size _ rfl) (va_cwS 7 hts gL_earned_L_sum rfl rfl rfl (by decide +kernel) ⟨(Nat.le_of_ble_eq_true rfl), (Nat.le_of_ble_eq_true rfl)⟩) (gk_preS hP hK hD) rfl rfl hl.1 rfl (lv_room (Nat.le_of_ble_eq_true rfl)) dL_earned_9 ⟨(Nat.le_of_ble_eq_true rfl), (Nat.le_of_ble_eq_true rfl)⟩) hS (fun q _ h => hF_1 q h) hF_1 (fun r_1 u_1 t_1 H locs ht_1 hvm_1 hw_1 hB_1 hz_1 hk_1 hS => ?_)
  obtain ⟨hP, hD⟩ := gk_back hF_1 hB_1 ht_1
  subst hw_1
  refine lv_i2l hx hb dL_earned_12 rfl ?_
  refine lv_aload_n hx hb dL_earned_13 rfl (lv_at hl 0 rfl) ?_
  refine lv_aload_n hx hb dL_earned_14 rfl (lv_at hl 1 rfl) ?_
  refine lv_aload_n hx hb dL_earned_15 rfl (lv_at hl 2 rfl) ?_
  refine lv_aload_n hx hb dL_earned_16 rfl (lv_at hl 3 rfl) ?_
  refine lv_aload hx hb dL_earned_17 (lv_at hl 4 rfl) ?_
  refine lv_iload hx hb dL_earned_19 (lv_at hl 5 rfl) ?_
  have hF_2 := gk_all hD hS hA
  refine va_calli (va_runS (As := [.ref xn, .ref xb, .ref xd, .ref xa, .ref xl, .int d0]) (rest := [.long ((gSm (gCx dya isB el lnf d0 0) nv).toInt64)]) ⟨hx, hb, hml, hown, hts⟩ (kL_overhead l D cyI cyZ cyL cyV cyJ xn xb xd xa xl nl nv gr sh rt ce bud fsd las isB mto maw dya amo rfd lnf nf bf df af lf Z hR el hel d0 H.size _ rfl) (va_cwS 6 hts gL_earned_L_overhead rfl rfl rfl (by decide +kernel) ⟨(Nat.le_of_ble_eq_true rfl), (Nat.le_of_ble_eq_true rfl)⟩) (gk_preS hP hK hD) rfl rfl hl.1 rfl (lv_room (Nat.le_of_ble_eq_true rfl)) dL_earned_21 ⟨(Nat.le_of_ble_eq_true rfl), (Nat.le_of_ble_eq_true rfl)⟩) hS (fun q _ h => hF_2 q h) hF_2 (fun r_2 u_2 t_2 H locs ht_2 hvm_2 hw_2 hB_2 hz_2 hk_2 hS => ?_)
  obtain ⟨hP, hD⟩ := gk_back hF_2 hB_2 ht_2
  subst hw_2
  refine lv_i2l hx hb dL_earned_24 rfl ?_
  refine lv_ladd hx hb dL_earned_25 ?_
  refine lv_aload_n hx hb dL_earned_26 rfl (lv_at hl 0 rfl) ?_
  refine lv_iconst (v := 1) hx hb dL_earned_27 (by decide) ?_
  refine gk_iald (i := 1) hx hb hK hP 0 0 rfl rfl (by omega) (by decide) dL_earned_28 ?_
  rw [hn1]
  refine lv_i2l hx hb dL_earned_29 rfl ?_
  refine lv_lmul hx hb dL_earned_30 ?_
  refine lv_ldc2 hx hb hown (hts (.constantLong RL 25 (100)) (List.mem_of_getElem? (i := 1) rfl)) dL_earned_31 ?_
  refine lv_ldiv hx hb dL_earned_34 (by decide) ?_
  refine lv_lstore (lv' := [(8, .long ((((gSm (gCx dya isB el lnf d0 0) nv).toInt64 + (gOw rt ce (gSm (gCx dya isB el lnf d0 1) nv)).toInt64) * sh.toInt64) / 100)), (0, .ref xn), (1, .ref xb), (2, .ref xd), (3, .ref xa), (4, .ref xl), (5, .int d0), (6, .long m0)]) hx hb dL_earned_35 hl (by decide) rfl (fun ls hl => ?_)
  refine lv_lload hx hb dL_earned_37 (lv_at hl 0 rfl) ?_
  refine lv_aload_n hx hb dL_earned_39 rfl (lv_at hl 1 rfl) ?_
  refine lv_iconst (v := 0) hx hb dL_earned_40 (by decide) ?_
  refine gk_iald (i := 0) hx hb hK hP 0 0 rfl rfl (by omega) (by decide) dL_earned_41 ?_
  rw [hn0]
  refine lv_i2l hx hb dL_earned_42 rfl ?_
  refine W.lcmp hx hb dL_earned_43 ?_
  refine lv_if_ge (tgt := 52) hx hb dL_earned_44 (by decide) (fun c_3 => ?_) (fun c_3 => ?_)
  · refine lv_aload_n hx hb dL_earned_52 rfl (lv_at hl 1 rfl) ?_
    refine lv_iconst (v := 0) hx hb dL_earned_53 (by decide) ?_
    refine gk_iald (i := 0) hx hb hK hP 0 0 rfl rfl (by omega) (by decide) dL_earned_54 ?_
    rw [hn0]
    refine lv_i2l hx hb dL_earned_55 rfl ?_
    refine lv_lstore (lv' := [(8, .long gr.toInt64), (0, .ref xn), (1, .ref xb), (2, .ref xd), (3, .ref xa), (4, .ref xl), (5, .int d0), (6, .long m0)]) hx hb dL_earned_56 hl (by decide) rfl (fun ls hl => ?_)
    refine lv_aload_n hx hb dL_earned_58 rfl (lv_at hl 1 rfl) ?_
    refine lv_iconst (v := 1) hx hb dL_earned_59 (by decide) ?_
    refine gk_iald (i := 1) hx hb hK hP 0 0 rfl rfl (by omega) (by decide) dL_earned_60 ?_
    rw [hn1]
    refine lv_bipush (v := 100) hx hb dL_earned_61 (by decide) ?_
    refine lv_icmp_ne (tgt := 71) hx hb dL_earned_63 (by decide) (fun c_4 => ?_) (fun c_4 => ?_)
    · refine lv_lload hx hb dL_earned_71 (lv_at hl 7 rfl) ?_
      refine lv_aload_n hx hb dL_earned_73 rfl (lv_at hl 1 rfl) ?_
      refine lv_iconst (v := 1) hx hb dL_earned_74 (by decide) ?_
      refine gk_iald (i := 1) hx hb hK hP 0 0 rfl rfl (by omega) (by decide) dL_earned_75 ?_
      rw [hn1]
      refine lv_i2l hx hb dL_earned_76 rfl ?_
      refine lv_lmul hx hb dL_earned_77 ?_
      refine lv_bipush (v := 100) hx hb dL_earned_78 (by decide) ?_
      refine lv_aload_n hx hb dL_earned_80 rfl (lv_at hl 1 rfl) ?_
      refine lv_iconst (v := 1) hx hb dL_earned_81 (by decide) ?_
      refine gk_iald (i := 1) hx hb hK hP 0 0 rfl rfl (by omega) (by decide) dL_earned_82 ?_
      rw [hn1]
      refine lv_isub hx hb dL_earned_83 ?_
      refine lv_i2l hx hb dL_earned_84 rfl ?_
      refine lv_ldiv hx hb dL_earned_85 (gNz2 c_4) ?_
      refine lv_lstore (lv' := [(10, .long ((m0 * sh.toInt64) / (100 - sh).toInt64)), (8, .long gr.toInt64), (0, .ref xn), (1, .ref xb), (2, .ref xd), (3, .ref xa), (4, .ref xl), (5, .int d0), (6, .long m0)]) hx hb dL_earned_86 hl (by decide) rfl (fun ls hl => ?_)
      refine lv_lload hx hb dL_earned_88 (lv_at hl 1 rfl) ?_
      refine lv_lload hx hb dL_earned_90 (lv_at hl 0 rfl) ?_
      refine W.lcmp hx hb dL_earned_92 ?_
      refine lv_if_ge (tgt := 101) hx hb dL_earned_93 (by decide) (fun c_5 => ?_) (fun c_5 => ?_)
      · refine lv_lload hx hb dL_earned_101 (lv_at hl 0 rfl) ?_
        refine lv_l2i hx hb dL_earned_103 rfl ?_
        refine W.widen (k := 0) (n := 0) (Nat.le_of_ble_eq_true rfl) (Nat.le_of_ble_eq_true rfl) ?_
        exact W.iret (v := ((m0 * sh.toInt64) / (100 - sh).toInt64).toInt32) hx hb hr (fun t ht hW => ⟨⟨((m0 * sh.toInt64) / (100 - sh).toInt64).toInt32, (), rfl, (by unfold pEa pIt; rw [if_neg (pL_nlt c_3), if_neg c_4, if_neg (pL_nlt c_5)]), by rw [ht]; exact hP, va_K.moved hW.alike hK, hD⟩, hS.F ht⟩) hS.2.2 dL_earned_104
      · refine lv_lload hx hb dL_earned_96 (lv_at hl 1 rfl) ?_
        refine lv_goto (tgt := 103) hx hb dL_earned_98 (by decide) ?_
        refine lv_l2i hx hb dL_earned_103 rfl ?_
        refine W.widen (k := 0) (n := 0) (Nat.le_of_ble_eq_true rfl) (Nat.le_of_ble_eq_true rfl) ?_
        exact W.iret (v := gr.toInt64.toInt32) hx hb hr (fun t ht hW => ⟨⟨gr.toInt64.toInt32, (), rfl, (by unfold pEa pIt; rw [if_neg (pL_nlt c_3), if_neg c_4, if_pos (pL_lt c_5)]), by rw [ht]; exact hP, va_K.moved hW.alike hK, hD⟩, hS.F ht⟩) hS.2.2 dL_earned_104
    · refine lv_lload hx hb dL_earned_66 (lv_at hl 0 rfl) ?_
      refine lv_goto (tgt := 86) hx hb dL_earned_68 (by decide) ?_
      refine lv_lstore (lv' := [(10, .long gr.toInt64), (8, .long gr.toInt64), (0, .ref xn), (1, .ref xb), (2, .ref xd), (3, .ref xa), (4, .ref xl), (5, .int d0), (6, .long m0)]) hx hb dL_earned_86 hl (by decide) rfl (fun ls hl => ?_)
      refine lv_lload hx hb dL_earned_88 (lv_at hl 1 rfl) ?_
      refine lv_lload hx hb dL_earned_90 (lv_at hl 0 rfl) ?_
      refine W.lcmp hx hb dL_earned_92 ?_
      refine lv_if_ge (tgt := 101) hx hb dL_earned_93 (by decide) (fun c_6 => ?_) (fun c_6 => ?_)
      · refine lv_lload hx hb dL_earned_101 (lv_at hl 0 rfl) ?_
        refine lv_l2i hx hb dL_earned_103 rfl ?_
        refine W.widen (k := 0) (n := 0) (Nat.le_of_ble_eq_true rfl) (Nat.le_of_ble_eq_true rfl) ?_
        exact W.iret (v := gr.toInt64.toInt32) hx hb hr (fun t ht hW => ⟨⟨gr.toInt64.toInt32, (), rfl, (by unfold pEa pIt; rw [if_neg (pL_nlt c_3), if_pos (c_4), if_neg (pL_nlt c_6)]), by rw [ht]; exact hP, va_K.moved hW.alike hK, hD⟩, hS.F ht⟩) hS.2.2 dL_earned_104
      · refine lv_lload hx hb dL_earned_96 (lv_at hl 1 rfl) ?_
        refine lv_goto (tgt := 103) hx hb dL_earned_98 (by decide) ?_
        refine lv_l2i hx hb dL_earned_103 rfl ?_
        refine W.widen (k := 0) (n := 0) (Nat.le_of_ble_eq_true rfl) (Nat.le_of_ble_eq_true rfl) ?_
        exact W.iret (v := gr.toInt64.toInt32) hx hb hr (fun t ht hW => ⟨⟨gr.toInt64.toInt32, (), rfl, (by unfold pEa pIt; rw [if_neg (pL_nlt c_3), if_pos (c_4), if_pos (pL_lt c_6)]), by rw [ht]; exact hP, va_K.moved hW.alike hK, hD⟩, hS.F ht⟩) hS.2.2 dL_earned_104
  · refine lv_lload hx hb dL_earned_47 (lv_at hl 0 rfl) ?_
    refine lv_goto (tgt := 56) hx hb dL_earned_49 (by decide) ?_
    refine lv_lstore (lv' := [(8, .long ((((gSm (gCx dya isB el lnf d0 0) nv).toInt64 + (gOw rt ce (gSm (gCx dya isB el lnf d0 1) nv)).toInt64) * sh.toInt64) / 100)), (0, .ref xn), (1, .ref xb), (2, .ref xd), (3, .ref xa), (4, .ref xl), (5, .int d0), (6, .long m0)]) hx hb dL_earned_56 hl (by decide) rfl (fun ls hl => ?_)
    refine lv_aload_n hx hb dL_earned_58 rfl (lv_at hl 1 rfl) ?_
    refine lv_iconst (v := 1) hx hb dL_earned_59 (by decide) ?_
    refine gk_iald (i := 1) hx hb hK hP 0 0 rfl rfl (by omega) (by decide) dL_earned_60 ?_
    rw [hn1]
    refine lv_bipush (v := 100) hx hb dL_earned_61 (by decide) ?_
    refine lv_icmp_ne (tgt := 71) hx hb dL_earned_63 (by decide) (fun c_7 => ?_) (fun c_7 => ?_)
    · refine lv_lload hx hb dL_earned_71 (lv_at hl 7 rfl) ?_
      refine lv_aload_n hx hb dL_earned_73 rfl (lv_at hl 1 rfl) ?_
      refine lv_iconst (v := 1) hx hb dL_earned_74 (by decide) ?_
      refine gk_iald (i := 1) hx hb hK hP 0 0 rfl rfl (by omega) (by decide) dL_earned_75 ?_
      rw [hn1]
      refine lv_i2l hx hb dL_earned_76 rfl ?_
      refine lv_lmul hx hb dL_earned_77 ?_
      refine lv_bipush (v := 100) hx hb dL_earned_78 (by decide) ?_
      refine lv_aload_n hx hb dL_earned_80 rfl (lv_at hl 1 rfl) ?_
      refine lv_iconst (v := 1) hx hb dL_earned_81 (by decide) ?_
      refine gk_iald (i := 1) hx hb hK hP 0 0 rfl rfl (by omega) (by decide) dL_earned_82 ?_
      rw [hn1]
      refine lv_isub hx hb dL_earned_83 ?_
      refine lv_i2l hx hb dL_earned_84 rfl ?_
      refine lv_ldiv hx hb dL_earned_85 (gNz2 c_7) ?_
      refine lv_lstore (lv' := [(10, .long ((m0 * sh.toInt64) / (100 - sh).toInt64)), (8, .long ((((gSm (gCx dya isB el lnf d0 0) nv).toInt64 + (gOw rt ce (gSm (gCx dya isB el lnf d0 1) nv)).toInt64) * sh.toInt64) / 100)), (0, .ref xn), (1, .ref xb), (2, .ref xd), (3, .ref xa), (4, .ref xl), (5, .int d0), (6, .long m0)]) hx hb dL_earned_86 hl (by decide) rfl (fun ls hl => ?_)
      refine lv_lload hx hb dL_earned_88 (lv_at hl 1 rfl) ?_
      refine lv_lload hx hb dL_earned_90 (lv_at hl 0 rfl) ?_
      refine W.lcmp hx hb dL_earned_92 ?_
      refine lv_if_ge (tgt := 101) hx hb dL_earned_93 (by decide) (fun c_8 => ?_) (fun c_8 => ?_)
      · refine lv_lload hx hb dL_earned_101 (lv_at hl 0 rfl) ?_
        refine lv_l2i hx hb dL_earned_103 rfl ?_
        refine W.widen (k := 0) (n := 0) (Nat.le_of_ble_eq_true rfl) (Nat.le_of_ble_eq_true rfl) ?_
        exact W.iret (v := ((m0 * sh.toInt64) / (100 - sh).toInt64).toInt32) hx hb hr (fun t ht hW => ⟨⟨((m0 * sh.toInt64) / (100 - sh).toInt64).toInt32, (), rfl, (by unfold pEa pIt; rw [if_pos (pL_lt c_3), if_neg c_7, if_neg (pL_nlt c_8)]), by rw [ht]; exact hP, va_K.moved hW.alike hK, hD⟩, hS.F ht⟩) hS.2.2 dL_earned_104
      · refine lv_lload hx hb dL_earned_96 (lv_at hl 1 rfl) ?_
        refine lv_goto (tgt := 103) hx hb dL_earned_98 (by decide) ?_
        refine lv_l2i hx hb dL_earned_103 rfl ?_
        refine W.widen (k := 0) (n := 0) (Nat.le_of_ble_eq_true rfl) (Nat.le_of_ble_eq_true rfl) ?_
        exact W.iret (v := ((((gSm (gCx dya isB el lnf d0 0) nv).toInt64 + (gOw rt ce (gSm (gCx dya isB el lnf d0 1) nv)).toInt64) * sh.toInt64) / 100).toInt32) hx hb hr (fun t ht hW => ⟨⟨((((gSm (gCx dya isB el lnf d0 0) nv).toInt64 + (gOw rt ce (gSm (gCx dya isB el lnf d0 1) nv)).toInt64) * sh.toInt64) / 100).toInt32, (), rfl, (by unfold pEa pIt; rw [if_pos (pL_lt c_3), if_neg c_7, if_pos (pL_lt c_8)]), by rw [ht]; exact hP, va_K.moved hW.alike hK, hD⟩, hS.F ht⟩) hS.2.2 dL_earned_104
    · refine lv_lload hx hb dL_earned_66 (lv_at hl 0 rfl) ?_
      refine lv_goto (tgt := 86) hx hb dL_earned_68 (by decide) ?_
      refine lv_lstore (lv' := [(10, .long ((((gSm (gCx dya isB el lnf d0 0) nv).toInt64 + (gOw rt ce (gSm (gCx dya isB el lnf d0 1) nv)).toInt64) * sh.toInt64) / 100)), (8, .long ((((gSm (gCx dya isB el lnf d0 0) nv).toInt64 + (gOw rt ce (gSm (gCx dya isB el lnf d0 1) nv)).toInt64) * sh.toInt64) / 100)), (0, .ref xn), (1, .ref xb), (2, .ref xd), (3, .ref xa), (4, .ref xl), (5, .int d0), (6, .long m0)]) hx hb dL_earned_86 hl (by decide) rfl (fun ls hl => ?_)
      refine lv_lload hx hb dL_earned_88 (lv_at hl 1 rfl) ?_
      refine lv_lload hx hb dL_earned_90 (lv_at hl 0 rfl) ?_
      refine W.lcmp hx hb dL_earned_92 ?_
      refine lv_if_ge (tgt := 101) hx hb dL_earned_93 (by decide) (fun c_9 => ?_) (fun c_9 => ?_)
      · refine lv_lload hx hb dL_earned_101 (lv_at hl 0 rfl) ?_
        refine lv_l2i hx hb dL_earned_103 rfl ?_
        refine W.widen (k := 0) (n := 0) (Nat.le_of_ble_eq_true rfl) (Nat.le_of_ble_eq_true rfl) ?_
        exact W.iret (v := ((((gSm (gCx dya isB el lnf d0 0) nv).toInt64 + (gOw rt ce (gSm (gCx dya isB el lnf d0 1) nv)).toInt64) * sh.toInt64) / 100).toInt32) hx hb hr (fun t ht hW => ⟨⟨((((gSm (gCx dya isB el lnf d0 0) nv).toInt64 + (gOw rt ce (gSm (gCx dya isB el lnf d0 1) nv)).toInt64) * sh.toInt64) / 100).toInt32, (), rfl, (by unfold pEa pIt; rw [if_pos (pL_lt c_3), if_pos (c_7), if_neg (pL_nlt c_9)]), by rw [ht]; exact hP, va_K.moved hW.alike hK, hD⟩, hS.F ht⟩) hS.2.2 dL_earned_104
      · refine lv_lload hx hb dL_earned_96 (lv_at hl 1 rfl) ?_
        refine lv_goto (tgt := 103) hx hb dL_earned_98 (by decide) ?_
        refine lv_l2i hx hb dL_earned_103 rfl ?_
        refine W.widen (k := 0) (n := 0) (Nat.le_of_ble_eq_true rfl) (Nat.le_of_ble_eq_true rfl) ?_
        exact W.iret (v := ((((gSm (gCx dya isB el lnf d0 0) nv).toInt64 + (gOw rt ce (gSm (gCx dya isB el lnf d0 1) nv)).toInt64) * sh.toInt64) / 100).toInt32) hx hb hr (fun t ht hW => ⟨⟨((((gSm (gCx dya isB el lnf d0 0) nv).toInt64 + (gOw rt ce (gSm (gCx dya isB el lnf d0 1) nv)).toInt64) * sh.toInt64) / 100).toInt32, (), rfl, (by unfold pEa pIt; rw [if_pos (pL_lt c_3), if_pos (c_7), if_pos (pL_lt c_9)]), by rw [ht]; exact hP, va_K.moved hW.alike hK, hD⟩, hS.F ht⟩) hS.2.2 dL_earned_104
set_option maxHeartbeats 4000000 in
set_option maxRecDepth 100000 in
theorem kL_total (l : Launch) (D : va_G) (cyI cyZ cyL cyV cyJ : ClassId) (xn xb xd xa xl : Nat) (nl nv : Nat) (gr sh rt ce : Int32) (bud fsd las isB mto maw dya amo rfd : Nat → Int32) (lnf : Nat → Nat) (nf bf df af lf : Nat → Int32) (Z : va_W) (hR : pRB nl nv gr sh rt ce bud fsd las isB mto maw dya amo rfd lnf nf bf df af lf) (el : Nat → Int32) (hel : ∀ k, k < nv → pEl (fun l => bud l + mto l - maw l) dya amo (fun v => gAcc (fsd (lnf v)) (las (lnf v)) (rfd v) (dya v)) lnf nv k = el k) (sz : Nat) (A : Nat → Prop) (hAe : va_A ((xn, .inl (cyI, 10, .inl nf)) :: (xb, .inl (cyI, 36, .inl bf)) :: (xd, .inl (cyI, 40, .inl df)) :: (xa, .inl (cyI, 40, .inl af)) :: (xl, .inl (cyI, 40, .inl lf)) :: Z) sz = A) : Met l yL_total wsL_total ({ frames := 3, cells := 0, slots := 0, locals := 84 }) (va_Pc [.ref xn, .ref xb, .ref xd, .ref xa, .ref xl] (gPre D (gTy cyI cyZ cyL cyV cyJ) ((xn, .inl (cyI, 10, .inl nf)) :: (xb, .inl (cyI, 36, .inl bf)) :: (xd, .inl (cyI, 40, .inl df)) :: (xa, .inl (cyI, 40, .inl af)) :: (xl, .inl (cyI, 40, .inl lf)) :: Z) sz)) (va_Qi (fun (r : Int32) (_ : Unit) => r = (gSm (gCx dya isB el lnf 9999 0) nv)) (fun (_ : Unit) t => gPost D (gTy cyI cyZ cyL cyV cyJ) A ((xn, .inl (cyI, 10, .inl nf)) :: (xb, .inl (cyI, 36, .inl bf)) :: (xd, .inl (cyI, 40, .inl df)) :: (xa, .inl (cyI, 40, .inl af)) :: (xl, .inl (cyI, 40, .inl lf)) :: Z) t) A) 0 0 A := by
  refine Met.ofW (cc := cL_total) (maxL := 5) (ret := (some .int)) (by decide) rfl ?_
  intro p e s m args below meth c s₁ B hml hv
  obtain ⟨rfl, hsz, hP, hK, hD0⟩ := hv
  have hx := B.exec
  have hb := B.bytes
  have hr := B.returns
  have hts := atoms_spec (ws := wsL_total) B.pre
  have hown : s.vm.findClass RL = some m.cls := findClass_of_methodNamed B.named
  have hlocks := B.notSynchronized
  subst hsz
  have hD := hD0.self (sz := s.heap.size)
  rw [hAe] at hD
  have hA : ∀ q : Nat, s.heap.size ≤ q → A q := fun q h => by rw [← hAe]; exact Or.inr h
  have hS : va_S A s.heap s.heap [] := va_S.rf
  have hP : va_P D vwCl ((xn, .inl (cyI, 10, .inl nf)) :: (xb, .inl (cyI, 36, .inl bf)) :: (xd, .inl (cyI, 40, .inl df)) :: (xa, .inl (cyI, 40, .inl af)) :: (xl, .inl (cyI, 40, .inl lf)) :: Z) s.heap := hP
  have hl := lv_entry ([.ref xn, .ref xb, .ref xd, .ref xa, .ref xl]) (n := 5) (Nat.le_of_ble_eq_true rfl)
  rw [lg_entry_eq]
  generalize (lg_sl ([.ref xn, .ref xb, .ref xd, .ref xa, .ref xl]) ++ List.replicate (5 - (lg_sl ([.ref xn, .ref xb, .ref xd, .ref xa, .ref xl])).length) Slot.unset).toArray = ls at hl ⊢
  have hl : lv_has ls 5 [(0, .ref xn), (1, .ref xb), (2, .ref xd), (3, .ref xa), (4, .ref xl)] := hl
  obtain ⟨⟨hnl, hnv⟩, ⟨hn0, hn1, hn2, hn3, hn5⟩, hbl, hvl⟩ := id hR
  refine lv_aload_n hx hb dL_total_0 rfl (lv_at hl 0 rfl) ?_
  refine lv_aload_n hx hb dL_total_1 rfl (lv_at hl 1 rfl) ?_
  refine lv_aload_n hx hb dL_total_2 rfl (lv_at hl 2 rfl) ?_
  refine lv_aload_n hx hb dL_total_3 rfl (lv_at hl 3 rfl) ?_
  refine lv_aload hx hb dL_total_4 (lv_at hl 4 rfl) ?_
  refine lv_sipush (v := 9999) hx hb dL_total_6 (by decide) ?_
  refine lv_iconst (v := 0) hx hb dL_total_9 (by decide) ?_
  have hF_1 := gk_all hD hS hA
  refine va_calli (va_runS (As := [.ref xn, .ref xb, .ref xd, .ref xa, .ref xl, .int 9999, .int 0]) (rest := []) ⟨hx, hb, hml, hown, hts⟩ (kL_sum l D cyI cyZ cyL cyV cyJ xn xb xd xa xl nl nv gr sh rt ce bud fsd las isB mto maw dya amo rfd lnf nf bf df af lf Z hR el hel 9999 0 s.heap.size _ rfl) (va_cwS 7 hts gL_total_L_sum rfl rfl rfl (by decide +kernel) ⟨(Nat.le_of_ble_eq_true rfl), (Nat.le_of_ble_eq_true rfl)⟩) (gk_preS hP hK hD) rfl rfl hl.1 rfl (lv_room (Nat.le_of_ble_eq_true rfl)) dL_total_10 ⟨(Nat.le_of_ble_eq_true rfl), (Nat.le_of_ble_eq_true rfl)⟩) hS (fun q _ h => hF_1 q h) hF_1 (fun r_1 u_1 t_1 H locs ht_1 hvm_1 hw_1 hB_1 hz_1 hk_1 hS => ?_)
  obtain ⟨hP, hD⟩ := gk_back hF_1 hB_1 ht_1
  subst hw_1
  refine W.widen (k := 0) (n := 0) (Nat.le_of_ble_eq_true rfl) (Nat.le_of_ble_eq_true rfl) ?_
  exact W.iret (v := (gSm (gCx dya isB el lnf 9999 0) nv)) hx hb hr (fun t ht hW => ⟨⟨(gSm (gCx dya isB el lnf 9999 0) nv), (), rfl, rfl, by rw [ht]; exact hP, va_K.moved hW.alike hK, hD⟩, hS.F ht⟩) hS.2.2 dL_total_13
