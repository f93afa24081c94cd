/-- the chain from o on by nx -/
def gCh (nx : Nat → Option Nat) : Option Nat → List Nat → Prop
  | o, [] => o = none
  | o, a :: w => o = some a ∧ gCh nx (nx a) w
/-- whether a voucher is taken -/
def gAcc (f l rf d : Int32) : Int32 := if rf = 0 then (if d < f then 0 else if l < d then 0 else 1) else 0
/-- what is eligible of one, when rest is left -/
def gEl (f l rf d am rest : Int32) : Int32 := if gAcc f l rf d = 0 then 0 else if rest < am then rest else am
/-- what is eligible of each of a chain -/
def gRk (f l : Int32) (vrf vda vam : Nat → Int32) : List Nat → Int32 → (Nat → Int32) → (Nat → Int32)
  | [], _, el => el
  | a :: w, rest, el => gRk f l vrf vda vam w (rest - gEl f l (vrf a) (vda a) (vam a) rest) (va_up el a (gEl f l (vrf a) (vda a) (vam a) rest))
/-- the sum of a chain's front up to day d -/
def gSu (vel vda : Nat → Int32) (d : Int32) : List Nat → Int32 → Int32
  | [], s => s
  | a :: w, s => if d < vda a then s else gSu vel vda d w (s + vel a)
/-- where a new one goes: behind those of its day and earlier ones -/
def gFr (vda : Nat → Int32) (d : Int32) : List Nat → List Nat
  | [] => []
  | a :: w => if d < vda a then [] else a :: gFr vda d w
def gBk (vda : Nat → Int32) (d : Int32) : List Nat → List Nat
  | [] => []
  | a :: w => if d < vda a then a :: w else gBk vda d w
theorem gFB (vda : Nat → Int32) (d : Int32) : ∀ w, gFr vda d w ++ gBk vda d w = w
  | [] => rfl
  | a :: w => by
    unfold gFr gBk
    by_cases h : d < vda a
    · rw [if_pos h, if_pos h]; rfl
    · rw [if_neg h, if_neg h, List.cons_append, gFB vda d w]
theorem gCh_app {nx : Nat → Option Nat} : ∀ {o : Option Nat} {x y : List Nat}, gCh nx o (x ++ y) ↔ ∃ q, (∀ z, gCh nx q z → gCh nx o (x ++ z)) ∧ gCh nx q y ∧ (x = [] → q = o) ∧ ∀ a, x.getLast? = some a → nx a = q := by
  intro o x
  induction x generalizing o with
  | nil => intro y; exact ⟨fun h => ⟨o, fun z hz => hz, h, fun _ => rfl, fun a h => by simp at h⟩, fun ⟨q, h1, h2, h3, h4⟩ => by rw [h3 rfl] at h2; exact h2⟩
  | cons a x ih =>
    intro y
    constructor
    · rintro ⟨rfl, h⟩
      obtain ⟨q, h1, h2, h3, h4⟩ := ih.mp h
      refine ⟨q, fun z hz => ⟨rfl, h1 z hz⟩, h2, fun h => by simp at h, fun b hb => ?_⟩
      cases x with
      | nil => simp at hb; subst hb; exact (h3 rfl).symm
      | cons c x => rw [List.getLast?_cons_cons] at hb; exact h4 b hb
    · rintro ⟨q, h1, h2, -, -⟩
      exact h1 y h2
/-- a chain doesn't see what is changed off it -/
theorem gCh_congr {nx nx' : Nat → Option Nat} : ∀ {w : List Nat} {o : Option Nat}, gCh nx o w → (∀ a ∈ w, nx' a = nx a) → gCh nx' o w
  | [], _, h, _ => h
  | a :: w, _, h, e => ⟨h.1, by rw [e a List.mem_cons_self]; exact gCh_congr h.2 (fun b hb => e b (List.mem_cons_of_mem _ hb))⟩
theorem gCh_nodup_aux {nx : Nat → Option Nat} : ∀ {w : List Nat} {o : Option Nat}, gCh nx o w → ∀ {w' : List Nat}, gCh nx o w' → w = w'
  | [], o, h, [], _ => rfl
  | [], o, h, a :: w', h' => by obtain ⟨h1, -⟩ := h'; rw [h1] at h; cases h
  | a :: w, o, h, [], h' => by obtain ⟨h1, -⟩ := h; rw [h1] at h'; cases h'
  | a :: w, o, h, b :: w', h' => by
    obtain ⟨h1, h2⟩ := h
    obtain ⟨h3, h4⟩ := h'
    rw [h1] at h3
    cases h3
    rw [gCh_nodup_aux h2 h4]
/-- a chain that ends has no cell twice -/
theorem gCh_suffix {nx : Nat → Option Nat} : ∀ {w : List Nat} {o : Option Nat}, gCh nx o w → ∀ a ∈ w, ∃ x y, w = x ++ a :: y ∧ gCh nx (some a) (a :: y)
  | b :: w, o, h, a, ha => by
    obtain ⟨rfl, h1⟩ := h
    rcases List.mem_cons.mp ha with rfl | ha
    · exact ⟨[], w, rfl, rfl, h1⟩
    · obtain ⟨x, y, rfl, h2⟩ := gCh_suffix h1 a ha
      exact ⟨b :: x, y, rfl, h2⟩
theorem gCh_nodup {nx : Nat → Option Nat} : ∀ {w : List Nat} {o : Option Nat}, gCh nx o w → w.Nodup
  | [], _, _ => List.nodup_nil
  | a :: w, o, h => by
    obtain ⟨rfl, h1⟩ := h
    refine List.nodup_cons.mpr ⟨fun ha => ?_, gCh_nodup h1⟩
    obtain ⟨x, y, hw, h2⟩ := gCh_suffix h1 a ha
    have h3 := gCh_nodup_aux (show gCh nx (some a) (a :: w) from ⟨rfl, h1⟩) h2
    have h4 := congrArg List.length h3
    rw [hw] at h4
    simp at h4
    omega
/-- the chain with v0 put in -/
theorem gPut0 {ear ear' vnx vnx' : Nat → Option Nat} {vda : Nat → Int32} {h0 v0 : Nat} {ch w : List Nat} (e1 : ear' = va_up ear h0 (some v0)) (e2 : vnx' = va_up vnx v0 (ear h0)) (hf : gFr vda (vda v0) ch = []) (hb : gBk vda (vda v0) ch = w) (hch : gCh vnx (ear h0) ch) (hv : v0 ∉ ch) (hc : ch = [] ++ w) : gCh vnx' (ear' h0) (gFr vda (vda v0) ch ++ v0 :: gBk vda (vda v0) ch) ∧ (∀ y, y ∉ v0 :: ch → vnx' y = vnx y) ∧ ∀ y, y ≠ h0 → ear' y = ear y := by
  subst e1 e2
  have hw : ch = w := hc
  subst hw
  rw [hf, hb, List.nil_append]
  refine ⟨⟨va_up_self _ _ _, ?_⟩, fun y hy => va_up_ne _ _ (fun h => hy (by rw [h]; exact List.mem_cons_self)), fun y hy => va_up_ne _ _ hy⟩
  rw [va_up_self]
  exact gCh_congr hch (fun a ha => va_up_ne _ _ (fun h => hv (h ▸ ha)))
theorem gPut1 {ear vnx vnx1 vnx' : Nat → Option Nat} {vda : Nat → Int32} {h0 v0 x : Nat} {ch pr w : List Nat} (e1 : vnx1 = va_up vnx v0 (vnx x)) (e2 : vnx' = va_up vnx1 x (some v0)) (hf : gFr vda (vda v0) ch = pr) (hb : gBk vda (vda v0) ch = w) (hch : gCh vnx (ear h0) ch) (hv : v0 ∉ ch) (hx : pr.getLast? = some x) (hc : ch = pr ++ w) : gCh vnx' (ear h0) (gFr vda (vda v0) ch ++ v0 :: gBk vda (vda v0) ch) ∧ (∀ y, y ∉ v0 :: ch → vnx' y = vnx y) ∧ ∀ y, y ≠ h0 → ear y = ear y := by
  subst e1 e2
  have hxc : x ∈ ch := by rw [hc]; exact List.mem_append_left _ (List.mem_of_getLast? hx)
  have hxv : x ≠ v0 := fun h => hv (h ▸ hxc)
  refine ⟨?_, fun y hy => ?_, fun _ _ => rfl⟩
  · rw [hf, hb]
    rw [hc] at hch hv
    obtain ⟨p9, rfl⟩ : ∃ p9, pr = p9 ++ [x] := by
      rcases List.eq_nil_or_concat pr with rfl | ⟨p9, z, rfl⟩
      · simp at hx
      · have hz : z = x := by simpa using hx
        subst hz
        exact ⟨p9, by simp⟩
    have hnd : ∀ (p : List Nat) (o : Option Nat), gCh vnx o ((p ++ [x]) ++ w) → v0 ∉ ((p ++ [x]) ++ w) → x ∉ p → gCh (va_up (va_up vnx v0 (vnx x)) x (some v0)) o ((p ++ [x]) ++ v0 :: w) ∨ x ∈ w := by
      intro p
      induction p with
      | nil =>
        intro o h1 h2 h3
        obtain ⟨rfl, h1⟩ := h1
        by_cases hxw : x ∈ w
        · exact Or.inr hxw
        · refine Or.inl ⟨rfl, va_up_self _ _ _, ?_⟩
          rw [va_up_ne _ _ (Ne.symm hxv), va_up_self]
          refine gCh_congr h1 (fun a ha => ?_)
          rw [va_up_ne _ _ (fun h => hxw (by rw [← h]; exact ha)), va_up_ne _ _ (fun h => h2 (by rw [← h]; exact List.mem_append_right _ ha))]
      | cons b p ih =>
        intro o h1 h2 h3
        obtain ⟨rfl, h1⟩ := h1
        have hb9 : b ≠ x := fun h => h3 (by rw [h]; exact List.mem_cons_self)
        have hb8 : b ≠ v0 := fun h => h2 (by rw [h]; exact List.mem_cons_self)
        rcases ih (vnx b) h1 (fun h => h2 (List.mem_cons_of_mem _ h)) (fun h => h3 (List.mem_cons_of_mem _ h)) with h | h
        · refine Or.inl ⟨rfl, ?_⟩
          rw [va_up_ne _ _ hb9, va_up_ne _ _ hb8]
          exact h
        · exact Or.inr h
    have hnodup := gCh_nodup hch
    have hx1 : x ∉ p9 := fun h => by
      have := (List.nodup_append.mp (List.nodup_append.mp hnodup).1).2.2 x h x List.mem_cons_self
      exact this rfl
    have hx2 : x ∉ w := fun h => (List.nodup_append.mp hnodup).2.2 x (List.mem_append_right _ List.mem_cons_self) x h rfl
    rcases hnd p9 _ hch hv hx1 with h | h
    · exact h
    · exact absurd h hx2
  · rw [va_up_ne _ _ (fun h => hy (by rw [h]; exact List.mem_cons_of_mem _ hxc)), va_up_ne _ _ (fun h => hy (by rw [h]; exact List.mem_cons_self))]
set_option maxHeartbeats 4000000 in
set_option maxRecDepth 100000 in
theorem kX0_roomNow (l : Launch) (D : va_G) (tys : List (ClassId × FieldType)) (X : va_W) (L : List Nat) (K : Nat → Nat) (bud fsd las bas mvi mva : Nat → Int32) (ear vln : Nat → Option Nat) (vda vam vrf vel : Nat → Int32) (vnx : Nat → Option Nat) (h0 : Nat) (hL0 : h0 ∈ L) (hK0 : K h0 = 0) (sz : Nat) (A : Nat → Prop) (hAe : va_A (X ++ va_pl L (gE K bud fsd las bas mvi mva ear vln vda vam vrf vel vnx)) sz = A) : Met l yX0_roomNow wsX0_roomNow ({ frames := 0, cells := 0, slots := 0, locals := 0 }) (va_Pc [.ref h0] (gPre D tys (X ++ va_pl L (gE K bud fsd las bas mvi mva ear vln vda vam vrf vel vnx)) sz)) (va_Qi (fun (r : Int32) (_ : Unit) => r = bud h0 + mvi h0 - mva h0) (fun (_ : Unit) t => gPost D tys A (X ++ va_pl L (gE K bud fsd las bas mvi mva ear vln vda vam vrf vel vnx)) t) A) 0 0 A := by
  refine Met.ofW (cc := cX0_roomNow) (maxL := 1) (ret := (some .int)) (by decide) rfl ?_
  intro p e s m args below meth c s₁ B hml hv
  obtain ⟨rfl, hsz, hP, hK, hD0⟩ := hv
  have hx := B.exec
  have hb := B.bytes
  have hr := B.returns
  have hts := atoms_spec (ws := wsX0_roomNow) B.pre
  have hown : s.vm.findClass RX0 = some m.cls := findClass_of_methodNamed B.named
  have hlocks := B.notSynchronized
  subst hsz
  have hD := hD0.self (sz := s.heap.size)
  rw [hAe] at hD
  have hA : ∀ q : Nat, s.heap.size ≤ q → A q := fun q h => by rw [← hAe]; exact Or.inr h
  have hS : va_S A s.heap s.heap [] := va_S.rf
  have hP : va_P D vwCl (X ++ va_pl L (gE K bud fsd las bas mvi mva ear vln vda vam vrf vel vnx)) s.heap := hP
  have hi0 : ∀ w ∈ wsX00, w ∈ wsX0_roomNow := fun _ h => List.mem_cons_of_mem _ (List.mem_append_right _ h)
  have hl := lv_entry ([.ref h0]) (n := 1) (Nat.le_of_ble_eq_true rfl)
  rw [lg_entry_eq]
  generalize (lg_sl ([.ref h0]) ++ List.replicate (1 - (lg_sl ([.ref h0])).length) Slot.unset).toArray = ls at hl ⊢
  have hl : lv_has ls 1 [(0, .ref h0)] := hl
  refine lv_aload_n hx hb dX0_roomNow_0 rfl (lv_at hl 0 rfl) ?_
  refine gk_get (C := RX0) (T := TX0) (N := 7) (v := .int (bud h0)) hx hb hts hi0 hown hK hP hL0 (gE_0 hK0) rfl 0 (by decide) (hts (.fieldLink RX0 20 "GrantBook$Line" "budget" "I") (List.mem_of_getElem? (i := 1) rfl)) (fun _ h9 => h9) rfl dX0_roomNow_1 ?_
  refine lv_aload_n hx hb dX0_roomNow_4 rfl (lv_at hl 0 rfl) ?_
  refine gk_get (C := RX0) (T := TX0) (N := 7) (v := .int (mvi h0)) hx hb hts hi0 hown hK hP hL0 (gE_0 hK0) rfl 4 (by decide) (hts (.fieldLink RX0 7 "GrantBook$Line" "movedIn" "I") (List.mem_of_getElem? (i := 2) rfl)) (fun _ h9 => h9) rfl dX0_roomNow_5 ?_
  refine lv_iadd hx hb dX0_roomNow_8 ?_
  refine lv_aload_n hx hb dX0_roomNow_9 rfl (lv_at hl 0 rfl) ?_
  refine gk_get (C := RX0) (T := TX0) (N := 7) (v := .int (mva h0)) hx hb hts hi0 hown hK hP hL0 (gE_0 hK0) rfl 5 (by decide) (hts (.fieldLink RX0 13 "GrantBook$Line" "movedAway" "I") (List.mem_of_getElem? (i := 3) rfl)) (fun _ h9 => h9) rfl dX0_roomNow_10 ?_
  refine lv_isub hx hb dX0_roomNow_13 ?_
  refine W.widen (k := 0) (n := 0) (Nat.le_of_ble_eq_true rfl) (Nat.le_of_ble_eq_true rfl) ?_
  exact W.iret (v := (((bud h0) + (mvi h0)) - (mva h0))) hx hb hr (fun t ht hW => ⟨⟨(((bud h0) + (mvi h0)) - (mva h0)), (), rfl, rfl, by rw [ht]; exact hP, va_K.moved hW.alike hK, hD⟩, hS.F ht⟩) hS.2.2 dX0_roomNow_14
set_option maxHeartbeats 4000000 in
set_option maxRecDepth 100000 in
theorem kX0_accepts (l : Launch) (D : va_G) (tys : List (ClassId × FieldType)) (X : va_W) (L : List Nat) (K : Nat → Nat) (bud fsd las bas mvi mva : Nat → Int32) (ear vln : Nat → Option Nat) (vda vam vrf vel : Nat → Int32) (vnx : Nat → Option Nat) (h0 : Nat) (hL0 : h0 ∈ L) (hK0 : K h0 = 0) (v0 : Nat) (hLv : v0 ∈ L) (hKv : K v0 = 1) (sz : Nat) (A : Nat → Prop) (hAe : va_A (X ++ va_pl L (gE K bud fsd las bas mvi mva ear vln vda vam vrf vel vnx)) sz = A) : Met l yX0_accepts wsX0_accepts ({ frames := 0, cells := 0, slots := 0, locals := 0 }) (va_Pc [.ref h0, .ref v0] (gPre D tys (X ++ va_pl L (gE K bud fsd las bas mvi mva ear vln vda vam vrf vel vnx)) sz)) (va_Qi (fun (r : Int32) (_ : Unit) => r = gAcc (fsd h0) (las h0) (vrf v0) (vda v0)) (fun (_ : Unit) t => gPost D tys A (X ++ va_pl L (gE K bud fsd las bas mvi mva ear vln vda vam vrf vel vnx)) t) A) 0 0 A := by
  refine Met.ofW (cc := cX0_accepts) (maxL := 2) (ret := (some .boolean)) (by decide) rfl ?_
  intro p e s m args below meth c s₁ B hml hv
  obtain ⟨rfl, hsz, hP, hK, hD0⟩ := hv
  have hx := B.exec
  have hb := B.bytes
  have hr := B.returns
  have hts := atoms_spec (ws := wsX0_accepts) B.pre
  have hown : s.vm.findClass RX0 = some m.cls := findClass_of_methodNamed B.named
  have hlocks := B.notSynchronized
  subst hsz
  have hD := hD0.self (sz := s.heap.size)
  rw [hAe] at hD
  have hA : ∀ q : Nat, s.heap.size ≤ q → A q := fun q h => by rw [← hAe]; exact Or.inr h
  have hS : va_S A s.heap s.heap [] := va_S.rf
  have hP : va_P D vwCl (X ++ va_pl L (gE K bud fsd las bas mvi mva ear vln vda vam vrf vel vnx)) s.heap := hP
  have hi0 : ∀ w ∈ wsX00, w ∈ wsX0_accepts := fun _ h => List.mem_cons_of_mem _ (List.mem_append_right _ h)
  have hi1 : ∀ w ∈ wsX10, w ∈ wsX0_accepts := fun _ h => List.mem_cons_of_mem _ (List.mem_append_left _ (List.mem_append_right _ h))
  have hl := lv_entry ([.ref h0, .ref v0]) (n := 2) (Nat.le_of_ble_eq_true rfl)
  rw [lg_entry_eq]
  generalize (lg_sl ([.ref h0, .ref v0]) ++ List.replicate (2 - (lg_sl ([.ref h0, .ref v0])).length) Slot.unset).toArray = ls at hl ⊢
  have hl : lv_has ls 2 [(0, .ref h0), (1, .ref v0)] := hl
  refine lv_aload_n hx hb dX0_accepts_0 rfl (lv_at hl 1 rfl) ?_
  refine gk_get (C := RX1) (T := TX1) (N := 6) (v := .int (vrf v0)) hx hb hts hi1 hown hK hP hLv (gE_1 hKv) rfl 3 (by decide) (hts (.fieldLink RX0 33 "GrantBook$Voucher" "isRefused" "Z") (List.mem_of_getElem? (i := 1) rfl)) (fun _ h9 => h9) rfl dX0_accepts_1 ?_
  refine lv_if_ne (tgt := 33) hx hb dX0_accepts_4 (by decide) (fun c_1 => ?_) (fun c_1 => ?_)
  · refine lv_iconst (v := 0) hx hb dX0_accepts_33 (by decide) ?_
    refine W.widen (k := 0) (n := 0) (Nat.le_of_ble_eq_true rfl) (Nat.le_of_ble_eq_true rfl) ?_
    exact W.zret (v := 0) hx hb hr rfl (fun t ht hW => ⟨⟨0, (), rfl, (by unfold gAcc; rw [if_neg c_1]), by rw [ht]; exact hP, va_K.moved hW.alike hK, hD⟩, hS.F ht⟩) hS.2.2 dX0_accepts_34
  · refine lv_aload_n hx hb dX0_accepts_7 rfl (lv_at hl 1 rfl) ?_
    refine gk_get (C := RX1) (T := TX1) (N := 6) (v := .int (vda v0)) hx hb hts hi1 hown hK hP hLv (gE_1 hKv) rfl 1 (by decide) (hts (.fieldLink RX0 38 "GrantBook$Voucher" "day" "I") (List.mem_of_getElem? (i := 2) rfl)) (fun _ h9 => h9) rfl dX0_accepts_8 ?_
    refine lv_aload_n hx hb dX0_accepts_11 rfl (lv_at hl 0 rfl) ?_
    refine gk_get (C := RX0) (T := TX0) (N := 7) (v := .int (fsd h0)) hx hb hts hi0 hown hK hP hL0 (gE_0 hK0) rfl 1 (by decide) (hts (.fieldLink RX0 23 "GrantBook$Line" "first" "I") (List.mem_of_getElem? (i := 3) rfl)) (fun _ h9 => h9) rfl dX0_accepts_12 ?_
    refine lv_icmp_lt (tgt := 33) hx hb dX0_accepts_15 (by decide) (fun c_2 => ?_) (fun c_2 => ?_)
    · refine lv_iconst (v := 0) hx hb dX0_accepts_33 (by decide) ?_
      refine W.widen (k := 0) (n := 0) (Nat.le_of_ble_eq_true rfl) (Nat.le_of_ble_eq_true rfl) ?_
      exact W.zret (v := 0) hx hb hr rfl (fun t ht hW => ⟨⟨0, (), rfl, (by unfold gAcc; rw [if_pos c_1, if_pos c_2]), by rw [ht]; exact hP, va_K.moved hW.alike hK, hD⟩, hS.F ht⟩) hS.2.2 dX0_accepts_34
    · refine lv_aload_n hx hb dX0_accepts_18 rfl (lv_at hl 1 rfl) ?_
      refine gk_get (C := RX1) (T := TX1) (N := 6) (v := .int (vda v0)) hx hb hts hi1 hown hK hP hLv (gE_1 hKv) rfl 1 (by decide) (hts (.fieldLink RX0 38 "GrantBook$Voucher" "day" "I") (List.mem_of_getElem? (i := 2) rfl)) (fun _ h9 => h9) rfl dX0_accepts_19 ?_
      refine lv_aload_n hx hb dX0_accepts_22 rfl (lv_at hl 0 rfl) ?_
      refine gk_get (C := RX0) (T := TX0) (N := 7) (v := .int (las h0)) hx hb hts hi0 hown hK hP hL0 (gE_0 hK0) rfl 2 (by decide) (hts (.fieldLink RX0 26 "GrantBook$Line" "last" "I") (List.mem_of_getElem? (i := 4) rfl)) (fun _ h9 => h9) rfl dX0_accepts_23 ?_
      refine lv_icmp_gt (tgt := 33) hx hb dX0_accepts_26 (by decide) (fun c_3 => ?_) (fun c_3 => ?_)
      · refine lv_iconst (v := 0) hx hb dX0_accepts_33 (by decide) ?_
        refine W.widen (k := 0) (n := 0) (Nat.le_of_ble_eq_true rfl) (Nat.le_of_ble_eq_true rfl) ?_
        exact W.zret (v := 0) hx hb hr rfl (fun t ht hW => ⟨⟨0, (), rfl, (by unfold gAcc; rw [if_pos c_1, if_neg c_2, if_pos c_3]), by rw [ht]; exact hP, va_K.moved hW.alike hK, hD⟩, hS.F ht⟩) hS.2.2 dX0_accepts_34
      · refine lv_iconst (v := 1) hx hb dX0_accepts_29 (by decide) ?_
        refine lv_goto (tgt := 34) hx hb dX0_accepts_30 (by decide) ?_
        refine W.widen (k := 0) (n := 0) (Nat.le_of_ble_eq_true rfl) (Nat.le_of_ble_eq_true rfl) ?_
        exact W.zret (v := 1) hx hb hr rfl (fun t ht hW => ⟨⟨1, (), rfl, (by unfold gAcc; rw [if_pos c_1, if_neg c_2, if_neg c_3]), by rw [ht]; exact hP, va_K.moved hW.alike hK, hD⟩, hS.F ht⟩) hS.2.2 dX0_accepts_34
set_option maxHeartbeats 4000000 in
set_option maxRecDepth 100000 in
theorem kX0_eligibleUpTo (l : Launch) (D : va_G) (tys : List (ClassId × FieldType)) (X : va_W) (L : List Nat) (K : Nat → Nat) (bud fsd las bas mvi mva : Nat → Int32) (ear vln : Nat → Option Nat) (vda vam vrf vel : Nat → Int32) (vnx : Nat → Option Nat) (h0 : Nat) (hL0 : h0 ∈ L) (hK0 : K h0 = 0) (ch : List Nat) (hch : gCh vnx (ear h0) ch) (hcl : ∀ y ∈ ch, y ∈ L ∧ K y = 1) (d0 : Int32) (sz : Nat) (A : Nat → Prop) (hAe : va_A (X ++ va_pl L (gE K bud fsd las bas mvi mva ear vln vda vam vrf vel vnx)) sz = A) : Met l yX0_eligibleUpTo wsX0_eligibleUpTo ({ frames := 0, cells := 0, slots := 0, locals := 0 }) (va_Pc [.ref h0, .int d0] (gPre D tys (X ++ va_pl L (gE K bud fsd las bas mvi mva ear vln vda vam vrf vel vnx)) sz)) (va_Qi (fun (r : Int32) (_ : Unit) => r = gSu vel vda d0 ch 0) (fun (_ : Unit) t => gPost D tys A (X ++ va_pl L (gE K bud fsd las bas mvi mva ear vln vda vam vrf vel vnx)) t) A) 0 0 A := by
  refine Met.ofW (cc := cX0_eligibleUpTo) (maxL := 4) (ret := (some .int)) (by decide) rfl ?_
  intro p e s m args below meth c s₁ B hml hv
  obtain ⟨rfl, hsz, hP, hK, hD0⟩ := hv
  have hx := B.exec
  have hb := B.bytes
  have hr := B.returns
  have hts := atoms_spec (ws := wsX0_eligibleUpTo) B.pre
  have hown : s.vm.findClass RX0 = some m.cls := findClass_of_methodNamed B.named
  have hlocks := B.notSynchronized
  subst hsz
  have hD := hD0.self (sz := s.heap.size)
  rw [hAe] at hD
  have hA : ∀ q : Nat, s.heap.size ≤ q → A q := fun q h => by rw [← hAe]; exact Or.inr h
  have hS : va_S A s.heap s.heap [] := va_S.rf
  have hP : va_P D vwCl (X ++ va_pl L (gE K bud fsd las bas mvi mva ear vln vda vam vrf vel vnx)) s.heap := hP
  have hi0 : ∀ w ∈ wsX00, w ∈ wsX0_eligibleUpTo := fun _ h => List.mem_cons_of_mem _ (List.mem_append_left _ (List.mem_append_right _ h))
  have hi1 : ∀ w ∈ wsX10, w ∈ wsX0_eligibleUpTo := fun _ h => List.mem_cons_of_mem _ (List.mem_append_right _ h)
  have hl := lv_entry ([.ref h0, .int d0]) (n := 4) (Nat.le_of_ble_eq_true rfl)
  rw [lg_entry_eq]
  generalize (lg_sl ([.ref h0, .int d0]) ++ List.replicate (4 - (lg_sl ([.ref h0, .int d0])).length) Slot.unset).toArray = ls at hl ⊢
  have hl : lv_has ls 4 [(0, .ref h0), (1, .int d0)] := hl
  have loop : ∀ (w : List Nat) (o : Option Nat) (sm : Int32) (H : Heap) (locs : List Loc) (ls : Array Slot), gCh vnx o w → (∀ y ∈ w, y ∈ L ∧ K y = 1) → gSu vel vda d0 w sm = gSu vel vda d0 ch 0 → va_P D vwCl (X ++ va_pl L (gE K bud fsd las bas mvi mva ear vln vda vam vrf vel vnx)) H → va_D A (X ++ va_pl L (gE K bud fsd las bas mvi mva ear vln vda vam vrf vel vnx)) → va_S A s.heap H locs → lv_has ls 4 [(3, va_rf o), (2, .int sm), (0, .ref h0), (1, .int d0)] → W p l e (headSpec wsX0_eligibleUpTo ({ frames := 0, cells := 0, slots := 0, locals := 0 })).room s m ([.ref h0, .int d0] : List Value).toArray below meth c H locs 0 0 (MQ below (va_Qi (fun (r : Int32) (_ : Unit) => r = gSu vel vda d0 ch 0) (fun (_ : Unit) t => gPost D tys A (X ++ va_pl L (gE K bud fsd las bas mvi mva ear vln vda vam vrf vel vnx)) t) A) ([.ref h0, .int d0] : List Value).toArray s 0 0 A) (F0 m 7 ls []) := by
    intro w
    induction w with
    | nil =>
      intro o sm H locs ls ho hw he hP hD hS hl
      obtain rfl : o = none := ho
      have hl : lv_has ls 4 [(3, .null), (2, .int sm), (0, .ref h0), (1, .int d0)] := hl
      refine lv_aload_nN hx hb dX0_eligibleUpTo_7 rfl (lv_at hl 0 rfl) ?_
      refine lv_ifnullN (tgt := 34) hx hb dX0_eligibleUpTo_8 (by decide) ?_
      refine lv_iload_n hx hb dX0_eligibleUpTo_34 rfl (lv_at hl 1 rfl) ?_
      refine W.widen (k := 0) (n := 0) (Nat.le_of_ble_eq_true rfl) (Nat.le_of_ble_eq_true rfl) ?_
      exact W.iret (v := sm) hx hb hr (fun t ht hW => ⟨⟨sm, (), rfl, he, by rw [ht]; exact hP, va_K.moved hW.alike hK, hD⟩, hS.F ht⟩) hS.2.2 dX0_eligibleUpTo_35
    | cons a w ih =>
      intro o sm H locs ls ho hw he hP hD hS hl
      obtain ⟨rfl, ho⟩ := ho
      obtain ⟨hLa, hKa⟩ := hw a List.mem_cons_self
      have hl : lv_has ls 4 [(3, .ref a), (2, .int sm), (0, .ref h0), (1, .int d0)] := hl
      refine lv_aload_n hx hb dX0_eligibleUpTo_7 rfl (lv_at hl 0 rfl) ?_
      refine lv_ifnull hx hb dX0_eligibleUpTo_8 ?_
      refine lv_aload_n hx hb dX0_eligibleUpTo_11 rfl (lv_at hl 0 rfl) ?_
      refine gk_get (C := RX1) (T := TX1) (N := 6) (v := .int (vda a)) hx hb hts hi1 hown hK hP hLa (gE_1 hKa) rfl 1 (by decide) (hts (.fieldLink RX0 38 "GrantBook$Voucher" "day" "I") (List.mem_of_getElem? (i := 2) rfl)) (fun _ h9 => h9) rfl dX0_eligibleUpTo_12 ?_
      refine lv_iload_n hx hb dX0_eligibleUpTo_15 rfl (lv_at hl 3 rfl) ?_
      refine lv_icmp_gt (tgt := 34) hx hb dX0_eligibleUpTo_16 (by decide) (fun c_1 => ?_) (fun c_1 => ?_)
      · refine lv_iload_n hx hb dX0_eligibleUpTo_34 rfl (lv_at hl 1 rfl) ?_
        refine W.widen (k := 0) (n := 0) (Nat.le_of_ble_eq_true rfl) (Nat.le_of_ble_eq_true rfl) ?_
        exact W.iret (v := sm) hx hb hr (fun t ht hW => ⟨⟨sm, (), rfl, (by rw [← he]; show _ = (if d0 < vda a then _ else _); rw [if_pos c_1]), by rw [ht]; exact hP, va_K.moved hW.alike hK, hD⟩, hS.F ht⟩) hS.2.2 dX0_eligibleUpTo_35
      · refine lv_iload_n hx hb dX0_eligibleUpTo_19 rfl (lv_at hl 1 rfl) ?_
        refine lv_aload_n hx hb dX0_eligibleUpTo_20 rfl (lv_at hl 0 rfl) ?_
        refine gk_get (C := RX1) (T := TX1) (N := 6) (v := .int (vel a)) hx hb hts hi1 hown hK hP hLa (gE_1 hKa) rfl 4 (by decide) (hts (.fieldLink RX0 61 "GrantBook$Voucher" "eligible" "I") (List.mem_of_getElem? (i := 3) rfl)) (fun _ h9 => h9) rfl dX0_eligibleUpTo_21 ?_
        refine lv_iadd hx hb dX0_eligibleUpTo_24 ?_
        refine lv_istore_n (lv' := [(2, .int (sm + (vel a))), (3, .ref a), (0, .ref h0), (1, .int d0)]) hx hb dX0_eligibleUpTo_25 rfl hl (by decide) rfl (fun ls hl => ?_)
        refine lv_aload_n hx hb dX0_eligibleUpTo_26 rfl (lv_at hl 1 rfl) ?_
        refine gk_get (C := RX1) (T := TX1) (N := 6) (v := va_rf (vnx a)) hx hb hts hi1 hown hK hP hLa (gE_1 hKa) rfl 5 (by decide) (hts (.fieldLink RX0 41 "GrantBook$Voucher" "next" "LGrantBook$Voucher;") (List.mem_of_getElem? (i := 4) rfl)) (fun _ h9 => h9) rfl dX0_eligibleUpTo_27 ?_
        rcases hq_2 : vnx a with _ | a_2
        · refine lv_astore_nN (lv' := [(3, .null), (2, .int (sm + (vel a))), (0, .ref h0), (1, .int d0)]) hx hb dX0_eligibleUpTo_30 rfl hl (by decide) rfl (fun ls hl => ?_)
          refine lv_goto (tgt := 7) hx hb dX0_eligibleUpTo_31 (by decide) ?_
          exact ih (vnx a) _ _ _ _ ho (fun y hy => hw y (List.mem_cons_of_mem _ hy)) (by rw [← he]; show _ = (if d0 < vda a then _ else _); rw [if_neg c_1]) hP hD hS (by rw [hq_2]; exact lv_sub hl [0, 1, 2, 3] rfl)
        · refine lv_astore_n (lv' := [(3, .ref a_2), (2, .int (sm + (vel a))), (0, .ref h0), (1, .int d0)]) hx hb dX0_eligibleUpTo_30 rfl hl (by decide) rfl (fun ls hl => ?_)
          refine lv_goto (tgt := 7) hx hb dX0_eligibleUpTo_31 (by decide) ?_
          exact ih (vnx a) _ _ _ _ ho (fun y hy => hw y (List.mem_cons_of_mem _ hy)) (by rw [← he]; show _ = (if d0 < vda a then _ else _); rw [if_neg c_1]) hP hD hS (by rw [hq_2]; exact lv_sub hl [0, 1, 2, 3] rfl)
  refine lv_iconst (v := 0) hx hb dX0_eligibleUpTo_0 (by decide) ?_
  refine lv_istore_n (lv' := [(2, .int 0), (0, .ref h0), (1, .int d0)]) hx hb dX0_eligibleUpTo_1 rfl hl (by decide) rfl (fun ls hl => ?_)
  refine lv_aload_n hx hb dX0_eligibleUpTo_2 rfl (lv_at hl 1 rfl) ?_
  refine gk_get (C := RX0) (T := TX0) (N := 7) (v := va_rf (ear h0)) hx hb hts hi0 hown hK hP hL0 (gE_0 hK0) rfl 6 (by decide) (hts (.fieldLink RX0 16 "GrantBook$Line" "earliest" "LGrantBook$Voucher;") (List.mem_of_getElem? (i := 1) rfl)) (fun _ h9 => h9) rfl dX0_eligibleUpTo_3 ?_
  rcases hq_3 : ear h0 with _ | a_3
  · refine lv_astore_nN (lv' := [(3, .null), (2, .int 0), (0, .ref h0), (1, .int d0)]) hx hb dX0_eligibleUpTo_6 rfl hl (by decide) rfl (fun ls hl => ?_)
    exact loop ch (ear h0) 0 _ _ _ hch hcl rfl hP hD hS (by rw [hq_3]; exact lv_sub hl [0, 1, 2, 3] rfl)
  · refine lv_astore_n (lv' := [(3, .ref a_3), (2, .int 0), (0, .ref h0), (1, .int d0)]) hx hb dX0_eligibleUpTo_6 rfl hl (by decide) rfl (fun ls hl => ?_)
    exact loop ch (ear h0) 0 _ _ _ hch hcl rfl hP hD hS (by rw [hq_3]; exact lv_sub hl [0, 1, 2, 3] rfl)
set_option maxHeartbeats 4000000 in
set_option maxRecDepth 100000 in
theorem kX0_reckon (l : Launch) (D : va_G) (tys : List (ClassId × FieldType)) (X : va_W) (L : List Nat) (K : Nat → Nat) (bud fsd las bas mvi mva : Nat → Int32) (ear vln : Nat → Option Nat) (vda vam vrf vel : Nat → Int32) (vnx : Nat → Option Nat) (h0 : Nat) (hL0 : h0 ∈ L) (hK0 : K h0 = 0) (ch : List Nat) (hch : gCh vnx (ear h0) ch) (hcl : ∀ y ∈ ch, y ∈ L ∧ K y = 1) (sz : Nat) (A : Nat → Prop) (hAe : va_A (X ++ va_pl L (gE K bud fsd las bas mvi mva ear vln vda vam vrf vel vnx)) sz = A) : Met l yX0_reckon wsX0_reckon ({ frames := 1, cells := 0, slots := 0, locals := 21 }) (va_Pc [.ref h0] (gPre D tys (X ++ va_pl L (gE K bud fsd las bas mvi mva ear vln vda vam vrf vel vnx)) sz)) (va_Qv (fun (u : Nat → Int32) => u = gRk (fsd h0) (las h0) vrf vda vam ch (bud h0 + mvi h0 - mva h0) vel) (fun (u : Nat → Int32) t => gPost D tys A (X ++ va_pl L (gE K bud fsd las bas mvi mva ear vln vda vam vrf u vnx)) t) A) 0 0 A := by
  refine Met.ofW (cc := cX0_reckon) (maxL := 3) (ret := none) (by decide) rfl ?_
  intro p e s m args below meth c s₁ B hml hv
  obtain ⟨rfl, hsz, hP, hK, hD0⟩ := hv
  have hx := B.exec
  have hb := B.bytes
  have hr := B.returns
  have hts := atoms_spec (ws := wsX0_reckon) B.pre
  have hown : s.vm.findClass RX0 = some m.cls := findClass_of_methodNamed B.named
  have hlocks := B.notSynchronized
  subst hsz
  have hD := hD0.self (sz := s.heap.size)
  rw [hAe] at hD
  have hA : ∀ q : Nat, s.heap.size ≤ q → A q := fun q h => by rw [← hAe]; exact Or.inr h
  have hS : va_S A s.heap s.heap [] := va_S.rf
  have hP : va_P D vwCl (X ++ va_pl L (gE K bud fsd las bas mvi mva ear vln vda vam vrf vel vnx)) s.heap := hP
  have hi0 : ∀ w ∈ wsX00, w ∈ wsX0_reckon := fun _ h => List.mem_cons_of_mem _ (List.mem_append_left _ (List.mem_append_right _ h))
  have hi1 : ∀ w ∈ wsX10, w ∈ wsX0_reckon := fun _ h => List.mem_cons_of_mem _ (List.mem_append_right _ h)
  have hl := lv_entry ([.ref h0]) (n := 3) (Nat.le_of_ble_eq_true rfl)
  rw [lg_entry_eq]
  generalize (lg_sl ([.ref h0]) ++ List.replicate (3 - (lg_sl ([.ref h0])).length) Slot.unset).toArray = ls at hl ⊢
  have hl : lv_has ls 3 [(0, .ref h0)] := hl
  have loop : ∀ (w : List Nat) (o : Option Nat) (rest : Int32) (el : Nat → Int32) (H : Heap) (locs : List Loc) (ls : Array Slot), gCh vnx o w → (∀ y ∈ w, y ∈ L ∧ K y = 1) → gRk (fsd h0) (las h0) vrf vda vam w rest el = gRk (fsd h0) (las h0) vrf vda vam ch (bud h0 + mvi h0 - mva h0) vel → va_P D vwCl (X ++ va_pl L (gE K bud fsd las bas mvi mva ear vln vda vam vrf el vnx)) H → va_D A (X ++ va_pl L (gE K bud fsd las bas mvi mva ear vln vda vam vrf el vnx)) → va_S A s.heap H locs → lv_has ls 3 [(2, va_rf o), (1, .int rest), (0, .ref h0)] → W p l e (headSpec wsX0_reckon ({ frames := 1, cells := 0, slots := 0, locals := 21 })).room s m ([.ref h0] : List Value).toArray below meth c H locs 0 0 (MQ below (va_Qv (fun (u : Nat → Int32) => u = gRk (fsd h0) (las h0) vrf vda vam ch (bud h0 + mvi h0 - mva h0) vel) (fun (u : Nat → Int32) t => gPost D tys A (X ++ va_pl L (gE K bud fsd las bas mvi mva ear vln vda vam vrf u vnx)) t) A) ([.ref h0] : List Value).toArray s 0 0 A) (F0 m 10 ls []) := by
    intro w
    induction w with
    | nil =>
      intro o rest el H locs ls ho hw he hP hD hS hl
      obtain rfl : o = none := ho
      have hl : lv_has ls 3 [(2, .null), (1, .int rest), (0, .ref h0)] := hl
      refine lv_aload_nN hx hb dX0_reckon_10 rfl (lv_at hl 0 rfl) ?_
      refine lv_ifnullN (tgt := 53) hx hb dX0_reckon_11 (by decide) ?_
      refine W.widen (k := 0) (n := 0) (Nat.le_of_ble_eq_true rfl) (Nat.le_of_ble_eq_true rfl) ?_
      exact W.vret hx hb hr (fun t ht hW => ⟨⟨el, rfl, he, by rw [ht]; exact hP, va_K.moved hW.alike hK, hD⟩, hS.F ht⟩) hS.2.2 dX0_reckon_53
    | cons a w ih =>
      intro o rest el H locs ls ho hw he hP hD hS hl
      obtain ⟨rfl, ho⟩ := ho
      obtain ⟨hLa, hKa⟩ := hw a List.mem_cons_self
      have hl : lv_has ls 3 [(2, .ref a), (1, .int rest), (0, .ref h0)] := hl
      refine lv_aload_n hx hb dX0_reckon_10 rfl (lv_at hl 0 rfl) ?_
      refine lv_ifnull hx hb dX0_reckon_11 ?_
      refine lv_aload_n hx hb dX0_reckon_14 rfl (lv_at hl 0 rfl) ?_
      refine lv_aload_n hx hb dX0_reckon_15 rfl (lv_at hl 2 rfl) ?_
      refine lv_aload_n hx hb dX0_reckon_16 rfl (lv_at hl 0 rfl) ?_
      have hF_1 := gk_all hD hS hA
      refine va_calli (va_runV (As := [.ref a]) (rest := [.ref a]) ⟨hx, hb, hml, hown, hts⟩ (kX0_accepts l D tys X L K bud fsd las bas mvi mva ear vln vda vam vrf el vnx h0 hL0 hK0 a hLa hKa H.size _ rfl) (cwV 1 hts gX0_reckon_X0_accepts rfl rfl rfl (by decide +kernel) ⟨(Nat.le_of_ble_eq_true rfl), (Nat.le_of_ble_eq_true rfl)⟩) (gk_preV hP hK hD (gk_recv hK hP hL0 (gE_0 hK0) rfl)) rfl rfl hl.1 rfl (lv_room (Nat.le_of_ble_eq_true rfl)) dX0_reckon_17 ⟨(Nat.le_of_ble_eq_true rfl), (Nat.le_of_ble_eq_true rfl)⟩) hS (fun q _ h => hF_1 q h) hF_1 (fun r_1 u_1 t_1 H locs ht_1 hvm_1 hw_1 hB_1 hz_1 hk_1 hS => ?_)
      obtain ⟨hP, hD⟩ := gk_back hF_1 hB_1 ht_1
      subst hw_1
      refine lv_if_eq (tgt := 34) hx hb dX0_reckon_20 (by decide) (fun c_2 => ?_) (fun c_2 => ?_)
      · refine lv_iconst (v := 0) hx hb dX0_reckon_34 (by decide) ?_
        refine gk_put (f' := (gE K bud fsd las bas mvi mva ear vln vda vam vrf (va_up el a 0) vnx)) (v := .int 0) (ty := .int) (C := RX1) (T := TX1) (N := 6) hx hb hts hi1 tyX1 tyX1_ok nmX1 hown hK hP hD hS hLa (gE_1 hKa) rfl 4 (by decide) (hts (.fieldLink RX0 61 "GrantBook$Voucher" "eligible" "I") (List.mem_of_getElem? (i := 7) rfl)) (fun _ h9 => h9) rfl (by decide +kernel) rfl rfl (Nat.le_of_ble_eq_true rfl) (gU_vel hKa 0) dX0_reckon_35 (fun H locs hP hD hS => ?_)
        obtain ⟨vel_3, evel_3⟩ : ∃ z, z = (va_up el a 0) := ⟨_, rfl⟩
        rw [← evel_3] at hP hD
        refine lv_iload_n hx hb dX0_reckon_38 rfl (lv_at hl 1 rfl) ?_
        refine lv_aload_n hx hb dX0_reckon_39 rfl (lv_at hl 0 rfl) ?_
        refine gk_get (C := RX1) (T := TX1) (N := 6) (v := .int (vel_3 a)) hx hb hts hi1 hown hK hP hLa (gE_1 hKa) rfl 4 (by decide) (hts (.fieldLink RX0 61 "GrantBook$Voucher" "eligible" "I") (List.mem_of_getElem? (i := 7) rfl)) (fun _ h9 => h9) rfl dX0_reckon_40 ?_
        refine lv_isub hx hb dX0_reckon_43 ?_
        refine lv_istore_n (lv' := [(1, .int (rest - (vel_3 a))), (2, .ref a), (0, .ref h0)]) hx hb dX0_reckon_44 rfl hl (by decide) rfl (fun ls hl => ?_)
        refine lv_aload_n hx hb dX0_reckon_45 rfl (lv_at hl 1 rfl) ?_
        refine gk_get (C := RX1) (T := TX1) (N := 6) (v := va_rf (vnx a)) hx hb hts hi1 hown hK hP hLa (gE_1 hKa) rfl 5 (by decide) (hts (.fieldLink RX0 41 "GrantBook$Voucher" "next" "LGrantBook$Voucher;") (List.mem_of_getElem? (i := 8) rfl)) (fun _ h9 => h9) rfl dX0_reckon_46 ?_
        rcases hq_4 : vnx a with _ | a_4
        · refine lv_astore_nN (lv' := [(2, .null), (1, .int (rest - (vel_3 a))), (0, .ref h0)]) hx hb dX0_reckon_49 rfl hl (by decide) rfl (fun ls hl => ?_)
          refine lv_goto (tgt := 10) hx hb dX0_reckon_50 (by decide) ?_
          exact ih (vnx a) (rest - vel_3 a) vel_3 _ _ _ ho (fun y hy => hw y (List.mem_cons_of_mem _ hy)) (by rw [← he, evel_3, va_up_self]; simp only [gRk, gEl, if_pos c_2]) hP hD hS (by rw [hq_4]; exact lv_sub hl [0, 1, 2] rfl)
        · refine lv_astore_n (lv' := [(2, .ref a_4), (1, .int (rest - (vel_3 a))), (0, .ref h0)]) hx hb dX0_reckon_49 rfl hl (by decide) rfl (fun ls hl => ?_)
          refine lv_goto (tgt := 10) hx hb dX0_reckon_50 (by decide) ?_
          exact ih (vnx a) (rest - vel_3 a) vel_3 _ _ _ ho (fun y hy => hw y (List.mem_cons_of_mem _ hy)) (by rw [← he, evel_3, va_up_self]; simp only [gRk, gEl, if_pos c_2]) hP hD hS (by rw [hq_4]; exact lv_sub hl [0, 1, 2] rfl)
      · refine lv_aload_n hx hb dX0_reckon_23 rfl (lv_at hl 0 rfl) ?_
        refine gk_get (C := RX1) (T := TX1) (N := 6) (v := .int (vam a)) hx hb hts hi1 hown hK hP hLa (gE_1 hKa) rfl 2 (by decide) (hts (.fieldLink RX0 52 "GrantBook$Voucher" "amount" "I") (List.mem_of_getElem? (i := 2) rfl)) (fun _ h9 => h9) rfl dX0_reckon_24 ?_
        refine lv_iload_n hx hb dX0_reckon_27 rfl (lv_at hl 1 rfl) ?_
        refine va_mmin hx hb (hml.trans hl.1.symm) hown (hts (.methodLink RX0 55 Lib.Math.min.name) (List.mem_of_getElem? (i := 3) rfl)) (hts (.static Lib.Math.min.name) (List.mem_of_getElem? (i := 4) rfl)) (hts (.initialized "java/lang/Math") (List.mem_of_getElem? (i := 5) rfl)) (hts (.code Lib.Math.min.name Lib.Math.min.code 2 (some .int)) (List.mem_of_getElem? (i := 6) rfl)) (Nat.le_of_ble_eq_true rfl) (Nat.le_of_ble_eq_true rfl) (Nat.le_of_ble_eq_true rfl) (Nat.le_of_ble_eq_true rfl) dX0_reckon_28 ?_
        refine lv_goto (tgt := 35) hx hb dX0_reckon_31 (by decide) ?_
        refine gk_put (f' := (gE K bud fsd las bas mvi mva ear vln vda vam vrf (va_up el a (if rest < (vam a) then rest else (vam a))) vnx)) (v := .int (if rest < (vam a) then rest else (vam a))) (ty := .int) (C := RX1) (T := TX1) (N := 6) hx hb hts hi1 tyX1 tyX1_ok nmX1 hown hK hP hD hS hLa (gE_1 hKa) rfl 4 (by decide) (hts (.fieldLink RX0 61 "GrantBook$Voucher" "eligible" "I") (List.mem_of_getElem? (i := 7) rfl)) (fun _ h9 => h9) rfl (by decide +kernel) rfl rfl (Nat.le_of_ble_eq_true rfl) (gU_vel hKa (if rest < (vam a) then rest else (vam a))) dX0_reckon_35 (fun H locs hP hD hS => ?_)
        obtain ⟨vel_5, evel_5⟩ : ∃ z, z = (va_up el a (if rest < (vam a) then rest else (vam a))) := ⟨_, rfl⟩
        rw [← evel_5] at hP hD
        refine lv_iload_n hx hb dX0_reckon_38 rfl (lv_at hl 1 rfl) ?_
        refine lv_aload_n hx hb dX0_reckon_39 rfl (lv_at hl 0 rfl) ?_
        refine gk_get (C := RX1) (T := TX1) (N := 6) (v := .int (vel_5 a)) hx hb hts hi1 hown hK hP hLa (gE_1 hKa) rfl 4 (by decide) (hts (.fieldLink RX0 61 "GrantBook$Voucher" "eligible" "I") (List.mem_of_getElem? (i := 7) rfl)) (fun _ h9 => h9) rfl dX0_reckon_40 ?_
        refine lv_isub hx hb dX0_reckon_43 ?_
        refine lv_istore_n (lv' := [(1, .int (rest - (vel_5 a))), (2, .ref a), (0, .ref h0)]) hx hb dX0_reckon_44 rfl hl (by decide) rfl (fun ls hl => ?_)
        refine lv_aload_n hx hb dX0_reckon_45 rfl (lv_at hl 1 rfl) ?_
        refine gk_get (C := RX1) (T := TX1) (N := 6) (v := va_rf (vnx a)) hx hb hts hi1 hown hK hP hLa (gE_1 hKa) rfl 5 (by decide) (hts (.fieldLink RX0 41 "GrantBook$Voucher" "next" "LGrantBook$Voucher;") (List.mem_of_getElem? (i := 8) rfl)) (fun _ h9 => h9) rfl dX0_reckon_46 ?_
        rcases hq_6 : vnx a with _ | a_6
        · refine lv_astore_nN (lv' := [(2, .null), (1, .int (rest - (vel_5 a))), (0, .ref h0)]) hx hb dX0_reckon_49 rfl hl (by decide) rfl (fun ls hl => ?_)
          refine lv_goto (tgt := 10) hx hb dX0_reckon_50 (by decide) ?_
          exact ih (vnx a) (rest - vel_5 a) vel_5 _ _ _ ho (fun y hy => hw y (List.mem_cons_of_mem _ hy)) (by rw [← he, evel_5, va_up_self]; simp only [gRk, gEl, if_neg c_2]) hP hD hS (by rw [hq_6]; exact lv_sub hl [0, 1, 2] rfl)
        · refine lv_astore_n (lv' := [(2, .ref a_6), (1, .int (rest - (vel_5 a))), (0, .ref h0)]) hx hb dX0_reckon_49 rfl hl (by decide) rfl (fun ls hl => ?_)
          refine lv_goto (tgt := 10) hx hb dX0_reckon_50 (by decide) ?_
          exact ih (vnx a) (rest - vel_5 a) vel_5 _ _ _ ho (fun y hy => hw y (List.mem_cons_of_mem _ hy)) (by rw [← he, evel_5, va_up_self]; simp only [gRk, gEl, if_neg c_2]) hP hD hS (by rw [hq_6]; exact lv_sub hl [0, 1, 2] rfl)
  refine lv_aload_n hx hb dX0_reckon_0 rfl (lv_at hl 0 rfl) ?_
  have hF_7 := gk_all hD hS hA
  refine va_calli (va_runV (As := []) (rest := []) ⟨hx, hb, hml, hown, hts⟩ (kX0_roomNow l D tys X L K bud fsd las bas mvi mva ear vln vda vam vrf vel vnx h0 hL0 hK0 s.heap.size _ rfl) (cwV 0 hts gX0_reckon_X0_roomNow rfl rfl rfl (by decide +kernel) ⟨(Nat.le_of_ble_eq_true rfl), (Nat.le_of_ble_eq_true rfl)⟩) (gk_preV hP hK hD (gk_recv hK hP hL0 (gE_0 hK0) rfl)) rfl rfl hl.1 rfl (lv_room (Nat.le_of_ble_eq_true rfl)) dX0_reckon_1 ⟨(Nat.le_of_ble_eq_true rfl), (Nat.le_of_ble_eq_true rfl)⟩) hS (fun q _ h => hF_7 q h) hF_7 (fun r_7 u_7 t_7 H locs ht_7 hvm_7 hw_7 hB_7 hz_7 hk_7 hS => ?_)
  obtain ⟨hP, hD⟩ := gk_back hF_7 hB_7 ht_7
  subst hw_7
  refine lv_istore_n (lv' := [(1, .int (bud h0 + mvi h0 - mva h0)), (0, .ref h0)]) hx hb dX0_reckon_4 rfl hl (by decide) rfl (fun ls hl => ?_)
  refine lv_aload_n hx hb dX0_reckon_5 rfl (lv_at hl 1 rfl) ?_
  refine gk_get (C := RX0) (T := TX0) (N := 7) (v := va_rf (ear h0)) hx hb hts hi0 hown hK hP hL0 (gE_0 hK0) rfl 6 (by decide) (hts (.fieldLink RX0 16 "GrantBook$Line" "earliest" "LGrantBook$Voucher;") (List.mem_of_getElem? (i := 1) rfl)) (fun _ h9 => h9) rfl dX0_reckon_6 ?_
  rcases hq_8 : ear h0 with _ | a_8
  · refine lv_astore_nN (lv' := [(2, .null), (1, .int (bud h0 + mvi h0 - mva h0)), (0, .ref h0)]) hx hb dX0_reckon_9 rfl hl (by decide) rfl (fun ls hl => ?_)
    exact loop ch (ear h0) _ vel _ _ _ hch hcl rfl hP hD hS (by rw [hq_8]; exact lv_sub hl [0, 1, 2] rfl)
  · refine lv_astore_n (lv' := [(2, .ref a_8), (1, .int (bud h0 + mvi h0 - mva h0)), (0, .ref h0)]) hx hb dX0_reckon_9 rfl hl (by decide) rfl (fun ls hl => ?_)
    exact loop ch (ear h0) _ vel _ _ _ hch hcl rfl hP hD hS (by rw [hq_8]; exact lv_sub hl [0, 1, 2] rfl)
set_option maxHeartbeats 4000000 in
set_option maxRecDepth 100000 in
theorem kX0_init (l : Launch) (D : va_G) (tys : List (ClassId × FieldType)) (X : va_W) (L : List Nat) (K : Nat → Nat) (bud fsd las bas mvi mva : Nat → Int32) (ear vln : Nat → Option Nat) (vda vam vrf vel : Nat → Int32) (vnx : Nat → Option Nat) (h0 : Nat) (hL0 : h0 ∈ L) (hK0 : K h0 = 0) (b0 f0 l0 z0 : Int32) (hz0 : z0 = 0 ∨ z0 = 1) (sz : Nat) (A : Nat → Prop) (hAe : va_A (X ++ va_pl L (gE K bud fsd las bas mvi mva ear vln vda vam vrf vel vnx)) sz = A) : Met l yX0_init wsX0_init ({ frames := 1, cells := 0, slots := 0, locals := 12 }) (va_Pc [.ref h0, .int b0, .int f0, .int l0, .int z0] (gPre D tys (X ++ va_pl L (gE K bud fsd las bas mvi mva ear vln vda vam vrf vel vnx)) sz)) (va_Qv (fun (u : (Nat → Int32) × (Nat → Int32) × (Nat → Int32) × (Nat → Int32) × (Nat → Int32) × (Nat → Int32) × (Nat → Option Nat)) => u.1 = va_up bud h0 b0 ∧ u.2.1 = va_up fsd h0 f0 ∧ u.2.2.1 = va_up las h0 l0 ∧ u.2.2.2.1 = va_up bas h0 z0 ∧ u.2.2.2.2.1 = va_up mvi h0 0 ∧ u.2.2.2.2.2.1 = va_up mva h0 0 ∧ u.2.2.2.2.2.2 = va_up ear h0 none) (fun (u : (Nat → Int32) × (Nat → Int32) × (Nat → Int32) × (Nat → Int32) × (Nat → Int32) × (Nat → Int32) × (Nat → Option Nat)) t => gPost D tys A (X ++ va_pl L (gE K u.1 u.2.1 u.2.2.1 u.2.2.2.1 u.2.2.2.2.1 u.2.2.2.2.2.1 u.2.2.2.2.2.2 vln vda vam vrf vel vnx)) t) A) 0 0 A := by
  refine Met.ofW (cc := cX0_init) (maxL := 5) (ret := none) (by decide) rfl ?_
  intro p e s m args below meth c s₁ B hml hv
  obtain ⟨rfl, hsz, hP, hK, hD0⟩ := hv
  have hx := B.exec
  have hb := B.bytes
  have hr := B.returns
  have hts := atoms_spec (ws := wsX0_init) B.pre
  have hown : s.vm.findClass RX0 = some m.cls := findClass_of_methodNamed B.named
  have hlocks := B.notSynchronized
  subst hsz
  have hin : meth.name = "<init>" := (name_of_methodNamed B.named B.method).1
  have hD := hD0.self (sz := s.heap.size)
  rw [hAe] at hD
  have hA : ∀ q : Nat, s.heap.size ≤ q → A q := fun q h => by rw [← hAe]; exact Or.inr h
  have hS : va_S A s.heap s.heap [] := va_S.rf
  have hP : va_P D vwCl (X ++ va_pl L (gE K bud fsd las bas mvi mva ear vln vda vam vrf vel vnx)) s.heap := hP
  have hi0 : ∀ w ∈ wsX00, w ∈ wsX0_init := fun _ h => List.mem_cons_of_mem _ (List.mem_append_right _ h)
  have hl := lv_entry ([.ref h0, .int b0, .int f0, .int l0, .int z0]) (n := 5) (Nat.le_of_ble_eq_true rfl)
  rw [lg_entry_eq]
  generalize (lg_sl ([.ref h0, .int b0, .int f0, .int l0, .int z0]) ++ List.replicate (5 - (lg_sl ([.ref h0, .int b0, .int f0, .int l0, .int z0])).length) Slot.unset).toArray = ls at hl ⊢
  have hl : lv_has ls 5 [(0, .ref h0), (1, .int b0), (2, .int f0), (3, .int l0), (4, .int z0)] := hl
  refine lv_aload_n hx hb dX0_init_0 rfl (lv_at hl 0 rfl) ?_
  refine W.objInit hx hb hown (hts (.methodLink RX0 1 objectInit) (List.mem_of_getElem? (i := 1) rfl)) (hts (.instanceMethod objectInit) (List.mem_of_getElem? (i := 2) rfl)) (hts (.code objectInit ⟨#[0xb1]⟩ 1 none) (List.mem_of_getElem? (i := 3) rfl)) rfl (by rw [hml]; exact hl.1) rfl dX0_init_1 (Nat.le_of_ble_eq_true rfl) (Nat.le_of_ble_eq_true rfl) ?_
  refine W.eq (g2 := F0 m 4 ls []) rfl ?_
  refine lv_aload_n hx hb dX0_init_4 rfl (lv_at hl 0 rfl) ?_
  refine lv_iconst (v := 0) hx hb dX0_init_5 (by decide) ?_
  refine gk_put (f' := (gE K bud fsd las bas (va_up mvi h0 0) mva ear vln vda vam vrf vel vnx)) (v := .int 0) (ty := .int) (C := RX0) (T := TX0) (N := 7) hx hb hts hi0 tyX0 tyX0_ok nmX0 hown hK hP hD hS hL0 (gE_0 hK0) rfl 4 (by decide) (hts (.fieldLink RX0 7 "GrantBook$Line" "movedIn" "I") (List.mem_of_getElem? (i := 4) rfl)) (fun _ h9 => h9) rfl (by decide +kernel) rfl rfl (Nat.le_of_ble_eq_true rfl) (gU_mvi hK0 0) dX0_init_6 (fun H locs hP hD hS => ?_)
  obtain ⟨mvi_1, emvi_1⟩ : ∃ z, z = (va_up mvi h0 0) := ⟨_, rfl⟩
  rw [← emvi_1] at hP hD
  refine lv_aload_n hx hb dX0_init_9 rfl (lv_at hl 0 rfl) ?_
  refine lv_iconst (v := 0) hx hb dX0_init_10 (by decide) ?_
  refine gk_put (f' := (gE K bud fsd las bas mvi_1 (va_up mva h0 0) ear vln vda vam vrf vel vnx)) (v := .int 0) (ty := .int) (C := RX0) (T := TX0) (N := 7) hx hb hts hi0 tyX0 tyX0_ok nmX0 hown hK hP hD hS hL0 (gE_0 hK0) rfl 5 (by decide) (hts (.fieldLink RX0 13 "GrantBook$Line" "movedAway" "I") (List.mem_of_getElem? (i := 5) rfl)) (fun _ h9 => h9) rfl (by decide +kernel) rfl rfl (Nat.le_of_ble_eq_true rfl) (gU_mva hK0 0) dX0_init_11 (fun H locs hP hD hS => ?_)
  obtain ⟨mva_2, emva_2⟩ : ∃ z, z = (va_up mva h0 0) := ⟨_, rfl⟩
  rw [← emva_2] at hP hD
  refine lv_aload_n hx hb dX0_init_14 rfl (lv_at hl 0 rfl) ?_
  refine lv_null hx hb dX0_init_15 ?_
  refine gk_put (f' := (gE K bud fsd las bas mvi_1 mva_2 (va_up ear h0 none) vln vda vam vrf vel vnx)) (v := .null) (ty := (.object "GrantBook$Voucher")) (C := RX0) (T := TX0) (N := 7) hx hb hts hi0 tyX0 tyX0_ok nmX0 hown hK hP hD hS hL0 (gE_0 hK0) rfl 6 (by decide) (hts (.fieldLink RX0 16 "GrantBook$Line" "earliest" "LGrantBook$Voucher;") (List.mem_of_getElem? (i := 6) rfl)) (fun _ h9 => h9) rfl (by decide +kernel) rfl rfl (Nat.le_of_ble_eq_true rfl) (gU_ear hK0 none) dX0_init_16 (fun H locs hP hD hS => ?_)
  obtain ⟨ear_3, eear_3⟩ : ∃ z, z = (va_up ear h0 none) := ⟨_, rfl⟩
  rw [← eear_3] at hP hD
  refine lv_aload_n hx hb dX0_init_19 rfl (lv_at hl 0 rfl) ?_
  refine lv_iload_n hx hb dX0_init_20 rfl (lv_at hl 1 rfl) ?_
  refine gk_putF (f' := (gE K (va_up bud h0 b0) fsd las bas mvi_1 mva_2 ear_3 vln vda vam vrf vel vnx)) (v := .int b0) (ty := .int) (C := RX0) (T := TX0) (N := 7) hx hb hts hi0 tyX0 tyX0_ok nmX0 hown hK hP hD hS hL0 (gE_0 hK0) rfl 0 (by decide) (hts (.fieldLink RX0 20 "GrantBook$Line" "budget" "I") (List.mem_of_getElem? (i := 7) rfl)) (fun _ h9 => h9) rfl hin rfl (by decide +kernel) rfl rfl (Nat.le_of_ble_eq_true rfl) (gU_bud hK0 b0) dX0_init_21 (fun H locs hP hD hS => ?_)
  obtain ⟨bud_4, ebud_4⟩ : ∃ z, z = (va_up bud h0 b0) := ⟨_, rfl⟩
  rw [← ebud_4] at hP hD
  refine lv_aload_n hx hb dX0_init_24 rfl (lv_at hl 0 rfl) ?_
  refine lv_iload_n hx hb dX0_init_25 rfl (lv_at hl 2 rfl) ?_
  refine gk_putF (f' := (gE K bud_4 (va_up fsd h0 f0) las bas mvi_1 mva_2 ear_3 vln vda vam vrf vel vnx)) (v := .int f0) (ty := .int) (C := RX0) (T := TX0) (N := 7) hx hb hts hi0 tyX0 tyX0_ok nmX0 hown hK hP hD hS hL0 (gE_0 hK0) rfl 1 (by decide) (hts (.fieldLink RX0 23 "GrantBook$Line" "first" "I") (List.mem_of_getElem? (i := 8) rfl)) (fun _ h9 => h9) rfl hin rfl (by decide +kernel) rfl rfl (Nat.le_of_ble_eq_true rfl) (gU_fsd hK0 f0) dX0_init_26 (fun H locs hP hD hS => ?_)
  obtain ⟨fsd_5, efsd_5⟩ : ∃ z, z = (va_up fsd h0 f0) := ⟨_, rfl⟩
  rw [← efsd_5] at hP hD
  refine lv_aload_n hx hb dX0_init_29 rfl (lv_at hl 0 rfl) ?_
  refine lv_iload_n hx hb dX0_init_30 rfl (lv_at hl 3 rfl) ?_
  refine gk_put (f' := (gE K bud_4 fsd_5 (va_up las h0 l0) bas mvi_1 mva_2 ear_3 vln vda vam vrf vel vnx)) (v := .int l0) (ty := .int) (C := RX0) (T := TX0) (N := 7) hx hb hts hi0 tyX0 tyX0_ok nmX0 hown hK hP hD hS hL0 (gE_0 hK0) rfl 2 (by decide) (hts (.fieldLink RX0 26 "GrantBook$Line" "last" "I") (List.mem_of_getElem? (i := 9) rfl)) (fun _ h9 => h9) rfl (by decide +kernel) rfl rfl (Nat.le_of_ble_eq_true rfl) (gU_las hK0 l0) dX0_init_31 (fun H locs hP hD hS => ?_)
  obtain ⟨las_6, elas_6⟩ : ∃ z, z = (va_up las h0 l0) := ⟨_, rfl⟩
  rw [← elas_6] at hP hD
  refine lv_aload_n hx hb dX0_init_34 rfl (lv_at hl 0 rfl) ?_
  refine lv_iload hx hb dX0_init_35 (lv_at hl 4 rfl) ?_
  refine gk_putF (f' := (gE K bud_4 fsd_5 las_6 (va_up bas h0 z0) mvi_1 mva_2 ear_3 vln vda vam vrf vel vnx)) (v := .int z0) (ty := .boolean) (C := RX0) (T := TX0) (N := 7) hx hb hts hi0 tyX0 tyX0_ok nmX0 hown hK hP hD hS hL0 (gE_0 hK0) rfl 3 (by decide) (hts (.fieldLink RX0 29 "GrantBook$Line" "isInBase" "Z") (List.mem_of_getElem? (i := 10) rfl)) (fun _ h9 => h9) rfl hin rfl (by decide +kernel) (by rcases hz0 with rfl | rfl <;> decide) (by rcases hz0 with rfl | rfl <;> decide) (Nat.le_of_ble_eq_true rfl) (gU_bas hK0 z0) dX0_init_37 (fun H locs hP hD hS => ?_)
  obtain ⟨bas_7, ebas_7⟩ : ∃ z, z = (va_up bas h0 z0) := ⟨_, rfl⟩
  rw [← ebas_7] at hP hD
  refine W.widen (k := 0) (n := 0) (Nat.le_of_ble_eq_true rfl) (Nat.le_of_ble_eq_true rfl) ?_
  exact W.vret hx hb hr (fun t ht hW => ⟨⟨(bud_4, fsd_5, las_6, bas_7, mvi_1, mva_2, ear_3), rfl, ⟨ebud_4, efsd_5, elas_6, ebas_7, emvi_1, emva_2, eear_3⟩, by rw [ht]; exact hP, va_K.moved hW.alike hK, hD⟩, hS.F ht⟩) hS.2.2 dX0_init_40
set_option maxHeartbeats 4000000 in
set_option maxRecDepth 100000 in
theorem kX1_init (l : Launch) (D : va_G) (tys : List (ClassId × FieldType)) (X : va_W) (L : List Nat) (K : Nat → Nat) (bud fsd las bas mvi mva : Nat → Int32) (ear vln : Nat → Option Nat) (vda vam vrf vel : Nat → Int32) (vnx : Nat → Option Nat) (h0 : Nat) (hL0 : h0 ∈ L) (hK0 : K h0 = 1) (la0 : Nat) (d0 a0 : Int32) (sz : Nat) (A : Nat → Prop) (hAe : va_A (X ++ va_pl L (gE K bud fsd las bas mvi mva ear vln vda vam vrf vel vnx)) sz = A) : Met l yX1_init wsX1_init ({ frames := 1, cells := 0, slots := 0, locals := 12 }) (va_Pc [.ref h0, .ref la0, .int d0, .int a0] (gPre D tys (X ++ va_pl L (gE K bud fsd las bas mvi mva ear vln vda vam vrf vel vnx)) sz)) (va_Qv (fun (u : (Nat → Option Nat) × (Nat → Int32) × (Nat → Int32) × (Nat → Int32) × (Nat → Int32) × (Nat → Option Nat)) => u.1 = va_up vln h0 (some la0) ∧ u.2.1 = va_up vda h0 d0 ∧ u.2.2.1 = va_up vam h0 a0 ∧ u.2.2.2.1 = va_up vrf h0 0 ∧ u.2.2.2.2.1 = va_up vel h0 0 ∧ u.2.2.2.2.2 = va_up vnx h0 none) (fun (u : (Nat → Option Nat) × (Nat → Int32) × (Nat → Int32) × (Nat → Int32) × (Nat → Int32) × (Nat → Option Nat)) t => gPost D tys A (X ++ va_pl L (gE K bud fsd las bas mvi mva ear u.1 u.2.1 u.2.2.1 u.2.2.2.1 u.2.2.2.2.1 u.2.2.2.2.2)) t) A) 0 0 A := by
  refine Met.ofW (cc := cX1_init) (maxL := 4) (ret := none) (by decide) rfl ?_
  intro p e s m args below meth c s₁ B hml hv
  obtain ⟨rfl, hsz, hP, hK, hD0⟩ := hv
  have hx := B.exec
  have hb := B.bytes
  have hr := B.returns
  have hts := atoms_spec (ws := wsX1_init) B.pre
  have hown : s.vm.findClass RX1 = some m.cls := findClass_of_methodNamed B.named
  have hlocks := B.notSynchronized
  subst hsz
  have hin : meth.name = "<init>" := (name_of_methodNamed B.named B.method).1
  have hD := hD0.self (sz := s.heap.size)
  rw [hAe] at hD
  have hA : ∀ q : Nat, s.heap.size ≤ q → A q := fun q h => by rw [← hAe]; exact Or.inr h
  have hS : va_S A s.heap s.heap [] := va_S.rf
  have hP : va_P D vwCl (X ++ va_pl L (gE K bud fsd las bas mvi mva ear vln vda vam vrf vel vnx)) s.heap := hP
  have hi1 : ∀ w ∈ wsX10, w ∈ wsX1_init := fun _ h => List.mem_cons_of_mem _ (List.mem_append_right _ h)
  have hl := lv_entry ([.ref h0, .ref la0, .int d0, .int a0]) (n := 4) (Nat.le_of_ble_eq_true rfl)
  rw [lg_entry_eq]
  generalize (lg_sl ([.ref h0, .ref la0, .int d0, .int a0]) ++ List.replicate (4 - (lg_sl ([.ref h0, .ref la0, .int d0, .int a0])).length) Slot.unset).toArray = ls at hl ⊢
  have hl : lv_has ls 4 [(0, .ref h0), (1, .ref la0), (2, .int d0), (3, .int a0)] := hl
  refine lv_aload_n hx hb dX1_init_0 rfl (lv_at hl 0 rfl) ?_
  refine W.objInit hx hb hown (hts (.methodLink RX1 1 objectInit) (List.mem_of_getElem? (i := 1) rfl)) (hts (.instanceMethod objectInit) (List.mem_of_getElem? (i := 2) rfl)) (hts (.code objectInit ⟨#[0xb1]⟩ 1 none) (List.mem_of_getElem? (i := 3) rfl)) rfl (by rw [hml]; exact hl.1) rfl dX1_init_1 (Nat.le_of_ble_eq_true rfl) (Nat.le_of_ble_eq_true rfl) ?_
  refine W.eq (g2 := F0 m 4 ls []) rfl ?_
  refine lv_aload_n hx hb dX1_init_4 rfl (lv_at hl 0 rfl) ?_
  refine lv_iconst (v := 0) hx hb dX1_init_5 (by decide) ?_
  refine gk_put (f' := (gE K bud fsd las bas mvi mva ear vln vda vam (va_up vrf h0 0) vel vnx)) (v := .int 0) (ty := .boolean) (C := RX1) (T := TX1) (N := 6) hx hb hts hi1 tyX1 tyX1_ok nmX1 hown hK hP hD hS hL0 (gE_1 hK0) rfl 3 (by decide) (hts (.fieldLink RX1 7 "GrantBook$Voucher" "isRefused" "Z") (List.mem_of_getElem? (i := 4) rfl)) (fun _ h9 => h9) rfl (by decide +kernel) rfl rfl (Nat.le_of_ble_eq_true rfl) (gU_vrf hK0 0) dX1_init_6 (fun H locs hP hD hS => ?_)
  obtain ⟨vrf_1, evrf_1⟩ : ∃ z, z = (va_up vrf h0 0) := ⟨_, rfl⟩
  rw [← evrf_1] at hP hD
  refine lv_aload_n hx hb dX1_init_9 rfl (lv_at hl 0 rfl) ?_
  refine lv_iconst (v := 0) hx hb dX1_init_10 (by decide) ?_
  refine gk_put (f' := (gE K bud fsd las bas mvi mva ear vln vda vam vrf_1 (va_up vel h0 0) vnx)) (v := .int 0) (ty := .int) (C := RX1) (T := TX1) (N := 6) hx hb hts hi1 tyX1 tyX1_ok nmX1 hown hK hP hD hS hL0 (gE_1 hK0) rfl 4 (by decide) (hts (.fieldLink RX1 13 "GrantBook$Voucher" "eligible" "I") (List.mem_of_getElem? (i := 5) rfl)) (fun _ h9 => h9) rfl (by decide +kernel) rfl rfl (Nat.le_of_ble_eq_true rfl) (gU_vel hK0 0) dX1_init_11 (fun H locs hP hD hS => ?_)
  obtain ⟨vel_2, evel_2⟩ : ∃ z, z = (va_up vel h0 0) := ⟨_, rfl⟩
  rw [← evel_2] at hP hD
  refine lv_aload_n hx hb dX1_init_14 rfl (lv_at hl 0 rfl) ?_
  refine lv_null hx hb dX1_init_15 ?_
  refine gk_put (f' := (gE K bud fsd las bas mvi mva ear vln vda vam vrf_1 vel_2 (va_up vnx h0 none))) (v := .null) (ty := (.object "GrantBook$Voucher")) (C := RX1) (T := TX1) (N := 6) hx hb hts hi1 tyX1 tyX1_ok nmX1 hown hK hP hD hS hL0 (gE_1 hK0) rfl 5 (by decide) (hts (.fieldLink RX1 17 "GrantBook$Voucher" "next" "LGrantBook$Voucher;") (List.mem_of_getElem? (i := 6) rfl)) (fun _ h9 => h9) rfl (by decide +kernel) rfl rfl (Nat.le_of_ble_eq_true rfl) (gU_vnx hK0 none) dX1_init_16 (fun H locs hP hD hS => ?_)
  obtain ⟨vnx_3, evnx_3⟩ : ∃ z, z = (va_up vnx h0 none) := ⟨_, rfl⟩
  rw [← evnx_3] at hP hD
  refine lv_aload_n hx hb dX1_init_19 rfl (lv_at hl 0 rfl) ?_
  refine lv_aload_n hx hb dX1_init_20 rfl (lv_at hl 1 rfl) ?_
  refine gk_putF (f' := (gE K bud fsd las bas mvi mva ear (va_up vln h0 (some la0)) vda vam vrf_1 vel_2 vnx_3)) (v := va_rf (some la0)) (ty := (.object "GrantBook$Line")) (C := RX1) (T := TX1) (N := 6) hx hb hts hi1 tyX1 tyX1_ok nmX1 hown hK hP hD hS hL0 (gE_1 hK0) rfl 0 (by decide) (hts (.fieldLink RX1 21 "GrantBook$Voucher" "line" "LGrantBook$Line;") (List.mem_of_getElem? (i := 7) rfl)) (fun _ h9 => h9) rfl hin rfl (by decide +kernel) rfl rfl (Nat.le_of_ble_eq_true rfl) (gU_vln hK0 (some la0)) dX1_init_21 (fun H locs hP hD hS => ?_)
  obtain ⟨vln_4, evln_4⟩ : ∃ z, z = (va_up vln h0 (some la0)) := ⟨_, rfl⟩
  rw [← evln_4] at hP hD
  refine lv_aload_n hx hb dX1_init_24 rfl (lv_at hl 0 rfl) ?_
  refine lv_iload_n hx hb dX1_init_25 rfl (lv_at hl 2 rfl) ?_
  refine gk_putF (f' := (gE K bud fsd las bas mvi mva ear vln_4 (va_up vda h0 d0) vam vrf_1 vel_2 vnx_3)) (v := .int d0) (ty := .int) (C := RX1) (T := TX1) (N := 6) hx hb hts hi1 tyX1 tyX1_ok nmX1 hown hK hP hD hS hL0 (gE_1 hK0) rfl 1 (by decide) (hts (.fieldLink RX1 25 "GrantBook$Voucher" "day" "I") (List.mem_of_getElem? (i := 8) rfl)) (fun _ h9 => h9) rfl hin rfl (by decide +kernel) rfl rfl (Nat.le_of_ble_eq_true rfl) (gU_vda hK0 d0) dX1_init_26 (fun H locs hP hD hS => ?_)
  obtain ⟨vda_5, evda_5⟩ : ∃ z, z = (va_up vda h0 d0) := ⟨_, rfl⟩
  rw [← evda_5] at hP hD
  refine lv_aload_n hx hb dX1_init_29 rfl (lv_at hl 0 rfl) ?_
  refine lv_iload_n hx hb dX1_init_30 rfl (lv_at hl 3 rfl) ?_
  refine gk_putF (f' := (gE K bud fsd las bas mvi mva ear vln_4 vda_5 (va_up vam h0 a0) vrf_1 vel_2 vnx_3)) (v := .int a0) (ty := .int) (C := RX1) (T := TX1) (N := 6) hx hb hts hi1 tyX1 tyX1_ok nmX1 hown hK hP hD hS hL0 (gE_1 hK0) rfl 2 (by decide) (hts (.fieldLink RX1 28 "GrantBook$Voucher" "amount" "I") (List.mem_of_getElem? (i := 9) rfl)) (fun _ h9 => h9) rfl hin rfl (by decide +kernel) rfl rfl (Nat.le_of_ble_eq_true rfl) (gU_vam hK0 a0) dX1_init_31 (fun H locs hP hD hS => ?_)
  obtain ⟨vam_6, evam_6⟩ : ∃ z, z = (va_up vam h0 a0) := ⟨_, rfl⟩
  rw [← evam_6] at hP hD
  refine W.widen (k := 0) (n := 0) (Nat.le_of_ble_eq_true rfl) (Nat.le_of_ble_eq_true rfl) ?_
  exact W.vret hx hb hr (fun t ht hW => ⟨⟨(vln_4, vda_5, vam_6, vrf_1, vel_2, vnx_3), rfl, ⟨evln_4, evda_5, evam_6, evrf_1, evel_2, evnx_3⟩, by rw [ht]; exact hP, va_K.moved hW.alike hK, hD⟩, hS.F ht⟩) hS.2.2 dX1_init_34
set_option maxHeartbeats 4000000 in
set_option maxRecDepth 100000 in
theorem kX0_putInOrder (l : Launch) (D : va_G) (tys : List (ClassId × FieldType)) (X : va_W) (L : List Nat) (K : Nat → Nat) (bud fsd las bas mvi mva : Nat → Int32) (ear vln : Nat → Option Nat) (vda vam vrf vel : Nat → Int32) (vnx : Nat → Option Nat) (h0 : Nat) (hL0 : h0 ∈ L) (hK0 : K h0 = 0) (v0 : Nat) (hLv : v0 ∈ L) (hKv : K v0 = 1) (ch : List Nat) (hch : gCh vnx (ear h0) ch) (hcl : ∀ y ∈ ch, y ∈ L ∧ K y = 1) (hvc : v0 ∉ ch) (sz : Nat) (A : Nat → Prop) (hAe : va_A (X ++ va_pl L (gE K bud fsd las bas mvi mva ear vln vda vam vrf vel vnx)) sz = A) : Met l yX0_putInOrder wsX0_putInOrder ({ frames := 0, cells := 0, slots := 0, locals := 0 }) (va_Pc [.ref h0, .ref v0] (gPre D tys (X ++ va_pl L (gE K bud fsd las bas mvi mva ear vln vda vam vrf vel vnx)) sz)) (va_Qv (fun (u : (Nat → Option Nat) × (Nat → Option Nat)) => gCh u.2 (u.1 h0) (gFr vda (vda v0) ch ++ v0 :: gBk vda (vda v0) ch) ∧ (∀ y, y ∉ v0 :: ch → u.2 y = vnx y) ∧ ∀ y, y ≠ h0 → u.1 y = ear y) (fun (u : (Nat → Option Nat) × (Nat → Option Nat)) t => gPost D tys A (X ++ va_pl L (gE K bud fsd las bas mvi mva u.1 vln vda vam vrf vel u.2)) t) A) 0 0 A := by
  refine Met.ofW (cc := cX0_putInOrder) (maxL := 4) (ret := none) (by decide) rfl ?_
  intro p e s m args below meth c s₁ B hml hv
  obtain ⟨rfl, hsz, hP, hK, hD0⟩ := hv
  have hx := B.exec
  have hb := B.bytes
  have hr := B.returns
  have hts := atoms_spec (ws := wsX0_putInOrder) B.pre
  have hown : s.vm.findClass RX0 = some m.cls := findClass_of_methodNamed B.named
  have hlocks := B.notSynchronized
  subst hsz
  have hD := hD0.self (sz := s.heap.size)
  rw [hAe] at hD
  have hA : ∀ q : Nat, s.heap.size ≤ q → A q := fun q h => by rw [← hAe]; exact Or.inr h
  have hS : va_S A s.heap s.heap [] := va_S.rf
  have hP : va_P D vwCl (X ++ va_pl L (gE K bud fsd las bas mvi mva ear vln vda vam vrf vel vnx)) s.heap := hP
  have hi0 : ∀ w ∈ wsX00, w ∈ wsX0_putInOrder := fun _ h => List.mem_cons_of_mem _ (List.mem_append_left _ (List.mem_append_right _ h))
  have hi1 : ∀ w ∈ wsX10, w ∈ wsX0_putInOrder := fun _ h => List.mem_cons_of_mem _ (List.mem_append_right _ h)
  have hl := lv_entry ([.ref h0, .ref v0]) (n := 4) (Nat.le_of_ble_eq_true rfl)
  rw [lg_entry_eq]
  generalize (lg_sl ([.ref h0, .ref v0]) ++ List.replicate (4 - (lg_sl ([.ref h0, .ref v0])).length) Slot.unset).toArray = ls at hl ⊢
  have hl : lv_has ls 4 [(0, .ref h0), (1, .ref v0)] := hl
  have loop : ∀ (w : List Nat) (o : Option Nat) (pr : List Nat) (H : Heap) (locs : List Loc) (ls : Array Slot), gCh vnx o w → ch = pr ++ w → gFr vda (vda v0) ch = pr ++ gFr vda (vda v0) w → gBk vda (vda v0) ch = gBk vda (vda v0) w → va_P D vwCl (X ++ va_pl L (gE K bud fsd las bas mvi mva ear vln vda vam vrf vel vnx)) H → va_D A (X ++ va_pl L (gE K bud fsd las bas mvi mva ear vln vda vam vrf vel vnx)) → va_S A s.heap H locs → lv_has ls 4 [(3, va_rf o), (2, va_rf pr.getLast?), (0, .ref h0), (1, .ref v0)] → W p l e (headSpec wsX0_putInOrder ({ frames := 0, cells := 0, slots := 0, locals := 0 })).room s m ([.ref h0, .ref v0] : List Value).toArray below meth c H locs 0 0 (MQ below (va_Qv (fun (u : (Nat → Option Nat) × (Nat → Option Nat)) => gCh u.2 (u.1 h0) (gFr vda (vda v0) ch ++ v0 :: gBk vda (vda v0) ch) ∧ (∀ y, y ∉ v0 :: ch → u.2 y = vnx y) ∧ ∀ y, y ≠ h0 → u.1 y = ear y) (fun (u : (Nat → Option Nat) × (Nat → Option Nat)) t => gPost D tys A (X ++ va_pl L (gE K bud fsd las bas mvi mva u.1 vln vda vam vrf vel u.2)) t) A) ([.ref h0, .ref v0] : List Value).toArray s 0 0 A) (F0 m 7 ls []) := by
    intro w
    induction w with
    | nil =>
      intro o pr H locs ls ho hc hf hb9 hP hD hS hl
      obtain rfl : o = none := ho
      rcases hpr : pr.getLast? with _ | x
      · rw [hpr] at hl
        have hl : lv_has ls 4 [(3, .null), (2, .null), (0, .ref h0), (1, .ref v0)] := hl
        obtain rfl : pr = [] := List.getLast?_eq_none_iff.mp hpr
        refine lv_aload_nN hx hb dX0_putInOrder_7 rfl (lv_at hl 0 rfl) ?_
        refine lv_ifnullN (tgt := 32) hx hb dX0_putInOrder_8 (by decide) ?_
        refine lv_aload_nN hx hb dX0_putInOrder_32 rfl (lv_at hl 1 rfl) ?_
        refine lv_ifnonnullN hx hb dX0_putInOrder_33 ?_
        refine lv_aload_n hx hb dX0_putInOrder_36 rfl (lv_at hl 3 rfl) ?_
        refine lv_aload_n hx hb dX0_putInOrder_37 rfl (lv_at hl 2 rfl) ?_
        refine gk_get (C := RX0) (T := TX0) (N := 7) (v := va_rf (ear h0)) hx hb hts hi0 hown hK hP hL0 (gE_0 hK0) rfl 6 (by decide) (hts (.fieldLink RX0 16 "GrantBook$Line" "earliest" "LGrantBook$Voucher;") (List.mem_of_getElem? (i := 1) rfl)) (fun _ h9 => h9) rfl dX0_putInOrder_38 ?_
        rcases hq_1 : ear h0 with _ | a_1
        · refine gk_put (f' := (gE K bud fsd las bas mvi mva ear vln vda vam vrf vel (va_up vnx v0 none))) (v := .null) (ty := (.object "GrantBook$Voucher")) (C := RX1) (T := TX1) (N := 6) hx hb hts hi1 tyX1 tyX1_ok nmX1 hown hK hP hD hS hLv (gE_1 hKv) rfl 5 (by decide) (hts (.fieldLink RX0 41 "GrantBook$Voucher" "next" "LGrantBook$Voucher;") (List.mem_of_getElem? (i := 3) rfl)) (fun _ h9 => h9) rfl (by decide +kernel) rfl rfl (Nat.le_of_ble_eq_true rfl) (gU_vnx hKv none) dX0_putInOrder_41 (fun H locs hP hD hS => ?_)
          obtain ⟨vnx_2, evnx_2⟩ : ∃ z, z = (va_up vnx v0 none) := ⟨_, rfl⟩
          rw [← evnx_2] at hP hD
          refine lv_aload_n hx hb dX0_putInOrder_44 rfl (lv_at hl 2 rfl) ?_
          refine lv_aload_n hx hb dX0_putInOrder_45 rfl (lv_at hl 3 rfl) ?_
          refine gk_put (f' := (gE K bud fsd las bas mvi mva (va_up ear h0 (some v0)) vln vda vam vrf vel vnx_2)) (v := va_rf (some v0)) (ty := (.object "GrantBook$Voucher")) (C := RX0) (T := TX0) (N := 7) hx hb hts hi0 tyX0 tyX0_ok nmX0 hown hK hP hD hS hL0 (gE_0 hK0) rfl 6 (by decide) (hts (.fieldLink RX0 16 "GrantBook$Line" "earliest" "LGrantBook$Voucher;") (List.mem_of_getElem? (i := 1) rfl)) (fun _ h9 => h9) rfl (by decide +kernel) rfl rfl (Nat.le_of_ble_eq_true rfl) (gU_ear hK0 (some v0)) dX0_putInOrder_46 (fun H locs hP hD hS => ?_)
          obtain ⟨ear_3, eear_3⟩ : ∃ z, z = (va_up ear h0 (some v0)) := ⟨_, rfl⟩
          rw [← eear_3] at hP hD
          refine lv_goto (tgt := 65) hx hb dX0_putInOrder_49 (by decide) ?_
          refine W.widen (k := 0) (n := 0) (Nat.le_of_ble_eq_true rfl) (Nat.le_of_ble_eq_true rfl) ?_
          exact W.vret hx hb hr (fun t ht hW => ⟨⟨(ear_3, vnx_2), rfl, (gPut0 eear_3 (by rw [evnx_2, hq_1]) (by rw [hf]; exact List.append_nil _) (by rw [hb9]; rfl) hch hvc hc), by rw [ht]; exact hP, va_K.moved hW.alike hK, hD⟩, hS.F ht⟩) hS.2.2 dX0_putInOrder_65
        · refine gk_put (f' := (gE K bud fsd las bas mvi mva ear vln vda vam vrf vel (va_up vnx v0 (some a_1)))) (v := va_rf (some a_1)) (ty := (.object "GrantBook$Voucher")) (C := RX1) (T := TX1) (N := 6) hx hb hts hi1 tyX1 tyX1_ok nmX1 hown hK hP hD hS hLv (gE_1 hKv) rfl 5 (by decide) (hts (.fieldLink RX0 41 "GrantBook$Voucher" "next" "LGrantBook$Voucher;") (List.mem_of_getElem? (i := 3) rfl)) (fun _ h9 => h9) rfl (by decide +kernel) rfl rfl (Nat.le_of_ble_eq_true rfl) (gU_vnx hKv (some a_1)) dX0_putInOrder_41 (fun H locs hP hD hS => ?_)
          obtain ⟨vnx_4, evnx_4⟩ : ∃ z, z = (va_up vnx v0 (some a_1)) := ⟨_, rfl⟩
          rw [← evnx_4] at hP hD
          refine lv_aload_n hx hb dX0_putInOrder_44 rfl (lv_at hl 2 rfl) ?_
          refine lv_aload_n hx hb dX0_putInOrder_45 rfl (lv_at hl 3 rfl) ?_
          refine gk_put (f' := (gE K bud fsd las bas mvi mva (va_up ear h0 (some v0)) vln vda vam vrf vel vnx_4)) (v := va_rf (some v0)) (ty := (.object "GrantBook$Voucher")) (C := RX0) (T := TX0) (N := 7) hx hb hts hi0 tyX0 tyX0_ok nmX0 hown hK hP hD hS hL0 (gE_0 hK0) rfl 6 (by decide) (hts (.fieldLink RX0 16 "GrantBook$Line" "earliest" "LGrantBook$Voucher;") (List.mem_of_getElem? (i := 1) rfl)) (fun _ h9 => h9) rfl (by decide +kernel) rfl rfl (Nat.le_of_ble_eq_true rfl) (gU_ear hK0 (some v0)) dX0_putInOrder_46 (fun H locs hP hD hS => ?_)
          obtain ⟨ear_5, eear_5⟩ : ∃ z, z = (va_up ear h0 (some v0)) := ⟨_, rfl⟩
          rw [← eear_5] at hP hD
          refine lv_goto (tgt := 65) hx hb dX0_putInOrder_49 (by decide) ?_
          refine W.widen (k := 0) (n := 0) (Nat.le_of_ble_eq_true rfl) (Nat.le_of_ble_eq_true rfl) ?_
          exact W.vret hx hb hr (fun t ht hW => ⟨⟨(ear_5, vnx_4), rfl, (gPut0 eear_5 (by rw [evnx_4, hq_1]) (by rw [hf]; exact List.append_nil _) (by rw [hb9]; rfl) hch hvc hc), by rw [ht]; exact hP, va_K.moved hW.alike hK, hD⟩, hS.F ht⟩) hS.2.2 dX0_putInOrder_65
      · rw [hpr] at hl
        have hl : lv_has ls 4 [(3, .null), (2, .ref x), (0, .ref h0), (1, .ref v0)] := hl
        have hxp : x ∈ pr := List.mem_of_getLast? hpr
        obtain ⟨hLx, hKx⟩ := hcl x (by rw [hc]; exact List.mem_append_left _ hxp)
        refine lv_aload_nN hx hb dX0_putInOrder_7 rfl (lv_at hl 0 rfl) ?_
        refine lv_ifnullN (tgt := 32) hx hb dX0_putInOrder_8 (by decide) ?_
        refine lv_aload_n hx hb dX0_putInOrder_32 rfl (lv_at hl 1 rfl) ?_
        refine lv_ifnonnull (tgt := 52) hx hb dX0_putInOrder_33 (by decide) ?_
        refine lv_aload_n hx hb dX0_putInOrder_52 rfl (lv_at hl 3 rfl) ?_
        refine lv_aload_n hx hb dX0_putInOrder_53 rfl (lv_at hl 1 rfl) ?_
        refine gk_get (C := RX1) (T := TX1) (N := 6) (v := va_rf (vnx x)) hx hb hts hi1 hown hK hP hLx (gE_1 hKx) rfl 5 (by decide) (hts (.fieldLink RX0 41 "GrantBook$Voucher" "next" "LGrantBook$Voucher;") (List.mem_of_getElem? (i := 3) rfl)) (fun _ h9 => h9) rfl dX0_putInOrder_54 ?_
        rcases hq_6 : vnx x with _ | a_6
        · refine gk_put (f' := (gE K bud fsd las bas mvi mva ear vln vda vam vrf vel (va_up vnx v0 none))) (v := .null) (ty := (.object "GrantBook$Voucher")) (C := RX1) (T := TX1) (N := 6) hx hb hts hi1 tyX1 tyX1_ok nmX1 hown hK hP hD hS hLv (gE_1 hKv) rfl 5 (by decide) (hts (.fieldLink RX0 41 "GrantBook$Voucher" "next" "LGrantBook$Voucher;") (List.mem_of_getElem? (i := 3) rfl)) (fun _ h9 => h9) rfl (by decide +kernel) rfl rfl (Nat.le_of_ble_eq_true rfl) (gU_vnx hKv none) dX0_putInOrder_57 (fun H locs hP hD hS => ?_)
          obtain ⟨vnx_7, evnx_7⟩ : ∃ z, z = (va_up vnx v0 none) := ⟨_, rfl⟩
          rw [← evnx_7] at hP hD
          refine lv_aload_n hx hb dX0_putInOrder_60 rfl (lv_at hl 1 rfl) ?_
          refine lv_aload_n hx hb dX0_putInOrder_61 rfl (lv_at hl 3 rfl) ?_
          refine gk_put (f' := (gE K bud fsd las bas mvi mva ear vln vda vam vrf vel (va_up vnx_7 x (some v0)))) (v := va_rf (some v0)) (ty := (.object "GrantBook$Voucher")) (C := RX1) (T := TX1) (N := 6) hx hb hts hi1 tyX1 tyX1_ok nmX1 hown hK hP hD hS hLx (gE_1 hKx) rfl 5 (by decide) (hts (.fieldLink RX0 41 "GrantBook$Voucher" "next" "LGrantBook$Voucher;") (List.mem_of_getElem? (i := 3) rfl)) (fun _ h9 => h9) rfl (by decide +kernel) rfl rfl (Nat.le_of_ble_eq_true rfl) (gU_vnx hKx (some v0)) dX0_putInOrder_62 (fun H locs hP hD hS => ?_)
          obtain ⟨vnx_8, evnx_8⟩ : ∃ z, z = (va_up vnx_7 x (some v0)) := ⟨_, rfl⟩
          rw [← evnx_8] at hP hD
          refine W.widen (k := 0) (n := 0) (Nat.le_of_ble_eq_true rfl) (Nat.le_of_ble_eq_true rfl) ?_
          exact W.vret hx hb hr (fun t ht hW => ⟨⟨(ear, vnx_8), rfl, (gPut1 (by rw [evnx_7, hq_6]) evnx_8 (by rw [hf]; exact List.append_nil _) (by rw [hb9]; rfl) hch hvc hpr hc), by rw [ht]; exact hP, va_K.moved hW.alike hK, hD⟩, hS.F ht⟩) hS.2.2 dX0_putInOrder_65
        · refine gk_put (f' := (gE K bud fsd las bas mvi mva ear vln vda vam vrf vel (va_up vnx v0 (some a_6)))) (v := va_rf (some a_6)) (ty := (.object "GrantBook$Voucher")) (C := RX1) (T := TX1) (N := 6) hx hb hts hi1 tyX1 tyX1_ok nmX1 hown hK hP hD hS hLv (gE_1 hKv) rfl 5 (by decide) (hts (.fieldLink RX0 41 "GrantBook$Voucher" "next" "LGrantBook$Voucher;") (List.mem_of_getElem? (i := 3) rfl)) (fun _ h9 => h9) rfl (by decide +kernel) rfl rfl (Nat.le_of_ble_eq_true rfl) (gU_vnx hKv (some a_6)) dX0_putInOrder_57 (fun H locs hP hD hS => ?_)
          obtain ⟨vnx_9, evnx_9⟩ : ∃ z, z = (va_up vnx v0 (some a_6)) := ⟨_, rfl⟩
          rw [← evnx_9] at hP hD
          refine lv_aload_n hx hb dX0_putInOrder_60 rfl (lv_at hl 1 rfl) ?_
          refine lv_aload_n hx hb dX0_putInOrder_61 rfl (lv_at hl 3 rfl) ?_
          refine gk_put (f' := (gE K bud fsd las bas mvi mva ear vln vda vam vrf vel (va_up vnx_9 x (some v0)))) (v := va_rf (some v0)) (ty := (.object "GrantBook$Voucher")) (C := RX1) (T := TX1) (N := 6) hx hb hts hi1 tyX1 tyX1_ok nmX1 hown hK hP hD hS hLx (gE_1 hKx) rfl 5 (by decide) (hts (.fieldLink RX0 41 "GrantBook$Voucher" "next" "LGrantBook$Voucher;") (List.mem_of_getElem? (i := 3) rfl)) (fun _ h9 => h9) rfl (by decide +kernel) rfl rfl (Nat.le_of_ble_eq_true rfl) (gU_vnx hKx (some v0)) dX0_putInOrder_62 (fun H locs hP hD hS => ?_)
          obtain ⟨vnx_10, evnx_10⟩ : ∃ z, z = (va_up vnx_9 x (some v0)) := ⟨_, rfl⟩
          rw [← evnx_10] at hP hD
          refine W.widen (k := 0) (n := 0) (Nat.le_of_ble_eq_true rfl) (Nat.le_of_ble_eq_true rfl) ?_
          exact W.vret hx hb hr (fun t ht hW => ⟨⟨(ear, vnx_10), rfl, (gPut1 (by rw [evnx_9, hq_6]) evnx_10 (by rw [hf]; exact List.append_nil _) (by rw [hb9]; rfl) hch hvc hpr hc), by rw [ht]; exact hP, va_K.moved hW.alike hK, hD⟩, hS.F ht⟩) hS.2.2 dX0_putInOrder_65
    | cons a w ih =>
      intro o pr H locs ls ho hc hf hb9 hP hD hS hl
      have hch9 := ho
      obtain ⟨rfl, ho⟩ := ho
      obtain ⟨hLa, hKa⟩ := hcl a (by rw [hc]; exact List.mem_append_right _ List.mem_cons_self)
      have hl : lv_has ls 4 [(3, .ref a), (2, va_rf (pr.getLast?)), (0, .ref h0), (1, .ref v0)] := hl
      refine lv_aload_n hx hb dX0_putInOrder_7 rfl (lv_at hl 0 rfl) ?_
      refine lv_ifnull hx hb dX0_putInOrder_8 ?_
      refine lv_aload_n hx hb dX0_putInOrder_11 rfl (lv_at hl 0 rfl) ?_
      refine gk_get (C := RX1) (T := TX1) (N := 6) (v := .int (vda a)) hx hb hts hi1 hown hK hP hLa (gE_1 hKa) rfl 1 (by decide) (hts (.fieldLink RX0 38 "GrantBook$Voucher" "day" "I") (List.mem_of_getElem? (i := 2) rfl)) (fun _ h9 => h9) rfl dX0_putInOrder_12 ?_
      refine lv_aload_n hx hb dX0_putInOrder_15 rfl (lv_at hl 3 rfl) ?_
      refine gk_get (C := RX1) (T := TX1) (N := 6) (v := .int (vda v0)) hx hb hts hi1 hown hK hP hLv (gE_1 hKv) rfl 1 (by decide) (hts (.fieldLink RX0 38 "GrantBook$Voucher" "day" "I") (List.mem_of_getElem? (i := 2) rfl)) (fun _ h9 => h9) rfl dX0_putInOrder_16 ?_
      refine lv_icmp_gt (tgt := 32) hx hb dX0_putInOrder_19 (by decide) (fun c_11 => ?_) (fun c_11 => ?_)
      · rcases hpr : pr.getLast? with _ | x
        · rw [hpr] at hl
          have hl : lv_has ls 4 [(3, .ref a), (2, .null), (0, .ref h0), (1, .ref v0)] := hl
          obtain rfl : pr = [] := List.getLast?_eq_none_iff.mp hpr
          refine lv_aload_nN hx hb dX0_putInOrder_32 rfl (lv_at hl 1 rfl) ?_
          refine lv_ifnonnullN hx hb dX0_putInOrder_33 ?_
          refine lv_aload_n hx hb dX0_putInOrder_36 rfl (lv_at hl 3 rfl) ?_
          refine lv_aload_n hx hb dX0_putInOrder_37 rfl (lv_at hl 2 rfl) ?_
          refine gk_get (C := RX0) (T := TX0) (N := 7) (v := va_rf (ear h0)) hx hb hts hi0 hown hK hP hL0 (gE_0 hK0) rfl 6 (by decide) (hts (.fieldLink RX0 16 "GrantBook$Line" "earliest" "LGrantBook$Voucher;") (List.mem_of_getElem? (i := 1) rfl)) (fun _ h9 => h9) rfl dX0_putInOrder_38 ?_
          rcases hq_12 : ear h0 with _ | a_12
          · refine gk_put (f' := (gE K bud fsd las bas mvi mva ear vln vda vam vrf vel (va_up vnx v0 none))) (v := .null) (ty := (.object "GrantBook$Voucher")) (C := RX1) (T := TX1) (N := 6) hx hb hts hi1 tyX1 tyX1_ok nmX1 hown hK hP hD hS hLv (gE_1 hKv) rfl 5 (by decide) (hts (.fieldLink RX0 41 "GrantBook$Voucher" "next" "LGrantBook$Voucher;") (List.mem_of_getElem? (i := 3) rfl)) (fun _ h9 => h9) rfl (by decide +kernel) rfl rfl (Nat.le_of_ble_eq_true rfl) (gU_vnx hKv none) dX0_putInOrder_41 (fun H locs hP hD hS => ?_)
            obtain ⟨vnx_13, evnx_13⟩ : ∃ z, z = (va_up vnx v0 none) := ⟨_, rfl⟩
            rw [← evnx_13] at hP hD
            refine lv_aload_n hx hb dX0_putInOrder_44 rfl (lv_at hl 2 rfl) ?_
            refine lv_aload_n hx hb dX0_putInOrder_45 rfl (lv_at hl 3 rfl) ?_
            refine gk_put (f' := (gE K bud fsd las bas mvi mva (va_up ear h0 (some v0)) vln vda vam vrf vel vnx_13)) (v := va_rf (some v0)) (ty := (.object "GrantBook$Voucher")) (C := RX0) (T := TX0) (N := 7) hx hb hts hi0 tyX0 tyX0_ok nmX0 hown hK hP hD hS hL0 (gE_0 hK0) rfl 6 (by decide) (hts (.fieldLink RX0 16 "GrantBook$Line" "earliest" "LGrantBook$Voucher;") (List.mem_of_getElem? (i := 1) rfl)) (fun _ h9 => h9) rfl (by decide +kernel) rfl rfl (Nat.le_of_ble_eq_true rfl) (gU_ear hK0 (some v0)) dX0_putInOrder_46 (fun H locs hP hD hS => ?_)
            obtain ⟨ear_14, eear_14⟩ : ∃ z, z = (va_up ear h0 (some v0)) := ⟨_, rfl⟩
            rw [← eear_14] at hP hD
            refine lv_goto (tgt := 65) hx hb dX0_putInOrder_49 (by decide) ?_
            refine W.widen (k := 0) (n := 0) (Nat.le_of_ble_eq_true rfl) (Nat.le_of_ble_eq_true rfl) ?_
            exact W.vret hx hb hr (fun t ht hW => ⟨⟨(ear_14, vnx_13), rfl, (gPut0 eear_14 (by rw [evnx_13, hq_12]) (by rw [hf]; show [] ++ (if vda v0 < vda a then _ else _) = []; rw [if_pos c_11]; rfl) (by rw [hb9]; show (if vda v0 < vda a then _ else _) = _; rw [if_pos c_11]) hch hvc hc), by rw [ht]; exact hP, va_K.moved hW.alike hK, hD⟩, hS.F ht⟩) hS.2.2 dX0_putInOrder_65
          · refine gk_put (f' := (gE K bud fsd las bas mvi mva ear vln vda vam vrf vel (va_up vnx v0 (some a_12)))) (v := va_rf (some a_12)) (ty := (.object "GrantBook$Voucher")) (C := RX1) (T := TX1) (N := 6) hx hb hts hi1 tyX1 tyX1_ok nmX1 hown hK hP hD hS hLv (gE_1 hKv) rfl 5 (by decide) (hts (.fieldLink RX0 41 "GrantBook$Voucher" "next" "LGrantBook$Voucher;") (List.mem_of_getElem? (i := 3) rfl)) (fun _ h9 => h9) rfl (by decide +kernel) rfl rfl (Nat.le_of_ble_eq_true rfl) (gU_vnx hKv (some a_12)) dX0_putInOrder_41 (fun H locs hP hD hS => ?_)
            obtain ⟨vnx_15, evnx_15⟩ : ∃ z, z = (va_up vnx v0 (some a_12)) := ⟨_, rfl⟩
            rw [← evnx_15] at hP hD
            refine lv_aload_n hx hb dX0_putInOrder_44 rfl (lv_at hl 2 rfl) ?_
            refine lv_aload_n hx hb dX0_putInOrder_45 rfl (lv_at hl 3 rfl) ?_
            refine gk_put (f' := (gE K bud fsd las bas mvi mva (va_up ear h0 (some v0)) vln vda vam vrf vel vnx_15)) (v := va_rf (some v0)) (ty := (.object "GrantBook$Voucher")) (C := RX0) (T := TX0) (N := 7) hx hb hts hi0 tyX0 tyX0_ok nmX0 hown hK hP hD hS hL0 (gE_0 hK0) rfl 6 (by decide) (hts (.fieldLink RX0 16 "GrantBook$Line" "earliest" "LGrantBook$Voucher;") (List.mem_of_getElem? (i := 1) rfl)) (fun _ h9 => h9) rfl (by decide +kernel) rfl rfl (Nat.le_of_ble_eq_true rfl) (gU_ear hK0 (some v0)) dX0_putInOrder_46 (fun H locs hP hD hS => ?_)
            obtain ⟨ear_16, eear_16⟩ : ∃ z, z = (va_up ear h0 (some v0)) := ⟨_, rfl⟩
            rw [← eear_16] at hP hD
            refine lv_goto (tgt := 65) hx hb dX0_putInOrder_49 (by decide) ?_
            refine W.widen (k := 0) (n := 0) (Nat.le_of_ble_eq_true rfl) (Nat.le_of_ble_eq_true rfl) ?_
            exact W.vret hx hb hr (fun t ht hW => ⟨⟨(ear_16, vnx_15), rfl, (gPut0 eear_16 (by rw [evnx_15, hq_12]) (by rw [hf]; show [] ++ (if vda v0 < vda a then _ else _) = []; rw [if_pos c_11]; rfl) (by rw [hb9]; show (if vda v0 < vda a then _ else _) = _; rw [if_pos c_11]) hch hvc hc), by rw [ht]; exact hP, va_K.moved hW.alike hK, hD⟩, hS.F ht⟩) hS.2.2 dX0_putInOrder_65
        · rw [hpr] at hl
          have hl : lv_has ls 4 [(3, .ref a), (2, .ref x), (0, .ref h0), (1, .ref v0)] := hl
          have hxp : x ∈ pr := List.mem_of_getLast? hpr
          obtain ⟨hLx, hKx⟩ := hcl x (by rw [hc]; exact List.mem_append_left _ hxp)
          refine lv_aload_n hx hb dX0_putInOrder_32 rfl (lv_at hl 1 rfl) ?_
          refine lv_ifnonnull (tgt := 52) hx hb dX0_putInOrder_33 (by decide) ?_
          refine lv_aload_n hx hb dX0_putInOrder_52 rfl (lv_at hl 3 rfl) ?_
          refine lv_aload_n hx hb dX0_putInOrder_53 rfl (lv_at hl 1 rfl) ?_
          refine gk_get (C := RX1) (T := TX1) (N := 6) (v := va_rf (vnx x)) hx hb hts hi1 hown hK hP hLx (gE_1 hKx) rfl 5 (by decide) (hts (.fieldLink RX0 41 "GrantBook$Voucher" "next" "LGrantBook$Voucher;") (List.mem_of_getElem? (i := 3) rfl)) (fun _ h9 => h9) rfl dX0_putInOrder_54 ?_
          rcases hq_17 : vnx x with _ | a_17
          · refine gk_put (f' := (gE K bud fsd las bas mvi mva ear vln vda vam vrf vel (va_up vnx v0 none))) (v := .null) (ty := (.object "GrantBook$Voucher")) (C := RX1) (T := TX1) (N := 6) hx hb hts hi1 tyX1 tyX1_ok nmX1 hown hK hP hD hS hLv (gE_1 hKv) rfl 5 (by decide) (hts (.fieldLink RX0 41 "GrantBook$Voucher" "next" "LGrantBook$Voucher;") (List.mem_of_getElem? (i := 3) rfl)) (fun _ h9 => h9) rfl (by decide +kernel) rfl rfl (Nat.le_of_ble_eq_true rfl) (gU_vnx hKv none) dX0_putInOrder_57 (fun H locs hP hD hS => ?_)
            obtain ⟨vnx_18, evnx_18⟩ : ∃ z, z = (va_up vnx v0 none) := ⟨_, rfl⟩
            rw [← evnx_18] at hP hD
            refine lv_aload_n hx hb dX0_putInOrder_60 rfl (lv_at hl 1 rfl) ?_
            refine lv_aload_n hx hb dX0_putInOrder_61 rfl (lv_at hl 3 rfl) ?_
            refine gk_put (f' := (gE K bud fsd las bas mvi mva ear vln vda vam vrf vel (va_up vnx_18 x (some v0)))) (v := va_rf (some v0)) (ty := (.object "GrantBook$Voucher")) (C := RX1) (T := TX1) (N := 6) hx hb hts hi1 tyX1 tyX1_ok nmX1 hown hK hP hD hS hLx (gE_1 hKx) rfl 5 (by decide) (hts (.fieldLink RX0 41 "GrantBook$Voucher" "next" "LGrantBook$Voucher;") (List.mem_of_getElem? (i := 3) rfl)) (fun _ h9 => h9) rfl (by decide +kernel) rfl rfl (Nat.le_of_ble_eq_true rfl) (gU_vnx hKx (some v0)) dX0_putInOrder_62 (fun H locs hP hD hS => ?_)
            obtain ⟨vnx_19, evnx_19⟩ : ∃ z, z = (va_up vnx_18 x (some v0)) := ⟨_, rfl⟩
            rw [← evnx_19] at hP hD
            refine W.widen (k := 0) (n := 0) (Nat.le_of_ble_eq_true rfl) (Nat.le_of_ble_eq_true rfl) ?_
            exact W.vret hx hb hr (fun t ht hW => ⟨⟨(ear, vnx_19), rfl, (gPut1 (by rw [evnx_18, hq_17]) evnx_19 (by rw [hf]; show pr ++ (if vda v0 < vda a then _ else _) = pr; rw [if_pos c_11, List.append_nil]) (by rw [hb9]; show (if vda v0 < vda a then _ else _) = _; rw [if_pos c_11]) hch hvc hpr hc), by rw [ht]; exact hP, va_K.moved hW.alike hK, hD⟩, hS.F ht⟩) hS.2.2 dX0_putInOrder_65
          · refine gk_put (f' := (gE K bud fsd las bas mvi mva ear vln vda vam vrf vel (va_up vnx v0 (some a_17)))) (v := va_rf (some a_17)) (ty := (.object "GrantBook$Voucher")) (C := RX1) (T := TX1) (N := 6) hx hb hts hi1 tyX1 tyX1_ok nmX1 hown hK hP hD hS hLv (gE_1 hKv) rfl 5 (by decide) (hts (.fieldLink RX0 41 "GrantBook$Voucher" "next" "LGrantBook$Voucher;") (List.mem_of_getElem? (i := 3) rfl)) (fun _ h9 => h9) rfl (by decide +kernel) rfl rfl (Nat.le_of_ble_eq_true rfl) (gU_vnx hKv (some a_17)) dX0_putInOrder_57 (fun H locs hP hD hS => ?_)
            obtain ⟨vnx_20, evnx_20⟩ : ∃ z, z = (va_up vnx v0 (some a_17)) := ⟨_, rfl⟩
            rw [← evnx_20] at hP hD
            refine lv_aload_n hx hb dX0_putInOrder_60 rfl (lv_at hl 1 rfl) ?_
            refine lv_aload_n hx hb dX0_putInOrder_61 rfl (lv_at hl 3 rfl) ?_
            refine gk_put (f' := (gE K bud fsd las bas mvi mva ear vln vda vam vrf vel (va_up vnx_20 x (some v0)))) (v := va_rf (some v0)) (ty := (.object "GrantBook$Voucher")) (C := RX1) (T := TX1) (N := 6) hx hb hts hi1 tyX1 tyX1_ok nmX1 hown hK hP hD hS hLx (gE_1 hKx) rfl 5 (by decide) (hts (.fieldLink RX0 41 "GrantBook$Voucher" "next" "LGrantBook$Voucher;") (List.mem_of_getElem? (i := 3) rfl)) (fun _ h9 => h9) rfl (by decide +kernel) rfl rfl (Nat.le_of_ble_eq_true rfl) (gU_vnx hKx (some v0)) dX0_putInOrder_62 (fun H locs hP hD hS => ?_)
            obtain ⟨vnx_21, evnx_21⟩ : ∃ z, z = (va_up vnx_20 x (some v0)) := ⟨_, rfl⟩
            rw [← evnx_21] at hP hD
            refine W.widen (k := 0) (n := 0) (Nat.le_of_ble_eq_true rfl) (Nat.le_of_ble_eq_true rfl) ?_
            exact W.vret hx hb hr (fun t ht hW => ⟨⟨(ear, vnx_21), rfl, (gPut1 (by rw [evnx_20, hq_17]) evnx_21 (by rw [hf]; show pr ++ (if vda v0 < vda a then _ else _) = pr; rw [if_pos c_11, List.append_nil]) (by rw [hb9]; show (if vda v0 < vda a then _ else _) = _; rw [if_pos c_11]) hch hvc hpr hc), by rw [ht]; exact hP, va_K.moved hW.alike hK, hD⟩, hS.F ht⟩) hS.2.2 dX0_putInOrder_65
      · refine lv_aload_n hx hb dX0_putInOrder_22 rfl (lv_at hl 0 rfl) ?_
        refine lv_astore_n (lv' := [(2, .ref a), (3, .ref a), (0, .ref h0), (1, .ref v0)]) hx hb dX0_putInOrder_23 rfl hl (by decide) rfl (fun ls hl => ?_)
        refine lv_aload_n hx hb dX0_putInOrder_24 rfl (lv_at hl 1 rfl) ?_
        refine gk_get (C := RX1) (T := TX1) (N := 6) (v := va_rf (vnx a)) hx hb hts hi1 hown hK hP hLa (gE_1 hKa) rfl 5 (by decide) (hts (.fieldLink RX0 41 "GrantBook$Voucher" "next" "LGrantBook$Voucher;") (List.mem_of_getElem? (i := 3) rfl)) (fun _ h9 => h9) rfl dX0_putInOrder_25 ?_
        rcases hq_22 : vnx a with _ | a_22
        · refine lv_astore_nN (lv' := [(3, .null), (2, .ref a), (0, .ref h0), (1, .ref v0)]) hx hb dX0_putInOrder_28 rfl hl (by decide) rfl (fun ls hl => ?_)
          refine lv_goto (tgt := 7) hx hb dX0_putInOrder_29 (by decide) ?_
          exact ih (vnx a) (pr ++ [a]) _ _ _ ho (by rw [hc, List.append_assoc]; rfl) (by rw [hf]; show pr ++ (if vda v0 < vda a then _ else _) = _; rw [if_neg c_11, List.append_assoc]; rfl) (by rw [hb9]; show (if vda v0 < vda a then _ else _) = _; rw [if_neg c_11]) hP hD hS (by rw [hq_22, List.getLast?_append]; exact lv_sub hl [0, 1, 2, 3] rfl)
        · refine lv_astore_n (lv' := [(3, .ref a_22), (2, .ref a), (0, .ref h0), (1, .ref v0)]) hx hb dX0_putInOrder_28 rfl hl (by decide) rfl (fun ls hl => ?_)
          refine lv_goto (tgt := 7) hx hb dX0_putInOrder_29 (by decide) ?_
          exact ih (vnx a) (pr ++ [a]) _ _ _ ho (by rw [hc, List.append_assoc]; rfl) (by rw [hf]; show pr ++ (if vda v0 < vda a then _ else _) = _; rw [if_neg c_11, List.append_assoc]; rfl) (by rw [hb9]; show (if vda v0 < vda a then _ else _) = _; rw [if_neg c_11]) hP hD hS (by rw [hq_22, List.getLast?_append]; exact lv_sub hl [0, 1, 2, 3] rfl)
  refine lv_null hx hb dX0_putInOrder_0 ?_
  refine lv_astore_nN (lv' := [(2, .null), (0, .ref h0), (1, .ref v0)]) hx hb dX0_putInOrder_1 rfl hl (by decide) rfl (fun ls hl => ?_)
  refine lv_aload_n hx hb dX0_putInOrder_2 rfl (lv_at hl 1 rfl) ?_
  refine gk_get (C := RX0) (T := TX0) (N := 7) (v := va_rf (ear h0)) hx hb hts hi0 hown hK hP hL0 (gE_0 hK0) rfl 6 (by decide) (hts (.fieldLink RX0 16 "GrantBook$Line" "earliest" "LGrantBook$Voucher;") (List.mem_of_getElem? (i := 1) rfl)) (fun _ h9 => h9) rfl dX0_putInOrder_3 ?_
  rcases hq_23 : ear h0 with _ | a_23
  · refine lv_astore_nN (lv' := [(3, .null), (2, .null), (0, .ref h0), (1, .ref v0)]) hx hb dX0_putInOrder_6 rfl hl (by decide) rfl (fun ls hl => ?_)
    exact loop ch (ear h0) [] _ _ _ hch rfl rfl rfl hP hD hS (by rw [hq_23]; exact lv_sub hl [0, 1, 2, 3] rfl)
  · refine lv_astore_n (lv' := [(3, .ref a_23), (2, .null), (0, .ref h0), (1, .ref v0)]) hx hb dX0_putInOrder_6 rfl hl (by decide) rfl (fun ls hl => ?_)
    exact loop ch (ear h0) [] _ _ _ hch rfl rfl rfl hP hD hS (by rw [hq_23]; exact lv_sub hl [0, 1, 2, 3] rfl)
