section
variable {p : Program} {l : Launch} {e : Env} {R : Room} {s : State} {m : MethodId} {args : Array Value} {below : List Frame} {meth : Method} {c : Code} {H : Heap} {locs : List Loc} {cells slots : Nat} {Q : State → Prop}
variable {mc ms : Nat} {free : Addr → Prop} {A0 A1 : Nat → Prop} {H0 : Heap} {a : Array Value} {pc : Nat} {ls : Array Slot} {st0 rest : List Value}
theorem vx_callq {S SX : Type} {post : Option Nat → S → Prop} {px : SX → Prop} {B : S → State → Prop} {BX : String → SX → State → Prop} {AX : Nat → Prop} (hr : vx_Run p l e R s m args below meth c H locs cells slots mc ms (F0 m pc ls st0) rest (va_Qq post B A1 a) (vx_X px BX AX) free) (hS : va_S A0 H0 H locs) (hA : ∀ q, q < H.size → A1 q → A0 q) (hf : ∀ q, free q → A0 q) (hAX : ∀ q, q < H.size → AX q → A0 q)
    (kx : ∀ (E : String) (ce : Cell) (q9 : Addr) (u : SX) (t : State) (H1 : Heap) (locs1 : List Loc), t.heap = H1 → s.vm.Alike t.vm → px u → BX E u t → H.size ≤ H1.size → (∀ q : Nat, q < H.size → ¬ AX q → H1[q]? = H[q]?) → va_S A0 H0 H1 locs1 → H1[q9]? = some ce → ce.vm = .none → s.vm.findClass E = some ce.cls → vx_W p l e R s m args below meth c H1 locs1 (cells + mc) (slots + ms) Q (F0 m pc ls rest) q9)
    (kk : ∀ (r : Option Nat) (u : S) (t : State) (H1 : Heap) (locs1 : List Loc), t.heap = H1 → s.vm.Alike t.vm → post r u → B u t → H.size ≤ H1.size → (∀ q : Nat, q < H.size → ¬ A1 q → H1[q]? = H[q]?) → va_S A0 H0 H1 locs1 → W p l e R s m args below meth c H1 locs1 (cells + mc) (slots + ms) Q (F0 m (pc + 3) ls (va_rf r :: rest))) : W p l e R s m args below meth c H locs cells slots Q (F0 m pc ls st0) := by
  intro T hT X
  rcases hr T hT X with ⟨v, st₀, t, T', L, h0, X', hL, e1, e2, ⟨⟨r, u, hv, hp, hb⟩, hF⟩, st⟩ | ⟨q, st₀, t, T', L, E, ce, h0, X', hL, e1, e2, ⟨u, hp, hb, hF⟩, hce, hcv, hcl, st⟩
  · cases hv
    obtain ⟨k1, k2, k3⟩ := vx_keep h0 e1 hS hA hf hL hF
    obtain ⟨t2, a1, b1⟩ := kk r u t T'.heap (locs ++ L) e1.symm (by rw [← e2]; exact X'.warmed.alike) hp hb k1 k2 k3 T' rfl X'
    exact ⟨t2, st t2 a1, b1⟩
  · obtain ⟨k1, k2, k3⟩ := vx_keep h0 e1 hS hAX hf hL hF
    obtain ⟨t2, a1, b1⟩ := kx E ce q u t T'.heap (locs ++ L) e1.symm (by rw [← e2]; exact X'.warmed.alike) hp hb k1 k2 k3 (by rw [e1]; exact hce) hcv hcl T' rfl X'
    exact ⟨t2, st.trans a1, b1⟩
end
abbrev gTy (cyI cyZ cyL cyV cyJ : ClassId) : List (ClassId × FieldType) := [(cyI, .int), (cyI, .int), (cyL, .object "GrantBook$Line"), (cyV, .object "GrantBook$Voucher"), (cyI, .int)]
abbrev gIn (x lo hi : Int32) : Prop := lo ≤ x ∧ x ≤ hi
/-- the row at number k is a -/
def gHas (N : Nat) (f : Nat → Option Nat) (k : Int32) (a : Nat) : Prop := ∃ i, i < N ∧ k = nI i ∧ f i = some a
theorem gHn_lt {N : Nat} (hN : N < 2 ^ 31) {f : Nat → Option Nat} {k : Int32} (h : k < 0) : ¬ ∃ a, gHas N f k a := by
  rintro ⟨a, i, hi, rfl, -⟩
  exact nI_pos (by omega) h
theorem gHn_ge {N : Nat} (hN : N < 2 ^ 31) {f : Nat → Option Nat} {k : Int32} (h : nI N ≤ k) : ¬ ∃ a, gHas N f k a := by
  rintro ⟨a, i, hi, rfl, -⟩
  exact nI_ge hi hN h
theorem gHn_no {N : Nat} (hN : N < 2 ^ 31) {f : Nat → Option Nat} {j : Nat} (hj : j < N) (h : f j = none) : ¬ ∃ a, gHas N f (nI j) a := by
  rintro ⟨a, i, hi, e, h2⟩
  have := (nI_eq (by omega) (by omega)).mp e
  subst this
  rw [h] at h2
  cases h2
theorem gIx {k : Int32} {N : Nat} (hN : N < 2 ^ 31) (h1 : ¬ k < 0) (h2 : ¬ nI N ≤ k) : ∃ i, i < N ∧ k = nI i := by
  obtain ⟨j, hj, rfl⟩ := nI_of h1
  refine ⟨j, ?_, rfl⟩
  rcases Nat.lt_or_ge j N with h | h
  · exact h
  · exact absurd (nI_le h hj) h2
theorem gLt {a N : Nat} (ha : a < 2 ^ 31) (hN : N < 2 ^ 31) (h : nI a < nI N) : a < N := (nI_ltI ha hN).mp h
theorem gNz {x : Int32} (h : ¬ x ≤ 0) : ¬ x.toInt64 = 0 := by
  intro h2
  apply h
  have h3 : x.toInt64.toInt = 0 := by rw [h2]; rfl
  rw [Int32.toInt_toInt64] at h3
  rw [Int32.le_iff_toInt_le, h3]
  decide
/-- what the class holds together -/
def gOK (L : List Nat) (K : Nat → Nat) (lrow vrow ear vln vnx : Nat → Option Nat) (ch : Nat → List Nat) : Prop :=
  (∀ i a, i < 12 → lrow i = some a → a ∈ L ∧ K a = 0) ∧ (∀ i v, i < 100 → vrow i = some v → v ∈ L ∧ K v = 1 ∧ ∃ b, vln v = some b ∧ b ∈ L ∧ K b = 0) ∧ ∀ a, a ∈ L → K a = 0 → gCh vnx (ear a) (ch a) ∧ ∀ v ∈ ch a, v ∈ L ∧ K v = 1
theorem gOK.l {L : List Nat} {K : Nat → Nat} {lrow vrow ear vln vnx : Nat → Option Nat} {ch : Nat → List Nat} (h : gOK L K lrow vrow ear vln vnx ch) {k : Int32} {a : Nat} (h2 : gHas 12 lrow k a) : a ∈ L ∧ K a = 0 := by
  obtain ⟨i, hi, -, h3⟩ := h2
  exact h.1 i a hi h3
theorem gOK.v {L : List Nat} {K : Nat → Nat} {lrow vrow ear vln vnx : Nat → Option Nat} {ch : Nat → List Nat} (h : gOK L K lrow vrow ear vln vnx ch) {k : Int32} {v : Nat} (h2 : gHas 100 vrow k v) : v ∈ L ∧ K v = 1 ∧ ∃ b, vln v = some b ∧ b ∈ L ∧ K b = 0 := by
  obtain ⟨i, hi, -, h3⟩ := h2
  exact h.2.1 i v hi h3
/-- the sum over the lines -/
def gSa (lrow : Nat → Option Nat) (bas vel vda : Nat → Int32) (ch : Nat → List Nat) (d z : Int32) : Nat → Int32
  | 0 => 0
  | i + 1 => match lrow i with
    | none => gSa lrow bas vel vda ch d z i
    | some a => if bas a = 0 ∧ ¬ z = 0 then gSa lrow bas vel vda ch d z i else gSa lrow bas vel vda ch d z i + gSu vel vda d (ch a) 0
def gOv (ora oc x : Int32) : Int32 := (if oc.toInt64 < ora.toInt64 * x.toInt64 / 100 then oc.toInt64 else ora.toInt64 * x.toInt64 / 100).toInt32
def gEb (gs ga a b : Int32) : Int64 := if ga.toInt64 < (a.toInt64 + b.toInt64) * gs.toInt64 / 100 then ga.toInt64 else (a.toInt64 + b.toInt64) * gs.toInt64 / 100
def gEa (gs am : Int32) (e : Int64) : Int32 := if 100 - gs ≤ 0 then e.toInt32 else (if am.toInt64 * gs.toInt64 / (100 - gs).toInt64 < e then am.toInt64 * gs.toInt64 / (100 - gs).toInt64 else e).toInt32
def gLm (gs : Int32) (e : Int64) : Int64 := if gs ≤ 0 then 0 else (e * (100 - gs).toInt64 + gs.toInt64 - 1) / gs.toInt64
def gMm (gs am : Int32) (e : Int64) : Int32 := (if 0 < gLm gs e - am.toInt64 then gLm gs e - am.toInt64 else 0).toInt32
theorem gUp2 {α : Type} (f : Nat → α) (k : Nat) (v w : α) : va_up (va_up f k v) k w = va_up f k w := by
  funext j
  by_cases h : j = k
  · subst h; rw [va_up_self, va_up_self]
  · rw [va_up_ne _ _ h, va_up_ne _ _ h, va_up_ne _ _ h]
theorem gRA_eq {U : State} {c1 c2 : ClassId} {ty : FieldType} (h1 : va_RA U c1 ty) (h2 : va_RA U c2 ty) : c1 = c2 := by
  cases ty with
  | object C =>
    obtain ⟨_, _, _, _, _, h3⟩ := h1
    obtain ⟨_, _, _, _, _, h4⟩ := h2
    rw [h3] at h4
    exact Option.some.inj h4
  | _ =>
    have h3 : U.vm.findClass _ = some c1 := h1
    have h4 : U.vm.findClass _ = some c2 := h2
    rw [h3] at h4
    exact Option.some.inj h4
theorem gAcc_z (f l rf d : Int32) : narrow .boolean (.int (gAcc f l rf d)) = .int (gAcc f l rf d) := by
  unfold gAcc
  by_cases h1 : rf = 0
  · rw [if_pos h1]
    by_cases h2 : d < f
    · rw [if_pos h2]; rfl
    · rw [if_neg h2]
      by_cases h3 : l < d
      · rw [if_pos h3]; rfl
      · rw [if_neg h3]; rfl
  · rw [if_neg h1]; rfl
theorem gPn_lt {nc : Nat} (h : nc ≤ 40) {k : Int32} (c : k < 0) : ¬ ∃ i, i < nc ∧ k = nI i := by
  rintro ⟨i, hi, rfl⟩
  exact nI_pos (by omega) c
theorem gPn_ge {nc : Nat} (h : nc ≤ 40) {k : Int32} (c : nI nc ≤ k) : ¬ ∃ i, i < nc ∧ k = nI i := by
  rintro ⟨i, hi, rfl⟩
  exact nI_ge hi (by omega) c
theorem gPn_40 {nc : Nat} (h : nc ≤ 40) {k : Int32} (c1 : ¬ k < 0) (c2 : ¬ nI nc ≤ k) : k < 40 := by
  obtain ⟨i, hi, rfl⟩ := gIx (N := nc) (by omega) c1 c2
  exact nI_lt (b := 40) (by omega) (by decide)
set_option maxHeartbeats 4000000 in
set_option maxRecDepth 100000 in
theorem kX2_checkRange (l : Launch) (hst : l.stackTraces = false) (D : va_G) (tys : List (ClassId × FieldType)) (Wo : va_W) (v0 lo hi : Int32) (sz : Nat) (A : Nat → Prop) (hAe : va_A (Wo) sz = A) : vx_Met l yX2_checkRange wsX2_checkRange ({ frames := 6, cells := 1, slots := 6, locals := 82 }) (va_Pc [.int v0, .int lo, .int hi] (gPreT D tys (Wo) sz)) (va_Qv (fun (_ : Unit) => gIn v0 lo hi) (fun (_ : Unit) t => gPost D tys A Wo t) A) (gThr D tys A (Wo) (fun E => E = "java/lang/IllegalArgumentException" ∧ ¬ gIn v0 lo hi)) 1 6 A := by
  refine vx_ofW (cc := cX2_checkRange) (maxL := 3) (ret := none) (by decide) rfl ?_
  intro p e s m args below meth c s₁ B hml htb hv
  obtain ⟨rfl, hTF, hsz, hP, hK, hD0⟩ := hv
  have hx := B.exec
  have hb := B.bytes
  have hr := B.returns
  have hts := atoms_spec (ws := wsX2_checkRange) B.pre
  have hown : s.vm.findClass RX2 = some m.cls := findClass_of_methodNamed B.named
  have hlocks := B.notSynchronized
  subst hsz
  have hD := hD0.self (sz := s.heap.size)
  rw [hAe] at hD hTF
  have hA : ∀ q : Nat, s.heap.size ≤ q → A q := fun q h => by rw [← hAe]; exact Or.inr h
  have hS : va_S A s.heap s.heap [] := va_S.rf
  have hP : va_P D vwCl (Wo) s.heap := hP
  have hl := lv_entry ([.int v0, .int lo, .int hi]) (n := 3) (Nat.le_of_ble_eq_true rfl)
  rw [lg_entry_eq]
  generalize (lg_sl ([.int v0, .int lo, .int hi]) ++ List.replicate (3 - (lg_sl ([.int v0, .int lo, .int hi])).length) Slot.unset).toArray = ls at hl ⊢
  have hl : lv_has ls 3 [(0, .int v0), (1, .int lo), (2, .int hi)] := hl
  refine lv_iload_n hx hb dX2_checkRange_0 rfl (lv_at hl 0 rfl) ?_
  refine lv_iload_n hx hb dX2_checkRange_1 rfl (lv_at hl 1 rfl) ?_
  refine lv_icmp_lt (tgt := 10) hx hb dX2_checkRange_2 (by decide) (fun c_1 => ?_) (fun c_1 => ?_)
  · obtain ⟨sa_2, hsa_2⟩ := hTF.2.2.2 (182, "an argument is out of range") (by decide +kernel)
    exact vx_throwS hx hb hst (sa := sa_2) (text := "an argument is out of range") (is := 182) (names := ["java/lang/RuntimeException", "java/lang/Exception"]) hown (by decide +kernel) (by decide +kernel) (hts (.classLink RX2 90 "java/lang/IllegalArgumentException") (List.mem_of_getElem? (i := 1) rfl)) (hts (.initialized "java/lang/IllegalArgumentException") (List.mem_of_getElem? (i := 2) rfl)) hsa_2 (gk_hat (fun w hw => hts w (List.mem_cons_of_mem _ (List.mem_append_right _ hw))) hTF (by decide +kernel)) (by decide +kernel) hTF.1 hTF.2.1 hS (hl.1.trans hml.symm) dX2_checkRange_10 dX2_checkRange_13 dX2_checkRange_14 dX2_checkRange_16 dX2_checkRange_19 (fun x hx9 => (htb x hx9).elim) (Nat.le_of_ble_eq_true rfl) (Nat.le_of_ble_eq_true rfl) (Nat.le_of_ble_eq_true rfl) (Nat.le_of_ble_eq_true rfl) hlocks (fun t hal hsz9 hkp => ⟨"java/lang/IllegalArgumentException", ⟨rfl, fun h => absurd c_1 (Int32.not_lt.mpr h.1)⟩, ⟨rfl, hP.kept (fun k q hk => hkp q.1 (vx_lt hP hk)), va_K.moved hal hK, hD⟩, Nat.le_trans hS.1 hsz9, fun q h1 h2 => (hkp q (Nat.lt_of_lt_of_le h1 hS.1)).trans (hS.2.1 q h1 h2)⟩) hS.2.2 (Nat.le_of_ble_eq_true rfl) (Nat.le_of_ble_eq_true rfl)
  · refine lv_iload_n hx hb dX2_checkRange_5 rfl (lv_at hl 0 rfl) ?_
    refine lv_iload_n hx hb dX2_checkRange_6 rfl (lv_at hl 2 rfl) ?_
    refine lv_icmp_le (tgt := 20) hx hb dX2_checkRange_7 (by decide) (fun c_3 => ?_) (fun c_3 => ?_)
    · refine W.widen (k := 1) (n := 6) (Nat.le_of_ble_eq_true rfl) (Nat.le_of_ble_eq_true rfl) ?_
      refine vx_ret ?_
      exact W.vret hx hb hr (fun t ht hW => ⟨⟨(), rfl, ⟨Int32.not_lt.mp c_1, c_3⟩, by rw [ht]; exact hP, va_K.moved hW.alike hK, hD⟩, hS.F ht⟩) hS.2.2 dX2_checkRange_20
    · obtain ⟨sa_4, hsa_4⟩ := hTF.2.2.2 (182, "an argument is out of range") (by decide +kernel)
      exact vx_throwS hx hb hst (sa := sa_4) (text := "an argument is out of range") (is := 182) (names := ["java/lang/RuntimeException", "java/lang/Exception"]) hown (by decide +kernel) (by decide +kernel) (hts (.classLink RX2 90 "java/lang/IllegalArgumentException") (List.mem_of_getElem? (i := 1) rfl)) (hts (.initialized "java/lang/IllegalArgumentException") (List.mem_of_getElem? (i := 2) rfl)) hsa_4 (gk_hat (fun w hw => hts w (List.mem_cons_of_mem _ (List.mem_append_right _ hw))) hTF (by decide +kernel)) (by decide +kernel) hTF.1 hTF.2.1 hS (hl.1.trans hml.symm) dX2_checkRange_10 dX2_checkRange_13 dX2_checkRange_14 dX2_checkRange_16 dX2_checkRange_19 (fun x hx9 => (htb x hx9).elim) (Nat.le_of_ble_eq_true rfl) (Nat.le_of_ble_eq_true rfl) (Nat.le_of_ble_eq_true rfl) (Nat.le_of_ble_eq_true rfl) hlocks (fun t hal hsz9 hkp => ⟨"java/lang/IllegalArgumentException", ⟨rfl, fun h => c_3 h.2⟩, ⟨rfl, hP.kept (fun k q hk => hkp q.1 (vx_lt hP hk)), va_K.moved hal hK, hD⟩, Nat.le_trans hS.1 hsz9, fun q h1 h2 => (hkp q (Nat.lt_of_lt_of_le h1 hS.1)).trans (hS.2.1 q h1 h2)⟩) hS.2.2 (Nat.le_of_ble_eq_true rfl) (Nat.le_of_ble_eq_true rfl)
set_option maxHeartbeats 4000000 in
set_option maxRecDepth 100000 in
theorem kX2_checkDay (l : Launch) (hst : l.stackTraces = false) (D : va_G) (tys : List (ClassId × FieldType)) (Wo : va_W) (v0 : Int32) (sz : Nat) (A : Nat → Prop) (hAe : va_A (Wo) sz = A) : vx_Met l yX2_checkDay wsX2_checkDay ({ frames := 7, cells := 1, slots := 6, locals := 104 }) (va_Pc [.int v0] (gPreT D tys (Wo) sz)) (va_Qv (fun (_ : Unit) => gIn v0 0 9999) (fun (_ : Unit) t => gPost D tys A Wo t) A) (gThr D tys A (Wo) (fun E => E = "java/lang/IllegalArgumentException" ∧ ¬ gIn v0 0 9999)) 1 6 A := by
  refine vx_ofW (cc := cX2_checkDay) (maxL := 1) (ret := none) (by decide) rfl ?_
  intro p e s m args below meth c s₁ B hml htb hv
  obtain ⟨rfl, hTF, hsz, hP, hK, hD0⟩ := hv
  have hx := B.exec
  have hb := B.bytes
  have hr := B.returns
  have hts := atoms_spec (ws := wsX2_checkDay) B.pre
  have hown : s.vm.findClass RX2 = some m.cls := findClass_of_methodNamed B.named
  have hlocks := B.notSynchronized
  subst hsz
  have hD := hD0.self (sz := s.heap.size)
  rw [hAe] at hD hTF
  have hA : ∀ q : Nat, s.heap.size ≤ q → A q := fun q h => by rw [← hAe]; exact Or.inr h
  have hS : va_S A s.heap s.heap [] := va_S.rf
  have hP : va_P D vwCl (Wo) s.heap := hP
  have hl := lv_entry ([.int v0]) (n := 1) (Nat.le_of_ble_eq_true rfl)
  rw [lg_entry_eq]
  generalize (lg_sl ([.int v0]) ++ List.replicate (1 - (lg_sl ([.int v0])).length) Slot.unset).toArray = ls at hl ⊢
  have hl : lv_has ls 1 [(0, .int v0)] := hl
  refine lv_iload_n hx hb dX2_checkDay_0 rfl (lv_at hl 0 rfl) ?_
  refine lv_iconst (v := 0) hx hb dX2_checkDay_1 (by decide) ?_
  refine lv_sipush (v := 9999) hx hb dX2_checkDay_2 (by decide) ?_
  have hF_1 := gk_all hD hS hA
  refine vx_callv (vx_runS (As := [.int v0, .int 0, .int 9999]) (rest := []) ⟨hx, hb, hml, hown, hts⟩ (kX2_checkRange l hst D tys (Wo) v0 0 9999 s.heap.size _ rfl) (va_cwS 3 hts gX2_checkDay_X2_checkRange rfl rfl rfl (by decide +kernel) ⟨(Nat.le_of_ble_eq_true rfl), (Nat.le_of_ble_eq_true rfl)⟩) (gk_preST hTF hS hF_1 hP hK hD) rfl rfl hl.1 rfl (lv_room (Nat.le_of_ble_eq_true rfl)) dX2_checkDay_5 ⟨(Nat.le_of_ble_eq_true rfl), (Nat.le_of_ble_eq_true rfl)⟩) hS (fun q _ h => hF_1 q h) hF_1 (fun q _ h => hF_1 q h) (fun E_1 ce_1 q_1 u_1 t_1 H locs ht_1 hvm_1 hpx_1 hBX_1 hz_1 hk_1 hS hce_1 hcv_1 hcl_1 => ?_) (fun u_1 t_1 H locs ht_1 hvm_1 hw_1 hB_1 hz_1 hk_1 hS => ?_)
  · obtain ⟨rfl, hB_1⟩ := hBX_1
    obtain ⟨hP, hD⟩ := gk_back hF_1 hB_1 ht_1
    refine vx_out (fun x hx9 => (htb x hx9).elim) hlocks hce_1 hcv_1 hcl_1 (fun t ht hal => ⟨E_1, hpx_1, ⟨rfl, by rw [ht]; exact hP, va_K.moved hal hK, hD⟩, hS.F ht⟩) hS.2.2 (Nat.le_of_ble_eq_true rfl) (Nat.le_of_ble_eq_true rfl)
  · obtain ⟨hP, hD⟩ := gk_back hF_1 hB_1 ht_1
    refine W.widen (k := 1) (n := 6) (Nat.le_of_ble_eq_true rfl) (Nat.le_of_ble_eq_true rfl) ?_
    refine vx_ret ?_
    exact W.vret hx hb hr (fun t ht hW => ⟨⟨(), rfl, hw_1, by rw [ht]; exact hP, va_K.moved hW.alike hK, hD⟩, hS.F ht⟩) hS.2.2 dX2_checkDay_8
set_option maxHeartbeats 4000000 in
set_option maxRecDepth 100000 in
theorem kX2_findLine (l : Launch) (hst : l.stackTraces = false) (D : va_G) (cyI cyZ cyL cyV cyJ : ClassId) (g lr vr py : Nat) (ga gs ora oc : Int32) (lrow vrow : Nat → Option Nat) (nl nv : Nat) (am : Int32) (pay : Nat → Int32) (nc : Nat) (lcd pia : Int32) (Y : va_W) (L : List Nat) (K : Nat → Nat) (bud fsd las bas mvi mva : Nat → Int32) (ear vln : Nat → Option Nat) (vda vam vrf vel : Nat → Int32) (vnx : Nat → Option Nat) (k0 : Int32) (sz : Nat) (A : Nat → Prop) (hAe : va_A (((g, .inr (2, [.int ga, .int gs, .int ora, .int oc, .ref lr, .int (nI nl), .ref vr, .int (nI nv), .int am, .ref py, .int (nI nc), .int lcd, .int pia])) :: (lr, .inl (cyL, 12, .inr (.inr (.inr (.inr lrow))))) :: (vr, .inl (cyV, 100, .inr (.inr (.inr (.inr vrow))))) :: (py, .inl (cyI, 40, .inl pay)) :: Y : va_W) ++ va_pl L (gE K bud fsd las bas mvi mva ear vln vda vam vrf vel vnx)) sz = A) : vx_Met l yX2_findLine wsX2_findLine ({ frames := 6, cells := 1, slots := 6, locals := 82 }) (va_Pc [.ref g, .int k0] (gPreT D (gTy cyI cyZ cyL cyV cyJ) (((g, .inr (2, [.int ga, .int gs, .int ora, .int oc, .ref lr, .int (nI nl), .ref vr, .int (nI nv), .int am, .ref py, .int (nI nc), .int lcd, .int pia])) :: (lr, .inl (cyL, 12, .inr (.inr (.inr (.inr lrow))))) :: (vr, .inl (cyV, 100, .inr (.inr (.inr (.inr vrow))))) :: (py, .inl (cyI, 40, .inl pay)) :: Y : va_W) ++ va_pl L (gE K bud fsd las bas mvi mva ear vln vda vam vrf vel vnx)) sz)) (va_Qq (fun (r : Option Nat) (_ : Unit) => ∃ a, r = some a ∧ gHas 12 lrow k0 a) (fun (_ : Unit) t => gPost D (gTy cyI cyZ cyL cyV cyJ) A (((g, .inr (2, [.int ga, .int gs, .int ora, .int oc, .ref lr, .int (nI nl), .ref vr, .int (nI nv), .int am, .ref py, .int (nI nc), .int lcd, .int pia])) :: (lr, .inl (cyL, 12, .inr (.inr (.inr (.inr lrow))))) :: (vr, .inl (cyV, 100, .inr (.inr (.inr (.inr vrow))))) :: (py, .inl (cyI, 40, .inl pay)) :: Y : va_W) ++ va_pl L (gE K bud fsd las bas mvi mva ear vln vda vam vrf vel vnx)) t) A) (gThr D (gTy cyI cyZ cyL cyV cyJ) A (((g, .inr (2, [.int ga, .int gs, .int ora, .int oc, .ref lr, .int (nI nl), .ref vr, .int (nI nv), .int am, .ref py, .int (nI nc), .int lcd, .int pia])) :: (lr, .inl (cyL, 12, .inr (.inr (.inr (.inr lrow))))) :: (vr, .inl (cyV, 100, .inr (.inr (.inr (.inr vrow))))) :: (py, .inl (cyI, 40, .inl pay)) :: Y : va_W) ++ va_pl L (gE K bud fsd las bas mvi mva ear vln vda vam vrf vel vnx)) (fun E => E = "java/lang/IndexOutOfBoundsException" ∧ ¬ ∃ a, gHas 12 lrow k0 a)) 1 6 A := by
  refine vx_ofW (cc := cX2_findLine) (maxL := 3) (ret := (some (.object "GrantBook$Line"))) (by decide) rfl ?_
  intro p e s m args below meth c s₁ B hml htb hv
  obtain ⟨rfl, hTF, hsz, hP, hK, hD0⟩ := hv
  have hx := B.exec
  have hb := B.bytes
  have hr := B.returns
  have hts := atoms_spec (ws := wsX2_findLine) B.pre
  have hown : s.vm.findClass RX2 = some m.cls := findClass_of_methodNamed B.named
  have hlocks := B.notSynchronized
  subst hsz
  have hD := hD0.self (sz := s.heap.size)
  rw [hAe] at hD hTF
  have hA : ∀ q : Nat, s.heap.size ≤ q → A q := fun q h => by rw [← hAe]; exact Or.inr h
  have hS : va_S A s.heap s.heap [] := va_S.rf
  have hP : va_P D vwCl (((g, .inr (2, [.int ga, .int gs, .int ora, .int oc, .ref lr, .int (nI nl), .ref vr, .int (nI nv), .int am, .ref py, .int (nI nc), .int lcd, .int pia])) :: (lr, .inl (cyL, 12, .inr (.inr (.inr (.inr lrow))))) :: (vr, .inl (cyV, 100, .inr (.inr (.inr (.inr vrow))))) :: (py, .inl (cyI, 40, .inl pay)) :: Y : va_W) ++ va_pl L (gE K bud fsd las bas mvi mva ear vln vda vam vrf vel vnx)) s.heap := hP
  have hi2 : ∀ w ∈ wsX20, w ∈ wsX2_findLine := fun _ h => List.mem_cons_of_mem _ (List.mem_append_left _ (List.mem_append_right _ h))
  have hl := lv_entry ([.ref g, .int k0]) (n := 3) (Nat.le_of_ble_eq_true rfl)
  rw [lg_entry_eq]
  generalize (lg_sl ([.ref g, .int k0]) ++ List.replicate (3 - (lg_sl ([.ref g, .int k0])).length) Slot.unset).toArray = ls at hl ⊢
  have hl : lv_has ls 3 [(0, .ref g), (1, .int k0)] := hl
  refine lv_iload_n hx hb dX2_findLine_0 rfl (lv_at hl 1 rfl) ?_
  refine lv_if_lt (tgt := 22) hx hb dX2_findLine_1 (by decide) (fun c_1 => ?_) (fun c_1 => ?_)
  · refine lv_null hx hb dX2_findLine_22 ?_
    refine lv_astore_nN (lv' := [(2, .null), (0, .ref g), (1, .int k0)]) hx hb dX2_findLine_23 rfl hl (by decide) rfl (fun ls hl => ?_)
    refine lv_aload_nN hx hb dX2_findLine_24 rfl (lv_at hl 0 rfl) ?_
    refine lv_ifnonnullN hx hb dX2_findLine_25 ?_
    obtain ⟨sa_2, hsa_2⟩ := hTF.2.2.2 (184, "no such line") (by decide +kernel)
    exact vx_throwS hx hb hst (sa := sa_2) (text := "no such line") (is := 184) (names := ["java/lang/RuntimeException", "java/lang/Exception"]) hown (by decide +kernel) (by decide +kernel) (hts (.classLink RX2 177 "java/lang/IndexOutOfBoundsException") (List.mem_of_getElem? (i := 1) rfl)) (hts (.initialized "java/lang/IndexOutOfBoundsException") (List.mem_of_getElem? (i := 2) rfl)) hsa_2 (gk_hat (fun w hw => hts w (List.mem_cons_of_mem _ (List.mem_append_right _ hw))) hTF (by decide +kernel)) (by decide +kernel) hTF.1 hTF.2.1 hS (hl.1.trans hml.symm) dX2_findLine_28 dX2_findLine_31 dX2_findLine_32 dX2_findLine_34 dX2_findLine_37 (fun x hx9 => (htb x hx9).elim) (Nat.le_of_ble_eq_true rfl) (Nat.le_of_ble_eq_true rfl) (Nat.le_of_ble_eq_true rfl) (Nat.le_of_ble_eq_true rfl) hlocks (fun t hal hsz9 hkp => ⟨"java/lang/IndexOutOfBoundsException", ⟨rfl, gHn_lt (by decide) c_1⟩, ⟨rfl, hP.kept (fun k q hk => hkp q.1 (vx_lt hP hk)), va_K.moved hal hK, hD⟩, Nat.le_trans hS.1 hsz9, fun q h1 h2 => (hkp q (Nat.lt_of_lt_of_le h1 hS.1)).trans (hS.2.1 q h1 h2)⟩) hS.2.2 (Nat.le_of_ble_eq_true rfl) (Nat.le_of_ble_eq_true rfl)
  · refine lv_iload_n hx hb dX2_findLine_4 rfl (lv_at hl 1 rfl) ?_
    refine lv_aload_n hx hb dX2_findLine_5 rfl (lv_at hl 0 rfl) ?_
    refine va_get (D := D) (ci := 2) (v := .ref lr) (C := RX2) (T := TX2) (N := 13) hx hb hts hi2 hown hK hP 0 rfl rfl 4 (by decide) (hts (.fieldLink RX2 26 "GrantBook" "lineRows" "[LGrantBook$Line;") (List.mem_of_getElem? (i := 3) rfl)) (fun _ h9 => h9) rfl dX2_findLine_6 ?_
    refine va_alen hx hb hK hP 1 2 rfl rfl (v := 12) rfl dX2_findLine_9 ?_
    refine lv_icmp_ge (tgt := 22) hx hb dX2_findLine_10 (by decide) (fun c_3 => ?_) (fun c_3 => ?_)
    · refine lv_null hx hb dX2_findLine_22 ?_
      refine lv_astore_nN (lv' := [(2, .null), (0, .ref g), (1, .int k0)]) hx hb dX2_findLine_23 rfl hl (by decide) rfl (fun ls hl => ?_)
      refine lv_aload_nN hx hb dX2_findLine_24 rfl (lv_at hl 0 rfl) ?_
      refine lv_ifnonnullN hx hb dX2_findLine_25 ?_
      obtain ⟨sa_4, hsa_4⟩ := hTF.2.2.2 (184, "no such line") (by decide +kernel)
      exact vx_throwS hx hb hst (sa := sa_4) (text := "no such line") (is := 184) (names := ["java/lang/RuntimeException", "java/lang/Exception"]) hown (by decide +kernel) (by decide +kernel) (hts (.classLink RX2 177 "java/lang/IndexOutOfBoundsException") (List.mem_of_getElem? (i := 1) rfl)) (hts (.initialized "java/lang/IndexOutOfBoundsException") (List.mem_of_getElem? (i := 2) rfl)) hsa_4 (gk_hat (fun w hw => hts w (List.mem_cons_of_mem _ (List.mem_append_right _ hw))) hTF (by decide +kernel)) (by decide +kernel) hTF.1 hTF.2.1 hS (hl.1.trans hml.symm) dX2_findLine_28 dX2_findLine_31 dX2_findLine_32 dX2_findLine_34 dX2_findLine_37 (fun x hx9 => (htb x hx9).elim) (Nat.le_of_ble_eq_true rfl) (Nat.le_of_ble_eq_true rfl) (Nat.le_of_ble_eq_true rfl) (Nat.le_of_ble_eq_true rfl) hlocks (fun t hal hsz9 hkp => ⟨"java/lang/IndexOutOfBoundsException", ⟨rfl, gHn_ge (N := 12) (by decide) c_3⟩, ⟨rfl, hP.kept (fun k q hk => hkp q.1 (vx_lt hP hk)), va_K.moved hal hK, hD⟩, Nat.le_trans hS.1 hsz9, fun q h1 h2 => (hkp q (Nat.lt_of_lt_of_le h1 hS.1)).trans (hS.2.1 q h1 h2)⟩) hS.2.2 (Nat.le_of_ble_eq_true rfl) (Nat.le_of_ble_eq_true rfl)
    · refine lv_aload_n hx hb dX2_findLine_13 rfl (lv_at hl 0 rfl) ?_
      refine va_get (D := D) (ci := 2) (v := .ref lr) (C := RX2) (T := TX2) (N := 13) hx hb hts hi2 hown hK hP 0 rfl rfl 4 (by decide) (hts (.fieldLink RX2 26 "GrantBook" "lineRows" "[LGrantBook$Line;") (List.mem_of_getElem? (i := 3) rfl)) (fun _ h9 => h9) rfl dX2_findLine_14 ?_
      refine lv_iload_n hx hb dX2_findLine_17 rfl (lv_at hl 1 rfl) ?_
      obtain ⟨i0, hix, rfl⟩ := gIx (N := 12) (by decide) c_1 c_3
      refine gk_aldq (i := i0) hx hb hK hP 1 2 rfl rfl hix (by decide) dX2_findLine_18 ?_
      rcases hq_5 : lrow i0 with _ | a_5
      · refine lv_goto (tgt := 23) hx hb dX2_findLine_19 (by decide) ?_
        refine lv_astore_nN (lv' := [(2, .null), (0, .ref g), (1, .int (nI i0))]) hx hb dX2_findLine_23 rfl hl (by decide) rfl (fun ls hl => ?_)
        refine lv_aload_nN hx hb dX2_findLine_24 rfl (lv_at hl 0 rfl) ?_
        refine lv_ifnonnullN hx hb dX2_findLine_25 ?_
        obtain ⟨sa_6, hsa_6⟩ := hTF.2.2.2 (184, "no such line") (by decide +kernel)
        exact vx_throwS hx hb hst (sa := sa_6) (text := "no such line") (is := 184) (names := ["java/lang/RuntimeException", "java/lang/Exception"]) hown (by decide +kernel) (by decide +kernel) (hts (.classLink RX2 177 "java/lang/IndexOutOfBoundsException") (List.mem_of_getElem? (i := 1) rfl)) (hts (.initialized "java/lang/IndexOutOfBoundsException") (List.mem_of_getElem? (i := 2) rfl)) hsa_6 (gk_hat (fun w hw => hts w (List.mem_cons_of_mem _ (List.mem_append_right _ hw))) hTF (by decide +kernel)) (by decide +kernel) hTF.1 hTF.2.1 hS (hl.1.trans hml.symm) dX2_findLine_28 dX2_findLine_31 dX2_findLine_32 dX2_findLine_34 dX2_findLine_37 (fun x hx9 => (htb x hx9).elim) (Nat.le_of_ble_eq_true rfl) (Nat.le_of_ble_eq_true rfl) (Nat.le_of_ble_eq_true rfl) (Nat.le_of_ble_eq_true rfl) hlocks (fun t hal hsz9 hkp => ⟨"java/lang/IndexOutOfBoundsException", ⟨rfl, gHn_no (by decide) hix hq_5⟩, ⟨rfl, hP.kept (fun k q hk => hkp q.1 (vx_lt hP hk)), va_K.moved hal hK, hD⟩, Nat.le_trans hS.1 hsz9, fun q h1 h2 => (hkp q (Nat.lt_of_lt_of_le h1 hS.1)).trans (hS.2.1 q h1 h2)⟩) hS.2.2 (Nat.le_of_ble_eq_true rfl) (Nat.le_of_ble_eq_true rfl)
      · refine lv_goto (tgt := 23) hx hb dX2_findLine_19 (by decide) ?_
        refine lv_astore_n (lv' := [(2, .ref a_5), (0, .ref g), (1, .int (nI i0))]) hx hb dX2_findLine_23 rfl hl (by decide) rfl (fun ls hl => ?_)
        refine lv_aload_n hx hb dX2_findLine_24 rfl (lv_at hl 0 rfl) ?_
        refine lv_ifnonnull (tgt := 38) hx hb dX2_findLine_25 (by decide) ?_
        refine lv_aload_n hx hb dX2_findLine_38 rfl (lv_at hl 0 rfl) ?_
        refine W.widen (k := 1) (n := 6) (Nat.le_of_ble_eq_true rfl) (Nat.le_of_ble_eq_true rfl) ?_
        refine vx_ret ?_
        exact W.aret (v := .ref a_5) hx hb hr (Or.inl ⟨_, rfl⟩) (Or.inr ⟨_, rfl⟩) (fun t ht hW => ⟨⟨some a_5, (), rfl, ⟨a_5, rfl, i0, hix, rfl, hq_5⟩, by rw [ht]; exact hP, va_K.moved hW.alike hK, hD⟩, hS.F ht⟩) hS.2.2 dX2_findLine_39
set_option maxHeartbeats 4000000 in
set_option maxRecDepth 100000 in
theorem kX2_findVoucher (l : Launch) (hst : l.stackTraces = false) (D : va_G) (cyI cyZ cyL cyV cyJ : ClassId) (g lr vr py : Nat) (ga gs ora oc : Int32) (lrow vrow : Nat → Option Nat) (nl nv : Nat) (am : Int32) (pay : Nat → Int32) (nc : Nat) (lcd pia : Int32) (Y : va_W) (L : List Nat) (K : Nat → Nat) (bud fsd las bas mvi mva : Nat → Int32) (ear vln : Nat → Option Nat) (vda vam vrf vel : Nat → Int32) (vnx : Nat → Option Nat) (k0 : Int32) (sz : Nat) (A : Nat → Prop) (hAe : va_A (((g, .inr (2, [.int ga, .int gs, .int ora, .int oc, .ref lr, .int (nI nl), .ref vr, .int (nI nv), .int am, .ref py, .int (nI nc), .int lcd, .int pia])) :: (lr, .inl (cyL, 12, .inr (.inr (.inr (.inr lrow))))) :: (vr, .inl (cyV, 100, .inr (.inr (.inr (.inr vrow))))) :: (py, .inl (cyI, 40, .inl pay)) :: Y : va_W) ++ va_pl L (gE K bud fsd las bas mvi mva ear vln vda vam vrf vel vnx)) sz = A) : vx_Met l yX2_findVoucher wsX2_findVoucher ({ frames := 6, cells := 1, slots := 6, locals := 82 }) (va_Pc [.ref g, .int k0] (gPreT D (gTy cyI cyZ cyL cyV cyJ) (((g, .inr (2, [.int ga, .int gs, .int ora, .int oc, .ref lr, .int (nI nl), .ref vr, .int (nI nv), .int am, .ref py, .int (nI nc), .int lcd, .int pia])) :: (lr, .inl (cyL, 12, .inr (.inr (.inr (.inr lrow))))) :: (vr, .inl (cyV, 100, .inr (.inr (.inr (.inr vrow))))) :: (py, .inl (cyI, 40, .inl pay)) :: Y : va_W) ++ va_pl L (gE K bud fsd las bas mvi mva ear vln vda vam vrf vel vnx)) sz)) (va_Qq (fun (r : Option Nat) (_ : Unit) => ∃ a, r = some a ∧ gHas 100 vrow k0 a) (fun (_ : Unit) t => gPost D (gTy cyI cyZ cyL cyV cyJ) A (((g, .inr (2, [.int ga, .int gs, .int ora, .int oc, .ref lr, .int (nI nl), .ref vr, .int (nI nv), .int am, .ref py, .int (nI nc), .int lcd, .int pia])) :: (lr, .inl (cyL, 12, .inr (.inr (.inr (.inr lrow))))) :: (vr, .inl (cyV, 100, .inr (.inr (.inr (.inr vrow))))) :: (py, .inl (cyI, 40, .inl pay)) :: Y : va_W) ++ va_pl L (gE K bud fsd las bas mvi mva ear vln vda vam vrf vel vnx)) t) A) (gThr D (gTy cyI cyZ cyL cyV cyJ) A (((g, .inr (2, [.int ga, .int gs, .int ora, .int oc, .ref lr, .int (nI nl), .ref vr, .int (nI nv), .int am, .ref py, .int (nI nc), .int lcd, .int pia])) :: (lr, .inl (cyL, 12, .inr (.inr (.inr (.inr lrow))))) :: (vr, .inl (cyV, 100, .inr (.inr (.inr (.inr vrow))))) :: (py, .inl (cyI, 40, .inl pay)) :: Y : va_W) ++ va_pl L (gE K bud fsd las bas mvi mva ear vln vda vam vrf vel vnx)) (fun E => E = "java/lang/IndexOutOfBoundsException" ∧ ¬ ∃ a, gHas 100 vrow k0 a)) 1 6 A := by
  refine vx_ofW (cc := cX2_findVoucher) (maxL := 3) (ret := (some (.object "GrantBook$Voucher"))) (by decide) rfl ?_
  intro p e s m args below meth c s₁ B hml htb hv
  obtain ⟨rfl, hTF, hsz, hP, hK, hD0⟩ := hv
  have hx := B.exec
  have hb := B.bytes
  have hr := B.returns
  have hts := atoms_spec (ws := wsX2_findVoucher) B.pre
  have hown : s.vm.findClass RX2 = some m.cls := findClass_of_methodNamed B.named
  have hlocks := B.notSynchronized
  subst hsz
  have hD := hD0.self (sz := s.heap.size)
  rw [hAe] at hD hTF
  have hA : ∀ q : Nat, s.heap.size ≤ q → A q := fun q h => by rw [← hAe]; exact Or.inr h
  have hS : va_S A s.heap s.heap [] := va_S.rf
  have hP : va_P D vwCl (((g, .inr (2, [.int ga, .int gs, .int ora, .int oc, .ref lr, .int (nI nl), .ref vr, .int (nI nv), .int am, .ref py, .int (nI nc), .int lcd, .int pia])) :: (lr, .inl (cyL, 12, .inr (.inr (.inr (.inr lrow))))) :: (vr, .inl (cyV, 100, .inr (.inr (.inr (.inr vrow))))) :: (py, .inl (cyI, 40, .inl pay)) :: Y : va_W) ++ va_pl L (gE K bud fsd las bas mvi mva ear vln vda vam vrf vel vnx)) s.heap := hP
  have hi2 : ∀ w ∈ wsX20, w ∈ wsX2_findVoucher := fun _ h => List.mem_cons_of_mem _ (List.mem_append_left _ (List.mem_append_right _ h))
  have hl := lv_entry ([.ref g, .int k0]) (n := 3) (Nat.le_of_ble_eq_true rfl)
  rw [lg_entry_eq]
  generalize (lg_sl ([.ref g, .int k0]) ++ List.replicate (3 - (lg_sl ([.ref g, .int k0])).length) Slot.unset).toArray = ls at hl ⊢
  have hl : lv_has ls 3 [(0, .ref g), (1, .int k0)] := hl
  refine lv_iload_n hx hb dX2_findVoucher_0 rfl (lv_at hl 1 rfl) ?_
  refine lv_if_lt (tgt := 22) hx hb dX2_findVoucher_1 (by decide) (fun c_1 => ?_) (fun c_1 => ?_)
  · refine lv_null hx hb dX2_findVoucher_22 ?_
    refine lv_astore_nN (lv' := [(2, .null), (0, .ref g), (1, .int k0)]) hx hb dX2_findVoucher_23 rfl hl (by decide) rfl (fun ls hl => ?_)
    refine lv_aload_nN hx hb dX2_findVoucher_24 rfl (lv_at hl 0 rfl) ?_
    refine lv_ifnonnullN hx hb dX2_findVoucher_25 ?_
    obtain ⟨sa_2, hsa_2⟩ := hTF.2.2.2 (186, "no such voucher") (by decide +kernel)
    exact vx_throwS hx hb hst (sa := sa_2) (text := "no such voucher") (is := 186) (names := ["java/lang/RuntimeException", "java/lang/Exception"]) hown (by decide +kernel) (by decide +kernel) (hts (.classLink RX2 177 "java/lang/IndexOutOfBoundsException") (List.mem_of_getElem? (i := 1) rfl)) (hts (.initialized "java/lang/IndexOutOfBoundsException") (List.mem_of_getElem? (i := 2) rfl)) hsa_2 (gk_hat (fun w hw => hts w (List.mem_cons_of_mem _ (List.mem_append_right _ hw))) hTF (by decide +kernel)) (by decide +kernel) hTF.1 hTF.2.1 hS (hl.1.trans hml.symm) dX2_findVoucher_28 dX2_findVoucher_31 dX2_findVoucher_32 dX2_findVoucher_34 dX2_findVoucher_37 (fun x hx9 => (htb x hx9).elim) (Nat.le_of_ble_eq_true rfl) (Nat.le_of_ble_eq_true rfl) (Nat.le_of_ble_eq_true rfl) (Nat.le_of_ble_eq_true rfl) hlocks (fun t hal hsz9 hkp => ⟨"java/lang/IndexOutOfBoundsException", ⟨rfl, gHn_lt (by decide) c_1⟩, ⟨rfl, hP.kept (fun k q hk => hkp q.1 (vx_lt hP hk)), va_K.moved hal hK, hD⟩, Nat.le_trans hS.1 hsz9, fun q h1 h2 => (hkp q (Nat.lt_of_lt_of_le h1 hS.1)).trans (hS.2.1 q h1 h2)⟩) hS.2.2 (Nat.le_of_ble_eq_true rfl) (Nat.le_of_ble_eq_true rfl)
  · refine lv_iload_n hx hb dX2_findVoucher_4 rfl (lv_at hl 1 rfl) ?_
    refine lv_aload_n hx hb dX2_findVoucher_5 rfl (lv_at hl 0 rfl) ?_
    refine va_get (D := D) (ci := 2) (v := .ref vr) (C := RX2) (T := TX2) (N := 13) hx hb hts hi2 hown hK hP 0 rfl rfl 6 (by decide) (hts (.fieldLink RX2 35 "GrantBook" "voucherRows" "[LGrantBook$Voucher;") (List.mem_of_getElem? (i := 3) rfl)) (fun _ h9 => h9) rfl dX2_findVoucher_6 ?_
    refine va_alen hx hb hK hP 2 3 rfl rfl (v := 100) rfl dX2_findVoucher_9 ?_
    refine lv_icmp_ge (tgt := 22) hx hb dX2_findVoucher_10 (by decide) (fun c_3 => ?_) (fun c_3 => ?_)
    · refine lv_null hx hb dX2_findVoucher_22 ?_
      refine lv_astore_nN (lv' := [(2, .null), (0, .ref g), (1, .int k0)]) hx hb dX2_findVoucher_23 rfl hl (by decide) rfl (fun ls hl => ?_)
      refine lv_aload_nN hx hb dX2_findVoucher_24 rfl (lv_at hl 0 rfl) ?_
      refine lv_ifnonnullN hx hb dX2_findVoucher_25 ?_
      obtain ⟨sa_4, hsa_4⟩ := hTF.2.2.2 (186, "no such voucher") (by decide +kernel)
      exact vx_throwS hx hb hst (sa := sa_4) (text := "no such voucher") (is := 186) (names := ["java/lang/RuntimeException", "java/lang/Exception"]) hown (by decide +kernel) (by decide +kernel) (hts (.classLink RX2 177 "java/lang/IndexOutOfBoundsException") (List.mem_of_getElem? (i := 1) rfl)) (hts (.initialized "java/lang/IndexOutOfBoundsException") (List.mem_of_getElem? (i := 2) rfl)) hsa_4 (gk_hat (fun w hw => hts w (List.mem_cons_of_mem _ (List.mem_append_right _ hw))) hTF (by decide +kernel)) (by decide +kernel) hTF.1 hTF.2.1 hS (hl.1.trans hml.symm) dX2_findVoucher_28 dX2_findVoucher_31 dX2_findVoucher_32 dX2_findVoucher_34 dX2_findVoucher_37 (fun x hx9 => (htb x hx9).elim) (Nat.le_of_ble_eq_true rfl) (Nat.le_of_ble_eq_true rfl) (Nat.le_of_ble_eq_true rfl) (Nat.le_of_ble_eq_true rfl) hlocks (fun t hal hsz9 hkp => ⟨"java/lang/IndexOutOfBoundsException", ⟨rfl, gHn_ge (N := 100) (by decide) c_3⟩, ⟨rfl, hP.kept (fun k q hk => hkp q.1 (vx_lt hP hk)), va_K.moved hal hK, hD⟩, Nat.le_trans hS.1 hsz9, fun q h1 h2 => (hkp q (Nat.lt_of_lt_of_le h1 hS.1)).trans (hS.2.1 q h1 h2)⟩) hS.2.2 (Nat.le_of_ble_eq_true rfl) (Nat.le_of_ble_eq_true rfl)
    · refine lv_aload_n hx hb dX2_findVoucher_13 rfl (lv_at hl 0 rfl) ?_
      refine va_get (D := D) (ci := 2) (v := .ref vr) (C := RX2) (T := TX2) (N := 13) hx hb hts hi2 hown hK hP 0 rfl rfl 6 (by decide) (hts (.fieldLink RX2 35 "GrantBook" "voucherRows" "[LGrantBook$Voucher;") (List.mem_of_getElem? (i := 3) rfl)) (fun _ h9 => h9) rfl dX2_findVoucher_14 ?_
      refine lv_iload_n hx hb dX2_findVoucher_17 rfl (lv_at hl 1 rfl) ?_
      obtain ⟨i0, hix, rfl⟩ := gIx (N := 100) (by decide) c_1 c_3
      refine gk_aldq (i := i0) hx hb hK hP 2 3 rfl rfl hix (by decide) dX2_findVoucher_18 ?_
      rcases hq_5 : vrow i0 with _ | a_5
      · refine lv_goto (tgt := 23) hx hb dX2_findVoucher_19 (by decide) ?_
        refine lv_astore_nN (lv' := [(2, .null), (0, .ref g), (1, .int (nI i0))]) hx hb dX2_findVoucher_23 rfl hl (by decide) rfl (fun ls hl => ?_)
        refine lv_aload_nN hx hb dX2_findVoucher_24 rfl (lv_at hl 0 rfl) ?_
        refine lv_ifnonnullN hx hb dX2_findVoucher_25 ?_
        obtain ⟨sa_6, hsa_6⟩ := hTF.2.2.2 (186, "no such voucher") (by decide +kernel)
        exact vx_throwS hx hb hst (sa := sa_6) (text := "no such voucher") (is := 186) (names := ["java/lang/RuntimeException", "java/lang/Exception"]) hown (by decide +kernel) (by decide +kernel) (hts (.classLink RX2 177 "java/lang/IndexOutOfBoundsException") (List.mem_of_getElem? (i := 1) rfl)) (hts (.initialized "java/lang/IndexOutOfBoundsException") (List.mem_of_getElem? (i := 2) rfl)) hsa_6 (gk_hat (fun w hw => hts w (List.mem_cons_of_mem _ (List.mem_append_right _ hw))) hTF (by decide +kernel)) (by decide +kernel) hTF.1 hTF.2.1 hS (hl.1.trans hml.symm) dX2_findVoucher_28 dX2_findVoucher_31 dX2_findVoucher_32 dX2_findVoucher_34 dX2_findVoucher_37 (fun x hx9 => (htb x hx9).elim) (Nat.le_of_ble_eq_true rfl) (Nat.le_of_ble_eq_true rfl) (Nat.le_of_ble_eq_true rfl) (Nat.le_of_ble_eq_true rfl) hlocks (fun t hal hsz9 hkp => ⟨"java/lang/IndexOutOfBoundsException", ⟨rfl, gHn_no (by decide) hix hq_5⟩, ⟨rfl, hP.kept (fun k q hk => hkp q.1 (vx_lt hP hk)), va_K.moved hal hK, hD⟩, Nat.le_trans hS.1 hsz9, fun q h1 h2 => (hkp q (Nat.lt_of_lt_of_le h1 hS.1)).trans (hS.2.1 q h1 h2)⟩) hS.2.2 (Nat.le_of_ble_eq_true rfl) (Nat.le_of_ble_eq_true rfl)
      · refine lv_goto (tgt := 23) hx hb dX2_findVoucher_19 (by decide) ?_
        refine lv_astore_n (lv' := [(2, .ref a_5), (0, .ref g), (1, .int (nI i0))]) hx hb dX2_findVoucher_23 rfl hl (by decide) rfl (fun ls hl => ?_)
        refine lv_aload_n hx hb dX2_findVoucher_24 rfl (lv_at hl 0 rfl) ?_
        refine lv_ifnonnull (tgt := 38) hx hb dX2_findVoucher_25 (by decide) ?_
        refine lv_aload_n hx hb dX2_findVoucher_38 rfl (lv_at hl 0 rfl) ?_
        refine W.widen (k := 1) (n := 6) (Nat.le_of_ble_eq_true rfl) (Nat.le_of_ble_eq_true rfl) ?_
        refine vx_ret ?_
        exact W.aret (v := .ref a_5) hx hb hr (Or.inl ⟨_, rfl⟩) (Or.inr ⟨_, rfl⟩) (fun t ht hW => ⟨⟨some a_5, (), rfl, ⟨a_5, rfl, i0, hix, rfl, hq_5⟩, by rw [ht]; exact hP, va_K.moved hW.alike hK, hD⟩, hS.F ht⟩) hS.2.2 dX2_findVoucher_39
set_option maxHeartbeats 4000000 in
set_option maxRecDepth 100000 in
theorem kX2_eligibleMoreWith (l : Launch) (D : va_G) (tys : List (ClassId × FieldType)) (X : va_W) (L : List Nat) (K : Nat → Nat) (bud fsd las bas mvi mva : Nat → Int32) (ear vln : Nat → Option Nat) (vda vam vrf vel : Nat → Int32) (vnx : Nat → Option Nat) (v0 : Nat) (hLv : v0 ∈ L) (hKv : K v0 = 1) (b0 : Nat) (hLb : b0 ∈ L) (hKb : K b0 = 0) (hvl : vln v0 = some b0) (ch : List Nat) (hch : gCh vnx (ear b0) ch) (hcl : ∀ y ∈ ch, y ∈ L ∧ K y = 1) (z0 : Int32) (hz0 : z0 = 0 ∨ z0 = 1) (sz : Nat) (A : Nat → Prop) (hAe : va_A (X ++ va_pl L (gE K bud fsd las bas mvi mva ear vln vda vam vrf vel vnx)) sz = A) : Met l yX2_eligibleMoreWith wsX2_eligibleMoreWith ({ frames := 2, cells := 0, slots := 0, locals := 43 }) (va_Pc [.ref v0, .int z0] (gPre D tys (X ++ va_pl L (gE K bud fsd las bas mvi mva ear vln vda vam vrf vel vnx)) sz)) (va_Qi (fun (r : Int32) (u : Nat → Int32) => r = gSu u vda 9999 ch 0 - gSu vel vda 9999 ch 0 ∧ u = gRk (fsd b0) (las b0) (va_up vrf v0 z0) vda vam ch (bud b0 + mvi b0 - mva b0) vel) (fun (u : Nat → Int32) t => gPost D tys A (X ++ va_pl L (gE K bud fsd las bas mvi mva ear vln vda vam (va_up vrf v0 z0) u vnx)) t) A) 0 0 A := by
  refine Met.ofW (cc := cX2_eligibleMoreWith) (maxL := 4) (ret := (some .int)) (by decide) rfl ?_
  intro p e s m args below meth c s₁ B hml hv
  obtain ⟨rfl, hsz, hP, hK, hD0⟩ := hv
  have hx := B.exec
  have hb := B.bytes
  have hr := B.returns
  have hts := atoms_spec (ws := wsX2_eligibleMoreWith) B.pre
  have hown : s.vm.findClass RX2 = some m.cls := findClass_of_methodNamed B.named
  have hlocks := B.notSynchronized
  subst hsz
  have hD := hD0.self (sz := s.heap.size)
  rw [hAe] at hD
  have hA : ∀ q : Nat, s.heap.size ≤ q → A q := fun q h => by rw [← hAe]; exact Or.inr h
  have hS : va_S A s.heap s.heap [] := va_S.rf
  have hP : va_P D vwCl (X ++ va_pl L (gE K bud fsd las bas mvi mva ear vln vda vam vrf vel vnx)) s.heap := hP
  have hi1 : ∀ w ∈ wsX10, w ∈ wsX2_eligibleMoreWith := fun _ h => List.mem_cons_of_mem _ (List.mem_append_left _ (List.mem_append_right _ h))
  have hl := lv_entry ([.ref v0, .int z0]) (n := 4) (Nat.le_of_ble_eq_true rfl)
  rw [lg_entry_eq]
  generalize (lg_sl ([.ref v0, .int z0]) ++ List.replicate (4 - (lg_sl ([.ref v0, .int z0])).length) Slot.unset).toArray = ls at hl ⊢
  have hl : lv_has ls 4 [(0, .ref v0), (1, .int z0)] := hl
  refine lv_aload_n hx hb dX2_eligibleMoreWith_0 rfl (lv_at hl 0 rfl) ?_
  refine gk_get (C := RX1) (T := TX1) (N := 6) (v := va_rf (vln v0)) hx hb hts hi1 hown hK hP hLv (gE_1 hKv) rfl 0 (by decide) (hts (.fieldLink RX2 141 "GrantBook$Voucher" "line" "LGrantBook$Line;") (List.mem_of_getElem? (i := 1) rfl)) (fun _ h9 => h9) rfl dX2_eligibleMoreWith_1 ?_
  rw [hvl]
  refine lv_astore_n (lv' := [(2, .ref b0), (0, .ref v0), (1, .int z0)]) hx hb dX2_eligibleMoreWith_4 rfl hl (by decide) rfl (fun ls hl => ?_)
  refine lv_aload_n hx hb dX2_eligibleMoreWith_5 rfl (lv_at hl 0 rfl) ?_
  refine lv_sipush (v := 9999) hx hb dX2_eligibleMoreWith_6 (by decide) ?_
  have hF_1 := gk_all hD hS hA
  refine va_calli (va_runV (As := [.int 9999]) (rest := []) ⟨hx, hb, hml, hown, hts⟩ (kX0_eligibleUpTo l D tys X L K bud fsd las bas mvi mva ear vln vda vam vrf vel vnx b0 hLb hKb ch hch hcl 9999 s.heap.size _ rfl) (cwV 1 hts gX2_eligibleMoreWith_X0_eligibleUpTo rfl rfl rfl (by decide +kernel) ⟨(Nat.le_of_ble_eq_true rfl), (Nat.le_of_ble_eq_true rfl)⟩) (gk_preV hP hK hD (gk_recv hK hP hLb (gE_0 hKb) rfl)) rfl rfl hl.1 rfl (lv_room (Nat.le_of_ble_eq_true rfl)) dX2_eligibleMoreWith_9 ⟨(Nat.le_of_ble_eq_true rfl), (Nat.le_of_ble_eq_true rfl)⟩) hS (fun q _ h => hF_1 q h) hF_1 (fun r_1 u_1 t_1 H locs ht_1 hvm_1 hw_1 hB_1 hz_1 hk_1 hS => ?_)
  obtain ⟨hP, hD⟩ := gk_back hF_1 hB_1 ht_1
  subst hw_1
  refine lv_istore_n (lv' := [(3, .int (gSu vel vda 9999 ch 0)), (2, .ref b0), (0, .ref v0), (1, .int z0)]) hx hb dX2_eligibleMoreWith_12 rfl hl (by decide) rfl (fun ls hl => ?_)
  refine lv_aload_n hx hb dX2_eligibleMoreWith_13 rfl (lv_at hl 2 rfl) ?_
  refine lv_iload_n hx hb dX2_eligibleMoreWith_14 rfl (lv_at hl 3 rfl) ?_
  refine gk_put (f' := (gE K bud fsd las bas mvi mva ear vln vda vam (va_up vrf v0 z0) vel vnx)) (v := .int z0) (ty := .boolean) (C := RX1) (T := TX1) (N := 6) hx hb hts hi1 tyX1 tyX1_ok nmX1 hown hK hP hD hS hLv (gE_1 hKv) rfl 3 (by decide) (hts (.fieldLink RX2 127 "GrantBook$Voucher" "isRefused" "Z") (List.mem_of_getElem? (i := 2) rfl)) (fun _ h9 => h9) rfl (by decide +kernel) (by rcases hz0 with rfl | rfl <;> decide) (by rcases hz0 with rfl | rfl <;> decide) (Nat.le_of_ble_eq_true rfl) (gU_vrf hKv z0) dX2_eligibleMoreWith_15 (fun H locs hP hD hS => ?_)
  obtain ⟨vrf_2, evrf_2⟩ : ∃ z, z = (va_up vrf v0 z0) := ⟨_, rfl⟩
  rw [← evrf_2] at hP hD
  refine lv_aload_n hx hb dX2_eligibleMoreWith_18 rfl (lv_at hl 1 rfl) ?_
  have hF_3 := gk_all hD hS hA
  refine va_callv (va_runV (As := []) (rest := []) ⟨hx, hb, hml, hown, hts⟩ (kX0_reckon l D tys X L K bud fsd las bas mvi mva ear vln vda vam vrf_2 vel vnx b0 hLb hKb ch hch hcl H.size _ rfl) (cwV 0 hts gX2_eligibleMoreWith_X0_reckon rfl rfl rfl (by decide +kernel) ⟨(Nat.le_of_ble_eq_true rfl), (Nat.le_of_ble_eq_true rfl)⟩) (gk_preV hP hK hD (gk_recv hK hP hLb (gE_0 hKb) rfl)) rfl rfl hl.1 rfl (lv_room (Nat.le_of_ble_eq_true rfl)) dX2_eligibleMoreWith_19 ⟨(Nat.le_of_ble_eq_true rfl), (Nat.le_of_ble_eq_true rfl)⟩) hS (fun q _ h => hF_3 q h) hF_3 (fun u_3 t_3 H locs ht_3 hvm_3 hw_3 hB_3 hz_3 hk_3 hS => ?_)
  obtain ⟨hP, hD⟩ := gk_back hF_3 hB_3 ht_3
  obtain ⟨vel_3, evel_3⟩ : ∃ z, z = u_3 := ⟨_, rfl⟩
  rw [← evel_3] at hP hD hw_3
  refine lv_aload_n hx hb dX2_eligibleMoreWith_22 rfl (lv_at hl 1 rfl) ?_
  refine lv_sipush (v := 9999) hx hb dX2_eligibleMoreWith_23 (by decide) ?_
  have hF_4 := gk_all hD hS hA
  refine va_calli (va_runV (As := [.int 9999]) (rest := []) ⟨hx, hb, hml, hown, hts⟩ (kX0_eligibleUpTo l D tys X L K bud fsd las bas mvi mva ear vln vda vam vrf_2 vel_3 vnx b0 hLb hKb ch hch hcl 9999 H.size _ rfl) (cwV 1 hts gX2_eligibleMoreWith_X0_eligibleUpTo rfl rfl rfl (by decide +kernel) ⟨(Nat.le_of_ble_eq_true rfl), (Nat.le_of_ble_eq_true rfl)⟩) (gk_preV hP hK hD (gk_recv hK hP hLb (gE_0 hKb) rfl)) rfl rfl hl.1 rfl (lv_room (Nat.le_of_ble_eq_true rfl)) dX2_eligibleMoreWith_26 ⟨(Nat.le_of_ble_eq_true rfl), (Nat.le_of_ble_eq_true rfl)⟩) hS (fun q _ h => hF_4 q h) hF_4 (fun r_4 u_4 t_4 H locs ht_4 hvm_4 hw_4 hB_4 hz_4 hk_4 hS => ?_)
  obtain ⟨hP, hD⟩ := gk_back hF_4 hB_4 ht_4
  subst hw_4
  refine lv_iload_n hx hb dX2_eligibleMoreWith_29 rfl (lv_at hl 0 rfl) ?_
  refine lv_isub hx hb dX2_eligibleMoreWith_30 ?_
  subst evrf_2
  refine W.widen (k := 0) (n := 0) (Nat.le_of_ble_eq_true rfl) (Nat.le_of_ble_eq_true rfl) ?_
  exact W.iret (v := ((gSu vel_3 vda 9999 ch 0) - (gSu vel vda 9999 ch 0))) hx hb hr (fun t ht hW => ⟨⟨((gSu vel_3 vda 9999 ch 0) - (gSu vel vda 9999 ch 0)), vel_3, rfl, ⟨rfl, hw_3⟩, by rw [ht]; exact hP, va_K.moved hW.alike hK, hD⟩, hS.F ht⟩) hS.2.2 dX2_eligibleMoreWith_31
set_option maxHeartbeats 4000000 in
set_option maxRecDepth 100000 in
theorem kX2_eligibleInAll (l : Launch) (D : va_G) (cyI cyZ cyL cyV cyJ : ClassId) (g lr vr py : Nat) (ga gs ora oc : Int32) (lrow vrow : Nat → Option Nat) (nl nv : Nat) (am : Int32) (pay : Nat → Int32) (nc : Nat) (lcd pia : Int32) (Y : va_W) (L : List Nat) (K : Nat → Nat) (bud fsd las bas mvi mva : Nat → Int32) (ear vln : Nat → Option Nat) (vda vam vrf vel : Nat → Int32) (vnx : Nat → Option Nat) (ch : Nat → List Nat) (hOK : gOK L K lrow vrow ear vln vnx ch) (d0 z0 : Int32) (sz : Nat) (A : Nat → Prop) (hAe : va_A (((g, .inr (2, [.int ga, .int gs, .int ora, .int oc, .ref lr, .int (nI nl), .ref vr, .int (nI nv), .int am, .ref py, .int (nI nc), .int lcd, .int pia])) :: (lr, .inl (cyL, 12, .inr (.inr (.inr (.inr lrow))))) :: (vr, .inl (cyV, 100, .inr (.inr (.inr (.inr vrow))))) :: (py, .inl (cyI, 40, .inl pay)) :: Y : va_W) ++ va_pl L (gE K bud fsd las bas mvi mva ear vln vda vam vrf vel vnx)) sz = A) : Met l yX2_eligibleInAll wsX2_eligibleInAll ({ frames := 1, cells := 0, slots := 0, locals := 23 }) (va_Pc [.ref g, .int d0, .int z0] (gPre D (gTy cyI cyZ cyL cyV cyJ) (((g, .inr (2, [.int ga, .int gs, .int ora, .int oc, .ref lr, .int (nI nl), .ref vr, .int (nI nv), .int am, .ref py, .int (nI nc), .int lcd, .int pia])) :: (lr, .inl (cyL, 12, .inr (.inr (.inr (.inr lrow))))) :: (vr, .inl (cyV, 100, .inr (.inr (.inr (.inr vrow))))) :: (py, .inl (cyI, 40, .inl pay)) :: Y : va_W) ++ va_pl L (gE K bud fsd las bas mvi mva ear vln vda vam vrf vel vnx)) sz)) (va_Qi (fun (r : Int32) (_ : Unit) => r = gSa lrow bas vel vda ch d0 z0 12) (fun (_ : Unit) t => gPost D (gTy cyI cyZ cyL cyV cyJ) A (((g, .inr (2, [.int ga, .int gs, .int ora, .int oc, .ref lr, .int (nI nl), .ref vr, .int (nI nv), .int am, .ref py, .int (nI nc), .int lcd, .int pia])) :: (lr, .inl (cyL, 12, .inr (.inr (.inr (.inr lrow))))) :: (vr, .inl (cyV, 100, .inr (.inr (.inr (.inr vrow))))) :: (py, .inl (cyI, 40, .inl pay)) :: Y : va_W) ++ va_pl L (gE K bud fsd las bas mvi mva ear vln vda vam vrf vel vnx)) t) A) 0 0 A := by
  refine Met.ofW (cc := cX2_eligibleInAll) (maxL := 8) (ret := (some .int)) (by decide) rfl ?_
  intro p e s m args below meth c s₁ B hml hv
  obtain ⟨rfl, hsz, hP, hK, hD0⟩ := hv
  have hx := B.exec
  have hb := B.bytes
  have hr := B.returns
  have hts := atoms_spec (ws := wsX2_eligibleInAll) B.pre
  have hown : s.vm.findClass RX2 = some m.cls := findClass_of_methodNamed B.named
  have hlocks := B.notSynchronized
  subst hsz
  have hD := hD0.self (sz := s.heap.size)
  rw [hAe] at hD
  have hA : ∀ q : Nat, s.heap.size ≤ q → A q := fun q h => by rw [← hAe]; exact Or.inr h
  have hS : va_S A s.heap s.heap [] := va_S.rf
  have hP : va_P D vwCl (((g, .inr (2, [.int ga, .int gs, .int ora, .int oc, .ref lr, .int (nI nl), .ref vr, .int (nI nv), .int am, .ref py, .int (nI nc), .int lcd, .int pia])) :: (lr, .inl (cyL, 12, .inr (.inr (.inr (.inr lrow))))) :: (vr, .inl (cyV, 100, .inr (.inr (.inr (.inr vrow))))) :: (py, .inl (cyI, 40, .inl pay)) :: Y : va_W) ++ va_pl L (gE K bud fsd las bas mvi mva ear vln vda vam vrf vel vnx)) s.heap := hP
  have hi0 : ∀ w ∈ wsX00, w ∈ wsX2_eligibleInAll := fun _ h => List.mem_cons_of_mem _ (List.mem_append_left _ (List.mem_append_right _ h))
  have hi2 : ∀ w ∈ wsX20, w ∈ wsX2_eligibleInAll := fun _ h => List.mem_cons_of_mem _ (List.mem_append_left _ (List.mem_append_left _ (List.mem_append_right _ h)))
  have hl := lv_entry ([.ref g, .int d0, .int z0]) (n := 8) (Nat.le_of_ble_eq_true rfl)
  rw [lg_entry_eq]
  generalize (lg_sl ([.ref g, .int d0, .int z0]) ++ List.replicate (8 - (lg_sl ([.ref g, .int d0, .int z0])).length) Slot.unset).toArray = ls at hl ⊢
  have hl : lv_has ls 8 [(0, .ref g), (1, .int d0), (2, .int z0)] := hl
  have loop : ∀ (n i : Nat) (H : Heap) (locs : List Loc) (ls : Array Slot), i ≤ 12 → 13 ≤ i + n → va_P D vwCl (((g, .inr (2, [.int ga, .int gs, .int ora, .int oc, .ref lr, .int (nI nl), .ref vr, .int (nI nv), .int am, .ref py, .int (nI nc), .int lcd, .int pia])) :: (lr, .inl (cyL, 12, .inr (.inr (.inr (.inr lrow))))) :: (vr, .inl (cyV, 100, .inr (.inr (.inr (.inr vrow))))) :: (py, .inl (cyI, 40, .inl pay)) :: Y : va_W) ++ va_pl L (gE K bud fsd las bas mvi mva ear vln vda vam vrf vel vnx)) H → va_D A (((g, .inr (2, [.int ga, .int gs, .int ora, .int oc, .ref lr, .int (nI nl), .ref vr, .int (nI nv), .int am, .ref py, .int (nI nc), .int lcd, .int pia])) :: (lr, .inl (cyL, 12, .inr (.inr (.inr (.inr lrow))))) :: (vr, .inl (cyV, 100, .inr (.inr (.inr (.inr vrow))))) :: (py, .inl (cyI, 40, .inl pay)) :: Y : va_W) ++ va_pl L (gE K bud fsd las bas mvi mva ear vln vda vam vrf vel vnx)) → va_S A s.heap H locs → lv_has ls 8 [(6, .int (nI i)), (5, .int 12), (4, .ref lr), (3, .int (gSa lrow bas vel vda ch d0 z0 i)), (0, .ref g), (1, .int d0), (2, .int z0)] → W p l e (headSpec wsX2_eligibleInAll ({ frames := 1, cells := 0, slots := 0, locals := 23 })).room s m ([.ref g, .int d0, .int z0] : List Value).toArray below meth c H locs 0 0 (MQ below (va_Qi (fun (r : Int32) (_ : Unit) => r = gSa lrow bas vel vda ch d0 z0 12) (fun (_ : Unit) t => gPost D (gTy cyI cyZ cyL cyV cyJ) A (((g, .inr (2, [.int ga, .int gs, .int ora, .int oc, .ref lr, .int (nI nl), .ref vr, .int (nI nv), .int am, .ref py, .int (nI nc), .int lcd, .int pia])) :: (lr, .inl (cyL, 12, .inr (.inr (.inr (.inr lrow))))) :: (vr, .inl (cyV, 100, .inr (.inr (.inr (.inr vrow))))) :: (py, .inl (cyI, 40, .inl pay)) :: Y : va_W) ++ va_pl L (gE K bud fsd las bas mvi mva ear vln vda vam vrf vel vnx)) t) A) ([.ref g, .int d0, .int z0] : List Value).toArray s 0 0 A) (F0 m 16 ls []) := by
    intro n
    induction n with
    | zero => intro i H locs ls h1 h2; exact absurd h2 (by omega)
    | succ n ih =>
      intro i H locs ls h1 h2 hP hD hS hl
      refine lv_iload hx hb dX2_eligibleInAll_16 (lv_at hl 0 rfl) ?_
      refine lv_iload hx hb dX2_eligibleInAll_18 (lv_at hl 1 rfl) ?_
      refine lv_icmp_ge (tgt := 62) hx hb dX2_eligibleInAll_20 (by decide) (fun c_1 => ?_) (fun c_1 => ?_)
      · refine lv_iload_n hx hb dX2_eligibleInAll_62 rfl (lv_at hl 3 rfl) ?_
        refine W.widen (k := 0) (n := 0) (Nat.le_of_ble_eq_true rfl) (Nat.le_of_ble_eq_true rfl) ?_
        exact W.iret (v := (gSa lrow bas vel vda ch d0 z0 i)) hx hb hr (fun t ht hW => ⟨⟨(gSa lrow bas vel vda ch d0 z0 i), (), rfl, (by obtain rfl : i = 12 := Nat.le_antisymm h1 ((nI_leI (a := 12) (by decide) (by omega)).mp c_1); rfl), by rw [ht]; exact hP, va_K.moved hW.alike hK, hD⟩, hS.F ht⟩) hS.2.2 dX2_eligibleInAll_63
      · have hlt : i < 12 := gLt (N := 12) (by omega) (by decide) (Int32.not_le.mp c_1)
        refine lv_aload hx hb dX2_eligibleInAll_23 (lv_at hl 2 rfl) ?_
        refine lv_iload hx hb dX2_eligibleInAll_25 (lv_at hl 0 rfl) ?_
        refine gk_aldq (i := i) hx hb hK hP 1 2 rfl rfl hlt (by decide) dX2_eligibleInAll_27 ?_
        rcases hq_2 : lrow i with _ | a_2
        · refine lv_astoreN (lv' := [(7, .null), (6, .int (nI i)), (5, .int 12), (4, .ref lr), (3, .int (gSa lrow bas vel vda ch d0 z0 i)), (0, .ref g), (1, .int d0), (2, .int z0)]) hx hb dX2_eligibleInAll_28 hl (by decide) rfl (fun ls hl => ?_)
          refine lv_aloadN hx hb dX2_eligibleInAll_30 (lv_at hl 0 rfl) ?_
          refine lv_ifnullN (tgt := 56) hx hb dX2_eligibleInAll_32 (by decide) ?_
          refine lv_iinc (v := nI (i + 1)) (lv' := [(6, .int (nI (i + 1))), (7, .null), (5, .int 12), (4, .ref lr), (3, .int (gSa lrow bas vel vda ch d0 z0 i)), (0, .ref g), (1, .int d0), (2, .int z0)]) hx hb dX2_eligibleInAll_56 hl (k := 1) rfl (by show nI i + 1 = nI (i + 1); exact nI_1 _) (by decide) rfl (fun ls hl => ?_)
          refine lv_goto (tgt := 16) hx hb dX2_eligibleInAll_59 (by decide) ?_
          exact ih (i + 1) _ _ _ (by omega) (by omega) hP hD hS (by rw [(show gSa lrow bas vel vda ch d0 z0 (i + 1) = gSa lrow bas vel vda ch d0 z0 i by rw [gSa, hq_2])]; exact lv_sub hl [0, 2, 3, 4, 5, 6, 7] rfl)
        · obtain ⟨hLa_2, hKa_2⟩ := hOK.1 i a_2 hlt hq_2
          refine lv_astore (lv' := [(7, .ref a_2), (6, .int (nI i)), (5, .int 12), (4, .ref lr), (3, .int (gSa lrow bas vel vda ch d0 z0 i)), (0, .ref g), (1, .int d0), (2, .int z0)]) hx hb dX2_eligibleInAll_28 hl (by decide) rfl (fun ls hl => ?_)
          refine lv_aload hx hb dX2_eligibleInAll_30 (lv_at hl 0 rfl) ?_
          refine lv_ifnull hx hb dX2_eligibleInAll_32 ?_
          refine lv_aload hx hb dX2_eligibleInAll_35 (lv_at hl 0 rfl) ?_
          refine gk_get (C := RX0) (T := TX0) (N := 7) (v := .int (bas a_2)) hx hb hts hi0 hown hK hP hLa_2 (gE_0 hKa_2) rfl 3 (by decide) (hts (.fieldLink RX2 197 "GrantBook$Line" "isInBase" "Z") (List.mem_of_getElem? (i := 2) rfl)) (fun _ h9 => h9) rfl dX2_eligibleInAll_37 ?_
          refine lv_if_ne (tgt := 47) hx hb dX2_eligibleInAll_40 (by decide) (fun c_3 => ?_) (fun c_3 => ?_)
          · refine lv_iload_n hx hb dX2_eligibleInAll_47 rfl (lv_at hl 4 rfl) ?_
            refine lv_aload hx hb dX2_eligibleInAll_48 (lv_at hl 0 rfl) ?_
            refine lv_iload_n hx hb dX2_eligibleInAll_50 rfl (lv_at hl 6 rfl) ?_
            have hF_4 := gk_all hD hS hA
            refine va_calli (va_runV (As := [.int d0]) (rest := [.int (gSa lrow bas vel vda ch d0 z0 i)]) ⟨hx, hb, hml, hown, hts⟩ (kX0_eligibleUpTo l D (gTy cyI cyZ cyL cyV cyJ) ((g, .inr (2, [.int ga, .int gs, .int ora, .int oc, .ref lr, .int (nI nl), .ref vr, .int (nI nv), .int am, .ref py, .int (nI nc), .int lcd, .int pia])) :: (lr, .inl (cyL, 12, .inr (.inr (.inr (.inr lrow))))) :: (vr, .inl (cyV, 100, .inr (.inr (.inr (.inr vrow))))) :: (py, .inl (cyI, 40, .inl pay)) :: Y) L K bud fsd las bas mvi mva ear vln vda vam vrf vel vnx a_2 hLa_2 hKa_2 (ch a_2) (hOK.2.2 a_2 hLa_2 hKa_2).1 (hOK.2.2 a_2 hLa_2 hKa_2).2 d0 H.size _ rfl) (cwV 1 hts gX2_eligibleInAll_X0_eligibleUpTo rfl rfl rfl (by decide +kernel) ⟨(Nat.le_of_ble_eq_true rfl), (Nat.le_of_ble_eq_true rfl)⟩) (gk_preV hP hK hD (gk_recv hK hP hLa_2 (gE_0 hKa_2) rfl)) rfl rfl hl.1 rfl (lv_room (Nat.le_of_ble_eq_true rfl)) dX2_eligibleInAll_51 ⟨(Nat.le_of_ble_eq_true rfl), (Nat.le_of_ble_eq_true rfl)⟩) hS (fun q _ h => hF_4 q h) hF_4 (fun r_4 u_4 t_4 H locs ht_4 hvm_4 hw_4 hB_4 hz_4 hk_4 hS => ?_)
            obtain ⟨hP, hD⟩ := gk_back hF_4 hB_4 ht_4
            subst hw_4
            refine lv_iadd hx hb dX2_eligibleInAll_54 ?_
            refine lv_istore_n (lv' := [(3, .int ((gSa lrow bas vel vda ch d0 z0 i) + (gSu vel vda d0 (ch a_2) 0))), (7, .ref a_2), (6, .int (nI i)), (5, .int 12), (4, .ref lr), (0, .ref g), (1, .int d0), (2, .int z0)]) hx hb dX2_eligibleInAll_55 rfl hl (by decide) rfl (fun ls hl => ?_)
            refine lv_iinc (v := nI (i + 1)) (lv' := [(6, .int (nI (i + 1))), (3, .int ((gSa lrow bas vel vda ch d0 z0 i) + (gSu vel vda d0 (ch a_2) 0))), (7, .ref a_2), (5, .int 12), (4, .ref lr), (0, .ref g), (1, .int d0), (2, .int z0)]) hx hb dX2_eligibleInAll_56 hl (k := 2) rfl (by show nI i + 1 = nI (i + 1); exact nI_1 _) (by decide) rfl (fun ls hl => ?_)
            refine lv_goto (tgt := 16) hx hb dX2_eligibleInAll_59 (by decide) ?_
            exact ih (i + 1) _ _ _ (by omega) (by omega) hP hD hS (by rw [(show gSa lrow bas vel vda ch d0 z0 (i + 1) = gSa lrow bas vel vda ch d0 z0 i + gSu vel vda d0 (ch a_2) 0 by rw [gSa, hq_2]; exact if_neg (fun h => c_3 h.1))]; exact lv_sub hl [0, 3, 4, 1, 5, 6, 7] rfl)
          · refine lv_iload_n hx hb dX2_eligibleInAll_43 rfl (lv_at hl 7 rfl) ?_
            refine lv_if_ne (tgt := 56) hx hb dX2_eligibleInAll_44 (by decide) (fun c_5 => ?_) (fun c_5 => ?_)
            · refine lv_iinc (v := nI (i + 1)) (lv' := [(6, .int (nI (i + 1))), (7, .ref a_2), (5, .int 12), (4, .ref lr), (3, .int (gSa lrow bas vel vda ch d0 z0 i)), (0, .ref g), (1, .int d0), (2, .int z0)]) hx hb dX2_eligibleInAll_56 hl (k := 1) rfl (by show nI i + 1 = nI (i + 1); exact nI_1 _) (by decide) rfl (fun ls hl => ?_)
              refine lv_goto (tgt := 16) hx hb dX2_eligibleInAll_59 (by decide) ?_
              exact ih (i + 1) _ _ _ (by omega) (by omega) hP hD hS (by rw [(show gSa lrow bas vel vda ch d0 z0 (i + 1) = gSa lrow bas vel vda ch d0 z0 i by rw [gSa, hq_2]; exact if_pos ⟨c_3, c_5⟩)]; exact lv_sub hl [0, 2, 3, 4, 5, 6, 7] rfl)
            · refine lv_iload_n hx hb dX2_eligibleInAll_47 rfl (lv_at hl 4 rfl) ?_
              refine lv_aload hx hb dX2_eligibleInAll_48 (lv_at hl 0 rfl) ?_
              refine lv_iload_n hx hb dX2_eligibleInAll_50 rfl (lv_at hl 6 rfl) ?_
              have hF_6 := gk_all hD hS hA
              refine va_calli (va_runV (As := [.int d0]) (rest := [.int (gSa lrow bas vel vda ch d0 z0 i)]) ⟨hx, hb, hml, hown, hts⟩ (kX0_eligibleUpTo l D (gTy cyI cyZ cyL cyV cyJ) ((g, .inr (2, [.int ga, .int gs, .int ora, .int oc, .ref lr, .int (nI nl), .ref vr, .int (nI nv), .int am, .ref py, .int (nI nc), .int lcd, .int pia])) :: (lr, .inl (cyL, 12, .inr (.inr (.inr (.inr lrow))))) :: (vr, .inl (cyV, 100, .inr (.inr (.inr (.inr vrow))))) :: (py, .inl (cyI, 40, .inl pay)) :: Y) L K bud fsd las bas mvi mva ear vln vda vam vrf vel vnx a_2 hLa_2 hKa_2 (ch a_2) (hOK.2.2 a_2 hLa_2 hKa_2).1 (hOK.2.2 a_2 hLa_2 hKa_2).2 d0 H.size _ rfl) (cwV 1 hts gX2_eligibleInAll_X0_eligibleUpTo rfl rfl rfl (by decide +kernel) ⟨(Nat.le_of_ble_eq_true rfl), (Nat.le_of_ble_eq_true rfl)⟩) (gk_preV hP hK hD (gk_recv hK hP hLa_2 (gE_0 hKa_2) rfl)) rfl rfl hl.1 rfl (lv_room (Nat.le_of_ble_eq_true rfl)) dX2_eligibleInAll_51 ⟨(Nat.le_of_ble_eq_true rfl), (Nat.le_of_ble_eq_true rfl)⟩) hS (fun q _ h => hF_6 q h) hF_6 (fun r_6 u_6 t_6 H locs ht_6 hvm_6 hw_6 hB_6 hz_6 hk_6 hS => ?_)
              obtain ⟨hP, hD⟩ := gk_back hF_6 hB_6 ht_6
              subst hw_6
              refine lv_iadd hx hb dX2_eligibleInAll_54 ?_
              refine lv_istore_n (lv' := [(3, .int ((gSa lrow bas vel vda ch d0 z0 i) + (gSu vel vda d0 (ch a_2) 0))), (7, .ref a_2), (6, .int (nI i)), (5, .int 12), (4, .ref lr), (0, .ref g), (1, .int d0), (2, .int z0)]) hx hb dX2_eligibleInAll_55 rfl hl (by decide) rfl (fun ls hl => ?_)
              refine lv_iinc (v := nI (i + 1)) (lv' := [(6, .int (nI (i + 1))), (3, .int ((gSa lrow bas vel vda ch d0 z0 i) + (gSu vel vda d0 (ch a_2) 0))), (7, .ref a_2), (5, .int 12), (4, .ref lr), (0, .ref g), (1, .int d0), (2, .int z0)]) hx hb dX2_eligibleInAll_56 hl (k := 2) rfl (by show nI i + 1 = nI (i + 1); exact nI_1 _) (by decide) rfl (fun ls hl => ?_)
              refine lv_goto (tgt := 16) hx hb dX2_eligibleInAll_59 (by decide) ?_
              exact ih (i + 1) _ _ _ (by omega) (by omega) hP hD hS (by rw [(show gSa lrow bas vel vda ch d0 z0 (i + 1) = gSa lrow bas vel vda ch d0 z0 i + gSu vel vda d0 (ch a_2) 0 by rw [gSa, hq_2]; exact if_neg (fun h => h.2 c_5))]; exact lv_sub hl [0, 3, 4, 1, 5, 6, 7] rfl)
  refine lv_iconst (v := 0) hx hb dX2_eligibleInAll_0 (by decide) ?_
  refine lv_istore_n (lv' := [(3, .int 0), (0, .ref g), (1, .int d0), (2, .int z0)]) hx hb dX2_eligibleInAll_1 rfl hl (by decide) rfl (fun ls hl => ?_)
  refine lv_aload_n hx hb dX2_eligibleInAll_2 rfl (lv_at hl 1 rfl) ?_
  refine va_get (D := D) (ci := 2) (v := .ref lr) (C := RX2) (T := TX2) (N := 13) hx hb hts hi2 hown hK hP 0 rfl rfl 4 (by decide) (hts (.fieldLink RX2 26 "GrantBook" "lineRows" "[LGrantBook$Line;") (List.mem_of_getElem? (i := 1) rfl)) (fun _ h9 => h9) rfl dX2_eligibleInAll_3 ?_
  refine lv_astore (lv' := [(4, .ref lr), (3, .int 0), (0, .ref g), (1, .int d0), (2, .int z0)]) hx hb dX2_eligibleInAll_6 hl (by decide) rfl (fun ls hl => ?_)
  refine lv_aload hx hb dX2_eligibleInAll_8 (lv_at hl 0 rfl) ?_
  refine va_alen hx hb hK hP 1 2 rfl rfl (v := 12) rfl dX2_eligibleInAll_10 ?_
  refine lv_istore (lv' := [(5, .int 12), (4, .ref lr), (3, .int 0), (0, .ref g), (1, .int d0), (2, .int z0)]) hx hb dX2_eligibleInAll_11 hl (by decide) rfl (fun ls hl => ?_)
  refine lv_iconst (v := 0) hx hb dX2_eligibleInAll_13 (by decide) ?_
  refine lv_istore (lv' := [(6, .int 0), (5, .int 12), (4, .ref lr), (3, .int 0), (0, .ref g), (1, .int d0), (2, .int z0)]) hx hb dX2_eligibleInAll_14 hl (by decide) rfl (fun ls hl => ?_)
  exact loop 13 0 _ _ _ (by omega) (by omega) hP hD hS (lv_sub hl [0, 1, 2, 3, 4, 5, 6] rfl)
set_option maxHeartbeats 4000000 in
set_option maxRecDepth 100000 in
theorem kX2_costsUpTo (l : Launch) (D : va_G) (cyI cyZ cyL cyV cyJ : ClassId) (g lr vr py : Nat) (ga gs ora oc : Int32) (lrow vrow : Nat → Option Nat) (nl nv : Nat) (am : Int32) (pay : Nat → Int32) (nc : Nat) (lcd pia : Int32) (Y : va_W) (L : List Nat) (K : Nat → Nat) (bud fsd las bas mvi mva : Nat → Int32) (ear vln : Nat → Option Nat) (vda vam vrf vel : Nat → Int32) (vnx : Nat → Option Nat) (ch : Nat → List Nat) (hOK : gOK L K lrow vrow ear vln vnx ch) (d0 : Int32) (sz : Nat) (A : Nat → Prop) (hAe : va_A (((g, .inr (2, [.int ga, .int gs, .int ora, .int oc, .ref lr, .int (nI nl), .ref vr, .int (nI nv), .int am, .ref py, .int (nI nc), .int lcd, .int pia])) :: (lr, .inl (cyL, 12, .inr (.inr (.inr (.inr lrow))))) :: (vr, .inl (cyV, 100, .inr (.inr (.inr (.inr vrow))))) :: (py, .inl (cyI, 40, .inl pay)) :: Y : va_W) ++ va_pl L (gE K bud fsd las bas mvi mva ear vln vda vam vrf vel vnx)) sz = A) : Met l yX2_costsUpTo wsX2_costsUpTo ({ frames := 2, cells := 0, slots := 0, locals := 50 }) (va_Pc [.ref g, .int d0] (gPre D (gTy cyI cyZ cyL cyV cyJ) (((g, .inr (2, [.int ga, .int gs, .int ora, .int oc, .ref lr, .int (nI nl), .ref vr, .int (nI nv), .int am, .ref py, .int (nI nc), .int lcd, .int pia])) :: (lr, .inl (cyL, 12, .inr (.inr (.inr (.inr lrow))))) :: (vr, .inl (cyV, 100, .inr (.inr (.inr (.inr vrow))))) :: (py, .inl (cyI, 40, .inl pay)) :: Y : va_W) ++ va_pl L (gE K bud fsd las bas mvi mva ear vln vda vam vrf vel vnx)) sz)) (va_Qi (fun (r : Int32) (_ : Unit) => r = (gSa lrow bas vel vda ch d0 0 12)) (fun (_ : Unit) t => gPost D (gTy cyI cyZ cyL cyV cyJ) A (((g, .inr (2, [.int ga, .int gs, .int ora, .int oc, .ref lr, .int (nI nl), .ref vr, .int (nI nv), .int am, .ref py, .int (nI nc), .int lcd, .int pia])) :: (lr, .inl (cyL, 12, .inr (.inr (.inr (.inr lrow))))) :: (vr, .inl (cyV, 100, .inr (.inr (.inr (.inr vrow))))) :: (py, .inl (cyI, 40, .inl pay)) :: Y : va_W) ++ va_pl L (gE K bud fsd las bas mvi mva ear vln vda vam vrf vel vnx)) t) A) 0 0 A := by
  refine Met.ofW (cc := cX2_costsUpTo) (maxL := 2) (ret := (some .int)) (by decide) rfl ?_
  intro p e s m args below meth c s₁ B hml hv
  obtain ⟨rfl, hsz, hP, hK, hD0⟩ := hv
  have hx := B.exec
  have hb := B.bytes
  have hr := B.returns
  have hts := atoms_spec (ws := wsX2_costsUpTo) B.pre
  have hown : s.vm.findClass RX2 = some m.cls := findClass_of_methodNamed B.named
  have hlocks := B.notSynchronized
  subst hsz
  have hD := hD0.self (sz := s.heap.size)
  rw [hAe] at hD
  have hA : ∀ q : Nat, s.heap.size ≤ q → A q := fun q h => by rw [← hAe]; exact Or.inr h
  have hS : va_S A s.heap s.heap [] := va_S.rf
  have hP : va_P D vwCl (((g, .inr (2, [.int ga, .int gs, .int ora, .int oc, .ref lr, .int (nI nl), .ref vr, .int (nI nv), .int am, .ref py, .int (nI nc), .int lcd, .int pia])) :: (lr, .inl (cyL, 12, .inr (.inr (.inr (.inr lrow))))) :: (vr, .inl (cyV, 100, .inr (.inr (.inr (.inr vrow))))) :: (py, .inl (cyI, 40, .inl pay)) :: Y : va_W) ++ va_pl L (gE K bud fsd las bas mvi mva ear vln vda vam vrf vel vnx)) s.heap := hP
  have hl := lv_entry ([.ref g, .int d0]) (n := 2) (Nat.le_of_ble_eq_true rfl)
  rw [lg_entry_eq]
  generalize (lg_sl ([.ref g, .int d0]) ++ List.replicate (2 - (lg_sl ([.ref g, .int d0])).length) Slot.unset).toArray = ls at hl ⊢
  have hl : lv_has ls 2 [(0, .ref g), (1, .int d0)] := hl
  refine lv_aload_n hx hb dX2_costsUpTo_0 rfl (lv_at hl 0 rfl) ?_
  refine lv_iload_n hx hb dX2_costsUpTo_1 rfl (lv_at hl 1 rfl) ?_
  refine lv_iconst (v := 0) hx hb dX2_costsUpTo_2 (by decide) ?_
  have hF_1 := gk_all hD hS hA
  refine va_calli (va_runV (As := [.int d0, .int 0]) (rest := []) ⟨hx, hb, hml, hown, hts⟩ (kX2_eligibleInAll l D cyI cyZ cyL cyV cyJ g lr vr py ga gs ora oc lrow vrow nl nv am pay nc lcd pia Y L K bud fsd las bas mvi mva ear vln vda vam vrf vel vnx ch hOK d0 0 s.heap.size _ rfl) (cwV 2 hts gX2_costsUpTo_X2_eligibleInAll rfl rfl rfl (by decide +kernel) ⟨(Nat.le_of_ble_eq_true rfl), (Nat.le_of_ble_eq_true rfl)⟩) (gk_preV hP hK hD (va_recv hK hP (ci := 2) (q0 := 0) rfl rfl)) rfl rfl hl.1 rfl (lv_room (Nat.le_of_ble_eq_true rfl)) dX2_costsUpTo_3 ⟨(Nat.le_of_ble_eq_true rfl), (Nat.le_of_ble_eq_true rfl)⟩) hS (fun q _ h => hF_1 q h) hF_1 (fun r_1 u_1 t_1 H locs ht_1 hvm_1 hw_1 hB_1 hz_1 hk_1 hS => ?_)
  obtain ⟨hP, hD⟩ := gk_back hF_1 hB_1 ht_1
  subst hw_1
  refine W.widen (k := 0) (n := 0) (Nat.le_of_ble_eq_true rfl) (Nat.le_of_ble_eq_true rfl) ?_
  exact W.iret (v := (gSa lrow bas vel vda ch d0 0 12)) hx hb hr (fun t ht hW => ⟨⟨(gSa lrow bas vel vda ch d0 0 12), (), rfl, rfl, by rw [ht]; exact hP, va_K.moved hW.alike hK, hD⟩, hS.F ht⟩) hS.2.2 dX2_costsUpTo_6
set_option maxHeartbeats 4000000 in
set_option maxRecDepth 100000 in
theorem kX2_overheadUpTo (l : Launch) (D : va_G) (cyI cyZ cyL cyV cyJ : ClassId) (g lr vr py : Nat) (ga gs ora oc : Int32) (lrow vrow : Nat → Option Nat) (nl nv : Nat) (am : Int32) (pay : Nat → Int32) (nc : Nat) (lcd pia : Int32) (Y : va_W) (L : List Nat) (K : Nat → Nat) (bud fsd las bas mvi mva : Nat → Int32) (ear vln : Nat → Option Nat) (vda vam vrf vel : Nat → Int32) (vnx : Nat → Option Nat) (ch : Nat → List Nat) (hOK : gOK L K lrow vrow ear vln vnx ch) (d0 : Int32) (sz : Nat) (A : Nat → Prop) (hAe : va_A (((g, .inr (2, [.int ga, .int gs, .int ora, .int oc, .ref lr, .int (nI nl), .ref vr, .int (nI nv), .int am, .ref py, .int (nI nc), .int lcd, .int pia])) :: (lr, .inl (cyL, 12, .inr (.inr (.inr (.inr lrow))))) :: (vr, .inl (cyV, 100, .inr (.inr (.inr (.inr vrow))))) :: (py, .inl (cyI, 40, .inl pay)) :: Y : va_W) ++ va_pl L (gE K bud fsd las bas mvi mva ear vln vda vam vrf vel vnx)) sz = A) : Met l yX2_overheadUpTo wsX2_overheadUpTo ({ frames := 2, cells := 0, slots := 0, locals := 50 }) (va_Pc [.ref g, .int d0] (gPre D (gTy cyI cyZ cyL cyV cyJ) (((g, .inr (2, [.int ga, .int gs, .int ora, .int oc, .ref lr, .int (nI nl), .ref vr, .int (nI nv), .int am, .ref py, .int (nI nc), .int lcd, .int pia])) :: (lr, .inl (cyL, 12, .inr (.inr (.inr (.inr lrow))))) :: (vr, .inl (cyV, 100, .inr (.inr (.inr (.inr vrow))))) :: (py, .inl (cyI, 40, .inl pay)) :: Y : va_W) ++ va_pl L (gE K bud fsd las bas mvi mva ear vln vda vam vrf vel vnx)) sz)) (va_Qi (fun (r : Int32) (_ : Unit) => r = (gOv ora oc (gSa lrow bas vel vda ch d0 1 12))) (fun (_ : Unit) t => gPost D (gTy cyI cyZ cyL cyV cyJ) A (((g, .inr (2, [.int ga, .int gs, .int ora, .int oc, .ref lr, .int (nI nl), .ref vr, .int (nI nv), .int am, .ref py, .int (nI nc), .int lcd, .int pia])) :: (lr, .inl (cyL, 12, .inr (.inr (.inr (.inr lrow))))) :: (vr, .inl (cyV, 100, .inr (.inr (.inr (.inr vrow))))) :: (py, .inl (cyI, 40, .inl pay)) :: Y : va_W) ++ va_pl L (gE K bud fsd las bas mvi mva ear vln vda vam vrf vel vnx)) t) A) 0 0 A := by
  refine Met.ofW (cc := cX2_overheadUpTo) (maxL := 4) (ret := (some .int)) (by decide) rfl ?_
  intro p e s m args below meth c s₁ B hml hv
  obtain ⟨rfl, hsz, hP, hK, hD0⟩ := hv
  have hx := B.exec
  have hb := B.bytes
  have hr := B.returns
  have hts := atoms_spec (ws := wsX2_overheadUpTo) B.pre
  have hown : s.vm.findClass RX2 = some m.cls := findClass_of_methodNamed B.named
  have hlocks := B.notSynchronized
  subst hsz
  have hD := hD0.self (sz := s.heap.size)
  rw [hAe] at hD
  have hA : ∀ q : Nat, s.heap.size ≤ q → A q := fun q h => by rw [← hAe]; exact Or.inr h
  have hS : va_S A s.heap s.heap [] := va_S.rf
  have hP : va_P D vwCl (((g, .inr (2, [.int ga, .int gs, .int ora, .int oc, .ref lr, .int (nI nl), .ref vr, .int (nI nv), .int am, .ref py, .int (nI nc), .int lcd, .int pia])) :: (lr, .inl (cyL, 12, .inr (.inr (.inr (.inr lrow))))) :: (vr, .inl (cyV, 100, .inr (.inr (.inr (.inr vrow))))) :: (py, .inl (cyI, 40, .inl pay)) :: Y : va_W) ++ va_pl L (gE K bud fsd las bas mvi mva ear vln vda vam vrf vel vnx)) s.heap := hP
  have hi2 : ∀ w ∈ wsX20, w ∈ wsX2_overheadUpTo := fun _ h => List.mem_cons_of_mem _ (List.mem_append_left _ (List.mem_append_left _ (List.mem_append_right _ h)))
  have hl := lv_entry ([.ref g, .int d0]) (n := 4) (Nat.le_of_ble_eq_true rfl)
  rw [lg_entry_eq]
  generalize (lg_sl ([.ref g, .int d0]) ++ List.replicate (4 - (lg_sl ([.ref g, .int d0])).length) Slot.unset).toArray = ls at hl ⊢
  have hl : lv_has ls 4 [(0, .ref g), (1, .int d0)] := hl
  refine lv_aload_n hx hb dX2_overheadUpTo_0 rfl (lv_at hl 0 rfl) ?_
  refine va_get (D := D) (ci := 2) (v := .int ora) (C := RX2) (T := TX2) (N := 13) hx hb hts hi2 hown hK hP 0 rfl rfl 2 (by decide) (hts (.fieldLink RX2 17 "GrantBook" "overheadRate" "I") (List.mem_of_getElem? (i := 1) rfl)) (fun _ h9 => h9) rfl dX2_overheadUpTo_1 ?_
  refine lv_i2l hx hb dX2_overheadUpTo_4 rfl ?_
  refine lv_aload_n hx hb dX2_overheadUpTo_5 rfl (lv_at hl 0 rfl) ?_
  refine lv_iload_n hx hb dX2_overheadUpTo_6 rfl (lv_at hl 1 rfl) ?_
  refine lv_iconst (v := 1) hx hb dX2_overheadUpTo_7 (by decide) ?_
  have hF_1 := gk_all hD hS hA
  refine va_calli (va_runV (As := [.int d0, .int 1]) (rest := [.long ora.toInt64]) ⟨hx, hb, hml, hown, hts⟩ (kX2_eligibleInAll l D cyI cyZ cyL cyV cyJ g lr vr py ga gs ora oc lrow vrow nl nv am pay nc lcd pia Y L K bud fsd las bas mvi mva ear vln vda vam vrf vel vnx ch hOK d0 1 s.heap.size _ rfl) (cwV 2 hts gX2_overheadUpTo_X2_eligibleInAll rfl rfl rfl (by decide +kernel) ⟨(Nat.le_of_ble_eq_true rfl), (Nat.le_of_ble_eq_true rfl)⟩) (gk_preV hP hK hD (va_recv hK hP (ci := 2) (q0 := 0) rfl rfl)) rfl rfl hl.1 rfl (lv_room (Nat.le_of_ble_eq_true rfl)) dX2_overheadUpTo_8 ⟨(Nat.le_of_ble_eq_true rfl), (Nat.le_of_ble_eq_true rfl)⟩) hS (fun q _ h => hF_1 q h) hF_1 (fun r_1 u_1 t_1 H locs ht_1 hvm_1 hw_1 hB_1 hz_1 hk_1 hS => ?_)
  obtain ⟨hP, hD⟩ := gk_back hF_1 hB_1 ht_1
  subst hw_1
  refine lv_i2l hx hb dX2_overheadUpTo_11 rfl ?_
  refine lv_lmul hx hb dX2_overheadUpTo_12 ?_
  refine lv_ldc2 hx hb hown (hts (.constantLong RX2 192 (100)) (List.mem_of_getElem? (i := 2) rfl)) dX2_overheadUpTo_13 ?_
  refine lv_ldiv hx hb dX2_overheadUpTo_16 (by decide) ?_
  refine lv_lstore_n (lv' := [(2, .long ((ora.toInt64 * (gSa lrow bas vel vda ch d0 1 12).toInt64) / 100)), (0, .ref g), (1, .int d0)]) hx hb dX2_overheadUpTo_17 rfl hl (by decide) rfl (fun ls hl => ?_)
  refine lv_lload_n hx hb dX2_overheadUpTo_18 rfl (lv_at hl 0 rfl) ?_
  refine lv_aload_n hx hb dX2_overheadUpTo_19 rfl (lv_at hl 1 rfl) ?_
  refine va_get (D := D) (ci := 2) (v := .int oc) (C := RX2) (T := TX2) (N := 13) hx hb hts hi2 hown hK hP 0 rfl rfl 3 (by decide) (hts (.fieldLink RX2 21 "GrantBook" "overheadCeiling" "I") (List.mem_of_getElem? (i := 3) rfl)) (fun _ h9 => h9) rfl dX2_overheadUpTo_20 ?_
  refine lv_i2l hx hb dX2_overheadUpTo_23 rfl ?_
  refine va_mmin_long hx hb (hml.trans hl.1.symm) hown (hts (.methodLink RX2 194 Lib.MathLoose.min_long.x) (List.mem_of_getElem? (i := 4) rfl)) (hts (.static Lib.MathLoose.min_long.x) (List.mem_of_getElem? (i := 5) rfl)) (hts (.initialized "java/lang/Math") (List.mem_of_getElem? (i := 6) rfl)) (hts (.code Lib.MathLoose.min_long.x Lib.MathLoose.min_long.code 4 (some .long)) (List.mem_of_getElem? (i := 7) rfl)) (Nat.le_of_ble_eq_true rfl) (Nat.le_of_ble_eq_true rfl) (Nat.le_of_ble_eq_true rfl) (Nat.le_of_ble_eq_true rfl) dX2_overheadUpTo_24 ?_
  refine lv_l2i hx hb dX2_overheadUpTo_27 rfl ?_
  refine W.widen (k := 0) (n := 0) (Nat.le_of_ble_eq_true rfl) (Nat.le_of_ble_eq_true rfl) ?_
  exact W.iret (v := (if oc.toInt64 < ((ora.toInt64 * (gSa lrow bas vel vda ch d0 1 12).toInt64) / 100) then oc.toInt64 else ((ora.toInt64 * (gSa lrow bas vel vda ch d0 1 12).toInt64) / 100)).toInt32) hx hb hr (fun t ht hW => ⟨⟨(if oc.toInt64 < ((ora.toInt64 * (gSa lrow bas vel vda ch d0 1 12).toInt64) / 100) then oc.toInt64 else ((ora.toInt64 * (gSa lrow bas vel vda ch d0 1 12).toInt64) / 100)).toInt32, (), rfl, rfl, by rw [ht]; exact hP, va_K.moved hW.alike hK, hD⟩, hS.F ht⟩) hS.2.2 dX2_overheadUpTo_28
set_option maxHeartbeats 4000000 in
set_option maxRecDepth 100000 in
theorem kX2_earnedButForMatch (l : Launch) (D : va_G) (cyI cyZ cyL cyV cyJ : ClassId) (g lr vr py : Nat) (ga gs ora oc : Int32) (lrow vrow : Nat → Option Nat) (nl nv : Nat) (am : Int32) (pay : Nat → Int32) (nc : Nat) (lcd pia : Int32) (Y : va_W) (L : List Nat) (K : Nat → Nat) (bud fsd las bas mvi mva : Nat → Int32) (ear vln : Nat → Option Nat) (vda vam vrf vel : Nat → Int32) (vnx : Nat → Option Nat) (ch : Nat → List Nat) (hOK : gOK L K lrow vrow ear vln vnx ch) (d0 : Int32) (sz : Nat) (A : Nat → Prop) (hAe : va_A (((g, .inr (2, [.int ga, .int gs, .int ora, .int oc, .ref lr, .int (nI nl), .ref vr, .int (nI nv), .int am, .ref py, .int (nI nc), .int lcd, .int pia])) :: (lr, .inl (cyL, 12, .inr (.inr (.inr (.inr lrow))))) :: (vr, .inl (cyV, 100, .inr (.inr (.inr (.inr vrow))))) :: (py, .inl (cyI, 40, .inl pay)) :: Y : va_W) ++ va_pl L (gE K bud fsd las bas mvi mva ear vln vda vam vrf vel vnx)) sz = A) : Met l yX2_earnedButForMatch wsX2_earnedButForMatch ({ frames := 3, cells := 0, slots := 0, locals := 73 }) (va_Pc [.ref g, .int d0] (gPre D (gTy cyI cyZ cyL cyV cyJ) (((g, .inr (2, [.int ga, .int gs, .int ora, .int oc, .ref lr, .int (nI nl), .ref vr, .int (nI nv), .int am, .ref py, .int (nI nc), .int lcd, .int pia])) :: (lr, .inl (cyL, 12, .inr (.inr (.inr (.inr lrow))))) :: (vr, .inl (cyV, 100, .inr (.inr (.inr (.inr vrow))))) :: (py, .inl (cyI, 40, .inl pay)) :: Y : va_W) ++ va_pl L (gE K bud fsd las bas mvi mva ear vln vda vam vrf vel vnx)) sz)) (va_Ql (fun (r : Int64) (_ : Unit) => r = (gEb gs ga (gSa lrow bas vel vda ch d0 0 12) (gOv ora oc (gSa lrow bas vel vda ch d0 1 12)))) (fun (_ : Unit) t => gPost D (gTy cyI cyZ cyL cyV cyJ) A (((g, .inr (2, [.int ga, .int gs, .int ora, .int oc, .ref lr, .int (nI nl), .ref vr, .int (nI nv), .int am, .ref py, .int (nI nc), .int lcd, .int pia])) :: (lr, .inl (cyL, 12, .inr (.inr (.inr (.inr lrow))))) :: (vr, .inl (cyV, 100, .inr (.inr (.inr (.inr vrow))))) :: (py, .inl (cyI, 40, .inl pay)) :: Y : va_W) ++ va_pl L (gE K bud fsd las bas mvi mva ear vln vda vam vrf vel vnx)) t) A) 0 0 A := by
  refine Met.ofW (cc := cX2_earnedButForMatch) (maxL := 4) (ret := (some .long)) (by decide) rfl ?_
  intro p e s m args below meth c s₁ B hml hv
  obtain ⟨rfl, hsz, hP, hK, hD0⟩ := hv
  have hx := B.exec
  have hb := B.bytes
  have hr := B.returns
  have hts := atoms_spec (ws := wsX2_earnedButForMatch) B.pre
  have hown : s.vm.findClass RX2 = some m.cls := findClass_of_methodNamed B.named
  have hlocks := B.notSynchronized
  subst hsz
  have hD := hD0.self (sz := s.heap.size)
  rw [hAe] at hD
  have hA : ∀ q : Nat, s.heap.size ≤ q → A q := fun q h => by rw [← hAe]; exact Or.inr h
  have hS : va_S A s.heap s.heap [] := va_S.rf
  have hP : va_P D vwCl (((g, .inr (2, [.int ga, .int gs, .int ora, .int oc, .ref lr, .int (nI nl), .ref vr, .int (nI nv), .int am, .ref py, .int (nI nc), .int lcd, .int pia])) :: (lr, .inl (cyL, 12, .inr (.inr (.inr (.inr lrow))))) :: (vr, .inl (cyV, 100, .inr (.inr (.inr (.inr vrow))))) :: (py, .inl (cyI, 40, .inl pay)) :: Y : va_W) ++ va_pl L (gE K bud fsd las bas mvi mva ear vln vda vam vrf vel vnx)) s.heap := hP
  have hi2 : ∀ w ∈ wsX20, w ∈ wsX2_earnedButForMatch := fun _ h => List.mem_cons_of_mem _ (List.mem_append_left _ (List.mem_append_left _ (List.mem_append_right _ h)))
  have hl := lv_entry ([.ref g, .int d0]) (n := 4) (Nat.le_of_ble_eq_true rfl)
  rw [lg_entry_eq]
  generalize (lg_sl ([.ref g, .int d0]) ++ List.replicate (4 - (lg_sl ([.ref g, .int d0])).length) Slot.unset).toArray = ls at hl ⊢
  have hl : lv_has ls 4 [(0, .ref g), (1, .int d0)] := hl
  refine lv_aload_n hx hb dX2_earnedButForMatch_0 rfl (lv_at hl 0 rfl) ?_
  refine lv_iload_n hx hb dX2_earnedButForMatch_1 rfl (lv_at hl 1 rfl) ?_
  have hF_1 := gk_all hD hS hA
  refine va_calli (va_runV (As := [.int d0]) (rest := []) ⟨hx, hb, hml, hown, hts⟩ (kX2_costsUpTo l D cyI cyZ cyL cyV cyJ g lr vr py ga gs ora oc lrow vrow nl nv am pay nc lcd pia Y L K bud fsd las bas mvi mva ear vln vda vam vrf vel vnx ch hOK d0 s.heap.size _ rfl) (cwV 1 hts gX2_earnedButForMatch_X2_costsUpTo rfl rfl rfl (by decide +kernel) ⟨(Nat.le_of_ble_eq_true rfl), (Nat.le_of_ble_eq_true rfl)⟩) (gk_preV hP hK hD (va_recv hK hP (ci := 2) (q0 := 0) rfl rfl)) rfl rfl hl.1 rfl (lv_room (Nat.le_of_ble_eq_true rfl)) dX2_earnedButForMatch_2 ⟨(Nat.le_of_ble_eq_true rfl), (Nat.le_of_ble_eq_true rfl)⟩) hS (fun q _ h => hF_1 q h) hF_1 (fun r_1 u_1 t_1 H locs ht_1 hvm_1 hw_1 hB_1 hz_1 hk_1 hS => ?_)
  obtain ⟨hP, hD⟩ := gk_back hF_1 hB_1 ht_1
  subst hw_1
  refine lv_i2l hx hb dX2_earnedButForMatch_5 rfl ?_
  refine lv_aload_n hx hb dX2_earnedButForMatch_6 rfl (lv_at hl 0 rfl) ?_
  refine lv_iload_n hx hb dX2_earnedButForMatch_7 rfl (lv_at hl 1 rfl) ?_
  have hF_2 := gk_all hD hS hA
  refine va_calli (va_runV (As := [.int d0]) (rest := [.long ((gSa lrow bas vel vda ch d0 0 12).toInt64)]) ⟨hx, hb, hml, hown, hts⟩ (kX2_overheadUpTo l D cyI cyZ cyL cyV cyJ g lr vr py ga gs ora oc lrow vrow nl nv am pay nc lcd pia Y L K bud fsd las bas mvi mva ear vln vda vam vrf vel vnx ch hOK d0 H.size _ rfl) (cwV 1 hts gX2_earnedButForMatch_X2_overheadUpTo rfl rfl rfl (by decide +kernel) ⟨(Nat.le_of_ble_eq_true rfl), (Nat.le_of_ble_eq_true rfl)⟩) (gk_preV hP hK hD (va_recv hK hP (ci := 2) (q0 := 0) rfl rfl)) rfl rfl hl.1 rfl (lv_room (Nat.le_of_ble_eq_true rfl)) dX2_earnedButForMatch_8 ⟨(Nat.le_of_ble_eq_true rfl), (Nat.le_of_ble_eq_true rfl)⟩) hS (fun q _ h => hF_2 q h) hF_2 (fun r_2 u_2 t_2 H locs ht_2 hvm_2 hw_2 hB_2 hz_2 hk_2 hS => ?_)
  obtain ⟨hP, hD⟩ := gk_back hF_2 hB_2 ht_2
  subst hw_2
  refine lv_i2l hx hb dX2_earnedButForMatch_11 rfl ?_
  refine lv_ladd hx hb dX2_earnedButForMatch_12 ?_
  refine lv_lstore_n (lv' := [(2, .long ((gSa lrow bas vel vda ch d0 0 12).toInt64 + (gOv ora oc (gSa lrow bas vel vda ch d0 1 12)).toInt64)), (0, .ref g), (1, .int d0)]) hx hb dX2_earnedButForMatch_13 rfl hl (by decide) rfl (fun ls hl => ?_)
  refine lv_lload_n hx hb dX2_earnedButForMatch_14 rfl (lv_at hl 0 rfl) ?_
  refine lv_aload_n hx hb dX2_earnedButForMatch_15 rfl (lv_at hl 1 rfl) ?_
  refine va_get (D := D) (ci := 2) (v := .int gs) (C := RX2) (T := TX2) (N := 13) hx hb hts hi2 hown hK hP 0 rfl rfl 1 (by decide) (hts (.fieldLink RX2 14 "GrantBook" "grantShare" "I") (List.mem_of_getElem? (i := 1) rfl)) (fun _ h9 => h9) rfl dX2_earnedButForMatch_16 ?_
  refine lv_i2l hx hb dX2_earnedButForMatch_19 rfl ?_
  refine lv_lmul hx hb dX2_earnedButForMatch_20 ?_
  refine lv_ldc2 hx hb hown (hts (.constantLong RX2 192 (100)) (List.mem_of_getElem? (i := 2) rfl)) dX2_earnedButForMatch_21 ?_
  refine lv_ldiv hx hb dX2_earnedButForMatch_24 (by decide) ?_
  refine lv_aload_n hx hb dX2_earnedButForMatch_25 rfl (lv_at hl 1 rfl) ?_
  refine va_get (D := D) (ci := 2) (v := .int ga) (C := RX2) (T := TX2) (N := 13) hx hb hts hi2 hown hK hP 0 rfl rfl 0 (by decide) (hts (.fieldLink RX2 8 "GrantBook" "grantAmount" "I") (List.mem_of_getElem? (i := 3) rfl)) (fun _ h9 => h9) rfl dX2_earnedButForMatch_26 ?_
  refine lv_i2l hx hb dX2_earnedButForMatch_29 rfl ?_
  refine va_mmin_long hx hb (hml.trans hl.1.symm) hown (hts (.methodLink RX2 194 Lib.MathLoose.min_long.x) (List.mem_of_getElem? (i := 4) rfl)) (hts (.static Lib.MathLoose.min_long.x) (List.mem_of_getElem? (i := 5) rfl)) (hts (.initialized "java/lang/Math") (List.mem_of_getElem? (i := 6) rfl)) (hts (.code Lib.MathLoose.min_long.x Lib.MathLoose.min_long.code 4 (some .long)) (List.mem_of_getElem? (i := 7) rfl)) (Nat.le_of_ble_eq_true rfl) (Nat.le_of_ble_eq_true rfl) (Nat.le_of_ble_eq_true rfl) (Nat.le_of_ble_eq_true rfl) dX2_earnedButForMatch_30 ?_
  refine W.widen (k := 0) (n := 0) (Nat.le_of_ble_eq_true rfl) (Nat.le_of_ble_eq_true rfl) ?_
  exact W.lret (v := (if ga.toInt64 < ((((gSa lrow bas vel vda ch d0 0 12).toInt64 + (gOv ora oc (gSa lrow bas vel vda ch d0 1 12)).toInt64) * gs.toInt64) / 100) then ga.toInt64 else ((((gSa lrow bas vel vda ch d0 0 12).toInt64 + (gOv ora oc (gSa lrow bas vel vda ch d0 1 12)).toInt64) * gs.toInt64) / 100))) hx hb hr (fun t ht hW => ⟨⟨(if ga.toInt64 < ((((gSa lrow bas vel vda ch d0 0 12).toInt64 + (gOv ora oc (gSa lrow bas vel vda ch d0 1 12)).toInt64) * gs.toInt64) / 100) then ga.toInt64 else ((((gSa lrow bas vel vda ch d0 0 12).toInt64 + (gOv ora oc (gSa lrow bas vel vda ch d0 1 12)).toInt64) * gs.toInt64) / 100)), (), rfl, rfl, by rw [ht]; exact hP, va_K.moved hW.alike hK, hD⟩, hS.F ht⟩) hS.2.2 dX2_earnedButForMatch_33
set_option maxHeartbeats 4000000 in
set_option maxRecDepth 100000 in
theorem kX2_earnedUpTo (l : Launch) (D : va_G) (cyI cyZ cyL cyV cyJ : ClassId) (g lr vr py : Nat) (ga gs ora oc : Int32) (lrow vrow : Nat → Option Nat) (nl nv : Nat) (am : Int32) (pay : Nat → Int32) (nc : Nat) (lcd pia : Int32) (Y : va_W) (L : List Nat) (K : Nat → Nat) (bud fsd las bas mvi mva : Nat → Int32) (ear vln : Nat → Option Nat) (vda vam vrf vel : Nat → Int32) (vnx : Nat → Option Nat) (ch : Nat → List Nat) (hOK : gOK L K lrow vrow ear vln vnx ch) (d0 : Int32) (sz : Nat) (A : Nat → Prop) (hAe : va_A (((g, .inr (2, [.int ga, .int gs, .int ora, .int oc, .ref lr, .int (nI nl), .ref vr, .int (nI nv), .int am, .ref py, .int (nI nc), .int lcd, .int pia])) :: (lr, .inl (cyL, 12, .inr (.inr (.inr (.inr lrow))))) :: (vr, .inl (cyV, 100, .inr (.inr (.inr (.inr vrow))))) :: (py, .inl (cyI, 40, .inl pay)) :: Y : va_W) ++ va_pl L (gE K bud fsd las bas mvi mva ear vln vda vam vrf vel vnx)) sz = A) : Met l yX2_earnedUpTo wsX2_earnedUpTo ({ frames := 4, cells := 0, slots := 0, locals := 96 }) (va_Pc [.ref g, .int d0] (gPre D (gTy cyI cyZ cyL cyV cyJ) (((g, .inr (2, [.int ga, .int gs, .int ora, .int oc, .ref lr, .int (nI nl), .ref vr, .int (nI nv), .int am, .ref py, .int (nI nc), .int lcd, .int pia])) :: (lr, .inl (cyL, 12, .inr (.inr (.inr (.inr lrow))))) :: (vr, .inl (cyV, 100, .inr (.inr (.inr (.inr vrow))))) :: (py, .inl (cyI, 40, .inl pay)) :: Y : va_W) ++ va_pl L (gE K bud fsd las bas mvi mva ear vln vda vam vrf vel vnx)) sz)) (va_Qi (fun (r : Int32) (_ : Unit) => r = (gEa gs am (gEb gs ga (gSa lrow bas vel vda ch d0 0 12) (gOv ora oc (gSa lrow bas vel vda ch d0 1 12))))) (fun (_ : Unit) t => gPost D (gTy cyI cyZ cyL cyV cyJ) A (((g, .inr (2, [.int ga, .int gs, .int ora, .int oc, .ref lr, .int (nI nl), .ref vr, .int (nI nv), .int am, .ref py, .int (nI nc), .int lcd, .int pia])) :: (lr, .inl (cyL, 12, .inr (.inr (.inr (.inr lrow))))) :: (vr, .inl (cyV, 100, .inr (.inr (.inr (.inr vrow))))) :: (py, .inl (cyI, 40, .inl pay)) :: Y : va_W) ++ va_pl L (gE K bud fsd las bas mvi mva ear vln vda vam vrf vel vnx)) t) A) 0 0 A := by
  refine Met.ofW (cc := cX2_earnedUpTo) (maxL := 5) (ret := (some .int)) (by decide) rfl ?_
  intro p e s m args below meth c s₁ B hml hv
  obtain ⟨rfl, hsz, hP, hK, hD0⟩ := hv
  have hx := B.exec
  have hb := B.bytes
  have hr := B.returns
  have hts := atoms_spec (ws := wsX2_earnedUpTo) B.pre
  have hown : s.vm.findClass RX2 = some m.cls := findClass_of_methodNamed B.named
  have hlocks := B.notSynchronized
  subst hsz
  have hD := hD0.self (sz := s.heap.size)
  rw [hAe] at hD
  have hA : ∀ q : Nat, s.heap.size ≤ q → A q := fun q h => by rw [← hAe]; exact Or.inr h
  have hS : va_S A s.heap s.heap [] := va_S.rf
  have hP : va_P D vwCl (((g, .inr (2, [.int ga, .int gs, .int ora, .int oc, .ref lr, .int (nI nl), .ref vr, .int (nI nv), .int am, .ref py, .int (nI nc), .int lcd, .int pia])) :: (lr, .inl (cyL, 12, .inr (.inr (.inr (.inr lrow))))) :: (vr, .inl (cyV, 100, .inr (.inr (.inr (.inr vrow))))) :: (py, .inl (cyI, 40, .inl pay)) :: Y : va_W) ++ va_pl L (gE K bud fsd las bas mvi mva ear vln vda vam vrf vel vnx)) s.heap := hP
  have hi2 : ∀ w ∈ wsX20, w ∈ wsX2_earnedUpTo := fun _ h => List.mem_cons_of_mem _ (List.mem_append_left _ (List.mem_append_left _ (List.mem_append_right _ h)))
  have hl := lv_entry ([.ref g, .int d0]) (n := 5) (Nat.le_of_ble_eq_true rfl)
  rw [lg_entry_eq]
  generalize (lg_sl ([.ref g, .int d0]) ++ List.replicate (5 - (lg_sl ([.ref g, .int d0])).length) Slot.unset).toArray = ls at hl ⊢
  have hl : lv_has ls 5 [(0, .ref g), (1, .int d0)] := hl
  refine lv_aload_n hx hb dX2_earnedUpTo_0 rfl (lv_at hl 0 rfl) ?_
  refine lv_iload_n hx hb dX2_earnedUpTo_1 rfl (lv_at hl 1 rfl) ?_
  have hF_1 := gk_all hD hS hA
  refine va_calll (va_runV (As := [.int d0]) (rest := []) ⟨hx, hb, hml, hown, hts⟩ (kX2_earnedButForMatch l D cyI cyZ cyL cyV cyJ g lr vr py ga gs ora oc lrow vrow nl nv am pay nc lcd pia Y L K bud fsd las bas mvi mva ear vln vda vam vrf vel vnx ch hOK d0 s.heap.size _ rfl) (cwV 1 hts gX2_earnedUpTo_X2_earnedButForMatch rfl rfl rfl (by decide +kernel) ⟨(Nat.le_of_ble_eq_true rfl), (Nat.le_of_ble_eq_true rfl)⟩) (gk_preV hP hK hD (va_recv hK hP (ci := 2) (q0 := 0) rfl rfl)) rfl rfl hl.1 rfl (lv_room (Nat.le_of_ble_eq_true rfl)) dX2_earnedUpTo_2 ⟨(Nat.le_of_ble_eq_true rfl), (Nat.le_of_ble_eq_true rfl)⟩) hS (fun q _ h => hF_1 q h) hF_1 (fun r_1 u_1 t_1 H locs ht_1 hvm_1 hw_1 hB_1 hz_1 hk_1 hS => ?_)
  obtain ⟨hP, hD⟩ := gk_back hF_1 hB_1 ht_1
  subst hw_1
  refine lv_lstore_n (lv' := [(2, .long (gEb gs ga (gSa lrow bas vel vda ch d0 0 12) (gOv ora oc (gSa lrow bas vel vda ch d0 1 12)))), (0, .ref g), (1, .int d0)]) hx hb dX2_earnedUpTo_5 rfl hl (by decide) rfl (fun ls hl => ?_)
  refine lv_bipush (v := 100) hx hb dX2_earnedUpTo_6 (by decide) ?_
  refine lv_aload_n hx hb dX2_earnedUpTo_8 rfl (lv_at hl 1 rfl) ?_
  refine va_get (D := D) (ci := 2) (v := .int gs) (C := RX2) (T := TX2) (N := 13) hx hb hts hi2 hown hK hP 0 rfl rfl 1 (by decide) (hts (.fieldLink RX2 14 "GrantBook" "grantShare" "I") (List.mem_of_getElem? (i := 1) rfl)) (fun _ h9 => h9) rfl dX2_earnedUpTo_9 ?_
  refine lv_isub hx hb dX2_earnedUpTo_12 ?_
  refine lv_istore (lv' := [(4, .int (100 - gs)), (2, .long (gEb gs ga (gSa lrow bas vel vda ch d0 0 12) (gOv ora oc (gSa lrow bas vel vda ch d0 1 12)))), (0, .ref g), (1, .int d0)]) hx hb dX2_earnedUpTo_13 hl (by decide) rfl (fun ls hl => ?_)
  refine lv_iload hx hb dX2_earnedUpTo_15 (lv_at hl 0 rfl) ?_
  refine lv_if_le (tgt := 40) hx hb dX2_earnedUpTo_17 (by decide) (fun c_2 => ?_) (fun c_2 => ?_)
  · refine lv_lload_n hx hb dX2_earnedUpTo_40 rfl (lv_at hl 1 rfl) ?_
    refine lv_l2i hx hb dX2_earnedUpTo_41 rfl ?_
    refine W.widen (k := 0) (n := 0) (Nat.le_of_ble_eq_true rfl) (Nat.le_of_ble_eq_true rfl) ?_
    exact W.iret (v := (gEb gs ga (gSa lrow bas vel vda ch d0 0 12) (gOv ora oc (gSa lrow bas vel vda ch d0 1 12))).toInt32) hx hb hr (fun t ht hW => ⟨⟨(gEb gs ga (gSa lrow bas vel vda ch d0 0 12) (gOv ora oc (gSa lrow bas vel vda ch d0 1 12))).toInt32, (), rfl, (by unfold gEa; rw [if_pos c_2]), by rw [ht]; exact hP, va_K.moved hW.alike hK, hD⟩, hS.F ht⟩) hS.2.2 dX2_earnedUpTo_42
  · refine lv_lload_n hx hb dX2_earnedUpTo_20 rfl (lv_at hl 1 rfl) ?_
    refine lv_aload_n hx hb dX2_earnedUpTo_21 rfl (lv_at hl 2 rfl) ?_
    refine va_get (D := D) (ci := 2) (v := .int am) (C := RX2) (T := TX2) (N := 13) hx hb hts hi2 hown hK hP 0 rfl rfl 8 (by decide) (hts (.fieldLink RX2 42 "GrantBook" "allMatch" "I") (List.mem_of_getElem? (i := 2) rfl)) (fun _ h9 => h9) rfl dX2_earnedUpTo_22 ?_
    refine lv_i2l hx hb dX2_earnedUpTo_25 rfl ?_
    refine lv_aload_n hx hb dX2_earnedUpTo_26 rfl (lv_at hl 2 rfl) ?_
    refine va_get (D := D) (ci := 2) (v := .int gs) (C := RX2) (T := TX2) (N := 13) hx hb hts hi2 hown hK hP 0 rfl rfl 1 (by decide) (hts (.fieldLink RX2 14 "GrantBook" "grantShare" "I") (List.mem_of_getElem? (i := 1) rfl)) (fun _ h9 => h9) rfl dX2_earnedUpTo_27 ?_
    refine lv_i2l hx hb dX2_earnedUpTo_30 rfl ?_
    refine lv_lmul hx hb dX2_earnedUpTo_31 ?_
    refine lv_iload hx hb dX2_earnedUpTo_32 (lv_at hl 0 rfl) ?_
    refine lv_i2l hx hb dX2_earnedUpTo_34 rfl ?_
    refine lv_ldiv hx hb dX2_earnedUpTo_35 (gNz c_2) ?_
    refine va_mmin_long hx hb (hml.trans hl.1.symm) hown (hts (.methodLink RX2 194 Lib.MathLoose.min_long.x) (List.mem_of_getElem? (i := 3) rfl)) (hts (.static Lib.MathLoose.min_long.x) (List.mem_of_getElem? (i := 4) rfl)) (hts (.initialized "java/lang/Math") (List.mem_of_getElem? (i := 5) rfl)) (hts (.code Lib.MathLoose.min_long.x Lib.MathLoose.min_long.code 4 (some .long)) (List.mem_of_getElem? (i := 6) rfl)) (Nat.le_of_ble_eq_true rfl) (Nat.le_of_ble_eq_true rfl) (Nat.le_of_ble_eq_true rfl) (Nat.le_of_ble_eq_true rfl) dX2_earnedUpTo_36 ?_
    refine lv_lstore_n (lv' := [(2, .long (if ((am.toInt64 * gs.toInt64) / (100 - gs).toInt64) < (gEb gs ga (gSa lrow bas vel vda ch d0 0 12) (gOv ora oc (gSa lrow bas vel vda ch d0 1 12))) then ((am.toInt64 * gs.toInt64) / (100 - gs).toInt64) else (gEb gs ga (gSa lrow bas vel vda ch d0 0 12) (gOv ora oc (gSa lrow bas vel vda ch d0 1 12))))), (4, .int (100 - gs)), (0, .ref g), (1, .int d0)]) hx hb dX2_earnedUpTo_39 rfl hl (by decide) rfl (fun ls hl => ?_)
    refine lv_lload_n hx hb dX2_earnedUpTo_40 rfl (lv_at hl 0 rfl) ?_
    refine lv_l2i hx hb dX2_earnedUpTo_41 rfl ?_
    refine W.widen (k := 0) (n := 0) (Nat.le_of_ble_eq_true rfl) (Nat.le_of_ble_eq_true rfl) ?_
    exact W.iret (v := (if ((am.toInt64 * gs.toInt64) / (100 - gs).toInt64) < (gEb gs ga (gSa lrow bas vel vda ch d0 0 12) (gOv ora oc (gSa lrow bas vel vda ch d0 1 12))) then ((am.toInt64 * gs.toInt64) / (100 - gs).toInt64) else (gEb gs ga (gSa lrow bas vel vda ch d0 0 12) (gOv ora oc (gSa lrow bas vel vda ch d0 1 12)))).toInt32) hx hb hr (fun t ht hW => ⟨⟨(if ((am.toInt64 * gs.toInt64) / (100 - gs).toInt64) < (gEb gs ga (gSa lrow bas vel vda ch d0 0 12) (gOv ora oc (gSa lrow bas vel vda ch d0 1 12))) then ((am.toInt64 * gs.toInt64) / (100 - gs).toInt64) else (gEb gs ga (gSa lrow bas vel vda ch d0 0 12) (gOv ora oc (gSa lrow bas vel vda ch d0 1 12)))).toInt32, (), rfl, (by unfold gEa; rw [if_neg c_2]), by rw [ht]; exact hP, va_K.moved hW.alike hK, hD⟩, hS.F ht⟩) hS.2.2 dX2_earnedUpTo_42
set_option maxHeartbeats 4000000 in
set_option maxRecDepth 100000 in
theorem kX2_leastMatchFor (l : Launch) (D : va_G) (cyI cyZ cyL cyV cyJ : ClassId) (g lr vr py : Nat) (ga gs ora oc : Int32) (lrow vrow : Nat → Option Nat) (nl nv : Nat) (am : Int32) (pay : Nat → Int32) (nc : Nat) (lcd pia : Int32) (Y : va_W) (L : List Nat) (K : Nat → Nat) (bud fsd las bas mvi mva : Nat → Int32) (ear vln : Nat → Option Nat) (vda vam vrf vel : Nat → Int32) (vnx : Nat → Option Nat) (ch : Nat → List Nat) (hOK : gOK L K lrow vrow ear vln vnx ch) (e0 : Int64) (sz : Nat) (A : Nat → Prop) (hAe : va_A (((g, .inr (2, [.int ga, .int gs, .int ora, .int oc, .ref lr, .int (nI nl), .ref vr, .int (nI nv), .int am, .ref py, .int (nI nc), .int lcd, .int pia])) :: (lr, .inl (cyL, 12, .inr (.inr (.inr (.inr lrow))))) :: (vr, .inl (cyV, 100, .inr (.inr (.inr (.inr vrow))))) :: (py, .inl (cyI, 40, .inl pay)) :: Y : va_W) ++ va_pl L (gE K bud fsd las bas mvi mva ear vln vda vam vrf vel vnx)) sz = A) : Met l yX2_leastMatchFor wsX2_leastMatchFor ({ frames := 0, cells := 0, slots := 0, locals := 0 }) (va_Pc [.ref g, .long e0] (gPre D (gTy cyI cyZ cyL cyV cyJ) (((g, .inr (2, [.int ga, .int gs, .int ora, .int oc, .ref lr, .int (nI nl), .ref vr, .int (nI nv), .int am, .ref py, .int (nI nc), .int lcd, .int pia])) :: (lr, .inl (cyL, 12, .inr (.inr (.inr (.inr lrow))))) :: (vr, .inl (cyV, 100, .inr (.inr (.inr (.inr vrow))))) :: (py, .inl (cyI, 40, .inl pay)) :: Y : va_W) ++ va_pl L (gE K bud fsd las bas mvi mva ear vln vda vam vrf vel vnx)) sz)) (va_Ql (fun (r : Int64) (_ : Unit) => r = (gLm gs e0)) (fun (_ : Unit) t => gPost D (gTy cyI cyZ cyL cyV cyJ) A (((g, .inr (2, [.int ga, .int gs, .int ora, .int oc, .ref lr, .int (nI nl), .ref vr, .int (nI nv), .int am, .ref py, .int (nI nc), .int lcd, .int pia])) :: (lr, .inl (cyL, 12, .inr (.inr (.inr (.inr lrow))))) :: (vr, .inl (cyV, 100, .inr (.inr (.inr (.inr vrow))))) :: (py, .inl (cyI, 40, .inl pay)) :: Y : va_W) ++ va_pl L (gE K bud fsd las bas mvi mva ear vln vda vam vrf vel vnx)) t) A) 0 0 A := by
  refine Met.ofW (cc := cX2_leastMatchFor) (maxL := 4) (ret := (some .long)) (by decide) rfl ?_
  intro p e s m args below meth c s₁ B hml hv
  obtain ⟨rfl, hsz, hP, hK, hD0⟩ := hv
  have hx := B.exec
  have hb := B.bytes
  have hr := B.returns
  have hts := atoms_spec (ws := wsX2_leastMatchFor) B.pre
  have hown : s.vm.findClass RX2 = some m.cls := findClass_of_methodNamed B.named
  have hlocks := B.notSynchronized
  subst hsz
  have hD := hD0.self (sz := s.heap.size)
  rw [hAe] at hD
  have hA : ∀ q : Nat, s.heap.size ≤ q → A q := fun q h => by rw [← hAe]; exact Or.inr h
  have hS : va_S A s.heap s.heap [] := va_S.rf
  have hP : va_P D vwCl (((g, .inr (2, [.int ga, .int gs, .int ora, .int oc, .ref lr, .int (nI nl), .ref vr, .int (nI nv), .int am, .ref py, .int (nI nc), .int lcd, .int pia])) :: (lr, .inl (cyL, 12, .inr (.inr (.inr (.inr lrow))))) :: (vr, .inl (cyV, 100, .inr (.inr (.inr (.inr vrow))))) :: (py, .inl (cyI, 40, .inl pay)) :: Y : va_W) ++ va_pl L (gE K bud fsd las bas mvi mva ear vln vda vam vrf vel vnx)) s.heap := hP
  have hi2 : ∀ w ∈ wsX20, w ∈ wsX2_leastMatchFor := fun _ h => List.mem_cons_of_mem _ (List.mem_append_right _ h)
  have hl := lv_entry ([.ref g, .long e0]) (n := 4) (Nat.le_of_ble_eq_true rfl)
  rw [lg_entry_eq]
  generalize (lg_sl ([.ref g, .long e0]) ++ List.replicate (4 - (lg_sl ([.ref g, .long e0])).length) Slot.unset).toArray = ls at hl ⊢
  have hl : lv_has ls 4 [(0, .ref g), (1, .long e0)] := hl
  refine lv_bipush (v := 100) hx hb dX2_leastMatchFor_0 (by decide) ?_
  refine lv_aload_n hx hb dX2_leastMatchFor_2 rfl (lv_at hl 0 rfl) ?_
  refine va_get (D := D) (ci := 2) (v := .int gs) (C := RX2) (T := TX2) (N := 13) hx hb hts hi2 hown hK hP 0 rfl rfl 1 (by decide) (hts (.fieldLink RX2 14 "GrantBook" "grantShare" "I") (List.mem_of_getElem? (i := 1) rfl)) (fun _ h9 => h9) rfl dX2_leastMatchFor_3 ?_
  refine lv_isub hx hb dX2_leastMatchFor_6 ?_
  refine lv_istore_n (lv' := [(3, .int (100 - gs)), (0, .ref g), (1, .long e0)]) hx hb dX2_leastMatchFor_7 rfl hl (by decide) rfl (fun ls hl => ?_)
  refine lv_aload_n hx hb dX2_leastMatchFor_8 rfl (lv_at hl 1 rfl) ?_
  refine va_get (D := D) (ci := 2) (v := .int gs) (C := RX2) (T := TX2) (N := 13) hx hb hts hi2 hown hK hP 0 rfl rfl 1 (by decide) (hts (.fieldLink RX2 14 "GrantBook" "grantShare" "I") (List.mem_of_getElem? (i := 1) rfl)) (fun _ h9 => h9) rfl dX2_leastMatchFor_9 ?_
  refine lv_if_le (tgt := 36) hx hb dX2_leastMatchFor_12 (by decide) (fun c_1 => ?_) (fun c_1 => ?_)
  · refine lv_lconst (v := 0) hx hb dX2_leastMatchFor_36 (by decide) ?_
    refine W.widen (k := 0) (n := 0) (Nat.le_of_ble_eq_true rfl) (Nat.le_of_ble_eq_true rfl) ?_
    exact W.lret (v := 0) hx hb hr (fun t ht hW => ⟨⟨0, (), rfl, (by unfold gLm; rw [if_pos c_1]), by rw [ht]; exact hP, va_K.moved hW.alike hK, hD⟩, hS.F ht⟩) hS.2.2 dX2_leastMatchFor_37
  · refine lv_lload_n hx hb dX2_leastMatchFor_15 rfl (lv_at hl 2 rfl) ?_
    refine lv_iload_n hx hb dX2_leastMatchFor_16 rfl (lv_at hl 0 rfl) ?_
    refine lv_i2l hx hb dX2_leastMatchFor_17 rfl ?_
    refine lv_lmul hx hb dX2_leastMatchFor_18 ?_
    refine lv_aload_n hx hb dX2_leastMatchFor_19 rfl (lv_at hl 1 rfl) ?_
    refine va_get (D := D) (ci := 2) (v := .int gs) (C := RX2) (T := TX2) (N := 13) hx hb hts hi2 hown hK hP 0 rfl rfl 1 (by decide) (hts (.fieldLink RX2 14 "GrantBook" "grantShare" "I") (List.mem_of_getElem? (i := 1) rfl)) (fun _ h9 => h9) rfl dX2_leastMatchFor_20 ?_
    refine lv_i2l hx hb dX2_leastMatchFor_23 rfl ?_
    refine lv_ladd hx hb dX2_leastMatchFor_24 ?_
    refine lv_lconst (v := 1) hx hb dX2_leastMatchFor_25 (by decide) ?_
    refine lv_lsub hx hb dX2_leastMatchFor_26 ?_
    refine lv_aload_n hx hb dX2_leastMatchFor_27 rfl (lv_at hl 1 rfl) ?_
    refine va_get (D := D) (ci := 2) (v := .int gs) (C := RX2) (T := TX2) (N := 13) hx hb hts hi2 hown hK hP 0 rfl rfl 1 (by decide) (hts (.fieldLink RX2 14 "GrantBook" "grantShare" "I") (List.mem_of_getElem? (i := 1) rfl)) (fun _ h9 => h9) rfl dX2_leastMatchFor_28 ?_
    refine lv_i2l hx hb dX2_leastMatchFor_31 rfl ?_
    refine lv_ldiv hx hb dX2_leastMatchFor_32 (gNz c_1) ?_
    refine lv_goto (tgt := 37) hx hb dX2_leastMatchFor_33 (by decide) ?_
    refine W.widen (k := 0) (n := 0) (Nat.le_of_ble_eq_true rfl) (Nat.le_of_ble_eq_true rfl) ?_
    exact W.lret (v := ((((e0 * (100 - gs).toInt64) + gs.toInt64) - 1) / gs.toInt64)) hx hb hr (fun t ht hW => ⟨⟨((((e0 * (100 - gs).toInt64) + gs.toInt64) - 1) / gs.toInt64), (), rfl, (by unfold gLm; rw [if_neg c_1]), by rw [ht]; exact hP, va_K.moved hW.alike hK, hD⟩, hS.F ht⟩) hS.2.2 dX2_leastMatchFor_37
