/-- ahead of it, by day and number -/
abbrev pLx (dya : Nat → Int32) (j k : Nat) : Prop := dya j < dya k ∨ dya j = dya k ∧ j < k
abbrev pAhC (dya ac : Nat → Int32) (lnf : Nat → Nat) (j k : Nat) : Prop := pLx dya j k ∧ lnf j = lnf k ∧ ¬ ac j = 0
/-- the law's sum of what is ahead of k, the first j gone through -/
def pAh (dya amo ac : Nat → Int32) (lnf : Nat → Nat) (k : Nat) : Nat → Int64
  | 0 => 0
  | j + 1 => pAh dya amo ac lnf k j + (if pAhC dya ac lnf j k then (amo j).toInt64 else 0)
/-- what the law tells to be eligible of k -/
def pEl (rm dya amo ac : Nat → Int32) (lnf : Nat → Nat) (nv k : Nat) : Int32 :=
  if ac k = 0 then 0 else ((if pAh dya amo ac lnf k nv + (amo k).toInt64 < (rm (lnf k)).toInt64 then pAh dya amo ac lnf k nv + (amo k).toInt64 else (rm (lnf k)).toInt64) - (if pAh dya amo ac lnf k nv < (rm (lnf k)).toInt64 then pAh dya amo ac lnf k nv else (rm (lnf k)).toInt64)).toInt32
/-- a sum along a list, in integers -/
def pZ (f : Nat → Int) : List Nat → Int
  | [] => 0
  | a :: w => f a + pZ f w
theorem pZ_congr {f g : Nat → Int} : ∀ {w : List Nat}, (∀ a ∈ w, f a = g a) → pZ f w = pZ g w
  | [], _ => rfl
  | a :: w, h => by
    unfold pZ
    rw [h a List.mem_cons_self, pZ_congr fun b hb => h b (List.mem_cons_of_mem _ hb)]
theorem pZ_app (f : Nat → Int) : ∀ (v w : List Nat), pZ f (v ++ w) = pZ f v + pZ f w
  | [], w => by simp [pZ]
  | a :: v, w => by
    simp only [List.cons_append, pZ]
    rw [pZ_app f v w, Int.add_assoc]
theorem pZ_perm {f : Nat → Int} {v w : List Nat} (h : v.Perm w) : pZ f v = pZ f w := by
  induction h with
  | nil => rfl
  | cons a _ ih => unfold pZ; rw [ih]
  | swap a b l => simp only [pZ]; omega
  | trans _ _ h1 h2 => exact h1.trans h2
theorem pZ_0 {f : Nat → Int} : ∀ {w : List Nat}, (∀ a ∈ w, f a = 0) → pZ f w = 0
  | [], _ => rfl
  | a :: w, h => by
    unfold pZ
    rw [h a List.mem_cons_self, pZ_0 fun b hb => h b (List.mem_cons_of_mem _ hb)]
    rfl
theorem pZ_filter {f : Nat → Int} {lnf : Nat → Nat} {i : Nat} : ∀ {w : List Nat}, pZ (fun j => if lnf j = i then f j else 0) w = pZ f (w.filter (fun v => lnf v == i))
  | [] => rfl
  | a :: w => by
    by_cases h : lnf a = i
    · rw [List.filter_cons_of_pos (by simpa using h)]
      simp only [pZ]
      rw [if_pos h, pZ_filter]
    · rw [List.filter_cons_of_neg (by simpa using h)]
      simp only [pZ]
      rw [if_neg h, pZ_filter, Int.zero_add]
theorem pZ_b {f : Nat → Int} {c : Int} : ∀ {w : List Nat}, (∀ a ∈ w, 0 ≤ f a ∧ f a ≤ c) → 0 ≤ pZ f w ∧ pZ f w ≤ c * w.length
  | [], _ => by simp [pZ]
  | a :: w, h => by
    have h1 := h a List.mem_cons_self
    have h2 := pZ_b (f := f) (c := c) (w := w) fun b hb => h b (List.mem_cons_of_mem _ hb)
    have h3 : c * ((a :: w).length : Int) = c * w.length + c := by
      rw [List.length_cons, Int.natCast_add, Int.mul_add]
      simp
    simp only [pZ]
    omega
/-- the law's sum in integers -/
theorem pAh_Z {dya amo ac : Nat → Int32} {lnf : Nat → Nat} {k : Nat} : ∀ {n : Nat}, n ≤ 100 → (∀ j, j < n → 0 ≤ (amo j).toInt ∧ (amo j).toInt ≤ 10000000) → (pAh dya amo ac lnf k n).toInt = pZ (fun j => if pAhC dya ac lnf j k then (amo j).toInt else 0) (List.range n)
  | 0, _, _ => rfl
  | n + 1, hn, h => by
    have ih := pAh_Z (dya := dya) (amo := amo) (ac := ac) (lnf := lnf) (k := k) (n := n) (by omega) fun j hj => h j (by omega)
    have h1 := pZ_b (f := fun j => if pAhC dya ac lnf j k then (amo j).toInt else 0) (c := 10000000) (w := List.range n) (fun j hj => by
      have := h j (by have := List.mem_range.mp hj; omega)
      show 0 ≤ (if pAhC dya ac lnf j k then (amo j).toInt else 0) ∧ (if pAhC dya ac lnf j k then (amo j).toInt else 0) ≤ 10000000
      split <;> omega)
    rw [List.length_range] at h1
    have h2 := h n (by omega)
    have h3 : ((if pAhC dya ac lnf n k then (amo n).toInt64 else 0 : Int64)).toInt = if pAhC dya ac lnf n k then (amo n).toInt else 0 := by
      split
      · exact gJ_of
      · rfl
    have h4 : 0 ≤ (if pAhC dya ac lnf n k then (amo n).toInt else 0) ∧ (if pAhC dya ac lnf n k then (amo n).toInt else 0) ≤ 10000000 := by split <;> omega
    have h5 : pZ (fun j => if pAhC dya ac lnf j k then (amo j).toInt else 0) (List.range (n + 1)) = pZ (fun j => if pAhC dya ac lnf j k then (amo j).toInt else 0) (List.range n) + (if pAhC dya ac lnf n k then (amo n).toInt else 0) := by
      rw [List.range_succ, pZ_app]
      simp [pZ]
    rw [h5]
    unfold pAh
    rw [gJ_add (by rw [ih, h3]; omega) (by rw [ih, h3]; omega), ih, h3]
/-- along a chain: what is laid of one is by what is left ahead of it -/
theorem pRk {f l : Int32} {vrf vda vam : Nat → Int32} {v : Nat} {z : List Nat} (hz : v ∉ z) : ∀ {u : List Nat} {R : Int32} {el : Nat → Int32}, gRk f l vrf vda vam (u ++ v :: z) R el v = gEl f l (vrf v) (vda v) (vam v) (gRr f l vrf vda vam u R)
  | [], R, el => by
    simp only [List.nil_append, gRk, gRr]
    rw [gRk_ne f l vrf vda vam hz, va_up_self]
  | a :: u, R, el => by
    simp only [List.cons_append, gRk, gRr]
    exact pRk hz
/-- what a chain asks for, in integers -/
abbrev pS (f l : Int32) (vrf vda vam : Nat → Int32) (u : List Nat) : Int := pZ (fun a => if gAcc f l (vrf a) (vda a) = 0 then 0 else (vam a).toInt) u
theorem pS_0 {f l : Int32} {vrf vda vam : Nat → Int32} {a : Nat} {u : List Nat} (h : gAcc f l (vrf a) (vda a) = 0) : pS f l vrf vda vam (a :: u) = pS f l vrf vda vam u := by
  show (if gAcc f l (vrf a) (vda a) = 0 then 0 else (vam a).toInt) + pS f l vrf vda vam u = _
  rw [if_pos h, Int.zero_add]
theorem pS_1 {f l : Int32} {vrf vda vam : Nat → Int32} {a : Nat} {u : List Nat} (h : ¬ gAcc f l (vrf a) (vda a) = 0) : pS f l vrf vda vam (a :: u) = (vam a).toInt + pS f l vrf vda vam u := by
  show (if gAcc f l (vrf a) (vda a) = 0 then 0 else (vam a).toInt) + pS f l vrf vda vam u = _
  rw [if_neg h]
theorem pS_nn {f l : Int32} {vrf vda vam : Nat → Int32} : ∀ {u : List Nat}, (∀ a ∈ u, 0 ≤ (vam a).toInt) → 0 ≤ pS f l vrf vda vam u
  | [], _ => Int.le_refl _
  | a :: u, h => by
    have h1 := pS_nn (f := f) (l := l) (vrf := vrf) (vda := vda) (vam := vam) (u := u) fun b hb => h b (List.mem_cons_of_mem _ hb)
    have h2 := h a List.mem_cons_self
    by_cases hc : gAcc f l (vrf a) (vda a) = 0
    · rw [pS_0 hc]; exact h1
    · rw [pS_1 hc]; omega
/-- what is left, in integers -/
theorem pRr {f l : Int32} {vrf vda vam : Nat → Int32} : ∀ {u : List Nat} {R : Int32}, 0 ≤ R.toInt → (∀ a ∈ u, 0 ≤ (vam a).toInt) → (pS f l vrf vda vam u ≤ R.toInt → (gRr f l vrf vda vam u R).toInt = R.toInt - pS f l vrf vda vam u) ∧ (R.toInt < pS f l vrf vda vam u → (gRr f l vrf vda vam u R).toInt = 0)
  | [], R, h, _ => by
    refine ⟨fun _ => ?_, fun h2 => ?_⟩
    · show R.toInt = R.toInt - 0
      omega
    · have h3 : R.toInt < 0 := h2
      omega
  | a :: u, R, h, h2 => by
    have ha := h2 a List.mem_cons_self
    have h5 := @gI32 R
    have hu : ∀ b ∈ u, 0 ≤ (vam b).toInt := fun b hb => h2 b (List.mem_cons_of_mem _ hb)
    have hS := pS_nn (f := f) (l := l) (vrf := vrf) (vda := vda) hu
    show (pS f l vrf vda vam (a :: u) ≤ R.toInt → (gRr f l vrf vda vam u (R - gEl f l (vrf a) (vda a) (vam a) R)).toInt = R.toInt - pS f l vrf vda vam (a :: u)) ∧ (R.toInt < pS f l vrf vda vam (a :: u) → (gRr f l vrf vda vam u (R - gEl f l (vrf a) (vda a) (vam a) R)).toInt = 0)
    by_cases hc : gAcc f l (vrf a) (vda a) = 0
    · have he : gEl f l (vrf a) (vda a) (vam a) R = 0 := if_pos hc
      rw [he, pS_0 hc, Int32.sub_zero]
      exact pRr h hu
    · rw [pS_1 hc]
      by_cases hm : R < vam a
      · have he : gEl f l (vrf a) (vda a) (vam a) R = R := by
          unfold gEl
          rw [if_neg hc, if_pos hm]
        rw [Int32.lt_iff_toInt_lt] at hm
        have h0 : (0 : Int32).toInt = 0 := rfl
        obtain ⟨k1, k2⟩ := pRr (f := f) (l := l) (vrf := vrf) (vda := vda) (vam := vam) (u := u) (R := 0) (Int.le_refl _) hu
        rw [h0] at k1 k2
        rw [he, Int32.sub_self]
        refine ⟨fun h7 => by omega, fun _ => ?_⟩
        by_cases h8 : pS f l vrf vda vam u ≤ 0
        · rw [k1 h8]; omega
        · exact k2 (by omega)
      · have he : gEl f l (vrf a) (vda a) (vam a) R = vam a := by
          unfold gEl
          rw [if_neg hc, if_neg hm]
        rw [Int32.lt_iff_toInt_lt] at hm
        have hs : (R - vam a).toInt = R.toInt - (vam a).toInt := gI_sub (by omega) (by omega)
        obtain ⟨k1, k2⟩ := pRr (f := f) (l := l) (vrf := vrf) (vda := vda) (vam := vam) (u := u) (R := R - vam a) (by omega) hu
        rw [hs] at k1 k2
        rw [he]
        exact ⟨fun h7 => by rw [k1 (by omega)]; omega, fun h7 => k2 (by omega)⟩
theorem pEl_ar {R r a : Int32} {S : Int64} {Z : Int} (hZ : S.toInt = Z) (hZb : 0 ≤ Z ∧ Z ≤ 1000000000) (hR : 0 ≤ R.toInt) (hr : (Z ≤ R.toInt → r.toInt = R.toInt - Z) ∧ (R.toInt < Z → r.toInt = 0)) (ha : 1 ≤ a.toInt ∧ a.toInt ≤ 10000000) : ((if S + a.toInt64 < R.toInt64 then S + a.toInt64 else R.toInt64) - (if S < R.toInt64 then S else R.toInt64)).toInt32 = if r < a then r else a := by
  have hR2 := (@gI32 R).2
  have e5 : (S + a.toInt64).toInt = Z + a.toInt := by
    rw [gJ_add (by rw [hZ, gJ_of]; omega) (by rw [hZ, gJ_of]; omega), hZ, gJ_of]
  apply Int32.toInt_inj.mp
  by_cases c1 : S < R.toInt64
  · rw [if_pos c1]
    rw [Int64.lt_iff_toInt_lt, hZ, gJ_of] at c1
    have hr := hr.1 (by omega)
    by_cases c2 : S + a.toInt64 < R.toInt64
    · rw [if_pos c2]
      rw [Int64.lt_iff_toInt_lt, e5, gJ_of] at c2
      rw [if_neg (by rw [Int32.lt_iff_toInt_lt]; omega)]
      have e6 : (S + a.toInt64 - S).toInt = a.toInt := by
        rw [gJ_sub (by rw [e5, hZ]; omega) (by rw [e5, hZ]; omega), e5, hZ]; omega
      rw [gJ_to (by omega) (by omega), e6]
    · rw [if_neg c2]
      rw [Int64.lt_iff_toInt_lt, e5, gJ_of] at c2
      have e6 : (R.toInt64 - S).toInt = R.toInt - Z := by
        rw [gJ_sub (by rw [gJ_of, hZ]; omega) (by rw [gJ_of, hZ]; omega), gJ_of, hZ]
      rw [gJ_to (by omega) (by omega), e6]
      by_cases c3 : r < a
      · rw [if_pos c3, hr]
      · rw [if_neg c3]
        rw [Int32.lt_iff_toInt_lt] at c3
        omega
  · rw [if_neg c1]
    rw [Int64.lt_iff_toInt_lt, hZ, gJ_of] at c1
    have hr0 : r.toInt = 0 := by
      by_cases h8 : Z ≤ R.toInt
      · rw [hr.1 h8]; omega
      · exact hr.2 (by omega)
    rw [if_neg (by rw [Int64.lt_iff_toInt_lt, e5, gJ_of]; omega), if_pos (by rw [Int32.lt_iff_toInt_lt]; omega), hr0]
    rw [Int64.sub_self]
    rfl
/-- what the law tells to be eligible is what the class lays -/
theorem pEl_eq {gr sh rt ce : Int32} {nl nv : Nat} {am : Int32} {nc : Nat} {cd : Int32} {bud fsd las isB mto maw lno dya amo rfd ord cpa : Nat → Int32} {lnf orf : Nat → Nat} (hM : gMI gr sh rt ce nl nv am nc cd bud fsd las isB mto maw lno dya amo rfd ord cpa lnf orf) (hT : ((List.range nv).map orf).Pairwise (pLx dya)) {v : Nat} (hv : v < nv) : pEl (fun l => bud l + mto l - maw l) dya amo (fun v => gAcc (fsd (lnf v)) (las (lnf v)) (rfd v) (dya v)) lnf nv v = (gEL (fun l => bud l + mto l - maw l) (fun v => gAcc (fsd (lnf v)) (las (lnf v)) (rfd v) (dya v)) lnf amo orf nv) v := by
  have hn := hM.1.2.1
  have hb := (hM.2.1 v hv).2
  have hR := (gM_rm hM (lnf v) hb).2.1
  have ham := hM.2.2.2.2.2.2.2.2.1
  have he := gM_e1 hM hv
  have hw : (gCk lnf orf (lnf v) nv).Pairwise (pLx dya) := List.Pairwise.filter _ hT
  have hnd := gM_nd hM (lnf v)
  obtain ⟨u, z, hs⟩ := List.append_of_mem (gM_cm hM hv)
  have hZ : (pAh dya amo (fun v => gAcc (fsd (lnf v)) (las (lnf v)) (rfd v) (dya v)) lnf v nv).toInt = pS (fsd (lnf v)) (las (lnf v)) rfd dya amo u := by
    rw [pAh_Z hn (fun j hj => ⟨by have := (ham j hj).1; omega, (ham j hj).2.1⟩), ← pZ_perm (gM_perm hM)]
    have e1 : (fun j => if pAhC dya (fun v => gAcc (fsd (lnf v)) (las (lnf v)) (rfd v) (dya v)) lnf j v then (amo j).toInt else 0) = (fun j => if lnf j = lnf v then (if pLx dya j v ∧ ¬ gAcc (fsd (lnf j)) (las (lnf j)) (rfd j) (dya j) = 0 then (amo j).toInt else 0) else 0) := by
      funext j
      by_cases c1 : lnf j = lnf v
      · rw [if_pos c1]
        by_cases c2 : pLx dya j v ∧ ¬ gAcc (fsd (lnf j)) (las (lnf j)) (rfd j) (dya j) = 0
        · rw [if_pos c2, if_pos ⟨c2.1, c1, c2.2⟩]
        · rw [if_neg c2, if_neg (fun h => c2 ⟨h.1, h.2.2⟩)]
      · rw [if_neg c1, if_neg (fun h => c1 h.2.1)]
    rw [e1, pZ_filter]
    show pZ _ (gCk lnf orf (lnf v) nv) = _
    have hl : ∀ j, j ∈ gCk lnf orf (lnf v) nv → lnf j = lnf v := fun j hj => (gCk_m.mp hj).2
    rw [hs] at hw hl ⊢
    obtain ⟨w1, w2, w3⟩ := List.pairwise_append.mp hw
    have w4 := List.pairwise_cons.mp w2
    have irr : ∀ a b : Nat, pLx dya a b → ¬ pLx dya b a := by
      intro a b h1 h2
      rcases h1 with h1 | ⟨h1, h3⟩
      · rcases h2 with h2 | ⟨h2, h4⟩
        · exact Int32.lt_irrefl (Int32.lt_trans h1 h2)
        · rw [h2] at h1; exact Int32.lt_irrefl h1
      · rcases h2 with h2 | ⟨h2, h4⟩
        · rw [h1] at h2; exact Int32.lt_irrefl h2
        · omega
    rw [pZ_app]
    have q1 : pZ (fun j => if pLx dya j v ∧ ¬ gAcc (fsd (lnf j)) (las (lnf j)) (rfd j) (dya j) = 0 then (amo j).toInt else 0) (v :: z) = 0 := by
      refine pZ_0 (fun b hb9 => if_neg (fun h => ?_))
      rcases List.mem_cons.mp hb9 with rfl | hb8
      · exact irr b b h.1 h.1
      · exact irr v b (w4.1 b hb8) h.1
    rw [q1, Int.add_zero]
    refine pZ_congr (fun a ha => ?_)
    have h1 := w3 a ha v List.mem_cons_self
    rw [hl a (List.mem_append_left _ ha)]
    by_cases c : gAcc (fsd (lnf v)) (las (lnf v)) (rfd a) (dya a) = 0
    · rw [if_pos c, if_neg (fun h => h.2 c)]
    · rw [if_neg c, if_pos ⟨h1, c⟩]
  have hub : ∀ a ∈ u, a < nv := fun a ha => gM_cl hM (i := lnf v) (by rw [hs]; exact List.mem_append_left _ ha)
  have hlen : u.length ≤ 100 := by
    have e2 : (gCk lnf orf (lnf v) nv).length ≤ ((List.range nv).map orf).length := List.length_filter_le _ _
    rw [List.length_map, List.length_range, hs, List.length_append] at e2
    omega
  have hSb := pZ_b (f := fun a => if gAcc (fsd (lnf v)) (las (lnf v)) (rfd a) (dya a) = 0 then 0 else (amo a).toInt) (c := 10000000) (w := u) (fun a ha => by
    have := ham a (hub a ha)
    show 0 ≤ (if gAcc (fsd (lnf v)) (las (lnf v)) (rfd a) (dya a) = 0 then 0 else (amo a).toInt) ∧ (if gAcc (fsd (lnf v)) (las (lnf v)) (rfd a) (dya a) = 0 then 0 else (amo a).toInt) ≤ 10000000
    split <;> omega)
  rw [hs] at he hnd
  have hvz : v ∉ z := (List.nodup_cons.mp (List.nodup_append.mp hnd).2.1).1
  rw [pRk hvz] at he
  have hr := pRr (f := fsd (lnf v)) (l := las (lnf v)) (vrf := rfd) (vda := dya) (vam := amo) (u := u) (R := bud (lnf v) + mto (lnf v) - maw (lnf v)) hR (fun a ha => by have := (ham a (hub a ha)).1; omega)
  rw [← he]
  unfold pEl
  by_cases hc : gAcc (fsd (lnf v)) (las (lnf v)) (rfd v) (dya v) = 0
  · rw [if_pos hc]
    exact (if_pos hc).symm
  · rw [if_neg hc]
    have hg : gEl (fsd (lnf v)) (las (lnf v)) (rfd v) (dya v) (amo v) (gRr (fsd (lnf v)) (las (lnf v)) rfd dya amo u (bud (lnf v) + mto (lnf v) - maw (lnf v))) = if gRr (fsd (lnf v)) (las (lnf v)) rfd dya amo u (bud (lnf v) + mto (lnf v) - maw (lnf v)) < amo v then gRr (fsd (lnf v)) (las (lnf v)) rfd dya amo u (bud (lnf v) + mto (lnf v) - maw (lnf v)) else amo v := if_neg hc
    rw [hg]
    have ha := ham v hv
    have hSb2 : 0 ≤ pS (fsd (lnf v)) (las (lnf v)) rfd dya amo u ∧ pS (fsd (lnf v)) (las (lnf v)) rfd dya amo u ≤ 10000000 * u.length := hSb
    exact pEl_ar hZ ⟨hSb2.1, by omega⟩ hR hr ⟨ha.1, ha.2.1⟩
/-- what is used of each line, as the law adds it up -/
def pUs (el : Nat → Int32) (lnf : Nat → Nat) : Nat → (Nat → Int32)
  | 0 => fun _ => 0
  | k + 1 => va_up (pUs el lnf k) (lnf k) (pUs el lnf k (lnf k) + el k)
theorem pUs_sm {el : Nat → Int32} {lnf : Nat → Nat} {i : Nat} : ∀ {k : Nat}, pUs el lnf k i = gSm (fun j => if lnf j = i then el j else 0) k
  | 0 => rfl
  | k + 1 => by
    unfold pUs gSm
    by_cases h : i = lnf k
    · subst h
      rw [va_up_self, if_pos rfl, pUs_sm]
    · rw [va_up_ne _ _ h, if_neg (fun e => h e.symm), pUs_sm, Int32.add_zero]
theorem gLS_filter {f : Nat → Int32} {lnf : Nat → Nat} {i : Nat} : ∀ {w : List Nat}, gLS (fun j => if lnf j = i then f j else 0) w = gLS f (w.filter (fun v => lnf v == i))
  | [] => rfl
  | a :: w => by
    by_cases h : lnf a = i
    · rw [List.filter_cons_of_pos (by simpa using h)]
      simp only [gLS]
      rw [if_pos h, gLS_filter]
    · rw [List.filter_cons_of_neg (by simpa using h)]
      simp only [gLS]
      rw [if_neg h, gLS_filter, Int32.zero_add]
theorem pUs_eq {gr sh rt ce : Int32} {nl nv : Nat} {am : Int32} {nc : Nat} {cd : Int32} {bud fsd las isB mto maw lno dya amo rfd ord cpa : Nat → Int32} {lnf orf : Nat → Nat} (hM : gMI gr sh rt ce nl nv am nc cd bud fsd las isB mto maw lno dya amo rfd ord cpa lnf orf) {i : Nat} (hi : i < nl) : pUs (gEL (fun l => bud l + mto l - maw l) (fun v => gAcc (fsd (lnf v)) (las (lnf v)) (rfd v) (dya v)) lnf amo orf nv) lnf nv i = (gUS (fun l => bud l + mto l - maw l) (fun v => gAcc (fsd (lnf v)) (las (lnf v)) (rfd v) (dya v)) lnf amo orf nv) i := by
  rw [gM_us hM (va := fun x => x) (fun _ _ _ _ e => e) (vrf := rfd) (vda := dya) (vam := amo) (fun _ _ => ⟨rfl, rfl, rfl⟩) hi, pUs_sm, ← gLS_range, ← gLS_perm (gM_perm hM), gLS_filter]
  rfl
/-- earned, as the law tells it -/
def pIt (sh gr c o : Int32) : Int64 := if (c.toInt64 + o.toInt64) * sh.toInt64 / 100 < gr.toInt64 then (c.toInt64 + o.toInt64) * sh.toInt64 / 100 else gr.toInt64
def pEa (sh gr c o : Int32) (m : Int64) : Int32 := (if pIt sh gr c o < (if sh = 100 then pIt sh gr c o else m * sh.toInt64 / (100 - sh).toInt64) then pIt sh gr c o else (if sh = 100 then pIt sh gr c o else m * sh.toInt64 / (100 - sh).toInt64)).toInt32
/-- the least match with which it would not bound -/
def pLM (sh X : Int32) : Int := (X.toInt * (100 - sh.toInt) + sh.toInt - 1) / sh.toInt
theorem pIt_ub {sh gr c o : Int32} (h1 : 1 ≤ sh.toInt ∧ sh.toInt ≤ 100) (h2 : 0 ≤ gr.toInt ∧ gr.toInt ≤ 100000000) (hc : 0 ≤ c.toInt ∧ c.toInt ≤ 120000000) (ho : 0 ≤ o.toInt ∧ o.toInt ≤ 100000000) : pIt sh gr c o = (gUb sh gr c o).toInt64 := by
  rw [← (gEbU h1 h2 hc ho).1]
  unfold pIt gEb
  by_cases h : (c.toInt64 + o.toInt64) * sh.toInt64 / 100 < gr.toInt64
  · rw [if_pos h, if_neg (Int64.not_lt.mpr (Int64.le_of_lt h))]
  · rw [if_neg h]
    by_cases h3 : gr.toInt64 < (c.toInt64 + o.toInt64) * sh.toInt64 / 100
    · rw [if_pos h3]
    · rw [if_neg h3]
      exact Int64.le_antisymm (Int64.not_lt.mp h) (Int64.not_lt.mp h3)
theorem pQ {sh : Int32} {m : Int64} (h1 : 1 ≤ sh.toInt ∧ sh.toInt ≤ 100) (h : ¬ sh = 100) (hm : 0 ≤ m.toInt ∧ m.toInt ≤ 1000000000000) : (m * sh.toInt64 / (100 - sh).toInt64).toInt = m.toInt * sh.toInt / (100 - sh.toInt) ∧ 1 ≤ 100 - sh.toInt := by
  have hd := gShD h1
  have h100 : sh.toInt ≠ 100 := fun e => h (Int32.toInt_inj.mp e)
  have hb := gMulB hm.1 hm.2 (by omega : 0 ≤ sh.toInt) h1.2
  have e1 : (m * sh.toInt64).toInt = m.toInt * sh.toInt := by
    rw [gJ_mul (by rw [gJ_of]; omega) (by rw [gJ_of]; omega), gJ_of]
  rw [gJ_div (by omega) (by rw [gJ_of, hd]; omega), e1, gJ_of, hd]
  exact ⟨rfl, by omega⟩
/-- with a match: the smaller of what is earned without one and of what the match allows -/
theorem pEa_x {sh gr c o : Int32} {m : Int64} (h1 : 1 ≤ sh.toInt ∧ sh.toInt ≤ 100) (h2 : 0 ≤ gr.toInt ∧ gr.toInt ≤ 100000000) (hc : 0 ≤ c.toInt ∧ c.toInt ≤ 120000000) (ho : 0 ≤ o.toInt ∧ o.toInt ≤ 100000000) (hm : 0 ≤ m.toInt ∧ m.toInt ≤ 1000000000000) : pEa sh gr c o m = gUb sh gr c o ↔ pLM sh (gUb sh gr c o) ≤ m.toInt := by
  have hX := (gEbU h1 h2 hc ho).2
  unfold pEa
  rw [pIt_ub h1 h2 hc ho]
  generalize gUb sh gr c o = X at hX ⊢
  unfold pLM
  by_cases h : sh = 100
  · subst h
    rw [if_pos rfl, if_neg Int64.lt_irrefl, gJ_oi]
    refine ⟨fun _ => ?_, fun _ => rfl⟩
    show (X.toInt * (100 - 100) + 100 - 1) / 100 ≤ m.toInt
    rw [Int.sub_self, Int.mul_zero]
    omega
  · rw [if_neg h]
    obtain ⟨q1, q2⟩ := pQ h1 h hm
    have hb := gMulB hm.1 hm.2 (by omega : 0 ≤ sh.toInt) h1.2
    have key : X.toInt ≤ m.toInt * sh.toInt / (100 - sh.toInt) ↔ (X.toInt * (100 - sh.toInt) + sh.toInt - 1) / sh.toInt ≤ m.toInt := by
      rw [Int.le_ediv_iff_mul_le (by omega), Int.ediv_le_iff_le_mul (by omega)]
      omega
    rw [← key]
    generalize m * sh.toInt64 / (100 - sh).toInt64 = q at q1 ⊢
    rw [← q1]
    by_cases c : X.toInt64 < q
    · rw [if_pos c, gJ_oi]
      rw [Int64.lt_iff_toInt_lt, gJ_of] at c
      exact ⟨fun _ => by omega, fun _ => rfl⟩
    · rw [if_neg c]
      have c2 := c
      rw [Int64.lt_iff_toInt_lt, gJ_of] at c2
      have hq0 : 0 ≤ q.toInt := by
        rw [q1]
        exact Int.ediv_nonneg hb.1 (by omega)
      constructor
      · intro e
        have e2 := congrArg Int32.toInt e
        rw [gJ_to (by omega) (by omega)] at e2
        omega
      · intro e
        apply Int32.toInt_inj.mp
        rw [gJ_to (by omega) (by omega)]
        omega
theorem pLM_b {sh X : Int32} (h1 : 1 ≤ sh.toInt ∧ sh.toInt ≤ 100) (hX : 0 ≤ X.toInt ∧ X.toInt ≤ 100000000) : 0 ≤ pLM sh X ∧ pLM sh X ≤ 20000000000 := by
  unfold pLM
  have hb := gMulB hX.1 hX.2 (by omega : 0 ≤ 100 - sh.toInt) (by omega : 100 - sh.toInt ≤ 100)
  have b2 : (X.toInt * (100 - sh.toInt) + sh.toInt - 1) / sh.toInt ≤ X.toInt * (100 - sh.toInt) + sh.toInt - 1 := Int.ediv_le_self _ (by omega)
  exact ⟨Int.ediv_nonneg (by omega) (by omega), by omega⟩
theorem pEa_free {sh gr c o : Int32} (h1 : 1 ≤ sh.toInt ∧ sh.toInt ≤ 100) (h2 : 0 ≤ gr.toInt ∧ gr.toInt ≤ 100000000) (hc : 0 ≤ c.toInt ∧ c.toInt ≤ 120000000) (ho : 0 ≤ o.toInt ∧ o.toInt ≤ 100000000) : pEa sh gr c o 1000000000000 = gUb sh gr c o := by
  have hm : (1000000000000 : Int64).toInt = 1000000000000 := by decide
  refine (pEa_x h1 h2 hc ho (by rw [hm]; omega)).mpr ?_
  have := (pLM_b h1 (gEbU h1 h2 hc ho).2).2
  rw [hm]
  omega
theorem pEa_am {sh gr c o am : Int32} (h1 : 1 ≤ sh.toInt ∧ sh.toInt ≤ 100) (h2 : 0 ≤ gr.toInt ∧ gr.toInt ≤ 100000000) (hc : 0 ≤ c.toInt ∧ c.toInt ≤ 120000000) (ho : 0 ≤ o.toInt ∧ o.toInt ≤ 100000000) : pEa sh gr c o am.toInt64 = gEt sh am (gUb sh gr c o) := by
  unfold pEa gEt
  rw [pIt_ub h1 h2 hc ho]
  generalize gUb sh gr c o = X
  by_cases h : sh = 100
  · rw [if_pos h, if_neg Int64.lt_irrefl, if_pos h, gJ_oi]
  · rw [if_neg h, if_neg h]
    by_cases c1 : X.toInt64 < am.toInt64 * sh.toInt64 / (100 - sh).toInt64
    · rw [if_pos c1, if_pos (Int64.le_of_lt c1), gJ_oi]
    · rw [if_neg c1]
      by_cases c2 : X.toInt64 ≤ am.toInt64 * sh.toInt64 / (100 - sh).toInt64
      · rw [if_pos c2, ← Int64.le_antisymm c2 (Int64.not_lt.mp c1), gJ_oi]
      · rw [if_neg c2]
theorem pOw {rt ce x : Int32} : (if x.toInt64 * rt.toInt64 / 100 < ce.toInt64 then (x.toInt64 * rt.toInt64 / 100).toInt32 else ce) = gOw rt ce x := by
  unfold gOw
  rw [Int64.mul_comm x.toInt64 rt.toInt64]
  by_cases h : rt.toInt64 * x.toInt64 / 100 < ce.toInt64
  · rw [if_pos h, if_pos (Int64.le_of_lt h)]
  · rw [if_neg h]
    by_cases h2 : rt.toInt64 * x.toInt64 / 100 ≤ ce.toInt64
    · rw [if_pos h2, Int64.le_antisymm h2 (Int64.not_lt.mp h), gJ_oi]
    · rw [if_neg h2]
/-- what is earned without a match is at most its share -/
theorem pUb_s {sh gr c o : Int32} (h1 : 1 ≤ sh.toInt ∧ sh.toInt ≤ 100) (hc : 0 ≤ c.toInt ∧ c.toInt ≤ 120000000) (ho : 0 ≤ o.toInt ∧ o.toInt ≤ 100000000) : (gUb sh gr c o).toInt * 100 ≤ sh.toInt * 220000000 := by
  have hab : (c + o).toInt = c.toInt + o.toInt := gI_add (by omega) (by omega)
  have hm := gMulB (a := sh.toInt) (b := (c + o).toInt) (m := 100) (n := 220000000) (by omega) (by omega) (by omega) (by omega)
  have hm2 : sh.toInt * (c + o).toInt ≤ sh.toInt * 220000000 := Int.mul_le_mul_of_nonneg_left (by omega) (by omega)
  have e1 : (sh.toInt64 * (c + o).toInt64).toInt = sh.toInt * (c + o).toInt := by
    rw [gJ_mul (by rw [gJ_of, gJ_of]; omega) (by rw [gJ_of, gJ_of]; omega), gJ_of, gJ_of]
  have e2 : (sh.toInt64 * (c + o).toInt64 / 100).toInt = sh.toInt * (c + o).toInt / 100 := by
    rw [gJ_div (by omega) (by decide), e1]
    rfl
  have h100 : sh.toInt * (c + o).toInt / 100 * 100 ≤ sh.toInt * (c + o).toInt := Int.ediv_mul_le _ (by omega)
  unfold gUb
  by_cases h : sh.toInt64 * (c + o).toInt64 / 100 ≤ gr.toInt64
  · rw [if_pos h, gJ_to (by omega) (by omega), e2]
    omega
  · rw [if_neg h]
    rw [Int64.le_iff_toInt_le, gJ_of, e2] at h
    omega
theorem pLM_s {sh X : Int32} (h1 : 1 ≤ sh.toInt ∧ sh.toInt ≤ 100) (hX : 0 ≤ X.toInt) (h : X.toInt * 100 ≤ sh.toInt * 220000000) : pLM sh X ≤ 220000000 := by
  unfold pLM
  rw [Int.ediv_le_iff_le_mul (by omega)]
  have h3 := Int.mul_le_mul_of_nonneg_right (c := 100 - sh.toInt) h (by omega)
  have h4 : sh.toInt * 220000000 * (100 - sh.toInt) ≤ sh.toInt * 220000000 * 100 := Int.mul_le_mul_of_nonneg_left (by omega) (by omega)
  have h5 : X.toInt * 100 * (100 - sh.toInt) = 100 * (X.toInt * (100 - sh.toInt)) := by rw [Int.mul_comm X.toInt 100, Int.mul_assoc]
  omega
/-- the missing match, as the law has it -/
theorem pMs {sh am X : Int32} {low : Int64} (h1 : 1 ≤ sh.toInt ∧ sh.toInt ≤ 100) (h2 : 0 ≤ am.toInt ∧ am.toInt ≤ 100000000) (hX : 0 ≤ X.toInt ∧ X.toInt ≤ 100000000) (h : X.toInt * 100 ≤ sh.toInt * 220000000) (hl : low.toInt = pLM sh X) : (gMs sh am X).toInt64 = if am.toInt64 < low then low - am.toInt64 else 0 := by
  have hd := gShD h1
  have hL := pLM_s h1 hX.1 h
  have hL0 := pLM_b h1 hX
  have hm := gMulB (a := X.toInt) (b := 100 - sh.toInt) (m := 100000000) (n := 100) (by omega) (by omega) (by omega) (by omega)
  have e0 : (X.toInt64 * (100 - sh).toInt64).toInt = X.toInt * (100 - sh.toInt) := by
    rw [gJ_mul (by rw [gJ_of, gJ_of, hd]; omega) (by rw [gJ_of, gJ_of, hd]; omega), gJ_of, gJ_of, hd]
  have e1 : (X.toInt64 * (100 - sh).toInt64 + sh.toInt64).toInt = X.toInt * (100 - sh.toInt) + sh.toInt := by
    rw [gJ_add (by rw [e0, gJ_of]; omega) (by rw [e0, gJ_of]; omega), e0, gJ_of]
  have e2 : (X.toInt64 * (100 - sh).toInt64 + sh.toInt64 - 1).toInt = X.toInt * (100 - sh.toInt) + sh.toInt - 1 := by
    have h1' : (1 : Int64).toInt = 1 := rfl
    rw [gJ_sub (by rw [e1, h1']; omega) (by rw [e1, h1']; omega), e1, h1']
  have e3 : ((X.toInt64 * (100 - sh).toInt64 + sh.toInt64 - 1) / sh.toInt64).toInt = low.toInt := by
    rw [hl, gJ_div (by omega) (by rw [gJ_of]; omega), e2, gJ_of]
    rfl
  unfold gMs
  rw [Int64.toInt_inj.mp e3]
  by_cases c : low ≤ am.toInt64
  · rw [if_pos c, if_neg (Int64.not_lt.mpr c)]
    rfl
  · rw [if_neg c, if_pos (Int64.not_le.mp c)]
    have e4 : (low - am.toInt64).toInt = low.toInt - am.toInt := by
      rw [gJ_sub (by rw [gJ_of]; omega) (by rw [gJ_of]; omega), gJ_of]
    apply Int64.toInt_inj.mp
    rw [gJ_of, gJ_to (by omega) (by omega)]
