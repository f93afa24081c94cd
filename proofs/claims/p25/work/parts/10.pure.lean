/-- a sum along a list -/
def gLS (f : Nat → Int32) : List Nat → Int32
  | [] => 0
  | a :: w => f a + gLS f w
theorem gLS_congr {f g : Nat → Int32} : ∀ {w : List Nat}, (∀ a ∈ w, f a = g a) → gLS f w = gLS g w
  | [], _ => rfl
  | a :: w, h => by
    unfold gLS
    rw [h a List.mem_cons_self, gLS_congr fun b hb => h b (List.mem_cons_of_mem _ hb)]
theorem gLS_app (f : Nat → Int32) : ∀ (v w : List Nat), gLS f (v ++ w) = gLS f v + gLS f w
  | [], w => by simp [gLS]
  | a :: v, w => by
    simp only [List.cons_append, gLS]
    rw [gLS_app f v w, Int32.add_assoc]
theorem gLS_perm {f : Nat → Int32} {v w : List Nat} (h : v.Perm w) : gLS f v = gLS f w := by
  induction h with
  | nil => rfl
  | cons a _ ih => unfold gLS; rw [ih]
  | swap a b l => unfold gLS; unfold gLS; grind
  | trans _ _ h1 h2 => exact h1.trans h2
theorem gLS_range (f : Nat → Int32) : ∀ n, gLS f (List.range n) = gSm f n
  | 0 => rfl
  | n + 1 => by
    rw [List.range_succ, gLS_app, gLS_range f n]
    simp [gLS, gSm]
theorem gLS_map (f : Nat → Int32) (g : Nat → Nat) : ∀ w, gLS f (w.map g) = gLS (fun a => f (g a)) w
  | [] => rfl
  | a :: w => by
    simp only [List.map_cons, gLS]
    rw [gLS_map f g w]
theorem gPerm_range : ∀ (n : Nat) (l : List Nat), l.length = n → (∀ v, v < n → v ∈ l) → l.Perm (List.range n)
  | 0, l, h, _ => by
    rw [List.eq_nil_of_length_eq_zero h]
    exact List.Perm.refl _
  | n + 1, l, h, h2 => by
    have hm := h2 n (Nat.lt_succ_self n)
    refine (List.perm_cons_erase hm).trans ?_
    have h3 := gPerm_range n (l.erase n) (by rw [List.length_erase_of_mem hm, h]; rfl) (fun v hv => (List.mem_erase_of_ne (by omega)).mpr (h2 v (by omega)))
    rw [List.range_succ]
    exact (h3.cons n).trans (List.perm_append_comm (l₁ := [n]))
theorem gSm_add (f g : Nat → Int32) : ∀ n, gSm (fun i => f i + g i) n = gSm f n + gSm g n
  | 0 => rfl
  | n + 1 => by
    unfold gSm
    rw [gSm_add f g n]
    grind
theorem gSm_0 : ∀ n, gSm (fun _ => 0) n = 0
  | 0 => rfl
  | n + 1 => by
    unfold gSm
    rw [gSm_0 n]
    rfl
theorem gSm_one {b : Nat} {x : Int32} : ∀ {n}, b < n → gSm (fun i => if b = i then x else 0) n = x
  | 0, h => absurd h (by omega)
  | n + 1, h => by
    unfold gSm
    by_cases hb : b = n
    · subst hb
      rw [gSm_congr (g := fun _ => 0) (fun i hi => if_neg (by omega)), gSm_0, if_pos rfl]
      simp
    · rw [gSm_one (by omega), if_neg hb]
      simp
/-- a sum along a list, line by line -/
theorem gLS_lines {f : Nat → Int32} {lnf : Nat → Nat} {nl : Nat} : ∀ {w : List Nat}, (∀ v ∈ w, lnf v < nl) → gLS f w = gSm (fun i => gLS f (w.filter (fun v => lnf v == i))) nl
  | [], _ => by
    simp only [List.filter_nil, gLS]
    exact (gSm_0 nl).symm
  | a :: w, h => by
    have h1 := gLS_lines (f := f) (w := w) fun v hv => h v (List.mem_cons_of_mem _ hv)
    have h2 : (fun i => gLS f ((a :: w).filter (fun v => lnf v == i))) = fun i => (if lnf a = i then f a else 0) + gLS f (w.filter (fun v => lnf v == i)) := by
      funext i
      by_cases hi : lnf a = i
      · rw [List.filter_cons_of_pos (by simpa using hi), if_pos hi]
        rfl
      · rw [List.filter_cons_of_neg (by simpa using hi), if_neg hi]
        simp
    rw [h2, gSm_add, gSm_one (h a List.mem_cons_self), ← h1]
    rfl
/-- what is left of a line behind a chain -/
def gRr (f l : Int32) (vrf vda vam : Nat → Int32) : List Nat → Int32 → Int32
  | [], rest => rest
  | a :: w, rest => gRr f l vrf vda vam w (rest - gEl f l (vrf a) (vda a) (vam a) rest)
theorem gRr_app (f l : Int32) (vrf vda vam : Nat → Int32) (x : Nat) : ∀ w R, gRr f l vrf vda vam (w ++ [x]) R = gRr f l vrf vda vam w R - gEl f l (vrf x) (vda x) (vam x) (gRr f l vrf vda vam w R)
  | [], R => rfl
  | a :: w, R => gRr_app f l vrf vda vam x w _
theorem gRk_app (f l : Int32) (vrf vda vam : Nat → Int32) (x : Nat) : ∀ w R el, gRk f l vrf vda vam (w ++ [x]) R el = va_up (gRk f l vrf vda vam w R el) x (gEl f l (vrf x) (vda x) (vam x) (gRr f l vrf vda vam w R))
  | [], R, el => rfl
  | a :: w, R, el => gRk_app f l vrf vda vam x w _ _
theorem gRk_ne (f l : Int32) (vrf vda vam : Nat → Int32) {y : Nat} : ∀ {w R el}, y ∉ w → gRk f l vrf vda vam w R el y = el y
  | [], R, el, _ => rfl
  | a :: w, R, el, h => by
    have h1 : y ≠ a := fun e => h (e ▸ List.mem_cons_self)
    unfold gRk
    rw [gRk_ne f l vrf vda vam (fun hm => h (List.mem_cons_of_mem _ hm)), va_up_ne _ _ h1]
theorem gRk_congr {f l : Int32} {vrf vda vam vrf' vda' vam' : Nat → Int32} : ∀ {w R el}, (∀ a ∈ w, vrf a = vrf' a ∧ vda a = vda' a ∧ vam a = vam' a) → gRk f l vrf vda vam w R el = gRk f l vrf' vda' vam' w R el
  | [], _, _, _ => rfl
  | a :: w, R, el, h => by
    obtain ⟨h1, h2, h3⟩ := h a List.mem_cons_self
    unfold gRk
    rw [h1, h2, h3]
    exact gRk_congr fun b hb => h b (List.mem_cons_of_mem _ hb)
theorem gRk_el {f l : Int32} {vrf vda vam : Nat → Int32} {y : Nat} : ∀ {w R el el'}, y ∈ w → gRk f l vrf vda vam w R el y = gRk f l vrf vda vam w R el' y
  | a :: w, R, el, el', h => by
    unfold gRk
    by_cases hy : y ∈ w
    · exact gRk_el hy
    · rw [gRk_ne f l vrf vda vam hy, gRk_ne f l vrf vda vam hy]
      rcases List.mem_cons.mp h with rfl | h1
      · rw [va_up_self, va_up_self]
      · exact absurd h1 hy
theorem gI32 {x : Int32} : -2147483648 ≤ x.toInt ∧ x.toInt ≤ 2147483647 := ⟨x.le_toInt, by have := x.toInt_lt; omega⟩
theorem gI_add {x y : Int32} (h1 : -2147483648 ≤ x.toInt + y.toInt) (h2 : x.toInt + y.toInt ≤ 2147483647) : (x + y).toInt = x.toInt + y.toInt := by
  rw [Int32.toInt_add, Int.bmod_eq_of_le (by omega) (by omega)]
theorem gI_sub {x y : Int32} (h1 : -2147483648 ≤ x.toInt - y.toInt) (h2 : x.toInt - y.toInt ≤ 2147483647) : (x - y).toInt = x.toInt - y.toInt := by
  rw [Int32.toInt_sub, Int.bmod_eq_of_le (by omega) (by omega)]
theorem gEl_b {f l rf d am R : Int32} (hR : 0 ≤ R.toInt) (ha : 1 ≤ am.toInt) : 0 ≤ (gEl f l rf d am R).toInt ∧ (gEl f l rf d am R).toInt ≤ R.toInt := by
  unfold gEl
  by_cases h1 : gAcc f l rf d = 0
  · rw [if_pos h1]; exact ⟨Int.le_refl _, hR⟩
  · rw [if_neg h1]
    by_cases h2 : R < am
    · rw [if_pos h2]; omega
    · rw [if_neg h2]
      rw [Int32.lt_iff_toInt_lt] at h2
      omega
theorem gEl_X {f l rf d am R : Int32} (hR : 0 ≤ R.toInt) : gXl (gAcc f l rf d) am (gMo R) = gEl f l rf d am R := by
  have h0 : gMo R = R := by
    unfold gMo
    rw [if_pos (Int32.le_iff_toInt_le.mpr (show (0 : Int32).toInt ≤ R.toInt from hR))]
  rw [h0]
  unfold gXl gEl
  by_cases h1 : gAcc f l rf d = 0
  · rw [if_pos h1, if_pos h1]
  · rw [if_neg h1, if_neg h1]
    by_cases h2 : R < am
    · rw [if_pos h2, if_pos (Int32.le_of_lt h2)]
    · rw [if_neg h2]
      by_cases h3 : R ≤ am
      · rw [if_pos h3]
        exact Int32.le_antisymm h3 (Int32.not_lt.mp h2)
      · rw [if_neg h3]
theorem gRr_b {f l : Int32} {vrf vda vam : Nat → Int32} : ∀ {w : List Nat} {R : Int32}, 0 ≤ R.toInt → (∀ a ∈ w, 1 ≤ (vam a).toInt) → 0 ≤ (gRr f l vrf vda vam w R).toInt ∧ (gRr f l vrf vda vam w R).toInt ≤ R.toInt
  | [], R, h, _ => ⟨h, Int.le_refl _⟩
  | a :: w, R, h, h2 => by
    have h3 := gEl_b (f := f) (l := l) (rf := vrf a) (d := vda a) h (h2 a List.mem_cons_self)
    have h5 := @gI32 R
    have h4 : (R - gEl f l (vrf a) (vda a) (vam a) R).toInt = _ := gI_sub (by omega) (by omega)
    have h6 := gRr_b (f := f) (l := l) (vrf := vrf) (vda := vda) (vam := vam) (w := w) (R := R - gEl f l (vrf a) (vda a) (vam a) R) (by omega) (fun b hb => h2 b (List.mem_cons_of_mem _ hb))
    unfold gRr
    omega
/-- a part of what a chain takes lies between none and what there is -/
theorem gRk_b {f l : Int32} {vrf vda vam : Nat → Int32} {P : Nat → Bool} : ∀ {w : List Nat} {R : Int32} {el : Nat → Int32}, w.Nodup → 0 ≤ R.toInt → (∀ a ∈ w, 1 ≤ (vam a).toInt) → 0 ≤ (gLS (fun v => if P v then gRk f l vrf vda vam w R el v else 0) w).toInt ∧ (gLS (fun v => if P v then gRk f l vrf vda vam w R el v else 0) w).toInt ≤ R.toInt
  | [], R, _, _, h, _ => ⟨Int.le_refl _, h⟩
  | a :: w, R, el, hn, h, h2 => by
    have hn2 := List.nodup_cons.mp hn
    have h3 := gEl_b (f := f) (l := l) (rf := vrf a) (d := vda a) h (h2 a List.mem_cons_self)
    have h5 := @gI32 R
    have h4 : (R - gEl f l (vrf a) (vda a) (vam a) R).toInt = _ := gI_sub (by omega) (by omega)
    have h6 := gRk_b (f := f) (l := l) (vrf := vrf) (vda := vda) (vam := vam) (P := P) (w := w) (R := R - gEl f l (vrf a) (vda a) (vam a) R) (el := va_up el a (gEl f l (vrf a) (vda a) (vam a) R)) hn2.2 (by omega) (fun b hb => h2 b (List.mem_cons_of_mem _ hb))
    simp only [gRk, gLS]
    rw [gRk_ne f l vrf vda vam hn2.1, va_up_self]
    cases P a with
    | false =>
      simp only [Bool.false_eq_true, if_false]
      rw [gI_add (by show _ ≤ (0 : Int) + _; omega) (by show (0 : Int) + _ ≤ _; omega)]
      show 0 ≤ (0 : Int) + _ ∧ (0 : Int) + _ ≤ _
      omega
    | true =>
      simp only [if_true]
      rw [gI_add (by omega) (by omega)]
      omega
theorem gRk_sum {f l : Int32} {vrf vda vam : Nat → Int32} : ∀ {w : List Nat} {R : Int32} {el : Nat → Int32}, w.Nodup → gLS (gRk f l vrf vda vam w R el) w = R - gRr f l vrf vda vam w R
  | [], R, _, _ => by simp [gLS, gRr]
  | a :: w, R, el, hn => by
    have hn2 := List.nodup_cons.mp hn
    simp only [gRk, gLS, gRr]
    rw [gRk_ne f l vrf vda vam hn2.1, va_up_self, gRk_sum hn2.2]
    grind
/-- a line's part of the order, its first k gone through -/
def gCk (lnf orf : Nat → Nat) (i k : Nat) : List Nat := ((List.range k).map orf).filter (fun v => lnf v == i)
theorem gCk_s (lnf orf : Nat → Nat) (i k : Nat) : gCk lnf orf i (k + 1) = gCk lnf orf i k ++ if lnf (orf k) = i then [orf k] else [] := by
  unfold gCk
  rw [List.range_succ, List.map_append, List.filter_append]
  by_cases h : lnf (orf k) = i
  · rw [if_pos h]; simp [h]
  · rw [if_neg h]; simp [h]
theorem gCk_m {lnf orf : Nat → Nat} {i k v : Nat} : v ∈ gCk lnf orf i k ↔ (∃ j, j < k ∧ orf j = v) ∧ lnf v = i := by
  unfold gCk
  rw [List.mem_filter, List.mem_map]
  simp
/-- by lines: what the reference lays is what each chain lays -/
theorem gLy_ch {rm am rfd dya f l : Nat → Int32} {lnf orf va : Nat → Nat} {vrf vda vam : Nat → Int32} {nl nv : Nat}
    (ho : ∀ k, k < nv → orf k < nv) (hl : ∀ j, j < nv → lnf j < nl)
    (hv : ∀ j, j < nv → vda (va j) = dya j ∧ vam (va j) = am j ∧ vrf (va j) = rfd j)
    (hj : ∀ i j, i < nv → j < nv → va i = va j → i = j)
    (hR : ∀ i, i < nl → 0 ≤ (rm i).toInt) (hA : ∀ j, j < nv → 1 ≤ (am j).toInt) :
    ∀ k, k ≤ nv → ∀ i, i < nl → gRr (f i) (l i) vrf vda vam ((gCk lnf orf i k).map va) (rm i) = rm i - (gLy rm (fun v => gAcc (f (lnf v)) (l (lnf v)) (rfd v) (dya v)) lnf am orf (fun _ => 0) (fun _ => 0) k).2 i ∧ ∀ v, v ∈ gCk lnf orf i k → ∀ el0, gRk (f i) (l i) vrf vda vam ((gCk lnf orf i k).map va) (rm i) el0 (va v) = (gLy rm (fun v => gAcc (f (lnf v)) (l (lnf v)) (rfd v) (dya v)) lnf am orf (fun _ => 0) (fun _ => 0) k).1 v
  | 0, _, i, hi => ⟨by simp [gCk, gRr, gLy], fun v hm => by simp [gCk] at hm⟩
  | k + 1, hk, i, hi => by
    obtain ⟨h1, h2⟩ := gLy_ch (f := f) (l := l) ho hl hv hj hR hA k (by omega) i hi
    have hok := ho k (by omega)
    have hmem : ∀ v, v ∈ gCk lnf orf i k → v < nv := fun v hm => by
      obtain ⟨⟨j, hj1, rfl⟩, -⟩ := gCk_m.mp hm
      exact ho j (by omega)
    obtain ⟨hv1, hv2, hv3⟩ := hv _ hok
    rw [gCk_s]
    generalize hG : gLy rm (fun v => gAcc (f (lnf v)) (l (lnf v)) (rfd v) (dya v)) lnf am orf (fun _ => 0) (fun _ => 0) k = G at h1 h2
    have hG2 : gLy rm (fun v => gAcc (f (lnf v)) (l (lnf v)) (rfd v) (dya v)) lnf am orf (fun _ => 0) (fun _ => 0) (k + 1) = gLs rm (fun v => gAcc (f (lnf v)) (l (lnf v)) (rfd v) (dya v)) lnf am (orf k) G := by rw [← hG]; rfl
    rw [hG2]
    by_cases h : lnf (orf k) = i
    · subst h
      have hb := gRr_b (f := f (lnf (orf k))) (l := l (lnf (orf k))) (vrf := vrf) (vda := vda) (vam := vam) (w := (gCk lnf orf (lnf (orf k)) k).map va) (R := rm (lnf (orf k))) (hR _ hi) (fun a ha => by
        obtain ⟨v, hv9, rfl⟩ := List.mem_map.mp ha
        rw [(hv v (hmem v hv9)).2.1]
        exact hA v (hmem v hv9))
      rw [h1] at hb
      have hX := gEl_X (f := f (lnf (orf k))) (l := l (lnf (orf k))) (rf := rfd (orf k)) (d := dya (orf k)) (am := am (orf k)) hb.1
      rw [if_pos rfl, List.map_append, List.map_cons, List.map_nil]
      constructor
      · rw [gRr_app, h1, hv1, hv2, hv3, ← hX]
        simp only [gLs, va_up_self]
        grind
      · intro v hm el0
        rw [gRk_app, h1, hv1, hv2, hv3, ← hX]
        simp only [gLs]
        by_cases he : v = orf k
        · subst he
          rw [va_up_self, va_up_self]
        · have hm2 : v ∈ gCk lnf orf (lnf (orf k)) k := by
            rcases List.mem_append.mp hm with h9 | h9
            · exact h9
            · exact absurd (List.mem_singleton.mp h9) he
          rw [va_up_ne _ _ he, va_up_ne _ _ (fun e => he (hj _ _ (hmem v hm2) hok e)), h2 v hm2]
    · rw [if_neg h, List.append_nil]
      constructor
      · rw [h1]
        simp only [gLs]
        rw [va_up_ne _ _ (fun e => h e.symm)]
      · intro v hm el0
        rw [h2 v hm]
        simp only [gLs]
        rw [va_up_ne _ _ (fun e => h (by rw [← e]; exact (gCk_m.mp hm).2))]
/-- a sum of a sorted chain's front -/
theorem gSu_0 {vel vda : Nat → Int32} {d : Int32} {w : List Nat} {s : Int32} : gSu vel vda d w s = s + gSu vel vda d w 0 := by
  induction w generalizing s with
  | nil => simp [gSu]
  | cons a w ih =>
    unfold gSu
    by_cases h : d < vda a
    · rw [if_pos h, if_pos h]; simp
    · rw [if_neg h, if_neg h, ih, ih (s := 0 + vel a)]
      grind
theorem gLS_0 {f : Nat → Int32} : ∀ {w : List Nat}, (∀ a ∈ w, f a = 0) → gLS f w = 0
  | [], _ => rfl
  | a :: w, h => by
    unfold gLS
    rw [h a List.mem_cons_self, gLS_0 fun b hb => h b (List.mem_cons_of_mem _ hb)]
    rfl
theorem gSu_LS {vel vda el dya : Nat → Int32} {va : Nat → Nat} {d : Int32} : ∀ {w : List Nat}, (∀ v ∈ w, vel (va v) = el v ∧ vda (va v) = dya v) → w.Pairwise (fun a b => dya a ≤ dya b) → gSu vel vda d (w.map va) 0 = gLS (fun v => if d < dya v then 0 else el v) w
  | [], _, _ => rfl
  | a :: w, h, hp => by
    obtain ⟨h1, h2⟩ := h a List.mem_cons_self
    have hp2 := List.pairwise_cons.mp hp
    simp only [List.map_cons, gSu, gLS]
    rw [h2]
    by_cases hd : d < dya a
    · rw [if_pos hd, if_pos hd, gLS_0 (fun b hb => if_pos (Int32.lt_of_lt_of_le hd (hp2.1 b hb)))]
      rfl
    · rw [if_neg hd, if_neg hd, gSu_0, h1, gSu_LS (fun v hv => h v (List.mem_cons_of_mem _ hv)) hp2.2]
      simp
theorem gZs_le {f : Nat → Int32} {c : Int} : ∀ {n : Nat}, (∀ i, i < n → (f i).toInt ≤ c) → gZs f n ≤ c * n
  | 0, _ => by simp [gZs]
  | n + 1, h => by
    have h1 := gZs_le (f := f) (c := c) (n := n) fun i hi => h i (by omega)
    have h2 := h n (by omega)
    unfold gZs
    have h3 : c * ((n + 1 : Nat) : Int) = c * n + c := by rw [Int.natCast_add, Int.mul_add]; simp
    omega
theorem gZs_nn {f : Nat → Int32} : ∀ {n : Nat}, (∀ i, i < n → 0 ≤ (f i).toInt) → 0 ≤ gZs f n
  | 0, _ => Int.le_refl _
  | n + 1, h => by
    have h1 := gZs_nn (f := f) (n := n) fun i hi => h i (by omega)
    have h2 := h n (by omega)
    unfold gZs
    omega
theorem gZs_mem {f : Nat → Int32} : ∀ {n : Nat}, (∀ i, i < n → 0 ≤ (f i).toInt) → ∀ i, i < n → (f i).toInt ≤ gZs f n
  | 0, _, i, hi => absurd hi (by omega)
  | n + 1, h, i, hi => by
    have h0 := gZs_nn (f := f) (n := n) fun i hi => h i (by omega)
    have h2 := h n (by omega)
    unfold gZs
    by_cases he : i = n
    · subst he; omega
    · have h1 := gZs_mem (f := f) (n := n) (fun i hi => h i (by omega)) i (by omega)
      omega
theorem gZs_congr {f g : Nat → Int32} : ∀ {n : Nat}, (∀ i, i < n → f i = g i) → gZs f n = gZs g n
  | 0, _ => rfl
  | n + 1, h => by
    unfold gZs
    rw [h n (by omega), gZs_congr fun i hi => h i (by omega)]
theorem gZs_up {f : Nat → Int32} {b : Nat} {x : Int32} : ∀ {n : Nat}, b < n → gZs (va_up f b x) n = gZs f n - (f b).toInt + x.toInt
  | 0, h => absurd h (by omega)
  | n + 1, h => by
    unfold gZs
    by_cases he : b = n
    · subst he
      rw [va_up_self, gZs_congr (g := f) (fun i hi => va_up_ne _ _ (by omega))]
      omega
    · rw [gZs_up (by omega), va_up_ne _ _ (by omega)]
      omega
theorem gM_rm {gr sh rt ce : Int32} {nl nv : Nat} {am : Int32} {nc : Nat} {cd : Int32} {bud fsd las isB mto maw lno dya amo rfd ord cpa : Nat → Int32} {lnf orf : Nat → Nat} (hM : gMI gr sh rt ce nl nv am nc cd bud fsd las isB mto maw lno dya amo rfd ord cpa lnf orf) : ∀ i, i < nl → (bud i + mto i - maw i).toInt = (bud i).toInt + (mto i).toInt - (maw i).toInt ∧ 0 ≤ (bud i + mto i - maw i).toInt ∧ (mto i).toInt ≤ 12000000 := by
  obtain ⟨⟨hn1, -, -⟩, -, -, -, -, -, hb, ⟨-, hz⟩, -⟩ := hM
  intro i hi
  have h1 := gZs_mem (f := mto) (n := nl) (fun j hj => (hb j hj).2.2.2.2) i hi
  have h2 := gZs_le (f := maw) (c := 1000000) (n := nl) (fun j hj => by have := hb j hj; omega)
  have h3 := hb i hi
  have h4 : (1000000 : Int) * (nl : Int) ≤ 12000000 := by omega
  have h5 : (bud i + mto i).toInt = (bud i).toInt + (mto i).toInt := gI_add (by omega) (by omega)
  have h6 : (bud i + mto i - maw i).toInt = (bud i + mto i).toInt - (maw i).toInt := gI_sub (by omega) (by omega)
  omega
theorem gM_zrm {gr sh rt ce : Int32} {nl nv : Nat} {am : Int32} {nc : Nat} {cd : Int32} {bud fsd las isB mto maw lno dya amo rfd ord cpa : Nat → Int32} {lnf orf : Nat → Nat} (hM : gMI gr sh rt ce nl nv am nc cd bud fsd las isB mto maw lno dya amo rfd ord cpa lnf orf) : gZs (fun l => bud l + mto l - maw l) nl ≤ 120000000 := by
  have hr := gM_rm hM
  obtain ⟨⟨hn1, -, -⟩, -, -, -, -, -, hb, ⟨-, hz⟩, -⟩ := hM
  have h1 : ∀ n, n ≤ nl → gZs (fun l => bud l + mto l - maw l) n = gZs bud n + gZs mto n - gZs maw n := by
    intro n
    induction n with
    | zero => intro _; rfl
    | succ n ih =>
      intro hn
      have := (hr n (by omega)).1
      have h9 := ih (by omega)
      simp only [gZs]
      omega
  have h2 := gZs_le (f := bud) (c := 10000000) (n := nl) (fun j hj => (hb j hj).2.1)
  have h3 := h1 nl (Nat.le_refl _)
  omega
theorem gM_perm {gr sh rt ce : Int32} {nl nv : Nat} {am : Int32} {nc : Nat} {cd : Int32} {bud fsd las isB mto maw lno dya amo rfd ord cpa : Nat → Int32} {lnf orf : Nat → Nat} (hM : gMI gr sh rt ce nl nv am nc cd bud fsd las isB mto maw lno dya amo rfd ord cpa lnf orf) : ((List.range nv).map orf).Perm (List.range nv) := by
  obtain ⟨-, -, -, h, -⟩ := hM
  refine gPerm_range nv _ (by simp) (fun v hv => ?_)
  obtain ⟨k, hk, rfl⟩ := h v hv
  exact List.mem_map.mpr ⟨k, List.mem_range.mpr hk, rfl⟩
theorem gM_nd {gr sh rt ce : Int32} {nl nv : Nat} {am : Int32} {nc : Nat} {cd : Int32} {bud fsd las isB mto maw lno dya amo rfd ord cpa : Nat → Int32} {lnf orf : Nat → Nat} (hM : gMI gr sh rt ce nl nv am nc cd bud fsd las isB mto maw lno dya amo rfd ord cpa lnf orf) (i : Nat) : (gCk lnf orf i nv).Nodup := by
  have h : ((List.range nv).map orf).Nodup := (gM_perm hM).nodup_iff.mpr List.nodup_range
  unfold List.Nodup at h ⊢
  exact List.Pairwise.filter _ h
theorem gM_so {gr sh rt ce : Int32} {nl nv : Nat} {am : Int32} {nc : Nat} {cd : Int32} {bud fsd las isB mto maw lno dya amo rfd ord cpa : Nat → Int32} {lnf orf : Nat → Nat} (hM : gMI gr sh rt ce nl nv am nc cd bud fsd las isB mto maw lno dya amo rfd ord cpa lnf orf) (i : Nat) : (gCk lnf orf i nv).Pairwise (fun a b => dya a ≤ dya b) := by
  obtain ⟨-, -, -, -, h, -⟩ := hM
  refine List.Pairwise.filter _ ?_
  rw [List.pairwise_map]
  refine List.Pairwise.imp_of_mem (fun {a b} ha hb hab => ?_) List.pairwise_lt_range
  exact h a b hab (List.mem_range.mp hb)
theorem gM_cm {gr sh rt ce : Int32} {nl nv : Nat} {am : Int32} {nc : Nat} {cd : Int32} {bud fsd las isB mto maw lno dya amo rfd ord cpa : Nat → Int32} {lnf orf : Nat → Nat} (hM : gMI gr sh rt ce nl nv am nc cd bud fsd las isB mto maw lno dya amo rfd ord cpa lnf orf) {v : Nat} : v < nv → v ∈ gCk lnf orf (lnf v) nv := by
  intro hv
  obtain ⟨k, hk, he⟩ := hM.2.2.2.1 v hv
  exact gCk_m.mpr ⟨⟨k, hk, he⟩, rfl⟩
theorem gM_cl {gr sh rt ce : Int32} {nl nv : Nat} {am : Int32} {nc : Nat} {cd : Int32} {bud fsd las isB mto maw lno dya amo rfd ord cpa : Nat → Int32} {lnf orf : Nat → Nat} (hM : gMI gr sh rt ce nl nv am nc cd bud fsd las isB mto maw lno dya amo rfd ord cpa lnf orf) {v i : Nat} (h : v ∈ gCk lnf orf i nv) : v < nv := by
  obtain ⟨⟨k, hk, rfl⟩, -⟩ := gCk_m.mp h
  exact (hM.2.2.1 k hk).2
theorem gM_ndv {gr sh rt ce : Int32} {nl nv : Nat} {am : Int32} {nc : Nat} {cd : Int32} {bud fsd las isB mto maw lno dya amo rfd ord cpa : Nat → Int32} {lnf orf : Nat → Nat} (hM : gMI gr sh rt ce nl nv am nc cd bud fsd las isB mto maw lno dya amo rfd ord cpa lnf orf) {va : Nat → Nat} (hj : ∀ i j, i < nv → j < nv → va i = va j → i = j) (i : Nat) : ((gCk lnf orf i nv).map va).Nodup := by
  have h := gM_nd hM i
  unfold List.Nodup at h ⊢
  rw [List.pairwise_map]
  exact List.Pairwise.imp_of_mem (fun {a b} ha hb hab e => hab (hj a b (gM_cl hM ha) (gM_cl hM hb) e)) h
/-- what the class lays along a line's chain is what the reference lays -/
theorem gM_el {gr sh rt ce : Int32} {nl nv : Nat} {am : Int32} {nc : Nat} {cd : Int32} {bud fsd las isB mto maw lno dya amo rfd ord cpa : Nat → Int32} {lnf orf : Nat → Nat} (hM : gMI gr sh rt ce nl nv am nc cd bud fsd las isB mto maw lno dya amo rfd ord cpa lnf orf) {va : Nat → Nat} (hj : ∀ i j, i < nv → j < nv → va i = va j → i = j) {vrf vda vam : Nat → Int32} (hv : ∀ j, j < nv → vda (va j) = dya j ∧ vam (va j) = amo j ∧ vrf (va j) = rfd j) {v : Nat} (h : v < nv) (el0 : Nat → Int32) : gRk (fsd (lnf v)) (las (lnf v)) vrf vda vam ((gCk lnf orf (lnf v) nv).map va) (bud (lnf v) + mto (lnf v) - maw (lnf v)) el0 (va v) = (gEL (fun l => bud l + mto l - maw l) (fun v => gAcc (fsd (lnf v)) (las (lnf v)) (rfd v) (dya v)) lnf amo orf nv) v := by
  have hr := gM_rm hM
  have hcm := gM_cm hM h
  obtain ⟨-, hl, ho, -, -, -, -, -, ha, -⟩ := hM
  exact (gLy_ch (rm := (fun l => bud l + mto l - maw l)) (f := fsd) (l := las) (fun k hk => (ho k hk).2) (fun j hj => (hl j hj).2) hv hj (fun i hi => (hr i hi).2.1) (fun j hj => (ha j hj).1) nv (Nat.le_refl _) (lnf v) (hl v h).2).2 v hcm el0
theorem gM_us {gr sh rt ce : Int32} {nl nv : Nat} {am : Int32} {nc : Nat} {cd : Int32} {bud fsd las isB mto maw lno dya amo rfd ord cpa : Nat → Int32} {lnf orf : Nat → Nat} (hM : gMI gr sh rt ce nl nv am nc cd bud fsd las isB mto maw lno dya amo rfd ord cpa lnf orf) {va : Nat → Nat} (hj : ∀ i j, i < nv → j < nv → va i = va j → i = j) {vrf vda vam : Nat → Int32} (hv : ∀ j, j < nv → vda (va j) = dya j ∧ vam (va j) = amo j ∧ vrf (va j) = rfd j) {i : Nat} (h : i < nl) : (gUS (fun l => bud l + mto l - maw l) (fun v => gAcc (fsd (lnf v)) (las (lnf v)) (rfd v) (dya v)) lnf amo orf nv) i = gLS (gEL (fun l => bud l + mto l - maw l) (fun v => gAcc (fsd (lnf v)) (las (lnf v)) (rfd v) (dya v)) lnf amo orf nv) (gCk lnf orf i nv) := by
  have hr := gM_rm hM
  have h1 : ∀ v, v ∈ gCk lnf orf i nv → gRk (fsd i) (las i) vrf vda vam ((gCk lnf orf i nv).map va) (bud i + mto i - maw i) (fun _ => 0) (va v) = (gEL (fun l => bud l + mto l - maw l) (fun v => gAcc (fsd (lnf v)) (las (lnf v)) (rfd v) (dya v)) lnf amo orf nv) v := fun v hm => by
    have := gM_el hM hj hv (gM_cl hM hm) (fun _ => 0)
    rwa [(gCk_m.mp hm).2] at this
  have hnd := gM_ndv hM hj i
  obtain ⟨-, hl, ho, -, -, -, -, -, ha, -⟩ := hM
  have h2 := (gLy_ch (rm := (fun l => bud l + mto l - maw l)) (f := fsd) (l := las) (fun k hk => (ho k hk).2) (fun j hj => (hl j hj).2) hv hj (fun i hi => (hr i hi).2.1) (fun j hj => (ha j hj).1) nv (Nat.le_refl _) i h).1
  have h3 := gRk_sum (f := fsd i) (l := las i) (vrf := vrf) (vda := vda) (vam := vam) (R := bud i + mto i - maw i) (el := fun _ => 0) hnd
  rw [gLS_map, gLS_congr h1] at h3
  rw [h3]
  show (gLy (fun l => bud l + mto l - maw l) (fun v => gAcc (fsd (lnf v)) (las (lnf v)) (rfd v) (dya v)) lnf amo orf (fun _ => 0) (fun _ => 0) nv).2 i = _
  rw [h2]
  grind
/-- the sum over the vouchers, line by line -/
theorem gM_sum {gr sh rt ce : Int32} {nl nv : Nat} {am : Int32} {nc : Nat} {cd : Int32} {bud fsd las isB mto maw lno dya amo rfd ord cpa : Nat → Int32} {lnf orf : Nat → Nat} (hM : gMI gr sh rt ce nl nv am nc cd bud fsd las isB mto maw lno dya amo rfd ord cpa lnf orf) (g : Nat → Int32) : gSm g nv = gSm (fun i => gLS g (gCk lnf orf i nv)) nl := by
  rw [← gLS_range, ← gLS_perm (gM_perm hM)]
  refine gLS_lines (fun v hv => ?_)
  obtain ⟨k, hk, rfl⟩ := List.mem_map.mp hv
  exact (hM.2.1 _ (hM.2.2.1 k (List.mem_range.mp hk)).2).2
theorem gSa_12 {lrow : Nat → Option Nat} {bas vel vda : Nat → Int32} {ch : Nat → List Nat} {d z : Int32} {la : Nat → Nat} {nl : Nat} (h1 : ∀ i, i < nl → lrow i = some (la i)) (h2 : ∀ i, nl ≤ i → lrow i = none) : ∀ k, gSa lrow bas vel vda ch d z k = gSm (fun i => if bas (la i) = 0 ∧ ¬ z = 0 then 0 else gSu vel vda d (ch (la i)) 0) (min k nl)
  | 0 => by simp [gSa, gSm]
  | k + 1 => by
    have ih := gSa_12 (bas := bas) (vel := vel) (vda := vda) (ch := ch) (d := d) (z := z) h1 h2 k
    unfold gSa
    by_cases hk : k < nl
    · rw [h1 k hk, show min (k + 1) nl = min k nl + 1 by omega]
      simp only [gSm]
      rw [← ih, show min k nl = k by omega]
      split <;> simp
    · rw [h2 k (by omega), show min (k + 1) nl = min k nl by omega, ← ih]
theorem gT_sa {gr sh rt ce : Int32} {nl nv : Nat} {am : Int32} {nc : Nat} {cd : Int32} {bud fsd las isB mto maw lno dya amo rfd ord cpa : Nat → Int32} {lnf orf : Nat → Nat} {lrow vrow : Nat → Option Nat} {pia : Int32} {Lc : List Nat} {Kc : Nat → Nat} {budc fsdc lasc basc mvic mvac : Nat → Int32} {earc vlnc : Nat → Option Nat} {vdac vamc vrfc velc : Nat → Int32} {vnxc : Nat → Option Nat} {ch : Nat → List Nat} {la va : Nat → Nat} (hM : gMI gr sh rt ce nl nv am nc cd bud fsd las isB mto maw lno dya amo rfd ord cpa lnf orf) (hOK : gOK Lc Kc lrow vrow earc vlnc vnxc ch) (hC : gCR Lc Kc nl nv nc bud fsd las isB mto maw dya amo rfd cpa lnf orf lrow vrow pia budc fsdc lasc basc mvic mvac vlnc vdac vamc vrfc velc ch la va) (d z : Int32) : gSa lrow basc velc vdac ch d z 12 = gSm (gCx dya isB (gEL (fun l => bud l + mto l - maw l) (fun v => gAcc (fsd (lnf v)) (las (lnf v)) (rfd v) (dya v)) lnf amo orf nv) lnf d z) nv := by
  rw [gM_sum hM, gSa_12 hC.1.1 hC.1.2, show min 12 nl = nl from by have := hM.1.1; omega]
  refine gSm_congr (fun i hi => ?_)
  obtain ⟨-, -, -, hc1, hc2, hc3, -⟩ := hC
  rw [(hc1 i hi).2.2.2.1, hc3 i hi]
  have h1 := gSu_LS (vel := velc) (vda := vdac) (el := (gEL (fun l => bud l + mto l - maw l) (fun v => gAcc (fsd (lnf v)) (las (lnf v)) (rfd v) (dya v)) lnf amo orf nv)) (dya := dya) (va := va) (d := d) (w := gCk lnf orf i nv) (fun v hv => ⟨(hc2 v (gM_cl hM hv)).2.2.2.2, (hc2 v (gM_cl hM hv)).2.1⟩) (gM_so hM i)
  by_cases hz : z = 0
  · rw [if_neg (fun h => h.2 hz)]
    refine h1.trans (gLS_congr fun v hv => ?_)
    unfold gCx
    rw [if_pos hz]
  · by_cases hb : isB i = 0
    · rw [if_pos ⟨hb, hz⟩]
      refine (gLS_0 fun v hv => ?_).symm
      unfold gCx
      rw [(gCk_m.mp hv).2, if_neg hz, if_pos hb]
      split <;> rfl
    · rw [if_neg (fun h => hb h.1)]
      refine h1.trans (gLS_congr fun v hv => ?_)
      unfold gCx
      rw [(gCk_m.mp hv).2, if_neg hz, if_neg hb]
theorem gSm_b {F R : Nat → Int32} : ∀ {n : Nat}, (∀ i, i < n → 0 ≤ (F i).toInt ∧ (F i).toInt ≤ (R i).toInt) → gZs R n ≤ 2147483647 → 0 ≤ (gSm F n).toInt ∧ (gSm F n).toInt ≤ gZs R n
  | 0, _, _ => ⟨Int.le_refl _, Int.le_refl _⟩
  | n + 1, h, hz => by
    have h2 := h n (by omega)
    unfold gZs at hz
    have h1 := gSm_b (F := F) (R := R) (n := n) (fun i hi => h i (by omega)) (by omega)
    unfold gZs gSm
    rw [gI_add (by omega) (by omega)]
    omega
theorem gT_cx {gr sh rt ce : Int32} {nl nv : Nat} {am : Int32} {nc : Nat} {cd : Int32} {bud fsd las isB mto maw lno dya amo rfd ord cpa : Nat → Int32} {lnf orf : Nat → Nat} {lrow vrow : Nat → Option Nat} {pia : Int32} {Lc : List Nat} {Kc : Nat → Nat} {budc fsdc lasc basc mvic mvac : Nat → Int32} {earc vlnc : Nat → Option Nat} {vdac vamc vrfc velc : Nat → Int32} {vnxc : Nat → Option Nat} {ch : Nat → List Nat} {la va : Nat → Nat} (hM : gMI gr sh rt ce nl nv am nc cd bud fsd las isB mto maw lno dya amo rfd ord cpa lnf orf) (hOK : gOK Lc Kc lrow vrow earc vlnc vnxc ch) (hC : gCR Lc Kc nl nv nc bud fsd las isB mto maw dya amo rfd cpa lnf orf lrow vrow pia budc fsdc lasc basc mvic mvac vlnc vdac vamc vrfc velc ch la va) (d z : Int32) : 0 ≤ (gSm (gCx dya isB (gEL (fun l => bud l + mto l - maw l) (fun v => gAcc (fsd (lnf v)) (las (lnf v)) (rfd v) (dya v)) lnf amo orf nv) lnf d z) nv).toInt ∧ (gSm (gCx dya isB (gEL (fun l => bud l + mto l - maw l) (fun v => gAcc (fsd (lnf v)) (las (lnf v)) (rfd v) (dya v)) lnf amo orf nv) lnf d z) nv).toInt ≤ 120000000 := by
  have hz := gM_zrm hM
  have hr := gM_rm hM
  rw [gM_sum hM]
  have hj := hC.2.2.1.2
  have hv : ∀ j, j < nv → vdac (va j) = dya j ∧ vamc (va j) = amo j ∧ vrfc (va j) = rfd j := fun j hj => by
    have := hC.2.2.2.2.1 j hj
    exact ⟨this.2.1, this.2.2.1, this.2.2.2.1⟩
  have h := gSm_b (F := fun i => gLS (gCx dya isB (gEL (fun l => bud l + mto l - maw l) (fun v => gAcc (fsd (lnf v)) (las (lnf v)) (rfd v) (dya v)) lnf amo orf nv) lnf d z) (gCk lnf orf i nv)) (R := (fun l => bud l + mto l - maw l)) (n := nl) (fun i hi => ?_) (by omega)
  · omega
  · have h1 := gRk_b (f := fsd i) (l := las i) (vrf := vrfc) (vda := vdac) (vam := vamc) (P := fun y => decide (¬ d < vdac y ∧ (z = 0 ∨ ¬ isB i = 0))) (R := bud i + mto i - maw i) (el := fun _ => 0) (gM_ndv hM hj i) (hr i hi).2.1 (fun a ha => by
      obtain ⟨v, hm, rfl⟩ := List.mem_map.mp ha
      rw [(hv v (gM_cl hM hm)).2.1]
      exact (hM.2.2.2.2.2.2.2.2.1 v (gM_cl hM hm)).1)
    rw [gLS_map] at h1
    refine (gLS_congr fun v hm => ?_) ▸ h1
    have h2 := gM_el hM hj hv (gM_cl hM hm) (fun _ => 0)
    rw [(gCk_m.mp hm).2] at h2
    simp only [h2, (hv v (gM_cl hM hm)).1]
    unfold gCx
    rw [(gCk_m.mp hm).2]
    by_cases c1 : d < dya v
    · simp [c1]
    · by_cases c2 : z = 0
      · simp [c1, c2]
      · by_cases c3 : isB i = 0
        · simp [c1, c2, c3]
        · simp [c1, c2, c3]
theorem gI64 {x : Int64} : -9223372036854775808 ≤ x.toInt ∧ x.toInt ≤ 9223372036854775807 := ⟨x.le_toInt, by have := x.toInt_lt; omega⟩
theorem gJ_add {x y : Int64} (h1 : -9223372036854775808 ≤ x.toInt + y.toInt) (h2 : x.toInt + y.toInt ≤ 9223372036854775807) : (x + y).toInt = x.toInt + y.toInt := by
  rw [Int64.toInt_add, Int.bmod_eq_of_le (by omega) (by omega)]
theorem gJ_sub {x y : Int64} (h1 : -9223372036854775808 ≤ x.toInt - y.toInt) (h2 : x.toInt - y.toInt ≤ 9223372036854775807) : (x - y).toInt = x.toInt - y.toInt := by
  rw [Int64.toInt_sub, Int.bmod_eq_of_le (by omega) (by omega)]
theorem gJ_mul {x y : Int64} (h1 : -9223372036854775808 ≤ x.toInt * y.toInt) (h2 : x.toInt * y.toInt ≤ 9223372036854775807) : (x * y).toInt = x.toInt * y.toInt := by
  rw [Int64.toInt_mul, Int.bmod_eq_of_le (by omega) (by omega)]
theorem gJ_div {x y : Int64} (h1 : 0 ≤ x.toInt) (h2 : 1 ≤ y.toInt) : (x / y).toInt = x.toInt / y.toInt := by
  have h3 : x.toInt / y.toInt ≤ x.toInt := Int.ediv_le_self _ h1
  have h4 : 0 ≤ x.toInt / y.toInt := Int.ediv_nonneg h1 (by omega)
  have h5 := @gI64 x
  rw [Int64.toInt_div, Int.tdiv_eq_ediv_of_nonneg h1, Int.bmod_eq_of_le (by omega) (by omega)]
theorem gJ_of {x : Int32} : x.toInt64.toInt = x.toInt := Int32.toInt_toInt64 x
theorem gJ_to {x : Int64} (h1 : -2147483648 ≤ x.toInt) (h2 : x.toInt ≤ 2147483647) : x.toInt32.toInt = x.toInt := by
  rw [Int64.toInt_toInt32, Int.bmod_eq_of_le (by omega) (by omega)]
theorem gJ_oi (x : Int32) : x.toInt64.toInt32 = x := by
  apply Int32.toInt_inj.mp
  rw [gJ_to (by rw [gJ_of]; exact (@gI32 x).1) (by rw [gJ_of]; exact (@gI32 x).2), gJ_of]
theorem gOvw (rt ce x : Int32) : gOv rt ce x = gOw rt ce x := by
  unfold gOv gOw
  by_cases h : ce.toInt64 < rt.toInt64 * x.toInt64 / 100
  · rw [if_pos h, if_neg (Int64.not_le.mpr h), gJ_oi]
  · rw [if_neg h, if_pos (Int64.not_lt.mp h)]
theorem gMulB {a b m n : Int} (h1 : 0 ≤ a) (h2 : a ≤ m) (h3 : 0 ≤ b) (h4 : b ≤ n) : 0 ≤ a * b ∧ a * b ≤ m * n :=
  ⟨Int.mul_nonneg h1 h3, Int.le_trans (Int.mul_le_mul_of_nonneg_right h2 h3) (Int.mul_le_mul_of_nonneg_left h4 (by omega))⟩
theorem gOw_b {rt ce x : Int32} (h1 : 0 ≤ rt.toInt ∧ rt.toInt ≤ 100) (h2 : 0 ≤ ce.toInt ∧ ce.toInt ≤ 100000000) (h3 : 0 ≤ x.toInt ∧ x.toInt ≤ 120000000) : 0 ≤ (gOw rt ce x).toInt ∧ (gOw rt ce x).toInt ≤ 100000000 := by
  have hm := gMulB h1.1 h1.2 h3.1 h3.2
  have e1 : (rt.toInt64 * x.toInt64).toInt = rt.toInt * x.toInt := by
    rw [gJ_mul (by rw [gJ_of, gJ_of]; omega) (by rw [gJ_of, gJ_of]; omega), gJ_of, gJ_of]
  have e2 : (rt.toInt64 * x.toInt64 / 100).toInt = rt.toInt * x.toInt / 100 := by
    rw [gJ_div (by omega) (by decide), e1]
    rfl
  unfold gOw
  by_cases h : rt.toInt64 * x.toInt64 / 100 ≤ ce.toInt64
  · rw [if_pos h]
    rw [Int64.le_iff_toInt_le, gJ_of, e2] at h
    rw [gJ_to (by omega) (by omega), e2]
    omega
  · rw [if_neg h]
    exact h2
theorem gEbU {sh gr a b : Int32} (h1 : 1 ≤ sh.toInt ∧ sh.toInt ≤ 100) (h2 : 0 ≤ gr.toInt ∧ gr.toInt ≤ 100000000) (ha : 0 ≤ a.toInt ∧ a.toInt ≤ 120000000) (hb : 0 ≤ b.toInt ∧ b.toInt ≤ 100000000) : gEb sh gr a b = (gUb sh gr a b).toInt64 ∧ 0 ≤ (gUb sh gr a b).toInt ∧ (gUb sh gr a b).toInt ≤ 100000000 := by
  have hab : (a + b).toInt = a.toInt + b.toInt := gI_add (by omega) (by omega)
  have hab2 : (a + b).toInt64 = a.toInt64 + b.toInt64 := by
    apply Int64.toInt_inj.mp
    rw [gJ_of, hab, gJ_add (by rw [gJ_of, gJ_of]; omega) (by rw [gJ_of, gJ_of]; omega), gJ_of, gJ_of]
  have hm := gMulB (a := sh.toInt) (b := (a + b).toInt) (m := 100) (n := 220000000) (by omega) (by omega) (by omega) (by omega)
  have e1 : (sh.toInt64 * (a + b).toInt64).toInt = sh.toInt * (a + b).toInt := by
    rw [gJ_mul (by rw [gJ_of, gJ_of]; omega) (by rw [gJ_of, gJ_of]; omega), gJ_of, gJ_of]
  have e2 : (sh.toInt64 * (a + b).toInt64 / 100).toInt = sh.toInt * (a + b).toInt / 100 := by
    rw [gJ_div (by omega) (by decide), e1]
    rfl
  have e3 : gEb sh gr a b = if gr.toInt64 < sh.toInt64 * (a + b).toInt64 / 100 then gr.toInt64 else sh.toInt64 * (a + b).toInt64 / 100 := by
    unfold gEb
    rw [← hab2, Int64.mul_comm (a + b).toInt64 sh.toInt64]
  rw [e3]
  unfold gUb
  by_cases h : gr.toInt64 < sh.toInt64 * (a + b).toInt64 / 100
  · rw [if_pos h, if_neg (Int64.not_le.mpr h)]
    exact ⟨rfl, h2⟩
  · rw [if_neg h, if_pos (Int64.not_lt.mp h)]
    rw [Int64.lt_iff_toInt_lt, gJ_of, e2] at h
    have e4 := gJ_to (x := sh.toInt64 * (a + b).toInt64 / 100) (by omega) (by omega)
    refine ⟨?_, by omega, by omega⟩
    apply Int64.toInt_inj.mp
    rw [gJ_of, e4]
theorem gShD {sh : Int32} (h1 : 1 ≤ sh.toInt ∧ sh.toInt ≤ 100) : (100 - sh).toInt = 100 - sh.toInt :=
  gI_sub (x := 100) (by show (-2147483648 : Int) ≤ 100 - sh.toInt; omega) (by show (100 : Int) - sh.toInt ≤ 2147483647; omega)
theorem gEaT {sh am x : Int32} (h1 : 1 ≤ sh.toInt ∧ sh.toInt ≤ 100) : gEa sh am x.toInt64 = gEt sh am x := by
  have hd := gShD h1
  unfold gEa gEt
  by_cases h : sh = 100
  · subst h
    rw [if_pos (by decide), if_pos rfl, gJ_oi]
  · have h100 : sh.toInt ≠ 100 := fun e => h (Int32.toInt_inj.mp e)
    rw [if_neg (by rw [Int32.le_iff_toInt_le, hd]; show ¬ (_ ≤ (0 : Int)); omega), if_neg h]
    by_cases h3 : am.toInt64 * sh.toInt64 / (100 - sh).toInt64 < x.toInt64
    · rw [if_pos h3, if_neg (Int64.not_le.mpr h3)]
    · rw [if_neg h3, if_pos (Int64.not_lt.mp h3), gJ_oi]
theorem gMmS {sh am x : Int32} (h1 : 1 ≤ sh.toInt ∧ sh.toInt ≤ 100) (h2 : 0 ≤ am.toInt ∧ am.toInt ≤ 100000000) (h3 : 0 ≤ x.toInt ∧ x.toInt ≤ 100000000) : gMm sh am x.toInt64 = gMs sh am x := by
  have hd := gShD h1
  have hm := gMulB (a := x.toInt) (b := 100 - sh.toInt) (m := 100000000) (n := 100) (by omega) (by omega) (by omega) (by omega)
  have e0 : (x.toInt64 * (100 - sh).toInt64).toInt = x.toInt * (100 - sh.toInt) := by
    rw [gJ_mul (by rw [gJ_of, gJ_of, hd]; omega) (by rw [gJ_of, gJ_of, hd]; omega), gJ_of, gJ_of, hd]
  have e1 : (x.toInt64 * (100 - sh).toInt64 + sh.toInt64).toInt = x.toInt * (100 - sh.toInt) + sh.toInt := by
    rw [gJ_add (by rw [e0, gJ_of]; omega) (by rw [e0, gJ_of]; omega), e0, gJ_of]
  have e2 : (x.toInt64 * (100 - sh).toInt64 + sh.toInt64 - 1).toInt = x.toInt * (100 - sh.toInt) + sh.toInt - 1 := by
    have h1' : (1 : Int64).toInt = 1 := rfl
    rw [gJ_sub (by rw [e1, h1']; omega) (by rw [e1, h1']; omega), e1, h1']
  have e3 : ((x.toInt64 * (100 - sh).toInt64 + sh.toInt64 - 1) / sh.toInt64).toInt = (x.toInt * (100 - sh.toInt) + sh.toInt - 1) / sh.toInt := by
    rw [gJ_div (by omega) (by rw [gJ_of]; omega), e2, gJ_of]
  have b1 : 0 ≤ (x.toInt * (100 - sh.toInt) + sh.toInt - 1) / sh.toInt := Int.ediv_nonneg (by omega) (by omega)
  have b2 : (x.toInt * (100 - sh.toInt) + sh.toInt - 1) / sh.toInt ≤ x.toInt * (100 - sh.toInt) + sh.toInt - 1 := Int.ediv_le_self _ (by omega)
  have hL : gLm sh x.toInt64 = (x.toInt64 * (100 - sh).toInt64 + sh.toInt64 - 1) / sh.toInt64 := by
    unfold gLm
    rw [if_neg (by rw [Int32.le_iff_toInt_le]; show ¬ (_ ≤ (0 : Int)); omega)]
  unfold gMm gMs
  rw [hL]
  generalize (x.toInt64 * (100 - sh).toInt64 + sh.toInt64 - 1) / sh.toInt64 = Y at e3 ⊢
  have e4 : (Y - am.toInt64).toInt = Y.toInt - am.toInt := by
    rw [gJ_sub (by rw [gJ_of]; omega) (by rw [gJ_of]; omega), gJ_of]
  by_cases h : Y ≤ am.toInt64
  · rw [if_pos h, if_neg (by rw [Int64.lt_iff_toInt_lt, e4]; rw [Int64.le_iff_toInt_le, gJ_of] at h; show ¬ ((0 : Int) < _); omega)]
    rfl
  · rw [if_neg h, if_pos (by rw [Int64.lt_iff_toInt_lt, e4]; rw [Int64.le_iff_toInt_le, gJ_of] at h; show (0 : Int) < _; omega)]
/-- the four amounts at a day -/
theorem gT_ow {gr sh rt ce : Int32} {nl nv : Nat} {am : Int32} {nc : Nat} {cd : Int32} {bud fsd las isB mto maw lno dya amo rfd ord cpa : Nat → Int32} {lnf orf : Nat → Nat} {lrow vrow : Nat → Option Nat} {pia : Int32} {Lc : List Nat} {Kc : Nat → Nat} {budc fsdc lasc basc mvic mvac : Nat → Int32} {earc vlnc : Nat → Option Nat} {vdac vamc vrfc velc : Nat → Int32} {vnxc : Nat → Option Nat} {ch : Nat → List Nat} {la va : Nat → Nat} (hM : gMI gr sh rt ce nl nv am nc cd bud fsd las isB mto maw lno dya amo rfd ord cpa lnf orf) (hOK : gOK Lc Kc lrow vrow earc vlnc vnxc ch) (hC : gCR Lc Kc nl nv nc bud fsd las isB mto maw dya amo rfd cpa lnf orf lrow vrow pia budc fsdc lasc basc mvic mvac vlnc vdac vamc vrfc velc ch la va) (d : Int32) : gOv rt ce (gSa lrow basc velc vdac ch d 1 12) = (gOw rt ce (gSm (gCx dya isB (gEL (fun l => bud l + mto l - maw l) (fun v => gAcc (fsd (lnf v)) (las (lnf v)) (rfd v) (dya v)) lnf amo orf nv) lnf d 1) nv)) := by
  rw [gT_sa hM hOK hC, gOvw]
theorem gT_eb {gr sh rt ce : Int32} {nl nv : Nat} {am : Int32} {nc : Nat} {cd : Int32} {bud fsd las isB mto maw lno dya amo rfd ord cpa : Nat → Int32} {lnf orf : Nat → Nat} {lrow vrow : Nat → Option Nat} {pia : Int32} {Lc : List Nat} {Kc : Nat → Nat} {budc fsdc lasc basc mvic mvac : Nat → Int32} {earc vlnc : Nat → Option Nat} {vdac vamc vrfc velc : Nat → Int32} {vnxc : Nat → Option Nat} {ch : Nat → List Nat} {la va : Nat → Nat} (hM : gMI gr sh rt ce nl nv am nc cd bud fsd las isB mto maw lno dya amo rfd ord cpa lnf orf) (hOK : gOK Lc Kc lrow vrow earc vlnc vnxc ch) (hC : gCR Lc Kc nl nv nc bud fsd las isB mto maw dya amo rfd cpa lnf orf lrow vrow pia budc fsdc lasc basc mvic mvac vlnc vdac vamc vrfc velc ch la va) (d : Int32) : gEb sh gr (gSa lrow basc velc vdac ch d 0 12) (gOv rt ce (gSa lrow basc velc vdac ch d 1 12)) = ((gUb sh gr (gSm (gCx dya isB (gEL (fun l => bud l + mto l - maw l) (fun v => gAcc (fsd (lnf v)) (las (lnf v)) (rfd v) (dya v)) lnf amo orf nv) lnf d 0) nv) (gOw rt ce (gSm (gCx dya isB (gEL (fun l => bud l + mto l - maw l) (fun v => gAcc (fsd (lnf v)) (las (lnf v)) (rfd v) (dya v)) lnf amo orf nv) lnf d 1) nv)))).toInt64 ∧ 0 ≤ ((gUb sh gr (gSm (gCx dya isB (gEL (fun l => bud l + mto l - maw l) (fun v => gAcc (fsd (lnf v)) (las (lnf v)) (rfd v) (dya v)) lnf amo orf nv) lnf d 0) nv) (gOw rt ce (gSm (gCx dya isB (gEL (fun l => bud l + mto l - maw l) (fun v => gAcc (fsd (lnf v)) (las (lnf v)) (rfd v) (dya v)) lnf amo orf nv) lnf d 1) nv)))).toInt ∧ ((gUb sh gr (gSm (gCx dya isB (gEL (fun l => bud l + mto l - maw l) (fun v => gAcc (fsd (lnf v)) (las (lnf v)) (rfd v) (dya v)) lnf amo orf nv) lnf d 0) nv) (gOw rt ce (gSm (gCx dya isB (gEL (fun l => bud l + mto l - maw l) (fun v => gAcc (fsd (lnf v)) (las (lnf v)) (rfd v) (dya v)) lnf amo orf nv) lnf d 1) nv)))).toInt ≤ 100000000 := by
  rw [gT_ow hM hOK hC, gT_sa hM hOK hC]
  obtain ⟨h1, h2, h3, h4, -⟩ := hM.2.2.2.2.2.2.2.2.2
  exact gEbU h2 h1 (gT_cx hM hOK hC d 0) (gOw_b h3 h4 (gT_cx hM hOK hC d 1))
theorem gT_ea {gr sh rt ce : Int32} {nl nv : Nat} {am : Int32} {nc : Nat} {cd : Int32} {bud fsd las isB mto maw lno dya amo rfd ord cpa : Nat → Int32} {lnf orf : Nat → Nat} {lrow vrow : Nat → Option Nat} {pia : Int32} {Lc : List Nat} {Kc : Nat → Nat} {budc fsdc lasc basc mvic mvac : Nat → Int32} {earc vlnc : Nat → Option Nat} {vdac vamc vrfc velc : Nat → Int32} {vnxc : Nat → Option Nat} {ch : Nat → List Nat} {la va : Nat → Nat} (hM : gMI gr sh rt ce nl nv am nc cd bud fsd las isB mto maw lno dya amo rfd ord cpa lnf orf) (hOK : gOK Lc Kc lrow vrow earc vlnc vnxc ch) (hC : gCR Lc Kc nl nv nc bud fsd las isB mto maw dya amo rfd cpa lnf orf lrow vrow pia budc fsdc lasc basc mvic mvac vlnc vdac vamc vrfc velc ch la va) (d : Int32) : gEa sh am (gEb sh gr (gSa lrow basc velc vdac ch d 0 12) (gOv rt ce (gSa lrow basc velc vdac ch d 1 12))) = (gEt sh am (gUb sh gr (gSm (gCx dya isB (gEL (fun l => bud l + mto l - maw l) (fun v => gAcc (fsd (lnf v)) (las (lnf v)) (rfd v) (dya v)) lnf amo orf nv) lnf d 0) nv) (gOw rt ce (gSm (gCx dya isB (gEL (fun l => bud l + mto l - maw l) (fun v => gAcc (fsd (lnf v)) (las (lnf v)) (rfd v) (dya v)) lnf amo orf nv) lnf d 1) nv)))) := by
  rw [(gT_eb hM hOK hC d).1]
  exact gEaT hM.2.2.2.2.2.2.2.2.2.2.1
theorem gT_mm {gr sh rt ce : Int32} {nl nv : Nat} {am : Int32} {nc : Nat} {cd : Int32} {bud fsd las isB mto maw lno dya amo rfd ord cpa : Nat → Int32} {lnf orf : Nat → Nat} {lrow vrow : Nat → Option Nat} {pia : Int32} {Lc : List Nat} {Kc : Nat → Nat} {budc fsdc lasc basc mvic mvac : Nat → Int32} {earc vlnc : Nat → Option Nat} {vdac vamc vrfc velc : Nat → Int32} {vnxc : Nat → Option Nat} {ch : Nat → List Nat} {la va : Nat → Nat} (hM : gMI gr sh rt ce nl nv am nc cd bud fsd las isB mto maw lno dya amo rfd ord cpa lnf orf) (hOK : gOK Lc Kc lrow vrow earc vlnc vnxc ch) (hC : gCR Lc Kc nl nv nc bud fsd las isB mto maw dya amo rfd cpa lnf orf lrow vrow pia budc fsdc lasc basc mvic mvac vlnc vdac vamc vrfc velc ch la va) (d : Int32) : gMm sh am (gEb sh gr (gSa lrow basc velc vdac ch d 0 12) (gOv rt ce (gSa lrow basc velc vdac ch d 1 12))) = gMs sh am (gUb sh gr (gSm (gCx dya isB (gEL (fun l => bud l + mto l - maw l) (fun v => gAcc (fsd (lnf v)) (las (lnf v)) (rfd v) (dya v)) lnf amo orf nv) lnf d 0) nv) (gOw rt ce (gSm (gCx dya isB (gEL (fun l => bud l + mto l - maw l) (fun v => gAcc (fsd (lnf v)) (las (lnf v)) (rfd v) (dya v)) lnf amo orf nv) lnf d 1) nv))) := by
  rw [(gT_eb hM hOK hC d).1]
  exact gMmS hM.2.2.2.2.2.2.2.2.2.2.1 hM.2.2.2.2.2.2.2.2.2.2.2.2.2.1 (gT_eb hM hOK hC d).2
theorem gH_l {gr sh rt ce : Int32} {nl nv : Nat} {am : Int32} {nc : Nat} {cd : Int32} {bud fsd las isB mto maw lno dya amo rfd ord cpa : Nat → Int32} {lnf orf : Nat → Nat} {lrow vrow : Nat → Option Nat} {pia : Int32} {Lc : List Nat} {Kc : Nat → Nat} {budc fsdc lasc basc mvic mvac : Nat → Int32} {earc vlnc : Nat → Option Nat} {vdac vamc vrfc velc : Nat → Int32} {vnxc : Nat → Option Nat} {ch : Nat → List Nat} {la va : Nat → Nat} (hM : gMI gr sh rt ce nl nv am nc cd bud fsd las isB mto maw lno dya amo rfd ord cpa lnf orf) (hOK : gOK Lc Kc lrow vrow earc vlnc vnxc ch) (hC : gCR Lc Kc nl nv nc bud fsd las isB mto maw dya amo rfd cpa lnf orf lrow vrow pia budc fsdc lasc basc mvic mvac vlnc vdac vamc vrfc velc ch la va) {k : Int32} {a : Nat} (h : gHas 12 lrow k a) : ∃ i, i < nl ∧ k = nI i ∧ a = la i ∧ gIxn k = i ∧ gNum nl k := by
  obtain ⟨i, hi, rfl, h1⟩ := h
  have h2 : i < nl := by
    by_cases h3 : i < nl
    · exact h3
    · rw [hC.1.2 i (by omega)] at h1; cases h1
  have hn := hM.1.1
  rw [hC.1.1 i h2] at h1
  injection h1 with h1
  exact ⟨i, h2, rfl, h1.symm, nI_clamp (by omega), gNum_nI (by omega) h2⟩
theorem gH_v {gr sh rt ce : Int32} {nl nv : Nat} {am : Int32} {nc : Nat} {cd : Int32} {bud fsd las isB mto maw lno dya amo rfd ord cpa : Nat → Int32} {lnf orf : Nat → Nat} {lrow vrow : Nat → Option Nat} {pia : Int32} {Lc : List Nat} {Kc : Nat → Nat} {budc fsdc lasc basc mvic mvac : Nat → Int32} {earc vlnc : Nat → Option Nat} {vdac vamc vrfc velc : Nat → Int32} {vnxc : Nat → Option Nat} {ch : Nat → List Nat} {la va : Nat → Nat} (hM : gMI gr sh rt ce nl nv am nc cd bud fsd las isB mto maw lno dya amo rfd ord cpa lnf orf) (hOK : gOK Lc Kc lrow vrow earc vlnc vnxc ch) (hC : gCR Lc Kc nl nv nc bud fsd las isB mto maw dya amo rfd cpa lnf orf lrow vrow pia budc fsdc lasc basc mvic mvac vlnc vdac vamc vrfc velc ch la va) {k : Int32} {v : Nat} (h : gHas 100 vrow k v) : ∃ j, j < nv ∧ k = nI j ∧ v = va j ∧ gIxn k = j ∧ gNum nv k := by
  obtain ⟨i, hi, rfl, h1⟩ := h
  have h2 : i < nv := by
    by_cases h3 : i < nv
    · exact h3
    · rw [hC.2.1.2 i (by omega)] at h1; cases h1
  have hn := hM.1.2.1
  rw [hC.2.1.1 i h2] at h1
  injection h1 with h1
  exact ⟨i, h2, rfl, h1.symm, nI_clamp (by omega), gNum_nI (by omega) h2⟩
theorem gN_l {gr sh rt ce : Int32} {nl nv : Nat} {am : Int32} {nc : Nat} {cd : Int32} {bud fsd las isB mto maw lno dya amo rfd ord cpa : Nat → Int32} {lnf orf : Nat → Nat} {lrow vrow : Nat → Option Nat} {pia : Int32} {Lc : List Nat} {Kc : Nat → Nat} {budc fsdc lasc basc mvic mvac : Nat → Int32} {earc vlnc : Nat → Option Nat} {vdac vamc vrfc velc : Nat → Int32} {vnxc : Nat → Option Nat} {ch : Nat → List Nat} {la va : Nat → Nat} (hM : gMI gr sh rt ce nl nv am nc cd bud fsd las isB mto maw lno dya amo rfd ord cpa lnf orf) (hOK : gOK Lc Kc lrow vrow earc vlnc vnxc ch) (hC : gCR Lc Kc nl nv nc bud fsd las isB mto maw dya amo rfd cpa lnf orf lrow vrow pia budc fsdc lasc basc mvic mvac vlnc vdac vamc vrfc velc ch la va) {k : Int32} (h : ¬ ∃ a, gHas 12 lrow k a) : ¬ gNum nl k := by
  intro hn
  obtain ⟨i, hi, rfl⟩ := gNum_of hn
  exact h ⟨la i, i, by have := hM.1.1; omega, rfl, hC.1.1 i hi⟩
theorem gN_v {gr sh rt ce : Int32} {nl nv : Nat} {am : Int32} {nc : Nat} {cd : Int32} {bud fsd las isB mto maw lno dya amo rfd ord cpa : Nat → Int32} {lnf orf : Nat → Nat} {lrow vrow : Nat → Option Nat} {pia : Int32} {Lc : List Nat} {Kc : Nat → Nat} {budc fsdc lasc basc mvic mvac : Nat → Int32} {earc vlnc : Nat → Option Nat} {vdac vamc vrfc velc : Nat → Int32} {vnxc : Nat → Option Nat} {ch : Nat → List Nat} {la va : Nat → Nat} (hM : gMI gr sh rt ce nl nv am nc cd bud fsd las isB mto maw lno dya amo rfd ord cpa lnf orf) (hOK : gOK Lc Kc lrow vrow earc vlnc vnxc ch) (hC : gCR Lc Kc nl nv nc bud fsd las isB mto maw dya amo rfd cpa lnf orf lrow vrow pia budc fsdc lasc basc mvic mvac vlnc vdac vamc vrfc velc ch la va) {k : Int32} (h : ¬ ∃ a, gHas 100 vrow k a) : ¬ gNum nv k := by
  intro hn
  obtain ⟨i, hi, rfl⟩ := gNum_of hn
  exact h ⟨va i, i, by have := hM.1.2.1; omega, rfl, hC.2.1.1 i hi⟩
theorem gIn_i {x lo hi : Int32} (h : gIn x lo hi) : lo.toInt ≤ x.toInt ∧ x.toInt ≤ hi.toInt := ⟨Int32.le_iff_toInt_le.mp h.1, Int32.le_iff_toInt_le.mp h.2⟩
theorem gLy_congr {rm rm' ac ac' amo el us : Nat → Int32} {lnf orf : Nat → Nat} : ∀ {n : Nat}, (∀ k, k < n → rm (lnf (orf k)) = rm' (lnf (orf k)) ∧ ac (orf k) = ac' (orf k)) → gLy rm ac lnf amo orf el us n = gLy rm' ac' lnf amo orf el us n
  | 0, _ => rfl
  | n + 1, h => by
    unfold gLy
    rw [gLy_congr fun k hk => h k (by omega)]
    unfold gLs
    rw [(h n (by omega)).1, (h n (by omega)).2]
theorem gSm_diff {F G : Nat → Int32} {b : Nat} : ∀ {n : Nat}, b < n → (∀ i, i < n → i ≠ b → F i = G i) → gSm F n - gSm G n = F b - G b
  | 0, h, _ => absurd h (by omega)
  | n + 1, h, h2 => by
    unfold gSm
    by_cases he : b = n
    · subst he
      rw [gSm_congr (f := F) (g := G) (fun i hi => h2 i (by omega) (by omega))]
      grind
    · have h3 := gSm_diff (F := F) (G := G) (n := n) (b := b) (by omega) (fun i hi => h2 i (by omega))
      rw [h2 n (by omega) (by omega)]
      grind
theorem gM_rk {gr sh rt ce : Int32} {nl nv : Nat} {am : Int32} {nc : Nat} {cd : Int32} {bud fsd las isB mto maw lno dya amo rfd ord cpa : Nat → Int32} {lnf orf : Nat → Nat} (hM : gMI gr sh rt ce nl nv am nc cd bud fsd las isB mto maw lno dya amo rfd ord cpa lnf orf) {va : Nat → Nat} (hj : ∀ i j, i < nv → j < nv → va i = va j → i = j) {vrf vda vam : Nat → Int32} (hv : ∀ j, j < nv → vda (va j) = dya j ∧ vam (va j) = amo j ∧ vrf (va j) = rfd j) (i : Nat) (el0 : Nat → Int32) {j : Nat} (h : j < nv) : (lnf j = i → gRk (fsd i) (las i) vrf vda vam ((gCk lnf orf i nv).map va) (bud i + mto i - maw i) el0 (va j) = (gEL (fun l => bud l + mto l - maw l) (fun v => gAcc (fsd (lnf v)) (las (lnf v)) (rfd v) (dya v)) lnf amo orf nv) j) ∧ (¬ lnf j = i → gRk (fsd i) (las i) vrf vda vam ((gCk lnf orf i nv).map va) (bud i + mto i - maw i) el0 (va j) = el0 (va j)) := by
  constructor
  · rintro rfl
    exact gM_el hM hj hv h el0
  · intro hn
    refine gRk_ne _ _ _ _ _ (fun hm => ?_)
    obtain ⟨v, hv9, he⟩ := List.mem_map.mp hm
    have := hj v j (gM_cl hM hv9) h he
    subst this
    exact hn (gCk_m.mp hv9).2
theorem gM_e1 {gr sh rt ce : Int32} {nl nv : Nat} {am : Int32} {nc : Nat} {cd : Int32} {bud fsd las isB mto maw lno dya amo rfd ord cpa : Nat → Int32} {lnf orf : Nat → Nat} (hM : gMI gr sh rt ce nl nv am nc cd bud fsd las isB mto maw lno dya amo rfd ord cpa lnf orf) {j : Nat} (h : j < nv) : gRk (fsd (lnf j)) (las (lnf j)) rfd dya amo (gCk lnf orf (lnf j) nv) (bud (lnf j) + mto (lnf j) - maw (lnf j)) (fun _ => 0) j = (gEL (fun l => bud l + mto l - maw l) (fun v => gAcc (fsd (lnf v)) (las (lnf v)) (rfd v) (dya v)) lnf amo orf nv) j := by
  have h1 := gM_el hM (va := fun x => x) (fun _ _ _ _ e => e) (vrf := rfd) (vda := dya) (vam := amo) (fun _ _ => ⟨rfl, rfl, rfl⟩) h (fun _ => 0)
  rwa [List.map_id'] at h1
theorem gT_v {gr sh rt ce : Int32} {nl nv : Nat} {am : Int32} {nc : Nat} {cd : Int32} {bud fsd las isB mto maw lno dya amo rfd ord cpa : Nat → Int32} {lnf orf : Nat → Nat} (hM : gMI gr sh rt ce nl nv am nc cd bud fsd las isB mto maw lno dya amo rfd ord cpa lnf orf) {Lc : List Nat} {Kc : Nat → Nat} {lrow vrow : Nat → Option Nat} {pia : Int32} {budc fsdc lasc basc mvic mvac : Nat → Int32} {vlnc : Nat → Option Nat} {vdac vamc vrfc velc : Nat → Int32} {ch : Nat → List Nat} {la va : Nat → Nat} (hC : gCR Lc Kc nl nv nc bud fsd las isB mto maw dya amo rfd cpa lnf orf lrow vrow pia budc fsdc lasc basc mvic mvac vlnc vdac vamc vrfc velc ch la va) : ∀ j, j < nv → vdac (va j) = dya j ∧ vamc (va j) = amo j ∧ vrfc (va j) = rfd j := fun j hj =>
  ⟨(hC.2.2.2.2.1 j hj).2.1, (hC.2.2.2.2.1 j hj).2.2.1, (hC.2.2.2.2.1 j hj).2.2.2.1⟩
theorem gI_div10 {x : Int32} (h1 : 0 ≤ x.toInt) : (x / 10).toInt = x.toInt / 10 := by
  have h5 := @gI32 x
  have h6 : (10 : Int32).toInt = 10 := rfl
  rw [Int32.toInt_div, h6, Int.tdiv_eq_ediv_of_nonneg h1, Int.bmod_eq_of_le (by omega) (by omega)]
theorem gUpr {α : Type} {f g : Nat → α} {la : Nat → Nat} {i k : Nat} {x x' : α} (hx : x = x') (h : la k = la i → k = i) (h2 : f (la k) = g k) : va_up f (la i) x (la k) = va_up g i x' k := by
  by_cases he : k = i
  · subst he
    rw [va_up_self, va_up_self, hx]
  · rw [va_up_ne _ _ he, va_up_ne _ _ (fun e => he (h e)), h2]
theorem gT_su {gr sh rt ce : Int32} {nl nv : Nat} {am : Int32} {nc : Nat} {cd : Int32} {bud fsd las isB mto maw lno dya amo rfd ord cpa : Nat → Int32} {lnf orf : Nat → Nat} (hM : gMI gr sh rt ce nl nv am nc cd bud fsd las isB mto maw lno dya amo rfd ord cpa lnf orf) {va : Nat → Nat} {vel vda el : Nat → Int32} (h : ∀ v, v < nv → vel (va v) = el v ∧ vda (va v) = dya v) (i : Nat) : gSu vel vda 9999 ((gCk lnf orf i nv).map va) 0 = gLS el (gCk lnf orf i nv) := by
  refine (gSu_LS (el := el) (dya := dya) (fun v hm => h v (gM_cl hM hm)) (gM_so hM i)).trans (gLS_congr fun v hm => if_neg ?_)
  have := (hM.2.2.2.2.2.2.2.2.1 v (gM_cl hM hm)).2.2.2
  rw [Int32.lt_iff_toInt_lt]
  show ¬ ((9999 : Int) < _)
  omega
theorem gT_mk {gr sh rt ce : Int32} {nl nv : Nat} {am : Int32} {nc : Nat} {cd : Int32} {bud fsd las isB mto maw lno dya amo rfd ord cpa : Nat → Int32} {lnf orf : Nat → Nat} {lrow vrow : Nat → Option Nat} {pia : Int32} {Lc : List Nat} {Kc : Nat → Nat} {budc fsdc lasc basc mvic mvac : Nat → Int32} {earc vlnc : Nat → Option Nat} {vdac vamc vrfc velc : Nat → Int32} {vnxc : Nat → Option Nat} {ch : Nat → List Nat} {la va : Nat → Nat} (hM : gMI gr sh rt ce nl nv am nc cd bud fsd las isB mto maw lno dya amo rfd ord cpa lnf orf) (hOK : gOK Lc Kc lrow vrow earc vlnc vnxc ch) (hC : gCR Lc Kc nl nv nc bud fsd las isB mto maw dya amo rfd cpa lnf orf lrow vrow pia budc fsdc lasc basc mvic mvac vlnc vdac vamc vrfc velc ch la va) {j : Nat} (hjn : j < nv) {z : Int32} (hz : z = 0 ∨ z = 1) {el' : Nat → Int32} (he : el' = gRk (fsdc (la (lnf j))) (lasc (la (lnf j))) (va_up vrfc (va j) z) vdac vamc (ch (la (lnf j))) (budc (la (lnf j)) + mvic (la (lnf j)) - mvac (la (lnf j))) velc) :
    gMI gr sh rt ce nl nv am nc cd bud fsd las isB mto maw lno dya amo (va_up rfd j z) ord cpa lnf orf ∧ gSu el' vdac 9999 (ch (la (lnf j))) 0 - gSu velc vdac 9999 (ch (la (lnf j))) 0 = gSm (gEL (fun l => bud l + mto l - maw l) (fun v => gAcc (fsd (lnf v)) (las (lnf v)) ((va_up rfd j z) v) (dya v)) lnf amo orf nv) nv - gSm (gEL (fun l => bud l + mto l - maw l) (fun v => gAcc (fsd (lnf v)) (las (lnf v)) (rfd v) (dya v)) lnf amo orf nv) nv ∧ gCR Lc Kc nl nv nc bud fsd las isB mto maw dya amo (va_up rfd j z) cpa lnf orf lrow vrow pia budc fsdc lasc basc mvic mvac vlnc vdac vamc (va_up vrfc (va j) z) el' ch la va := by
  have hinj := hC.2.2.1.2
  have hv := gT_v hM hC
  have hM2 : gMI gr sh rt ce nl nv am nc cd bud fsd las isB mto maw lno dya amo (va_up rfd j z) ord cpa lnf orf := by
    obtain ⟨m1, m2, m3, m4, m5, ⟨m6, m6'⟩, m7⟩ := hM
    refine ⟨m1, m2, m3, m4, m5, ⟨fun k => ?_, fun k hk => ?_⟩, m7⟩
    · by_cases h : k = j
      · subst h; rw [va_up_self]; exact hz
      · rw [va_up_ne _ _ h]; exact m6 k
    · rw [va_up_ne _ _ (by omega)]; exact m6' k hk
  have hb := (hM.2.1 j hjn).2
  obtain ⟨c1, c2, c3, c4, c5, c6⟩ := hC.2.2.2.1 (lnf j) hb
  have hch : ch (la (lnf j)) = (gCk lnf orf (lnf j) nv).map va := hC.2.2.2.2.2.1 (lnf j) hb
  rw [hch, c1, c2, c3, c5, c6] at he
  have hv2 : ∀ k, k < nv → vdac (va k) = dya k ∧ vamc (va k) = amo k ∧ va_up vrfc (va j) z (va k) = va_up rfd j z k := fun k hk =>
    ⟨(hv k hk).1, (hv k hk).2.1, gUpr rfl (hinj k j hk hjn) (hv k hk).2.2⟩
  have hoth : ∀ k, k < nv → ¬ lnf k = lnf j → (gEL (fun l => bud l + mto l - maw l) (fun v => gAcc (fsd (lnf v)) (las (lnf v)) (rfd v) (dya v)) lnf amo orf nv) k = (gEL (fun l => bud l + mto l - maw l) (fun v => gAcc (fsd (lnf v)) (las (lnf v)) ((va_up rfd j z) v) (dya v)) lnf amo orf nv) k := fun k hk hn => by
    rw [← gM_e1 hM hk, ← gM_e1 hM2 hk]
    refine congrFun (gRk_congr fun v hm => ⟨?_, rfl, rfl⟩) k
    refine (va_up_ne _ _ (fun e => hn ?_)).symm
    rw [← (gCk_m.mp hm).2, e]
  have hel : ∀ k, k < nv → el' (va k) = (gEL (fun l => bud l + mto l - maw l) (fun v => gAcc (fsd (lnf v)) (las (lnf v)) ((va_up rfd j z) v) (dya v)) lnf amo orf nv) k := fun k hk => by
    have hk2 := gM_rk hM2 hinj hv2 (lnf j) velc hk
    rw [← he] at hk2
    by_cases hl : lnf k = lnf j
    · exact hk2.1 hl
    · rw [hk2.2 hl, (hC.2.2.2.2.1 k hk).2.2.2.2]
      exact hoth k hk hl
  refine ⟨hM2, ?_, ?_⟩
  · rw [hch, gT_su hM (el := (gEL (fun l => bud l + mto l - maw l) (fun v => gAcc (fsd (lnf v)) (las (lnf v)) (rfd v) (dya v)) lnf amo orf nv)) (fun v hv9 => ⟨(hC.2.2.2.2.1 v hv9).2.2.2.2, (hv v hv9).1⟩), gT_su hM (el := (gEL (fun l => bud l + mto l - maw l) (fun v => gAcc (fsd (lnf v)) (las (lnf v)) ((va_up rfd j z) v) (dya v)) lnf amo orf nv)) (fun v hv9 => ⟨hel v hv9, (hv v hv9).1⟩), gM_sum hM (gEL (fun l => bud l + mto l - maw l) (fun v => gAcc (fsd (lnf v)) (las (lnf v)) ((va_up rfd j z) v) (dya v)) lnf amo orf nv), gM_sum hM (gEL (fun l => bud l + mto l - maw l) (fun v => gAcc (fsd (lnf v)) (las (lnf v)) (rfd v) (dya v)) lnf amo orf nv)]
    refine (gSm_diff (F := fun i => gLS (gEL (fun l => bud l + mto l - maw l) (fun v => gAcc (fsd (lnf v)) (las (lnf v)) ((va_up rfd j z) v) (dya v)) lnf amo orf nv) (gCk lnf orf i nv)) (G := fun i => gLS (gEL (fun l => bud l + mto l - maw l) (fun v => gAcc (fsd (lnf v)) (las (lnf v)) (rfd v) (dya v)) lnf amo orf nv) (gCk lnf orf i nv)) hb (fun i hi hne => gLS_congr fun v hm => ?_)).symm
    exact (hoth v (gM_cl hM hm) (by rw [(gCk_m.mp hm).2]; exact hne)).symm
  · obtain ⟨d1, d2, d3, d4, d5, d6, d7⟩ := hC
    refine ⟨d1, d2, d3, d4, fun k hk => ?_, d6, d7⟩
    exact ⟨(d5 k hk).1, (hv2 k hk).1, (hv2 k hk).2.1, (hv2 k hk).2.2, hel k hk⟩
theorem gChc {nx nx' : Nat → Option Nat} : ∀ {w : List Nat} {o : Option Nat}, (∀ y ∈ w, nx' y = nx y) → gCh nx o w → gCh nx' o w
  | [], _, _, h => h
  | a :: w, o, h, h2 => ⟨h2.1, by rw [h a List.mem_cons_self]; exact gChc (fun y hy => h y (List.mem_cons_of_mem _ hy)) h2.2⟩
theorem gFr_le {D : Nat → Int32} {d : Int32} : ∀ {w : List Nat}, ∀ a ∈ gFr D d w, D a ≤ d
  | [], a, h => absurd h List.not_mem_nil
  | b :: w, a, h => by
    unfold gFr at h
    by_cases hb : d < D b
    · rw [if_pos hb] at h; exact absurd h List.not_mem_nil
    · rw [if_neg hb] at h
      rcases List.mem_cons.mp h with rfl | h1
      · exact Int32.not_lt.mp hb
      · exact gFr_le a h1
theorem gBk_gt {D : Nat → Int32} {d : Int32} : ∀ {w : List Nat}, w.Pairwise (fun a b => D a ≤ D b) → ∀ a ∈ gBk D d w, d < D a
  | [], _, a, h => absurd h List.not_mem_nil
  | b :: w, hp, a, h => by
    have hp2 := List.pairwise_cons.mp hp
    unfold gBk at h
    by_cases hb : d < D b
    · rw [if_pos hb] at h
      rcases List.mem_cons.mp h with rfl | h1
      · exact hb
      · exact Int32.lt_of_lt_of_le hb (hp2.1 a h1)
    · rw [if_neg hb] at h
      exact gBk_gt hp2.2 a h
theorem gFr_all {D : Nat → Int32} {d : Int32} : ∀ {w : List Nat}, (∀ a ∈ w, D a ≤ d) → gFr D d w = w ∧ gBk D d w = []
  | [], _ => ⟨rfl, rfl⟩
  | b :: w, h => by
    have h1 := gFr_all (D := D) (d := d) (w := w) fun a ha => h a (List.mem_cons_of_mem _ ha)
    have h2 : ¬ d < D b := Int32.not_lt.mpr (h b List.mem_cons_self)
    unfold gFr gBk
    rw [if_neg h2, if_neg h2, h1.1, h1.2]
    exact ⟨rfl, rfl⟩
theorem gFr_none {D : Nat → Int32} {d : Int32} : ∀ {w : List Nat}, (∀ a ∈ w, d < D a) → gFr D d w = [] ∧ gBk D d w = w
  | [], _ => ⟨rfl, rfl⟩
  | b :: w, h => by
    have h2 : d < D b := h b List.mem_cons_self
    unfold gFr gBk
    rw [if_pos h2, if_pos h2]
    exact ⟨rfl, rfl⟩
theorem gFr_snoc {D : Nat → Int32} {d : Int32} {x : Nat} (hx : d < D x) : ∀ (w : List Nat), gFr D d (w ++ [x]) = gFr D d w ∧ gBk D d (w ++ [x]) = gBk D d w ++ [x]
  | [] => by
    simp [gFr, gBk, hx]
  | b :: w => by
    obtain ⟨h1, h2⟩ := gFr_snoc hx w
    simp only [List.cons_append, gFr, gBk]
    rw [h1, h2]
    by_cases hb : d < D b
    · simp [hb]
    · simp [hb]
theorem gFr_filter {D : Nat → Int32} {d : Int32} {P : Nat → Bool} : ∀ {w : List Nat}, w.Pairwise (fun a b => D a ≤ D b) → (gFr D d w).filter P = gFr D d (w.filter P) ∧ (gBk D d w).filter P = gBk D d (w.filter P)
  | [], _ => ⟨rfl, rfl⟩
  | b :: w, hp => by
    have hp2 := List.pairwise_cons.mp hp
    by_cases hb : d < D b
    · have hall : ∀ a ∈ (b :: w).filter P, d < D a := fun a ha => by
        rcases List.mem_cons.mp (List.mem_filter.mp ha).1 with rfl | h1
        · exact hb
        · exact Int32.lt_of_lt_of_le hb (hp2.1 a h1)
      obtain ⟨k1, k2⟩ := gFr_none hall
      rw [k1, k2]
      unfold gFr gBk
      rw [if_pos hb, if_pos hb]
      exact ⟨rfl, rfl⟩
    · obtain ⟨h1, h2⟩ := gFr_filter (P := P) (d := d) hp2.2
      have e1 : ∀ w, gFr D d (b :: w) = b :: gFr D d w := fun w => by
        simp only [gFr]; rw [if_neg hb]
      have e2 : ∀ w, gBk D d (b :: w) = gBk D d w := fun w => by
        simp only [gBk]; rw [if_neg hb]
      cases hP : P b with
      | true => rw [e1, e2, List.filter_cons_of_pos hP, List.filter_cons_of_pos hP, e1, e2, h1, h2]; exact ⟨rfl, rfl⟩
      | false => rw [e1, e2, List.filter_cons_of_neg (by simp [hP]), List.filter_cons_of_neg (by simp [hP]), h1, h2]; exact ⟨rfl, rfl⟩
theorem gFr_map {D V : Nat → Int32} {d : Int32} {va : Nat → Nat} : ∀ {w : List Nat}, (∀ v ∈ w, V (va v) = D v) → gFr V d (w.map va) = (gFr D d w).map va ∧ gBk V d (w.map va) = (gBk D d w).map va
  | [], _ => ⟨rfl, rfl⟩
  | b :: w, h => by
    obtain ⟨h1, h2⟩ := gFr_map (d := d) (w := w) fun v hv => h v (List.mem_cons_of_mem _ hv)
    simp only [List.map_cons, gFr, gBk]
    rw [h b List.mem_cons_self, h1, h2]
    by_cases hb : d < D b
    · simp [hb]
    · simp [hb]
/-- the order with the new one, by numbers -/
def gIn9 (nv : Nat) (D : Nat → Int32) (d : Int32) : Nat → (Nat → Nat) → (Nat → Nat)
  | 0, o => va_up o 0 nv
  | p + 1, o => if D (o p) ≤ d then va_up o (p + 1) nv else gIn9 nv D d p (va_up o (p + 1) (o p))
theorem gIs_in {nv : Nat} {D : Nat → Int32} {d : Int32} : ∀ {p : Nat} {o : Nat → Int32} {on : Nat → Nat}, p ≤ nv → (∀ k, k ≠ p → k ≤ nv → o k = nI (on k) ∧ on k < 2 ^ 31) → ∀ k, k ≤ nv → gIs nv D d p o k = nI (gIn9 nv D d p on k)
  | 0, o, on, hp, h, k, hk => by
    unfold gIs gIn9
    by_cases he : k = 0
    · subst he; rw [va_up_self, va_up_self]
    · rw [va_up_ne _ _ he, va_up_ne _ _ he]
      exact (h k he hk).1
  | p + 1, o, on, hp, h, k, hk => by
    obtain ⟨h1, h2⟩ := h p (by omega) (by omega)
    have h3 : gIxn (o p) = on p := by rw [h1]; exact nI_clamp h2
    unfold gIs gIn9
    rw [h3]
    by_cases hd : D (on p) ≤ d
    · rw [if_pos hd, if_pos hd]
      by_cases he : k = p + 1
      · subst he; rw [va_up_self, va_up_self]
      · rw [va_up_ne _ _ he, va_up_ne _ _ he]
        exact (h k he hk).1
    · rw [if_neg hd, if_neg hd]
      refine gIs_in (by omega) (fun j hj hjn => ?_) k hk
      by_cases he : j = p + 1
      · subst he; rw [va_up_self, va_up_self]; exact ⟨h1, h2⟩
      · rw [va_up_ne _ _ he, va_up_ne _ _ he]
        exact h j he hjn
theorem gIn9_hi {nv : Nat} {D : Nat → Int32} {d : Int32} : ∀ {p : Nat} {o : Nat → Nat} {k : Nat}, p < k → gIn9 nv D d p o k = o k
  | 0, o, k, h => by
    unfold gIn9
    rw [va_up_ne _ _ (by omega)]
  | p + 1, o, k, h => by
    unfold gIn9
    by_cases hd : D (o p) ≤ d
    · rw [if_pos hd, va_up_ne _ _ (by omega)]
    · rw [if_neg hd, gIn9_hi (by omega), va_up_ne _ _ (by omega)]
theorem gMap_up {o : Nat → Nat} {n k x : Nat} (h : n ≤ k) : (List.range n).map (va_up o k x) = (List.range n).map o :=
  List.map_congr_left fun a ha => va_up_ne _ _ (by have := List.mem_range.mp ha; omega)
theorem gIn9_l {nv : Nat} {D : Nat → Int32} {d : Int32} : ∀ {p : Nat} {o : Nat → Nat}, ((List.range p).map o).Pairwise (fun a b => D a ≤ D b) → (List.range (p + 1)).map (gIn9 nv D d p o) = gFr D d ((List.range p).map o) ++ nv :: gBk D d ((List.range p).map o)
  | 0, o, _ => by
    simp [gIn9, gFr, gBk, List.range_succ, va_up_self]
  | p + 1, o, hp => by
    have eR : ∀ (f : Nat → Nat) (n : Nat), (List.range (n + 1)).map f = (List.range n).map f ++ [f n] := fun f n => by
      rw [List.range_succ, List.map_append]; rfl
    rw [eR _ (p + 1)]
    have hp1 := hp
    rw [eR o p] at hp1
    obtain ⟨k1, -, k3⟩ := List.pairwise_append.mp hp1
    unfold gIn9
    by_cases hd : D (o p) ≤ d
    · have hall := gFr_all (D := D) (d := d) (w := (List.range (p + 1)).map o) (fun a ha => by
        rw [eR] at ha
        rcases List.mem_append.mp ha with h9 | h9
        · exact Int32.le_trans (k3 a h9 _ List.mem_cons_self) hd
        · rw [List.mem_singleton.mp h9]; exact hd)
      rw [if_pos hd, va_up_self, gMap_up (by omega), hall.1, hall.2]
    · rw [if_neg hd, gIn9_hi (by omega), va_up_self]
      have ih := gIn9_l (nv := nv) (d := d) (p := p) (o := va_up o (p + 1) (o p)) (by rw [gMap_up (by omega)]; exact k1)
      rw [gMap_up (by omega)] at ih
      rw [ih]
      obtain ⟨f1, f2⟩ := gFr_snoc (d := d) (Int32.not_le.mp hd) ((List.range p).map o)
      rw [eR o p, f1, f2]
      simp
theorem gSp_M {gr sh rt ce : Int32} {nl nv : Nat} {am : Int32} {nc : Nat} {cd : Int32} {bud fsd las isB mto maw lno dya amo rfd ord cpa : Nat → Int32} {lnf orf : Nat → Nat} (hM : gMI gr sh rt ce nl nv am nc cd bud fsd las isB mto maw lno dya amo rfd ord cpa lnf orf) {i : Nat} (hi : i < nl) {p1 p2 : Int32} (h1 : gIn p1 0 9999) (h2 : gIn p2 1 10000000) (hn : nv < 100) : gMI gr sh rt ce nl (nv + 1) am nc cd bud fsd las isB mto maw (va_up lno nv (nI i)) (va_up dya nv p1) (va_up amo nv p2) rfd (gIs nv (va_up dya nv p1) p1 nv ord) cpa (va_up lnf nv i) (gIn9 nv (va_up dya nv p1) p1 nv orf) ∧ (List.range (nv + 1)).map (gIn9 nv (va_up dya nv p1) p1 nv orf) = gFr (va_up dya nv p1) p1 ((List.range nv).map orf) ++ nv :: gBk (va_up dya nv p1) p1 ((List.range nv).map orf) := by
  obtain ⟨⟨a1, a2, a3⟩, m2, m3, m4, m5, ⟨m6, m6'⟩, m7, m8, m9, m10⟩ := hM
  have hD : ∀ v, v < nv → va_up dya nv p1 v = dya v := fun v hv => va_up_ne _ _ (by omega)
  have hso : ((List.range nv).map orf).Pairwise (fun a b => va_up dya nv p1 a ≤ va_up dya nv p1 b) := by
    rw [List.pairwise_map]
    refine List.Pairwise.imp_of_mem (fun {a b} ha hb hab => ?_) List.pairwise_lt_range
    rw [hD _ (m3 a (List.mem_range.mp ha)).2, hD _ (m3 b (List.mem_range.mp hb)).2]
    exact m5 a b hab (List.mem_range.mp hb)
  have hl9 := gIn9_l (nv := nv) (d := p1) hso
  have hFB := gFB (va_up dya nv p1) p1 ((List.range nv).map orf)
  refine ⟨?_, hl9⟩
  have hOl : ∀ v, v ∈ (List.range nv).map orf → v < nv := fun v hv => by
    obtain ⟨k, hk, rfl⟩ := List.mem_map.mp hv
    exact (m3 k (List.mem_range.mp hk)).2
  have hmem : ∀ v, v ∈ (List.range (nv + 1)).map (gIn9 nv (va_up dya nv p1) p1 nv orf) ↔ v ∈ (List.range nv).map orf ∨ v = nv := fun v => by
    rw [hl9, ← hFB, List.mem_append, List.mem_append, List.mem_cons, hFB]
    constructor
    · rintro (h | h | h)
      · exact Or.inl (Or.inl h)
      · exact Or.inr h
      · exact Or.inl (Or.inr h)
    · rintro ((h | h) | h)
      · exact Or.inl h
      · exact Or.inr (Or.inr h)
      · exact Or.inr (Or.inl h)
  have pw9 : ((List.range (nv + 1)).map (gIn9 nv (va_up dya nv p1) p1 nv orf)).Pairwise (fun a b => va_up dya nv p1 a ≤ va_up dya nv p1 b) := by
    rw [hl9]
    have hs2 := hso
    rw [← hFB] at hs2
    obtain ⟨x1, x2, x3⟩ := List.pairwise_append.mp hs2
    refine List.pairwise_append.mpr ⟨x1, List.pairwise_cons.mpr ⟨fun b hb => ?_, x2⟩, fun a ha b hb => ?_⟩
    · rw [va_up_self]
      exact Int32.le_of_lt (gBk_gt hso b hb)
    · rcases List.mem_cons.mp hb with rfl | hb
      · rw [va_up_self]
        exact gFr_le a ha
      · exact x3 a ha b hb
  have i1 : (0 : Int) ≤ p1.toInt ∧ p1.toInt ≤ 9999 := gIn_i h1
  have i2 : (1 : Int) ≤ p2.toInt ∧ p2.toInt ≤ 10000000 := gIn_i h2
  refine ⟨⟨a1, hn, a3⟩, fun j hj => ?_, fun k hk => ⟨?_, ?_⟩, fun v hv => ?_, ?_, ⟨m6, fun j hj => m6' j (by omega)⟩, m7, m8, fun j hj => ?_, m10⟩
  · by_cases he : j = nv
    · subst he; rw [va_up_self, va_up_self]; exact ⟨rfl, hi⟩
    · rw [va_up_ne _ _ he, va_up_ne _ _ he]; exact m2 j (by omega)
  · exact gIs_in (Nat.le_refl _) (fun k hk hkn => by have := m3 k (by omega); exact ⟨this.1, by omega⟩) k (by omega)
  · rcases (hmem _).mp (List.mem_map.mpr ⟨k, List.mem_range.mpr hk, rfl⟩) with h | h
    · have := hOl _ h; omega
    · omega
  · have h : v ∈ (List.range nv).map orf ∨ v = nv := by
      by_cases he : v = nv
      · exact Or.inr he
      · obtain ⟨k, hk, e⟩ := m4 v (by omega)
        exact Or.inl (List.mem_map.mpr ⟨k, List.mem_range.mpr hk, e⟩)
    obtain ⟨k, hk, e⟩ := List.mem_map.mp ((hmem v).mpr h)
    exact ⟨k, List.mem_range.mp hk, e⟩
  · intro a b hab hb
    rw [List.pairwise_map, List.pairwise_iff_getElem] at pw9
    have := pw9 a b (by simp; omega) (by simp; omega) hab
    simpa using this
  · by_cases he : j = nv
    · subst he; rw [va_up_self, va_up_self]; exact ⟨i2.1, i2.2, i1.1, i1.2⟩
    · rw [va_up_ne _ _ he, va_up_ne _ _ he]; exact m9 j (by omega)
/-- the chains of the new order -/
theorem gSp_ck {gr sh rt ce : Int32} {nl nv : Nat} {am : Int32} {nc : Nat} {cd : Int32} {bud fsd las isB mto maw lno dya amo rfd ord cpa : Nat → Int32} {lnf orf : Nat → Nat} (hM : gMI gr sh rt ce nl nv am nc cd bud fsd las isB mto maw lno dya amo rfd ord cpa lnf orf) {i : Nat} {p1 : Int32} (hl9 : (List.range (nv + 1)).map (gIn9 nv (va_up dya nv p1) p1 nv orf) = gFr (va_up dya nv p1) p1 ((List.range nv).map orf) ++ nv :: gBk (va_up dya nv p1) p1 ((List.range nv).map orf)) : gCk (va_up lnf nv i) (gIn9 nv (va_up dya nv p1) p1 nv orf) i (nv + 1) = gFr (va_up dya nv p1) p1 (gCk lnf orf i nv) ++ nv :: gBk (va_up dya nv p1) p1 (gCk lnf orf i nv) ∧ ∀ b, ¬ b = i → gCk (va_up lnf nv i) (gIn9 nv (va_up dya nv p1) p1 nv orf) b (nv + 1) = gCk lnf orf b nv := by
  have hso : ((List.range nv).map orf).Pairwise (fun a b => va_up dya nv p1 a ≤ va_up dya nv p1 b) := by
    rw [List.pairwise_map]
    refine List.Pairwise.imp_of_mem (fun {a b} ha hb hab => ?_) List.pairwise_lt_range
    have ha2 := (hM.2.2.1 a (List.mem_range.mp ha)).2
    have hb2 := (hM.2.2.1 b (List.mem_range.mp hb)).2
    rw [va_up_ne _ _ (by omega), va_up_ne _ _ (by omega)]
    exact hM.2.2.2.2.1 a b hab (List.mem_range.mp hb)
  have hOl : ∀ v, v ∈ (List.range nv).map orf → v < nv := fun v hv => by
    obtain ⟨k, hk, rfl⟩ := List.mem_map.mp hv
    exact (hM.2.2.1 k (List.mem_range.mp hk)).2
  have hFB := gFB (va_up dya nv p1) p1 ((List.range nv).map orf)
  have hf : ∀ b, ((List.range nv).map orf).filter (fun v => va_up lnf nv i v == b) = gCk lnf orf b nv := fun b => by
    unfold gCk
    refine List.filter_congr fun v hv => ?_
    rw [va_up_ne _ _ (by have := hOl v hv; omega)]
  constructor
  · obtain ⟨e1, e2⟩ := gFr_filter (P := fun v => va_up lnf nv i v == i) (d := p1) hso
    rw [hf i] at e1 e2
    show ((List.range (nv + 1)).map (gIn9 nv (va_up dya nv p1) p1 nv orf)).filter (fun v => va_up lnf nv i v == i) = _
    rw [hl9, List.filter_append, List.filter_cons_of_pos (by simp [va_up_self]), e1, e2]
  · intro b hb
    show ((List.range (nv + 1)).map (gIn9 nv (va_up dya nv p1) p1 nv orf)).filter (fun v => va_up lnf nv i v == b) = _
    rw [hl9, List.filter_append, List.filter_cons_of_neg (by simp [va_up_self]; exact fun e => hb e.symm), ← List.filter_append, hFB, hf b]
