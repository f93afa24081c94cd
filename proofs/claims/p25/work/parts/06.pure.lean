abbrev gNum (n : Nat) (k : Int32) : Prop := 0 ≤ k ∧ k.toNatClampNeg < n
abbrev gIxn (k : Int32) : Nat := k.toNatClampNeg
theorem gNum_of {n : Nat} {k : Int32} (h : gNum n k) : ∃ i, i < n ∧ k = nI i := by
  obtain ⟨j, hj, rfl⟩ := nI_of (Int32.not_lt.mpr h.1)
  exact ⟨j, by have := h.2; rwa [nI_clamp hj] at this, rfl⟩
theorem gNum_nI {n i : Nat} (hn : n < 2 ^ 31) (h : i < n) : gNum n (nI i) := ⟨nI_pos' (by omega), by rw [nI_clamp (by omega)]; exact h⟩
theorem gIn_num {n : Nat} (hn : n < 2 ^ 31) {k : Int32} : gIn k 0 (nI n - 1) ↔ gNum n k := by
  constructor
  · rintro ⟨h1, h2⟩
    obtain ⟨j, hj, rfl⟩ := nI_of (Int32.not_lt.mpr h1)
    refine ⟨h1, ?_⟩
    rw [nI_clamp hj]
    cases n with
    | zero =>
      exfalso
      have h3 : nI 0 - 1 = -1 := by decide
      rw [h3] at h2
      have h4 := Int32.le_trans h1 h2
      exact absurd h4 (by decide)
    | succ n =>
      rw [nI_pred] at h2
      have := (nI_leI hj (by omega)).mp h2
      omega
  · rintro h
    obtain ⟨i, hi, rfl⟩ := gNum_of h
    refine ⟨h.1, ?_⟩
    cases n with
    | zero => omega
    | succ n => rw [nI_pred]; exact nI_le (by omega) (by omega)
theorem gInc1 (p : Nat) : nI (p + 1) + Int32.ofInt (-1) = nI p := by
  rw [show Int32.ofInt (-1) = -1 from by decide, ← Int32.sub_eq_add_neg, nI_pred]
def gZu (us : Nat → Int32) : Nat → (Nat → Int32)
  | 0 => us
  | i + 1 => va_up (gZu us i) i 0
def gMo (y : Int32) : Int32 := if 0 ≤ y then y else 0
def gXl (ac am most : Int32) : Int32 := if ac = 0 then 0 else if most ≤ am then most else am
def gLs (rm ac : Nat → Int32) (lnf : Nat → Nat) (amo : Nat → Int32) (v : Nat) (p : (Nat → Int32) × (Nat → Int32)) : (Nat → Int32) × (Nat → Int32) :=
  (va_up p.1 v (gXl (ac v) (amo v) (gMo (rm (lnf v) - p.2 (lnf v)))), va_up p.2 (lnf v) (p.2 (lnf v) + gXl (ac v) (amo v) (gMo (rm (lnf v) - p.2 (lnf v)))))
/-- what is eligible of each, and what is used of each line, the first k of the order gone through -/
def gLy (rm ac : Nat → Int32) (lnf : Nat → Nat) (amo : Nat → Int32) (orf : Nat → Nat) (el us : Nat → Int32) : Nat → (Nat → Int32) × (Nat → Int32)
  | 0 => (el, us)
  | k + 1 => gLs rm ac lnf amo (orf k) (gLy rm ac lnf amo orf el us k)
/-- a sum of the first -/
def gSm (f : Nat → Int32) : Nat → Int32
  | 0 => 0
  | i + 1 => gSm f i + f i
def gCx (dya isB el : Nat → Int32) (lnf : Nat → Nat) (d z : Int32) (v : Nat) : Int32 := if d < dya v then 0 else if z = 0 then el v else if isB (lnf v) = 0 then 0 else el v
/-- the order with the new voucher put in, from place p down -/
def gIs (nv : Nat) (dya : Nat → Int32) (d : Int32) : Nat → (Nat → Int32) → (Nat → Int32)
  | 0, o => va_up o 0 (nI nv)
  | p + 1, o => if dya (gIxn (o p)) ≤ d then va_up o (p + 1) (nI nv) else gIs nv dya d p (va_up o (p + 1) (o p))
def gOw (rt ce x : Int32) : Int32 := if rt.toInt64 * x.toInt64 / 100 ≤ ce.toInt64 then (rt.toInt64 * x.toInt64 / 100).toInt32 else ce
def gUb (sh gr a b : Int32) : Int32 := if sh.toInt64 * (a + b).toInt64 / 100 ≤ gr.toInt64 then (sh.toInt64 * (a + b).toInt64 / 100).toInt32 else gr
def gEt (sh am x : Int32) : Int32 := if sh = 100 then x else if x.toInt64 ≤ am.toInt64 * sh.toInt64 / (100 - sh).toInt64 then x else (am.toInt64 * sh.toInt64 / (100 - sh).toInt64).toInt32
def gMs (sh am x : Int32) : Int32 := if (x.toInt64 * (100 - sh).toInt64 + sh.toInt64 - 1) / sh.toInt64 ≤ am.toInt64 then 0 else ((x.toInt64 * (100 - sh).toInt64 + sh.toInt64 - 1) / sh.toInt64 - am.toInt64).toInt32
-- the numbers of the exceptions, 0 where there is none
def cSetGrant (nc : Nat) (p0 p1 p2 p3 : Int32) : Int32 := if gIn p0 0 100000000 ∧ gIn p1 1 100 ∧ gIn p2 0 100 ∧ gIn p3 0 100000000 then (if nc = 0 then 0 else 2) else 1
def cAddLine (nl : Nat) (p0 p1 p2 : Int32) : Int32 := if gIn p0 0 10000000 ∧ gIn p1 0 9999 ∧ gIn p2 p1 9999 then (if nl < 12 then 0 else 2) else 1
def cExtend (nl : Nat) (las : Nat → Int32) (k p1 : Int32) : Int32 := if gNum nl k then (if gIn p1 (las (gIxn k)) 9999 then 0 else 2) else 1
def cMove (nl : Nat) (bud maw : Nat → Int32) (k0 k1 p2 : Int32) : Int32 := if gNum nl k0 ∧ gNum nl k1 then (if gIn p2 1 10000000 ∧ ¬ k0 = k1 then (if maw (gIxn k0) + p2 ≤ bud (gIxn k0) / 10 then 0 else 3) else 2) else 1
def cNum (n : Nat) (k : Int32) : Int32 := if gNum n k then 0 else 1
def cSpend (nl nv : Nat) (k p1 p2 : Int32) : Int32 := if gNum nl k then (if gIn p1 0 9999 ∧ gIn p2 1 10000000 then (if nv < 100 then 0 else 3) else 2) else 1
def cMark (nv : Nat) (rfd : Nat → Int32) (k z : Int32) : Int32 := if gNum nv k then (if ¬ rfd (gIxn k) = z then 0 else 2) else 1
def cMatch (am p : Int32) : Int32 := if gIn p 1 10000000 then (if am + p ≤ 100000000 then 0 else 2) else 1
def cDay (d : Int32) : Int32 := if gIn d 0 9999 then 0 else 1
def cClaim (cd : Int32) (nc : Nat) (d : Int32) : Int32 := if gIn d cd 9999 then (if nc < 40 then 0 else 2) else 1
theorem gAcc_0 {f l rf d : Int32} (h : rf = 0) (h2 : ¬ gIn d f l) : 0 = gAcc f l rf d := by
  unfold gAcc
  rw [if_pos h]
  by_cases h3 : d < f
  · rw [if_pos h3]
  · rw [if_neg h3]
    by_cases h4 : l < d
    · rw [if_pos h4]
    · exact absurd ⟨Int32.not_lt.mp h3, Int32.not_lt.mp h4⟩ h2
theorem gLy_can {rm ac : Nat → Int32} {lnf : Nat → Nat} {amo : Nat → Int32} {orf : Nat → Nat} {nl nv : Nat} (h1 : ∀ j, j < nv → lnf j < nl) (h2 : ∀ k, k < nv → orf k < nv) {el el' us us' : Nat → Int32} (hu : ∀ l, l < nl → us l = us' l) :
    ∀ k, k ≤ nv → (∀ l, l < nl → (gLy rm ac lnf amo orf el us k).2 l = (gLy rm ac lnf amo orf el' us' k).2 l) ∧ ∀ v, (∃ j, j < k ∧ orf j = v) → (gLy rm ac lnf amo orf el us k).1 v = (gLy rm ac lnf amo orf el' us' k).1 v := by
  intro k
  induction k with
  | zero => intro _; exact ⟨hu, fun v h => by obtain ⟨j, hj, -⟩ := h; omega⟩
  | succ k ih =>
    intro hk
    obtain ⟨i1, i2⟩ := ih (by omega)
    have e := i1 (lnf (orf k)) (h1 _ (h2 k (by omega)))
    constructor
    · intro l hl
      show va_up _ _ _ l = va_up _ _ _ l
      by_cases h : l = lnf (orf k)
      · subst h; rw [va_up_self, va_up_self, e]
      · rw [va_up_ne _ _ h, va_up_ne _ _ h]; exact i1 l hl
    · intro v hv
      show va_up _ _ _ v = va_up _ _ _ v
      by_cases h : v = orf k
      · subst h; rw [va_up_self, va_up_self, e]
      · rw [va_up_ne _ _ h, va_up_ne _ _ h]
        obtain ⟨j, hj, hj2⟩ := hv
        exact i2 v ⟨j, by rcases Nat.lt_succ_iff_lt_or_eq.mp hj with q | q; · exact q
                          · exact absurd (by rw [← hj2, q]) h, hj2⟩
theorem gZu_0 (us : Nat → Int32) : ∀ (n l : Nat), l < n → gZu us n l = 0
  | 0, l, h => by omega
  | n + 1, l, h => by
    show va_up (gZu us n) n 0 l = 0
    by_cases e : l = n
    · rw [e, va_up_self]
    · rw [va_up_ne _ _ e]; exact gZu_0 us n l (by omega)
/-- what is eligible of each voucher, and what is used of each line, from nothing -/
def gEL (rm ac : Nat → Int32) (lnf : Nat → Nat) (amo : Nat → Int32) (orf : Nat → Nat) (nv : Nat) : Nat → Int32 := (gLy rm ac lnf amo orf (fun _ => 0) (fun _ => 0) nv).1
def gUS (rm ac : Nat → Int32) (lnf : Nat → Nat) (amo : Nat → Int32) (orf : Nat → Nat) (nv : Nat) : Nat → Int32 := (gLy rm ac lnf amo orf (fun _ => 0) (fun _ => 0) nv).2
theorem gEL_of {rm ac : Nat → Int32} {lnf : Nat → Nat} {amo : Nat → Int32} {orf : Nat → Nat} {nl nv : Nat} {lno ord : Nat → Int32} (h1 : ∀ j, j < nv → lno j = nI (lnf j) ∧ lnf j < nl) (h2 : ∀ k, k < nv → ord k = nI (orf k) ∧ orf k < nv) (h3 : ∀ v, v < nv → ∃ k, k < nv ∧ orf k = v) {el us : Nat → Int32} {v : Nat} (hv : v < nv) : (gLy rm ac lnf amo orf el (gZu us nl) nv).1 v = gEL rm ac lnf amo orf nv v :=
  (gLy_can (fun j hj => (h1 j hj).2) (fun k hk => (h2 k hk).2) (fun l hl => gZu_0 us nl l hl) nv (Nat.le_refl _)).2 v (h3 v hv)
theorem gUS_of {rm ac : Nat → Int32} {lnf : Nat → Nat} {amo : Nat → Int32} {orf : Nat → Nat} {nl nv : Nat} {lno ord : Nat → Int32} (h1 : ∀ j, j < nv → lno j = nI (lnf j) ∧ lnf j < nl) (h2 : ∀ k, k < nv → ord k = nI (orf k) ∧ orf k < nv) {el us : Nat → Int32} {l : Nat} (hl : l < nl) : (gLy rm ac lnf amo orf el (gZu us nl) nv).2 l = gUS rm ac lnf amo orf nv l :=
  (gLy_can (fun j hj => (h1 j hj).2) (fun k hk => (h2 k hk).2) (fun l hl => gZu_0 us nl l hl) nv (Nat.le_refl _)).1 l hl
theorem gSm_congr {f g : Nat → Int32} : ∀ {n : Nat}, (∀ i, i < n → f i = g i) → gSm f n = gSm g n
  | 0, _ => rfl
  | n + 1, h => by
    show gSm f n + f n = gSm g n + g n
    rw [gSm_congr (fun i hi => h i (by omega)), h n (by omega)]
theorem gCT_of {rm ac : Nat → Int32} {lnf : Nat → Nat} {amo : Nat → Int32} {orf : Nat → Nat} {nl nv : Nat} {lno ord : Nat → Int32} (h1 : ∀ j, j < nv → lno j = nI (lnf j) ∧ lnf j < nl) (h2 : ∀ k, k < nv → ord k = nI (orf k) ∧ orf k < nv) (h3 : ∀ v, v < nv → ∃ k, k < nv ∧ orf k = v) {el us dya isB : Nat → Int32} {d z : Int32} : gSm (gCx dya isB (gLy rm ac lnf amo orf el (gZu us nl) nv).1 lnf d z) nv = gSm (gCx dya isB (gEL rm ac lnf amo orf nv) lnf d z) nv :=
  gSm_congr (fun i hi => by unfold gCx; rw [gEL_of h1 h2 h3 hi])
theorem gSE_of {rm ac : Nat → Int32} {lnf : Nat → Nat} {amo : Nat → Int32} {orf : Nat → Nat} {nl nv : Nat} {lno ord : Nat → Int32} (h1 : ∀ j, j < nv → lno j = nI (lnf j) ∧ lnf j < nl) (h2 : ∀ k, k < nv → ord k = nI (orf k) ∧ orf k < nv) (h3 : ∀ v, v < nv → ∃ k, k < nv ∧ orf k = v) {el us : Nat → Int32} : gSm (gLy rm ac lnf amo orf el (gZu us nl) nv).1 nv = gSm (gEL rm ac lnf amo orf nv) nv :=
  gSm_congr (fun i hi => gEL_of h1 h2 h3 hi)
theorem gNz2 {x : Int32} (h : ¬ x = 100) : ¬ (100 - x).toInt64 = 0 := by
  intro h2
  apply h
  have h3 : (100 - x).toInt64.toInt = 0 := by rw [h2]; rfl
  rw [Int32.toInt_toInt64] at h3
  have h4 : 100 - x = 0 := Int32.toInt_inj.mp (by rw [h3]; decide)
  have h5 : 100 - x + x = 0 + x := by rw [h4]
  rw [Int32.sub_add_cancel, Int32.zero_add] at h5
  exact h5.symm
theorem gZc {n : Nat} (h : n ≤ 100) (c : nI n ≤ 0) : n = 0 := by
  rcases Nat.eq_zero_or_pos n with q | q
  · exact q
  · exact absurd c (nI_nle q (by omega))
theorem gZn {n : Nat} (c : ¬ nI n ≤ 0) : ¬ n = 0 := fun h => c (by rw [h]; decide)
theorem gEq {n N : Nat} (hn : n ≤ N) (hN : N < 2 ^ 31) (c : ¬ nI n = nI N) : n < N := Nat.lt_of_le_of_ne hn (fun h => c (by rw [h]))
theorem gNe {n N : Nat} (hn : n ≤ N) (hN : N < 2 ^ 31) (c : nI n = nI N) : ¬ n < N := by
  have := (nI_eq (by omega) hN).mp c
  omega
theorem gAcc_1 {f l rf d : Int32} (h : ¬ gAcc f l rf d = 0) : 1 = gAcc f l rf d := by
  unfold gAcc at h ⊢
  by_cases h1 : rf = 0
  · rw [if_pos h1] at h ⊢
    by_cases h2 : d < f
    · rw [if_pos h2] at h; exact absurd rfl h
    · rw [if_neg h2] at h ⊢
      by_cases h3 : l < d
      · rw [if_pos h3] at h; exact absurd rfl h
      · rw [if_neg h3]
  · rw [if_neg h1] at h; exact absurd rfl h
