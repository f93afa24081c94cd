/-- the sum of numbers, as integers -/
def gZs (f : Nat → Int32) : Nat → Int
  | 0 => 0
  | i + 1 => gZs f i + (f i).toInt
/-- the reference's own numbers hang together -/
def gMI (gr sh rt ce : Int32) (nl nv : Nat) (am : Int32) (nc : Nat) (cd : Int32) (bud fsd las isB mto maw lno dya amo rfd ord cpa : Nat → Int32) (lnf orf : Nat → Nat) : Prop :=
  (nl ≤ 12 ∧ nv ≤ 100 ∧ nc ≤ 40) ∧
  (∀ j, j < nv → lno j = nI (lnf j) ∧ lnf j < nl) ∧
  (∀ k, k < nv → ord k = nI (orf k) ∧ orf k < nv) ∧
  (∀ v, v < nv → ∃ k, k < nv ∧ orf k = v) ∧
  (∀ i j, i < j → j < nv → dya (orf i) ≤ dya (orf j)) ∧
  ((∀ j, rfd j = 0 ∨ rfd j = 1) ∧ ∀ j, nv ≤ j → rfd j = 0) ∧
  (∀ i, i < nl → 0 ≤ (bud i).toInt ∧ (bud i).toInt ≤ 10000000 ∧ 0 ≤ (maw i).toInt ∧ 10 * (maw i).toInt ≤ (bud i).toInt ∧ 0 ≤ (mto i).toInt) ∧
  ((∀ i, nl ≤ i → mto i = 0 ∧ maw i = 0) ∧ gZs mto nl = gZs maw nl) ∧
  (∀ j, j < nv → 1 ≤ (amo j).toInt ∧ (amo j).toInt ≤ 10000000 ∧ 0 ≤ (dya j).toInt ∧ (dya j).toInt ≤ 9999) ∧
  ((0 ≤ gr.toInt ∧ gr.toInt ≤ 100000000) ∧ (1 ≤ sh.toInt ∧ sh.toInt ≤ 100) ∧ (0 ≤ rt.toInt ∧ rt.toInt ≤ 100) ∧ (0 ≤ ce.toInt ∧ ce.toInt ≤ 100000000) ∧ (0 ≤ am.toInt ∧ am.toInt ≤ 100000000) ∧ (0 ≤ cd.toInt ∧ cd.toInt ≤ 9999))
/-- the class's numbers are the reference's -/
def gCR (Lc : List Nat) (Kc : Nat → Nat) (nl nv : Nat) (nc : Nat) (bud fsd las isB mto maw dya amo rfd cpa : Nat → Int32) (lnf orf : Nat → Nat) (lrow vrow : Nat → Option Nat) (pia : Int32) (budc fsdc lasc basc mvic mvac : Nat → Int32) (vlnc : Nat → Option Nat) (vdac vamc vrfc velc : Nat → Int32) (ch : Nat → List Nat) (la va : Nat → Nat) : Prop :=
  ((∀ i, i < nl → lrow i = some (la i)) ∧ ∀ i, nl ≤ i → lrow i = none) ∧
  ((∀ j, j < nv → vrow j = some (va j)) ∧ ∀ j, nv ≤ j → vrow j = none) ∧
  ((∀ i j, i < nl → j < nl → la i = la j → i = j) ∧ ∀ i j, i < nv → j < nv → va i = va j → i = j) ∧
  (∀ i, i < nl → budc (la i) = bud i ∧ fsdc (la i) = fsd i ∧ lasc (la i) = las i ∧ basc (la i) = isB i ∧ mvic (la i) = mto i ∧ mvac (la i) = maw i) ∧
  (∀ j, j < nv → vlnc (va j) = some (la (lnf j)) ∧ vdac (va j) = dya j ∧ vamc (va j) = amo j ∧ vrfc (va j) = rfd j ∧ velc (va j) = (gEL (fun l => bud l + mto l - maw l) (fun v => gAcc (fsd (lnf v)) (las (lnf v)) (rfd v) (dya v)) lnf amo orf nv) j) ∧
  (∀ i, i < nl → ch (la i) = (((List.range nv).map orf).filter (fun v => lnf v == i)).map va) ∧
  pia = gSm cpa nc ∧
  ∀ a, a ∈ Lc → Kc a = 0 → ∃ i, i < nl ∧ a = la i
abbrev gMIx (gr sh rt ce : Int32) (nl nv : Nat) (am : Int32) (nc : Nat) (cd : Int32) (bud fsd las isB mto maw lno dya amo rfd ord cpa : Nat → Int32) (lnf orf : Nat → Nat) : Prop := gMI gr sh rt ce nl nv am nc cd bud fsd las isB mto maw lno dya amo rfd ord cpa lnf orf
def gGP (cyI cyL cyV : ClassId) (gr sh rt ce : Int32) (nl nv : Nat) (am : Int32) (nc : Nat) (cd : Int32) (bud fsd las isB mto maw lno dya amo rfd ord cpa : Nat → Int32) (lnf orf : Nat → Nat) (g : Nat) (G : va_W) : Prop :=
  gMI gr sh rt ce nl nv am nc cd bud fsd las isB mto maw lno dya amo rfd ord cpa lnf orf ∧ ∃ (lr vr py : Nat) (lrow vrow : Nat → Option Nat) (pia : Int32) (Lc : List Nat) (Kc : Nat → Nat) (budc fsdc lasc basc mvic mvac : Nat → Int32) (earc vlnc : Nat → Option Nat) (vdac vamc vrfc velc : Nat → Int32) (vnxc : Nat → Option Nat) (ch : Nat → List Nat) (la va : Nat → Nat), G = ((g, .inr (2, [.int gr, .int sh, .int rt, .int ce, .ref lr, .int (nI nl), .ref vr, .int (nI nv), .int am, .ref py, .int (nI nc), .int cd, .int pia])) :: (lr, .inl (cyL, 12, .inr (.inr (.inr (.inr lrow))))) :: (vr, .inl (cyV, 100, .inr (.inr (.inr (.inr vrow))))) :: (py, .inl (cyI, 40, .inl cpa)) :: va_pl Lc (gE Kc budc fsdc lasc basc mvic mvac earc vlnc vdac vamc vrfc velc vnxc) : va_W) ∧ gOK Lc Kc lrow vrow earc vlnc vnxc ch ∧ gCR Lc Kc nl nv nc bud fsd las isB mto maw dya amo rfd cpa lnf orf lrow vrow pia budc fsdc lasc basc mvic mvac vlnc vdac vamc vrfc velc ch la va
