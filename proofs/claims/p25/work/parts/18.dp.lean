theorem pUpId {f : Nat → Int32} {k : Nat} {x : Int32} (h : f k = x) : va_up f k x = f := by
  funext j
  by_cases e : j = k
  · subst e; rw [va_up_self, h]
  · rw [va_up_ne _ _ e]
theorem pIn {a b x : Nat} (h1 : a ≤ x) (h2 : x ≤ b) (hb : b < 2 ^ 31) : gIn (nI x) (nI a) (nI b) := ⟨pc_le (by omega) (by omega) h1, pc_le (by omega) (by omega) h2⟩
theorem pA_add {nl B F S : Nat} (h : nl < 12) (hB : B ≤ 10000000) (hF : F ≤ 9999) (h1 : F ≤ S) (h2 : S ≤ 9999) : cAddLine nl (nI B) (nI F) (nI S) = 0 := by
  unfold cAddLine
  rw [if_pos ⟨pIn (a := 0) (b := 10000000) (by omega) hB (by omega), pIn (a := 0) (b := 9999) (by omega) hF (by omega), pIn (b := 9999) h1 h2 (by omega)⟩, if_pos h]
theorem pA_spend {nl nv i D M : Nat} (hl : nl ≤ 12) (hi : i < nl) (hD : D ≤ 9999) (h1 : 1 ≤ M) (h2 : M ≤ 10000000) (hv : nv < 100) : cSpend nl nv (nI i) (nI D) (nI M) = 0 := by
  unfold cSpend
  rw [if_pos (gNum_nI (by omega) hi), if_pos ⟨pIn (a := 0) (b := 9999) (by omega) hD (by omega), pIn (a := 1) (b := 10000000) h1 h2 (by omega)⟩, if_pos hv]
theorem pA_mv1 {nl i k : Nat} {bud maw : Nat → Int32} {p : Int32} (hl : nl ≤ 12) (hi : i < nl) (hk : k < nl) : ¬ cMove nl bud maw (nI i) (nI k) p = 1 := by
  unfold cMove
  rw [if_pos ⟨gNum_nI (by omega) hi, gNum_nI (by omega) hk⟩]
  split
  · split <;> decide
  · decide
theorem pA_mv2 {nl i k : Nat} {bud maw : Nat → Int32} {p : Int32} (hl : nl ≤ 12) (hi : i < nl) (hk : k < nl) (he : i = k) : cMove nl bud maw (nI i) (nI k) p = 2 := by
  subst he
  unfold cMove
  rw [if_pos ⟨gNum_nI (by omega) hi, gNum_nI (by omega) hk⟩, if_neg (fun h => h.2 rfl)]
theorem pA_mv0 {nl i k M : Nat} {bud maw : Nat → Int32} (hl : nl ≤ 12) (hi : i < nl) (hk : k < nl) (he : ¬ i = k) (h1 : 1 ≤ M) (h2 : M ≤ 10000000) (hc : maw i + nI M ≤ bud i / 10) : cMove nl bud maw (nI i) (nI k) (nI M) = 0 := by
  unfold cMove
  rw [if_pos ⟨gNum_nI (by omega) hi, gNum_nI (by omega) hk⟩, if_pos ⟨pIn (a := 1) (b := 10000000) h1 h2 (by omega), pn_eq (by omega) (by omega) he⟩, show gIxn (nI i) = i from nI_clamp (by omega), if_pos hc]
theorem pA_mv3 {nl i k M : Nat} {bud maw : Nat → Int32} (hl : nl ≤ 12) (hi : i < nl) (hk : k < nl) (he : ¬ i = k) (h1 : 1 ≤ M) (h2 : M ≤ 10000000) (hc : ¬ maw i + nI M ≤ bud i / 10) : cMove nl bud maw (nI i) (nI k) (nI M) = 3 := by
  unfold cMove
  rw [if_pos ⟨gNum_nI (by omega) hi, gNum_nI (by omega) hk⟩, if_pos ⟨pIn (a := 1) (b := 10000000) h1 h2 (by omega), pn_eq (by omega) (by omega) he⟩, show gIxn (nI i) = i from nI_clamp (by omega), if_neg hc]
theorem pA_mk1 {nv v : Nat} {rfd : Nat → Int32} {z : Int32} (hn : nv ≤ 100) (hv : v < nv) : ¬ cMark nv rfd (nI v) z = 1 := by
  unfold cMark
  rw [if_pos (gNum_nI (by omega) hv)]
  split <;> decide
theorem pA_mk0 {nv v : Nat} {rfd : Nat → Int32} {z : Int32} (hn : nv ≤ 100) (hv : v < nv) (h : ¬ rfd v = z) : cMark nv rfd (nI v) z = 0 := by
  unfold cMark
  rw [if_pos (gNum_nI (by omega) hv), show gIxn (nI v) = v from nI_clamp (by omega), if_pos h]
theorem pA_mk2 {nv v : Nat} {rfd : Nat → Int32} {z : Int32} (hn : nv ≤ 100) (hv : v < nv) (h : rfd v = z) : cMark nv rfd (nI v) z = 2 := by
  unfold cMark
  rw [if_pos (gNum_nI (by omega) hv), show gIxn (nI v) = v from nI_clamp (by omega), if_neg (fun h2 => h2 h)]
theorem pA_mt0 {am : Int32} {M : Nat} (h1 : 1 ≤ M) (h2 : M ≤ 10000000) (h : am + nI M ≤ 100000000) : cMatch am (nI M) = 0 := by
  unfold cMatch
  rw [if_pos (show gIn (nI M) 1 10000000 from pIn (a := 1) (b := 10000000) h1 h2 (by omega)), if_pos h]
theorem pA_mt2 {am : Int32} {M : Nat} (h1 : 1 ≤ M) (h2 : M ≤ 10000000) (h : ¬ am + nI M ≤ 100000000) : cMatch am (nI M) = 2 := by
  unfold cMatch
  rw [if_pos (show gIn (nI M) 1 10000000 from pIn (a := 1) (b := 10000000) h1 h2 (by omega)), if_neg h]
theorem pA_cl0 {cd : Int32} {nc D : Nat} (hD : D ≤ 9999) (h : ¬ nI D < cd) (hn : nc < 40) : cClaim cd nc (nI D) = 0 := by
  unfold cClaim
  rw [if_pos ⟨Int32.not_lt.mp h, pc_le (b := 9999) (by omega) (by omega) hD⟩, if_pos hn]
theorem pA_cl2 {cd : Int32} {nc D : Nat} (hD : D ≤ 9999) (h : ¬ nI D < cd) (hn : ¬ nc < 40) : cClaim cd nc (nI D) = 2 := by
  unfold cClaim
  rw [if_pos ⟨Int32.not_lt.mp h, pc_le (b := 9999) (by omega) (by omega) hD⟩, if_neg hn]
theorem pA_cl1 {cd : Int32} {nc D : Nat} (h : nI D < cd) : cClaim cd nc (nI D) = 1 := by
  unfold cClaim
  rw [if_neg (fun h2 => absurd h (Int32.not_lt.mpr h2.1))]
theorem pA_ex1 {nl i : Nat} {las : Nat → Int32} {p : Int32} (hl : nl ≤ 12) (hi : i < nl) : ¬ cExtend nl las (nI i) p = 1 := by
  unfold cExtend
  rw [if_pos (gNum_nI (by omega) hi)]
  split <;> decide
theorem pA_ex0 {nl i D : Nat} {las : Nat → Int32} (hl : nl ≤ 12) (hi : i < nl) (hD : D ≤ 9999) (h : ¬ nI D < las i) : cExtend nl las (nI i) (nI D) = 0 := by
  unfold cExtend
  rw [if_pos (gNum_nI (by omega) hi), show gIxn (nI i) = i from nI_clamp (by omega), if_pos ⟨Int32.not_lt.mp h, pc_le (b := 9999) (by omega) (by omega) hD⟩]
theorem pA_ex2 {nl i D : Nat} {las : Nat → Int32} (hl : nl ≤ 12) (hi : i < nl) (h : nI D < las i) : cExtend nl las (nI i) (nI D) = 2 := by
  unfold cExtend
  rw [if_pos (gNum_nI (by omega) hi), show gIxn (nI i) = i from nI_clamp (by omega), if_neg (fun h2 => absurd h (Int32.not_lt.mpr h2.1))]
theorem pA_st {nc a b c d : Nat} (h1 : a ≤ 100000000) (h2 : 1 ≤ b ∧ b ≤ 100) (h3 : c ≤ 100) (h4 : d ≤ 100000000) : cSetGrant nc (nI a) (nI b) (nI c) (nI d) = if nc = 0 then 0 else 2 := by
  unfold cSetGrant
  rw [if_pos ⟨pIn (a := 0) (b := 100000000) (by omega) h1 (by omega), pIn (a := 1) (b := 100) h2.1 h2.2 (by omega), pIn (a := 0) (b := 100) (by omega) h3 (by omega), pIn (a := 0) (b := 100000000) (by omega) h4 (by omega)⟩]
/-- the arrays, another line -/
theorem pR_add {nl nv : Nat} {gr sh rt ce am : Int32} {nc : Nat} {cd : Int32} {bud fsd las isB mto maw dya amo rfd cpa : Nat → Int32} {lnf : Nat → Nat} {nf bf df af lf pf : Nat → Int32} (hR : pRB nl nv gr sh rt ce bud fsd las isB mto maw dya amo rfd lnf nf bf df af lf) (hX : pRX nl am nc cd cpa nf bf pf) (hm : mto nl = 0 ∧ maw nl = 0) (hn : nl < 6) {p0 p1 p2 p3 : Int32} (h3 : p3 = 0 ∨ p3 = 1) {nf' bf' : Nat → Int32} (hnf : nf' = va_up nf 4 (nI (nl + 1))) (hbf : bf' = va_up (va_up (va_up (va_up bf (6 * nl) p0) (6 * nl + 1) p1) (6 * nl + 2) p2) (6 * nl + 3) p3) : pRB (nl + 1) nv gr sh rt ce (va_up bud nl p0) (va_up fsd nl p1) (va_up las nl p2) (va_up isB nl p3) mto maw dya amo rfd lnf nf' bf' df af lf ∧ pRX (nl + 1) am nc cd cpa nf' bf' pf := by
  obtain ⟨⟨h1, h2⟩, ⟨n0, n1, n2, n3, n5⟩, hb, hv⟩ := hR
  obtain ⟨x4, x6, x7, x8, x9, xp, xb⟩ := hX
  have e1 : ∀ k, ¬ k = 4 → nf' k = nf k := fun k hk => by rw [hnf, va_up_ne _ _ hk]
  have e2 : ∀ k, ¬ k = 6 * nl → ¬ k = 6 * nl + 1 → ¬ k = 6 * nl + 2 → ¬ k = 6 * nl + 3 → bf' k = bf k := fun k a b c d => by rw [hbf, va_up_ne _ _ d, va_up_ne _ _ c, va_up_ne _ _ b, va_up_ne _ _ a]
  refine ⟨⟨⟨by omega, h2⟩, ⟨by rw [e1 0 (by omega)]; exact n0, by rw [e1 1 (by omega)]; exact n1, by rw [e1 2 (by omega)]; exact n2, by rw [e1 3 (by omega)]; exact n3, by rw [e1 5 (by omega)]; exact n5⟩, fun i hi => ?_, fun j hj => ⟨(hv j hj).1, (hv j hj).2.1, by have := (hv j hj).2.2.1; omega, (hv j hj).2.2.2⟩⟩, ⟨by rw [hnf, va_up_self], by rw [e1 6 (by omega)]; exact x6, by rw [e1 7 (by omega)]; exact x7, by rw [e1 8 (by omega)]; exact x8, by rw [e1 9 (by omega)]; exact x9, xp, fun i hi hi2 => ?_⟩⟩
  · by_cases he : i = nl
    · subst he
      rw [va_up_self, va_up_self, va_up_self, va_up_self, e2 (6 * i + 4) (by omega) (by omega) (by omega) (by omega), e2 (6 * i + 5) (by omega) (by omega) (by omega) (by omega), hm.1, hm.2, (xb i (Nat.le_refl _) hn).1, (xb i (Nat.le_refl _) hn).2]
      refine ⟨?_, ?_, ?_, ?_, rfl, rfl, h3⟩
      · rw [hbf, va_up_ne _ _ (by omega), va_up_ne _ _ (by omega), va_up_ne _ _ (by omega), va_up_self]
      · rw [hbf, va_up_ne _ _ (by omega), va_up_ne _ _ (by omega), va_up_self]
      · rw [hbf, va_up_ne _ _ (by omega), va_up_self]
      · rw [hbf, va_up_self]
    · have hi2 : i < nl := by omega
      rw [va_up_ne _ _ he, va_up_ne _ _ he, va_up_ne _ _ he, va_up_ne _ _ he, e2 (6 * i) (by omega) (by omega) (by omega) (by omega), e2 (6 * i + 1) (by omega) (by omega) (by omega) (by omega), e2 (6 * i + 2) (by omega) (by omega) (by omega) (by omega), e2 (6 * i + 3) (by omega) (by omega) (by omega) (by omega), e2 (6 * i + 4) (by omega) (by omega) (by omega) (by omega), e2 (6 * i + 5) (by omega) (by omega) (by omega) (by omega)]
      exact hb i hi2
  · rw [e2 (6 * i + 4) (by omega) (by omega) (by omega) (by omega), e2 (6 * i + 5) (by omega) (by omega) (by omega) (by omega)]
    exact xb i (by omega) hi2
/-- another voucher -/
theorem pR_spend {nl nv : Nat} {gr sh rt ce am : Int32} {nc : Nat} {cd : Int32} {bud fsd las isB mto maw dya amo rfd cpa : Nat → Int32} {lnf : Nat → Nat} {nf bf df af lf pf : Nat → Int32} (hR : pRB nl nv gr sh rt ce bud fsd las isB mto maw dya amo rfd lnf nf bf df af lf) (hX : pRX nl am nc cd cpa nf bf pf) (hr : rfd nv = 0) (hn : nv < 40) {i : Nat} (hi : i < nl) {p1 p2 : Int32} {nf' df' af' lf' : Nat → Int32} (hnf : nf' = va_up nf 5 (nI (nv + 1))) (hdf : df' = va_up df nv p1) (haf : af' = va_up af nv p2) (hlf : lf' = va_up lf nv (nI i)) : pRB nl (nv + 1) gr sh rt ce bud fsd las isB mto maw (va_up dya nv p1) (va_up amo nv p2) rfd (va_up lnf nv i) nf' bf df' af' lf' ∧ pRX nl am nc cd cpa nf' bf pf := by
  obtain ⟨⟨h1, h2⟩, ⟨n0, n1, n2, n3, n5⟩, hb, hv⟩ := hR
  obtain ⟨x4, x6, x7, x8, x9, xp, xb⟩ := hX
  have e1 : ∀ k, ¬ k = 5 → nf' k = nf k := fun k hk => by rw [hnf, va_up_ne _ _ hk]
  refine ⟨⟨⟨h1, by omega⟩, ⟨by rw [e1 0 (by omega)]; exact n0, by rw [e1 1 (by omega)]; exact n1, by rw [e1 2 (by omega)]; exact n2, by rw [e1 3 (by omega)]; exact n3, by rw [hnf, va_up_self]⟩, hb, fun j hj => ?_⟩, ⟨by rw [e1 4 (by omega)]; exact x4, by rw [e1 6 (by omega)]; exact x6, by rw [e1 7 (by omega)]; exact x7, by rw [e1 8 (by omega)]; exact x8, by rw [e1 9 (by omega)]; exact x9, xp, xb⟩⟩
  rw [hdf, haf, hlf]
  by_cases he : j = nv
  · subst he
    rw [va_up_self, va_up_self, va_up_self, va_up_self, va_up_self, va_up_self]
    exact ⟨rfl, rfl, hi, Or.inl ⟨hr, rfl⟩⟩
  · rw [va_up_ne _ _ he, va_up_ne _ _ he, va_up_ne _ _ he, va_up_ne _ _ he, va_up_ne _ _ he, va_up_ne _ _ he]
    exact hv j (by omega)
/-- money moved -/
theorem pR_move {nl nv : Nat} {gr sh rt ce am : Int32} {nc : Nat} {cd : Int32} {bud fsd las isB mto maw dya amo rfd cpa : Nat → Int32} {lnf : Nat → Nat} {nf bf df af lf pf : Nat → Int32} (hR : pRB nl nv gr sh rt ce bud fsd las isB mto maw dya amo rfd lnf nf bf df af lf) (hX : pRX nl am nc cd cpa nf bf pf) {i k : Nat} (hi : i < nl) (hk : k < nl) {p : Int32} {bf' : Nat → Int32} (hbf : bf' = va_up (va_up bf (6 * i + 5) (maw i + p)) (6 * k + 4) (mto k + p)) : pRB nl nv gr sh rt ce bud fsd las isB (va_up mto k (mto k + p)) (va_up maw i (maw i + p)) dya amo rfd lnf nf bf' df af lf ∧ pRX nl am nc cd cpa nf bf' pf := by
  obtain ⟨h1, h2, hb, hv⟩ := hR
  obtain ⟨x4, x6, x7, x8, x9, xp, xb⟩ := hX
  have e2 : ∀ q, ¬ q = 6 * i + 5 → ¬ q = 6 * k + 4 → bf' q = bf q := fun q a b => by rw [hbf, va_up_ne _ _ b, va_up_ne _ _ a]
  refine ⟨⟨h1, h2, fun c hc => ?_, hv⟩, x4, x6, x7, x8, x9, xp, fun c hc hc2 => ?_⟩
  · obtain ⟨b0, b1, b2, b3, b4, b5, b6⟩ := hb c hc
    rw [e2 (6 * c) (by omega) (by omega), e2 (6 * c + 1) (by omega) (by omega), e2 (6 * c + 2) (by omega) (by omega), e2 (6 * c + 3) (by omega) (by omega)]
    refine ⟨b0, b1, b2, b3, ?_, ?_, b6⟩
    · by_cases he : c = k
      · subst he
        rw [va_up_self, hbf, va_up_self]
      · rw [va_up_ne _ _ he, e2 _ (by omega) (by omega)]
        exact b4
    · by_cases he : c = i
      · subst he
        rw [va_up_self, hbf, va_up_ne _ _ (by omega), va_up_self]
      · rw [va_up_ne _ _ he, e2 _ (by omega) (by omega)]
        exact b5
  · rw [e2 _ (by omega) (by omega), e2 _ (by omega) (by omega)]
    exact xb c hc hc2
/-- a refusal, or its taking back -/
theorem pR_mark {nl nv : Nat} {gr sh rt ce : Int32} {bud fsd las isB mto maw dya amo rfd : Nat → Int32} {lnf : Nat → Nat} {nf bf df af lf : Nat → Int32} (hR : pRB nl nv gr sh rt ce bud fsd las isB mto maw dya amo rfd lnf nf bf df af lf) {v : Nat} (hv : v < nv) {z x : Int32} (hz : z = 0 ∧ x = nI (lnf v) ∨ z = 1 ∧ x = nI (lnf v + 100)) {lf' : Nat → Int32} (hlf : lf' = va_up lf v x) : pRB nl nv gr sh rt ce bud fsd las isB mto maw dya amo (va_up rfd v z) lnf nf bf df af lf' := by
  obtain ⟨h1, h2, hb, hw⟩ := hR
  refine ⟨h1, h2, hb, fun j hj => ?_⟩
  obtain ⟨w1, w2, w3, w4⟩ := hw j hj
  refine ⟨w1, w2, w3, ?_⟩
  rw [hlf]
  by_cases he : j = v
  · subst he
    rw [va_up_self, va_up_self]
    exact hz
  · rw [va_up_ne _ _ he, va_up_ne _ _ he]
    exact w4
/-- numbers that the readers don't see -/
theorem pR_nf {nl nv : Nat} {gr sh rt ce : Int32} {bud fsd las isB mto maw dya amo rfd : Nat → Int32} {lnf : Nat → Nat} {nf bf df af lf : Nat → Int32} (hR : pRB nl nv gr sh rt ce bud fsd las isB mto maw dya amo rfd lnf nf bf df af lf) {nf' : Nat → Int32} (h : ∀ k, k ≤ 5 → nf' k = nf k) : pRB nl nv gr sh rt ce bud fsd las isB mto maw dya amo rfd lnf nf' bf df af lf := by
  obtain ⟨h1, ⟨n0, n1, n2, n3, n5⟩, hb, hv⟩ := hR
  exact ⟨h1, ⟨by rw [h 0 (by omega)]; exact n0, by rw [h 1 (by omega)]; exact n1, by rw [h 2 (by omega)]; exact n2, by rw [h 3 (by omega)]; exact n3, by rw [h 5 (by omega)]; exact n5⟩, hb, hv⟩
theorem pX_match {nl : Nat} {am : Int32} {nc : Nat} {cd : Int32} {cpa : Nat → Int32} {nf bf pf : Nat → Int32} (hX : pRX nl am nc cd cpa nf bf pf) {x : Int32} {nf' : Nat → Int32} (hnf : nf' = va_up nf 6 x) : pRX nl x nc cd cpa nf' bf pf := by
  obtain ⟨x4, x6, x7, x8, x9, xp, xb⟩ := hX
  rw [hnf]
  exact ⟨by rw [va_up_ne _ _ (by omega)]; exact x4, va_up_self _ _ _, by rw [va_up_ne _ _ (by omega)]; exact x7, by rw [va_up_ne _ _ (by omega)]; exact x8, by rw [va_up_ne _ _ (by omega)]; exact x9, xp, xb⟩
theorem pX_claim {nl : Nat} {am : Int32} {nc : Nat} {cd : Int32} {cpa : Nat → Int32} {nf bf pf : Nat → Int32} (hX : pRX nl am nc cd cpa nf bf pf) {x d : Int32} {nf' pf' : Nat → Int32} (hnf : nf' = va_up (va_up (va_up nf 7 (nI (nc + 1))) 8 d) 9 (gSm cpa nc + x)) (hpf : pf' = va_up pf nc x) : pRX nl am (nc + 1) d (va_up cpa nc x) nf' bf pf' := by
  obtain ⟨x4, x6, x7, x8, x9, xp, xb⟩ := hX
  rw [hnf, hpf]
  refine ⟨by rw [va_up_ne _ _ (by omega), va_up_ne _ _ (by omega), va_up_ne _ _ (by omega)]; exact x4, by rw [va_up_ne _ _ (by omega), va_up_ne _ _ (by omega), va_up_ne _ _ (by omega)]; exact x6, by rw [va_up_ne _ _ (by omega), va_up_ne _ _ (by omega), va_up_self], by rw [va_up_ne _ _ (by omega), va_up_self], ?_, fun k hk => ?_, xb⟩
  · rw [va_up_self]
    show _ = gSm (va_up cpa nc x) nc + va_up cpa nc x nc
    rw [va_up_self, gSm_congr (g := cpa) (fun i hi => va_up_ne _ _ (by omega))]
  · by_cases he : k = nc
    · subst he; rw [va_up_self, va_up_self]
    · rw [va_up_ne _ _ he, va_up_ne _ _ he]; exact xp k (by omega)
/-- a later last day -/
theorem pR_ext {nl nv : Nat} {gr sh rt ce am : Int32} {nc : Nat} {cd : Int32} {bud fsd las isB mto maw dya amo rfd cpa : Nat → Int32} {lnf : Nat → Nat} {nf bf df af lf pf : Nat → Int32} (hR : pRB nl nv gr sh rt ce bud fsd las isB mto maw dya amo rfd lnf nf bf df af lf) (hX : pRX nl am nc cd cpa nf bf pf) {i : Nat} (hi : i < nl) {p : Int32} {bf' : Nat → Int32} (hbf : bf' = va_up bf (6 * i + 2) p) : pRB nl nv gr sh rt ce bud fsd (va_up las i p) isB mto maw dya amo rfd lnf nf bf' df af lf ∧ pRX nl am nc cd cpa nf bf' pf := by
  obtain ⟨h1, h2, hb, hv⟩ := hR
  obtain ⟨x4, x6, x7, x8, x9, xp, xb⟩ := hX
  have e2 : ∀ q, ¬ q = 6 * i + 2 → bf' q = bf q := fun q a => by rw [hbf, va_up_ne _ _ a]
  refine ⟨⟨h1, h2, fun c hc => ?_, hv⟩, x4, x6, x7, x8, x9, xp, fun c hc hc2 => ?_⟩
  · obtain ⟨b0, b1, b2, b3, b4, b5, b6⟩ := hb c hc
    rw [e2 (6 * c) (by omega), e2 (6 * c + 1) (by omega), e2 (6 * c + 3) (by omega), e2 (6 * c + 4) (by omega), e2 (6 * c + 5) (by omega)]
    refine ⟨b0, b1, ?_, b3, b4, b5, b6⟩
    by_cases he : c = i
    · subst he
      rw [va_up_self, hbf, va_up_self]
    · rw [va_up_ne _ _ he, e2 _ (by omega)]
      exact b2
  · rw [e2 _ (by omega), e2 _ (by omega)]
    exact xb c hc hc2
/-- the grant -/
theorem pR_set {nl nv : Nat} {gr sh rt ce am : Int32} {nc : Nat} {cd : Int32} {bud fsd las isB mto maw dya amo rfd cpa : Nat → Int32} {lnf : Nat → Nat} {nf bf df af lf pf : Nat → Int32} (hR : pRB nl nv gr sh rt ce bud fsd las isB mto maw dya amo rfd lnf nf bf df af lf) (hX : pRX nl am nc cd cpa nf bf pf) {p0 p1 p2 p3 : Int32} {nf' : Nat → Int32} (hnf : nf' = va_up (va_up (va_up (va_up nf 0 p0) 1 p1) 2 p2) 3 p3) : pRB nl nv p0 p1 p2 p3 bud fsd las isB mto maw dya amo rfd lnf nf' bf df af lf ∧ pRX nl am nc cd cpa nf' bf pf := by
  obtain ⟨h1, ⟨n0, n1, n2, n3, n5⟩, hb, hv⟩ := hR
  obtain ⟨x4, x6, x7, x8, x9, xp, xb⟩ := hX
  have e1 : ∀ k, 4 ≤ k → nf' k = nf k := fun k hk => by rw [hnf, va_up_ne _ _ (by omega), va_up_ne _ _ (by omega), va_up_ne _ _ (by omega), va_up_ne _ _ (by omega)]
  refine ⟨⟨h1, ⟨?_, ?_, ?_, ?_, by rw [e1 5 (by omega)]; exact n5⟩, hb, hv⟩, by rw [e1 4 (by omega)]; exact x4, by rw [e1 6 (by omega)]; exact x6, by rw [e1 7 (by omega)]; exact x7, by rw [e1 8 (by omega)]; exact x8, by rw [e1 9 (by omega)]; exact x9, xp, xb⟩
  · rw [hnf, va_up_ne _ _ (by omega), va_up_ne _ _ (by omega), va_up_ne _ _ (by omega), va_up_self]
  · rw [hnf, va_up_ne _ _ (by omega), va_up_ne _ _ (by omega), va_up_self]
  · rw [hnf, va_up_ne _ _ (by omega), va_up_self]
  · rw [hnf, va_up_self]
/-- the order, by day and number, with the new one -/
theorem pST_in {gr sh rt ce : Int32} {nl nv : Nat} {am : Int32} {nc : Nat} {cd : Int32} {bud fsd las isB mto maw lno dya amo rfd ord cpa : Nat → Int32} {lnf orf : Nat → Nat} (hM : gMI gr sh rt ce nl nv am nc cd bud fsd las isB mto maw lno dya amo rfd ord cpa lnf orf) (hT : pST nv dya orf) (p1 : Int32) : pST (nv + 1) (va_up dya nv p1) (gIn9 nv (va_up dya nv p1) p1 nv orf) := by
  have hOl : ∀ v, v ∈ (List.range nv).map orf → v < nv := fun v hv => by
    obtain ⟨k, hk, rfl⟩ := List.mem_map.mp hv
    exact (hM.2.2.1 k (List.mem_range.mp hk)).2
  have hD : ∀ v, v < nv → va_up dya nv p1 v = dya v := fun v hv => va_up_ne _ _ (by omega)
  have hT2 : ((List.range nv).map orf).Pairwise (pLx (va_up dya nv p1)) := by
    refine List.Pairwise.imp_of_mem (fun {a b} ha hb hab => ?_) hT
    show va_up dya nv p1 a < va_up dya nv p1 b ∨ va_up dya nv p1 a = va_up dya nv p1 b ∧ a < b
    rw [hD a (hOl a ha), hD b (hOl b hb)]
    exact hab
  have hso : ((List.range nv).map orf).Pairwise (fun a b => va_up dya nv p1 a ≤ va_up dya nv p1 b) := by
    refine List.Pairwise.imp (fun {a b} hab => ?_) hT2
    rcases hab with h | h
    · exact Int32.le_of_lt h
    · rw [h.1]; exact Int32.le_refl _
  have hFB := gFB (va_up dya nv p1) p1 ((List.range nv).map orf)
  show ((List.range (nv + 1)).map (gIn9 nv (va_up dya nv p1) p1 nv orf)).Pairwise _
  rw [gIn9_l (nv := nv) (d := p1) hso]
  have hs2 := hT2
  rw [← hFB] at hs2
  obtain ⟨y1, y2, y3⟩ := List.pairwise_append.mp hs2
  refine List.pairwise_append.mpr ⟨y1, List.pairwise_cons.mpr ⟨fun b hb => ?_, y2⟩, fun a ha b hb => ?_⟩
  · left
    rw [va_up_self]
    exact gBk_gt hso b hb
  · rcases List.mem_cons.mp hb with hb1 | hb
    · have h1 := gFr_le a ha
      rcases Int32.lt_or_eq_of_le h1 with h | h
      · left; rw [hb1, va_up_self]; exact h
      · right
        refine ⟨by rw [hb1, va_up_self]; exact h, ?_⟩
        rw [hb1]
        exact hOl a (by rw [← hFB]; exact List.mem_append_left _ ha)
    · exact y3 a ha b hb
/-- all of them, whatever the day -/
theorem pCT_all {gr sh rt ce : Int32} {nl nv : Nat} {am : Int32} {nc : Nat} {cd : Int32} {bud fsd las isB mto maw lno dya amo rfd ord cpa : Nat → Int32} {lnf orf : Nat → Nat} (hM : gMI gr sh rt ce nl nv am nc cd bud fsd las isB mto maw lno dya amo rfd ord cpa lnf orf) {el : Nat → Int32} : gSm (gCx dya isB el lnf 9999 0) nv = gSm el nv := by
  refine gSm_congr (fun i hi => ?_)
  have := (hM.2.2.2.2.2.2.2.2.1 i hi).2.2.2
  unfold gCx
  rw [if_neg (by rw [Int32.lt_iff_toInt_lt]; show ¬ ((9999 : Int) < _); omega), if_pos rfl]
theorem pM_mark {gr sh rt ce : Int32} {nl nv : Nat} {am : Int32} {nc : Nat} {cd : Int32} {bud fsd las isB mto maw lno dya amo rfd ord cpa : Nat → Int32} {lnf orf : Nat → Nat} (hM : gMI gr sh rt ce nl nv am nc cd bud fsd las isB mto maw lno dya amo rfd ord cpa lnf orf) {v : Nat} (hv : v < nv) {z : Int32} (hz : z = 0 ∨ z = 1) : gMI gr sh rt ce nl nv am nc cd bud fsd las isB mto maw lno dya amo (va_up rfd v z) ord cpa lnf orf := by
  obtain ⟨m1, m2, m3, m4, m5, ⟨m6, m6'⟩, m7⟩ := hM
  refine ⟨m1, m2, m3, m4, m5, ⟨fun k => ?_, fun k hk => ?_⟩, m7⟩
  · by_cases h : k = v
    · subst h; rw [va_up_self]; exact hz
    · rw [va_up_ne _ _ h]; exact m6 k
  · rw [va_up_ne _ _ (by omega)]; exact m6' k hk
theorem pM_new {gr sh rt ce : Int32} {nl nv : Nat} {am : Int32} {nc : Nat} {cd : Int32} {bud fsd las isB mto maw lno dya amo rfd ord cpa : Nat → Int32} {lnf orf : Nat → Nat} (hM : gMI gr sh rt ce nl nv am nc cd bud fsd las isB mto maw lno dya amo rfd ord cpa lnf orf) : (mto nl = 0 ∧ maw nl = 0) ∧ rfd nv = 0 := by
  obtain ⟨m1, m2, m3, m4, m5, ⟨m6, m6'⟩, m7, ⟨m8, m8'⟩, m9⟩ := hM
  exact ⟨m8 nl (Nat.le_refl _), m6' nv (Nat.le_refl _)⟩
