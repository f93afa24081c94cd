theorem gR_setGrant {cyI cyL cyV : ClassId} {gr sh rt ce : Int32} {nl nv : Nat} {am : Int32} {nc : Nat} {cd : Int32} {bud fsd las isB mto maw lno dya amo rfd ord cpa : Nat → Int32} {lnf orf : Nat → Nat} {g : Nat} {lr vr py : Nat} {lrow vrow : Nat → Option Nat} {pia : Int32} {Lc : List Nat} {Kc : Nat → Nat} {budc fsdc lasc basc mvic mvac : Nat → Int32} {earc vlnc : Nat → Option Nat} {vdac vamc vrfc velc : Nat → Int32} {vnxc : Nat → Option Nat} {ch : Nat → List Nat} {la va : Nat → Nat} (hM : gMI gr sh rt ce nl nv am nc cd bud fsd las isB mto maw lno dya amo rfd ord cpa lnf orf) (hOK : gOK Lc Kc lrow vrow earc vlnc vnxc ch) (hC : gCR Lc Kc nl nv nc bud fsd las isB mto maw dya amo rfd cpa lnf orf lrow vrow pia budc fsdc lasc basc mvic mvac vlnc vdac vamc vrfc velc ch la va) {p0 p1 p2 p3 : Int32} {u : Unit} (hw : gIn p0 0 100000000 ∧ gIn p1 1 100 ∧ gIn p2 0 100 ∧ gIn p3 0 100000000 ∧ nI nc ≤ 0 ∧ True) : cSetGrant nc p0 p1 p2 p3 = 0 ∧ gGP cyI cyL cyV p0 p1 p2 p3 nl nv am nc cd bud fsd las isB mto maw lno dya amo rfd ord cpa lnf orf g ((g, .inr (2, [.int p0, .int p1, .int p2, .int p3, .ref lr, .int (nI nl), .ref vr, .int (nI nv), .int am, .ref py, .int (nI nc), .int cd, .int pia])) :: (lr, .inl (cyL, 12, .inr (.inr (.inr (.inr lrow))))) :: (vr, .inl (cyV, 100, .inr (.inr (.inr (.inr vrow))))) :: (py, .inl (cyI, 40, .inl cpa)) :: va_pl Lc (gE Kc budc fsdc lasc basc mvic mvac earc vlnc vdac vamc vrfc velc vnxc) : va_W) := by
  obtain ⟨h1, h2, h3, h4, h5, -⟩ := hw
  refine ⟨?_, ?_, lr, vr, py, lrow, vrow, pia, Lc, Kc, budc, fsdc, lasc, basc, mvic, mvac, earc, vlnc, vdac, vamc, vrfc, velc, vnxc, ch, la, va, rfl, hOK, hC⟩
  · unfold cSetGrant
    rw [if_pos ⟨h1, h2, h3, h4⟩, if_pos]
    have := hM.1
    by_cases hn : nc = 0
    · exact hn
    · exact absurd h5 (nI_nle (by omega) (by omega))
  · obtain ⟨m1, m2, m3, m4, m5, m6, m7, m8, m9, m10, m11, m12, m13, m14, m15⟩ := hM
    exact ⟨m1, m2, m3, m4, m5, m6, m7, m8, m9, gIn_i h1, gIn_i h2, gIn_i h3, gIn_i h4, m14, m15⟩
theorem gX_setGrant {gr sh rt ce : Int32} {nl nv : Nat} {am : Int32} {nc : Nat} {cd : Int32} {bud fsd las isB mto maw lno dya amo rfd ord cpa : Nat → Int32} {lnf orf : Nat → Nat} {lrow vrow : Nat → Option Nat} {pia : Int32} {Lc : List Nat} {Kc : Nat → Nat} {budc fsdc lasc basc mvic mvac : Nat → Int32} {earc vlnc : Nat → Option Nat} {vdac vamc vrfc velc : Nat → Int32} {vnxc : Nat → Option Nat} {ch : Nat → List Nat} {la va : Nat → Nat} (hM : gMI gr sh rt ce nl nv am nc cd bud fsd las isB mto maw lno dya amo rfd ord cpa lnf orf) (hOK : gOK Lc Kc lrow vrow earc vlnc vnxc ch) (hC : gCR Lc Kc nl nv nc bud fsd las isB mto maw dya amo rfd cpa lnf orf lrow vrow pia budc fsdc lasc basc mvic mvac vlnc vdac vamc vrfc velc ch la va) {p0 p1 p2 p3 : Int32} {E : String} (hx : (E = "java/lang/IllegalArgumentException" ∧ ¬ (gIn p0 0 100000000)) ∨ (E = "java/lang/IllegalArgumentException" ∧ gIn p0 0 100000000 ∧ ¬ (gIn p1 1 100)) ∨ (E = "java/lang/IllegalArgumentException" ∧ gIn p0 0 100000000 ∧ gIn p1 1 100 ∧ ¬ (gIn p2 0 100)) ∨ (E = "java/lang/IllegalArgumentException" ∧ gIn p0 0 100000000 ∧ gIn p1 1 100 ∧ gIn p2 0 100 ∧ ¬ (gIn p3 0 100000000)) ∨ (E = "java/lang/IllegalStateException" ∧ gIn p0 0 100000000 ∧ gIn p1 1 100 ∧ gIn p2 0 100 ∧ gIn p3 0 100000000 ∧ ¬ (nI nc ≤ 0))) : (E = "java/lang/IllegalArgumentException" ∧ cSetGrant nc p0 p1 p2 p3 = 1) ∨ (E = "java/lang/IllegalStateException" ∧ cSetGrant nc p0 p1 p2 p3 = 2) := by
  rcases hx with ⟨rfl, h⟩ | ⟨rfl, _, h⟩ | ⟨rfl, _, _, h⟩ | ⟨rfl, _, _, _, h⟩ | ⟨rfl, h1, h2, h3, h4, h5⟩
  · exact Or.inl ⟨rfl, if_neg fun hh => h hh.1⟩
  · exact Or.inl ⟨rfl, if_neg fun hh => h hh.2.1⟩
  · exact Or.inl ⟨rfl, if_neg fun hh => h hh.2.2.1⟩
  · exact Or.inl ⟨rfl, if_neg fun hh => h hh.2.2.2⟩
  · refine Or.inr ⟨rfl, ?_⟩
    unfold cSetGrant
    rw [if_pos ⟨h1, h2, h3, h4⟩, if_neg]
    rintro rfl
    exact h5 (by rw [nI_0]; decide)
theorem gR_addLine {cyI cyL cyV : ClassId} {gr sh rt ce : Int32} {nl nv : Nat} {am : Int32} {nc : Nat} {cd : Int32} {bud fsd las isB mto maw lno dya amo rfd ord cpa : Nat → Int32} {lnf orf : Nat → Nat} {g : Nat} {lr vr py : Nat} {lrow vrow : Nat → Option Nat} {pia : Int32} {Lc : List Nat} {Kc : Nat → Nat} {budc fsdc lasc basc mvic mvac : Nat → Int32} {earc vlnc : Nat → Option Nat} {vdac vamc vrfc velc : Nat → Int32} {vnxc : Nat → Option Nat} {ch : Nat → List Nat} {la va : Nat → Nat} (hM : gMI gr sh rt ce nl nv am nc cd bud fsd las isB mto maw lno dya amo rfd ord cpa lnf orf) (hOK : gOK Lc Kc lrow vrow earc vlnc vnxc ch) (hC : gCR Lc Kc nl nv nc bud fsd las isB mto maw dya amo rfd cpa lnf orf lrow vrow pia budc fsdc lasc basc mvic mvac vlnc vdac vamc vrfc velc ch la va) {p0 p1 p2 p3 : Int32} (hz3 : p3 = 0 ∨ p3 = 1) {r : Int32} {q : Nat} (hw : gIn p0 0 10000000 ∧ gIn p1 0 9999 ∧ gIn p2 p1 9999 ∧ nI nl < 12 ∧ r = nI nl ∧ q ∉ Lc) : cAddLine nl p0 p1 p2 = 0 ∧ r = nI nl ∧ gGP cyI cyL cyV gr sh rt ce (nl + 1) nv am nc cd (va_up bud nl p0) (va_up fsd nl p1) (va_up las nl p2) (va_up isB nl p3) mto maw lno dya amo rfd ord cpa lnf orf g ((g, .inr (2, [.int gr, .int sh, .int rt, .int ce, .ref lr, .int (nI (nl + 1)), .ref vr, .int (nI nv), .int am, .ref py, .int (nI nc), .int cd, .int pia])) :: (lr, .inl (cyL, 12, .inr (.inr (.inr (.inr (va_up lrow nl (some q))))))) :: (vr, .inl (cyV, 100, .inr (.inr (.inr (.inr vrow))))) :: (py, .inl (cyI, 40, .inl cpa)) :: va_pl (Lc ++ [q]) (gE (va_up Kc q 0) (va_up budc q p0) (va_up fsdc q p1) (va_up lasc q p2) (va_up basc q p3) (va_up mvic q 0) (va_up mvac q 0) (va_up earc q none) vlnc vdac vamc vrfc velc vnxc) : va_W) := by
  obtain ⟨h1, h2, h3, h4, rfl, h5⟩ := hw
  have hn : nl < 12 := by
    have := hM.1.1
    exact (nI_ltI (b := 12) (by omega) (by omega)).mp h4
  refine ⟨?_, rfl, ?_⟩
  · unfold cAddLine
    rw [if_pos ⟨h1, h2, h3⟩, if_pos hn]
  obtain ⟨d1, d2, d3, d4, d5, d6, d7⟩ := hC
  obtain ⟨o1, o2, o3⟩ := hOK
  have hLa : ∀ i, i < nl → la i ∈ Lc := fun i hi => (o1 i _ (by omega) (d1.1 i hi)).1
  have hLn : ∀ i, i < nl → la i ≠ q := fun i hi e => h5 (e ▸ hLa i hi)
  have hq : ∀ x, x ∈ Lc → x ≠ q := fun x hx e => h5 (e ▸ hx)
  have hLv : ∀ j, j < nv → va j ∈ Lc := fun j hj => (o2 j _ (by have := hM.1.2.1; omega) (d2.1 j hj)).1
  have hln := hM.2.1
  have hro : ∀ k, k < nv → orf k < nv := fun k hk => (hM.2.2.1 k hk).2
  have hup : ∀ (f : Nat → Int32) (x : Int32) (i : Nat), i < nl → va_up f nl x i = f i := fun f x i hi => va_up_ne _ _ (by omega)
  have hEL : (gEL (fun l => bud l + mto l - maw l) (fun v => gAcc (fsd (lnf v)) (las (lnf v)) (rfd v) (dya v)) lnf amo orf nv) = (gEL (fun l => va_up bud nl p0 l + mto l - maw l) (fun v => gAcc (va_up fsd nl p1 (lnf v)) (va_up las nl p2 (lnf v)) (rfd v) (dya v)) lnf amo orf nv) := by
    unfold gEL
    refine congrArg Prod.fst (gLy_congr fun k hk => ?_)
    have := (hln _ (hro k hk)).2
    simp only [hup _ _ _ this, and_self]
  have h1i : (0 : Int) ≤ p0.toInt ∧ p0.toInt ≤ 10000000 := gIn_i h1
  refine ⟨?_, lr, vr, py, va_up lrow nl (some q), vrow, pia, Lc ++ [q], va_up Kc q 0, va_up budc q p0, va_up fsdc q p1, va_up lasc q p2, va_up basc q p3, va_up mvic q 0, va_up mvac q 0, va_up earc q none, vlnc, vdac, vamc, vrfc, velc, vnxc, va_up ch q [], va_up la nl q, va, rfl, ⟨?_, ?_, ?_⟩, ⟨?_, ?_⟩, d2, ⟨?_, d3.2⟩, ?_, ?_, ?_, d7.1, ?_⟩
  · obtain ⟨⟨a1, a2, a3⟩, m2, m3, m4, m5, m6, m7, ⟨m8, m8'⟩, m9⟩ := hM
    refine ⟨⟨hn, a2, a3⟩, fun j hj => ⟨(m2 j hj).1, by have := (m2 j hj).2; omega⟩, m3, m4, m5, m6, fun i hi => ?_, ⟨fun i hi => m8 i (by omega), ?_⟩, m9⟩
    · by_cases he : i = nl
      · subst he
        rw [va_up_self, (m8 i (Nat.le_refl _)).1, (m8 i (Nat.le_refl _)).2]
        refine ⟨h1i.1, h1i.2, Int.le_refl _, ?_, Int.le_refl _⟩
        show (10 : Int) * 0 ≤ _
        omega
      · rw [va_up_ne _ _ he]
        exact m7 i (by omega)
    · show gZs mto nl + (mto nl).toInt = gZs maw nl + (maw nl).toInt
      rw [(m8 nl (Nat.le_refl _)).1, (m8 nl (Nat.le_refl _)).2, m8']
  · intro i a hi h
    by_cases he : i = nl
    · subst he
      rw [va_up_self] at h
      injection h with h
      subst h
      exact ⟨List.mem_append_right _ List.mem_cons_self, va_up_self _ _ _⟩
    · rw [va_up_ne _ _ he] at h
      obtain ⟨p1', p2'⟩ := o1 i a hi h
      exact ⟨List.mem_append_left _ p1', by rw [va_up_ne _ _ (hq _ p1')]; exact p2'⟩
  · intro i v hi h
    obtain ⟨p1', p2', b, p3', p4', p5'⟩ := o2 i v hi h
    exact ⟨List.mem_append_left _ p1', by rw [va_up_ne _ _ (hq _ p1')]; exact p2', b, p3', List.mem_append_left _ p4', by rw [va_up_ne _ _ (hq _ p4')]; exact p5'⟩
  · intro a ha hk
    by_cases he : a = q
    · subst he
      rw [va_up_self, va_up_self]
      exact ⟨rfl, fun v hv => absurd hv List.not_mem_nil⟩
    · rw [va_up_ne _ _ he] at hk
      rw [va_up_ne _ _ he, va_up_ne _ _ he]
      have haL : a ∈ Lc := by
        rcases List.mem_append.mp ha with h9 | h9
        · exact h9
        · exact absurd (List.mem_singleton.mp h9) he
      obtain ⟨p1', p2'⟩ := o3 a haL hk
      refine ⟨p1', fun v hv => ⟨List.mem_append_left _ (p2' v hv).1, ?_⟩⟩
      rw [va_up_ne _ _ (hq _ (p2' v hv).1)]
      exact (p2' v hv).2
  · intro i hi
    by_cases he : i = nl
    · subst he; rw [va_up_self, va_up_self]
    · rw [va_up_ne _ _ he, va_up_ne _ _ he]; exact d1.1 i (by omega)
  · intro i hi
    rw [va_up_ne _ _ (by omega)]; exact d1.2 i (by omega)
  · intro i j hi hj h
    by_cases he : i = nl
    · by_cases he2 : j = nl
      · omega
      · rw [he, va_up_self, va_up_ne _ _ he2] at h
        exact absurd h.symm (hLn j (by omega))
    · by_cases he2 : j = nl
      · rw [he2, va_up_self, va_up_ne _ _ he] at h
        exact absurd h (hLn i (by omega))
      · rw [va_up_ne _ _ he, va_up_ne _ _ he2] at h
        exact d3.1 i j (by omega) (by omega) h
  · intro i hi
    by_cases he : i = nl
    · subst he
      have m8 := hM.2.2.2.2.2.2.2.1.1 i (Nat.le_refl _)
      simp only [va_up_self, m8, and_self]
    · have hl : i < nl := by omega
      simp only [va_up_ne _ _ he, va_up_ne _ _ (hLn i hl)]
      exact d4 i hl
  · intro j hj
    obtain ⟨e1, e2, e3, e4, e5⟩ := d5 j hj
    have hl := (hln j hj).2
    refine ⟨?_, e2, e3, e4, ?_⟩
    · rw [va_up_ne _ _ (show lnf j ≠ nl by omega)]; exact e1
    · rw [e5, hEL]
  · intro i hi
    by_cases he : i = nl
    · subst he
      rw [va_up_self, va_up_self, List.filter_eq_nil_iff.mpr]
      · rfl
      · intro v hv
        obtain ⟨k, hk, rfl⟩ := List.mem_map.mp hv
        have := (hln _ (hro k (List.mem_range.mp hk))).2
        simp
        omega
    · rw [va_up_ne _ _ he, va_up_ne _ _ (hLn i (by omega))]
      exact d6 i (by omega)
  · intro a ha hk
    by_cases he : a = q
    · exact ⟨nl, by omega, by rw [he, va_up_self]⟩
    · rw [va_up_ne _ _ he] at hk
      have haL : a ∈ Lc := by
        rcases List.mem_append.mp ha with h9 | h9
        · exact h9
        · exact absurd (List.mem_singleton.mp h9) he
      obtain ⟨i, hi, e⟩ := d7.2 a haL hk
      exact ⟨i, by omega, by rw [va_up_ne _ _ (by omega)]; exact e⟩
theorem gX_addLine {gr sh rt ce : Int32} {nl nv : Nat} {am : Int32} {nc : Nat} {cd : Int32} {bud fsd las isB mto maw lno dya amo rfd ord cpa : Nat → Int32} {lnf orf : Nat → Nat} {lrow vrow : Nat → Option Nat} {pia : Int32} {Lc : List Nat} {Kc : Nat → Nat} {budc fsdc lasc basc mvic mvac : Nat → Int32} {earc vlnc : Nat → Option Nat} {vdac vamc vrfc velc : Nat → Int32} {vnxc : Nat → Option Nat} {ch : Nat → List Nat} {la va : Nat → Nat} (hM : gMI gr sh rt ce nl nv am nc cd bud fsd las isB mto maw lno dya amo rfd ord cpa lnf orf) (hOK : gOK Lc Kc lrow vrow earc vlnc vnxc ch) (hC : gCR Lc Kc nl nv nc bud fsd las isB mto maw dya amo rfd cpa lnf orf lrow vrow pia budc fsdc lasc basc mvic mvac vlnc vdac vamc vrfc velc ch la va) {p0 p1 p2 : Int32} {E : String} (hx : (E = "java/lang/IllegalArgumentException" ∧ ¬ (gIn p0 0 10000000)) ∨ (E = "java/lang/IllegalArgumentException" ∧ gIn p0 0 10000000 ∧ ¬ (gIn p1 0 9999)) ∨ (E = "java/lang/IllegalArgumentException" ∧ gIn p0 0 10000000 ∧ gIn p1 0 9999 ∧ ¬ (gIn p2 p1 9999)) ∨ (E = "java/lang/IllegalStateException" ∧ gIn p0 0 10000000 ∧ gIn p1 0 9999 ∧ gIn p2 p1 9999 ∧ ¬ (nI nl < 12))) : (E = "java/lang/IllegalArgumentException" ∧ cAddLine nl p0 p1 p2 = 1) ∨ (E = "java/lang/IllegalStateException" ∧ cAddLine nl p0 p1 p2 = 2) := by
  rcases hx with ⟨rfl, h⟩ | ⟨rfl, _, h⟩ | ⟨rfl, _, _, h⟩ | ⟨rfl, h1, h2, h3, h5⟩
  · exact Or.inl ⟨rfl, if_neg fun hh => h hh.1⟩
  · exact Or.inl ⟨rfl, if_neg fun hh => h hh.2.1⟩
  · exact Or.inl ⟨rfl, if_neg fun hh => h hh.2.2⟩
  · refine Or.inr ⟨rfl, ?_⟩
    unfold cAddLine
    rw [if_pos ⟨h1, h2, h3⟩, if_neg]
    intro hn
    exact h5 (nI_lt (b := 12) hn (by omega))
theorem gR_extend {cyI cyL cyV : ClassId} {gr sh rt ce : Int32} {nl nv : Nat} {am : Int32} {nc : Nat} {cd : Int32} {bud fsd las isB mto maw lno dya amo rfd ord cpa : Nat → Int32} {lnf orf : Nat → Nat} {g : Nat} {lr vr py : Nat} {lrow vrow : Nat → Option Nat} {pia : Int32} {Lc : List Nat} {Kc : Nat → Nat} {budc fsdc lasc basc mvic mvac : Nat → Int32} {earc vlnc : Nat → Option Nat} {vdac vamc vrfc velc : Nat → Int32} {vnxc : Nat → Option Nat} {ch : Nat → List Nat} {la va : Nat → Nat} (hM : gMI gr sh rt ce nl nv am nc cd bud fsd las isB mto maw lno dya amo rfd ord cpa lnf orf) (hOK : gOK Lc Kc lrow vrow earc vlnc vnxc ch) (hC : gCR Lc Kc nl nv nc bud fsd las isB mto maw dya amo rfd cpa lnf orf lrow vrow pia budc fsdc lasc basc mvic mvac vlnc vdac vamc vrfc velc ch la va) {k0 p1 : Int32} {r : Int32} {u : Nat × (Nat → Int32)} (hw : ∃ a, gHas 12 lrow k0 a ∧ gIn p1 (lasc a) 9999 ∧ u.1 = a ∧ r = lasc a ∧ u.2 = gRk (fsdc a) (va_up lasc a p1 a) vrfc vdac vamc (ch a) (budc a + mvic a - mvac a) velc) : cExtend nl las k0 p1 = 0 ∧ r = las (gIxn k0) ∧ gGP cyI cyL cyV gr sh rt ce nl nv am nc cd bud fsd (va_up las (gIxn k0) p1) isB mto maw lno dya amo rfd ord cpa lnf orf g ((g, .inr (2, [.int gr, .int sh, .int rt, .int ce, .ref lr, .int (nI nl), .ref vr, .int (nI nv), .int am, .ref py, .int (nI nc), .int cd, .int pia])) :: (lr, .inl (cyL, 12, .inr (.inr (.inr (.inr lrow))))) :: (vr, .inl (cyV, 100, .inr (.inr (.inr (.inr vrow))))) :: (py, .inl (cyI, 40, .inl cpa)) :: va_pl Lc (gE Kc budc fsdc (va_up lasc u.1 p1) basc mvic mvac earc vlnc vdac vamc vrfc u.2 vnxc) : va_W) := by
  obtain ⟨a, h1, h2, hu1, rfl, hu2⟩ := hw
  obtain ⟨i, hi, rfl, rfl, h5, h6⟩ := gH_l hM hOK hC h1
  obtain ⟨c1, c2, c3, c4, c5, c6⟩ := hC.2.2.2.1 i hi
  have hv := gT_v hM hC
  have hM2 : gMI gr sh rt ce nl nv am nc cd bud fsd (va_up las i p1) isB mto maw lno dya amo rfd ord cpa lnf orf := hM
  refine ⟨?_, ?_, ?_⟩
  · unfold cExtend
    rw [if_pos h6, h5, if_pos (by rw [← c3]; exact h2)]
  · rw [h5, c3]
  obtain ⟨d1, d2, d3, d4, d5, d6, d7⟩ := hC
  have hch : ch (la i) = (gCk lnf orf i nv).map va := d6 i hi
  have q1 : va_up lasc (la i) p1 (la i) = va_up las i p1 i := gUpr rfl (fun _ => rfl) c3
  rw [q1, c1, c2, c5, c6, hch] at hu2
  rw [h5, hu1]
  refine ⟨hM2, lr, vr, py, lrow, vrow, pia, Lc, Kc, budc, fsdc, va_up lasc (la i) p1, basc, mvic, mvac, earc, vlnc, vdac, vamc, vrfc, u.2, vnxc, ch, la, va, rfl, hOK, d1, d2, d3, fun k hk => ?_, fun j hj => ?_, d6, d7⟩
  · obtain ⟨e1, e2, e3, e4, e5, e6⟩ := d4 k hk
    exact ⟨e1, e2, gUpr rfl (d3.1 k i hk hi) e3, e4, e5, e6⟩
  · obtain ⟨e1, e2, e3, e4, e5⟩ := d5 j hj
    refine ⟨e1, e2, e3, e4, ?_⟩
    have hk := gM_rk hM2 d3.2 hv i velc hj
    rw [← hu2] at hk
    by_cases hl : lnf j = i
    · exact hk.1 hl
    · rw [hk.2 hl, e5, ← gM_e1 hM hj, ← gM_e1 hM2 hj, va_up_ne _ _ hl]
theorem gX_extend {gr sh rt ce : Int32} {nl nv : Nat} {am : Int32} {nc : Nat} {cd : Int32} {bud fsd las isB mto maw lno dya amo rfd ord cpa : Nat → Int32} {lnf orf : Nat → Nat} {lrow vrow : Nat → Option Nat} {pia : Int32} {Lc : List Nat} {Kc : Nat → Nat} {budc fsdc lasc basc mvic mvac : Nat → Int32} {earc vlnc : Nat → Option Nat} {vdac vamc vrfc velc : Nat → Int32} {vnxc : Nat → Option Nat} {ch : Nat → List Nat} {la va : Nat → Nat} (hM : gMI gr sh rt ce nl nv am nc cd bud fsd las isB mto maw lno dya amo rfd ord cpa lnf orf) (hOK : gOK Lc Kc lrow vrow earc vlnc vnxc ch) (hC : gCR Lc Kc nl nv nc bud fsd las isB mto maw dya amo rfd cpa lnf orf lrow vrow pia budc fsdc lasc basc mvic mvac vlnc vdac vamc vrfc velc ch la va) {k0 p1 : Int32} {E : String} (hx : (E = "java/lang/IndexOutOfBoundsException" ∧ ¬ ∃ a, gHas 12 lrow k0 a) ∨ (E = "java/lang/IllegalArgumentException" ∧ ∃ a, gHas 12 lrow k0 a ∧ ¬ (gIn p1 (lasc a) 9999))) : (E = "java/lang/IndexOutOfBoundsException" ∧ cExtend nl las k0 p1 = 1) ∨ (E = "java/lang/IllegalArgumentException" ∧ cExtend nl las k0 p1 = 2) := by
  rcases hx with ⟨rfl, h⟩ | ⟨rfl, a, h1, h2⟩
  · exact Or.inl ⟨rfl, if_neg (gN_l hM hOK hC h)⟩
  · obtain ⟨i, hi, rfl, rfl, h3, h4⟩ := gH_l hM hOK hC h1
    refine Or.inr ⟨rfl, ?_⟩
    unfold cExtend
    rw [if_pos h4, h3, if_neg]
    rw [(hC.2.2.2.1 i hi).2.2.1] at h2
    exact h2
theorem gR_move {cyI cyL cyV : ClassId} {gr sh rt ce : Int32} {nl nv : Nat} {am : Int32} {nc : Nat} {cd : Int32} {bud fsd las isB mto maw lno dya amo rfd ord cpa : Nat → Int32} {lnf orf : Nat → Nat} {g : Nat} {lr vr py : Nat} {lrow vrow : Nat → Option Nat} {pia : Int32} {Lc : List Nat} {Kc : Nat → Nat} {budc fsdc lasc basc mvic mvac : Nat → Int32} {earc vlnc : Nat → Option Nat} {vdac vamc vrfc velc : Nat → Int32} {vnxc : Nat → Option Nat} {ch : Nat → List Nat} {la va : Nat → Nat} (hM : gMI gr sh rt ce nl nv am nc cd bud fsd las isB mto maw lno dya amo rfd ord cpa lnf orf) (hOK : gOK Lc Kc lrow vrow earc vlnc vnxc ch) (hC : gCR Lc Kc nl nv nc bud fsd las isB mto maw dya amo rfd cpa lnf orf lrow vrow pia budc fsdc lasc basc mvic mvac vlnc vdac vamc vrfc velc ch la va) {k0 k1 p2 : Int32} {r : Int32} {u : Nat × Nat × (Nat → Int32)} (hw : ∃ a, gHas 12 lrow k0 a ∧ ∃ b, gHas 12 lrow k1 b ∧ gIn p2 1 10000000 ∧ ¬ some a = some b ∧ mvac a + p2 ≤ budc a / 10 ∧ u.1 = a ∧ u.2.1 = b ∧ r = budc a + (va_up mvic b (mvic b + p2)) a - (va_up mvac a (mvac a + p2)) a ∧ u.2.2 = gRk (fsdc b) (lasc b) vrfc vdac vamc (ch b) (budc b + (va_up mvic b (mvic b + p2)) b - (va_up mvac a (mvac a + p2)) b) (gRk (fsdc a) (lasc a) vrfc vdac vamc (ch a) (budc a + (va_up mvic b (mvic b + p2)) a - (va_up mvac a (mvac a + p2)) a) velc)) : cMove nl bud maw k0 k1 p2 = 0 ∧ r = bud (gIxn k0) + va_up mto (gIxn k1) (mto (gIxn k1) + p2) (gIxn k0) - va_up maw (gIxn k0) (maw (gIxn k0) + p2) (gIxn k0) ∧ gGP cyI cyL cyV gr sh rt ce nl nv am nc cd bud fsd las isB (va_up mto (gIxn k1) (mto (gIxn k1) + p2)) (va_up maw (gIxn k0) (maw (gIxn k0) + p2)) lno dya amo rfd ord cpa lnf orf g ((g, .inr (2, [.int gr, .int sh, .int rt, .int ce, .ref lr, .int (nI nl), .ref vr, .int (nI nv), .int am, .ref py, .int (nI nc), .int cd, .int pia])) :: (lr, .inl (cyL, 12, .inr (.inr (.inr (.inr lrow))))) :: (vr, .inl (cyV, 100, .inr (.inr (.inr (.inr vrow))))) :: (py, .inl (cyI, 40, .inl cpa)) :: va_pl Lc (gE Kc budc fsdc lasc basc (va_up mvic u.2.1 (mvic u.2.1 + p2)) (va_up mvac u.1 (mvac u.1 + p2)) earc vlnc vdac vamc vrfc u.2.2 vnxc) : va_W) := by
  obtain ⟨a, h1, b, h2, h3, h4, h7, hu1, hu2, rfl, hu3⟩ := hw
  obtain ⟨i, hi, rfl, rfl, h5, h6⟩ := gH_l hM hOK hC h1
  obtain ⟨i2, hi2, rfl, rfl, h8, h9⟩ := gH_l hM hOK hC h2
  have hne : i ≠ i2 := fun e => h4 (by rw [e])
  have hla : la i ≠ la i2 := fun e => h4 (by rw [e])
  obtain ⟨c1, c2, c3, c4, c5, c6⟩ := hC.2.2.2.1 i hi
  obtain ⟨g1, g2, g3, g4, g5, g6⟩ := hC.2.2.2.1 i2 hi2
  rw [c1, c6] at h7
  have hv := gT_v hM hC
  have hb := hM.2.2.2.2.2.2.1
  have hp : (1 : Int) ≤ p2.toInt ∧ p2.toInt ≤ 10000000 := gIn_i h3
  have hbi := hb i hi
  have hbj := hb i2 hi2
  have hmj := (gM_rm hM i2 hi2).2.2
  have s1 : (maw i + p2).toInt = (maw i).toInt + p2.toInt := gI_add (by omega) (by omega)
  have s2 := Int32.le_iff_toInt_le.mp h7
  rw [s1, gI_div10 hbi.1] at s2
  have s3 : (mto i2 + p2).toInt = (mto i2).toInt + p2.toInt := gI_add (by omega) (by omega)
  have hM2 : gMI gr sh rt ce nl nv am nc cd bud fsd las isB (va_up mto i2 (mto i2 + p2)) (va_up maw i (maw i + p2)) lno dya amo rfd ord cpa lnf orf := by
    obtain ⟨m1, m2, m3, m4, m5, m6, m7, ⟨m8, m8'⟩, m9⟩ := hM
    refine ⟨m1, m2, m3, m4, m5, m6, fun k hk => ?_, ⟨fun k hk => ?_, ?_⟩, m9⟩
    · have hbk := hb k hk
      refine ⟨hbk.1, hbk.2.1, ?_⟩
      have t1 : 0 ≤ (va_up maw i (maw i + p2) k).toInt ∧ 10 * (va_up maw i (maw i + p2) k).toInt ≤ (bud k).toInt := by
        by_cases he : k = i
        · subst he; rw [va_up_self, s1]; omega
        · rw [va_up_ne _ _ he]; omega
      have t2 : 0 ≤ (va_up mto i2 (mto i2 + p2) k).toInt := by
        by_cases he : k = i2
        · subst he; rw [va_up_self, s3]; omega
        · rw [va_up_ne _ _ he]; omega
      exact ⟨t1.1, t1.2, t2⟩
    · rw [va_up_ne _ _ (by omega), va_up_ne _ _ (by omega)]
      exact m8 k hk
    · rw [gZs_up hi2, gZs_up hi, s1, s3]
      omega
  have q1 : va_up mvic (la i2) (mvic (la i2) + p2) (la i2) = va_up mto i2 (mto i2 + p2) i2 := gUpr (by rw [g5]) (fun _ => rfl) g5
  have q2 : va_up mvic (la i2) (mvic (la i2) + p2) (la i) = va_up mto i2 (mto i2 + p2) i := gUpr (by rw [g5]) (fun e => absurd e hla) c5
  have q3 : va_up mvac (la i) (mvac (la i) + p2) (la i) = va_up maw i (maw i + p2) i := gUpr (by rw [c6]) (fun _ => rfl) c6
  have q4 : va_up mvac (la i) (mvac (la i) + p2) (la i2) = va_up maw i (maw i + p2) i2 := gUpr (by rw [c6]) (fun e => absurd e.symm hla) g6
  refine ⟨?_, ?_, ?_⟩
  · unfold cMove
    rw [if_pos ⟨h6, h9⟩, if_pos, h5, if_pos h7]
    refine ⟨h3, fun e => hne ?_⟩
    have := hM.1.1
    exact (nI_eq (by omega) (by omega)).mp e
  · rw [q2, q3, h5, h8, c1]
  obtain ⟨d1, d2, d3, d4, d5, d6, d7⟩ := hC
  have hch : ch (la i) = (gCk lnf orf i nv).map va := d6 i hi
  have hch2 : ch (la i2) = (gCk lnf orf i2 nv).map va := d6 i2 hi2
  rw [q1, q2, q3, q4, c1, c2, c3, g1, g2, g3, hch, hch2] at hu3
  rw [h5, h8, hu1, hu2]
  refine ⟨hM2, lr, vr, py, lrow, vrow, pia, Lc, Kc, budc, fsdc, lasc, basc, va_up mvic (la i2) (mvic (la i2) + p2), va_up mvac (la i) (mvac (la i) + p2), earc, vlnc, vdac, vamc, vrfc, u.2.2, vnxc, ch, la, va, rfl, hOK, d1, d2, d3, fun k hk => ?_, fun j hj => ?_, d6, d7⟩
  · obtain ⟨e1, e2, e3, e4, e5, e6⟩ := d4 k hk
    exact ⟨e1, e2, e3, e4, gUpr (by rw [g5]) (d3.1 k i2 hk hi2) e5, gUpr (by rw [c6]) (d3.1 k i hk hi) e6⟩
  · obtain ⟨e1, e2, e3, e4, e5⟩ := d5 j hj
    refine ⟨e1, e2, e3, e4, ?_⟩
    have hk := gM_rk hM2 d3.2 hv i velc hj
    have hk2 := gM_rk hM2 d3.2 hv i2 (gRk (fsd i) (las i) vrfc vdac vamc ((gCk lnf orf i nv).map va) (bud i + va_up mto i2 (mto i2 + p2) i - va_up maw i (maw i + p2) i) velc) hj
    rw [← hu3] at hk2
    by_cases hl : lnf j = i2
    · exact hk2.1 hl
    · rw [hk2.2 hl]
      by_cases hl2 : lnf j = i
      · exact hk.1 hl2
      · rw [hk.2 hl2, e5, ← gM_e1 hM hj, ← gM_e1 hM2 hj, va_up_ne _ _ hl, va_up_ne _ _ hl2]
theorem gX_move {gr sh rt ce : Int32} {nl nv : Nat} {am : Int32} {nc : Nat} {cd : Int32} {bud fsd las isB mto maw lno dya amo rfd ord cpa : Nat → Int32} {lnf orf : Nat → Nat} {lrow vrow : Nat → Option Nat} {pia : Int32} {Lc : List Nat} {Kc : Nat → Nat} {budc fsdc lasc basc mvic mvac : Nat → Int32} {earc vlnc : Nat → Option Nat} {vdac vamc vrfc velc : Nat → Int32} {vnxc : Nat → Option Nat} {ch : Nat → List Nat} {la va : Nat → Nat} (hM : gMI gr sh rt ce nl nv am nc cd bud fsd las isB mto maw lno dya amo rfd ord cpa lnf orf) (hOK : gOK Lc Kc lrow vrow earc vlnc vnxc ch) (hC : gCR Lc Kc nl nv nc bud fsd las isB mto maw dya amo rfd cpa lnf orf lrow vrow pia budc fsdc lasc basc mvic mvac vlnc vdac vamc vrfc velc ch la va) {k0 k1 p2 : Int32} {E : String} (hx : (E = "java/lang/IndexOutOfBoundsException" ∧ ¬ ∃ a, gHas 12 lrow k0 a) ∨ (E = "java/lang/IndexOutOfBoundsException" ∧ ∃ a, gHas 12 lrow k0 a ∧ ¬ ∃ b, gHas 12 lrow k1 b) ∨ (E = "java/lang/IllegalArgumentException" ∧ ∃ a, gHas 12 lrow k0 a ∧ ∃ b, gHas 12 lrow k1 b ∧ ¬ (gIn p2 1 10000000)) ∨ (E = "java/lang/IllegalArgumentException" ∧ ∃ a, gHas 12 lrow k0 a ∧ ∃ b, gHas 12 lrow k1 b ∧ gIn p2 1 10000000 ∧ ¬ (¬ some a = some b)) ∨ (E = "java/lang/IllegalStateException" ∧ ∃ a, gHas 12 lrow k0 a ∧ ∃ b, gHas 12 lrow k1 b ∧ gIn p2 1 10000000 ∧ ¬ some a = some b ∧ ¬ (mvac a + p2 ≤ budc a / 10))) : (E = "java/lang/IndexOutOfBoundsException" ∧ cMove nl bud maw k0 k1 p2 = 1) ∨ (E = "java/lang/IllegalArgumentException" ∧ cMove nl bud maw k0 k1 p2 = 2) ∨ (E = "java/lang/IllegalStateException" ∧ cMove nl bud maw k0 k1 p2 = 3) := by
  rcases hx with ⟨rfl, h⟩ | ⟨rfl, a, h1, h⟩ | ⟨rfl, a, h1, b, h2, h⟩ | ⟨rfl, a, h1, b, h2, h3, h⟩ | ⟨rfl, a, h1, b, h2, h3, h4, h⟩
  · exact Or.inl ⟨rfl, if_neg fun hh => gN_l hM hOK hC h hh.1⟩
  · exact Or.inl ⟨rfl, if_neg fun hh => gN_l hM hOK hC h hh.2⟩
  · obtain ⟨i, hi, rfl, rfl, h5, h6⟩ := gH_l hM hOK hC h1
    obtain ⟨i2, hi2, rfl, rfl, h7, h8⟩ := gH_l hM hOK hC h2
    refine Or.inr (Or.inl ⟨rfl, ?_⟩)
    unfold cMove
    rw [if_pos ⟨h6, h8⟩, if_neg fun hh => h hh.1]
  · obtain ⟨i, hi, rfl, rfl, h5, h6⟩ := gH_l hM hOK hC h1
    obtain ⟨i2, hi2, rfl, rfl, h7, h8⟩ := gH_l hM hOK hC h2
    refine Or.inr (Or.inl ⟨rfl, ?_⟩)
    unfold cMove
    rw [if_pos ⟨h6, h8⟩, if_neg]
    intro hh
    have h9 : some (la i) = some (la i2) := Classical.byContradiction h
    injection h9 with h9
    exact hh.2 (congrArg nI (hC.2.2.1.1 i i2 hi hi2 h9))
  · obtain ⟨i, hi, rfl, rfl, h5, h6⟩ := gH_l hM hOK hC h1
    obtain ⟨i2, hi2, rfl, rfl, h7, h8⟩ := gH_l hM hOK hC h2
    refine Or.inr (Or.inr ⟨rfl, ?_⟩)
    unfold cMove
    rw [if_pos ⟨h6, h8⟩, if_pos, h5, if_neg]
    · obtain ⟨c1, -, -, -, -, c6⟩ := hC.2.2.2.1 i hi
      rw [c1, c6] at h
      exact h
    · refine ⟨h3, fun e => h4 ?_⟩
      have := hM.1.1
      rw [(nI_eq (by omega) (by omega)).mp e]
theorem gR_room {cyI cyL cyV : ClassId} {gr sh rt ce : Int32} {nl nv : Nat} {am : Int32} {nc : Nat} {cd : Int32} {bud fsd las isB mto maw lno dya amo rfd ord cpa : Nat → Int32} {lnf orf : Nat → Nat} {g : Nat} {lr vr py : Nat} {lrow vrow : Nat → Option Nat} {pia : Int32} {Lc : List Nat} {Kc : Nat → Nat} {budc fsdc lasc basc mvic mvac : Nat → Int32} {earc vlnc : Nat → Option Nat} {vdac vamc vrfc velc : Nat → Int32} {vnxc : Nat → Option Nat} {ch : Nat → List Nat} {la va : Nat → Nat} (hM : gMI gr sh rt ce nl nv am nc cd bud fsd las isB mto maw lno dya amo rfd ord cpa lnf orf) (hOK : gOK Lc Kc lrow vrow earc vlnc vnxc ch) (hC : gCR Lc Kc nl nv nc bud fsd las isB mto maw dya amo rfd cpa lnf orf lrow vrow pia budc fsdc lasc basc mvic mvac vlnc vdac vamc vrfc velc ch la va) {k0 : Int32} {r : Int32} {u : Unit} (hw : ∃ a, gHas 12 lrow k0 a ∧ r = budc a + mvic a - mvac a) : cNum nl k0 = 0 ∧ r = bud (gIxn k0) + mto (gIxn k0) - maw (gIxn k0) ∧ gGP cyI cyL cyV gr sh rt ce nl nv am nc cd bud fsd las isB mto maw lno dya amo rfd ord cpa lnf orf g ((g, .inr (2, [.int gr, .int sh, .int rt, .int ce, .ref lr, .int (nI nl), .ref vr, .int (nI nv), .int am, .ref py, .int (nI nc), .int cd, .int pia])) :: (lr, .inl (cyL, 12, .inr (.inr (.inr (.inr lrow))))) :: (vr, .inl (cyV, 100, .inr (.inr (.inr (.inr vrow))))) :: (py, .inl (cyI, 40, .inl cpa)) :: va_pl Lc (gE Kc budc fsdc lasc basc mvic mvac earc vlnc vdac vamc vrfc velc vnxc) : va_W) := by
  obtain ⟨a, h1, rfl⟩ := hw
  obtain ⟨i, hi, rfl, rfl, h5, h6⟩ := gH_l hM hOK hC h1
  obtain ⟨c1, -, -, -, c5, c6⟩ := hC.2.2.2.1 i hi
  refine ⟨if_pos h6, ?_, hM, lr, vr, py, lrow, vrow, pia, Lc, Kc, budc, fsdc, lasc, basc, mvic, mvac, earc, vlnc, vdac, vamc, vrfc, velc, vnxc, ch, la, va, rfl, hOK, hC⟩
  rw [h5, c1, c5, c6]
theorem gX_room {gr sh rt ce : Int32} {nl nv : Nat} {am : Int32} {nc : Nat} {cd : Int32} {bud fsd las isB mto maw lno dya amo rfd ord cpa : Nat → Int32} {lnf orf : Nat → Nat} {lrow vrow : Nat → Option Nat} {pia : Int32} {Lc : List Nat} {Kc : Nat → Nat} {budc fsdc lasc basc mvic mvac : Nat → Int32} {earc vlnc : Nat → Option Nat} {vdac vamc vrfc velc : Nat → Int32} {vnxc : Nat → Option Nat} {ch : Nat → List Nat} {la va : Nat → Nat} (hM : gMI gr sh rt ce nl nv am nc cd bud fsd las isB mto maw lno dya amo rfd ord cpa lnf orf) (hOK : gOK Lc Kc lrow vrow earc vlnc vnxc ch) (hC : gCR Lc Kc nl nv nc bud fsd las isB mto maw dya amo rfd cpa lnf orf lrow vrow pia budc fsdc lasc basc mvic mvac vlnc vdac vamc vrfc velc ch la va) {k0 : Int32} {E : String} (hx : (E = "java/lang/IndexOutOfBoundsException" ∧ ¬ ∃ a, gHas 12 lrow k0 a)) : (E = "java/lang/IndexOutOfBoundsException" ∧ cNum nl k0 = 1) := by
  obtain ⟨rfl, h⟩ := hx
  exact ⟨rfl, if_neg (gN_l hM hOK hC h)⟩
theorem gR_left {cyI cyL cyV : ClassId} {gr sh rt ce : Int32} {nl nv : Nat} {am : Int32} {nc : Nat} {cd : Int32} {bud fsd las isB mto maw lno dya amo rfd ord cpa : Nat → Int32} {lnf orf : Nat → Nat} {g : Nat} {lr vr py : Nat} {lrow vrow : Nat → Option Nat} {pia : Int32} {Lc : List Nat} {Kc : Nat → Nat} {budc fsdc lasc basc mvic mvac : Nat → Int32} {earc vlnc : Nat → Option Nat} {vdac vamc vrfc velc : Nat → Int32} {vnxc : Nat → Option Nat} {ch : Nat → List Nat} {la va : Nat → Nat} (hM : gMI gr sh rt ce nl nv am nc cd bud fsd las isB mto maw lno dya amo rfd ord cpa lnf orf) (hOK : gOK Lc Kc lrow vrow earc vlnc vnxc ch) (hC : gCR Lc Kc nl nv nc bud fsd las isB mto maw dya amo rfd cpa lnf orf lrow vrow pia budc fsdc lasc basc mvic mvac vlnc vdac vamc vrfc velc ch la va) {k0 : Int32} {r : Int32} {u : Unit} (hw : ∃ a, gHas 12 lrow k0 a ∧ r = budc a + mvic a - mvac a - gSu velc vdac 9999 (ch a) 0) : cNum nl k0 = 0 ∧ r = bud (gIxn k0) + mto (gIxn k0) - maw (gIxn k0) - (gUS (fun l => bud l + mto l - maw l) (fun v => gAcc (fsd (lnf v)) (las (lnf v)) (rfd v) (dya v)) lnf amo orf nv) (gIxn k0) ∧ gGP cyI cyL cyV gr sh rt ce nl nv am nc cd bud fsd las isB mto maw lno dya amo rfd ord cpa lnf orf g ((g, .inr (2, [.int gr, .int sh, .int rt, .int ce, .ref lr, .int (nI nl), .ref vr, .int (nI nv), .int am, .ref py, .int (nI nc), .int cd, .int pia])) :: (lr, .inl (cyL, 12, .inr (.inr (.inr (.inr lrow))))) :: (vr, .inl (cyV, 100, .inr (.inr (.inr (.inr vrow))))) :: (py, .inl (cyI, 40, .inl cpa)) :: va_pl Lc (gE Kc budc fsdc lasc basc mvic mvac earc vlnc vdac vamc vrfc velc vnxc) : va_W) := by
  obtain ⟨a, h1, rfl⟩ := hw
  obtain ⟨i, hi, rfl, rfl, h5, h6⟩ := gH_l hM hOK hC h1
  obtain ⟨c1, -, -, -, c5, c6⟩ := hC.2.2.2.1 i hi
  refine ⟨if_pos h6, ?_, hM, lr, vr, py, lrow, vrow, pia, Lc, Kc, budc, fsdc, lasc, basc, mvic, mvac, earc, vlnc, vdac, vamc, vrfc, velc, vnxc, ch, la, va, rfl, hOK, hC⟩
  rw [h5, c1, c5, c6, gM_us hM hC.2.2.1.2 (gT_v hM hC) hi, hC.2.2.2.2.2.1 i hi]
  have hv := hC.2.2.2.2.1
  have h2 := gSu_LS (vel := velc) (vda := vdac) (el := (gEL (fun l => bud l + mto l - maw l) (fun v => gAcc (fsd (lnf v)) (las (lnf v)) (rfd v) (dya v)) lnf amo orf nv)) (dya := dya) (va := va) (d := 9999) (w := gCk lnf orf i nv) (fun v hm => ⟨(hv v (gM_cl hM hm)).2.2.2.2, (hv v (gM_cl hM hm)).2.1⟩) (gM_so hM i)
  refine congrArg _ (h2.trans (gLS_congr fun v hm => if_neg ?_))
  have := (hM.2.2.2.2.2.2.2.2.1 v (gM_cl hM hm)).2.2.2
  rw [Int32.lt_iff_toInt_lt]
  show ¬ ((9999 : Int) < _)
  omega
theorem gX_left {gr sh rt ce : Int32} {nl nv : Nat} {am : Int32} {nc : Nat} {cd : Int32} {bud fsd las isB mto maw lno dya amo rfd ord cpa : Nat → Int32} {lnf orf : Nat → Nat} {lrow vrow : Nat → Option Nat} {pia : Int32} {Lc : List Nat} {Kc : Nat → Nat} {budc fsdc lasc basc mvic mvac : Nat → Int32} {earc vlnc : Nat → Option Nat} {vdac vamc vrfc velc : Nat → Int32} {vnxc : Nat → Option Nat} {ch : Nat → List Nat} {la va : Nat → Nat} (hM : gMI gr sh rt ce nl nv am nc cd bud fsd las isB mto maw lno dya amo rfd ord cpa lnf orf) (hOK : gOK Lc Kc lrow vrow earc vlnc vnxc ch) (hC : gCR Lc Kc nl nv nc bud fsd las isB mto maw dya amo rfd cpa lnf orf lrow vrow pia budc fsdc lasc basc mvic mvac vlnc vdac vamc vrfc velc ch la va) {k0 : Int32} {E : String} (hx : (E = "java/lang/IndexOutOfBoundsException" ∧ ¬ ∃ a, gHas 12 lrow k0 a)) : (E = "java/lang/IndexOutOfBoundsException" ∧ cNum nl k0 = 1) := by
  obtain ⟨rfl, h⟩ := hx
  exact ⟨rfl, if_neg (gN_l hM hOK hC h)⟩
theorem gR_spend {cyI cyL cyV : ClassId} {gr sh rt ce : Int32} {nl nv : Nat} {am : Int32} {nc : Nat} {cd : Int32} {bud fsd las isB mto maw lno dya amo rfd ord cpa : Nat → Int32} {lnf orf : Nat → Nat} {g : Nat} {lr vr py : Nat} {lrow vrow : Nat → Option Nat} {pia : Int32} {Lc : List Nat} {Kc : Nat → Nat} {budc fsdc lasc basc mvic mvac : Nat → Int32} {earc vlnc : Nat → Option Nat} {vdac vamc vrfc velc : Nat → Int32} {vnxc : Nat → Option Nat} {ch : Nat → List Nat} {la va : Nat → Nat} (hM : gMI gr sh rt ce nl nv am nc cd bud fsd las isB mto maw lno dya amo rfd ord cpa lnf orf) (hOK : gOK Lc Kc lrow vrow earc vlnc vnxc ch) (hC : gCR Lc Kc nl nv nc bud fsd las isB mto maw dya amo rfd cpa lnf orf lrow vrow pia budc fsdc lasc basc mvic mvac vlnc vdac vamc vrfc velc ch la va) {k0 p1 p2 : Int32} {r : Int32} {u : Nat × Nat × (Nat → Option Nat) × (Nat → Option Nat) × (Nat → Int32)} (hw : ∃ a, gHas 12 lrow k0 a ∧ gIn p1 0 9999 ∧ gIn p2 1 10000000 ∧ nI nv < 100 ∧ u.1 = a ∧ r = nI nv ∧ u.2.1 ∉ Lc ∧ gCh u.2.2.2.1 (u.2.2.1 a) (gFr (va_up vdac u.2.1 p1) ((va_up vdac u.2.1 p1) u.2.1) (ch a) ++ u.2.1 :: gBk (va_up vdac u.2.1 p1) ((va_up vdac u.2.1 p1) u.2.1) (ch a)) ∧ (∀ y, y ∉ u.2.1 :: ch a → u.2.2.2.1 y = va_up vnxc u.2.1 none y) ∧ (∀ y, y ≠ a → u.2.2.1 y = earc y) ∧ u.2.2.2.2 = gRk (fsdc a) (lasc a) (va_up vrfc u.2.1 0) (va_up vdac u.2.1 p1) (va_up vamc u.2.1 p2) (gFr (va_up vdac u.2.1 p1) ((va_up vdac u.2.1 p1) u.2.1) (ch a) ++ u.2.1 :: gBk (va_up vdac u.2.1 p1) ((va_up vdac u.2.1 p1) u.2.1) (ch a)) (budc a + mvic a - mvac a) (va_up velc u.2.1 0)) : cSpend nl nv k0 p1 p2 = 0 ∧ r = nI nv ∧ gGP cyI cyL cyV gr sh rt ce nl (nv + 1) am nc cd bud fsd las isB mto maw (va_up lno nv k0) (va_up dya nv p1) (va_up amo nv p2) rfd (gIs nv (va_up dya nv p1) p1 nv ord) cpa (va_up lnf nv (gIxn k0)) (gIn9 nv (va_up dya nv p1) p1 nv orf) g ((g, .inr (2, [.int gr, .int sh, .int rt, .int ce, .ref lr, .int (nI nl), .ref vr, .int (nI (nv + 1)), .int am, .ref py, .int (nI nc), .int cd, .int pia])) :: (lr, .inl (cyL, 12, .inr (.inr (.inr (.inr lrow))))) :: (vr, .inl (cyV, 100, .inr (.inr (.inr (.inr (va_up vrow nv (some u.2.1))))))) :: (py, .inl (cyI, 40, .inl cpa)) :: va_pl (Lc ++ [u.2.1]) (gE (va_up Kc u.2.1 1) budc fsdc lasc basc mvic mvac u.2.2.1 (va_up vlnc u.2.1 (some u.1)) (va_up vdac u.2.1 p1) (va_up vamc u.2.1 p2) (va_up vrfc u.2.1 0) u.2.2.2.2 u.2.2.2.1) : va_W) := by
  obtain ⟨u1, q, ear', vnx', vel'⟩ := u
  dsimp only at hw ⊢
  obtain ⟨a, h1, h2, h3, h4, hu1, rfl, hq, hch1, hfr1, hfr2, hvel⟩ := hw
  obtain ⟨i, hi, rfl, rfl, h5, h6⟩ := gH_l hM hOK hC h1
  have hn : nv < 100 := by
    have := hM.1.2.1
    exact (nI_ltI (b := 100) (by omega) (by omega)).mp h4
  subst hu1
  rw [va_up_self] at hch1 hvel
  rw [h5]
  obtain ⟨hM9, hl9⟩ := gSp_M hM hi h2 h3 hn
  obtain ⟨hk1, hk2⟩ := gSp_ck hM (i := i) (p1 := p1) hl9
  have hv := gT_v hM hC
  obtain ⟨o1, o2, o3⟩ := hOK
  obtain ⟨d1, d2, d3, d4, d5, d6, d7, d8⟩ := hC
  obtain ⟨c1, c2, c3, c4, c5, c6⟩ := d4 i hi
  have hLq : ∀ x, x ∈ Lc → x ≠ q := fun x hx e => hq (e ▸ hx)
  have hva : ∀ j, j < nv → va j ∈ Lc := fun j hj => (o2 j _ (by omega) (d2.1 j hj)).1
  have hvq : ∀ j, j < nv → va j ≠ q := fun j hj => hLq _ (hva j hj)
  have hlb : ∀ b, b < nl → la b ∈ Lc ∧ Kc (la b) = 0 := fun b hb => o1 b _ (by have := hM.1.1; omega) (d1.1 b hb)
  have hv' : ∀ j, j < nv → (va_up va nv q) j = va j := fun j hj => va_up_ne _ _ (by omega)
  have hmv : ∀ b, (gCk lnf orf b nv).map (va_up va nv q) = (gCk lnf orf b nv).map va := fun b => List.map_congr_left fun v hm => hv' v (gM_cl hM hm)
  have hv9 : ∀ j, j < nv + 1 → va_up vdac q p1 ((va_up va nv q) j) = va_up dya nv p1 j ∧ va_up vamc q p2 ((va_up va nv q) j) = va_up amo nv p2 j ∧ va_up vrfc q 0 ((va_up va nv q) j) = rfd j := fun j hj => by
    by_cases he : j = nv
    · subst he
      simp only [va_up_self, true_and]
      exact (hM.2.2.2.2.2.1.2 j (Nat.le_refl _)).symm
    · have hj2 : j < nv := by omega
      rw [hv' j hj2, va_up_ne _ _ (hvq j hj2), va_up_ne _ _ (hvq j hj2), va_up_ne _ _ (hvq j hj2), va_up_ne _ _ he, va_up_ne _ _ he]
      exact hv j hj2
  have hinj : ∀ j k, j < nv + 1 → k < nv + 1 → (va_up va nv q) j = (va_up va nv q) k → j = k := fun j k hj hk h => by
    by_cases he : j = nv
    · by_cases he2 : k = nv
      · omega
      · rw [he, va_up_self, hv' k (by omega)] at h
        exact absurd h.symm (hvq k (by omega))
    · by_cases he2 : k = nv
      · rw [he2, va_up_self, hv' j (by omega)] at h
        exact absurd h (hvq j (by omega))
      · rw [hv' j (by omega), hv' k (by omega)] at h
        exact d3.2 j k (by omega) (by omega) h
  have hN : (gFr (va_up vdac q p1) p1 (ch (la i)) ++ q :: gBk (va_up vdac q p1) p1 (ch (la i))) = (gCk (va_up lnf nv i) (gIn9 nv (va_up dya nv p1) p1 nv orf) i (nv + 1)).map (va_up va nv q) := by
    have hci : ch (la i) = (gCk lnf orf i nv).map (va_up va nv q) := by rw [hmv]; exact d6 i hi
    obtain ⟨e1, e2⟩ := gFr_map (D := va_up dya nv p1) (V := va_up vdac q p1) (d := p1) (va := (va_up va nv q)) (w := gCk lnf orf i nv) (fun v hm => (hv9 v (by have := gM_cl hM hm; omega)).1)
    rw [hk1, hci, e1, e2, List.map_append, List.map_cons, va_up_self]
  have hoth : ∀ b, b < nl → ¬ b = i → ch (la b) = (gCk (va_up lnf nv i) (gIn9 nv (va_up dya nv p1) p1 nv orf) b (nv + 1)).map (va_up va nv q) := fun b hb hne => by
    rw [hk2 b hne, hmv]
    exact d6 b hb
  have hEL : ∀ j, j < nv → ¬ lnf j = i → (gEL (fun l => bud l + mto l - maw l) (fun v => gAcc (fsd (lnf v)) (las (lnf v)) (rfd v) (dya v)) lnf amo orf nv) j = (gEL (fun l => bud l + mto l - maw l) (fun v => gAcc (fsd ((va_up lnf nv i) v)) (las ((va_up lnf nv i) v)) (rfd v) ((va_up dya nv p1) v)) (va_up lnf nv i) (va_up amo nv p2) (gIn9 nv (va_up dya nv p1) p1 nv orf) (nv + 1)) j := fun j hj hne => by
    rw [← gM_e1 hM hj, ← gM_e1 hM9 (j := j) (by omega), va_up_ne lnf _ (show j ≠ nv by omega), hk2 _ hne]
    refine congrFun (gRk_congr fun v hm => ⟨rfl, ?_, ?_⟩) j
    · exact (va_up_ne _ _ (by have := gM_cl hM hm; omega)).symm
    · exact (va_up_ne _ _ (by have := gM_cl hM hm; omega)).symm
  refine ⟨?_, rfl, hM9, lr, vr, py, lrow, va_up vrow nv (some q), pia, Lc ++ [q], va_up Kc q 1, budc, fsdc, lasc, basc, mvic, mvac, ear', va_up vlnc q (some (la i)), va_up vdac q p1, va_up vamc q p2, va_up vrfc q 0, vel', vnx', va_up ch (la i) (gFr (va_up vdac q p1) p1 (ch (la i)) ++ q :: gBk (va_up vdac q p1) p1 (ch (la i))), la, va_up va nv q, rfl, ⟨?_, ?_, ?_⟩, d1, ⟨?_, ?_⟩, ⟨d3.1, hinj⟩, d4, ?_, ?_, d7, ?_⟩
  · unfold cSpend
    rw [if_pos h6, if_pos ⟨h2, h3⟩, if_pos hn]
  · intro k a hk h
    obtain ⟨x1, x2⟩ := o1 k a hk h
    exact ⟨List.mem_append_left _ x1, by rw [va_up_ne _ _ (hLq _ x1)]; exact x2⟩
  · intro k v hk h
    by_cases he : k = nv
    · subst he
      rw [va_up_self] at h
      injection h with h
      subst h
      refine ⟨List.mem_append_right _ List.mem_cons_self, va_up_self _ _ _, la i, va_up_self _ _ _, List.mem_append_left _ (hlb i hi).1, ?_⟩
      rw [va_up_ne _ _ (hLq _ (hlb i hi).1)]
      exact (hlb i hi).2
    · rw [va_up_ne _ _ he] at h
      obtain ⟨x1, x2, b, x3, x4, x5⟩ := o2 k v hk h
      refine ⟨List.mem_append_left _ x1, by rw [va_up_ne _ _ (hLq _ x1)]; exact x2, b, by rw [va_up_ne _ _ (hLq _ x1)]; exact x3, List.mem_append_left _ x4, by rw [va_up_ne _ _ (hLq _ x4)]; exact x5⟩
  · intro a ha hk
    by_cases he : a = q
    · subst he
      rw [va_up_self] at hk
      exact absurd hk (by decide)
    rw [va_up_ne _ _ he] at hk
    have haL : a ∈ Lc := by
      rcases List.mem_append.mp ha with h9 | h9
      · exact h9
      · exact absurd (List.mem_singleton.mp h9) he
    by_cases hai : a = la i
    · subst hai
      rw [va_up_self]
      refine ⟨hch1, fun v hm => ?_⟩
      have hm2 : v = q ∨ v ∈ ch (la i) := by
        have hFB := gFB (va_up vdac q p1) p1 (ch (la i))
        rw [← hFB]
        rcases List.mem_append.mp hm with h9 | h9
        · exact Or.inr (List.mem_append_left _ h9)
        · rcases List.mem_cons.mp h9 with h9 | h9
          · exact Or.inl h9
          · exact Or.inr (List.mem_append_right _ h9)
      rcases hm2 with rfl | hm2
      · exact ⟨List.mem_append_right _ List.mem_cons_self, va_up_self _ _ _⟩
      · obtain ⟨x1, x2⟩ := (o3 _ haL hk).2 v hm2
        exact ⟨List.mem_append_left _ x1, by rw [va_up_ne _ _ (hLq _ x1)]; exact x2⟩
    · rw [va_up_ne _ _ hai, hfr2 a hai]
      obtain ⟨x1, x2⟩ := o3 a haL hk
      obtain ⟨b, hb, rfl⟩ := d8 a haL hk
      have hbi : b ≠ i := fun e => hai (by rw [e])
      refine ⟨gCh_congr x1 (fun y hy => ?_), fun v hm => ⟨List.mem_append_left _ (x2 v hm).1, by rw [va_up_ne _ _ (hLq _ (x2 v hm).1)]; exact (x2 v hm).2⟩⟩
      have hyq := hLq _ (x2 y hy).1
      rw [hfr1 y ?_, va_up_ne _ _ hyq]
      intro hm
      rcases List.mem_cons.mp hm with h9 | h9
      · exact hyq h9
      · rw [show ch (la b) = (gCk lnf orf b nv).map va from d6 b hb] at hy
        rw [show ch (la i) = (gCk lnf orf i nv).map va from d6 i hi] at h9
        obtain ⟨v1, y1, y2⟩ := List.mem_map.mp hy
        obtain ⟨v2, y3, y4⟩ := List.mem_map.mp h9
        have := d3.2 v1 v2 (gM_cl hM y1) (gM_cl hM y3) (y2.trans y4.symm)
        subst this
        exact hbi ((gCk_m.mp y1).2.symm.trans (gCk_m.mp y3).2)
  · intro j hj
    by_cases he : j = nv
    · subst he; rw [va_up_self, va_up_self]
    · rw [va_up_ne _ _ he, va_up_ne _ _ he]; exact d2.1 j (by omega)
  · intro j hj
    rw [va_up_ne _ _ (by omega)]; exact d2.2 j (by omega)
  · intro j hj
    obtain ⟨y1, y2, y3⟩ := hv9 j hj
    refine ⟨?_, y1, y2, y3, ?_⟩
    · by_cases he : j = nv
      · subst he; simp only [va_up_self]
      · rw [hv' j (by omega), va_up_ne _ _ (hvq j (by omega)), va_up_ne _ _ he]
        exact (d5 j (by omega)).1
    · rw [c1, c2, c3, c5, c6, hN] at hvel
      have hk := gM_rk hM9 hinj hv9 i (va_up velc q 0) hj
      rw [← hvel] at hk
      by_cases hl : va_up lnf nv i j = i
      · exact hk.1 hl
      · rw [hk.2 hl]
        have hjn : j ≠ nv := fun e => hl (by rw [e, va_up_self])
        rw [va_up_ne _ _ hjn] at hl
        rw [hv' j (by omega), va_up_ne _ _ (hvq j (by omega)), (d5 j (by omega)).2.2.2.2]
        exact hEL j (by omega) hl
  · intro b hb
    by_cases he : b = i
    · subst he
      rw [va_up_self]
      exact hN
    · rw [va_up_ne _ _ (fun e => he (d3.1 b i hb hi e))]
      exact hoth b hb he
  · intro a ha hk
    by_cases he : a = q
    · subst he
      rw [va_up_self] at hk
      exact absurd hk (by decide)
    · rw [va_up_ne _ _ he] at hk
      have haL : a ∈ Lc := by
        rcases List.mem_append.mp ha with h9 | h9
        · exact h9
        · exact absurd (List.mem_singleton.mp h9) he
      exact d8 a haL hk
theorem gX_spend {gr sh rt ce : Int32} {nl nv : Nat} {am : Int32} {nc : Nat} {cd : Int32} {bud fsd las isB mto maw lno dya amo rfd ord cpa : Nat → Int32} {lnf orf : Nat → Nat} {lrow vrow : Nat → Option Nat} {pia : Int32} {Lc : List Nat} {Kc : Nat → Nat} {budc fsdc lasc basc mvic mvac : Nat → Int32} {earc vlnc : Nat → Option Nat} {vdac vamc vrfc velc : Nat → Int32} {vnxc : Nat → Option Nat} {ch : Nat → List Nat} {la va : Nat → Nat} (hM : gMI gr sh rt ce nl nv am nc cd bud fsd las isB mto maw lno dya amo rfd ord cpa lnf orf) (hOK : gOK Lc Kc lrow vrow earc vlnc vnxc ch) (hC : gCR Lc Kc nl nv nc bud fsd las isB mto maw dya amo rfd cpa lnf orf lrow vrow pia budc fsdc lasc basc mvic mvac vlnc vdac vamc vrfc velc ch la va) {k0 p1 p2 : Int32} {E : String} (hx : (E = "java/lang/IndexOutOfBoundsException" ∧ ¬ ∃ a, gHas 12 lrow k0 a) ∨ (E = "java/lang/IllegalArgumentException" ∧ ∃ a, gHas 12 lrow k0 a ∧ ¬ (gIn p1 0 9999)) ∨ (E = "java/lang/IllegalArgumentException" ∧ ∃ a, gHas 12 lrow k0 a ∧ gIn p1 0 9999 ∧ ¬ (gIn p2 1 10000000)) ∨ (E = "java/lang/IllegalStateException" ∧ ∃ a, gHas 12 lrow k0 a ∧ gIn p1 0 9999 ∧ gIn p2 1 10000000 ∧ ¬ (nI nv < 100))) : (E = "java/lang/IndexOutOfBoundsException" ∧ cSpend nl nv k0 p1 p2 = 1) ∨ (E = "java/lang/IllegalArgumentException" ∧ cSpend nl nv k0 p1 p2 = 2) ∨ (E = "java/lang/IllegalStateException" ∧ cSpend nl nv k0 p1 p2 = 3) := by
  rcases hx with ⟨rfl, h⟩ | ⟨rfl, a, h1, h⟩ | ⟨rfl, a, h1, h2, h⟩ | ⟨rfl, a, h1, h2, h3, h⟩
  · exact Or.inl ⟨rfl, if_neg (gN_l hM hOK hC h)⟩
  · obtain ⟨i, hi, rfl, rfl, h5, h6⟩ := gH_l hM hOK hC h1
    refine Or.inr (Or.inl ⟨rfl, ?_⟩)
    unfold cSpend
    rw [if_pos h6, if_neg fun hh => h hh.1]
  · obtain ⟨i, hi, rfl, rfl, h5, h6⟩ := gH_l hM hOK hC h1
    refine Or.inr (Or.inl ⟨rfl, ?_⟩)
    unfold cSpend
    rw [if_pos h6, if_neg fun hh => h hh.2]
  · obtain ⟨i, hi, rfl, rfl, h5, h6⟩ := gH_l hM hOK hC h1
    refine Or.inr (Or.inr ⟨rfl, ?_⟩)
    unfold cSpend
    rw [if_pos h6, if_pos ⟨h2, h3⟩, if_neg]
    intro hn
    exact h (nI_lt (b := 100) hn (by omega))
theorem gR_refuse {cyI cyL cyV : ClassId} {gr sh rt ce : Int32} {nl nv : Nat} {am : Int32} {nc : Nat} {cd : Int32} {bud fsd las isB mto maw lno dya amo rfd ord cpa : Nat → Int32} {lnf orf : Nat → Nat} {g : Nat} {lr vr py : Nat} {lrow vrow : Nat → Option Nat} {pia : Int32} {Lc : List Nat} {Kc : Nat → Nat} {budc fsdc lasc basc mvic mvac : Nat → Int32} {earc vlnc : Nat → Option Nat} {vdac vamc vrfc velc : Nat → Int32} {vnxc : Nat → Option Nat} {ch : Nat → List Nat} {la va : Nat → Nat} (hM : gMI gr sh rt ce nl nv am nc cd bud fsd las isB mto maw lno dya amo rfd ord cpa lnf orf) (hOK : gOK Lc Kc lrow vrow earc vlnc vnxc ch) (hC : gCR Lc Kc nl nv nc bud fsd las isB mto maw dya amo rfd cpa lnf orf lrow vrow pia budc fsdc lasc basc mvic mvac vlnc vdac vamc vrfc velc ch la va) {k0 : Int32} {r : Int32} {u : Nat × (Nat → Int32)} (hw : ∃ v, gHas 100 vrow k0 v ∧ vrfc v = 0 ∧ ∃ b, vlnc v = some b ∧ u.1 = v ∧ r = -(gSu u.2 vdac 9999 (ch b) 0 - gSu velc vdac 9999 (ch b) 0) ∧ u.2 = gRk (fsdc b) (lasc b) (va_up vrfc v 1) vdac vamc (ch b) (budc b + mvic b - mvac b) velc) : cMark nv rfd k0 1 = 0 ∧ r = (gSm (gEL (fun l => bud l + mto l - maw l) (fun v => gAcc (fsd (lnf v)) (las (lnf v)) (rfd v) (dya v)) lnf amo orf nv) nv) - (gSm (gEL (fun l => bud l + mto l - maw l) (fun v => gAcc (fsd (lnf v)) (las (lnf v)) (va_up rfd (gIxn k0) 1 v) (dya v)) lnf amo orf nv) nv) ∧ gGP cyI cyL cyV gr sh rt ce nl nv am nc cd bud fsd las isB mto maw lno dya amo (va_up rfd (gIxn k0) 1) ord cpa lnf orf g ((g, .inr (2, [.int gr, .int sh, .int rt, .int ce, .ref lr, .int (nI nl), .ref vr, .int (nI nv), .int am, .ref py, .int (nI nc), .int cd, .int pia])) :: (lr, .inl (cyL, 12, .inr (.inr (.inr (.inr lrow))))) :: (vr, .inl (cyV, 100, .inr (.inr (.inr (.inr vrow))))) :: (py, .inl (cyI, 40, .inl cpa)) :: va_pl Lc (gE Kc budc fsdc lasc basc mvic mvac earc vlnc vdac vamc (va_up vrfc u.1 1) u.2 vnxc) : va_W) := by
  obtain ⟨v, h1, h2, b, h3, hu1, rfl, hu2⟩ := hw
  obtain ⟨j, hj, rfl, rfl, h5, h6⟩ := gH_v hM hOK hC h1
  obtain ⟨c1, c2, c3, c4, c5⟩ := hC.2.2.2.2.1 j hj
  rw [c1] at h3
  injection h3 with h3
  subst h3
  obtain ⟨k1, k2, k3⟩ := gT_mk hM hOK hC hj (z := 1) (Or.inr rfl) hu2
  rw [c4] at h2
  rw [h5, hu1]
  refine ⟨?_, ?_, k1, lr, vr, py, lrow, vrow, pia, Lc, Kc, budc, fsdc, lasc, basc, mvic, mvac, earc, vlnc, vdac, vamc, va_up vrfc (va j) 1, u.2, vnxc, ch, la, va, rfl, hOK, k3⟩
  · unfold cMark
    rw [if_pos h6, h5, if_pos (by rw [h2]; decide)]
  · rw [k2]
    grind
theorem gX_refuse {gr sh rt ce : Int32} {nl nv : Nat} {am : Int32} {nc : Nat} {cd : Int32} {bud fsd las isB mto maw lno dya amo rfd ord cpa : Nat → Int32} {lnf orf : Nat → Nat} {lrow vrow : Nat → Option Nat} {pia : Int32} {Lc : List Nat} {Kc : Nat → Nat} {budc fsdc lasc basc mvic mvac : Nat → Int32} {earc vlnc : Nat → Option Nat} {vdac vamc vrfc velc : Nat → Int32} {vnxc : Nat → Option Nat} {ch : Nat → List Nat} {la va : Nat → Nat} (hM : gMI gr sh rt ce nl nv am nc cd bud fsd las isB mto maw lno dya amo rfd ord cpa lnf orf) (hOK : gOK Lc Kc lrow vrow earc vlnc vnxc ch) (hC : gCR Lc Kc nl nv nc bud fsd las isB mto maw dya amo rfd cpa lnf orf lrow vrow pia budc fsdc lasc basc mvic mvac vlnc vdac vamc vrfc velc ch la va) {k0 : Int32} {E : String} (hx : (E = "java/lang/IndexOutOfBoundsException" ∧ ¬ ∃ v, gHas 100 vrow k0 v) ∨ (E = "java/lang/IllegalStateException" ∧ ∃ v, gHas 100 vrow k0 v ∧ ¬ (vrfc v = 0))) : (E = "java/lang/IndexOutOfBoundsException" ∧ cMark nv rfd k0 1 = 1) ∨ (E = "java/lang/IllegalStateException" ∧ cMark nv rfd k0 1 = 2) := by
  rcases hx with ⟨rfl, h⟩ | ⟨rfl, v, h1, h⟩
  · exact Or.inl ⟨rfl, if_neg (gN_v hM hOK hC h)⟩
  · obtain ⟨j, hj, rfl, rfl, h5, h6⟩ := gH_v hM hOK hC h1
    refine Or.inr ⟨rfl, ?_⟩
    unfold cMark
    rw [if_pos h6, h5, if_neg]
    rw [(hC.2.2.2.2.1 j hj).2.2.2.1] at h
    rcases hM.2.2.2.2.2.1.1 j with h7 | h7
    · exact absurd h7 h
    · exact fun h8 => h8 h7
theorem gR_admit {cyI cyL cyV : ClassId} {gr sh rt ce : Int32} {nl nv : Nat} {am : Int32} {nc : Nat} {cd : Int32} {bud fsd las isB mto maw lno dya amo rfd ord cpa : Nat → Int32} {lnf orf : Nat → Nat} {g : Nat} {lr vr py : Nat} {lrow vrow : Nat → Option Nat} {pia : Int32} {Lc : List Nat} {Kc : Nat → Nat} {budc fsdc lasc basc mvic mvac : Nat → Int32} {earc vlnc : Nat → Option Nat} {vdac vamc vrfc velc : Nat → Int32} {vnxc : Nat → Option Nat} {ch : Nat → List Nat} {la va : Nat → Nat} (hM : gMI gr sh rt ce nl nv am nc cd bud fsd las isB mto maw lno dya amo rfd ord cpa lnf orf) (hOK : gOK Lc Kc lrow vrow earc vlnc vnxc ch) (hC : gCR Lc Kc nl nv nc bud fsd las isB mto maw dya amo rfd cpa lnf orf lrow vrow pia budc fsdc lasc basc mvic mvac vlnc vdac vamc vrfc velc ch la va) {k0 : Int32} {r : Int32} {u : Nat × (Nat → Int32)} (hw : ∃ v, gHas 100 vrow k0 v ∧ ¬ vrfc v = 0 ∧ ∃ b, vlnc v = some b ∧ u.1 = v ∧ r = gSu u.2 vdac 9999 (ch b) 0 - gSu velc vdac 9999 (ch b) 0 ∧ u.2 = gRk (fsdc b) (lasc b) (va_up vrfc v 0) vdac vamc (ch b) (budc b + mvic b - mvac b) velc) : cMark nv rfd k0 0 = 0 ∧ r = -((gSm (gEL (fun l => bud l + mto l - maw l) (fun v => gAcc (fsd (lnf v)) (las (lnf v)) (rfd v) (dya v)) lnf amo orf nv) nv) - (gSm (gEL (fun l => bud l + mto l - maw l) (fun v => gAcc (fsd (lnf v)) (las (lnf v)) (va_up rfd (gIxn k0) 0 v) (dya v)) lnf amo orf nv) nv)) ∧ gGP cyI cyL cyV gr sh rt ce nl nv am nc cd bud fsd las isB mto maw lno dya amo (va_up rfd (gIxn k0) 0) ord cpa lnf orf g ((g, .inr (2, [.int gr, .int sh, .int rt, .int ce, .ref lr, .int (nI nl), .ref vr, .int (nI nv), .int am, .ref py, .int (nI nc), .int cd, .int pia])) :: (lr, .inl (cyL, 12, .inr (.inr (.inr (.inr lrow))))) :: (vr, .inl (cyV, 100, .inr (.inr (.inr (.inr vrow))))) :: (py, .inl (cyI, 40, .inl cpa)) :: va_pl Lc (gE Kc budc fsdc lasc basc mvic mvac earc vlnc vdac vamc (va_up vrfc u.1 0) u.2 vnxc) : va_W) := by
  obtain ⟨v, h1, h2, b, h3, hu1, rfl, hu2⟩ := hw
  obtain ⟨j, hj, rfl, rfl, h5, h6⟩ := gH_v hM hOK hC h1
  obtain ⟨c1, c2, c3, c4, c5⟩ := hC.2.2.2.2.1 j hj
  rw [c1] at h3
  injection h3 with h3
  subst h3
  obtain ⟨k1, k2, k3⟩ := gT_mk hM hOK hC hj (z := 0) (Or.inl rfl) hu2
  rw [c4] at h2
  rw [h5, hu1]
  refine ⟨?_, ?_, k1, lr, vr, py, lrow, vrow, pia, Lc, Kc, budc, fsdc, lasc, basc, mvic, mvac, earc, vlnc, vdac, vamc, va_up vrfc (va j) 0, u.2, vnxc, ch, la, va, rfl, hOK, k3⟩
  · unfold cMark
    rw [if_pos h6, h5, if_pos h2]
  · rw [k2]
    grind
theorem gX_admit {gr sh rt ce : Int32} {nl nv : Nat} {am : Int32} {nc : Nat} {cd : Int32} {bud fsd las isB mto maw lno dya amo rfd ord cpa : Nat → Int32} {lnf orf : Nat → Nat} {lrow vrow : Nat → Option Nat} {pia : Int32} {Lc : List Nat} {Kc : Nat → Nat} {budc fsdc lasc basc mvic mvac : Nat → Int32} {earc vlnc : Nat → Option Nat} {vdac vamc vrfc velc : Nat → Int32} {vnxc : Nat → Option Nat} {ch : Nat → List Nat} {la va : Nat → Nat} (hM : gMI gr sh rt ce nl nv am nc cd bud fsd las isB mto maw lno dya amo rfd ord cpa lnf orf) (hOK : gOK Lc Kc lrow vrow earc vlnc vnxc ch) (hC : gCR Lc Kc nl nv nc bud fsd las isB mto maw dya amo rfd cpa lnf orf lrow vrow pia budc fsdc lasc basc mvic mvac vlnc vdac vamc vrfc velc ch la va) {k0 : Int32} {E : String} (hx : (E = "java/lang/IndexOutOfBoundsException" ∧ ¬ ∃ v, gHas 100 vrow k0 v) ∨ (E = "java/lang/IllegalStateException" ∧ ∃ v, gHas 100 vrow k0 v ∧ ¬ (¬ vrfc v = 0))) : (E = "java/lang/IndexOutOfBoundsException" ∧ cMark nv rfd k0 0 = 1) ∨ (E = "java/lang/IllegalStateException" ∧ cMark nv rfd k0 0 = 2) := by
  rcases hx with ⟨rfl, h⟩ | ⟨rfl, v, h1, h⟩
  · exact Or.inl ⟨rfl, if_neg (gN_v hM hOK hC h)⟩
  · obtain ⟨j, hj, rfl, rfl, h5, h6⟩ := gH_v hM hOK hC h1
    refine Or.inr ⟨rfl, ?_⟩
    unfold cMark
    rw [if_pos h6, h5, if_neg]
    rw [(hC.2.2.2.2.1 j hj).2.2.2.1] at h
    exact h
theorem gR_match {cyI cyL cyV : ClassId} {gr sh rt ce : Int32} {nl nv : Nat} {am : Int32} {nc : Nat} {cd : Int32} {bud fsd las isB mto maw lno dya amo rfd ord cpa : Nat → Int32} {lnf orf : Nat → Nat} {g : Nat} {lr vr py : Nat} {lrow vrow : Nat → Option Nat} {pia : Int32} {Lc : List Nat} {Kc : Nat → Nat} {budc fsdc lasc basc mvic mvac : Nat → Int32} {earc vlnc : Nat → Option Nat} {vdac vamc vrfc velc : Nat → Int32} {vnxc : Nat → Option Nat} {ch : Nat → List Nat} {la va : Nat → Nat} (hM : gMI gr sh rt ce nl nv am nc cd bud fsd las isB mto maw lno dya amo rfd ord cpa lnf orf) (hOK : gOK Lc Kc lrow vrow earc vlnc vnxc ch) (hC : gCR Lc Kc nl nv nc bud fsd las isB mto maw dya amo rfd cpa lnf orf lrow vrow pia budc fsdc lasc basc mvic mvac vlnc vdac vamc vrfc velc ch la va) {p0 : Int32} {r : Int32} {u : Unit} (hw : gIn p0 1 10000000 ∧ am + p0 ≤ 100000000 ∧ r = am + p0) : cMatch am p0 = 0 ∧ r = am + p0 ∧ gGP cyI cyL cyV gr sh rt ce nl nv (am + p0) nc cd bud fsd las isB mto maw lno dya amo rfd ord cpa lnf orf g ((g, .inr (2, [.int gr, .int sh, .int rt, .int ce, .ref lr, .int (nI nl), .ref vr, .int (nI nv), .int (am + p0), .ref py, .int (nI nc), .int cd, .int pia])) :: (lr, .inl (cyL, 12, .inr (.inr (.inr (.inr lrow))))) :: (vr, .inl (cyV, 100, .inr (.inr (.inr (.inr vrow))))) :: (py, .inl (cyI, 40, .inl cpa)) :: va_pl Lc (gE Kc budc fsdc lasc basc mvic mvac earc vlnc vdac vamc vrfc velc vnxc) : va_W) := by
  obtain ⟨h1, h2, rfl⟩ := hw
  refine ⟨?_, rfl, ?_, lr, vr, py, lrow, vrow, pia, Lc, Kc, budc, fsdc, lasc, basc, mvic, mvac, earc, vlnc, vdac, vamc, vrfc, velc, vnxc, ch, la, va, rfl, hOK, hC⟩
  · unfold cMatch
    rw [if_pos h1, if_pos h2]
  · obtain ⟨m1, m2, m3, m4, m5, m6, m7, m8, m9, m10, m11, m12, m13, m14, m15⟩ := hM
    have h3 : (1 : Int) ≤ p0.toInt ∧ p0.toInt ≤ 10000000 := gIn_i h1
    have h4 : (am + p0).toInt = am.toInt + p0.toInt := gI_add (by omega) (by omega)
    have h5 : (am + p0).toInt ≤ 100000000 := Int32.le_iff_toInt_le.mp h2
    exact ⟨m1, m2, m3, m4, m5, m6, m7, m8, m9, m10, m11, m12, m13, ⟨by omega, h5⟩, m15⟩
theorem gX_match {gr sh rt ce : Int32} {nl nv : Nat} {am : Int32} {nc : Nat} {cd : Int32} {bud fsd las isB mto maw lno dya amo rfd ord cpa : Nat → Int32} {lnf orf : Nat → Nat} {lrow vrow : Nat → Option Nat} {pia : Int32} {Lc : List Nat} {Kc : Nat → Nat} {budc fsdc lasc basc mvic mvac : Nat → Int32} {earc vlnc : Nat → Option Nat} {vdac vamc vrfc velc : Nat → Int32} {vnxc : Nat → Option Nat} {ch : Nat → List Nat} {la va : Nat → Nat} (hM : gMI gr sh rt ce nl nv am nc cd bud fsd las isB mto maw lno dya amo rfd ord cpa lnf orf) (hOK : gOK Lc Kc lrow vrow earc vlnc vnxc ch) (hC : gCR Lc Kc nl nv nc bud fsd las isB mto maw dya amo rfd cpa lnf orf lrow vrow pia budc fsdc lasc basc mvic mvac vlnc vdac vamc vrfc velc ch la va) {p0 : Int32} {E : String} (hx : (E = "java/lang/IllegalArgumentException" ∧ ¬ (gIn p0 1 10000000)) ∨ (E = "java/lang/IllegalStateException" ∧ gIn p0 1 10000000 ∧ ¬ (am + p0 ≤ 100000000))) : (E = "java/lang/IllegalArgumentException" ∧ cMatch am p0 = 1) ∨ (E = "java/lang/IllegalStateException" ∧ cMatch am p0 = 2) := by
  rcases hx with ⟨rfl, h⟩ | ⟨rfl, h1, h⟩
  · exact Or.inl ⟨rfl, if_neg h⟩
  · refine Or.inr ⟨rfl, ?_⟩
    unfold cMatch
    rw [if_pos h1, if_neg h]
theorem gR_fits {cyI cyL cyV : ClassId} {gr sh rt ce : Int32} {nl nv : Nat} {am : Int32} {nc : Nat} {cd : Int32} {bud fsd las isB mto maw lno dya amo rfd ord cpa : Nat → Int32} {lnf orf : Nat → Nat} {g : Nat} {lr vr py : Nat} {lrow vrow : Nat → Option Nat} {pia : Int32} {Lc : List Nat} {Kc : Nat → Nat} {budc fsdc lasc basc mvic mvac : Nat → Int32} {earc vlnc : Nat → Option Nat} {vdac vamc vrfc velc : Nat → Int32} {vnxc : Nat → Option Nat} {ch : Nat → List Nat} {la va : Nat → Nat} (hM : gMI gr sh rt ce nl nv am nc cd bud fsd las isB mto maw lno dya amo rfd ord cpa lnf orf) (hOK : gOK Lc Kc lrow vrow earc vlnc vnxc ch) (hC : gCR Lc Kc nl nv nc bud fsd las isB mto maw dya amo rfd cpa lnf orf lrow vrow pia budc fsdc lasc basc mvic mvac vlnc vdac vamc vrfc velc ch la va) {k0 : Int32} {r : Int32} {u : Unit} (hw : ∃ v, gHas 100 vrow k0 v ∧ ∃ b, vlnc v = some b ∧ r = gAcc (fsdc b) (lasc b) (vrfc v) (vdac v)) : cNum nv k0 = 0 ∧ r = gAcc (fsd (lnf (gIxn k0))) (las (lnf (gIxn k0))) (rfd (gIxn k0)) (dya (gIxn k0)) ∧ gGP cyI cyL cyV gr sh rt ce nl nv am nc cd bud fsd las isB mto maw lno dya amo rfd ord cpa lnf orf g ((g, .inr (2, [.int gr, .int sh, .int rt, .int ce, .ref lr, .int (nI nl), .ref vr, .int (nI nv), .int am, .ref py, .int (nI nc), .int cd, .int pia])) :: (lr, .inl (cyL, 12, .inr (.inr (.inr (.inr lrow))))) :: (vr, .inl (cyV, 100, .inr (.inr (.inr (.inr vrow))))) :: (py, .inl (cyI, 40, .inl cpa)) :: va_pl Lc (gE Kc budc fsdc lasc basc mvic mvac earc vlnc vdac vamc vrfc velc vnxc) : va_W) := by
  obtain ⟨v, h1, b, h2, rfl⟩ := hw
  obtain ⟨j, hj, rfl, rfl, h5, h6⟩ := gH_v hM hOK hC h1
  obtain ⟨c1, c2, c3, c4, c5⟩ := hC.2.2.2.2.1 j hj
  rw [c1] at h2
  injection h2 with h2
  subst h2
  obtain ⟨d1, d2, d3, -⟩ := hC.2.2.2.1 (lnf j) (hM.2.1 j hj).2
  refine ⟨if_pos h6, ?_, hM, lr, vr, py, lrow, vrow, pia, Lc, Kc, budc, fsdc, lasc, basc, mvic, mvac, earc, vlnc, vdac, vamc, vrfc, velc, vnxc, ch, la, va, rfl, hOK, hC⟩
  rw [h5, c2, c4, d2, d3]
theorem gX_fits {gr sh rt ce : Int32} {nl nv : Nat} {am : Int32} {nc : Nat} {cd : Int32} {bud fsd las isB mto maw lno dya amo rfd ord cpa : Nat → Int32} {lnf orf : Nat → Nat} {lrow vrow : Nat → Option Nat} {pia : Int32} {Lc : List Nat} {Kc : Nat → Nat} {budc fsdc lasc basc mvic mvac : Nat → Int32} {earc vlnc : Nat → Option Nat} {vdac vamc vrfc velc : Nat → Int32} {vnxc : Nat → Option Nat} {ch : Nat → List Nat} {la va : Nat → Nat} (hM : gMI gr sh rt ce nl nv am nc cd bud fsd las isB mto maw lno dya amo rfd ord cpa lnf orf) (hOK : gOK Lc Kc lrow vrow earc vlnc vnxc ch) (hC : gCR Lc Kc nl nv nc bud fsd las isB mto maw dya amo rfd cpa lnf orf lrow vrow pia budc fsdc lasc basc mvic mvac vlnc vdac vamc vrfc velc ch la va) {k0 : Int32} {E : String} (hx : (E = "java/lang/IndexOutOfBoundsException" ∧ ¬ ∃ v, gHas 100 vrow k0 v)) : (E = "java/lang/IndexOutOfBoundsException" ∧ cNum nv k0 = 1) := by
  obtain ⟨rfl, h⟩ := hx
  exact ⟨rfl, if_neg (gN_v hM hOK hC h)⟩
theorem gR_eligible {cyI cyL cyV : ClassId} {gr sh rt ce : Int32} {nl nv : Nat} {am : Int32} {nc : Nat} {cd : Int32} {bud fsd las isB mto maw lno dya amo rfd ord cpa : Nat → Int32} {lnf orf : Nat → Nat} {g : Nat} {lr vr py : Nat} {lrow vrow : Nat → Option Nat} {pia : Int32} {Lc : List Nat} {Kc : Nat → Nat} {budc fsdc lasc basc mvic mvac : Nat → Int32} {earc vlnc : Nat → Option Nat} {vdac vamc vrfc velc : Nat → Int32} {vnxc : Nat → Option Nat} {ch : Nat → List Nat} {la va : Nat → Nat} (hM : gMI gr sh rt ce nl nv am nc cd bud fsd las isB mto maw lno dya amo rfd ord cpa lnf orf) (hOK : gOK Lc Kc lrow vrow earc vlnc vnxc ch) (hC : gCR Lc Kc nl nv nc bud fsd las isB mto maw dya amo rfd cpa lnf orf lrow vrow pia budc fsdc lasc basc mvic mvac vlnc vdac vamc vrfc velc ch la va) {k0 : Int32} {r : Int32} {u : Unit} (hw : ∃ v, gHas 100 vrow k0 v ∧ r = velc v) : cNum nv k0 = 0 ∧ r = (gEL (fun l => bud l + mto l - maw l) (fun v => gAcc (fsd (lnf v)) (las (lnf v)) (rfd v) (dya v)) lnf amo orf nv) (gIxn k0) ∧ gGP cyI cyL cyV gr sh rt ce nl nv am nc cd bud fsd las isB mto maw lno dya amo rfd ord cpa lnf orf g ((g, .inr (2, [.int gr, .int sh, .int rt, .int ce, .ref lr, .int (nI nl), .ref vr, .int (nI nv), .int am, .ref py, .int (nI nc), .int cd, .int pia])) :: (lr, .inl (cyL, 12, .inr (.inr (.inr (.inr lrow))))) :: (vr, .inl (cyV, 100, .inr (.inr (.inr (.inr vrow))))) :: (py, .inl (cyI, 40, .inl cpa)) :: va_pl Lc (gE Kc budc fsdc lasc basc mvic mvac earc vlnc vdac vamc vrfc velc vnxc) : va_W) := by
  obtain ⟨v, h1, rfl⟩ := hw
  obtain ⟨j, hj, rfl, rfl, h5, h6⟩ := gH_v hM hOK hC h1
  refine ⟨if_pos h6, ?_, hM, lr, vr, py, lrow, vrow, pia, Lc, Kc, budc, fsdc, lasc, basc, mvic, mvac, earc, vlnc, vdac, vamc, vrfc, velc, vnxc, ch, la, va, rfl, hOK, hC⟩
  rw [h5, (hC.2.2.2.2.1 j hj).2.2.2.2]
theorem gX_eligible {gr sh rt ce : Int32} {nl nv : Nat} {am : Int32} {nc : Nat} {cd : Int32} {bud fsd las isB mto maw lno dya amo rfd ord cpa : Nat → Int32} {lnf orf : Nat → Nat} {lrow vrow : Nat → Option Nat} {pia : Int32} {Lc : List Nat} {Kc : Nat → Nat} {budc fsdc lasc basc mvic mvac : Nat → Int32} {earc vlnc : Nat → Option Nat} {vdac vamc vrfc velc : Nat → Int32} {vnxc : Nat → Option Nat} {ch : Nat → List Nat} {la va : Nat → Nat} (hM : gMI gr sh rt ce nl nv am nc cd bud fsd las isB mto maw lno dya amo rfd ord cpa lnf orf) (hOK : gOK Lc Kc lrow vrow earc vlnc vnxc ch) (hC : gCR Lc Kc nl nv nc bud fsd las isB mto maw dya amo rfd cpa lnf orf lrow vrow pia budc fsdc lasc basc mvic mvac vlnc vdac vamc vrfc velc ch la va) {k0 : Int32} {E : String} (hx : (E = "java/lang/IndexOutOfBoundsException" ∧ ¬ ∃ v, gHas 100 vrow k0 v)) : (E = "java/lang/IndexOutOfBoundsException" ∧ cNum nv k0 = 1) := by
  obtain ⟨rfl, h⟩ := hx
  exact ⟨rfl, if_neg (gN_v hM hOK hC h)⟩
theorem gR_costs {cyI cyL cyV : ClassId} {gr sh rt ce : Int32} {nl nv : Nat} {am : Int32} {nc : Nat} {cd : Int32} {bud fsd las isB mto maw lno dya amo rfd ord cpa : Nat → Int32} {lnf orf : Nat → Nat} {g : Nat} {lr vr py : Nat} {lrow vrow : Nat → Option Nat} {pia : Int32} {Lc : List Nat} {Kc : Nat → Nat} {budc fsdc lasc basc mvic mvac : Nat → Int32} {earc vlnc : Nat → Option Nat} {vdac vamc vrfc velc : Nat → Int32} {vnxc : Nat → Option Nat} {ch : Nat → List Nat} {la va : Nat → Nat} (hM : gMI gr sh rt ce nl nv am nc cd bud fsd las isB mto maw lno dya amo rfd ord cpa lnf orf) (hOK : gOK Lc Kc lrow vrow earc vlnc vnxc ch) (hC : gCR Lc Kc nl nv nc bud fsd las isB mto maw dya amo rfd cpa lnf orf lrow vrow pia budc fsdc lasc basc mvic mvac vlnc vdac vamc vrfc velc ch la va) {d0 : Int32} {r : Int32} {u : Unit} (hw : gIn d0 0 9999 ∧ r = (gSa lrow basc velc vdac ch d0 0 12)) : cDay d0 = 0 ∧ r = (gSm (gCx dya isB (gEL (fun l => bud l + mto l - maw l) (fun v => gAcc (fsd (lnf v)) (las (lnf v)) (rfd v) (dya v)) lnf amo orf nv) lnf d0 0) nv) ∧ gGP cyI cyL cyV gr sh rt ce nl nv am nc cd bud fsd las isB mto maw lno dya amo rfd ord cpa lnf orf g ((g, .inr (2, [.int gr, .int sh, .int rt, .int ce, .ref lr, .int (nI nl), .ref vr, .int (nI nv), .int am, .ref py, .int (nI nc), .int cd, .int pia])) :: (lr, .inl (cyL, 12, .inr (.inr (.inr (.inr lrow))))) :: (vr, .inl (cyV, 100, .inr (.inr (.inr (.inr vrow))))) :: (py, .inl (cyI, 40, .inl cpa)) :: va_pl Lc (gE Kc budc fsdc lasc basc mvic mvac earc vlnc vdac vamc vrfc velc vnxc) : va_W) := by
  obtain ⟨h1, rfl⟩ := hw
  exact ⟨if_pos h1, gT_sa hM hOK hC d0 0, hM, lr, vr, py, lrow, vrow, pia, Lc, Kc, budc, fsdc, lasc, basc, mvic, mvac, earc, vlnc, vdac, vamc, vrfc, velc, vnxc, ch, la, va, rfl, hOK, hC⟩
theorem gX_costs {gr sh rt ce : Int32} {nl nv : Nat} {am : Int32} {nc : Nat} {cd : Int32} {bud fsd las isB mto maw lno dya amo rfd ord cpa : Nat → Int32} {lnf orf : Nat → Nat} {lrow vrow : Nat → Option Nat} {pia : Int32} {Lc : List Nat} {Kc : Nat → Nat} {budc fsdc lasc basc mvic mvac : Nat → Int32} {earc vlnc : Nat → Option Nat} {vdac vamc vrfc velc : Nat → Int32} {vnxc : Nat → Option Nat} {ch : Nat → List Nat} {la va : Nat → Nat} (hM : gMI gr sh rt ce nl nv am nc cd bud fsd las isB mto maw lno dya amo rfd ord cpa lnf orf) (hOK : gOK Lc Kc lrow vrow earc vlnc vnxc ch) (hC : gCR Lc Kc nl nv nc bud fsd las isB mto maw dya amo rfd cpa lnf orf lrow vrow pia budc fsdc lasc basc mvic mvac vlnc vdac vamc vrfc velc ch la va) {d0 : Int32} {E : String} (hx : (E = "java/lang/IllegalArgumentException" ∧ ¬ (gIn d0 0 9999))) : (E = "java/lang/IllegalArgumentException" ∧ cDay d0 = 1) := by
  obtain ⟨rfl, h⟩ := hx
  exact ⟨rfl, if_neg h⟩
theorem gR_overhead {cyI cyL cyV : ClassId} {gr sh rt ce : Int32} {nl nv : Nat} {am : Int32} {nc : Nat} {cd : Int32} {bud fsd las isB mto maw lno dya amo rfd ord cpa : Nat → Int32} {lnf orf : Nat → Nat} {g : Nat} {lr vr py : Nat} {lrow vrow : Nat → Option Nat} {pia : Int32} {Lc : List Nat} {Kc : Nat → Nat} {budc fsdc lasc basc mvic mvac : Nat → Int32} {earc vlnc : Nat → Option Nat} {vdac vamc vrfc velc : Nat → Int32} {vnxc : Nat → Option Nat} {ch : Nat → List Nat} {la va : Nat → Nat} (hM : gMI gr sh rt ce nl nv am nc cd bud fsd las isB mto maw lno dya amo rfd ord cpa lnf orf) (hOK : gOK Lc Kc lrow vrow earc vlnc vnxc ch) (hC : gCR Lc Kc nl nv nc bud fsd las isB mto maw dya amo rfd cpa lnf orf lrow vrow pia budc fsdc lasc basc mvic mvac vlnc vdac vamc vrfc velc ch la va) {d0 : Int32} {r : Int32} {u : Unit} (hw : gIn d0 0 9999 ∧ r = (gOv rt ce (gSa lrow basc velc vdac ch d0 1 12))) : cDay d0 = 0 ∧ r = (gOw rt ce (gSm (gCx dya isB (gEL (fun l => bud l + mto l - maw l) (fun v => gAcc (fsd (lnf v)) (las (lnf v)) (rfd v) (dya v)) lnf amo orf nv) lnf d0 1) nv)) ∧ gGP cyI cyL cyV gr sh rt ce nl nv am nc cd bud fsd las isB mto maw lno dya amo rfd ord cpa lnf orf g ((g, .inr (2, [.int gr, .int sh, .int rt, .int ce, .ref lr, .int (nI nl), .ref vr, .int (nI nv), .int am, .ref py, .int (nI nc), .int cd, .int pia])) :: (lr, .inl (cyL, 12, .inr (.inr (.inr (.inr lrow))))) :: (vr, .inl (cyV, 100, .inr (.inr (.inr (.inr vrow))))) :: (py, .inl (cyI, 40, .inl cpa)) :: va_pl Lc (gE Kc budc fsdc lasc basc mvic mvac earc vlnc vdac vamc vrfc velc vnxc) : va_W) := by
  obtain ⟨h1, rfl⟩ := hw
  exact ⟨if_pos h1, gT_ow hM hOK hC d0, hM, lr, vr, py, lrow, vrow, pia, Lc, Kc, budc, fsdc, lasc, basc, mvic, mvac, earc, vlnc, vdac, vamc, vrfc, velc, vnxc, ch, la, va, rfl, hOK, hC⟩
theorem gX_overhead {gr sh rt ce : Int32} {nl nv : Nat} {am : Int32} {nc : Nat} {cd : Int32} {bud fsd las isB mto maw lno dya amo rfd ord cpa : Nat → Int32} {lnf orf : Nat → Nat} {lrow vrow : Nat → Option Nat} {pia : Int32} {Lc : List Nat} {Kc : Nat → Nat} {budc fsdc lasc basc mvic mvac : Nat → Int32} {earc vlnc : Nat → Option Nat} {vdac vamc vrfc velc : Nat → Int32} {vnxc : Nat → Option Nat} {ch : Nat → List Nat} {la va : Nat → Nat} (hM : gMI gr sh rt ce nl nv am nc cd bud fsd las isB mto maw lno dya amo rfd ord cpa lnf orf) (hOK : gOK Lc Kc lrow vrow earc vlnc vnxc ch) (hC : gCR Lc Kc nl nv nc bud fsd las isB mto maw dya amo rfd cpa lnf orf lrow vrow pia budc fsdc lasc basc mvic mvac vlnc vdac vamc vrfc velc ch la va) {d0 : Int32} {E : String} (hx : (E = "java/lang/IllegalArgumentException" ∧ ¬ (gIn d0 0 9999))) : (E = "java/lang/IllegalArgumentException" ∧ cDay d0 = 1) := by
  obtain ⟨rfl, h⟩ := hx
  exact ⟨rfl, if_neg h⟩
theorem gR_earned {cyI cyL cyV : ClassId} {gr sh rt ce : Int32} {nl nv : Nat} {am : Int32} {nc : Nat} {cd : Int32} {bud fsd las isB mto maw lno dya amo rfd ord cpa : Nat → Int32} {lnf orf : Nat → Nat} {g : Nat} {lr vr py : Nat} {lrow vrow : Nat → Option Nat} {pia : Int32} {Lc : List Nat} {Kc : Nat → Nat} {budc fsdc lasc basc mvic mvac : Nat → Int32} {earc vlnc : Nat → Option Nat} {vdac vamc vrfc velc : Nat → Int32} {vnxc : Nat → Option Nat} {ch : Nat → List Nat} {la va : Nat → Nat} (hM : gMI gr sh rt ce nl nv am nc cd bud fsd las isB mto maw lno dya amo rfd ord cpa lnf orf) (hOK : gOK Lc Kc lrow vrow earc vlnc vnxc ch) (hC : gCR Lc Kc nl nv nc bud fsd las isB mto maw dya amo rfd cpa lnf orf lrow vrow pia budc fsdc lasc basc mvic mvac vlnc vdac vamc vrfc velc ch la va) {d0 : Int32} {r : Int32} {u : Unit} (hw : gIn d0 0 9999 ∧ r = (gEa sh am (gEb sh gr (gSa lrow basc velc vdac ch d0 0 12) (gOv rt ce (gSa lrow basc velc vdac ch d0 1 12))))) : cDay d0 = 0 ∧ r = (gEt sh am (gUb sh gr (gSm (gCx dya isB (gEL (fun l => bud l + mto l - maw l) (fun v => gAcc (fsd (lnf v)) (las (lnf v)) (rfd v) (dya v)) lnf amo orf nv) lnf d0 0) nv) (gOw rt ce (gSm (gCx dya isB (gEL (fun l => bud l + mto l - maw l) (fun v => gAcc (fsd (lnf v)) (las (lnf v)) (rfd v) (dya v)) lnf amo orf nv) lnf d0 1) nv)))) ∧ gGP cyI cyL cyV gr sh rt ce nl nv am nc cd bud fsd las isB mto maw lno dya amo rfd ord cpa lnf orf g ((g, .inr (2, [.int gr, .int sh, .int rt, .int ce, .ref lr, .int (nI nl), .ref vr, .int (nI nv), .int am, .ref py, .int (nI nc), .int cd, .int pia])) :: (lr, .inl (cyL, 12, .inr (.inr (.inr (.inr lrow))))) :: (vr, .inl (cyV, 100, .inr (.inr (.inr (.inr vrow))))) :: (py, .inl (cyI, 40, .inl cpa)) :: va_pl Lc (gE Kc budc fsdc lasc basc mvic mvac earc vlnc vdac vamc vrfc velc vnxc) : va_W) := by
  obtain ⟨h1, rfl⟩ := hw
  exact ⟨if_pos h1, gT_ea hM hOK hC d0, hM, lr, vr, py, lrow, vrow, pia, Lc, Kc, budc, fsdc, lasc, basc, mvic, mvac, earc, vlnc, vdac, vamc, vrfc, velc, vnxc, ch, la, va, rfl, hOK, hC⟩
theorem gX_earned {gr sh rt ce : Int32} {nl nv : Nat} {am : Int32} {nc : Nat} {cd : Int32} {bud fsd las isB mto maw lno dya amo rfd ord cpa : Nat → Int32} {lnf orf : Nat → Nat} {lrow vrow : Nat → Option Nat} {pia : Int32} {Lc : List Nat} {Kc : Nat → Nat} {budc fsdc lasc basc mvic mvac : Nat → Int32} {earc vlnc : Nat → Option Nat} {vdac vamc vrfc velc : Nat → Int32} {vnxc : Nat → Option Nat} {ch : Nat → List Nat} {la va : Nat → Nat} (hM : gMI gr sh rt ce nl nv am nc cd bud fsd las isB mto maw lno dya amo rfd ord cpa lnf orf) (hOK : gOK Lc Kc lrow vrow earc vlnc vnxc ch) (hC : gCR Lc Kc nl nv nc bud fsd las isB mto maw dya amo rfd cpa lnf orf lrow vrow pia budc fsdc lasc basc mvic mvac vlnc vdac vamc vrfc velc ch la va) {d0 : Int32} {E : String} (hx : (E = "java/lang/IllegalArgumentException" ∧ ¬ (gIn d0 0 9999))) : (E = "java/lang/IllegalArgumentException" ∧ cDay d0 = 1) := by
  obtain ⟨rfl, h⟩ := hx
  exact ⟨rfl, if_neg h⟩
theorem gR_missingMatch {cyI cyL cyV : ClassId} {gr sh rt ce : Int32} {nl nv : Nat} {am : Int32} {nc : Nat} {cd : Int32} {bud fsd las isB mto maw lno dya amo rfd ord cpa : Nat → Int32} {lnf orf : Nat → Nat} {g : Nat} {lr vr py : Nat} {lrow vrow : Nat → Option Nat} {pia : Int32} {Lc : List Nat} {Kc : Nat → Nat} {budc fsdc lasc basc mvic mvac : Nat → Int32} {earc vlnc : Nat → Option Nat} {vdac vamc vrfc velc : Nat → Int32} {vnxc : Nat → Option Nat} {ch : Nat → List Nat} {la va : Nat → Nat} (hM : gMI gr sh rt ce nl nv am nc cd bud fsd las isB mto maw lno dya amo rfd ord cpa lnf orf) (hOK : gOK Lc Kc lrow vrow earc vlnc vnxc ch) (hC : gCR Lc Kc nl nv nc bud fsd las isB mto maw dya amo rfd cpa lnf orf lrow vrow pia budc fsdc lasc basc mvic mvac vlnc vdac vamc vrfc velc ch la va) {d0 : Int32} {r : Int32} {u : Unit} (hw : gIn d0 0 9999 ∧ r = gMm sh am (gEb sh gr (gSa lrow basc velc vdac ch d0 0 12) (gOv rt ce (gSa lrow basc velc vdac ch d0 1 12)))) : cDay d0 = 0 ∧ r = gMs sh am (gUb sh gr (gSm (gCx dya isB (gEL (fun l => bud l + mto l - maw l) (fun v => gAcc (fsd (lnf v)) (las (lnf v)) (rfd v) (dya v)) lnf amo orf nv) lnf d0 0) nv) (gOw rt ce (gSm (gCx dya isB (gEL (fun l => bud l + mto l - maw l) (fun v => gAcc (fsd (lnf v)) (las (lnf v)) (rfd v) (dya v)) lnf amo orf nv) lnf d0 1) nv))) ∧ gGP cyI cyL cyV gr sh rt ce nl nv am nc cd bud fsd las isB mto maw lno dya amo rfd ord cpa lnf orf g ((g, .inr (2, [.int gr, .int sh, .int rt, .int ce, .ref lr, .int (nI nl), .ref vr, .int (nI nv), .int am, .ref py, .int (nI nc), .int cd, .int pia])) :: (lr, .inl (cyL, 12, .inr (.inr (.inr (.inr lrow))))) :: (vr, .inl (cyV, 100, .inr (.inr (.inr (.inr vrow))))) :: (py, .inl (cyI, 40, .inl cpa)) :: va_pl Lc (gE Kc budc fsdc lasc basc mvic mvac earc vlnc vdac vamc vrfc velc vnxc) : va_W) := by
  obtain ⟨h1, rfl⟩ := hw
  exact ⟨if_pos h1, gT_mm hM hOK hC d0, hM, lr, vr, py, lrow, vrow, pia, Lc, Kc, budc, fsdc, lasc, basc, mvic, mvac, earc, vlnc, vdac, vamc, vrfc, velc, vnxc, ch, la, va, rfl, hOK, hC⟩
theorem gX_missingMatch {gr sh rt ce : Int32} {nl nv : Nat} {am : Int32} {nc : Nat} {cd : Int32} {bud fsd las isB mto maw lno dya amo rfd ord cpa : Nat → Int32} {lnf orf : Nat → Nat} {lrow vrow : Nat → Option Nat} {pia : Int32} {Lc : List Nat} {Kc : Nat → Nat} {budc fsdc lasc basc mvic mvac : Nat → Int32} {earc vlnc : Nat → Option Nat} {vdac vamc vrfc velc : Nat → Int32} {vnxc : Nat → Option Nat} {ch : Nat → List Nat} {la va : Nat → Nat} (hM : gMI gr sh rt ce nl nv am nc cd bud fsd las isB mto maw lno dya amo rfd ord cpa lnf orf) (hOK : gOK Lc Kc lrow vrow earc vlnc vnxc ch) (hC : gCR Lc Kc nl nv nc bud fsd las isB mto maw dya amo rfd cpa lnf orf lrow vrow pia budc fsdc lasc basc mvic mvac vlnc vdac vamc vrfc velc ch la va) {d0 : Int32} {E : String} (hx : (E = "java/lang/IllegalArgumentException" ∧ ¬ (gIn d0 0 9999))) : (E = "java/lang/IllegalArgumentException" ∧ cDay d0 = 1) := by
  obtain ⟨rfl, h⟩ := hx
  exact ⟨rfl, if_neg h⟩
theorem gR_claim {cyI cyL cyV : ClassId} {gr sh rt ce : Int32} {nl nv : Nat} {am : Int32} {nc : Nat} {cd : Int32} {bud fsd las isB mto maw lno dya amo rfd ord cpa : Nat → Int32} {lnf orf : Nat → Nat} {g : Nat} {lr vr py : Nat} {lrow vrow : Nat → Option Nat} {pia : Int32} {Lc : List Nat} {Kc : Nat → Nat} {budc fsdc lasc basc mvic mvac : Nat → Int32} {earc vlnc : Nat → Option Nat} {vdac vamc vrfc velc : Nat → Int32} {vnxc : Nat → Option Nat} {ch : Nat → List Nat} {la va : Nat → Nat} (hM : gMI gr sh rt ce nl nv am nc cd bud fsd las isB mto maw lno dya amo rfd ord cpa lnf orf) (hOK : gOK Lc Kc lrow vrow earc vlnc vnxc ch) (hC : gCR Lc Kc nl nv nc bud fsd las isB mto maw dya amo rfd cpa lnf orf lrow vrow pia budc fsdc lasc basc mvic mvac vlnc vdac vamc vrfc velc ch la va) {d0 : Int32} {r : Int32} {u : Unit} (hw : gIn d0 cd 9999 ∧ nI nc < 40 ∧ r = ((gEa sh am (gEb sh gr (gSa lrow basc velc vdac ch d0 0 12) (gOv rt ce (gSa lrow basc velc vdac ch d0 1 12)))) - pia)) : cClaim cd nc d0 = 0 ∧ r = ((gEt sh am (gUb sh gr (gSm (gCx dya isB (gEL (fun l => bud l + mto l - maw l) (fun v => gAcc (fsd (lnf v)) (las (lnf v)) (rfd v) (dya v)) lnf amo orf nv) lnf d0 0) nv) (gOw rt ce (gSm (gCx dya isB (gEL (fun l => bud l + mto l - maw l) (fun v => gAcc (fsd (lnf v)) (las (lnf v)) (rfd v) (dya v)) lnf amo orf nv) lnf d0 1) nv)))) - gSm cpa nc) ∧ gGP cyI cyL cyV gr sh rt ce nl nv am (nc + 1) d0 bud fsd las isB mto maw lno dya amo rfd ord (va_up cpa nc ((gEt sh am (gUb sh gr (gSm (gCx dya isB (gEL (fun l => bud l + mto l - maw l) (fun v => gAcc (fsd (lnf v)) (las (lnf v)) (rfd v) (dya v)) lnf amo orf nv) lnf d0 0) nv) (gOw rt ce (gSm (gCx dya isB (gEL (fun l => bud l + mto l - maw l) (fun v => gAcc (fsd (lnf v)) (las (lnf v)) (rfd v) (dya v)) lnf amo orf nv) lnf d0 1) nv)))) - gSm cpa nc)) lnf orf g ((g, .inr (2, [.int gr, .int sh, .int rt, .int ce, .ref lr, .int (nI nl), .ref vr, .int (nI nv), .int am, .ref py, .int (nI (nc + 1)), .int d0, .int (pia + ((gEa sh am (gEb sh gr (gSa lrow basc velc vdac ch d0 0 12) (gOv rt ce (gSa lrow basc velc vdac ch d0 1 12)))) - pia))])) :: (lr, .inl (cyL, 12, .inr (.inr (.inr (.inr lrow))))) :: (vr, .inl (cyV, 100, .inr (.inr (.inr (.inr vrow))))) :: (py, .inl (cyI, 40, .inl (va_up cpa nc ((gEa sh am (gEb sh gr (gSa lrow basc velc vdac ch d0 0 12) (gOv rt ce (gSa lrow basc velc vdac ch d0 1 12)))) - pia)))) :: va_pl Lc (gE Kc budc fsdc lasc basc mvic mvac earc vlnc vdac vamc vrfc velc vnxc) : va_W) := by
  obtain ⟨h1, h2, rfl⟩ := hw
  have e2 : pia = gSm cpa nc := hC.2.2.2.2.2.2.1
  rw [gT_ea hM hOK hC d0, e2]
  have hn : nc < 40 := by
    have := hM.1.2.2
    exact (nI_ltI (b := 40) (by omega) (by omega)).mp h2
  generalize hY : (gEt sh am (gUb sh gr (gSm (gCx dya isB (gEL (fun l => bud l + mto l - maw l) (fun v => gAcc (fsd (lnf v)) (las (lnf v)) (rfd v) (dya v)) lnf amo orf nv) lnf d0 0) nv) (gOw rt ce (gSm (gCx dya isB (gEL (fun l => bud l + mto l - maw l) (fun v => gAcc (fsd (lnf v)) (las (lnf v)) (rfd v) (dya v)) lnf amo orf nv) lnf d0 1) nv)))) - gSm cpa nc = Y
  refine ⟨?_, rfl, ?_, lr, vr, py, lrow, vrow, gSm cpa nc + Y, Lc, Kc, budc, fsdc, lasc, basc, mvic, mvac, earc, vlnc, vdac, vamc, vrfc, velc, vnxc, ch, la, va, rfl, hOK, ?_⟩
  · unfold cClaim
    rw [if_pos h1, if_pos hn]
  · obtain ⟨⟨a1, a2, a3⟩, m2, m3, m4, m5, m6, m7, m8, m9, m10, m11, m12, m13, m14, m15⟩ := hM
    have h3 : cd.toInt ≤ d0.toInt ∧ d0.toInt ≤ 9999 := gIn_i h1
    exact ⟨⟨a1, a2, hn⟩, m2, m3, m4, m5, m6, m7, m8, m9, m10, m11, m12, m13, m14, by omega⟩
  · obtain ⟨c1, c2, c3, c4, c5, c6, c7, c8⟩ := hC
    refine ⟨c1, c2, c3, c4, c5, c6, ?_, c8⟩
    show gSm cpa nc + Y = gSm (va_up cpa nc Y) nc + va_up cpa nc Y nc
    rw [va_up_self, gSm_congr (f := va_up cpa nc Y) (g := cpa) (fun i hi => va_up_ne _ _ (by omega))]
theorem gX_claim {gr sh rt ce : Int32} {nl nv : Nat} {am : Int32} {nc : Nat} {cd : Int32} {bud fsd las isB mto maw lno dya amo rfd ord cpa : Nat → Int32} {lnf orf : Nat → Nat} {lrow vrow : Nat → Option Nat} {pia : Int32} {Lc : List Nat} {Kc : Nat → Nat} {budc fsdc lasc basc mvic mvac : Nat → Int32} {earc vlnc : Nat → Option Nat} {vdac vamc vrfc velc : Nat → Int32} {vnxc : Nat → Option Nat} {ch : Nat → List Nat} {la va : Nat → Nat} (hM : gMI gr sh rt ce nl nv am nc cd bud fsd las isB mto maw lno dya amo rfd ord cpa lnf orf) (hOK : gOK Lc Kc lrow vrow earc vlnc vnxc ch) (hC : gCR Lc Kc nl nv nc bud fsd las isB mto maw dya amo rfd cpa lnf orf lrow vrow pia budc fsdc lasc basc mvic mvac vlnc vdac vamc vrfc velc ch la va) {d0 : Int32} {E : String} (hx : (E = "java/lang/IllegalArgumentException" ∧ ¬ (gIn d0 cd 9999)) ∨ (E = "java/lang/IllegalStateException" ∧ gIn d0 cd 9999 ∧ ¬ (nI nc < 40))) : (E = "java/lang/IllegalArgumentException" ∧ cClaim cd nc d0 = 1) ∨ (E = "java/lang/IllegalStateException" ∧ cClaim cd nc d0 = 2) := by
  rcases hx with ⟨rfl, h⟩ | ⟨rfl, h1, h⟩
  · exact Or.inl ⟨rfl, if_neg h⟩
  · refine Or.inr ⟨rfl, ?_⟩
    unfold cClaim
    rw [if_pos h1, if_neg]
    intro hn
    exact h (nI_lt (b := 40) hn (by omega))
theorem gR_paid {cyI cyL cyV : ClassId} {gr sh rt ce : Int32} {nl nv : Nat} {am : Int32} {nc : Nat} {cd : Int32} {bud fsd las isB mto maw lno dya amo rfd ord cpa : Nat → Int32} {lnf orf : Nat → Nat} {g : Nat} {lr vr py : Nat} {lrow vrow : Nat → Option Nat} {pia : Int32} {Lc : List Nat} {Kc : Nat → Nat} {budc fsdc lasc basc mvic mvac : Nat → Int32} {earc vlnc : Nat → Option Nat} {vdac vamc vrfc velc : Nat → Int32} {vnxc : Nat → Option Nat} {ch : Nat → List Nat} {la va : Nat → Nat} (hM : gMI gr sh rt ce nl nv am nc cd bud fsd las isB mto maw lno dya amo rfd ord cpa lnf orf) (hOK : gOK Lc Kc lrow vrow earc vlnc vnxc ch) (hC : gCR Lc Kc nl nv nc bud fsd las isB mto maw dya amo rfd cpa lnf orf lrow vrow pia budc fsdc lasc basc mvic mvac vlnc vdac vamc vrfc velc ch la va) {k0 : Int32} {r : Int32} {u : Unit} (hw : ∃ i, i < nc ∧ k0 = nI i ∧ r = cpa i) : cNum nc k0 = 0 ∧ r = cpa (gIxn k0) ∧ gGP cyI cyL cyV gr sh rt ce nl nv am nc cd bud fsd las isB mto maw lno dya amo rfd ord cpa lnf orf g ((g, .inr (2, [.int gr, .int sh, .int rt, .int ce, .ref lr, .int (nI nl), .ref vr, .int (nI nv), .int am, .ref py, .int (nI nc), .int cd, .int pia])) :: (lr, .inl (cyL, 12, .inr (.inr (.inr (.inr lrow))))) :: (vr, .inl (cyV, 100, .inr (.inr (.inr (.inr vrow))))) :: (py, .inl (cyI, 40, .inl cpa)) :: va_pl Lc (gE Kc budc fsdc lasc basc mvic mvac earc vlnc vdac vamc vrfc velc vnxc) : va_W) := by
  obtain ⟨i, hi, rfl, rfl⟩ := hw
  have hn := hM.1.2.2
  refine ⟨if_pos (gNum_nI (by omega) hi), ?_, hM, lr, vr, py, lrow, vrow, pia, Lc, Kc, budc, fsdc, lasc, basc, mvic, mvac, earc, vlnc, vdac, vamc, vrfc, velc, vnxc, ch, la, va, rfl, hOK, hC⟩
  rw [show gIxn (nI i) = i from nI_clamp (by omega)]
theorem gX_paid {gr sh rt ce : Int32} {nl nv : Nat} {am : Int32} {nc : Nat} {cd : Int32} {bud fsd las isB mto maw lno dya amo rfd ord cpa : Nat → Int32} {lnf orf : Nat → Nat} {lrow vrow : Nat → Option Nat} {pia : Int32} {Lc : List Nat} {Kc : Nat → Nat} {budc fsdc lasc basc mvic mvac : Nat → Int32} {earc vlnc : Nat → Option Nat} {vdac vamc vrfc velc : Nat → Int32} {vnxc : Nat → Option Nat} {ch : Nat → List Nat} {la va : Nat → Nat} (hM : gMI gr sh rt ce nl nv am nc cd bud fsd las isB mto maw lno dya amo rfd ord cpa lnf orf) (hOK : gOK Lc Kc lrow vrow earc vlnc vnxc ch) (hC : gCR Lc Kc nl nv nc bud fsd las isB mto maw dya amo rfd cpa lnf orf lrow vrow pia budc fsdc lasc basc mvic mvac vlnc vdac vamc vrfc velc ch la va) {k0 : Int32} {E : String} (hx : E = "java/lang/IndexOutOfBoundsException" ∧ ¬ ∃ i, i < nc ∧ k0 = nI i) : (E = "java/lang/IndexOutOfBoundsException" ∧ cNum nc k0 = 1) := by
  obtain ⟨rfl, h⟩ := hx
  exact ⟨rfl, if_neg fun hn => h (by obtain ⟨i, hi, rfl⟩ := gNum_of hn; exact ⟨i, hi, rfl⟩)⟩
theorem gR_unsettled {gr sh rt ce : Int32} {nl nv : Nat} {am : Int32} {nc : Nat} {cd : Int32} {bud fsd las isB mto maw lno dya amo rfd ord cpa : Nat → Int32} {lnf orf : Nat → Nat} {lrow vrow : Nat → Option Nat} {pia : Int32} {Lc : List Nat} {Kc : Nat → Nat} {budc fsdc lasc basc mvic mvac : Nat → Int32} {earc vlnc : Nat → Option Nat} {vdac vamc vrfc velc : Nat → Int32} {vnxc : Nat → Option Nat} {ch : Nat → List Nat} {la va : Nat → Nat} (hM : gMI gr sh rt ce nl nv am nc cd bud fsd las isB mto maw lno dya amo rfd ord cpa lnf orf) (hOK : gOK Lc Kc lrow vrow earc vlnc vnxc ch) (hC : gCR Lc Kc nl nv nc bud fsd las isB mto maw dya amo rfd cpa lnf orf lrow vrow pia budc fsdc lasc basc mvic mvac vlnc vdac vamc vrfc velc ch la va) {r : Int32} (hw : r = if nI nc = 0 then 0 else (gEa sh am (gEb sh gr (gSa lrow basc velc vdac ch cd 0 12) (gOv rt ce (gSa lrow basc velc vdac ch cd 1 12)))) - pia) : r = (if nI nc = 0 then 0 else (gEt sh am (gUb sh gr (gSm (gCx dya isB (gEL (fun l => bud l + mto l - maw l) (fun v => gAcc (fsd (lnf v)) (las (lnf v)) (rfd v) (dya v)) lnf amo orf nv) lnf cd 0) nv) (gOw rt ce (gSm (gCx dya isB (gEL (fun l => bud l + mto l - maw l) (fun v => gAcc (fsd (lnf v)) (las (lnf v)) (rfd v) (dya v)) lnf amo orf nv) lnf cd 1) nv)))) - gSm cpa nc) := by
  rw [hw, gT_ea hM hOK hC cd, hC.2.2.2.2.2.2.1]
