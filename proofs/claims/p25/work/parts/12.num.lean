theorem pf_lt {a b : Nat} (ha : a < 2 ^ 31) (hb : b < 2 ^ 31) (c : nI a < nI b) : a < b := (nI_ltI ha hb).mp c
theorem pf_nlt {a b : Nat} (ha : a < 2 ^ 31) (hb : b < 2 ^ 31) (c : ¬ nI a < nI b) : b ≤ a := Nat.le_of_not_lt (fun h => c ((nI_ltI ha hb).mpr h))
theorem pf_le {a b : Nat} (ha : a < 2 ^ 31) (hb : b < 2 ^ 31) (c : nI a ≤ nI b) : a ≤ b := (nI_leI ha hb).mp c
theorem pf_nle {a b : Nat} (ha : a < 2 ^ 31) (hb : b < 2 ^ 31) (c : ¬ nI a ≤ nI b) : b < a := Nat.lt_of_not_le (fun h => c ((nI_leI ha hb).mpr h))
theorem pf_eq {a b : Nat} (ha : a < 2 ^ 31) (hb : b < 2 ^ 31) (c : nI a = nI b) : a = b := (nI_eq ha hb).mp c
theorem pf_neq {a b : Nat} (ha : a < 2 ^ 31) (hb : b < 2 ^ 31) (c : ¬ nI a = nI b) : ¬ a = b := fun h => c ((nI_eq ha hb).mpr h)
theorem pc_lt {a b : Nat} (ha : a < 2 ^ 31) (hb : b < 2 ^ 31) (h : a < b) : nI a < nI b := (nI_ltI ha hb).mpr h
theorem pc_le {a b : Nat} (ha : a < 2 ^ 31) (hb : b < 2 ^ 31) (h : a ≤ b) : nI a ≤ nI b := (nI_leI ha hb).mpr h
theorem pc_eq {a b : Nat} (_ : a < 2 ^ 31) (_ : b < 2 ^ 31) (h : a = b) : nI a = nI b := by rw [h]
theorem pn_lt {a b : Nat} (ha : a < 2 ^ 31) (hb : b < 2 ^ 31) (h : b ≤ a) : ¬ nI a < nI b := fun c => Nat.not_lt.mpr h ((nI_ltI ha hb).mp c)
theorem pn_le {a b : Nat} (ha : a < 2 ^ 31) (hb : b < 2 ^ 31) (h : b < a) : ¬ nI a ≤ nI b := fun c => Nat.not_le.mpr h ((nI_leI ha hb).mp c)
theorem pn_eq {a b : Nat} (ha : a < 2 ^ 31) (hb : b < 2 ^ 31) (h : ¬ a = b) : ¬ nI a = nI b := fun c => h ((nI_eq ha hb).mp c)
theorem pN_rem2 {a b r : Nat} (ha : a < 2 ^ 31) (h0 : 0 < b) (hb : b < 2 ^ 31) (h : a % b = r) : nI a - nI a / nI b * nI b = nI r := by rw [pk_rem ha h0 hb, h]
theorem pL_lt {x y : Int64} (c : ¬ lg_cmp x y ≥ 0) : x < y := Int64.not_le.mp (fun h => c ((lg_cmp_ge x y).mpr h))
theorem pL_nlt {x y : Int64} (c : lg_cmp x y ≥ 0) : ¬ x < y := Int64.not_lt.mpr ((lg_cmp_ge x y).mp c)
theorem pL_gt {x y : Int64} (c : ¬ lg_cmp x y ≤ 0) : y < x := Int64.not_le.mp (fun h => c ((lg_cmp_le x y).mpr h))
theorem pL_ngt {x y : Int64} (c : lg_cmp x y ≤ 0) : ¬ y < x := Int64.not_lt.mpr ((lg_cmp_le x y).mp c)
/-- worlds: the first cell aside -/
theorem gk_tlP {D : va_G} {cl : List vw_C} {q : Nat × va_E} {ws : va_W} {H : Heap} (h : va_P D cl (q :: ws) H) : va_P D cl ws H := fun k x hk => h (k + 1) x hk
theorem gk_tlD {A : Nat → Prop} {q : Nat × va_E} {ws : va_W} (h : va_D A (q :: ws)) : va_D A ws := by
  rw [gk_Dnd] at h ⊢
  rw [List.map_cons] at h
  exact ⟨(List.nodup_cons.mp h.1).2, fun x hx => h.2 x (List.mem_cons_of_mem _ hx)⟩
/-- contracts, weaker -/
theorem gMet_mono {l : Launch} {y : MethodName} {ws : List Cond} {rm : Room} {Pc Pc' : Array Value → State → Prop} {Qc Qc' : Array Value → State → Outcome → State → Prop} {mc ms : Nat} {free : Addr → Prop} (h : Met l y ws rm Pc Qc mc ms free) (hp : ∀ a s, Pc' a s → Pc a s) (hq : ∀ a st o t, Qc a st o t → Qc' a st o t) : Met l y ws rm Pc' Qc' mc ms free := by
  intro p e ha hc hk s m args below hf hs hP hK
  obtain ⟨n, o, h1, h2, h3, h4, h5⟩ := h p e ha hc hk s m args below hf hs (hp _ _ hP) hK
  exact ⟨n, o, h1, h2, h3, hq _ _ _ _ h4, h5⟩
theorem gXMet_mono {l : Launch} {y : MethodName} {ws : List Cond} {rm : Room} {Pc Pc' : Array Value → State → Prop} {Qc Qc' : Array Value → State → Outcome → State → Prop} {XC XC' : String → State → State → Prop} {mc ms : Nat} {free : Addr → Prop} (h : vx_Met l y ws rm Pc Qc XC mc ms free) (hp : ∀ a s, Pc' a s → Pc a s) (hq : ∀ a st o t, Qc a st o t → Qc' a st o t) (hx : ∀ E st t, XC E st t → XC' E st t) : vx_Met l y ws rm Pc' Qc' XC' mc ms free := by
  intro p e ha hc hk s m args below hf hs hP hK
  obtain ⟨n, o, h1, h2, h3, h4⟩ := h p e ha hc hk s m args below hf hs (hp _ _ hP) hK
  refine ⟨n, o, h1, h2, h3, ?_⟩
  rcases h4 with ⟨h5, h6⟩ | ⟨q, h7, E, ce, L, h8, h9⟩
  · exact Or.inl ⟨hq _ _ _ _ h5, h6⟩
  · exact Or.inr ⟨q, h7, E, ce, L, hx _ _ _ h8, h9⟩
