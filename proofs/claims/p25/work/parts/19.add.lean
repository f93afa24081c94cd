/-- behind a deed: whatever the book then is, the rest of the turn and all later ones come to the law's end -/
def pTail (p : Program) (l : Launch) (e : Env) (s : State) (m : MethodId) (below : List Frame) (meth : Method) (c : Code) (D : va_G) (cyI cyZ cyL cyV cyJ : ClassId) (b g xn xb xd xa xl xp : Nat) (A : Nat → Prop) (j : Nat) : Prop :=
  ∀ (gr sh rt ce : Int32) (nl nv : Nat) (am : Int32) (nc : Nat) (cd : Int32) (bud fsd las isB mto maw lno dya amo rfd ord cpa : Nat → Int32) (lnf orf : Nat → Nat) (nf bf df af lf pf : Nat → Int32) (G : va_W) (H : Heap) (locs : List Loc) (ls : Array Slot) (Y : Nat), gGP cyI cyL cyV gr sh rt ce nl nv am nc cd bud fsd las isB mto maw lno dya amo rfd ord cpa lnf orf g G → pRB nl nv gr sh rt ce bud fsd las isB mto maw dya amo rfd lnf nf bf df af lf → pRX nl am nc cd cpa nf bf pf → pST nv dya orf → (j + 1 ≤ nl ∨ 3 ≤ nl) → Y < 2 ^ 31 → va_P D vwCl ((xn, .inl (cyI, 10, .inl nf)) :: (xb, .inl (cyI, 36, .inl bf)) :: (xd, .inl (cyI, 40, .inl df)) :: (xa, .inl (cyI, 40, .inl af)) :: (xl, .inl (cyI, 40, .inl lf)) :: (xp, .inl (cyI, 40, .inl pf)) :: G) H → va_D A ((xn, .inl (cyI, 10, .inl nf)) :: (xb, .inl (cyI, 36, .inl bf)) :: (xd, .inl (cyI, 40, .inl df)) :: (xa, .inl (cyI, 40, .inl af)) :: (xl, .inl (cyI, 40, .inl lf)) :: (xp, .inl (cyI, 40, .inl pf)) :: G) → va_S A s.heap H locs → lv_has ls 20 [(8, .int 1), (12, .int (nI Y)), (9, .int (nI j)), (0, .ref b), (1, .ref g), (2, .ref xn), (3, .ref xb), (4, .ref xd), (5, .ref xa), (6, .ref xl), (7, .ref xp)] → W p l e room_1 s m #[Value.ref b] below meth c H locs (400 + 2000 * j + 1000) (2000 + 20000 * j + 10000) (lw_Z below #[Value.ref b] s) (F0 m 1317 ls [])
section GL
variable {p : Program} {l : Launch} {e : Env} {R : Room} {s : State} {m : MethodId} {args : Array Value} {below : List Frame} {meth : Method} {c : Code} {H H0 : Heap} {locs : List Loc} {cells slots : Nat} {Q : State → Prop} {A : Nat → Prop}
variable {cc : ByteArray} {pc : Nat} {ls : Array Slot} {rest : List Value}
theorem gk_sld (hexec : p.tables.exec = Jvm.exec) (hb : c.code = cc) {b L : Nat} {xs : Nat → Int32} (hX : va_X b L xs s H0) (hbl : b < H0.size) (hbA : ¬ A b) (hS : va_S A H0 H locs) {i : Nat} (hi : i < L) (hL : L ≤ 260) (hdg : decode cc pc = .ok (.iaload, 1))
    (kk : W p l e R s m args below meth c H locs cells slots Q (F0 m (pc + 1) ls (.int (xs i) :: rest))) : W p l e R s m args below meth c H locs cells slots Q (F0 m pc ls (.int (nI i) :: .ref b :: rest)) :=
  va_sld hexec hb hX hbl hbA hS (vp_in_nI hi (by omega)) hdg (by rw [nI_clamp (by omega)]; exact kk)
end GL
set_option maxHeartbeats 40000000 in
set_option maxRecDepth 100000 in
theorem pD_add {p : Program} {l : Launch} {e : Env} {s : State} {m : MethodId} {below : List Frame} {meth : Method} {c : Code} (hst : l.stackTraces = false) {D : va_G} {cyI cyZ cyL cyV cyJ : ClassId} {b L : Nat} {xs : Nat → Int32} (hL : L ≤ 260) (CA : lw_At p s m meth c b L xs) {A : Nat → Prop} (hAd : A = fun q : Nat => s.heap.size ≤ q) (hTF : gTF A s s.heap) (hNC : gNC s) (hK : va_K D vwCl (gTy cyI cyZ cyL cyV cyJ) s) {g xn xb xd xa xl xp : Nat} {j : Nat} (hj : j < 60) (tl : pTail p l e s m below meth c D cyI cyZ cyL cyV cyJ b g xn xb xd xa xl xp A j) {gr sh rt ce : Int32} {nl nv : Nat} {am : Int32} {nc : Nat} {cd : Int32} {bud fsd las isB mto maw lno dya amo rfd ord cpa : Nat → Int32} {lnf orf : Nat → Nat} {nf bf df af lf pf : Nat → Int32} {G : va_W} {H : Heap} {locs : List Loc} {ls : Array Slot} {Y LN : Nat} (hY : Y < 2 ^ 27) (hG : gGP cyI cyL cyV gr sh rt ce nl nv am nc cd bud fsd las isB mto maw lno dya amo rfd ord cpa lnf orf g G) (hR : pRB nl nv gr sh rt ce bud fsd las isB mto maw dya amo rfd lnf nf bf df af lf) (hX : pRX nl am nc cd cpa nf bf pf) (hT : pST nv dya orf) (hlt : nl < 6) (hjn : j ≤ nl ∨ 3 ≤ nl) (hP : va_P D vwCl ((xn, .inl (cyI, 10, .inl nf)) :: (xb, .inl (cyI, 36, .inl bf)) :: (xd, .inl (cyI, 40, .inl df)) :: (xa, .inl (cyI, 40, .inl af)) :: (xl, .inl (cyI, 40, .inl lf)) :: (xp, .inl (cyI, 40, .inl pf)) :: G) H) (hD : va_D A ((xn, .inl (cyI, 10, .inl nf)) :: (xb, .inl (cyI, 36, .inl bf)) :: (xd, .inl (cyI, 40, .inl df)) :: (xa, .inl (cyI, 40, .inl af)) :: (xl, .inl (cyI, 40, .inl lf)) :: (xp, .inl (cyI, 40, .inl pf)) :: G)) (hS : va_S A s.heap H locs) (hl : lv_has ls 20 [(14, .int (nI (Y / 6 % 100 * 5))), (13, .int (nI LN)), (12, .int (nI Y)), (9, .int (nI j)), (0, .ref b), (1, .ref g), (2, .ref xn), (3, .ref xb), (4, .ref xd), (5, .ref xa), (6, .ref xl), (7, .ref xp)]) : W p l e room_1 s m #[Value.ref b] below meth c H locs (400 + 2000 * j) (2000 + 20000 * j) (lw_Z below #[Value.ref b] s) (F0 m 201 ls []) := by
  obtain ⟨hx, hb, hr, hml, hown, hts0, hX0, hbl, hlocks, hgv⟩ := CA
  have hts : ∀ w ∈ wsL_law, w.before #[Value.ref b] s = true := fun w h => hts0 w (wsL_law_in w h)
  have hA : ∀ q : Nat, s.heap.size ≤ q → A q := fun q h => by rw [hAd]; exact h
  have hbA : ¬ A b := by rw [hAd]; exact Nat.not_le.mpr hbl
  obtain ⟨⟨hnl, hnv⟩, ⟨hn0, hn1, hn2, hn3, hn5⟩, hbl, hvl⟩ := id hR
  obtain ⟨hn4, hn6, hn7, hn8, hn9, hpf, hbz⟩ := id hX
  have hnc : nc ≤ 40 := hG.1.1.2.2
  have hel := pG_el hG hT
  have cutB : ∀ (B : Nat) (hB : B ≤ 10000000) (ls : Array Slot), lv_has ls 20 [(14, .int (nI (Y / 6 % 100 * 5))), (13, .int (nI LN)), (12, .int (nI Y)), (9, .int (nI j)), (0, .ref b), (1, .ref g), (2, .ref xn), (3, .ref xb), (4, .ref xd), (5, .ref xa), (6, .ref xl), (7, .ref xp)] → W p l e room_1 s m #[Value.ref b] below meth c H locs (400 + 2000 * j) (2000 + 20000 * j) (lw_Z below #[Value.ref b] s) (F0 m 234 ls [.int (nI B)]) := by
    intro B hB ls hl
    refine lv_istore (lv' := [(15, .int (nI B)), (14, .int (nI (Y / 6 % 100 * 5))), (13, .int (nI LN)), (12, .int (nI Y)), (9, .int (nI j)), (0, .ref b), (1, .ref g), (2, .ref xn), (3, .ref xb), (4, .ref xd), (5, .ref xa), (6, .ref xl), (7, .ref xp)]) hx hb dL_law_234 hl (by decide) rfl (fun ls hl => ?_)
    refine lv_iload hx hb dL_law_236 (lv_at hl 1 rfl) ?_
    refine lv_iload hx hb dL_law_238 (lv_at hl 3 rfl) ?_
    refine lv_bipush (v := 11) hx hb dL_law_240 (by decide) ?_
    refine lv_idiv hx hb dL_law_242 (by decide) ?_
    refine lv_topi (fun y_1 h_1 => ?_)
    obtain rfl : y_1 = (nI (Y / 11)) := h_1.trans (pk_div (a := Y) (d := 11) (by omega) (by omega) (by omega))
    refine lv_sipush (v := 200) hx hb dL_law_243 (by decide) ?_
    refine lv_irem hx hb dL_law_246 (by decide) ?_
    refine lv_topi (fun y_2 h_2 => ?_)
    obtain rfl : y_2 = (nI ((Y / 11) % 200)) := h_2.trans (pk_rem (a := (Y / 11)) (d := 200) (by omega) (by omega) (by omega))
    refine lv_iadd hx hb dL_law_247 ?_
    refine lv_topi (fun y_3 h_3 => ?_)
    obtain rfl : y_3 = (nI ((Y / 6 % 100 * 5) + ((Y / 11) % 200))) := h_3.trans (nI_add (Y / 6 % 100 * 5) ((Y / 11) % 200))
    refine lv_istore (lv' := [(16, .int (nI ((Y / 6 % 100 * 5) + ((Y / 11) % 200)))), (15, .int (nI B)), (14, .int (nI (Y / 6 % 100 * 5))), (13, .int (nI LN)), (12, .int (nI Y)), (9, .int (nI j)), (0, .ref b), (1, .ref g), (2, .ref xn), (3, .ref xb), (4, .ref xd), (5, .ref xa), (6, .ref xl), (7, .ref xp)]) hx hb dL_law_248 hl (by decide) rfl (fun ls hl => ?_)
    refine lv_aload_n hx hb dL_law_250 rfl (lv_at hl 9 rfl) ?_
    refine lv_bipush (v := 6) hx hb dL_law_251 (by decide) ?_
    refine lv_aload_n hx hb dL_law_253 rfl (lv_at hl 8 rfl) ?_
    refine lv_iconst (v := 4) hx hb dL_law_254 (by decide) ?_
    refine gk_iald (i := 4) hx hb hK hP 0 0 rfl rfl (by omega) (by decide) dL_law_255 ?_
    rw [hn4]
    refine lv_imul hx hb dL_law_256 ?_
    refine lv_topi (fun y_4 h_4 => ?_)
    obtain rfl : y_4 = (nI (6 * nl)) := h_4.trans (pk_mul 6 nl)
    refine lv_iload hx hb dL_law_257 (lv_at hl 1 rfl) ?_
    refine gk_iast (i := (6 * nl)) hx hb hK hP hD hS 1 0 rfl rfl (by omega) (by decide) dL_law_259 (fun H locs hP hD hS => ?_)
    have hP : va_P D vwCl ((xn, .inl (cyI, 10, .inl nf)) :: (xb, .inl (cyI, 36, .inl (va_up bf (6 * nl) (nI B)))) :: (xd, .inl (cyI, 40, .inl df)) :: (xa, .inl (cyI, 40, .inl af)) :: (xl, .inl (cyI, 40, .inl lf)) :: (xp, .inl (cyI, 40, .inl pf)) :: G) H := hP
    have hD : va_D A ((xn, .inl (cyI, 10, .inl nf)) :: (xb, .inl (cyI, 36, .inl (va_up bf (6 * nl) (nI B)))) :: (xd, .inl (cyI, 40, .inl df)) :: (xa, .inl (cyI, 40, .inl af)) :: (xl, .inl (cyI, 40, .inl lf)) :: (xp, .inl (cyI, 40, .inl pf)) :: G) := hD
    obtain ⟨bf_5, ebf_5⟩ : ∃ z, z = (va_up bf (6 * nl) (nI B)) := ⟨_, rfl⟩
    rw [← ebf_5] at hP hD
    refine lv_aload_n hx hb dL_law_260 rfl (lv_at hl 9 rfl) ?_
    refine lv_bipush (v := 6) hx hb dL_law_261 (by decide) ?_
    refine lv_aload_n hx hb dL_law_263 rfl (lv_at hl 8 rfl) ?_
    refine lv_iconst (v := 4) hx hb dL_law_264 (by decide) ?_
    refine gk_iald (i := 4) hx hb hK hP 0 0 rfl rfl (by omega) (by decide) dL_law_265 ?_
    rw [hn4]
    refine lv_imul hx hb dL_law_266 ?_
    refine lv_topi (fun y_6 h_6 => ?_)
    obtain rfl : y_6 = (nI (6 * nl)) := h_6.trans (pk_mul 6 nl)
    refine lv_iconst (v := 1) hx hb dL_law_267 (by decide) ?_
    refine lv_iadd hx hb dL_law_268 ?_
    refine lv_topi (fun y_7 h_7 => ?_)
    obtain rfl : y_7 = (nI ((6 * nl) + 1)) := h_7.trans (nI_add (6 * nl) 1)
    refine lv_iload hx hb dL_law_269 (lv_at hl 2 rfl) ?_
    refine lv_iconst (v := 4) hx hb dL_law_271 (by decide) ?_
    refine lv_idiv hx hb dL_law_272 (by decide) ?_
    refine lv_topi (fun y_8 h_8 => ?_)
    obtain rfl : y_8 = (nI ((Y / 6 % 100 * 5) / 4)) := h_8.trans (pk_div (a := (Y / 6 % 100 * 5)) (d := 4) (by omega) (by omega) (by omega))
    refine gk_iast (i := ((6 * nl) + 1)) hx hb hK hP hD hS 1 0 rfl rfl (by omega) (by decide) dL_law_273 (fun H locs hP hD hS => ?_)
    have hP : va_P D vwCl ((xn, .inl (cyI, 10, .inl nf)) :: (xb, .inl (cyI, 36, .inl (va_up bf_5 ((6 * nl) + 1) (nI ((Y / 6 % 100 * 5) / 4))))) :: (xd, .inl (cyI, 40, .inl df)) :: (xa, .inl (cyI, 40, .inl af)) :: (xl, .inl (cyI, 40, .inl lf)) :: (xp, .inl (cyI, 40, .inl pf)) :: G) H := hP
    have hD : va_D A ((xn, .inl (cyI, 10, .inl nf)) :: (xb, .inl (cyI, 36, .inl (va_up bf_5 ((6 * nl) + 1) (nI ((Y / 6 % 100 * 5) / 4))))) :: (xd, .inl (cyI, 40, .inl df)) :: (xa, .inl (cyI, 40, .inl af)) :: (xl, .inl (cyI, 40, .inl lf)) :: (xp, .inl (cyI, 40, .inl pf)) :: G) := hD
    obtain ⟨bf_9, ebf_9⟩ : ∃ z, z = (va_up bf_5 ((6 * nl) + 1) (nI ((Y / 6 % 100 * 5) / 4))) := ⟨_, rfl⟩
    rw [← ebf_9] at hP hD
    refine lv_aload_n hx hb dL_law_274 rfl (lv_at hl 9 rfl) ?_
    refine lv_bipush (v := 6) hx hb dL_law_275 (by decide) ?_
    refine lv_aload_n hx hb dL_law_277 rfl (lv_at hl 8 rfl) ?_
    refine lv_iconst (v := 4) hx hb dL_law_278 (by decide) ?_
    refine gk_iald (i := 4) hx hb hK hP 0 0 rfl rfl (by omega) (by decide) dL_law_279 ?_
    rw [hn4]
    refine lv_imul hx hb dL_law_280 ?_
    refine lv_topi (fun y_10 h_10 => ?_)
    obtain rfl : y_10 = (nI (6 * nl)) := h_10.trans (pk_mul 6 nl)
    refine lv_iconst (v := 2) hx hb dL_law_281 (by decide) ?_
    refine lv_iadd hx hb dL_law_282 ?_
    refine lv_topi (fun y_11 h_11 => ?_)
    obtain rfl : y_11 = (nI ((6 * nl) + 2)) := h_11.trans (nI_add (6 * nl) 2)
    refine lv_iload hx hb dL_law_283 (lv_at hl 0 rfl) ?_
    refine gk_iast (i := ((6 * nl) + 2)) hx hb hK hP hD hS 1 0 rfl rfl (by omega) (by decide) dL_law_285 (fun H locs hP hD hS => ?_)
    have hP : va_P D vwCl ((xn, .inl (cyI, 10, .inl nf)) :: (xb, .inl (cyI, 36, .inl (va_up bf_9 ((6 * nl) + 2) (nI ((Y / 6 % 100 * 5) + ((Y / 11) % 200)))))) :: (xd, .inl (cyI, 40, .inl df)) :: (xa, .inl (cyI, 40, .inl af)) :: (xl, .inl (cyI, 40, .inl lf)) :: (xp, .inl (cyI, 40, .inl pf)) :: G) H := hP
    have hD : va_D A ((xn, .inl (cyI, 10, .inl nf)) :: (xb, .inl (cyI, 36, .inl (va_up bf_9 ((6 * nl) + 2) (nI ((Y / 6 % 100 * 5) + ((Y / 11) % 200)))))) :: (xd, .inl (cyI, 40, .inl df)) :: (xa, .inl (cyI, 40, .inl af)) :: (xl, .inl (cyI, 40, .inl lf)) :: (xp, .inl (cyI, 40, .inl pf)) :: G) := hD
    obtain ⟨bf_12, ebf_12⟩ : ∃ z, z = (va_up bf_9 ((6 * nl) + 2) (nI ((Y / 6 % 100 * 5) + ((Y / 11) % 200)))) := ⟨_, rfl⟩
    rw [← ebf_12] at hP hD
    refine lv_aload_n hx hb dL_law_286 rfl (lv_at hl 9 rfl) ?_
    refine lv_bipush (v := 6) hx hb dL_law_287 (by decide) ?_
    refine lv_aload_n hx hb dL_law_289 rfl (lv_at hl 8 rfl) ?_
    refine lv_iconst (v := 4) hx hb dL_law_290 (by decide) ?_
    refine gk_iald (i := 4) hx hb hK hP 0 0 rfl rfl (by omega) (by decide) dL_law_291 ?_
    rw [hn4]
    refine lv_imul hx hb dL_law_292 ?_
    refine lv_topi (fun y_13 h_13 => ?_)
    obtain rfl : y_13 = (nI (6 * nl)) := h_13.trans (pk_mul 6 nl)
    refine lv_iconst (v := 3) hx hb dL_law_293 (by decide) ?_
    refine lv_iadd hx hb dL_law_294 ?_
    refine lv_topi (fun y_14 h_14 => ?_)
    obtain rfl : y_14 = (nI ((6 * nl) + 3)) := h_14.trans (nI_add (6 * nl) 3)
    refine lv_iload hx hb dL_law_295 (lv_at hl 4 rfl) ?_
    refine lv_iconst (v := 2) hx hb dL_law_297 (by decide) ?_
    refine lv_irem hx hb dL_law_298 (by decide) ?_
    refine lv_topi (fun y_15 h_15 => ?_)
    obtain rfl : y_15 = (nI (Y % 2)) := h_15.trans (pk_rem (a := Y) (d := 2) (by omega) (by omega) (by omega))
    refine gk_iast (i := ((6 * nl) + 3)) hx hb hK hP hD hS 1 0 rfl rfl (by omega) (by decide) dL_law_299 (fun H locs hP hD hS => ?_)
    have hP : va_P D vwCl ((xn, .inl (cyI, 10, .inl nf)) :: (xb, .inl (cyI, 36, .inl (va_up bf_12 ((6 * nl) + 3) (nI (Y % 2))))) :: (xd, .inl (cyI, 40, .inl df)) :: (xa, .inl (cyI, 40, .inl af)) :: (xl, .inl (cyI, 40, .inl lf)) :: (xp, .inl (cyI, 40, .inl pf)) :: G) H := hP
    have hD : va_D A ((xn, .inl (cyI, 10, .inl nf)) :: (xb, .inl (cyI, 36, .inl (va_up bf_12 ((6 * nl) + 3) (nI (Y % 2))))) :: (xd, .inl (cyI, 40, .inl df)) :: (xa, .inl (cyI, 40, .inl af)) :: (xl, .inl (cyI, 40, .inl lf)) :: (xp, .inl (cyI, 40, .inl pf)) :: G) := hD
    obtain ⟨bf_16, ebf_16⟩ : ∃ z, z = (va_up bf_12 ((6 * nl) + 3) (nI (Y % 2))) := ⟨_, rfl⟩
    rw [← ebf_16] at hP hD
    refine lv_aload_n hx hb dL_law_300 rfl (lv_at hl 7 rfl) ?_
    refine lv_iload hx hb dL_law_301 (lv_at hl 1 rfl) ?_
    refine lv_iload hx hb dL_law_303 (lv_at hl 2 rfl) ?_
    refine lv_iconst (v := 4) hx hb dL_law_305 (by decide) ?_
    refine lv_idiv hx hb dL_law_306 (by decide) ?_
    refine lv_topi (fun y_17 h_17 => ?_)
    obtain rfl : y_17 = (nI ((Y / 6 % 100 * 5) / 4)) := h_17.trans (pk_div (a := (Y / 6 % 100 * 5)) (d := 4) (by omega) (by omega) (by omega))
    refine lv_iload hx hb dL_law_307 (lv_at hl 0 rfl) ?_
    refine lv_iload hx hb dL_law_309 (lv_at hl 4 rfl) ?_
    refine lv_iconst (v := 2) hx hb dL_law_311 (by decide) ?_
    refine lv_irem hx hb dL_law_312 (by decide) ?_
    refine lv_topi (fun y_18 h_18 => ?_)
    obtain rfl : y_18 = (nI (Y % 2)) := h_18.trans (pk_rem (a := Y) (d := 2) (by omega) (by omega) (by omega))
    refine lv_iconst (v := 1) hx hb dL_law_313 (by decide) ?_
    refine lv_icmp_ne (tgt := 321) hx hb dL_law_314 (by decide) (fun c_19 => ?_) (fun c_19 => ?_)
    · have n_19 : ¬ (Y % 2) = 1 := pf_neq (a := (Y % 2)) (b := 1) (by omega) (by omega) c_19
      refine lv_iconst (v := 0) hx hb dL_law_321 (by decide) ?_
      have hP : va_P D vwCl (([(xn, .inl (cyI, 10, .inl nf)), (xb, .inl (cyI, 36, .inl bf_16)), (xd, .inl (cyI, 40, .inl df)), (xa, .inl (cyI, 40, .inl af)), (xl, .inl (cyI, 40, .inl lf)), (xp, .inl (cyI, 40, .inl pf))] : va_W) ++ G) H := hP
      have hD : va_D A (([(xn, .inl (cyI, 10, .inl nf)), (xb, .inl (cyI, 36, .inl bf_16)), (xd, .inl (cyI, 40, .inl df)), (xa, .inl (cyI, 40, .inl af)), (xl, .inl (cyI, 40, .inl lf)), (xp, .inl (cyI, 40, .inl pf))] : va_W) ++ G) := hD
      have hF_20 := gk_all hD hS hA
      refine vx_calli (vx_runV (As := [.int (nI B), .int (nI ((Y / 6 % 100 * 5) / 4)), .int (nI ((Y / 6 % 100 * 5) + ((Y / 11) % 200))), .int 0]) (rest := []) ⟨hx, hb, hml, hown, hts⟩ (kQ_addLine l hst D cyI cyZ cyL cyV cyJ gr sh rt ce nl nv am nc cd bud fsd las isB mto maw lno dya amo rfd ord cpa lnf orf g ([(xn, .inl (cyI, 10, .inl nf)), (xb, .inl (cyI, 36, .inl bf_16)), (xd, .inl (cyI, 40, .inl df)), (xa, .inl (cyI, 40, .inl af)), (xl, .inl (cyI, 40, .inl lf)), (xp, .inl (cyI, 40, .inl pf))] : va_W) G hG (nI B) (nI ((Y / 6 % 100 * 5) / 4)) (nI ((Y / 6 % 100 * 5) + ((Y / 11) % 200))) 0 (by decide) H.size _ rfl) (cwV 4 hts gL_law_X2_addLine rfl rfl rfl (by decide +kernel) ⟨(Nat.le_of_ble_eq_true rfl), (Nat.le_of_ble_eq_true rfl)⟩) (gk_preVT hTF hS hF_20 hP hK hD (gQ_recv hG hK hP)) rfl rfl hl.1 rfl (lv_room (Nat.le_of_ble_eq_true rfl)) dL_law_322 ⟨(by show _ ≤ (706465 : Nat); omega), (by show _ ≤ (6982228 : Nat); omega)⟩) hS (fun q _ h => hF_20 q h) hF_20 (fun q _ h => hF_20 q h) (fun E_20 ce_20 q_20 u_20 t_20 H locs ht_20 hvm_20 hpx_20 hBX_20 hz_20 hk_20 hS hce_20 hcv_20 hcl_20 => ?_) (fun r_20 u_20 t_20 H locs ht_20 hvm_20 hw_20 hB_20 hz_20 hk_20 hS => ?_)
      · have hcd_20 := pA_add (nl := nl) (B := B) (F := ((Y / 6 % 100 * 5) / 4)) (S := ((Y / 6 % 100 * 5) + ((Y / 11) % 200))) (by omega) (by omega) (by omega) (by omega) (by omega)
        rcases hpx_20 with ⟨-, h⟩ | ⟨-, h⟩ <;> exact absurd (hcd_20.symm.trans h) (by decide)
      · obtain ⟨hP, hD⟩ := gk_back hF_20 hB_20 ht_20
        have hP : va_P D vwCl ((xn, .inl (cyI, 10, .inl nf)) :: (xb, .inl (cyI, 36, .inl bf_16)) :: (xd, .inl (cyI, 40, .inl df)) :: (xa, .inl (cyI, 40, .inl af)) :: (xl, .inl (cyI, 40, .inl lf)) :: (xp, .inl (cyI, 40, .inl pf)) :: u_20) H := hP
        have hD : va_D A ((xn, .inl (cyI, 10, .inl nf)) :: (xb, .inl (cyI, 36, .inl bf_16)) :: (xd, .inl (cyI, 40, .inl df)) :: (xa, .inl (cyI, 40, .inl af)) :: (xl, .inl (cyI, 40, .inl lf)) :: (xp, .inl (cyI, 40, .inl pf)) :: u_20) := hD
        obtain ⟨-, hr_20, hG_20⟩ := hw_20
        subst hr_20
        refine lv_aload_n hx hb dL_law_325 rfl (lv_at hl 8 rfl) ?_
        refine lv_iconst (v := 4) hx hb dL_law_326 (by decide) ?_
        refine gk_iald (i := 4) hx hb hK hP 0 0 rfl rfl (by omega) (by decide) dL_law_327 ?_
        rw [hn4]
        refine lv_icmp_ne (tgt := 335) hx hb dL_law_328 (by decide) (fun c9 => absurd rfl c9) (fun _ => ?_)
        refine lv_iconst (v := 1) hx hb dL_law_331 (by decide) ?_
        refine lv_goto (tgt := 336) hx hb dL_law_332 (by decide) ?_
        refine lv_istore (lv' := [(8, .int 1), (16, .int (nI ((Y / 6 % 100 * 5) + ((Y / 11) % 200)))), (15, .int (nI B)), (14, .int (nI (Y / 6 % 100 * 5))), (13, .int (nI LN)), (12, .int (nI Y)), (9, .int (nI j)), (0, .ref b), (1, .ref g), (2, .ref xn), (3, .ref xb), (4, .ref xd), (5, .ref xa), (6, .ref xl), (7, .ref xp)]) hx hb dL_law_336 hl (by decide) rfl (fun ls hl => ?_)
        refine lv_aload_n hx hb dL_law_338 rfl (lv_at hl 9 rfl) ?_
        refine lv_iconst (v := 4) hx hb dL_law_339 (by decide) ?_
        refine lv_dup2_11 hx hb dL_law_340 rfl rfl ?_
        refine gk_iald (i := 4) hx hb hK hP 0 0 rfl rfl (by omega) (by decide) dL_law_341 ?_
        rw [hn4]
        refine lv_iconst (v := 1) hx hb dL_law_342 (by decide) ?_
        refine lv_iadd hx hb dL_law_343 ?_
        refine lv_topi (fun y_21 h_21 => ?_)
        obtain rfl : y_21 = (nI (nl + 1)) := h_21.trans (nI_add nl 1)
        refine gk_iast (i := 4) hx hb hK hP hD hS 0 0 rfl rfl (by omega) (by decide) dL_law_344 (fun H locs hP hD hS => ?_)
        have hP : va_P D vwCl ((xn, .inl (cyI, 10, .inl (va_up nf 4 (nI (nl + 1))))) :: (xb, .inl (cyI, 36, .inl bf_16)) :: (xd, .inl (cyI, 40, .inl df)) :: (xa, .inl (cyI, 40, .inl af)) :: (xl, .inl (cyI, 40, .inl lf)) :: (xp, .inl (cyI, 40, .inl pf)) :: u_20) H := hP
        have hD : va_D A ((xn, .inl (cyI, 10, .inl (va_up nf 4 (nI (nl + 1))))) :: (xb, .inl (cyI, 36, .inl bf_16)) :: (xd, .inl (cyI, 40, .inl df)) :: (xa, .inl (cyI, 40, .inl af)) :: (xl, .inl (cyI, 40, .inl lf)) :: (xp, .inl (cyI, 40, .inl pf)) :: u_20) := hD
        obtain ⟨nf_22, enf_22⟩ : ∃ z, z = (va_up nf 4 (nI (nl + 1))) := ⟨_, rfl⟩
        rw [← enf_22] at hP hD
        refine lv_goto (tgt := 1317) hx hb dL_law_345 (by decide) ?_
        obtain ⟨hR9, hX9⟩ := pR_add hR hX (pM_new hG.1).1 hlt (p0 := nI B) (p1 := nI ((Y / 6 % 100 * 5) / 4)) (p2 := nI ((Y / 6 % 100 * 5) + ((Y / 11) % 200))) (p3 := 0) (bf' := bf_16) (by decide) enf_22 (by rw [ebf_16, ebf_12, ebf_9, ebf_5, show nI (Y % 2) = 0 from by rw [show Y % 2 = 0 by omega]; rfl])
        refine W.widen (k := 400 + 2000 * j + 1000) (n := 2000 + 20000 * j + 10000) (by omega) (by omega) ?_
        exact tl _ _ _ _ _ _ _ _ _ _ _ _ _ _ _ _ _ _ _ _ _ _ _ nf_22 bf_16 df af lf pf u_20 _ _ _ Y hG_20 hR9 hX9 hT (by omega) (by omega) hP hD hS (lv_sub hl [0, 5, 6, 7, 8, 9, 10, 11, 12, 13, 14] rfl)
    · have n_19 : (Y % 2) = 1 := pf_eq (a := (Y % 2)) (b := 1) (by omega) (by omega) c_19
      refine lv_iconst (v := 1) hx hb dL_law_317 (by decide) ?_
      refine lv_goto (tgt := 322) hx hb dL_law_318 (by decide) ?_
      have hP : va_P D vwCl (([(xn, .inl (cyI, 10, .inl nf)), (xb, .inl (cyI, 36, .inl bf_16)), (xd, .inl (cyI, 40, .inl df)), (xa, .inl (cyI, 40, .inl af)), (xl, .inl (cyI, 40, .inl lf)), (xp, .inl (cyI, 40, .inl pf))] : va_W) ++ G) H := hP
      have hD : va_D A (([(xn, .inl (cyI, 10, .inl nf)), (xb, .inl (cyI, 36, .inl bf_16)), (xd, .inl (cyI, 40, .inl df)), (xa, .inl (cyI, 40, .inl af)), (xl, .inl (cyI, 40, .inl lf)), (xp, .inl (cyI, 40, .inl pf))] : va_W) ++ G) := hD
      have hF_23 := gk_all hD hS hA
      refine vx_calli (vx_runV (As := [.int (nI B), .int (nI ((Y / 6 % 100 * 5) / 4)), .int (nI ((Y / 6 % 100 * 5) + ((Y / 11) % 200))), .int 1]) (rest := []) ⟨hx, hb, hml, hown, hts⟩ (kQ_addLine l hst D cyI cyZ cyL cyV cyJ gr sh rt ce nl nv am nc cd bud fsd las isB mto maw lno dya amo rfd ord cpa lnf orf g ([(xn, .inl (cyI, 10, .inl nf)), (xb, .inl (cyI, 36, .inl bf_16)), (xd, .inl (cyI, 40, .inl df)), (xa, .inl (cyI, 40, .inl af)), (xl, .inl (cyI, 40, .inl lf)), (xp, .inl (cyI, 40, .inl pf))] : va_W) G hG (nI B) (nI ((Y / 6 % 100 * 5) / 4)) (nI ((Y / 6 % 100 * 5) + ((Y / 11) % 200))) 1 (by decide) H.size _ rfl) (cwV 4 hts gL_law_X2_addLine rfl rfl rfl (by decide +kernel) ⟨(Nat.le_of_ble_eq_true rfl), (Nat.le_of_ble_eq_true rfl)⟩) (gk_preVT hTF hS hF_23 hP hK hD (gQ_recv hG hK hP)) rfl rfl hl.1 rfl (lv_room (Nat.le_of_ble_eq_true rfl)) dL_law_322 ⟨(by show _ ≤ (706465 : Nat); omega), (by show _ ≤ (6982228 : Nat); omega)⟩) hS (fun q _ h => hF_23 q h) hF_23 (fun q _ h => hF_23 q h) (fun E_23 ce_23 q_23 u_23 t_23 H locs ht_23 hvm_23 hpx_23 hBX_23 hz_23 hk_23 hS hce_23 hcv_23 hcl_23 => ?_) (fun r_23 u_23 t_23 H locs ht_23 hvm_23 hw_23 hB_23 hz_23 hk_23 hS => ?_)
      · have hcd_23 := pA_add (nl := nl) (B := B) (F := ((Y / 6 % 100 * 5) / 4)) (S := ((Y / 6 % 100 * 5) + ((Y / 11) % 200))) (by omega) (by omega) (by omega) (by omega) (by omega)
        rcases hpx_23 with ⟨-, h⟩ | ⟨-, h⟩ <;> exact absurd (hcd_23.symm.trans h) (by decide)
      · obtain ⟨hP, hD⟩ := gk_back hF_23 hB_23 ht_23
        have hP : va_P D vwCl ((xn, .inl (cyI, 10, .inl nf)) :: (xb, .inl (cyI, 36, .inl bf_16)) :: (xd, .inl (cyI, 40, .inl df)) :: (xa, .inl (cyI, 40, .inl af)) :: (xl, .inl (cyI, 40, .inl lf)) :: (xp, .inl (cyI, 40, .inl pf)) :: u_23) H := hP
        have hD : va_D A ((xn, .inl (cyI, 10, .inl nf)) :: (xb, .inl (cyI, 36, .inl bf_16)) :: (xd, .inl (cyI, 40, .inl df)) :: (xa, .inl (cyI, 40, .inl af)) :: (xl, .inl (cyI, 40, .inl lf)) :: (xp, .inl (cyI, 40, .inl pf)) :: u_23) := hD
        obtain ⟨-, hr_23, hG_23⟩ := hw_23
        subst hr_23
        refine lv_aload_n hx hb dL_law_325 rfl (lv_at hl 8 rfl) ?_
        refine lv_iconst (v := 4) hx hb dL_law_326 (by decide) ?_
        refine gk_iald (i := 4) hx hb hK hP 0 0 rfl rfl (by omega) (by decide) dL_law_327 ?_
        rw [hn4]
        refine lv_icmp_ne (tgt := 335) hx hb dL_law_328 (by decide) (fun c9 => absurd rfl c9) (fun _ => ?_)
        refine lv_iconst (v := 1) hx hb dL_law_331 (by decide) ?_
        refine lv_goto (tgt := 336) hx hb dL_law_332 (by decide) ?_
        refine lv_istore (lv' := [(8, .int 1), (16, .int (nI ((Y / 6 % 100 * 5) + ((Y / 11) % 200)))), (15, .int (nI B)), (14, .int (nI (Y / 6 % 100 * 5))), (13, .int (nI LN)), (12, .int (nI Y)), (9, .int (nI j)), (0, .ref b), (1, .ref g), (2, .ref xn), (3, .ref xb), (4, .ref xd), (5, .ref xa), (6, .ref xl), (7, .ref xp)]) hx hb dL_law_336 hl (by decide) rfl (fun ls hl => ?_)
        refine lv_aload_n hx hb dL_law_338 rfl (lv_at hl 9 rfl) ?_
        refine lv_iconst (v := 4) hx hb dL_law_339 (by decide) ?_
        refine lv_dup2_11 hx hb dL_law_340 rfl rfl ?_
        refine gk_iald (i := 4) hx hb hK hP 0 0 rfl rfl (by omega) (by decide) dL_law_341 ?_
        rw [hn4]
        refine lv_iconst (v := 1) hx hb dL_law_342 (by decide) ?_
        refine lv_iadd hx hb dL_law_343 ?_
        refine lv_topi (fun y_24 h_24 => ?_)
        obtain rfl : y_24 = (nI (nl + 1)) := h_24.trans (nI_add nl 1)
        refine gk_iast (i := 4) hx hb hK hP hD hS 0 0 rfl rfl (by omega) (by decide) dL_law_344 (fun H locs hP hD hS => ?_)
        have hP : va_P D vwCl ((xn, .inl (cyI, 10, .inl (va_up nf 4 (nI (nl + 1))))) :: (xb, .inl (cyI, 36, .inl bf_16)) :: (xd, .inl (cyI, 40, .inl df)) :: (xa, .inl (cyI, 40, .inl af)) :: (xl, .inl (cyI, 40, .inl lf)) :: (xp, .inl (cyI, 40, .inl pf)) :: u_23) H := hP
        have hD : va_D A ((xn, .inl (cyI, 10, .inl (va_up nf 4 (nI (nl + 1))))) :: (xb, .inl (cyI, 36, .inl bf_16)) :: (xd, .inl (cyI, 40, .inl df)) :: (xa, .inl (cyI, 40, .inl af)) :: (xl, .inl (cyI, 40, .inl lf)) :: (xp, .inl (cyI, 40, .inl pf)) :: u_23) := hD
        obtain ⟨nf_25, enf_25⟩ : ∃ z, z = (va_up nf 4 (nI (nl + 1))) := ⟨_, rfl⟩
        rw [← enf_25] at hP hD
        refine lv_goto (tgt := 1317) hx hb dL_law_345 (by decide) ?_
        obtain ⟨hR9, hX9⟩ := pR_add hR hX (pM_new hG.1).1 hlt (p0 := nI B) (p1 := nI ((Y / 6 % 100 * 5) / 4)) (p2 := nI ((Y / 6 % 100 * 5) + ((Y / 11) % 200))) (p3 := 1) (bf' := bf_16) (by decide) enf_25 (by rw [ebf_16, ebf_12, ebf_9, ebf_5, show nI (Y % 2) = 1 from by rw [show Y % 2 = 1 by omega]; rfl])
        refine W.widen (k := 400 + 2000 * j + 1000) (n := 2000 + 20000 * j + 10000) (by omega) (by omega) ?_
        exact tl _ _ _ _ _ _ _ _ _ _ _ _ _ _ _ _ _ _ _ _ _ _ _ nf_25 bf_16 df af lf pf u_23 _ _ _ Y hG_23 hR9 hX9 hT (by omega) (by omega) hP hD hS (lv_sub hl [0, 5, 6, 7, 8, 9, 10, 11, 12, 13, 14] rfl)
  refine lv_iload hx hb dL_law_201 (lv_at hl 2 rfl) ?_
  refine lv_bipush (v := 7) hx hb dL_law_203 (by decide) ?_
  refine lv_idiv hx hb dL_law_205 (by decide) ?_
  refine lv_topi (fun y_26 h_26 => ?_)
  obtain rfl : y_26 = (nI (Y / 7)) := h_26.trans (pk_div (a := Y) (d := 7) (by omega) (by omega) (by omega))
  refine lv_iconst (v := 5) hx hb dL_law_206 (by decide) ?_
  refine lv_irem hx hb dL_law_207 (by decide) ?_
  refine lv_topi (fun y_27 h_27 => ?_)
  obtain rfl : y_27 = (nI ((Y / 7) % 5)) := h_27.trans (pk_rem (a := (Y / 7)) (d := 5) (by omega) (by omega) (by omega))
  refine lv_if_ne (tgt := 222) hx hb dL_law_208 (by decide) (fun c_28 => ?_) (fun c_28 => ?_)
  · have n_28 : ¬ ((Y / 7) % 5) = 0 := pf_neq (a := ((Y / 7) % 5)) (b := 0) (by omega) (by omega) c_28
    refine lv_sipush (v := 1000) hx hb dL_law_222 (by decide) ?_
    refine lv_iload hx hb dL_law_225 (lv_at hl 2 rfl) ?_
    refine lv_bipush (v := 35) hx hb dL_law_227 (by decide) ?_
    refine lv_idiv hx hb dL_law_229 (by decide) ?_
    refine lv_topi (fun y_29 h_29 => ?_)
    obtain rfl : y_29 = (nI (Y / 35)) := h_29.trans (pk_div (a := Y) (d := 35) (by omega) (by omega) (by omega))
    refine lv_ldc hx hb hown (hts0 (.constant RL 119 (90000)) wq_1_9) dL_law_230 ?_
    refine lv_irem hx hb dL_law_232 (by decide) ?_
    refine lv_topi (fun y_30 h_30 => ?_)
    obtain rfl : y_30 = (nI ((Y / 35) % 90000)) := h_30.trans (pk_rem (a := (Y / 35)) (d := 90000) (by omega) (by omega) (by omega))
    refine lv_iadd hx hb dL_law_233 ?_
    refine lv_topi (fun y_31 h_31 => ?_)
    obtain rfl : y_31 = (nI (1000 + ((Y / 35) % 90000))) := h_31.trans (nI_add 1000 ((Y / 35) % 90000))
    exact cutB (1000 + ((Y / 35) % 90000)) (by omega) _ hl
  · have n_28 : ((Y / 7) % 5) = 0 := pf_eq (a := ((Y / 7) % 5)) (b := 0) (by omega) (by omega) c_28
    refine lv_iload hx hb dL_law_211 (lv_at hl 2 rfl) ?_
    refine lv_bipush (v := 35) hx hb dL_law_213 (by decide) ?_
    refine lv_idiv hx hb dL_law_215 (by decide) ?_
    refine lv_topi (fun y_32 h_32 => ?_)
    obtain rfl : y_32 = (nI (Y / 35)) := h_32.trans (pk_div (a := Y) (d := 35) (by omega) (by omega) (by omega))
    refine lv_ldc hx hb hown (hts0 (.constant RL 118 (10000001)) wq_1_8) dL_law_216 ?_
    refine lv_irem hx hb dL_law_218 (by decide) ?_
    refine lv_topi (fun y_33 h_33 => ?_)
    obtain rfl : y_33 = (nI ((Y / 35) % 10000001)) := h_33.trans (pk_rem (a := (Y / 35)) (d := 10000001) (by omega) (by omega) (by omega))
    refine lv_goto (tgt := 234) hx hb dL_law_219 (by decide) ?_
    exact cutB ((Y / 35) % 10000001) (by omega) _ hl
