/-- the pool's rows: kind 0 a line, else a voucher -/
def gE (K : Nat → Nat) (bud : Nat → Int32) (fsd : Nat → Int32) (las : Nat → Int32) (bas : Nat → Int32) (mvi : Nat → Int32) (mva : Nat → Int32) (ear : Nat → Option Nat) (vln : Nat → Option Nat) (vda : Nat → Int32) (vam : Nat → Int32) (vrf : Nat → Int32) (vel : Nat → Int32) (vnx : Nat → Option Nat) : Nat → va_E := fun a => if K a = 0 then .inr (0, [.int (bud a), .int (fsd a), .int (las a), .int (bas a), .int (mvi a), .int (mva a), va_rf (ear a)]) else .inr (1, [va_rf (vln a), .int (vda a), .int (vam a), .int (vrf a), .int (vel a), va_rf (vnx a)])
theorem gE_0 {K : Nat → Nat} {bud : Nat → Int32} {fsd : Nat → Int32} {las : Nat → Int32} {bas : Nat → Int32} {mvi : Nat → Int32} {mva : Nat → Int32} {ear : Nat → Option Nat} {vln : Nat → Option Nat} {vda : Nat → Int32} {vam : Nat → Int32} {vrf : Nat → Int32} {vel : Nat → Int32} {vnx : Nat → Option Nat} {a : Nat} (h : K a = 0) : gE K bud fsd las bas mvi mva ear vln vda vam vrf vel vnx a = .inr (0, [.int (bud a), .int (fsd a), .int (las a), .int (bas a), .int (mvi a), .int (mva a), va_rf (ear a)]) := if_pos h
theorem gE_1 {K : Nat → Nat} {bud : Nat → Int32} {fsd : Nat → Int32} {las : Nat → Int32} {bas : Nat → Int32} {mvi : Nat → Int32} {mva : Nat → Int32} {ear : Nat → Option Nat} {vln : Nat → Option Nat} {vda : Nat → Int32} {vam : Nat → Int32} {vrf : Nat → Int32} {vel : Nat → Int32} {vnx : Nat → Option Nat} {a : Nat} (h : K a = 1) : gE K bud fsd las bas mvi mva ear vln vda vam vrf vel vnx a = .inr (1, [va_rf (vln a), .int (vda a), .int (vam a), .int (vrf a), .int (vel a), va_rf (vnx a)]) := if_neg (by omega)
theorem gU_bud {K : Nat → Nat} {bud : Nat → Int32} {fsd : Nat → Int32} {las : Nat → Int32} {bas : Nat → Int32} {mvi : Nat → Int32} {mva : Nat → Int32} {ear : Nat → Option Nat} {vln : Nat → Option Nat} {vda : Nat → Int32} {vam : Nat → Int32} {vrf : Nat → Int32} {vel : Nat → Int32} {vnx : Nat → Option Nat} {a : Nat} (h : K a = 0) (v : Int32) : ∀ b, va_up (gE K bud fsd las bas mvi mva ear vln vda vam vrf vel vnx) a (.inr (0, [.int v, .int (fsd a), .int (las a), .int (bas a), .int (mvi a), .int (mva a), va_rf (ear a)])) b = gE K (va_up bud a v) fsd las bas mvi mva ear vln vda vam vrf vel vnx b := by
  intro b
  by_cases hb : b = a
  · subst hb
    rw [va_up_self, gE_0 h, va_up_self]
  · rw [va_up_ne _ _ hb]
    simp only [gE, va_up_ne _ _ hb]
theorem gU_fsd {K : Nat → Nat} {bud : Nat → Int32} {fsd : Nat → Int32} {las : Nat → Int32} {bas : Nat → Int32} {mvi : Nat → Int32} {mva : Nat → Int32} {ear : Nat → Option Nat} {vln : Nat → Option Nat} {vda : Nat → Int32} {vam : Nat → Int32} {vrf : Nat → Int32} {vel : Nat → Int32} {vnx : Nat → Option Nat} {a : Nat} (h : K a = 0) (v : Int32) : ∀ b, va_up (gE K bud fsd las bas mvi mva ear vln vda vam vrf vel vnx) a (.inr (0, [.int (bud a), .int v, .int (las a), .int (bas a), .int (mvi a), .int (mva a), va_rf (ear a)])) b = gE K bud (va_up fsd a v) las bas mvi mva ear vln vda vam vrf vel vnx b := by
  intro b
  by_cases hb : b = a
  · subst hb
    rw [va_up_self, gE_0 h, va_up_self]
  · rw [va_up_ne _ _ hb]
    simp only [gE, va_up_ne _ _ hb]
theorem gU_las {K : Nat → Nat} {bud : Nat → Int32} {fsd : Nat → Int32} {las : Nat → Int32} {bas : Nat → Int32} {mvi : Nat → Int32} {mva : Nat → Int32} {ear : Nat → Option Nat} {vln : Nat → Option Nat} {vda : Nat → Int32} {vam : Nat → Int32} {vrf : Nat → Int32} {vel : Nat → Int32} {vnx : Nat → Option Nat} {a : Nat} (h : K a = 0) (v : Int32) : ∀ b, va_up (gE K bud fsd las bas mvi mva ear vln vda vam vrf vel vnx) a (.inr (0, [.int (bud a), .int (fsd a), .int v, .int (bas a), .int (mvi a), .int (mva a), va_rf (ear a)])) b = gE K bud fsd (va_up las a v) bas mvi mva ear vln vda vam vrf vel vnx b := by
  intro b
  by_cases hb : b = a
  · subst hb
    rw [va_up_self, gE_0 h, va_up_self]
  · rw [va_up_ne _ _ hb]
    simp only [gE, va_up_ne _ _ hb]
theorem gU_bas {K : Nat → Nat} {bud : Nat → Int32} {fsd : Nat → Int32} {las : Nat → Int32} {bas : Nat → Int32} {mvi : Nat → Int32} {mva : Nat → Int32} {ear : Nat → Option Nat} {vln : Nat → Option Nat} {vda : Nat → Int32} {vam : Nat → Int32} {vrf : Nat → Int32} {vel : Nat → Int32} {vnx : Nat → Option Nat} {a : Nat} (h : K a = 0) (v : Int32) : ∀ b, va_up (gE K bud fsd las bas mvi mva ear vln vda vam vrf vel vnx) a (.inr (0, [.int (bud a), .int (fsd a), .int (las a), .int v, .int (mvi a), .int (mva a), va_rf (ear a)])) b = gE K bud fsd las (va_up bas a v) mvi mva ear vln vda vam vrf vel vnx b := by
  intro b
  by_cases hb : b = a
  · subst hb
    rw [va_up_self, gE_0 h, va_up_self]
  · rw [va_up_ne _ _ hb]
    simp only [gE, va_up_ne _ _ hb]
theorem gU_mvi {K : Nat → Nat} {bud : Nat → Int32} {fsd : Nat → Int32} {las : Nat → Int32} {bas : Nat → Int32} {mvi : Nat → Int32} {mva : Nat → Int32} {ear : Nat → Option Nat} {vln : Nat → Option Nat} {vda : Nat → Int32} {vam : Nat → Int32} {vrf : Nat → Int32} {vel : Nat → Int32} {vnx : Nat → Option Nat} {a : Nat} (h : K a = 0) (v : Int32) : ∀ b, va_up (gE K bud fsd las bas mvi mva ear vln vda vam vrf vel vnx) a (.inr (0, [.int (bud a), .int (fsd a), .int (las a), .int (bas a), .int v, .int (mva a), va_rf (ear a)])) b = gE K bud fsd las bas (va_up mvi a v) mva ear vln vda vam vrf vel vnx b := by
  intro b
  by_cases hb : b = a
  · subst hb
    rw [va_up_self, gE_0 h, va_up_self]
  · rw [va_up_ne _ _ hb]
    simp only [gE, va_up_ne _ _ hb]
theorem gU_mva {K : Nat → Nat} {bud : Nat → Int32} {fsd : Nat → Int32} {las : Nat → Int32} {bas : Nat → Int32} {mvi : Nat → Int32} {mva : Nat → Int32} {ear : Nat → Option Nat} {vln : Nat → Option Nat} {vda : Nat → Int32} {vam : Nat → Int32} {vrf : Nat → Int32} {vel : Nat → Int32} {vnx : Nat → Option Nat} {a : Nat} (h : K a = 0) (v : Int32) : ∀ b, va_up (gE K bud fsd las bas mvi mva ear vln vda vam vrf vel vnx) a (.inr (0, [.int (bud a), .int (fsd a), .int (las a), .int (bas a), .int (mvi a), .int v, va_rf (ear a)])) b = gE K bud fsd las bas mvi (va_up mva a v) ear vln vda vam vrf vel vnx b := by
  intro b
  by_cases hb : b = a
  · subst hb
    rw [va_up_self, gE_0 h, va_up_self]
  · rw [va_up_ne _ _ hb]
    simp only [gE, va_up_ne _ _ hb]
theorem gU_ear {K : Nat → Nat} {bud : Nat → Int32} {fsd : Nat → Int32} {las : Nat → Int32} {bas : Nat → Int32} {mvi : Nat → Int32} {mva : Nat → Int32} {ear : Nat → Option Nat} {vln : Nat → Option Nat} {vda : Nat → Int32} {vam : Nat → Int32} {vrf : Nat → Int32} {vel : Nat → Int32} {vnx : Nat → Option Nat} {a : Nat} (h : K a = 0) (v : Option Nat) : ∀ b, va_up (gE K bud fsd las bas mvi mva ear vln vda vam vrf vel vnx) a (.inr (0, [.int (bud a), .int (fsd a), .int (las a), .int (bas a), .int (mvi a), .int (mva a), va_rf v])) b = gE K bud fsd las bas mvi mva (va_up ear a v) vln vda vam vrf vel vnx b := by
  intro b
  by_cases hb : b = a
  · subst hb
    rw [va_up_self, gE_0 h, va_up_self]
  · rw [va_up_ne _ _ hb]
    simp only [gE, va_up_ne _ _ hb]
theorem gU_vln {K : Nat → Nat} {bud : Nat → Int32} {fsd : Nat → Int32} {las : Nat → Int32} {bas : Nat → Int32} {mvi : Nat → Int32} {mva : Nat → Int32} {ear : Nat → Option Nat} {vln : Nat → Option Nat} {vda : Nat → Int32} {vam : Nat → Int32} {vrf : Nat → Int32} {vel : Nat → Int32} {vnx : Nat → Option Nat} {a : Nat} (h : K a = 1) (v : Option Nat) : ∀ b, va_up (gE K bud fsd las bas mvi mva ear vln vda vam vrf vel vnx) a (.inr (1, [va_rf v, .int (vda a), .int (vam a), .int (vrf a), .int (vel a), va_rf (vnx a)])) b = gE K bud fsd las bas mvi mva ear (va_up vln a v) vda vam vrf vel vnx b := by
  intro b
  by_cases hb : b = a
  · subst hb
    rw [va_up_self, gE_1 h, va_up_self]
  · rw [va_up_ne _ _ hb]
    simp only [gE, va_up_ne _ _ hb]
theorem gU_vda {K : Nat → Nat} {bud : Nat → Int32} {fsd : Nat → Int32} {las : Nat → Int32} {bas : Nat → Int32} {mvi : Nat → Int32} {mva : Nat → Int32} {ear : Nat → Option Nat} {vln : Nat → Option Nat} {vda : Nat → Int32} {vam : Nat → Int32} {vrf : Nat → Int32} {vel : Nat → Int32} {vnx : Nat → Option Nat} {a : Nat} (h : K a = 1) (v : Int32) : ∀ b, va_up (gE K bud fsd las bas mvi mva ear vln vda vam vrf vel vnx) a (.inr (1, [va_rf (vln a), .int v, .int (vam a), .int (vrf a), .int (vel a), va_rf (vnx a)])) b = gE K bud fsd las bas mvi mva ear vln (va_up vda a v) vam vrf vel vnx b := by
  intro b
  by_cases hb : b = a
  · subst hb
    rw [va_up_self, gE_1 h, va_up_self]
  · rw [va_up_ne _ _ hb]
    simp only [gE, va_up_ne _ _ hb]
theorem gU_vam {K : Nat → Nat} {bud : Nat → Int32} {fsd : Nat → Int32} {las : Nat → Int32} {bas : Nat → Int32} {mvi : Nat → Int32} {mva : Nat → Int32} {ear : Nat → Option Nat} {vln : Nat → Option Nat} {vda : Nat → Int32} {vam : Nat → Int32} {vrf : Nat → Int32} {vel : Nat → Int32} {vnx : Nat → Option Nat} {a : Nat} (h : K a = 1) (v : Int32) : ∀ b, va_up (gE K bud fsd las bas mvi mva ear vln vda vam vrf vel vnx) a (.inr (1, [va_rf (vln a), .int (vda a), .int v, .int (vrf a), .int (vel a), va_rf (vnx a)])) b = gE K bud fsd las bas mvi mva ear vln vda (va_up vam a v) vrf vel vnx b := by
  intro b
  by_cases hb : b = a
  · subst hb
    rw [va_up_self, gE_1 h, va_up_self]
  · rw [va_up_ne _ _ hb]
    simp only [gE, va_up_ne _ _ hb]
theorem gU_vrf {K : Nat → Nat} {bud : Nat → Int32} {fsd : Nat → Int32} {las : Nat → Int32} {bas : Nat → Int32} {mvi : Nat → Int32} {mva : Nat → Int32} {ear : Nat → Option Nat} {vln : Nat → Option Nat} {vda : Nat → Int32} {vam : Nat → Int32} {vrf : Nat → Int32} {vel : Nat → Int32} {vnx : Nat → Option Nat} {a : Nat} (h : K a = 1) (v : Int32) : ∀ b, va_up (gE K bud fsd las bas mvi mva ear vln vda vam vrf vel vnx) a (.inr (1, [va_rf (vln a), .int (vda a), .int (vam a), .int v, .int (vel a), va_rf (vnx a)])) b = gE K bud fsd las bas mvi mva ear vln vda vam (va_up vrf a v) vel vnx b := by
  intro b
  by_cases hb : b = a
  · subst hb
    rw [va_up_self, gE_1 h, va_up_self]
  · rw [va_up_ne _ _ hb]
    simp only [gE, va_up_ne _ _ hb]
theorem gU_vel {K : Nat → Nat} {bud : Nat → Int32} {fsd : Nat → Int32} {las : Nat → Int32} {bas : Nat → Int32} {mvi : Nat → Int32} {mva : Nat → Int32} {ear : Nat → Option Nat} {vln : Nat → Option Nat} {vda : Nat → Int32} {vam : Nat → Int32} {vrf : Nat → Int32} {vel : Nat → Int32} {vnx : Nat → Option Nat} {a : Nat} (h : K a = 1) (v : Int32) : ∀ b, va_up (gE K bud fsd las bas mvi mva ear vln vda vam vrf vel vnx) a (.inr (1, [va_rf (vln a), .int (vda a), .int (vam a), .int (vrf a), .int v, va_rf (vnx a)])) b = gE K bud fsd las bas mvi mva ear vln vda vam vrf (va_up vel a v) vnx b := by
  intro b
  by_cases hb : b = a
  · subst hb
    rw [va_up_self, gE_1 h, va_up_self]
  · rw [va_up_ne _ _ hb]
    simp only [gE, va_up_ne _ _ hb]
theorem gU_vnx {K : Nat → Nat} {bud : Nat → Int32} {fsd : Nat → Int32} {las : Nat → Int32} {bas : Nat → Int32} {mvi : Nat → Int32} {mva : Nat → Int32} {ear : Nat → Option Nat} {vln : Nat → Option Nat} {vda : Nat → Int32} {vam : Nat → Int32} {vrf : Nat → Int32} {vel : Nat → Int32} {vnx : Nat → Option Nat} {a : Nat} (h : K a = 1) (v : Option Nat) : ∀ b, va_up (gE K bud fsd las bas mvi mva ear vln vda vam vrf vel vnx) a (.inr (1, [va_rf (vln a), .int (vda a), .int (vam a), .int (vrf a), .int (vel a), va_rf v])) b = gE K bud fsd las bas mvi mva ear vln vda vam vrf vel (va_up vnx a v) b := by
  intro b
  by_cases hb : b = a
  · subst hb
    rw [va_up_self, gE_1 h, va_up_self]
  · rw [va_up_ne _ _ hb]
    simp only [gE, va_up_ne _ _ hb]
theorem gN_0 {K : Nat → Nat} {bud : Nat → Int32} {fsd : Nat → Int32} {las : Nat → Int32} {bas : Nat → Int32} {mvi : Nat → Int32} {mva : Nat → Int32} {ear : Nat → Option Nat} {vln : Nat → Option Nat} {vda : Nat → Int32} {vam : Nat → Int32} {vrf : Nat → Int32} {vel : Nat → Int32} {vnx : Nat → Option Nat} {a : Nat} : ∀ b, va_up (gE K bud fsd las bas mvi mva ear vln vda vam vrf vel vnx) a (.inr (0, [.int 0, .int 0, .int 0, .int 0, .int 0, .int 0, .null])) b = gE (va_up K a 0) (va_up bud a 0) (va_up fsd a 0) (va_up las a 0) (va_up bas a 0) (va_up mvi a 0) (va_up mva a 0) (va_up ear a none) vln vda vam vrf vel vnx b := by
  intro b
  by_cases hb : b = a
  · subst hb
    rw [va_up_self, gE_0 (va_up_self K b 0)]
    simp only [va_up_self]
    rfl
  · rw [va_up_ne _ _ hb]
    simp only [gE, va_up_ne _ _ hb]
theorem gN_1 {K : Nat → Nat} {bud : Nat → Int32} {fsd : Nat → Int32} {las : Nat → Int32} {bas : Nat → Int32} {mvi : Nat → Int32} {mva : Nat → Int32} {ear : Nat → Option Nat} {vln : Nat → Option Nat} {vda : Nat → Int32} {vam : Nat → Int32} {vrf : Nat → Int32} {vel : Nat → Int32} {vnx : Nat → Option Nat} {a : Nat} : ∀ b, va_up (gE K bud fsd las bas mvi mva ear vln vda vam vrf vel vnx) a (.inr (1, [.null, .int 0, .int 0, .int 0, .int 0, .null])) b = gE (va_up K a 1) bud fsd las bas mvi mva ear (va_up vln a none) (va_up vda a 0) (va_up vam a 0) (va_up vrf a 0) (va_up vel a 0) (va_up vnx a none) b := by
  intro b
  by_cases hb : b = a
  · subst hb
    rw [va_up_self, gE_1 (va_up_self K b 1)]
    simp only [va_up_self]
    rfl
  · rw [va_up_ne _ _ hb]
    simp only [gE, va_up_ne _ _ hb]
theorem gk_push {D : va_G} {cl : List vw_C} {A : Nat → Prop} {X : va_W} {L : List Nat} {f f' : Nat → va_E} {q : Nat} {e : va_E} {H : Heap} (hP : va_P D cl ((X ++ va_pl L f) ++ [(q, e)]) H) (hD : va_D A ((X ++ va_pl L f) ++ [(q, e)])) (hf : ∀ b, va_up f q e b = f' b) : q ∉ L ∧ va_P D cl (X ++ va_pl (L ++ [q]) f') H ∧ va_D A (X ++ va_pl (L ++ [q]) f') := by
  have hq := va_pl_fresh2 hD
  rw [List.append_assoc, va_pl_push hq, va_pl_congr hf] at hP hD
  exact ⟨hq, hP, hD⟩
section GK
variable {p : Program} {l : Launch} {e : Env} {R : Room} {s : State} {m : MethodId} {args : Array Value} {below : List Frame} {meth : Method} {c : Code} {H : Heap} {locs : List Loc} {cells slots : Nat} {Q : State → Prop}
variable {cc : ByteArray} {pc : Nat} {ls : Array Slot} {rest : List Value} {D : va_G} {tys : List (ClassId × FieldType)} {A : Nat → Prop} {H0 : Heap}
theorem gk_get {X : va_W} {L : List Nat} {f : Nat → va_E} {a : Nat} (hexec : p.tables.exec = Jvm.exec) (hb : c.code = cc) {own ref C : String} {T : u_T} {N ci index : Nat} {Ts : List Cond} (hts : ∀ w ∈ Ts, w.before args s = true) (hin : ∀ w ∈ u_ws C T N, w ∈ Ts) (hown : s.vm.findClass own = some m.cls) (hK : va_K D vwCl tys s) (hP : va_P D vwCl (X ++ va_pl L f) H) (hL : a ∈ L) {fs : List Value} (hfa : f a = .inr (ci, fs)) (hc : vwCl[ci]? = some (C, T, N)) (k : Nat) (hk : k < N)
    (hlink : (Cond.fieldLink own index ref (T k).2.1 (T k).2.2.1).before args s = true) (hsame : ∀ x, s.fieldFound? (T k).1 (T k).2.1 (T k).2.2.1 = some x → s.fieldFound? ref (T k).2.1 (T k).2.2.1 = some x) {v : Value} (hv : fs[k]? = some v) (hdg : decode cc pc = .ok (.getfield index, 3))
    (kk : W p l e R s m args below meth c H locs cells slots Q (F0 m (pc + 3) ls (v :: rest))) : W p l e R s m args below meth c H locs cells slots Q (F0 m pc ls (.ref a :: rest)) := by
  obtain ⟨q, hq⟩ := va_pl_get (X := X) (f := f) hL
  rw [hfa] at hq
  exact va_get (C := C) (T := T) (N := N) (ci := ci) hexec hb hts hin hown hK hP q hq hc k hk hlink hsame hv hdg kk
theorem gk_put {X : va_W} {L : List Nat} {f f' : Nat → va_E} {a : Nat} (hexec : p.tables.exec = Jvm.exec) (hb : c.code = cc) {own ref C : String} {T : u_T} {N ci index : Nat} {Ts : List Cond} (hts : ∀ w ∈ Ts, w.before args s = true) (hin : ∀ w ∈ u_ws C T N, w ∈ Ts) (ty0 : Nat → FieldType) (hty : ∀ k, k < N → parseFieldDescriptor (T k).2.2.1 = some (ty0 k)) (hnm : ∀ a, a < N → ∀ b, b < N → a ≠ b → (T a).2.1 ≠ (T b).2.1) (hown : s.vm.findClass own = some m.cls) (hK : va_K D vwCl tys s) (hP : va_P D vwCl (X ++ va_pl L f) H) (hD : va_D A (X ++ va_pl L f)) (hS0 : va_S A H0 H locs) (hL : a ∈ L) {fs : List Value} (hfa : f a = .inr (ci, fs)) (hc : vwCl[ci]? = some (C, T, N)) (k : Nat) (hk : k < N)
    (hlink : (Cond.fieldLink own index ref (T k).2.1 (T k).2.2.1).before args s = true) (hsame : ∀ x, s.fieldFound? (T k).1 (T k).2.1 (T k).2.2.1 = some x → s.fieldFound? ref (T k).2.1 (T k).2.2.1 = some x) (hfin : (T k).2.2.2 = false) {ty : FieldType} {v : Value} (hd : parseFieldDescriptor (T k).2.2.1 = some ty) (hn : narrow ty v = v) (hfit : fits ty v = true) (hl : k < fs.length)
    (hf : ∀ b, va_up f a (.inr (ci, fs.set k v)) b = f' b) (hdg : decode cc pc = .ok (.putfield index, 3))
    (kk : ∀ (H1 : Heap) (locs1 : List Loc), va_P D vwCl (X ++ va_pl L f') H1 → va_D A (X ++ va_pl L f') → va_S A H0 H1 locs1 → W p l e R s m args below meth c H1 locs1 cells slots Q (F0 m (pc + 3) ls rest)) : W p l e R s m args below meth c H locs cells slots Q (F0 m pc ls (v :: .ref a :: rest)) := by
  obtain ⟨q, hq⟩ := va_pl_get (X := X) (f := f) hL
  have hq2 := hq
  rw [hfa] at hq2
  refine va_put (C := C) (T := T) (N := N) (ci := ci) hexec hb hts hin ty0 hty hnm hown hK hP hD hS0 q hq2 hc k hk hlink hsame hfin hd hn hfit hl hdg (fun H1 locs1 h1 h2 h3 => ?_)
  rw [va_pl_set hD hL hq, va_pl_congr hf] at h1 h2
  exact kk H1 locs1 h1 h2 h3
theorem gk_putF {X : va_W} {L : List Nat} {f f' : Nat → va_E} {a : Nat} (hexec : p.tables.exec = Jvm.exec) (hb : c.code = cc) {own ref C : String} {T : u_T} {N ci index : Nat} {Ts : List Cond} (hts : ∀ w ∈ Ts, w.before args s = true) (hin : ∀ w ∈ u_ws C T N, w ∈ Ts) (ty0 : Nat → FieldType) (hty : ∀ k, k < N → parseFieldDescriptor (T k).2.2.1 = some (ty0 k)) (hnm : ∀ a, a < N → ∀ b, b < N → a ≠ b → (T a).2.1 ≠ (T b).2.1) (hown : s.vm.findClass own = some m.cls) (hK : va_K D vwCl tys s) (hP : va_P D vwCl (X ++ va_pl L f) H) (hD : va_D A (X ++ va_pl L f)) (hS0 : va_S A H0 H locs) (hL : a ∈ L) {fs : List Value} (hfa : f a = .inr (ci, fs)) (hc : vwCl[ci]? = some (C, T, N)) (k : Nat) (hk : k < N)
    (hlink : (Cond.fieldLink own index ref (T k).2.1 (T k).2.2.1).before args s = true) (hsame : ∀ x, s.fieldFound? (T k).1 (T k).2.1 (T k).2.2.1 = some x → s.fieldFound? ref (T k).2.1 (T k).2.2.1 = some x) (hfin : (T k).2.2.2 = true) (hin2 : meth.name = "<init>") (hdecl : (T k).1 = own) {ty : FieldType} {v : Value} (hd : parseFieldDescriptor (T k).2.2.1 = some ty) (hn : narrow ty v = v) (hfit : fits ty v = true) (hl : k < fs.length)
    (hf : ∀ b, va_up f a (.inr (ci, fs.set k v)) b = f' b) (hdg : decode cc pc = .ok (.putfield index, 3))
    (kk : ∀ (H1 : Heap) (locs1 : List Loc), va_P D vwCl (X ++ va_pl L f') H1 → va_D A (X ++ va_pl L f') → va_S A H0 H1 locs1 → W p l e R s m args below meth c H1 locs1 cells slots Q (F0 m (pc + 3) ls rest)) : W p l e R s m args below meth c H locs cells slots Q (F0 m pc ls (v :: .ref a :: rest)) := by
  obtain ⟨q, hq⟩ := va_pl_get (X := X) (f := f) hL
  have hq2 := hq
  rw [hfa] at hq2
  refine va_putF (C := C) (T := T) (N := N) (ci := ci) hexec hb hts hin ty0 hty hnm hown hK hP hD hS0 q hq2 hc k hk hlink hsame hfin hin2 hdecl hd hn hfit hl hdg (fun H1 locs1 h1 h2 h3 => ?_)
  rw [va_pl_set hD hL hq, va_pl_congr hf] at h1 h2
  exact kk H1 locs1 h1 h2 h3
/-- array rows by a natural index -/
theorem gk_iald (hexec : p.tables.exec = Jvm.exec) (hb : c.code = cc) {ws : va_W} {a : Nat} {cl : List vw_C} (hK : va_K D cl tys s) (hP : va_P D cl ws H) (q0 t0 : Nat) {cA : ClassId} {n : Nat} {f : Nat → Int32} (ha : ws[q0]? = some (a, .inl (cA, n, .inl f))) (ht : tys[t0]? = some (cA, .int)) {i : Nat} (hi : i < n) (hn : n < 2 ^ 31) (hdg : decode cc pc = .ok (.iaload, 1))
    (kk : W p l e R s m args below meth c H locs cells slots Q (F0 m (pc + 1) ls (.int (f i) :: rest))) : W p l e R s m args below meth c H locs cells slots Q (F0 m pc ls (.int (nI i) :: .ref a :: rest)) :=
  va_iald hexec hb hK hP q0 t0 ha ht (vp_in_nI hi hn) hdg (by rw [nI_clamp (by omega)]; exact kk)
theorem gk_zald (hexec : p.tables.exec = Jvm.exec) (hb : c.code = cc) {ws : va_W} {a : Nat} {cl : List vw_C} (hK : va_K D cl tys s) (hP : va_P D cl ws H) (q0 t0 : Nat) {cA : ClassId} {n : Nat} {f : Nat → Int32} (ha : ws[q0]? = some (a, .inl (cA, n, .inl f))) (ht : tys[t0]? = some (cA, .boolean)) {i : Nat} (hi : i < n) (hn : n < 2 ^ 31) (hdg : decode cc pc = .ok (.baload, 1))
    (kk : W p l e R s m args below meth c H locs cells slots Q (F0 m (pc + 1) ls (.int (f i) :: rest))) : W p l e R s m args below meth c H locs cells slots Q (F0 m pc ls (.int (nI i) :: .ref a :: rest)) :=
  va_zald hexec hb hK hP q0 t0 ha ht (vp_in_nI hi hn) hdg (by rw [nI_clamp (by omega)]; exact kk)
theorem gk_aldq (hexec : p.tables.exec = Jvm.exec) (hb : c.code = cc) {ws : va_W} {a : Nat} {cl : List vw_C} (hK : va_K D cl tys s) (hP : va_P D cl ws H) (q0 t0 : Nat) {cA : ClassId} {C : String} {n : Nat} {f : Nat → Option Nat} (ha : ws[q0]? = some (a, .inl (cA, n, .inr (.inr (.inr (.inr f)))))) (ht : tys[t0]? = some (cA, .object C)) {i : Nat} (hi : i < n) (hn : n < 2 ^ 31) (hdg : decode cc pc = .ok (.aaload, 1))
    (kk : W p l e R s m args below meth c H locs cells slots Q (F0 m (pc + 1) ls (va_rf (f i) :: rest))) : W p l e R s m args below meth c H locs cells slots Q (F0 m pc ls (.int (nI i) :: .ref a :: rest)) :=
  va_aldq hexec hb hK hP q0 t0 ha ht (vp_in_nI hi hn) hdg (by rw [nI_clamp (by omega)]; exact kk)
theorem gk_iast (hexec : p.tables.exec = Jvm.exec) (hb : c.code = cc) {ws : va_W} {a : Nat} {cl : List vw_C} (hK : va_K D cl tys s) (hP : va_P D cl ws H) (hD : va_D A ws) (hS : va_S A H0 H locs) (q0 t0 : Nat) {cA : ClassId} {n : Nat} {f : Nat → Int32} (ha : ws[q0]? = some (a, .inl (cA, n, .inl f))) (ht : tys[t0]? = some (cA, .int)) {i : Nat} {x : Int32} (hi : i < n) (hn : n < 2 ^ 31) (hdg : decode cc pc = .ok (.iastore, 1))
    (kk : ∀ (H1 : Heap) (locs1 : List Loc), va_P D cl (ws.set q0 (a, .inl (cA, n, .inl (va_up f i x)))) H1 → va_D A (ws.set q0 (a, .inl (cA, n, .inl (va_up f i x)))) → va_S A H0 H1 locs1 → W p l e R s m args below meth c H1 locs1 cells slots Q (F0 m (pc + 1) ls rest)) : W p l e R s m args below meth c H locs cells slots Q (F0 m pc ls (.int x :: .int (nI i) :: .ref a :: rest)) :=
  va_iast hexec hb hK hP hD hS q0 t0 ha ht (vp_in_nI hi hn) hdg (by rw [nI_clamp (by omega)]; exact kk)
theorem gk_zast (hexec : p.tables.exec = Jvm.exec) (hb : c.code = cc) {ws : va_W} {a : Nat} {cl : List vw_C} (hK : va_K D cl tys s) (hP : va_P D cl ws H) (hD : va_D A ws) (hS : va_S A H0 H locs) (q0 t0 : Nat) {cA : ClassId} {n : Nat} {f : Nat → Int32} (ha : ws[q0]? = some (a, .inl (cA, n, .inl f))) (ht : tys[t0]? = some (cA, .boolean)) {i : Nat} {x : Int32} (hi : i < n) (hn : n < 2 ^ 31) (hx9 : x = 0 ∨ x = 1) (hdg : decode cc pc = .ok (.bastore, 1))
    (kk : ∀ (H1 : Heap) (locs1 : List Loc), va_P D cl (ws.set q0 (a, .inl (cA, n, .inl (va_up f i x)))) H1 → va_D A (ws.set q0 (a, .inl (cA, n, .inl (va_up f i x)))) → va_S A H0 H1 locs1 → W p l e R s m args below meth c H1 locs1 cells slots Q (F0 m (pc + 1) ls rest)) : W p l e R s m args below meth c H locs cells slots Q (F0 m pc ls (.int x :: .int (nI i) :: .ref a :: rest)) :=
  va_zast hexec hb hK hP hD hS q0 t0 ha ht (vp_in_nI hi hn) hdg (by rw [nI_clamp (by omega), show vp_nar .boolean x = x by rcases hx9 with rfl | rfl <;> decide]; exact kk)
theorem gk_astq (hexec : p.tables.exec = Jvm.exec) (hb : c.code = cc) {ws : va_W} {a : Nat} {cl : List vw_C} (hK : va_K D cl tys s) (hP : va_P D cl ws H) (hD : va_D A ws) (hS : va_S A H0 H locs) (q0 t0 qk ci : Nat) {cA : ClassId} {r : vw_C} {n v : Nat} {vs : List Value} {f : Nat → Option Nat} (ha : ws[q0]? = some (a, .inl (cA, n, .inr (.inr (.inr (.inr f)))))) (ht : tys[t0]? = some (cA, .object r.1)) (hv : ws[qk]? = some (v, .inr (ci, vs))) (hc : cl[ci]? = some r) {i : Nat} (hi : i < n) (hn : n < 2 ^ 31) (hdg : decode cc pc = .ok (.aastore, 1))
    (kk : ∀ (H1 : Heap) (locs1 : List Loc), va_P D cl (ws.set q0 (a, .inl (cA, n, .inr (.inr (.inr (.inr (va_up f i (some v)))))))) H1 → va_D A (ws.set q0 (a, .inl (cA, n, .inr (.inr (.inr (.inr (va_up f i (some v)))))))) → va_S A H0 H1 locs1 → W p l e R s m args below meth c H1 locs1 cells slots Q (F0 m (pc + 1) ls rest)) : W p l e R s m args below meth c H locs cells slots Q (F0 m pc ls (.ref v :: .int (nI i) :: .ref a :: rest)) :=
  va_astq hexec hb hK hP hD hS q0 t0 qk ci ha ht hv hc (vp_in_nI hi hn) hdg (by rw [nI_clamp (by omega)]; exact kk)
end GK
/-- worlds in another order -/
theorem gk_permP {D : va_G} {cl : List vw_C} {ws ws' : va_W} {H : Heap} (h : va_P D cl ws H) (hp : ws.Perm ws') : va_P D cl ws' H := by
  intro k q hk
  obtain ⟨i, hi⟩ := List.getElem?_of_mem (hp.mem_iff.mpr (List.mem_of_getElem? hk))
  exact h i q hi
theorem gk_Dnd {A : Nat → Prop} {ws : va_W} : va_D A ws ↔ (ws.map (·.1)).Nodup ∧ ∀ q ∈ ws, A q.1 := by
  constructor
  · intro h
    refine ⟨?_, fun q hq => ?_⟩
    · rw [List.nodup_iff_pairwise_ne, List.pairwise_iff_getElem]
      intro i j hi hj hij he
      rw [List.length_map] at hi hj
      rw [List.getElem_map, List.getElem_map] at he
      have := h.1 i j _ _ (List.getElem?_eq_getElem hi) (List.getElem?_eq_getElem hj) he
      omega
    · obtain ⟨i, hi⟩ := List.getElem?_of_mem hq
      exact h.2 i q hi
  · intro h
    refine ⟨fun i j x y hi hj he => ?_, fun k q hk => h.2 q (List.mem_of_getElem? hk)⟩
    obtain ⟨hi1, hi2⟩ := List.getElem?_eq_some_iff.mp hi
    obtain ⟨hj1, hj2⟩ := List.getElem?_eq_some_iff.mp hj
    have h9 := h.1
    rw [List.nodup_iff_pairwise_ne, List.pairwise_iff_getElem] at h9
    rcases Nat.lt_trichotomy i j with z | z | z
    · exact absurd (by rw [List.getElem_map, List.getElem_map, hi2, hj2]; exact he) (h9 i j (by rw [List.length_map]; exact hi1) (by rw [List.length_map]; exact hj1) z)
    · exact z
    · exact absurd (by rw [List.getElem_map, List.getElem_map, hi2, hj2]; exact he.symm) (h9 j i (by rw [List.length_map]; exact hj1) (by rw [List.length_map]; exact hi1) z)
theorem gk_permD {A : Nat → Prop} {ws ws' : va_W} (h : va_D A ws) (hp : ws.Perm ws') : va_D A ws' := by
  rw [gk_Dnd] at h ⊢
  exact ⟨(hp.map (·.1)).nodup_iff.mp h.1, fun q hq => h.2 q (hp.mem_iff.mpr hq)⟩
theorem gk_permA {ws ws' : va_W} {sz : Nat} (hp : ws.Perm ws') {q : Nat} (h : va_A ws sz q) : va_A ws' sz q := by
  rcases h with ⟨k, e, h⟩ | h
  · obtain ⟨i, hi⟩ := List.getElem?_of_mem (hp.mem_iff.mp (List.mem_of_getElem? h))
    exact Or.inl ⟨i, e, hi⟩
  · exact Or.inr h
/-- the whole world goes to a callee -/
theorem gk_all {A : Nat → Prop} {ws : va_W} {H0 H : Heap} {locs : List Loc} (hD : va_D A ws) (hS : va_S A H0 H locs) (hA : ∀ q, H0.size ≤ q → A q) : ∀ q, va_A ws H.size q → A q := by
  intro q h
  rcases h with ⟨k, e, h⟩ | h
  · exact hD.2 k _ h
  · exact hA q (Nat.le_trans hS.1 h)
/-- a method's start and end, the world W -/
abbrev gPre (D : va_G) (tys : List (ClassId × FieldType)) (W : va_W) (sz : Nat) : State → Prop := fun U => U.heap.size = sz ∧ va_P D vwCl W U.heap ∧ va_K D vwCl tys U ∧ va_D (fun _ => True) W
abbrev gPost (D : va_G) (tys : List (ClassId × FieldType)) (A : Nat → Prop) (W : va_W) : State → Prop := fun t => va_P D vwCl W t.heap ∧ va_K D vwCl tys t ∧ va_D A W
theorem gPre_blind {av : List Value} {D : va_G} {tys : List (ClassId × FieldType)} {W : va_W} {sz : Nat} : FrameBlind (va_Pc av (gPre D tys W sz)) := fun a U g mk q => by
  obtain ⟨q0, q1, qP, qK, qD⟩ := q
  exact ⟨q0, q1, qP, va_K.moved (u := U) (U := U.calling g mk a) (Vm.Alike.refl U.vm) qK, qD⟩
theorem gPre_at {D : va_G} {tys : List (ClassId × FieldType)} {W : va_W} {A : Nat → Prop} {s U : State} {H : Heap} (hP : va_P D vwCl W H) (hK : va_K D vwCl tys s) (hD : va_D A W) (hU : U.heap = H) (hW : s.WarmedH U.vm) : gPre D tys W H.size U :=
  ⟨by rw [hU], by rw [hU]; exact hP, va_K.moved hW.alike hK, hD.weaken (fun _ _ _ _ => trivial)⟩
theorem gk_preS {av : List Value} {D : va_G} {tys : List (ClassId × FieldType)} {W : va_W} {A : Nat → Prop} {s : State} {H : Heap} (hP : va_P D vwCl W H) (hK : va_K D vwCl tys s) (hD : va_D A W) : PreS s H (va_Pc av (gPre D tys W H.size)) av :=
  ⟨gPre_blind, fun _ hU hW => ⟨rfl, gPre_at hP hK hD hU hW⟩⟩
theorem gk_preV {av : List Value} {b : Nat} {C : String} {D : va_G} {tys : List (ClassId × FieldType)} {W : va_W} {A : Nat → Prop} {s : State} {H : Heap} (hP : va_P D vwCl W H) (hK : va_K D vwCl tys s) (hD : va_D A W) (hr : ∃ cell : Cell, H[b]? = some cell ∧ cell.vm.isStatics = false ∧ s.vm.findClass C = some cell.cls) : PreV s H C b (va_Pc (.ref b :: av) (gPre D tys W H.size)) av :=
  ⟨gPre_blind, hr, fun _ hU hW => ⟨rfl, gPre_at hP hK hD hU hW⟩⟩
/-- behind a call of the whole world -/
theorem gk_back {D : va_G} {tys : List (ClassId × FieldType)} {W W1 : va_W} {A : Nat → Prop} {t : State} {H H1 : Heap} (hF : ∀ q, va_A W H.size q → A q) (hB : gPost D tys (va_A W H.size) W1 t) (ht : t.heap = H1) : va_P D vwCl W1 H1 ∧ va_D A W1 := by
  obtain ⟨h1, h2, h3⟩ := hB
  rw [ht] at h1
  exact ⟨h1, h3.weaken (fun k q _ h => hF q.1 h)⟩
theorem gk_recv {s : State} {H : Heap} {D : va_G} {X : va_W} {L : List Nat} {f : Nat → va_E} {tys : List (ClassId × FieldType)} {a ci : Nat} {r : vw_C} {fs : List Value} (hK : va_K D vwCl tys s) (hP : va_P D vwCl (X ++ va_pl L f) H) (hL : a ∈ L) (hfa : f a = .inr (ci, fs)) (hc : vwCl[ci]? = some r) : ∃ cell : Cell, H[a]? = some cell ∧ cell.vm.isStatics = false ∧ s.vm.findClass r.1 = some cell.cls := by
  obtain ⟨q, hq⟩ := va_pl_get (X := X) (f := f) hL
  rw [hfa] at hq
  exact va_recv hK hP hc hq
/-- what a throw of the class needs: the two statics of Throwable, the texts, words that the tables alone decide -/
def gTS : List (Nat × String) := [(65, "a claim was made"), (75, "no more lines can be added"), (92, "money is moved to another line"), (101, "at most a tenth of a budget can be moved away"), (114, "no more vouchers can be added"), (131, "the voucher is refused"), (137, "the voucher is not refused"), (139, "all match would be too much"), (175, "no more claims can be made"), (179, "no such claim"), (182, "an argument is out of range"), (184, "no such line"), (186, "no such voucher")]
def gTW : List Cond := (vx_atS RX2 67 "java/lang/IllegalStateException" ["java/lang/RuntimeException", "java/lang/Exception"] ++ vx_atS RX2 94 "java/lang/IllegalArgumentException" ["java/lang/RuntimeException", "java/lang/Exception"] ++ vx_atS RX2 181 "java/lang/IndexOutOfBoundsException" ["java/lang/RuntimeException", "java/lang/Exception"]).filter (fun w => !goodWord w)
def gNg : Cond → Bool
  | .declares _ => true
  | .castable _ _ => true
  | _ => false
theorem gNg_all : ∀ w ∈ gTW, gNg w = true := by decide +kernel
theorem gNg_warm {w : Cond} {s U : State} (hg : gNg w = true) (hW : s.WarmedH U.vm) (h : va_Nw w s) : va_Nw w U := by
  cases w with
  | declares x => exact va_Nw.warmD hW h
  | castable C T => exact va_Nw.warmC hW h
  | _ => cases hg
theorem gNg_tab {w : Cond} (hg : gNg w = true) : w.onTables = true := by
  cases w with
  | declares x => rfl
  | castable C T => rfl
  | _ => cases hg
def gTF (A : Nat → Prop) (U : State) (H : Heap) : Prop := vx_Zq Bundle.tN "UNASSIGNED_STACK" Bundle.steD A U H ∧ vx_Zq Bundle.tN "SUPPRESSED_SENTINEL" Bundle.listD A U H ∧ (∀ w ∈ gTW, va_Nw w U) ∧ ∀ q ∈ gTS, ∃ sa, vk_R RX2 q.1 q.2 sa U
theorem gTF_at {A A' : Nat → Prop} {s U : State} {H : Heap} {locs : List Loc} (h : gTF A s s.heap) (hS : va_S A s.heap H locs) (hF : ∀ q, A' q → A q) (hU : U.heap = H) (hW : s.WarmedH U.vm) : gTF A' U U.heap := by
  obtain ⟨h1, h2, h3, h4⟩ := h
  rw [hU]
  refine ⟨((h1.kept hS.2.1).moved hW.alike).narrow hF, ((h2.kept hS.2.1).moved hW.alike).narrow hF, fun w hw => gNg_warm (gNg_all w hw) hW (h3 w hw), fun q hq => ?_⟩
  obtain ⟨sa, h⟩ := h4 q hq
  exact ⟨sa, vk_R.warm hW h⟩
abbrev gPreT (D : va_G) (tys : List (ClassId × FieldType)) (W : va_W) (sz : Nat) : State → Prop := fun U => gTF (va_A W sz) U U.heap ∧ gPre D tys W sz U
theorem gPreT_blind {av : List Value} {D : va_G} {tys : List (ClassId × FieldType)} {W : va_W} {sz : Nat} : FrameBlind (va_Pc av (gPreT D tys W sz)) := fun a U g mk q => by
  obtain ⟨q0, ⟨t1, t2, t3, t4⟩, q1, qP, qK, qD⟩ := q
  refine ⟨q0, ⟨t1.moved (u := U) (U := U.calling g mk a) (Vm.Alike.refl U.vm), t2.moved (u := U) (U := U.calling g mk a) (Vm.Alike.refl U.vm), fun w hw => va_Nw.same (u := U) (U := U.calling g mk a) (gNg_tab (gNg_all w hw)) rfl (t3 w hw), fun q hq => ?_⟩, q1, qP, va_K.moved (u := U) (U := U.calling g mk a) (Vm.Alike.refl U.vm) qK, qD⟩
  obtain ⟨sa, h⟩ := t4 q hq
  exact ⟨sa, vk_R.same rfl h⟩
theorem gk_preST {av : List Value} {D : va_G} {tys : List (ClassId × FieldType)} {W : va_W} {A : Nat → Prop} {s : State} {H : Heap} {locs : List Loc} (hT : gTF A s s.heap) (hS : va_S A s.heap H locs) (hF : ∀ q, va_A W H.size q → A q) (hP : va_P D vwCl W H) (hK : va_K D vwCl tys s) (hD : va_D A W) : PreS s H (va_Pc av (gPreT D tys W H.size)) av :=
  ⟨gPreT_blind, fun _ hU hW => ⟨rfl, gTF_at hT hS hF hU hW, gPre_at hP hK hD hU hW⟩⟩
theorem gk_preVT {av : List Value} {b : Nat} {C : String} {D : va_G} {tys : List (ClassId × FieldType)} {W : va_W} {A : Nat → Prop} {s : State} {H : Heap} {locs : List Loc} (hT : gTF A s s.heap) (hS : va_S A s.heap H locs) (hF : ∀ q, va_A W H.size q → A q) (hP : va_P D vwCl W H) (hK : va_K D vwCl tys s) (hD : va_D A W) (hr : ∃ cell : Cell, H[b]? = some cell ∧ cell.vm.isStatics = false ∧ s.vm.findClass C = some cell.cls) : PreV s H C b (va_Pc (.ref b :: av) (gPreT D tys W H.size)) av :=
  ⟨gPreT_blind, hr, fun _ hU hW => ⟨rfl, gTF_at hT hS hF hU hW, gPre_at hP hK hD hU hW⟩⟩
/-- the words of a throw: the good ones from the method's list, the others from what a throw needs -/
theorem gk_hat {args : Array Value} {s : State} {A : Nat → Prop} {H : Heap} {L : List Cond} (h1 : ∀ w ∈ L.filter goodWord, w.before args s = true) (hT : gTF A s H) (h2 : ∀ w ∈ L.filter (fun w => !goodWord w), w ∈ gTW) : ∀ w ∈ L, w.before args s = true :=
  vx_hat h1 h2 (fun w hw => va_Nw.use (gNg_tab (gNg_all w hw)) (hT.2.2.1 w hw))
/-- an exception of the class leaves: E by its name, the world as it was -/
abbrev gThr (D : va_G) (tys : List (ClassId × FieldType)) (A : Nat → Prop) (W : va_W) (px : String → Prop) : String → State → State → Prop := vx_X px (fun E u t => E = u ∧ gPost D tys A W t) A
