section
-- ===== PART A: goes FIRST, ahead of the names: the tables' words, and 'selects' of the private methods out of them =====
/-- a private method of a class that the tables say can be made, by its rows of tables_1 -/
def lw_okq (q : MethodName × Nat) : Prop := (q.1.cls ≠ "java/lang/invoke/MethodHandle" ∧ q.1.cls ≠ "java/lang/invoke/VarHandle") ∧ Cond.instantiable q.1.cls q.2 ∈ tables_1 ∧ Cond.privateMethod q.1 ∈ tables_1 ∧ Cond.instanceMethod q.1 ∈ tables_1
theorem lw_p0 : lw_okq (⟨"GrantBook", "earnedUpTo", "(I)I"⟩, 13) := ⟨⟨by decide +kernel, by decide +kernel⟩, List.mem_of_getElem? (i := 13) (by decide +kernel), List.mem_of_getElem? (i := 84) (by decide +kernel), List.mem_of_getElem? (i := 85) (by decide +kernel)⟩
theorem lw_p1 : lw_okq (⟨"GrantBook", "earnedButForMatch", "(I)J"⟩, 13) := ⟨⟨by decide +kernel, by decide +kernel⟩, List.mem_of_getElem? (i := 13) (by decide +kernel), List.mem_of_getElem? (i := 88) (by decide +kernel), List.mem_of_getElem? (i := 89) (by decide +kernel)⟩
theorem lw_p2 : lw_okq (⟨"GrantBook", "costsUpTo", "(I)I"⟩, 13) := ⟨⟨by decide +kernel, by decide +kernel⟩, List.mem_of_getElem? (i := 13) (by decide +kernel), List.mem_of_getElem? (i := 92) (by decide +kernel), List.mem_of_getElem? (i := 93) (by decide +kernel)⟩
theorem lw_p3 : lw_okq (⟨"GrantBook", "eligibleInAll", "(IZ)I"⟩, 13) := ⟨⟨by decide +kernel, by decide +kernel⟩, List.mem_of_getElem? (i := 13) (by decide +kernel), List.mem_of_getElem? (i := 96) (by decide +kernel), List.mem_of_getElem? (i := 97) (by decide +kernel)⟩
theorem lw_p4 : lw_okq (⟨"GrantBook", "overheadUpTo", "(I)I"⟩, 13) := ⟨⟨by decide +kernel, by decide +kernel⟩, List.mem_of_getElem? (i := 13) (by decide +kernel), List.mem_of_getElem? (i := 104) (by decide +kernel), List.mem_of_getElem? (i := 105) (by decide +kernel)⟩
theorem lw_p5 : lw_okq (⟨"java/lang/Throwable", "fillInStackTrace", "(I)Ljava/lang/Throwable;"⟩, 6) := ⟨⟨by decide +kernel, by decide +kernel⟩, List.mem_of_getElem? (i := 163) (by decide +kernel), List.mem_of_getElem? (i := 161) (by decide +kernel), List.mem_of_getElem? (i := 162) (by decide +kernel)⟩
theorem lw_p6 : lw_okq (⟨"GrantBook", "findLine", "(I)LGrantBook$Line;"⟩, 13) := ⟨⟨by decide +kernel, by decide +kernel⟩, List.mem_of_getElem? (i := 13) (by decide +kernel), List.mem_of_getElem? (i := 261) (by decide +kernel), List.mem_of_getElem? (i := 262) (by decide +kernel)⟩
theorem lw_p7 : lw_okq (⟨"GrantBook", "findVoucher", "(I)LGrantBook$Voucher;"⟩, 13) := ⟨⟨by decide +kernel, by decide +kernel⟩, List.mem_of_getElem? (i := 13) (by decide +kernel), List.mem_of_getElem? (i := 371) (by decide +kernel), List.mem_of_getElem? (i := 372) (by decide +kernel)⟩
theorem lw_p8 : lw_okq (⟨"GrantBook", "leastMatchFor", "(J)J"⟩, 13) := ⟨⟨by decide +kernel, by decide +kernel⟩, List.mem_of_getElem? (i := 13) (by decide +kernel), List.mem_of_getElem? (i := 439) (by decide +kernel), List.mem_of_getElem? (i := 440) (by decide +kernel)⟩
theorem lw_p9 : lw_okq (⟨"GrantBookModel", "isLine", "(I)Z"⟩, 24) := ⟨⟨by decide +kernel, by decide +kernel⟩, List.mem_of_getElem? (i := 462) (by decide +kernel), List.mem_of_getElem? (i := 565) (by decide +kernel), List.mem_of_getElem? (i := 566) (by decide +kernel)⟩
theorem lw_p10 : lw_okq (⟨"GrantBookModel", "roomOf", "(I)I"⟩, 24) := ⟨⟨by decide +kernel, by decide +kernel⟩, List.mem_of_getElem? (i := 462) (by decide +kernel), List.mem_of_getElem? (i := 573) (by decide +kernel), List.mem_of_getElem? (i := 574) (by decide +kernel)⟩
theorem lw_p11 : lw_okq (⟨"GrantBookModel", "layEligibles", "()V"⟩, 24) := ⟨⟨by decide +kernel, by decide +kernel⟩, List.mem_of_getElem? (i := 462) (by decide +kernel), List.mem_of_getElem? (i := 589) (by decide +kernel), List.mem_of_getElem? (i := 590) (by decide +kernel)⟩
theorem lw_p12 : lw_okq (⟨"GrantBookModel", "isFit", "(I)Z"⟩, 24) := ⟨⟨by decide +kernel, by decide +kernel⟩, List.mem_of_getElem? (i := 462) (by decide +kernel), List.mem_of_getElem? (i := 593) (by decide +kernel), List.mem_of_getElem? (i := 594) (by decide +kernel)⟩
theorem lw_p13 : lw_okq (⟨"GrantBookModel", "mark", "(IZ)I"⟩, 24) := ⟨⟨by decide +kernel, by decide +kernel⟩, List.mem_of_getElem? (i := 462) (by decide +kernel), List.mem_of_getElem? (i := 605) (by decide +kernel), List.mem_of_getElem? (i := 606) (by decide +kernel)⟩
theorem lw_p14 : lw_okq (⟨"GrantBookModel", "isVoucher", "(I)Z"⟩, 24) := ⟨⟨by decide +kernel, by decide +kernel⟩, List.mem_of_getElem? (i := 462) (by decide +kernel), List.mem_of_getElem? (i := 609) (by decide +kernel), List.mem_of_getElem? (i := 610) (by decide +kernel)⟩
theorem lw_p15 : lw_okq (⟨"GrantBookModel", "allEligible", "()I"⟩, 24) := ⟨⟨by decide +kernel, by decide +kernel⟩, List.mem_of_getElem? (i := 462) (by decide +kernel), List.mem_of_getElem? (i := 613) (by decide +kernel), List.mem_of_getElem? (i := 614) (by decide +kernel)⟩
def lw_privs_1 : List (MethodName × Nat) := [(⟨"GrantBook", "earnedUpTo", "(I)I"⟩, 13), (⟨"GrantBook", "earnedButForMatch", "(I)J"⟩, 13), (⟨"GrantBook", "costsUpTo", "(I)I"⟩, 13), (⟨"GrantBook", "eligibleInAll", "(IZ)I"⟩, 13), (⟨"GrantBook", "overheadUpTo", "(I)I"⟩, 13), (⟨"java/lang/Throwable", "fillInStackTrace", "(I)Ljava/lang/Throwable;"⟩, 6), (⟨"GrantBook", "findLine", "(I)LGrantBook$Line;"⟩, 13), (⟨"GrantBook", "findVoucher", "(I)LGrantBook$Voucher;"⟩, 13), (⟨"GrantBook", "leastMatchFor", "(J)J"⟩, 13), (⟨"GrantBookModel", "isLine", "(I)Z"⟩, 24), (⟨"GrantBookModel", "roomOf", "(I)I"⟩, 24), (⟨"GrantBookModel", "layEligibles", "()V"⟩, 24), (⟨"GrantBookModel", "isFit", "(I)Z"⟩, 24), (⟨"GrantBookModel", "mark", "(IZ)I"⟩, 24), (⟨"GrantBookModel", "isVoucher", "(I)Z"⟩, 24), (⟨"GrantBookModel", "allEligible", "()I"⟩, 24)]
theorem lw_r1 : ∀ q ∈ lw_privs_1, lw_okq q := List.forall_mem_cons.mpr ⟨lw_p0, List.forall_mem_cons.mpr ⟨lw_p1, List.forall_mem_cons.mpr ⟨lw_p2, List.forall_mem_cons.mpr ⟨lw_p3, List.forall_mem_cons.mpr ⟨lw_p4, List.forall_mem_cons.mpr ⟨lw_p5, List.forall_mem_cons.mpr ⟨lw_p6, List.forall_mem_cons.mpr ⟨lw_p7, List.forall_mem_cons.mpr ⟨lw_p8, List.forall_mem_cons.mpr ⟨lw_p9, List.forall_mem_cons.mpr ⟨lw_p10, List.forall_mem_cons.mpr ⟨lw_p11, List.forall_mem_cons.mpr ⟨lw_p12, List.forall_mem_cons.mpr ⟨lw_p13, List.forall_mem_cons.mpr ⟨lw_p14, List.forall_mem_cons.mpr ⟨lw_p15, fun _ h => absurd h List.not_mem_nil⟩⟩⟩⟩⟩⟩⟩⟩⟩⟩⟩⟩⟩⟩⟩⟩
theorem lw_p16 : lw_okq (⟨"GrantBookModel", "isDay", "(I)Z"⟩, 24) := ⟨⟨by decide +kernel, by decide +kernel⟩, List.mem_of_getElem? (i := 462) (by decide +kernel), List.mem_of_getElem? (i := 641) (by decide +kernel), List.mem_of_getElem? (i := 642) (by decide +kernel)⟩
theorem lw_p17 : lw_okq (⟨"GrantBookModel", "costsTo", "(IZ)I"⟩, 24) := ⟨⟨by decide +kernel, by decide +kernel⟩, List.mem_of_getElem? (i := 462) (by decide +kernel), List.mem_of_getElem? (i := 645) (by decide +kernel), List.mem_of_getElem? (i := 646) (by decide +kernel)⟩
theorem lw_p18 : lw_okq (⟨"GrantBookModel", "overheadTo", "(I)I"⟩, 24) := ⟨⟨by decide +kernel, by decide +kernel⟩, List.mem_of_getElem? (i := 462) (by decide +kernel), List.mem_of_getElem? (i := 653) (by decide +kernel), List.mem_of_getElem? (i := 654) (by decide +kernel)⟩
theorem lw_p19 : lw_okq (⟨"GrantBookModel", "earnedTo", "(I)I"⟩, 24) := ⟨⟨by decide +kernel, by decide +kernel⟩, List.mem_of_getElem? (i := 462) (by decide +kernel), List.mem_of_getElem? (i := 662) (by decide +kernel), List.mem_of_getElem? (i := 663) (by decide +kernel)⟩
theorem lw_p20 : lw_okq (⟨"GrantBookModel", "unbound", "(I)I"⟩, 24) := ⟨⟨by decide +kernel, by decide +kernel⟩, List.mem_of_getElem? (i := 462) (by decide +kernel), List.mem_of_getElem? (i := 666) (by decide +kernel), List.mem_of_getElem? (i := 667) (by decide +kernel)⟩
theorem lw_p21 : lw_okq (⟨"GrantBookModel", "paidSum", "()I"⟩, 24) := ⟨⟨by decide +kernel, by decide +kernel⟩, List.mem_of_getElem? (i := 462) (by decide +kernel), List.mem_of_getElem? (i := 678) (by decide +kernel), List.mem_of_getElem? (i := 679) (by decide +kernel)⟩
def lw_privs_2 : List (MethodName × Nat) := [(⟨"GrantBookModel", "isDay", "(I)Z"⟩, 24), (⟨"GrantBookModel", "costsTo", "(IZ)I"⟩, 24), (⟨"GrantBookModel", "overheadTo", "(I)I"⟩, 24), (⟨"GrantBookModel", "earnedTo", "(I)I"⟩, 24), (⟨"GrantBookModel", "unbound", "(I)I"⟩, 24), (⟨"GrantBookModel", "paidSum", "()I"⟩, 24)]
theorem lw_r2 : ∀ q ∈ lw_privs_2, lw_okq q := List.forall_mem_cons.mpr ⟨lw_p16, List.forall_mem_cons.mpr ⟨lw_p17, List.forall_mem_cons.mpr ⟨lw_p18, List.forall_mem_cons.mpr ⟨lw_p19, List.forall_mem_cons.mpr ⟨lw_p20, List.forall_mem_cons.mpr ⟨lw_p21, fun _ h => absurd h List.not_mem_nil⟩⟩⟩⟩⟩⟩
def lw_privs : List (MethodName × Nat) := lw_privs_1 ++ (lw_privs_2)
def lw_tbl : List Cond := k2_sels lw_privs ++ tables_1
theorem lw_privs_ok : ∀ q ∈ lw_privs, lw_okq q := by
  show ∀ q ∈ lw_privs_1 ++ (lw_privs_2), lw_okq q
  exact List.forall_mem_append.mpr ⟨lw_r1, lw_r2⟩
-- ===== end of PART A; then your names; then what follows =====
end
section
/-! ===== BEGIN words of one list among another's, by their places ===== -/
theorem goodIn_r {big : List Cond} (ws : List Cond) (ps : List Nat) (hp : ws = ps.filterMap (fun i => big[i]?)) (h : ws.all goodWord = true) : GoodIn big ws := by
  intro w hw
  have h1 := List.all_eq_true.mp h w hw
  rw [hp] at hw
  obtain ⟨i, -, hi⟩ := List.mem_filterMap.mp hw
  have hm : w ∈ big := by first | exact List.mem_of_getElem? hi | exact List.getElem?_mem hi
  exact ⟨hm, good_of_word h1⟩
theorem goodIn_app {big a b : List Cond} (ha : GoodIn big a) (hb : GoodIn big b) : GoodIn big (a ++ b) := fun w h => (List.mem_append.mp h).elim (ha w) (hb w)
theorem goodIn_ca {big a b : List Cond} {c : Cond} (ha : GoodIn big (c :: a)) (hb : GoodIn big b) : GoodIn big (c :: (a ++ b)) := fun w h => (List.mem_cons.mp h).elim (fun e => ha w (List.mem_cons.mpr (Or.inl e))) (fun h => (List.mem_append.mp h).elim (fun h => ha w (List.mem_cons.mpr (Or.inr h))) (hb w))
theorem goodIn_sub {big ws : List Cond} (hm : ∀ w ∈ ws, w ∈ big) (h : ws.all goodWord = true) : GoodIn big ws := fun w hw => ⟨hm w hw, good_of_word (List.all_eq_true.mp h w hw)⟩
/-! ===== END ===== -/

/-! ===== BEGIN exceptions that leave a method, and their catching by the caller (launches without stack traces) ===== -/
section VXA
/-! The laws vx_back, vx_callV, vx_callS, vx_callSW, vx_throw0, vx_throwS follow proofs of the library, with one case more: JvmDerived/Free/Laws.lean (Back.of_free), Shelf42/LK1.lean (callV, callS), Shelf/KitTraced.lean (throwNew0V, throwNewS). -/
/-- where a method has thrown q: the class by its name, the cell, what was written, the world -/
def vx_T (XC : String → State → State → Prop) (st : State) (q : Addr) (t : State) (mc ms : Nat) (free : Addr → Prop) : Prop :=
  ∃ (E : String) (ce : Cell) (L : List Loc), XC E st t ∧ t.heap[q]? = some ce ∧ ce.vm = .none ∧ st.vm.findClass E = some ce.cls ∧ st.WarmedH t.vm ∧ st.sameButNew ({ t with vm := st.vm } : State) L mc ms ∧ ∀ z ∈ L, free z.base
def vx_Q (Qc : Array Value → State → Outcome → State → Prop) (XC : String → State → State → Prop) (mc ms : Nat) (free : Addr → Prop) : Array Value → State → Outcome → State → Prop := fun a st o t =>
  (Qc a st o t ∧ ∃ L, FrameEnd st o t L mc ms ∧ ∀ q ∈ L, free q.base) ∨ ∃ q, o = .threw q ∧ vx_T XC st q t mc ms free
/-- a callee that returns or throws -/
def vx_Met (l : Launch) (y : MethodName) (ws : List Cond) (rm : Room) (Pc : Array Value → State → Prop) (Qc : Array Value → State → Outcome → State → Prop) (XC : String → State → State → Prop) (mc ms : Nat) (free : Addr → Prop) : Prop :=
  MetFree l y (headSpec ws rm) Pc (fun _ _ _ _ _ => True) (vx_Q Qc XC mc ms free)
def vx_Post (XC : String → State → State → Prop) (mc ms : Nat) (free : Addr → Prop) : Pt → Array Value → Addr → Pt → Prop := fun A a q B =>
  ∃ (g : JFrame) (mk : MethodId) (t : State) (L : List Loc) (E : String) (ce : Cell), B.U.heap = t.heap ∧ B.U.vm = t.vm ∧ XC E (A.U.calling g mk a) t ∧ t.heap[q]? = some ce ∧ ce.vm = .none ∧ A.U.vm.findClass E = some ce.cls ∧ B.locs = A.locs ++ L ∧ (∀ z ∈ L, free z.base) ∧ B.cells = A.cells + mc ∧ B.slots = A.slots + ms
def vx_Back (l : Launch) (R : Room) (p : Program) (e : Env) (below : List Frame) (s : State) (sargs : Array Value) (y : MethodName) (len W9 : Nat)
    (Pre : Pt → Array Value → Prop) (Post : Pt → Array Value → Option Value → Pt → Prop) (PostX : Pt → Array Value → Addr → Pt → Prop) : Prop :=
  ∀ (m : MethodId) (meth : Method) (c : Code) (A : Pt) (g : JFrame) (ig : Instr) (mk : MethodId) (a : Array Value),
    Stand p l e R s m sargs below meth c A.U A.locs A.cells A.slots → g.method = m → g.locals.size = c.maxLocals → decode c.code g.pc = .ok (ig, len) →
    2 * g.monitorRoom + (g.stack.map fun v => v.category).sum ≤ W9 → A.U.methodNamed? y = some mk → Pre A a →
    (∃ (v : Option Value) (B : Pt), Stand p l e R s m sargs below meth c B.U B.locs B.cells B.slots ∧ Post A a v B ∧
      Steps p.tables e below (doInvoke e (A.U.setTop g) [] mk a).1 (B.U.setTop { g with pc := g.pc + len, stack := v.toList ++ g.stack })) ∨
    (∃ (q : Addr) (B : Pt), Stand p l e R s m sargs below meth c B.U B.locs B.cells B.slots ∧ PostX A a q B ∧
      Steps p.tables e below (doInvoke e (A.U.setTop g) [] mk a).1 ((B.U.setTop g).pushFrame (.throwing q)))
section Payer
variable {l : Launch} {R : Room} {p : Program} {e : Env} {below : List Frame} {s : State} {sargs : Array Value} {y : MethodName} {len W9 : Nat}
theorem vx_back {ws : List Cond} {rm : Room} {Pc : Array Value → State → Prop} {Qc : Array Value → State → Outcome → State → Prop} {XC : String → State → State → Prop} {mc ms : Nat} {free : Addr → Prop} {bytes : ByteArray} {maxL : Nat} {ret : Option FieldType}
    (hM : vx_Met l y ws rm Pc Qc XC mc ms free) (hblind : FrameBlind Pc) (hrc : rm.cells = mc) (hrs : rm.slots = ms)
    (hframes : rm.frames + 1 ≤ R.frames) (hlocals : W9 + (maxL + 11) + rm.locals ≤ R.locals)
    (hws : ∀ w ∈ ws, ∀ a' U, s.WarmedH U.vm → w.before a' U = true) (hcode : Cond.code y bytes maxL ret ∈ ws) (hinit : ∀ a' U, s.WarmedH U.vm → (Cond.initialized y.cls).before a' U = true) :
    vx_Back l R p e below s sargs y len W9 (PreOf R mc ms Pc) (PostOf Qc mc ms free) (vx_Post XC mc ms free) := by
  intro m meth c A g ig mk a X hg hsize hdg hW hn hp
  have h1 : (headSpec ws rm).pre.before a A.U = true := atoms_intro fun w hw => hws w hw _ _ X.warmed
  have h2 : (Cond.code y bytes maxL ret).before a A.U = true := hws _ hcode _ _ X.warmed
  have h3 : (Cond.initialized y.cls).before a A.U = true := hinit _ _ X.warmed
  have h4 : A.cells + (headSpec ws rm).room.cells ≤ R.cells := by rw [show (headSpec ws rm).room.cells = mc from hrc]; exact hp.1
  have h5 : A.slots + (headSpec ws rm).room.slots ≤ R.slots := by rw [show (headSpec ws rm).room.slots = ms from hrs]; exact hp.2.1
  have hPc : Pc a (A.U.calling g mk a) := hblind _ _ _ _ hp.2.2
  obtain ⟨U, Ls, c0, s0⟩ := A
  dsimp only [Pt.U, Pt.locs, Pt.cells, Pt.slots] at h1 h2 h3 h4 h5 X hn hPc ⊢
  obtain ⟨methY, cY, hmY, hcY, -, hlY, -, -, -, -⟩ := Cond.code_spec hn h2
  obtain ⟨kY, hkY, -⟩ := className_of_methodNamed hn
  have hinitY : kY.init = .initialized := Cond.initialized_spec (findClass_of_methodNamed hn) hkY h3
  have h : At U g.method c below := by rw [hg]; exact X.here
  have hlocals9 : W9 + (maxL + 11) + (headSpec ws rm).room.locals ≤ R.locals := hlocals
  have happ : (headSpec ws rm).appliesLoose y e.platform (U.calling g mk a) = true :=
    Spec.appliesLoose_calling (g := g) h hdg hn hkY hinitY
      (X.room_calling (g := g) (R' := (headSpec ws rm).room) hsize hmY hcY hframes (by rw [hlY]; omega) h4 h5) h1
  obtain ⟨mid, hmid⟩ := h.above
  have hfr : (U.setTop g).frames = (.java g :: mid) ++ below := by rw [State.frames_setTop' g h.top, hmid]; rfl
  obtain ⟨o, s₂, hsteps, -, hend, hq⟩ := Steps.callFree hM p X.admits X.cas X.clock (acts := []) hfr happ hPc trivial
  have hq' : vx_Q Qc XC mc ms free a (U.calling g mk a) o s₂ := hq
  rw [State.frames_setTop' g h.top] at hend
  obtain ⟨g₀, hg0⟩ := Option.isSome_iff_exists.mp h.top
  obtain ⟨r, hr⟩ := State.topJava?_eq_some.mp hg0
  have hr' : (({ U with heap := s₂.heap, slotsUsed := s₂.slotsUsed } : State).setVm s₂.vm).frames = .java g₀ :: r := hr
  rcases hq' with ⟨hqc, L, hfe, hL⟩ | ⟨q, rfl, E, ce, L, hx, hce, hcv, hcl, hW₂, hsm, hL⟩
  · obtain ⟨⟨v, rfl⟩, hW₂, e2, q2, q3, q4, q5, q6⟩ := id hfe
    have e3 : s₂ = ({ (U.calling g mk a).setFrames s₂.frames with heap := s₂.heap, slotsUsed := s₂.slotsUsed } : State).setVm s₂.vm := by
      have : s₂ = ({ s₂ with vm := (U.calling g mk a).vm } : State).setVm s₂.vm := rfl
      rw [e2] at this
      exact this
    obtain ⟨c₂, i₂, len₂, hc₂, hd₂, hf₂⟩ := hend
    have hW' : U.WarmedH s₂.vm := hW₂
    have hcc : c₂ = c := by
      have h1 : s₂.code? g.method = U.code? g.method := by
        rw [State.code?_eq, State.code?_eq, hW'.alike.method?]
      exact Option.some.inj (hc₂.symm.trans (h1.trans h.code))
    subst hcc
    have hlen : len₂ = len := by rw [hdg] at hd₂; cases hd₂; rfl
    subst hlen
    have hs₂ : s₂ = (({ U with heap := s₂.heap, slotsUsed := s₂.slotsUsed } : State).setVm s₂.vm).setTop { g with pc := g.pc + len₂, stack := v.toList ++ g.stack } := by
      refine e3.trans ?_
      rw [hf₂, State.calling_eq h.top, State.setFrames_setFrames, State.setTop_of_frames _ hr', hr]
      rfl
    have hsame : U.sameButNew ({ U with heap := s₂.heap, slotsUsed := s₂.slotsUsed } : State) L mc ms := by
      refine ⟨?_, q2, q3, q4, q5, q6⟩
      obtain ⟨t, ht, -⟩ := State.frames_cons hr
      show ({ U with heap := s₂.heap, slotsUsed := s₂.slotsUsed } : State) = { U.setFrames U.frames with heap := s₂.heap, slotsUsed := s₂.slotsUsed }
      rw [State.setFrames_self ht]
    subst hg
    refine Or.inl ⟨v, ⟨(({ U with heap := s₂.heap, slotsUsed := s₂.slotsUsed } : State).setVm s₂.vm), Ls ++ L, c0 + mc, s0 + ms⟩,
      ⟨X.admits, X.cas, X.clock, X.frames, X.room, X.hears, X.method, X.code, (X.here.setHeapUsed s₂.heap s₂.slotsUsed).setVm hW'.alike, X.tail, State.WarmedH.trans X.warmed hW', X.limits, X.bytes, X.same.trans (hsame.setVm s.vm)⟩,
      ⟨g, mk, s₂, L, rfl, rfl, hqc, rfl, hL, rfl, rfl⟩, ?_⟩
    show Steps p.tables e below _ ((({ U with heap := s₂.heap, slotsUsed := s₂.slotsUsed } : State).setVm s₂.vm).setTop { g with pc := g.pc + len₂, stack := v.toList ++ g.stack })
    rw [← hs₂]
    exact hsteps
  · obtain ⟨e2, q2, q3, q4, q5, q6⟩ := id hsm
    have e3 : s₂ = ({ (U.calling g mk a).setFrames s₂.frames with heap := s₂.heap, slotsUsed := s₂.slotsUsed } : State).setVm s₂.vm := by
      have : s₂ = ({ s₂ with vm := (U.calling g mk a).vm } : State).setVm s₂.vm := rfl
      rw [e2] at this
      exact this
    have hf₂ : s₂.frames = .throwing q :: .java g :: U.frames.tail := hend
    have hW' : U.WarmedH s₂.vm := hW₂
    have hs₂ : s₂ = ((({ U with heap := s₂.heap, slotsUsed := s₂.slotsUsed } : State).setVm s₂.vm).setTop g).pushFrame (.throwing q) := by
      refine e3.trans ?_
      rw [hf₂, State.calling_eq h.top, State.setFrames_setFrames, State.pushFrame, State.frames_setTop _ hr', State.setTop_of_frames _ hr', State.setFrames_setFrames, hr]
      rfl
    have hsame : U.sameButNew ({ U with heap := s₂.heap, slotsUsed := s₂.slotsUsed } : State) L mc ms := by
      refine ⟨?_, q2, q3, q4, q5, q6⟩
      obtain ⟨t, ht, -⟩ := State.frames_cons hr
      show ({ U with heap := s₂.heap, slotsUsed := s₂.slotsUsed } : State) = { U.setFrames U.frames with heap := s₂.heap, slotsUsed := s₂.slotsUsed }
      rw [State.setFrames_self ht]
    subst hg
    refine Or.inr ⟨q, ⟨(({ U with heap := s₂.heap, slotsUsed := s₂.slotsUsed } : State).setVm s₂.vm), Ls ++ L, c0 + mc, s0 + ms⟩,
      ⟨X.admits, X.cas, X.clock, X.frames, X.room, X.hears, X.method, X.code, (X.here.setHeapUsed s₂.heap s₂.slotsUsed).setVm hW'.alike, X.tail, State.WarmedH.trans X.warmed hW', X.limits, X.bytes, X.same.trans (hsame.setVm s.vm)⟩,
      ⟨g, mk, s₂, L, E, ce, rfl, rfl, hx, hce, hcv, hcl, rfl, hL, rfl, rfl⟩, ?_⟩
    show Steps p.tables e below _ (((({ U with heap := s₂.heap, slotsUsed := s₂.slotsUsed } : State).setVm s₂.vm).setTop g).pushFrame (.throwing q))
    rw [← hs₂]
    exact hsteps
end Payer
section Calls
variable {p : Program} {l : Launch} {e : Env} {R : Room} {s : State} {m : MethodId} {args : Array Value} {below : List Frame} {meth : Method} {c : Code} {T : State} {locs : List Loc} {cells slots : Nat}
theorem vx_callV (X : Stand p l e R s m args below meth c T locs cells slots) (hexec : p.tables.exec = Jvm.exec) {own C : String} {index : Nat} {y : MethodName} {bytes : ByteArray} {maxL : Nat} {ret : Option FieldType}
    (hown : s.vm.findClass own = some m.cls) (hlink : (Cond.methodLink own index y).before args s = true) (hinst : (Cond.instanceMethod y).before args s = true) (hsel : (Cond.selects C y y).before args s = true)
    (hcode : (Cond.code y bytes maxL ret).before args s = true) (hy : y.cls ≠ "java/lang/invoke/MethodHandle" ∧ y.cls ≠ "java/lang/invoke/VarHandle")
    {W9 : Nat} {Pre : Pt → Array Value → Prop} {Post : Pt → Array Value → Option Value → Pt → Prop} {PostX : Pt → Array Value → Addr → Pt → Prop} (hK : vx_Back l R p e below s args y 3 W9 Pre Post PostX)
    {b : Addr} {cellB : Cell} (hcell : T.heap[b]? = some cellB) (hobj : cellB.vm.isStatics = false) (hcls : s.vm.findClass C = some cellB.cls)
    {g : JFrame} (hg : g.method = m) (hsize : g.locals.size = c.maxLocals) {argsL rest : List Value} (hlen : ∀ sig, parseMethodDescriptor y.desc = some sig → argsL.length = sig.parameters.length)
    (hstack : g.stack = argsL.reverse ++ .ref b :: rest) (hW : 2 * g.monitorRoom + (rest.map fun v => v.category).sum ≤ W9) (hdg : decode c.code g.pc = .ok (.invokevirtual index, 3))
    (hpre : ∀ vm₁, s.WarmedH vm₁ → Pre ⟨T.setVm vm₁, locs, cells, slots⟩ (Value.ref b :: argsL).toArray) :
    (∃ (v : Option Value) (vm₁ : Vm) (B : Pt), s.WarmedH vm₁ ∧ Stand p l e R s m args below meth c B.U B.locs B.cells B.slots ∧ Post ⟨T.setVm vm₁, locs, cells, slots⟩ (Value.ref b :: argsL).toArray v B ∧
      ∀ target, Steps p.tables e below (B.U.setTop { g with pc := g.pc + 3, stack := v.toList ++ rest }) target → Steps p.tables e below (T.setTop g) target) ∨
    (∃ (q : Addr) (vm₁ : Vm) (B : Pt), s.WarmedH vm₁ ∧ Stand p l e R s m args below meth c B.U B.locs B.cells B.slots ∧ PostX ⟨T.setVm vm₁, locs, cells, slots⟩ (Value.ref b :: argsL).toArray q B ∧
      Steps p.tables e below (T.setTop g) ((B.U.setTop { g with stack := rest }).pushFrame (.throwing q))) := by
  obtain ⟨mk, methM, hnamed, hmethM, hstM, habM⟩ := Cond.instanceMethod_spec hinst
  obtain ⟨methM', cM, hmethM', -, -, -, -, -, -, hsigM⟩ := Cond.code_spec hnamed hcode
  cases hmethM.symm.trans hmethM'
  obtain ⟨c2, r2, m2, q1, q2, q3, q4, kP, hkP, hkPi⟩ := Cond.selects_spec hsel
  cases hcls.symm.trans q1
  cases (State.methodFound?_of_named hnamed hy).symm.trans q2
  cases hnamed.symm.trans q3
  have hselP : selectMethod e.platform s.vm cellB.cls mk = .method mk := by rw [Launch.admits_selectMethod X.admits]; exact q4
  obtain ⟨vm₁, X₁, hstep₁⟩ := X.invokevirtual hexec hown hlink hnamed hmethM hstM hkP hkPi hy (a := b) (cell := cellB) hcell
    (fun z h => by rw [h] at hobj; cases hobj) hselP hmethM habM hkP hkPi (g := g) hg (argsL := argsL) (rest := rest) (hlen _ hsigM) hstack hdg
  rcases hK m meth c ⟨T.setVm vm₁, locs, cells, slots⟩ { g with stack := rest } (.invokevirtual index) mk (Value.ref b :: argsL).toArray X₁ hg hsize hdg hW (X₁.named hnamed) (hpre vm₁ X₁.warmed) with ⟨v, B, X', hpost, hsteps⟩ | ⟨q, B, X', hpost, hsteps⟩
  · exact Or.inl ⟨v, vm₁, B, X₁.warmed, X', hpost, fun target h => hstep₁ _ fun acts => by rw [doInvoke_state]; exact hsteps.trans h⟩
  · exact Or.inr ⟨q, vm₁, B, X₁.warmed, X', hpost, hstep₁ _ fun acts => by rw [doInvoke_state]; exact hsteps⟩
theorem vx_callS (X : Stand p l e R s m args below meth c T locs cells slots) (hexec : p.tables.exec = Jvm.exec) {own : String} {index : Nat} {y : MethodName} {bytes : ByteArray} {maxL : Nat} {ret : Option FieldType}
    (hown : s.vm.findClass own = some m.cls) (hlink : (Cond.methodLink own index y).before args s = true) (hstat : (Cond.static y).before args s = true) (hinit : (Cond.initialized y.cls).before args s = true)
    (hcode : (Cond.code y bytes maxL ret).before args s = true) (hy : y.cls ≠ "java/lang/invoke/MethodHandle" ∧ y.cls ≠ "java/lang/invoke/VarHandle")
    {W9 : Nat} {Pre : Pt → Array Value → Prop} {Post : Pt → Array Value → Option Value → Pt → Prop} {PostX : Pt → Array Value → Addr → Pt → Prop} (hK : vx_Back l R p e below s args y 3 W9 Pre Post PostX)
    {g : JFrame} (hg : g.method = m) (hsize : g.locals.size = c.maxLocals) {argsL rest : List Value} (hlen : ∀ sig, parseMethodDescriptor y.desc = some sig → argsL.length = sig.parameters.length)
    (hstack : g.stack = argsL.reverse ++ rest) (hW : 2 * g.monitorRoom + (rest.map fun v => v.category).sum ≤ W9) (hdg : decode c.code g.pc = .ok (.invokestatic index, 3))
    (hpre : ∀ vm₁, s.WarmedH vm₁ → Pre ⟨T.setVm vm₁, locs, cells, slots⟩ argsL.toArray) :
    (∃ (v : Option Value) (vm₁ : Vm) (B : Pt), s.WarmedH vm₁ ∧ Stand p l e R s m args below meth c B.U B.locs B.cells B.slots ∧ Post ⟨T.setVm vm₁, locs, cells, slots⟩ argsL.toArray v B ∧
      ∀ target, Steps p.tables e below (B.U.setTop { g with pc := g.pc + 3, stack := v.toList ++ rest }) target → Steps p.tables e below (T.setTop g) target) ∨
    (∃ (q : Addr) (vm₁ : Vm) (B : Pt), s.WarmedH vm₁ ∧ Stand p l e R s m args below meth c B.U B.locs B.cells B.slots ∧ PostX ⟨T.setVm vm₁, locs, cells, slots⟩ argsL.toArray q B ∧
      Steps p.tables e below (T.setTop g) ((B.U.setTop { g with stack := rest }).pushFrame (.throwing q))) := by
  obtain ⟨mk, hnamed⟩ := Cond.code_named hcode
  obtain ⟨methM, cM, hmethM, -, -, -, -, -, -, hsigM⟩ := Cond.code_spec hnamed hcode
  have hstatic : methM.isStatic = true := Cond.static_spec hnamed hmethM hstat
  obtain ⟨kP, hkP, -⟩ := className_of_methodNamed hnamed
  have hinitP : kP.init = .initialized := Cond.initialized_spec (findClass_of_methodNamed hnamed) hkP hinit
  obtain ⟨vm₁, X₁, hstep₁⟩ := X.invokestatic hexec hown hlink hnamed hmethM hstatic hkP hinitP hy (g := g) hg (argsL := argsL) (rest := rest) (hlen _ hsigM) hstack hdg
  rcases hK m meth c ⟨T.setVm vm₁, locs, cells, slots⟩ { g with stack := rest } (.invokestatic index) mk argsL.toArray X₁ hg hsize hdg hW (X₁.named hnamed) (hpre vm₁ X₁.warmed) with ⟨v, B, X', hpost, hsteps⟩ | ⟨q, B, X', hpost, hsteps⟩
  · exact Or.inl ⟨v, vm₁, B, X₁.warmed, X', hpost, fun target h => hstep₁ _ fun acts => by rw [doInvoke_state]; exact hsteps.trans h⟩
  · exact Or.inr ⟨q, vm₁, B, X₁.warmed, X', hpost, hstep₁ _ fun acts => by rw [doInvoke_state]; exact hsteps⟩
end Calls
theorem vx_cls {s : State} {T : State} {vm₁ : Vm} {E : String} {k : ClassId} (hW : s.WarmedH vm₁) (h : (T.setVm vm₁).vm.findClass E = some k) : s.vm.findClass E = some k := by
  have h1 : vm₁.findClass E = some k := h
  rw [hW.alike.findClass] at h1
  exact h1
/-- the method's frame g, with q thrown over it -/
def vx_W (p : Program) (l : Launch) (e : Env) (R : Room) (s : State) (m : MethodId) (args : Array Value) (below : List Frame) (meth : Method) (c : Code) (H : Heap) (locs : List Loc) (cells slots : Nat) (Q : State → Prop) (g : JFrame) (q : Addr) : Prop :=
  ∀ T : State, T.heap = H → Stand p l e R s m args below meth c T locs cells slots → ∃ t, Steps p.tables e below ((T.setTop g).pushFrame (.throwing q)) t ∧ Q t
def vx_Run (p : Program) (l : Launch) (e : Env) (R : Room) (s : State) (m : MethodId) (args : Array Value) (below : List Frame) (meth : Method) (c : Code) (H : Heap) (locs : List Loc) (cells slots mc ms : Nat) (g : JFrame) (rest : List Value) (Qa : State → Outcome → State → Prop) (XC : String → State → State → Prop) (free : Addr → Prop) : Prop :=
  ∀ T : State, T.heap = H → Stand p l e R s m args below meth c T locs cells slots →
    (∃ (v : Option Value) (st₀ t T' : State) (L : List Loc), st₀.heap = H ∧ Stand p l e R s m args below meth c T' (locs ++ L) (cells + mc) (slots + ms) ∧ (∀ q ∈ L, free q.base) ∧ T'.heap = t.heap ∧ T'.vm = t.vm ∧ Qa st₀ (.returned v) t ∧
      Goes p e below T g T' { g with pc := g.pc + 3, stack := v.toList ++ rest }) ∨
    (∃ (q : Addr) (st₀ t T' : State) (L : List Loc) (E : String) (ce : Cell), st₀.heap = H ∧ Stand p l e R s m args below meth c T' (locs ++ L) (cells + mc) (slots + ms) ∧ (∀ z ∈ L, free z.base) ∧ T'.heap = t.heap ∧ T'.vm = t.vm ∧ XC E st₀ t ∧ t.heap[q]? = some ce ∧ ce.vm = .none ∧ s.vm.findClass E = some ce.cls ∧
      Steps p.tables e below (T.setTop g) ((T'.setTop { g with stack := rest }).pushFrame (.throwing q)))
def vx_X {S : Type} (px : S → Prop) (B : String → S → State → Prop) (A : Nat → Prop) : String → State → State → Prop := fun E st t => ∃ u : S, px u ∧ B E u t ∧ va_F A st t
section Runs
variable {p : Program} {l : Launch} {e : Env} {R : Room} {s : State} {m : MethodId} {args : Array Value} {below : List Frame} {meth : Method} {c : Code} {H : Heap} {locs : List Loc} {cells slots : Nat}
variable {y : MethodName} {bytes cc : ByteArray} {maxL nL mc ms n index : Nat} {ret : Option FieldType} {ws : List Cond} {rm : Room} {Pc : Array Value → State → Prop} {Qc : Array Value → State → Outcome → State → Prop} {XC : String → State → State → Prop} {free : Addr → Prop} {Ts : List Cond} {own C : String} {b : Addr} {As rest : List Value} {g : JFrame}
theorem vx_callBack (cb : CallB R s args own index y bytes maxL ret ws rm mc ms n) (hM : vx_Met l y ws rm Pc Qc XC mc ms free) (hbl : FrameBlind Pc) : vx_Back l R p e below s args y 3 8 (PreOf R mc ms Pc) (PostOf Qc mc ms free) (vx_Post XC mc ms free) := by
  obtain ⟨hrc, hrs, hfr, hlo, hws, hcw, -, hini, -⟩ := cb
  exact vx_back (bytes := bytes) (maxL := maxL) (ret := ret) hM hbl hrc hrs hfr hlo hws hcw (fun a' U hW => word_at hW (Or.inl (by first | rfl | simp [Cond.onTables, Cond.keeps, Cond.steady])) hini)
theorem vx_runV (S : CallFix p m c cc nL s args Ts own) (hM : vx_Met l y ws rm Pc Qc XC mc ms free) (cw : CallW R s args own C index y bytes maxL ret ws rm mc ms n) (hp : PreV s H C b Pc As)
    (hg : g.method = m) (hn : As.length = n) (hsize : g.locals.size = nL) (hstack : g.stack = As.reverse ++ .ref b :: rest) (hW : 2 * g.monitorRoom + (rest.map fun v => v.category).sum ≤ 8) (hdg : decode cc g.pc = .ok (.invokevirtual index, 3)) (hf : cells + mc ≤ R.cells ∧ slots + ms ≤ R.slots) :
    vx_Run p l e R s m args below meth c H locs cells slots mc ms g rest (Qc (Value.ref b :: As).toArray) XC free := by
  have hK : vx_Back l R p e below s args y 3 8 (PreOf R mc ms Pc) (PostOf Qc mc ms free) (vx_Post XC mc ms free) := vx_callBack cw.1 hM hp.1
  obtain ⟨⟨-, -, -, -, -, -, hcode, -, hy, hlen, hl⟩, hin, hse⟩ := cw
  obtain ⟨hx, hb, hml, ho, -⟩ := S
  obtain ⟨-, ⟨cellB, hcB, hoB, hclB⟩, hPc⟩ := hp
  intro T hT X
  rcases vx_callV X hx (C := C) (bytes := bytes) (maxL := maxL) (ret := ret) ho hl hin hse hcode hy hK (by rw [hT]; exact hcB) hoB hclB hg (hsize.trans hml.symm) (argsL := As) (rest := rest) (fun sig h => hn.trans (hlen sig h)) hstack hW (by rw [hb]; exact hdg)
    (fun vm₁ hW₁ => ⟨hf.1, hf.2, hPc (T.setVm vm₁) hT hW₁⟩) with ⟨v, vm₁, ⟨U', l2, c2, s2⟩, hW₁, X', ⟨g', mk, t, L, e1, e2, hq, h1, hL, h2, h3⟩, st⟩ | ⟨q, vm₁, ⟨U', l2, c2, s2⟩, hW₁, X', ⟨g', mk, t, L, E, ce, e1, e2, hq, hce, hcv, hcl, h1, hL, h2, h3⟩, st⟩
  · dsimp only [Pt.U, Pt.locs, Pt.cells, Pt.slots] at X' e1 e2 h1 h2 h3 st
    subst h1; subst h2; subst h3
    exact Or.inl ⟨v, (T.setVm vm₁).calling g' mk (Value.ref b :: As).toArray, t, U', L, hT, X', hL, e1, e2, hq, st⟩
  · dsimp only [Pt.U, Pt.locs, Pt.cells, Pt.slots] at X' e1 e2 h1 h2 h3 st hcl
    subst h1; subst h2; subst h3
    exact Or.inr ⟨q, (T.setVm vm₁).calling g' mk (Value.ref b :: As).toArray, t, U', L, E, ce, hT, X', hL, e1, e2, hq, hce, hcv, vx_cls hW₁ hcl, st⟩
theorem vx_runS (S : CallFix p m c cc nL s args Ts own) (hM : vx_Met l y ws rm Pc Qc XC mc ms free) (cw : CallB R s args own index y bytes maxL ret ws rm mc ms n ∧ (Cond.static y).before args s = true) (hp : PreS s H Pc As)
    (hg : g.method = m) (hn : As.length = n) (hsize : g.locals.size = nL) (hstack : g.stack = As.reverse ++ rest) (hW : 2 * g.monitorRoom + (rest.map fun v => v.category).sum ≤ 8) (hdg : decode cc g.pc = .ok (.invokestatic index, 3)) (hf : cells + mc ≤ R.cells ∧ slots + ms ≤ R.slots) :
    vx_Run p l e R s m args below meth c H locs cells slots mc ms g rest (Qc As.toArray) XC free := by
  have hK : vx_Back l R p e below s args y 3 8 (PreOf R mc ms Pc) (PostOf Qc mc ms free) (vx_Post XC mc ms free) := vx_callBack cw.1 hM hp.1
  obtain ⟨⟨-, -, -, -, -, -, hcode, hini, hy, hlen, hl⟩, hstt⟩ := cw
  obtain ⟨hx, hb, hml, ho, -⟩ := S
  intro T hT X
  rcases vx_callS X hx (bytes := bytes) (maxL := maxL) (ret := ret) ho hl hstt hini hcode hy hK hg (hsize.trans hml.symm) (argsL := As) (rest := rest) (fun sig h => hn.trans (hlen sig h)) hstack hW (by rw [hb]; exact hdg)
    (fun vm₁ hW₁ => ⟨hf.1, hf.2, hp.2 (T.setVm vm₁) hT hW₁⟩) with ⟨v, vm₁, ⟨U', l2, c2, s2⟩, hW₁, X', ⟨g', mk, t, L, e1, e2, hq, h1, hL, h2, h3⟩, st⟩ | ⟨q, vm₁, ⟨U', l2, c2, s2⟩, hW₁, X', ⟨g', mk, t, L, E, ce, e1, e2, hq, hce, hcv, hcl, h1, hL, h2, h3⟩, st⟩
  · dsimp only [Pt.U, Pt.locs, Pt.cells, Pt.slots] at X' e1 e2 h1 h2 h3 st
    subst h1; subst h2; subst h3
    exact Or.inl ⟨v, (T.setVm vm₁).calling g' mk As.toArray, t, U', L, hT, X', hL, e1, e2, hq, st⟩
  · dsimp only [Pt.U, Pt.locs, Pt.cells, Pt.slots] at X' e1 e2 h1 h2 h3 st hcl
    subst h1; subst h2; subst h3
    exact Or.inr ⟨q, (T.setVm vm₁).calling g' mk As.toArray, t, U', L, E, ce, hT, X', hL, e1, e2, hq, hce, hcv, vx_cls hW₁ hcl, st⟩
end Runs
section Rows
variable {p : Program} {l : Launch} {e : Env} {R : Room} {s : State} {m : MethodId} {args : Array Value} {below : List Frame} {meth : Method} {c : Code} {H : Heap} {locs : List Loc} {cells slots : Nat} {Q : State → Prop}
variable {mc ms : Nat} {free : Addr → Prop} {A0 A1 : Nat → Prop} {H0 : Heap} {a : Array Value} {pc : Nat} {ls : Array Slot} {st0 rest : List Value}
theorem vx_keep {st₀ t T' : State} {L : List Loc} (h0 : st₀.heap = H) (e1 : T'.heap = t.heap) (hS : va_S A0 H0 H locs) (hA : ∀ q, q < H.size → A1 q → A0 q) (hf : ∀ q, free q → A0 q) (hL : ∀ q ∈ L, free q.base) (hF : va_F A1 st₀ t) :
    H.size ≤ T'.heap.size ∧ (∀ q : Nat, q < H.size → ¬ A1 q → T'.heap[q]? = H[q]?) ∧ va_S A0 H0 T'.heap (locs ++ L) := by
  obtain ⟨hz, hk⟩ := hF
  rw [h0] at hz hk
  exact ⟨by rw [e1]; exact hz, fun q h1 h2 => by rw [e1]; exact hk q h1 h2,
    ⟨Nat.le_trans hS.1 (by rw [e1]; exact hz), fun q h1 h2 => by rw [e1, hk q (Nat.lt_of_lt_of_le h1 hS.1) (fun z => h2 (hA q (Nat.lt_of_lt_of_le h1 hS.1) z))]; exact hS.2.1 q h1 h2, fun q hq => by
      rcases List.mem_append.mp hq with h | h
      · exact hS.2.2 q h
      · exact hf _ (hL q h)⟩⟩
theorem vx_calli {S SX : Type} {post : Int32 → S → Prop} {px : SX → Prop} {B : S → State → Prop} {BX : String → SX → State → Prop} {AX : Nat → Prop} (hr : vx_Run p l e R s m args below meth c H locs cells slots mc ms (F0 m pc ls st0) rest (va_Qi post B A1 a) (vx_X px BX AX) free) (hS : va_S A0 H0 H locs) (hA : ∀ q, q < H.size → A1 q → A0 q) (hf : ∀ q, free q → A0 q) (hAX : ∀ q, q < H.size → AX q → A0 q)
    (kx : ∀ (E : String) (ce : Cell) (q9 : Addr) (u : SX) (t : State) (H1 : Heap) (locs1 : List Loc), t.heap = H1 → s.vm.Alike t.vm → px u → BX E u t → H.size ≤ H1.size → (∀ q : Nat, q < H.size → ¬ AX q → H1[q]? = H[q]?) → va_S A0 H0 H1 locs1 → H1[q9]? = some ce → ce.vm = .none → s.vm.findClass E = some ce.cls → vx_W p l e R s m args below meth c H1 locs1 (cells + mc) (slots + ms) Q (F0 m pc ls rest) q9)
    (kk : ∀ (r : Int32) (u : S) (t : State) (H1 : Heap) (locs1 : List Loc), t.heap = H1 → s.vm.Alike t.vm → post r u → B u t → H.size ≤ H1.size → (∀ q : Nat, q < H.size → ¬ A1 q → H1[q]? = H[q]?) → va_S A0 H0 H1 locs1 → W p l e R s m args below meth c H1 locs1 (cells + mc) (slots + ms) Q (F0 m (pc + 3) ls (.int r :: rest))) : W p l e R s m args below meth c H locs cells slots Q (F0 m pc ls st0) := by
  intro T hT X
  rcases hr T hT X with ⟨v, st₀, t, T', L, h0, X', hL, e1, e2, ⟨⟨r, u, hv, hp, hb⟩, hF⟩, st⟩ | ⟨q, st₀, t, T', L, E, ce, h0, X', hL, e1, e2, ⟨u, hp, hb, hF⟩, hce, hcv, hcl, st⟩
  · cases hv
    obtain ⟨k1, k2, k3⟩ := vx_keep h0 e1 hS hA hf hL hF
    obtain ⟨t2, a1, b1⟩ := kk r u t T'.heap (locs ++ L) e1.symm (by rw [← e2]; exact X'.warmed.alike) hp hb k1 k2 k3 T' rfl X'
    exact ⟨t2, st t2 a1, b1⟩
  · obtain ⟨k1, k2, k3⟩ := vx_keep h0 e1 hS hAX hf hL hF
    obtain ⟨t2, a1, b1⟩ := kx E ce q u t T'.heap (locs ++ L) e1.symm (by rw [← e2]; exact X'.warmed.alike) hp hb k1 k2 k3 (by rw [e1]; exact hce) hcv hcl T' rfl X'
    exact ⟨t2, st.trans a1, b1⟩
theorem vx_calll {S SX : Type} {post : Int64 → S → Prop} {px : SX → Prop} {B : S → State → Prop} {BX : String → SX → State → Prop} {AX : Nat → Prop} (hr : vx_Run p l e R s m args below meth c H locs cells slots mc ms (F0 m pc ls st0) rest (va_Ql post B A1 a) (vx_X px BX AX) free) (hS : va_S A0 H0 H locs) (hA : ∀ q, q < H.size → A1 q → A0 q) (hf : ∀ q, free q → A0 q) (hAX : ∀ q, q < H.size → AX q → A0 q)
    (kx : ∀ (E : String) (ce : Cell) (q9 : Addr) (u : SX) (t : State) (H1 : Heap) (locs1 : List Loc), t.heap = H1 → s.vm.Alike t.vm → px u → BX E u t → H.size ≤ H1.size → (∀ q : Nat, q < H.size → ¬ AX q → H1[q]? = H[q]?) → va_S A0 H0 H1 locs1 → H1[q9]? = some ce → ce.vm = .none → s.vm.findClass E = some ce.cls → vx_W p l e R s m args below meth c H1 locs1 (cells + mc) (slots + ms) Q (F0 m pc ls rest) q9)
    (kk : ∀ (r : Int64) (u : S) (t : State) (H1 : Heap) (locs1 : List Loc), t.heap = H1 → s.vm.Alike t.vm → post r u → B u t → H.size ≤ H1.size → (∀ q : Nat, q < H.size → ¬ A1 q → H1[q]? = H[q]?) → va_S A0 H0 H1 locs1 → W p l e R s m args below meth c H1 locs1 (cells + mc) (slots + ms) Q (F0 m (pc + 3) ls (.long r :: rest))) : W p l e R s m args below meth c H locs cells slots Q (F0 m pc ls st0) := by
  intro T hT X
  rcases hr T hT X with ⟨v, st₀, t, T', L, h0, X', hL, e1, e2, ⟨⟨r, u, hv, hp, hb⟩, hF⟩, st⟩ | ⟨q, st₀, t, T', L, E, ce, h0, X', hL, e1, e2, ⟨u, hp, hb, hF⟩, hce, hcv, hcl, st⟩
  · cases hv
    obtain ⟨k1, k2, k3⟩ := vx_keep h0 e1 hS hA hf hL hF
    obtain ⟨t2, a1, b1⟩ := kk r u t T'.heap (locs ++ L) e1.symm (by rw [← e2]; exact X'.warmed.alike) hp hb k1 k2 k3 T' rfl X'
    exact ⟨t2, st t2 a1, b1⟩
  · obtain ⟨k1, k2, k3⟩ := vx_keep h0 e1 hS hAX hf hL hF
    obtain ⟨t2, a1, b1⟩ := kx E ce q u t T'.heap (locs ++ L) e1.symm (by rw [← e2]; exact X'.warmed.alike) hp hb k1 k2 k3 (by rw [e1]; exact hce) hcv hcl T' rfl X'
    exact ⟨t2, st.trans a1, b1⟩
theorem vx_callf {S SX : Type} {post : UInt32 → S → Prop} {px : SX → Prop} {B : S → State → Prop} {BX : String → SX → State → Prop} {AX : Nat → Prop} (hr : vx_Run p l e R s m args below meth c H locs cells slots mc ms (F0 m pc ls st0) rest (va_Qf post B A1 a) (vx_X px BX AX) free) (hS : va_S A0 H0 H locs) (hA : ∀ q, q < H.size → A1 q → A0 q) (hf : ∀ q, free q → A0 q) (hAX : ∀ q, q < H.size → AX q → A0 q)
    (kx : ∀ (E : String) (ce : Cell) (q9 : Addr) (u : SX) (t : State) (H1 : Heap) (locs1 : List Loc), t.heap = H1 → s.vm.Alike t.vm → px u → BX E u t → H.size ≤ H1.size → (∀ q : Nat, q < H.size → ¬ AX q → H1[q]? = H[q]?) → va_S A0 H0 H1 locs1 → H1[q9]? = some ce → ce.vm = .none → s.vm.findClass E = some ce.cls → vx_W p l e R s m args below meth c H1 locs1 (cells + mc) (slots + ms) Q (F0 m pc ls rest) q9)
    (kk : ∀ (r : UInt32) (u : S) (t : State) (H1 : Heap) (locs1 : List Loc), t.heap = H1 → s.vm.Alike t.vm → post r u → B u t → H.size ≤ H1.size → (∀ q : Nat, q < H.size → ¬ A1 q → H1[q]? = H[q]?) → va_S A0 H0 H1 locs1 → W p l e R s m args below meth c H1 locs1 (cells + mc) (slots + ms) Q (F0 m (pc + 3) ls (.float r :: rest))) : W p l e R s m args below meth c H locs cells slots Q (F0 m pc ls st0) := by
  intro T hT X
  rcases hr T hT X with ⟨v, st₀, t, T', L, h0, X', hL, e1, e2, ⟨⟨r, u, hv, hp, hb⟩, hF⟩, st⟩ | ⟨q, st₀, t, T', L, E, ce, h0, X', hL, e1, e2, ⟨u, hp, hb, hF⟩, hce, hcv, hcl, st⟩
  · cases hv
    obtain ⟨k1, k2, k3⟩ := vx_keep h0 e1 hS hA hf hL hF
    obtain ⟨t2, a1, b1⟩ := kk r u t T'.heap (locs ++ L) e1.symm (by rw [← e2]; exact X'.warmed.alike) hp hb k1 k2 k3 T' rfl X'
    exact ⟨t2, st t2 a1, b1⟩
  · obtain ⟨k1, k2, k3⟩ := vx_keep h0 e1 hS hAX hf hL hF
    obtain ⟨t2, a1, b1⟩ := kx E ce q u t T'.heap (locs ++ L) e1.symm (by rw [← e2]; exact X'.warmed.alike) hp hb k1 k2 k3 (by rw [e1]; exact hce) hcv hcl T' rfl X'
    exact ⟨t2, st.trans a1, b1⟩
theorem vx_calld {S SX : Type} {post : UInt64 → S → Prop} {px : SX → Prop} {B : S → State → Prop} {BX : String → SX → State → Prop} {AX : Nat → Prop} (hr : vx_Run p l e R s m args below meth c H locs cells slots mc ms (F0 m pc ls st0) rest (va_Qd post B A1 a) (vx_X px BX AX) free) (hS : va_S A0 H0 H locs) (hA : ∀ q, q < H.size → A1 q → A0 q) (hf : ∀ q, free q → A0 q) (hAX : ∀ q, q < H.size → AX q → A0 q)
    (kx : ∀ (E : String) (ce : Cell) (q9 : Addr) (u : SX) (t : State) (H1 : Heap) (locs1 : List Loc), t.heap = H1 → s.vm.Alike t.vm → px u → BX E u t → H.size ≤ H1.size → (∀ q : Nat, q < H.size → ¬ AX q → H1[q]? = H[q]?) → va_S A0 H0 H1 locs1 → H1[q9]? = some ce → ce.vm = .none → s.vm.findClass E = some ce.cls → vx_W p l e R s m args below meth c H1 locs1 (cells + mc) (slots + ms) Q (F0 m pc ls rest) q9)
    (kk : ∀ (r : UInt64) (u : S) (t : State) (H1 : Heap) (locs1 : List Loc), t.heap = H1 → s.vm.Alike t.vm → post r u → B u t → H.size ≤ H1.size → (∀ q : Nat, q < H.size → ¬ A1 q → H1[q]? = H[q]?) → va_S A0 H0 H1 locs1 → W p l e R s m args below meth c H1 locs1 (cells + mc) (slots + ms) Q (F0 m (pc + 3) ls (.double r :: rest))) : W p l e R s m args below meth c H locs cells slots Q (F0 m pc ls st0) := by
  intro T hT X
  rcases hr T hT X with ⟨v, st₀, t, T', L, h0, X', hL, e1, e2, ⟨⟨r, u, hv, hp, hb⟩, hF⟩, st⟩ | ⟨q, st₀, t, T', L, E, ce, h0, X', hL, e1, e2, ⟨u, hp, hb, hF⟩, hce, hcv, hcl, st⟩
  · cases hv
    obtain ⟨k1, k2, k3⟩ := vx_keep h0 e1 hS hA hf hL hF
    obtain ⟨t2, a1, b1⟩ := kk r u t T'.heap (locs ++ L) e1.symm (by rw [← e2]; exact X'.warmed.alike) hp hb k1 k2 k3 T' rfl X'
    exact ⟨t2, st t2 a1, b1⟩
  · obtain ⟨k1, k2, k3⟩ := vx_keep h0 e1 hS hAX hf hL hF
    obtain ⟨t2, a1, b1⟩ := kx E ce q u t T'.heap (locs ++ L) e1.symm (by rw [← e2]; exact X'.warmed.alike) hp hb k1 k2 k3 (by rw [e1]; exact hce) hcv hcl T' rfl X'
    exact ⟨t2, st.trans a1, b1⟩
theorem vx_callv {S SX : Type} {post : S → Prop} {px : SX → Prop} {B : S → State → Prop} {BX : String → SX → State → Prop} {AX : Nat → Prop} (hr : vx_Run p l e R s m args below meth c H locs cells slots mc ms (F0 m pc ls st0) rest (va_Qv post B A1 a) (vx_X px BX AX) free) (hS : va_S A0 H0 H locs) (hA : ∀ q, q < H.size → A1 q → A0 q) (hf : ∀ q, free q → A0 q) (hAX : ∀ q, q < H.size → AX q → A0 q)
    (kx : ∀ (E : String) (ce : Cell) (q9 : Addr) (u : SX) (t : State) (H1 : Heap) (locs1 : List Loc), t.heap = H1 → s.vm.Alike t.vm → px u → BX E u t → H.size ≤ H1.size → (∀ q : Nat, q < H.size → ¬ AX q → H1[q]? = H[q]?) → va_S A0 H0 H1 locs1 → H1[q9]? = some ce → ce.vm = .none → s.vm.findClass E = some ce.cls → vx_W p l e R s m args below meth c H1 locs1 (cells + mc) (slots + ms) Q (F0 m pc ls rest) q9)
    (kk : ∀ (u : S) (t : State) (H1 : Heap) (locs1 : List Loc), t.heap = H1 → s.vm.Alike t.vm → post u → B u t → H.size ≤ H1.size → (∀ q : Nat, q < H.size → ¬ A1 q → H1[q]? = H[q]?) → va_S A0 H0 H1 locs1 → W p l e R s m args below meth c H1 locs1 (cells + mc) (slots + ms) Q (F0 m (pc + 3) ls (rest))) : W p l e R s m args below meth c H locs cells slots Q (F0 m pc ls st0) := by
  intro T hT X
  rcases hr T hT X with ⟨v, st₀, t, T', L, h0, X', hL, e1, e2, ⟨⟨u, hv, hp, hb⟩, hF⟩, st⟩ | ⟨q, st₀, t, T', L, E, ce, h0, X', hL, e1, e2, ⟨u, hp, hb, hF⟩, hce, hcv, hcl, st⟩
  · cases hv
    obtain ⟨k1, k2, k3⟩ := vx_keep h0 e1 hS hA hf hL hF
    obtain ⟨t2, a1, b1⟩ := kk u t T'.heap (locs ++ L) e1.symm (by rw [← e2]; exact X'.warmed.alike) hp hb k1 k2 k3 T' rfl X'
    exact ⟨t2, st t2 a1, b1⟩
  · obtain ⟨k1, k2, k3⟩ := vx_keep h0 e1 hS hAX hf hL hF
    obtain ⟨t2, a1, b1⟩ := kx E ce q u t T'.heap (locs ++ L) e1.symm (by rw [← e2]; exact X'.warmed.alike) hp hb k1 k2 k3 (by rw [e1]; exact hce) hcv hcl T' rfl X'
    exact ⟨t2, st.trans a1, b1⟩
/-- caught by the row x of this method's table; the rows ahead don't take it -/
theorem vx_catch {own name : String} {E : String} {ce : Cell} {q : Addr} (hown : s.vm.findClass own = some m.cls) (pre : List ExceptionTableEntry) (x : ExceptionTableEntry) (suf : List ExceptionTableEntry) (hsplit : c.exceptionTable.toList = pre ++ x :: suf)
    (hpass : ∀ z ∈ pre, covers z pc = false ∨ (z.catchType ≠ 0 ∧ ∃ nm : String, (Cond.classLink own z.catchType nm).before args s = true ∧ va_Nc E nm s)) (hx : covers x pc = true) (h0 : x.catchType ≠ 0)
    (hlink : (Cond.classLink own x.catchType name).before args s = true) (hcast : (Cond.castable E name).before args s = true) (hcell : H[q]? = some ce) (hv : ce.vm = .none) (hcl : s.vm.findClass E = some ce.cls)
    (kk : W p l e R s m args below meth c H locs cells slots Q (F0 m x.handlerPc ls [.ref q])) : vx_W p l e R s m args below meth c H locs cells slots Q (F0 m pc ls rest) q := by
  intro T hT X
  have hpl : e.platform.magicAccessors = ({} : Platform).magicAccessors := by rw [X.admits.platform]
  obtain ⟨c3, c4, hc3, hc4, hasg⟩ := Cond.castable_spec hcast
  cases Option.some.inj (hc3.symm.trans hcl)
  obtain ⟨c5, hc5, hcl5⟩ := Cond.classLink_spec hown hlink e.platform hpl
  cases Option.some.inj (hc4.symm.trans hc5)
  obtain ⟨vm', X', st⟩ := X.thenCaughtThrough q (g := F0 m pc ls rest) rfl (Steps.refl _) (by rw [hT]; exact hcell) (by rw [hv]; rfl) (by obtain ⟨k9, h9, -⟩ := Vm.findClass_spec hcl; exact ⟨k9, h9⟩) pre x suf hsplit
    (fun z hz => by
      rcases hpass z hz with h | ⟨hz0, nm, hl1, hn1⟩
      · exact Or.inl h
      · obtain ⟨c6, hc6, hcl6⟩ := Cond.classLink_spec hown hl1 e.platform hpl
        obtain ⟨a8, b8, h1, h2, h3⟩ := hn1
        cases Option.some.inj (h1.symm.trans hcl)
        cases Option.some.inj (h2.symm.trans hc6)
        exact Or.inr ⟨hz0, _, hcl6, h3⟩) hx (Or.inr ⟨h0, c4, hcl5, hasg⟩)
  obtain ⟨t, a1, b1⟩ := kk (T.setVm vm') hT X'
  exact ⟨t, st.trans a1, b1⟩
end Rows
section Ends
variable {p : Program} {l : Launch} {e : Env} {R : Room} {s : State} {m : MethodId} {args : Array Value} {below : List Frame} {meth : Method} {c : Code} {H : Heap} {locs : List Loc} {cells slots : Nat} {Q : State → Prop}
variable {mc ms : Nat} {free : Addr → Prop} {A0 A1 : Nat → Prop} {H0 : Heap} {a : Array Value} {ls : Array Slot} {st0 rest : List Value}
variable {Qc : Array Value → State → Outcome → State → Prop} {XC : String → State → State → Prop}
/-- what a body that may throw owes at its end -/
def vx_MQ (below : List Frame) (Qc : Array Value → State → Outcome → State → Prop) (XC : String → State → State → Prop) (a : Array Value) (s : State) (mc ms : Nat) (free : Addr → Prop) : State → Prop := fun t =>
  ∃ o, t.status = .running ∧ Ended t below o ∧ vx_Q Qc XC mc ms free a s o t
theorem vx_ret {g : JFrame} {mc ms : Nat} (k : W p l e R s m args below meth c H locs cells slots (MQ below Qc args s mc ms free) g) : W p l e R s m args below meth c H locs cells slots (vx_MQ below Qc XC args s mc ms free) g := by
  intro T hT X
  obtain ⟨t, a1, o, b1, b2, b3, b4⟩ := k T hT X
  exact ⟨t, a1, o, b1, b2, Or.inl ⟨b3, b4⟩⟩
/-- not caught here: it goes on to the caller -/
theorem vx_widen {g : JFrame} {q : Addr} {k n : Nat} (h1 : cells ≤ k) (h2 : slots ≤ n) (kk : vx_W p l e R s m args below meth c H locs k n Q g q) : vx_W p l e R s m args below meth c H locs cells slots Q g q := fun T hT X => kk T hT (stand_widen X h1 h2)
theorem vx_out {pc : Nat} {E : String} {ce : Cell} {q : Addr} {mc ms : Nat} (hout : ∀ x ∈ c.exceptionTable.toList, covers x pc = false) (hlocks : meth.locks = false) (hcell : H[q]? = some ce) (hv : ce.vm = .none) (hcl : s.vm.findClass E = some ce.cls)
    (hx : ∀ t : State, t.heap = H → s.vm.Alike t.vm → XC E s t) (hf : ∀ z ∈ locs, free z.base) (hc : cells ≤ mc) (hs : slots ≤ ms) :
    vx_W p l e R s m args below meth c H locs cells slots (vx_MQ below Qc XC args s mc ms free) (F0 m pc ls rest) q := by
  intro T hT X
  obtain ⟨st1, hrun, hend, hW, hsm⟩ := X.leaveThrown q (g := F0 m pc ls rest) rfl rfl rfl hout hlocks
  have hcell9 : (T.setFrames (.throwing q :: below)).heap[q]? = some ce := by
    show T.heap[q]? = some ce
    rw [hT]; exact hcell
  exact ⟨_, st1, .threw q, hrun, hend, Or.inr ⟨q, rfl, E, ce, locs, hx _ hT hW.alike, hcell9, hv, hcl, hW, hsm.mono hc hs, hf⟩⟩
theorem vx_frame {U : State} {k n : Nat} (h : s.sameButNew ({ U with vm := s.vm } : State) locs k n) : s.heap.size ≤ U.heap.size ∧ ∀ q : Nat, q < s.heap.size → (∀ z ∈ locs, z.base ≠ q) → U.heap[q]? = s.heap[q]? := by
  obtain ⟨-, h2, -, -, -, h6⟩ := h
  refine ⟨h2, fun q hq hz => ?_⟩
  obtain ⟨c9, e1, e2, e3, e4⟩ := h6 q _ (Array.getElem?_eq_getElem hq)
  have hs : c9.slots = (s.heap[q]).slots := Array.ext_getElem? fun i => e4 i fun hm => hz _ hm rfl
  have h9 : c9 = s.heap[q] := by
    rw [hs] at e2
    exact e2
  have e5 : U.heap[q]? = some c9 := e1
  rw [e5, h9, Array.getElem?_eq_getElem hq]
/-- the words of a throw but the four that speak of the heap -/
def vx_no (w : Cond) : Bool := decide (w ≠ .isRef (.static Bundle.tN "UNASSIGNED_STACK" Bundle.steD)) && decide (w ≠ .isRef (.static Bundle.tN "SUPPRESSED_SENTINEL" Bundle.listD)) && decide (w ≠ .laysStatic Bundle.tN "UNASSIGNED_STACK" Bundle.steD) && decide (w ≠ .laysStatic Bundle.tN "SUPPRESSED_SENTINEL" Bundle.listD)
def vx_at0 (own : String) (ic : Nat) (X : String) (names : List String) : List Cond := (Bundle.ownAtoms0 own ic X names).filter vx_no
def vx_atS (own : String) (ic : Nat) (X : String) (names : List String) : List Cond := (Bundle.ownAtoms own ic X names).filter vx_no
/-- a word that the tables alone decide, or a good one -/
def vx_ot (w : Cond) : Bool := w.onTables || goodWord w
theorem vx_ot_at {args a' : Array Value} {s U : State} {w : Cond} (hW : s.WarmedH U.vm) (hvm : s.vm = U.vm) (hg : vx_ot w = true) (h : w.before args s = true) : w.before a' U = true := by
  simp only [vx_ot, Bool.or_eq_true] at hg
  rcases hg with hg | hg
  · exact va_tabs hg hvm h
  · exact word_at hW (good_of_word hg) h
/-- a list's words: the good ones out of the method's own list, the others by premises of their own -/
theorem vx_hat {args : Array Value} {s : State} {L B : List Cond} (h1 : ∀ w ∈ L.filter goodWord, w.before args s = true) (h2 : ∀ w ∈ L.filter (fun w => !goodWord w), w ∈ B) (h3 : ∀ w ∈ B, w.before args s = true) : ∀ w ∈ L, w.before args s = true := by
  intro w hw
  by_cases g : goodWord w = true
  · exact h1 w (List.mem_filter.mpr ⟨hw, g⟩)
  · refine h3 w (h2 w (List.mem_filter.mpr ⟨hw, ?_⟩))
    show (!goodWord w) = true
    cases hgw : goodWord w
    · rfl
    · exact absurd hgw g
theorem vx_c {args : Array Value} {s : State} {w : Cond} {B : List Cond} (h : w.before args s = true) (t : ∀ w ∈ B, w.before args s = true) : ∀ w' ∈ w :: B, w'.before args s = true := fun w' h' => (List.mem_cons.mp h').elim (fun e => by rw [e]; exact h) (t w')
theorem vx_n {args : Array Value} {s : State} : ∀ w ∈ ([] : List Cond), w.before args s = true := fun _ h => nomatch h
theorem vx_own {args : Array Value} {s : State} {L : List Cond} (h1 : ∀ w ∈ L.filter vx_no, w.before args s = true)
    (hU : (Cond.isRef (.static Bundle.tN "UNASSIGNED_STACK" Bundle.steD)).before args s = true) (hN : (Cond.isRef (.static Bundle.tN "SUPPRESSED_SENTINEL" Bundle.listD)).before args s = true)
    (lU : (Cond.laysStatic Bundle.tN "UNASSIGNED_STACK" Bundle.steD).before args s = true) (lN : (Cond.laysStatic Bundle.tN "SUPPRESSED_SENTINEL" Bundle.listD).before args s = true) : ∀ w ∈ L, w.before args s = true := by
  intro w hw
  by_cases e1 : w = .isRef (.static Bundle.tN "UNASSIGNED_STACK" Bundle.steD)
  · rw [e1]; exact hU
  · by_cases e2 : w = .isRef (.static Bundle.tN "SUPPRESSED_SENTINEL" Bundle.listD)
    · rw [e2]; exact hN
    · by_cases e3 : w = .laysStatic Bundle.tN "UNASSIGNED_STACK" Bundle.steD
      · rw [e3]; exact lU
      · by_cases e4 : w = .laysStatic Bundle.tN "SUPPRESSED_SENTINEL" Bundle.listD
        · rw [e4]; exact lN
        · exact h1 w (List.mem_filter.mpr ⟨hw, by unfold vx_no; rw [decide_eq_true e1, decide_eq_true e2, decide_eq_true e3, decide_eq_true e4]; rfl⟩)
/-- where a static field lies, its class's statics cell in H -/
def vx_L (C n d : String) (A : Nat → Prop) (U : State) (H : Heap) : Prop := ∃ (c : ClassId) (k : Class) (i : Nat) (f : Field) (a : Nat) (cell : Cell), U.vm.findClass C = some c ∧ U.fieldFound? C n d = some (c, k, i, f) ∧ f.isStatic = true ∧ k.statics = some a ∧ H[a]? = some cell ∧ cell.vm.isStatics = true ∧ cell.cls = c ∧ f.slot < cell.slots.size ∧ k.staticTypes[f.slot]? = some f.type ∧ ¬ A a
theorem vx_L.moved {C n d : String} {A : Nat → Prop} {u U : State} {H : Heap} (hvm : u.vm.Alike U.vm) (h : vx_L C n d A u H) : vx_L C n d A U H := by
  obtain ⟨c, k, i, f, a, cell, h1, h2, h3, h4, h5, h6, h7, h8, h9, h10⟩ := h
  obtain ⟨k', hi', he⟩ := State.fieldFound?_setVm hvm h2
  exact ⟨c, k', i, f, a, cell, by rw [hvm.findClass]; exact h1, hi', h3, by rw [he]; exact h4, h5, h6, h7, h8, by rw [he]; exact h9, h10⟩
theorem vx_L.kept {C n d : String} {A : Nat → Prop} {U : State} {H H1 : Heap} (h : vx_L C n d A U H) (hq : ∀ a : Nat, a < H.size → ¬ A a → H1[a]? = H[a]?) : vx_L C n d A U H1 := by
  obtain ⟨c, k, i, f, a, cell, h1, h2, h3, h4, h5, h6, h7, h8, h9, h10⟩ := h
  exact ⟨c, k, i, f, a, cell, h1, h2, h3, h4, by rw [hq a (Array.getElem?_eq_some_iff.mp h5).1 h10]; exact h5, h6, h7, h8, h9, h10⟩
theorem vx_L.narrow {C n d : String} {A B : Nat → Prop} {U : State} {H : Heap} (h : vx_L C n d A U H) (hAB : ∀ q, B q → A q) : vx_L C n d B U H := by
  obtain ⟨c, k, i, f, a, cell, h1, h2, h3, h4, h5, h6, h7, h8, h9, h10⟩ := h
  exact ⟨c, k, i, f, a, cell, h1, h2, h3, h4, h5, h6, h7, h8, h9, fun z => h10 (hAB _ z)⟩
theorem vx_L.word {C n d : String} {A : Nat → Prop} {s : State} {args : Array Value} (h : vx_L C n d A s s.heap) : (Cond.laysStatic C n d).before args s = true := by
  obtain ⟨c, k, i, f, a, cell, h1, h2, h3, h4, h5, h6, h7, h8, h9, -⟩ := h
  show (Cond.laysStatic C n d).holds args s none s [] = true
  exact Cond.laysStatic_of h1 h2 h3 h4 h5 h6 h7 h8 h9
/-- .. and what it holds: null or some reference -/
def vx_Zq (C n d : String) (A : Nat → Prop) (U : State) (H : Heap) : Prop := va_Zq C n d A U H ∧ vx_L C n d A U H
theorem vx_Zq.moved {C n d : String} {A : Nat → Prop} {u U : State} {H : Heap} (hvm : u.vm.Alike U.vm) (h : vx_Zq C n d A u H) : vx_Zq C n d A U H := ⟨va_Zq.moved hvm h.1, vx_L.moved hvm h.2⟩
theorem vx_Zq.kept {C n d : String} {A : Nat → Prop} {U : State} {H H1 : Heap} (h : vx_Zq C n d A U H) (hq : ∀ a : Nat, a < H.size → ¬ A a → H1[a]? = H[a]?) : vx_Zq C n d A U H1 := ⟨va_Zq.kept h.1 hq, vx_L.kept h.2 hq⟩
theorem vx_Zq.narrow {C n d : String} {A B : Nat → Prop} {U : State} {H : Heap} (h : vx_Zq C n d A U H) (hAB : ∀ q, B q → A q) : vx_Zq C n d B U H := ⟨va_Zq.narrow h.1 hAB, vx_L.narrow h.2 hAB⟩
theorem vx_Zqof {args : Array Value} {s : State} {C n d : String} {A : Nat → Prop} (hl : (Cond.laysStatic C n d).before args s = true) (hini : (Cond.initialized C).before args s = true) (h : (Cond.isRef (.static C n d)).before args s = true) (hA : ∀ a : Nat, a < s.heap.size → ¬ A a) : vx_Zq C n d A s s.heap := by
  refine ⟨va_Zqof hl hini h hA, ?_⟩
  obtain ⟨c, k, i, f, a, cell, h1, h2, h3, h4, h5, h6, h7, h8, h9⟩ := Cond.laysStatic_spec hl
  exact ⟨c, k, i, f, a, cell, h1, h2, h3, h4, h5, h6, h7, h8, h9, hA a (Array.getElem?_eq_some_iff.mp h5).1⟩
theorem vx_isRef {C n d : String} {v : Value} {A : Nat → Prop} {s : State} {args : Array Value} (h : va_Z C n d v A s s.heap) (hv : v.isRef = true) : (Cond.isRef (.static C n d)).before args s = true := by
  obtain ⟨cf, kf, fi, f, a, cell, h1, h2, h3, h4, h5, h6, h7, -⟩ := h
  have he : (Term.static C n d).eval args s none [] s = some v := by
    simp [Term.eval, State.fieldNamed?, h1, h2, h4, h5, h6, h7]
  simp only [Cond.before, Cond.holds, Cond.value, he]
  cases v <;> simp_all [Value.isRef]
theorem vx_isRefq {C n d : String} {A : Nat → Prop} {s : State} {args : Array Value} (h : va_Zq C n d A s s.heap) : (Cond.isRef (.static C n d)).before args s = true := by
  rcases h with h | ⟨t, h⟩
  · exact vx_isRef h rfl
  · exact vx_isRef h rfl
/-- the same frame, seen from here: as if the method were called anew in this heap -/
theorem vx_rebase {T : State} (X : Stand p l e R s m args below meth c T locs cells slots) {R' : Room} (hf : R'.frames ≤ R.frames) (hl : R'.locals ≤ R.locals) (hc : cells + R'.cells ≤ R.cells) (hs : slots + R'.slots ≤ R.slots) :
    Stand p l e R' ((T.setVm s.vm).setFrames (.invoking m args :: below)) m args below meth c T [] 0 0 := by
  have htop : (T.setVm s.vm).topJava?.isSome := X.here.top
  have hF : ((T.setVm s.vm).setFrames (.invoking m args :: below)).frames = .invoking m args :: below := State.frames_setFrames _ (State.cur_lt_of_top htop)
  obtain ⟨g₀, hg0⟩ := Option.isSome_iff_exists.mp htop
  obtain ⟨r, hr⟩ := State.topJava?_eq_some.mp hg0
  have hl9 : e.platform.stackLimits (T.setVm s.vm).me = e.platform.stackLimits s.me := X.limits
  have hb9 : (T.setVm s.vm).me.stackBytes = s.me.stackBytes := X.bytes
  refine ⟨X.admits, X.cas, X.clock, hF, ?_, X.hears, X.method, X.code, X.here, X.tail, X.warmed, ?_, ?_, ?_⟩
  · have h := X.room
    have hU : ((T.setVm s.vm).setFrames (.invoking m args :: below)).localsInUse = s.localsInUse := by
      rw [State.localsInUse_invoking hF (meth := meth) (c := c) X.method X.code, State.localsInUse_invoking X.frames X.method X.code]
    simp only [State.hasRoom, Bool.and_eq_true, decide_eq_true_eq] at h ⊢
    obtain ⟨⟨⟨⟨h1, h2, h3, h4, h5, h6⟩, h7⟩, h8⟩, h9⟩ := h
    rw [X.frames, List.length_cons] at h2 h3
    have q1 := X.heapSize
    have q2 := X.used
    simp only [hF, hU, List.length_cons, State.stackLimits_setFrames, State.stackBytes_setFrames, hl9, hb9]
    refine ⟨⟨⟨⟨by omega, by omega, by omega, by omega, by omega, h6⟩, ?_⟩, ?_⟩, X.book⟩
    · show T.heap.size + R'.cells ≤ e.platform.maxCells
      omega
    · show T.slotsUsed + R'.slots ≤ e.platform.maxSlots
      omega
  · rw [State.stackLimits_setFrames]; rfl
  · rw [State.stackBytes_setFrames]; rfl
  · refine ⟨?_, Nat.le_refl _, Nat.le_refl _, ?_, ?_, fun a c9 h9 => ⟨c9, h9, rfl, rfl, fun _ _ => rfl⟩⟩
    · obtain ⟨t, ht, -⟩ := State.frames_cons hr
      show T.setVm s.vm = { ((T.setVm s.vm).setFrames (.invoking m args :: below)).setFrames (T.setVm s.vm).frames with heap := T.heap, slotsUsed := T.slotsUsed }
      rw [State.setFrames_setFrames, State.setFrames_self ht]
      rfl
    · show T.slotsUsed = T.slotsUsed + ((T.heap.toList.drop T.heap.size).map (·.slots.size)).sum
      rw [List.drop_eq_nil_of_le (Nat.le_of_eq Array.length_toList)]
      rfl
    · show ((T.heap.toList.drop T.heap.size).map (·.slots.size)).sum ≤ 0
      rw [List.drop_eq_nil_of_le (Nat.le_of_eq Array.length_toList)]
      exact Nat.le_refl _
/-- 'throw new E()': new; dup; invokespecial; athrow -/
theorem vx_throw0 {cc : ByteArray} {pc : Nat} (hexec : p.tables.exec = Jvm.exec) (hb : c.code = cc) (hl : l.stackTraces = false) {own cls : String} {names : List String} {ik ic mc ms : Nat} {A : Nat → Prop}
    (hown : s.vm.findClass own = some m.cls) (hcls : Bundle.fit cls = true) (hnames : ∀ n ∈ names, Bundle.fit n = true)
    (hk : (Cond.classLink own ik cls).before args s = true) (hini : (Cond.initialized cls).before args s = true) (hat : ∀ w ∈ vx_at0 own ic cls names, w.before args s = true)
    (hgood : ∀ w ∈ Cond.classLink own ik cls :: Cond.initialized cls :: vx_at0 own ic cls names, vx_ot w = true)
    (hU : vx_Zq Bundle.tN "UNASSIGNED_STACK" Bundle.steD A s s.heap) (hN : vx_Zq Bundle.tN "SUPPRESSED_SENTINEL" Bundle.listD A s s.heap) (hS : va_S A s.heap H locs) (hsize : ls.size = c.maxLocals)
    (d0 : decode cc pc = .ok (.new ik, 3)) (d3 : decode cc (pc + 3) = .ok (.dup, 1)) (d4 : decode cc (pc + 4) = .ok (.invokespecial ic, 3)) (d7 : decode cc (pc + 7) = .ok (.athrow, 1))
    (hout : ∀ x ∈ c.exceptionTable.toList, covers x (pc + 7) = false)
    (hRframes : names.length + 3 < R.frames) (hRlocals : (rest.map fun v => v.category).sum + (13 * (names.length + 1) + 42) ≤ R.locals) (hRcells : cells + 1 ≤ R.cells) (hRslots : slots + 6 ≤ R.slots) (hlocks : meth.locks = false)
    (hx : ∀ t : State, s.vm.Alike t.vm → H.size ≤ t.heap.size → (∀ q : Nat, q < H.size → t.heap[q]? = H[q]?) → XC cls s t)
    (hf : ∀ z ∈ locs, free z.base) (hc : cells + 1 ≤ mc) (hs : slots + 6 ≤ ms) :
    W p l e R s m args below meth c H locs cells slots (vx_MQ below Qc XC args s mc ms free) (F0 m pc ls rest) := by
  intro T hT X
  have htr : e.platform.stackTraces = false := (show e.platform.stackTraces = l.stackTraces by rw [X.admits.platform]).trans hl
  have Y := vx_rebase X (R' := { frames := R.frames, locals := R.locals, cells := 1, slots := 6 }) (Nat.le_refl _) (Nat.le_refl _) hRcells hRslots
  obtain ⟨s', hA⟩ : ∃ z, z = (T.setVm s.vm).setFrames (.invoking m args :: below) := ⟨_, rfl⟩
  rw [← hA] at Y
  have hvm : s'.vm = s.vm := by rw [hA]; rfl
  have hhp : s'.heap = H := by rw [hA]; exact hT
  have hW0 : s.WarmedH s'.vm := by rw [hvm]; exact State.WarmedH.refl s
  have hat' : ∀ w ∈ vx_at0 own ic cls names, w.before args s' = true := fun w hw => vx_ot_at hW0 hvm.symm (hgood w (List.mem_cons_of_mem _ (List.mem_cons_of_mem _ hw))) (hat w hw)
  have hk' : (Cond.classLink own ik cls).before args s' = true := vx_ot_at hW0 hvm.symm (hgood _ List.mem_cons_self) hk
  have hini' : (Cond.initialized cls).before args s' = true := vx_ot_at hW0 hvm.symm (hgood _ (List.mem_cons_of_mem _ List.mem_cons_self)) hini
  have hU' : vx_Zq Bundle.tN "UNASSIGNED_STACK" Bundle.steD A s' s'.heap := by rw [hhp]; exact vx_Zq.moved hW0.alike (hU.kept hS.2.1)
  have hN' : vx_Zq Bundle.tN "SUPPRESSED_SENTINEL" Bundle.listD A s' s'.heap := by rw [hhp]; exact vx_Zq.moved hW0.alike (hN.kept hS.2.1)
  have h : ∀ w ∈ Bundle.ownAtoms0 own ic cls names, w.before args s' = true := vx_own hat' (vx_isRefq hU'.1) (vx_isRefq hN'.1) hU'.2.word hN'.2.word
  have hown' : s'.vm.findClass own = some m.cls := by rw [hvm]; exact hown
  have hins : (Cond.instantiable cls 6).before args s' = true := h _ (by simp [Bundle.ownAtoms0])
  obtain ⟨vm₁, cX, kX, hfX, hkX, -, -, X₁, st1⟩ := Y.newCold hexec (own := own) (C := cls) (index := ik) (n := 6) hown' hk' hins hini'
    (g := F0 m pc ls rest) rfl (by rw [hb]; exact d0) (Nat.le_refl _) (Nat.le_refl _)
  generalize hT1 : (T.setVm vm₁).pushCell { cls := cX, slots := kX.instanceTypes.map defaultValue, vm := .none } = T1 at X₁ st1
  have hcat : (Value.ref T.heap.size).category = 1 := rfl
  have hcellA : T1.heap[T.heap.size]? = some (freshCell cX kX) := by rw [← hT1]; exact State.heap_pushCell_size _ _
  have d3' : decode c.code (pc + 3) = .ok (.dup, 1) := by rw [hb]; exact d3
  obtain ⟨U, hsteps, hrun, hend, hW, hsame, ce, hce, hO⟩ := X₁.ctorThrow0 hexec htr (own := own) (cls := cls) (names := names) (ic := ic) hown' hcls hnames h (fun x hx => nomatch hx) hfX hkX hcellA (by rw [hhp, hT]; exact Nat.le_refl _)
    (g := { method := m, pc := pc + 4, locals := ls, stack := .ref T.heap.size :: .ref T.heap.size :: rest, locked := none }) rfl hsize rfl rfl (rest := rest) rfl
    (by rw [hb]; exact d4) (by rw [hb]; exact d7) hout hRframes (by simp only [List.map_cons, List.sum_cons, hcat]; omega) hlocks
  obtain ⟨f1, f2⟩ := vx_frame hsame
  rw [hhp] at f1 f2
  have hWs : s.WarmedH U.vm := State.WarmedH.trans hW0 hW
  have hcl : s.vm.findClass cls = some ce.cls := by
    have h9 := hO.cls
    rw [hvm] at h9
    exact h9
  have hall : s.sameButNew ({ U with vm := s.vm } : State) locs mc ms := by
    subst hA
    obtain ⟨e1, e2⟩ := hsame
    rw [State.setFrames_setFrames] at e1
    have h2 : (T.setVm s.vm).sameButNew ({ U with vm := s.vm } : State) [] (0 + 1) (0 + 6) := ⟨e1, e2⟩
    have h3 := X.same.trans h2
    rw [List.append_nil] at h3
    exact h3.mono hc hs
  refine ⟨U, ?_, .threw T.heap.size, hrun, hend, Or.inr ⟨T.heap.size, rfl, cls, ce, locs, hx U hWs.alike f1 (fun q hq => f2 q hq (fun z hz => nomatch hz)), hce, hO.vm, hcl, hWs, hall, hf⟩⟩
  refine st1 _ ?_
  show Steps p.tables e below (T1.setTop { method := m, pc := pc + 3, locals := ls, stack := .ref T.heap.size :: rest, locked := none }) _
  jvm_step X₁.here [X₁.here.top, hexec, d3', Value.category]
  exact hsteps
/-- 'throw new E("text")': new; dup; ldc; invokespecial; athrow -/
theorem vx_throwS {cc : ByteArray} {pc : Nat} (hexec : p.tables.exec = Jvm.exec) (hb : c.code = cc) (hl : l.stackTraces = false) {own cls text : String} {names : List String} {ik is ic mc ms sa : Nat} {A : Nat → Prop}
    (hown : s.vm.findClass own = some m.cls) (hcls : Bundle.fit cls = true) (hnames : ∀ n ∈ names, Bundle.fit n = true)
    (hk : (Cond.classLink own ik cls).before args s = true) (hini : (Cond.initialized cls).before args s = true) (hstr : vk_R own is text sa s) (hat : ∀ w ∈ vx_atS own ic cls names, w.before args s = true)
    (hgood : ∀ w ∈ Cond.classLink own ik cls :: Cond.initialized cls :: vx_atS own ic cls names, vx_ot w = true)
    (hU : vx_Zq Bundle.tN "UNASSIGNED_STACK" Bundle.steD A s s.heap) (hN : vx_Zq Bundle.tN "SUPPRESSED_SENTINEL" Bundle.listD A s s.heap) (hS : va_S A s.heap H locs) (hsize : ls.size = c.maxLocals)
    (d0 : decode cc pc = .ok (.new ik, 3)) (d3 : decode cc (pc + 3) = .ok (.dup, 1)) (d4 : decode cc (pc + 4) = .ok (.ldc is, 2)) (d6 : decode cc (pc + 6) = .ok (.invokespecial ic, 3)) (d9 : decode cc (pc + 9) = .ok (.athrow, 1))
    (hout : ∀ x ∈ c.exceptionTable.toList, covers x (pc + 9) = false)
    (hRframes : names.length + 3 < R.frames) (hRlocals : (rest.map fun v => v.category).sum + (13 * (names.length + 1) + 43) ≤ R.locals) (hRcells : cells + 1 ≤ R.cells) (hRslots : slots + 6 ≤ R.slots) (hlocks : meth.locks = false)
    (hx : ∀ t : State, s.vm.Alike t.vm → H.size ≤ t.heap.size → (∀ q : Nat, q < H.size → t.heap[q]? = H[q]?) → XC cls s t)
    (hf : ∀ z ∈ locs, free z.base) (hc : cells + 1 ≤ mc) (hs : slots + 6 ≤ ms) :
    W p l e R s m args below meth c H locs cells slots (vx_MQ below Qc XC args s mc ms free) (F0 m pc ls rest) := by
  intro T hT X
  have htr : e.platform.stackTraces = false := (show e.platform.stackTraces = l.stackTraces by rw [X.admits.platform]).trans hl
  have Y := vx_rebase X (R' := { frames := R.frames, locals := R.locals, cells := 1, slots := 6 }) (Nat.le_refl _) (Nat.le_refl _) hRcells hRslots
  obtain ⟨s', hA⟩ : ∃ z, z = (T.setVm s.vm).setFrames (.invoking m args :: below) := ⟨_, rfl⟩
  rw [← hA] at Y
  have hvm : s'.vm = s.vm := by rw [hA]; rfl
  have hhp : s'.heap = H := by rw [hA]; exact hT
  have hW0 : s.WarmedH s'.vm := by rw [hvm]; exact State.WarmedH.refl s
  have hat' : ∀ w ∈ vx_atS own ic cls names, w.before args s' = true := fun w hw => vx_ot_at hW0 hvm.symm (hgood w (List.mem_cons_of_mem _ (List.mem_cons_of_mem _ hw))) (hat w hw)
  have hk' : (Cond.classLink own ik cls).before args s' = true := vx_ot_at hW0 hvm.symm (hgood _ List.mem_cons_self) hk
  have hini' : (Cond.initialized cls).before args s' = true := vx_ot_at hW0 hvm.symm (hgood _ (List.mem_cons_of_mem _ List.mem_cons_self)) hini
  have hU' : vx_Zq Bundle.tN "UNASSIGNED_STACK" Bundle.steD A s' s'.heap := by rw [hhp]; exact vx_Zq.moved hW0.alike (hU.kept hS.2.1)
  have hN' : vx_Zq Bundle.tN "SUPPRESSED_SENTINEL" Bundle.listD A s' s'.heap := by rw [hhp]; exact vx_Zq.moved hW0.alike (hN.kept hS.2.1)
  have h : ∀ w ∈ Bundle.ownAtoms own ic cls names, w.before args s' = true := vx_own hat' (vx_isRefq hU'.1) (vx_isRefq hN'.1) hU'.2.word hN'.2.word
  have hown' : s'.vm.findClass own = some m.cls := by rw [hvm]; exact hown
  have hins : (Cond.instantiable cls 6).before args s' = true := h _ (by simp [Bundle.ownAtoms])
  obtain ⟨vm₁, cX, kX, hfX, hkX, -, -, X₁, st1⟩ := Y.newCold hexec (own := own) (C := cls) (index := ik) (n := 6) hown' hk' hins hini'
    (g := F0 m pc ls rest) rfl (by rw [hb]; exact d0) (Nat.le_refl _) (Nat.le_refl _)
  generalize hT1 : (T.setVm vm₁).pushCell { cls := cX, slots := kX.instanceTypes.map defaultValue, vm := .none } = T1 at X₁ st1
  have hcat : (Value.ref T.heap.size).category = 1 := rfl
  have hcellA : T1.heap[T.heap.size]? = some (freshCell cX kX) := by rw [← hT1]; exact State.heap_pushCell_size _ _
  have d3' : decode c.code (pc + 3) = .ok (.dup, 1) := by rw [hb]; exact d3
  have d4' : decode c.code (pc + 4) = .ok (.ldc is, 2) := by rw [hb]; exact d4
  have hstr' : vk_R own is text sa s' := vk_R.warm hW0 hstr
  obtain ⟨U, hsteps, hrun, hend, hW, hsame, ce, hce, hO⟩ := X₁.ctorThrowS hexec htr (own := own) (cls := cls) (names := names) (ic := ic) hown' hcls hnames h (fun x hx => nomatch hx) hfX hkX hcellA (by rw [hhp, hT]; exact Nat.le_refl _) (msg := .ref sa) rfl
    (g := { method := m, pc := pc + 6, locals := ls, stack := .ref sa :: .ref T.heap.size :: .ref T.heap.size :: rest, locked := none }) rfl hsize rfl rfl (rest := rest) rfl
    (by rw [hb]; exact d6) (by rw [hb]; exact d9) hout hRframes (by simp only [List.map_cons, List.sum_cons, hcat]; omega) hlocks
  obtain ⟨f1, f2⟩ := vx_frame hsame
  rw [hhp] at f1 f2
  have hWs : s.WarmedH U.vm := State.WarmedH.trans hW0 hW
  have hcl : s.vm.findClass cls = some ce.cls := by
    have h9 := hO.cls
    rw [hvm] at h9
    exact h9
  have hall : s.sameButNew ({ U with vm := s.vm } : State) locs mc ms := by
    subst hA
    obtain ⟨e1, e2⟩ := hsame
    rw [State.setFrames_setFrames] at e1
    have h2 : (T.setVm s.vm).sameButNew ({ U with vm := s.vm } : State) [] (0 + 1) (0 + 6) := ⟨e1, e2⟩
    have h3 := X.same.trans h2
    rw [List.append_nil] at h3
    exact h3.mono hc hs
  refine ⟨U, ?_, .threw T.heap.size, hrun, hend, Or.inr ⟨T.heap.size, rfl, cls, ce, locs, hx U hWs.alike f1 (fun q hq => f2 q hq (fun z hz => nomatch hz)), hce, hO.vm, hcl, hWs, hall, hf⟩⟩
  refine st1 _ ?_
  show Steps p.tables e below (T1.setTop { method := m, pc := pc + 3, locals := ls, stack := .ref T.heap.size :: rest, locked := none }) _
  jvm_step X₁.here [X₁.here.top, hexec, d3', Value.category]
  exact X₁.ldcString hexec (own := own) (text := text) (index := is) (a := sa) hown' hstr'.1 hstr'.2
    (g := { method := m, pc := pc + 4, locals := ls, stack := .ref T.heap.size :: .ref T.heap.size :: rest, locked := none }) rfl d4' _ hsteps
/-- 'throw new E("text")', the text by a wide index -/
theorem vx_throwSW {cc : ByteArray} {pc : Nat} (hexec : p.tables.exec = Jvm.exec) (hb : c.code = cc) (hl : l.stackTraces = false) {own cls text : String} {names : List String} {ik is ic mc ms sa : Nat} {A : Nat → Prop}
    (hown : s.vm.findClass own = some m.cls) (hcls : Bundle.fit cls = true) (hnames : ∀ n ∈ names, Bundle.fit n = true)
    (hk : (Cond.classLink own ik cls).before args s = true) (hini : (Cond.initialized cls).before args s = true) (hstr : vk_R own is text sa s) (hat : ∀ w ∈ vx_atS own ic cls names, w.before args s = true)
    (hgood : ∀ w ∈ Cond.classLink own ik cls :: Cond.initialized cls :: vx_atS own ic cls names, vx_ot w = true)
    (hU : vx_Zq Bundle.tN "UNASSIGNED_STACK" Bundle.steD A s s.heap) (hN : vx_Zq Bundle.tN "SUPPRESSED_SENTINEL" Bundle.listD A s s.heap) (hS : va_S A s.heap H locs) (hsize : ls.size = c.maxLocals)
    (d0 : decode cc pc = .ok (.new ik, 3)) (d3 : decode cc (pc + 3) = .ok (.dup, 1)) (d4 : decode cc (pc + 4) = .ok (.ldc_w is, 3)) (d7 : decode cc (pc + 7) = .ok (.invokespecial ic, 3)) (d10 : decode cc (pc + 10) = .ok (.athrow, 1))
    (hout : ∀ x ∈ c.exceptionTable.toList, covers x (pc + 10) = false)
    (hRframes : names.length + 3 < R.frames) (hRlocals : (rest.map fun v => v.category).sum + (13 * (names.length + 1) + 43) ≤ R.locals) (hRcells : cells + 1 ≤ R.cells) (hRslots : slots + 6 ≤ R.slots) (hlocks : meth.locks = false)
    (hx : ∀ t : State, s.vm.Alike t.vm → H.size ≤ t.heap.size → (∀ q : Nat, q < H.size → t.heap[q]? = H[q]?) → XC cls s t)
    (hf : ∀ z ∈ locs, free z.base) (hc : cells + 1 ≤ mc) (hs : slots + 6 ≤ ms) :
    W p l e R s m args below meth c H locs cells slots (vx_MQ below Qc XC args s mc ms free) (F0 m pc ls rest) := by
  intro T hT X
  have htr : e.platform.stackTraces = false := (show e.platform.stackTraces = l.stackTraces by rw [X.admits.platform]).trans hl
  have Y := vx_rebase X (R' := { frames := R.frames, locals := R.locals, cells := 1, slots := 6 }) (Nat.le_refl _) (Nat.le_refl _) hRcells hRslots
  obtain ⟨s', hA⟩ : ∃ z, z = (T.setVm s.vm).setFrames (.invoking m args :: below) := ⟨_, rfl⟩
  rw [← hA] at Y
  have hvm : s'.vm = s.vm := by rw [hA]; rfl
  have hhp : s'.heap = H := by rw [hA]; exact hT
  have hW0 : s.WarmedH s'.vm := by rw [hvm]; exact State.WarmedH.refl s
  have hat' : ∀ w ∈ vx_atS own ic cls names, w.before args s' = true := fun w hw => vx_ot_at hW0 hvm.symm (hgood w (List.mem_cons_of_mem _ (List.mem_cons_of_mem _ hw))) (hat w hw)
  have hk' : (Cond.classLink own ik cls).before args s' = true := vx_ot_at hW0 hvm.symm (hgood _ List.mem_cons_self) hk
  have hini' : (Cond.initialized cls).before args s' = true := vx_ot_at hW0 hvm.symm (hgood _ (List.mem_cons_of_mem _ List.mem_cons_self)) hini
  have hU' : vx_Zq Bundle.tN "UNASSIGNED_STACK" Bundle.steD A s' s'.heap := by rw [hhp]; exact vx_Zq.moved hW0.alike (hU.kept hS.2.1)
  have hN' : vx_Zq Bundle.tN "SUPPRESSED_SENTINEL" Bundle.listD A s' s'.heap := by rw [hhp]; exact vx_Zq.moved hW0.alike (hN.kept hS.2.1)
  have h : ∀ w ∈ Bundle.ownAtoms own ic cls names, w.before args s' = true := vx_own hat' (vx_isRefq hU'.1) (vx_isRefq hN'.1) hU'.2.word hN'.2.word
  have hown' : s'.vm.findClass own = some m.cls := by rw [hvm]; exact hown
  have hins : (Cond.instantiable cls 6).before args s' = true := h _ (by simp [Bundle.ownAtoms])
  obtain ⟨vm₁, cX, kX, hfX, hkX, -, -, X₁, st1⟩ := Y.newCold hexec (own := own) (C := cls) (index := ik) (n := 6) hown' hk' hins hini'
    (g := F0 m pc ls rest) rfl (by rw [hb]; exact d0) (Nat.le_refl _) (Nat.le_refl _)
  generalize hT1 : (T.setVm vm₁).pushCell { cls := cX, slots := kX.instanceTypes.map defaultValue, vm := .none } = T1 at X₁ st1
  have hcat : (Value.ref T.heap.size).category = 1 := rfl
  have hcellA : T1.heap[T.heap.size]? = some (freshCell cX kX) := by rw [← hT1]; exact State.heap_pushCell_size _ _
  have d3' : decode c.code (pc + 3) = .ok (.dup, 1) := by rw [hb]; exact d3
  have d4' : decode c.code (pc + 4) = .ok (.ldc_w is, 3) := by rw [hb]; exact d4
  have hstr' : vk_R own is text sa s' := vk_R.warm hW0 hstr
  obtain ⟨U, hsteps, hrun, hend, hW, hsame, ce, hce, hO⟩ := X₁.ctorThrowS hexec htr (own := own) (cls := cls) (names := names) (ic := ic) hown' hcls hnames h (fun x hx => nomatch hx) hfX hkX hcellA (by rw [hhp, hT]; exact Nat.le_refl _) (msg := .ref sa) rfl
    (g := { method := m, pc := pc + 7, locals := ls, stack := .ref sa :: .ref T.heap.size :: .ref T.heap.size :: rest, locked := none }) rfl hsize rfl rfl (rest := rest) rfl
    (by rw [hb]; exact d7) (by rw [hb]; exact d10) hout hRframes (by simp only [List.map_cons, List.sum_cons, hcat]; omega) hlocks
  obtain ⟨f1, f2⟩ := vx_frame hsame
  rw [hhp] at f1 f2
  have hWs : s.WarmedH U.vm := State.WarmedH.trans hW0 hW
  have hcl : s.vm.findClass cls = some ce.cls := by
    have h9 := hO.cls
    rw [hvm] at h9
    exact h9
  have hall : s.sameButNew ({ U with vm := s.vm } : State) locs mc ms := by
    subst hA
    obtain ⟨e1, e2⟩ := hsame
    rw [State.setFrames_setFrames] at e1
    have h2 : (T.setVm s.vm).sameButNew ({ U with vm := s.vm } : State) [] (0 + 1) (0 + 6) := ⟨e1, e2⟩
    have h3 := X.same.trans h2
    rw [List.append_nil] at h3
    exact h3.mono hc hs
  refine ⟨U, ?_, .threw T.heap.size, hrun, hend, Or.inr ⟨T.heap.size, rfl, cls, ce, locs, hx U hWs.alike f1 (fun q hq => f2 q hq (fun z hz => nomatch hz)), hce, hO.vm, hcl, hWs, hall, hf⟩⟩
  refine st1 _ ?_
  show Steps p.tables e below (T1.setTop { method := m, pc := pc + 3, locals := ls, stack := .ref T.heap.size :: rest, locked := none }) _
  jvm_step X₁.here [X₁.here.top, hexec, d3', Value.category]
  exact X₁.ldcStringW hexec (own := own) (text := text) (index := is) (a := sa) hown' hstr'.1 hstr'.2
    (g := { method := m, pc := pc + 4, locals := ls, stack := .ref T.heap.size :: .ref T.heap.size :: rest, locked := none }) rfl d4' _ hsteps
end Ends
section Bodies
variable {l : Launch}
theorem vx_ofW {y : MethodName} {ws ws' : List Cond} {rm : Room} {Pc : Array Value → State → Prop} {Qc : Array Value → State → Outcome → State → Prop} {XC : String → State → State → Prop} {mc ms : Nat} {free : Addr → Prop} {cc : ByteArray} {maxL : Nat} {ret : Option FieldType}
    (hy : plainName y.cls = true) (hw : ws = Cond.code y cc maxL ret :: ws')
    (body : ∀ p e s m args below meth c s₁, BodyLoose p l y (headSpec ws rm) cc maxL ret e s m args below meth c s₁ → c.maxLocals = maxL → (∀ x ∈ c.exceptionTable.toList, False) → Pc args s →
      W p l e (headSpec ws rm).room s m args below meth c s.heap [] 0 0 (vx_MQ below Qc XC args s mc ms free) (entryFrame m args maxL)) : vx_Met l y ws rm Pc Qc XC mc ms free := by
  refine MetFree.of_bodyS (code := cc) (maxLocals := maxL) (ret := ret) hy ?_ ?_
  · intro args s m h hn
    obtain ⟨meth, c, h1, h2, h3, h4, h5, h6, -, -⟩ := Cond.code_spec hn (atoms_spec (ws := ws) h _ (by rw [hw]; exact List.mem_cons_self))
    exact ⟨meth, c, h1, h2, h3, h4, h5, h6⟩
  · intro p e s m args below meth c s₁ B hml hP _
    have hh0 : s₁.heap = s.heap := by rw [B.state]; rfl
    have ht : ∀ x ∈ c.exceptionTable.toList, False := by
      obtain ⟨meth9, c9, h1, h2, -, -, -, -, h7, -⟩ := Cond.code_spec B.named (atoms_spec (ws := ws) B.pre _ (by rw [hw]; exact List.mem_cons_self))
      cases Option.some.inj (h1.symm.trans B.method)
      cases Option.some.inj (h2.symm.trans (Stand.of_body B).code)
      intro x hx
      rw [Array.isEmpty_iff.mp h7] at hx
      cases hx
    obtain ⟨t, a1, o, b1, b2, b3⟩ := body p e s m args below meth c s₁ B hml ht hP s₁ hh0 (Stand.of_body B)
    exact ⟨t, o, a1, b1, b2, b3⟩
/-- the table of a body with handlers -/
theorem vx_table {p : Program} {x y : MethodName} {S : Spec} {cc bytes : ByteArray} {maxL maxL' : Nat} {ret ret' : Option FieldType} {e : Env} {s s₁ : State} {m : MethodId} {args : Array Value} {below : List Frame} {meth : Method} {c : Code} {hh : List (Nat × Nat × Nat × Nat)}
    (B : BodyLoose p l y S cc maxL ret e s m args below meth c s₁) (h : (Cond.codeWith y bytes maxL' ret' hh).before args s = true) : c.exceptionTable.toList = tableOf hh := by
  obtain ⟨m9, meth9, c9, hn9, h1, h2, -, -, h6, -⟩ := Cond.codeWith_spec h
  cases Option.some.inj (hn9.symm.trans B.named)
  cases Option.some.inj (h1.symm.trans B.method)
  cases Option.some.inj (h2.symm.trans (Stand.of_body B).code)
  rw [← h6, table_eq]
end Bodies
end VXA
/-! ===== END ===== -/
/-! ===== BEGIN a static call of a method with an exception table ===== -/
section VXS
variable {p : Program} {l : Launch} {e : Env} {R : Room} {s : State} {m : MethodId} {args : Array Value} {below : List Frame} {meth : Method} {c : Code} {T : State} {H : Heap} {locs : List Loc} {cells slots : Nat}
abbrev vx_CSW (R : Room) (s : State) (args : Array Value) (own : String) (index : Nat) (y : MethodName) (bytes : ByteArray) (maxL : Nat) (ret : Option FieldType) (hh : List (Nat × Nat × Nat × Nat)) (ws : List Cond) (rm : Room) (mc ms n : Nat) : Prop :=
  (rm.cells = mc ∧ rm.slots = ms ∧ rm.frames + 1 ≤ R.frames ∧ 8 + (maxL + 11) + rm.locals ≤ R.locals ∧ (∀ w ∈ ws, ∀ (a' : Array Value) (U : State), s.WarmedH U.vm → w.before a' U = true) ∧ Cond.codeWith y bytes maxL ret hh ∈ ws) ∧
  (Cond.codeWith y bytes maxL ret hh).before args s = true ∧ (Cond.initialized y.cls).before args s = true ∧ (y.cls ≠ "java/lang/invoke/MethodHandle" ∧ y.cls ≠ "java/lang/invoke/VarHandle") ∧
  (∀ sig, parseMethodDescriptor y.desc = some sig → n = sig.parameters.length) ∧ (Cond.methodLink own index y).before args s = true ∧ (Cond.static y).before args s = true
theorem vx_cwSW {own : String} {index maxL mc ms : Nat} {y : MethodName} {bytes : ByteArray} {ret : Option FieldType} {hh : List (Nat × Nat × Nat × Nat)} {Ts ws ws' : List Cond} {rm : Room} (n : Nat) (ht : ∀ w ∈ Ts, w.before args s = true) (hT : GoodIn Ts (va_wsS own index y ws)) (hw : ws = Cond.codeWith y bytes maxL ret hh :: ws') (hrc : rm.cells = mc) (hrs : rm.slots = ms)
    (hd : y.cls ≠ "java/lang/invoke/MethodHandle" ∧ y.cls ≠ "java/lang/invoke/VarHandle" ∧ (parseMethodDescriptor y.desc).map (fun d => d.parameters.length) = some n) (hR : rm.frames + 1 ≤ R.frames ∧ 8 + (maxL + 11) + rm.locals ≤ R.locals) :
    vx_CSW R s args own index y bytes maxL ret hh ws rm mc ms n := by
  have ok : ∀ w ∈ va_wsS own index y ws, w.before args s = true := fun w h => ht w (hT w h).1
  have hG : GoodIn Ts ws := fun w h => hT w (by unfold va_wsS; exact List.mem_append_right _ h)
  have hc : Cond.codeWith y bytes maxL ret hh ∈ ws := by rw [hw]; exact List.mem_cons_self
  refine ⟨⟨hrc, hrs, hR.1, hR.2, pay_in ht hG, hc⟩, ht _ (hG _ hc).1, ok _ (by simp [va_wsS]), ⟨hd.1, hd.2.1⟩, fun sig h => ?_, ok _ (by simp [va_wsS]), ok _ (by simp [va_wsS])⟩
  have h2 := hd.2.2
  rw [h] at h2
  exact (Option.some.inj h2).symm
theorem vx_callSW (X : Stand p l e R s m args below meth c T locs cells slots) (hexec : p.tables.exec = Jvm.exec) {own : String} {index : Nat} {y : MethodName} {bytes : ByteArray} {maxL : Nat} {ret : Option FieldType} {hh : List (Nat × Nat × Nat × Nat)}
    (hown : s.vm.findClass own = some m.cls) (hlink : (Cond.methodLink own index y).before args s = true) (hstat : (Cond.static y).before args s = true) (hinit : (Cond.initialized y.cls).before args s = true)
    (hcode : (Cond.codeWith y bytes maxL ret hh).before args s = true) (hy : y.cls ≠ "java/lang/invoke/MethodHandle" ∧ y.cls ≠ "java/lang/invoke/VarHandle")
    {W9 : Nat} {Pre : Pt → Array Value → Prop} {Post : Pt → Array Value → Option Value → Pt → Prop} (hK : Back l R p e below s args y 3 W9 Pre Post)
    {g : JFrame} (hg : g.method = m) (hsize : g.locals.size = c.maxLocals) {argsL rest : List Value} (hlen : ∀ sig, parseMethodDescriptor y.desc = some sig → argsL.length = sig.parameters.length)
    (hstack : g.stack = argsL.reverse ++ rest) (hW : 2 * g.monitorRoom + (rest.map fun v => v.category).sum ≤ W9) (hdg : decode c.code g.pc = .ok (.invokestatic index, 3))
    (hpre : ∀ vm₁, s.WarmedH vm₁ → Pre ⟨T.setVm vm₁, locs, cells, slots⟩ argsL.toArray) :
    ∃ (v : Option Value) (vm₁ : Vm) (B : Pt), s.WarmedH vm₁ ∧ Stand p l e R s m args below meth c B.U B.locs B.cells B.slots ∧ Post ⟨T.setVm vm₁, locs, cells, slots⟩ argsL.toArray v B ∧
      ∀ target, Steps p.tables e below (B.U.setTop { g with pc := g.pc + 3, stack := v.toList ++ rest }) target → Steps p.tables e below (T.setTop g) target := by
  obtain ⟨mk, methM, cM, hnamed, hmethM, -, -, -, -, -, -, hsigM⟩ := Cond.codeWith_spec hcode
  have hstatic : methM.isStatic = true := Cond.static_spec hnamed hmethM hstat
  obtain ⟨kP, hkP, -⟩ := className_of_methodNamed hnamed
  have hinitP : kP.init = .initialized := Cond.initialized_spec (findClass_of_methodNamed hnamed) hkP hinit
  obtain ⟨vm₁, X₁, hstep₁⟩ := X.invokestatic hexec hown hlink hnamed hmethM hstatic hkP hinitP hy (g := g) hg (argsL := argsL) (rest := rest) (hlen _ hsigM) hstack hdg
  obtain ⟨v, B, X', hpost, hsteps⟩ := hK m meth c ⟨T.setVm vm₁, locs, cells, slots⟩ { g with stack := rest } (.invokestatic index) mk argsL.toArray X₁ hg hsize hdg hW (X₁.named hnamed) (hpre vm₁ X₁.warmed)
  exact ⟨v, vm₁, B, X₁.warmed, X', hpost, fun target h => hstep₁ _ fun acts => by rw [doInvoke_state]; exact hsteps.trans h⟩
theorem vx_runSW {y : MethodName} {bytes cc : ByteArray} {maxL nL mc ms n index : Nat} {ret : Option FieldType} {hh : List (Nat × Nat × Nat × Nat)} {ws : List Cond} {rm : Room} {Pc : Array Value → State → Prop} {Qc : Array Value → State → Outcome → State → Prop} {free : Addr → Prop} {Ts : List Cond} {own : String} {As rest : List Value} {g : JFrame}
    (S : CallFix p m c cc nL s args Ts own) (hM : Met l y ws rm Pc Qc mc ms free) (cw : vx_CSW R s args own index y bytes maxL ret hh ws rm mc ms n) (hp : PreS s H Pc As)
    (hg : g.method = m) (hn : As.length = n) (hsize : g.locals.size = nL) (hstack : g.stack = As.reverse ++ rest) (hW : 2 * g.monitorRoom + (rest.map fun v => v.category).sum ≤ 8) (hdg : decode cc g.pc = .ok (.invokestatic index, 3)) (hf : cells + mc ≤ R.cells ∧ slots + ms ≤ R.slots) :
    va_Run p l e R s m args below meth c H locs cells slots mc ms g rest (Qc As.toArray) (free) := by
  obtain ⟨⟨hrc, hrs, hfr, hlo, hws, hcw⟩, hcode, hini, hy, hlen, hl, hstt⟩ := cw
  have hK : Back l R p e below s args y 3 8 (PreOf R mc ms Pc) (PostOf Qc mc ms free) := va_backW (hh := hh) (bytes := bytes) (maxL := maxL) (ret := ret) hM hp.1 hrc hrs hfr hlo hws hcw (fun a' U hW => word_at hW (Or.inl (by first | rfl | simp [Cond.onTables, Cond.keeps, Cond.steady])) hini)
  obtain ⟨hx, hb, hml, ho, -⟩ := S
  intro T hT X
  obtain ⟨v, vm₁, ⟨U', l2, c2, s2⟩, hW₁, X', ⟨g', mk, t, L, e1, e2, hq, h1, hL, h2, h3⟩, st⟩ := vx_callSW X hx (hh := hh) (bytes := bytes) (maxL := maxL) (ret := ret) ho hl hstt hini hcode hy hK hg (hsize.trans hml.symm) (argsL := As) (rest := rest) (fun sig h => hn.trans (hlen sig h)) hstack hW (by rw [hb]; exact hdg)
    (fun vm₁ hW₁ => ⟨hf.1, hf.2, hp.2 (T.setVm vm₁) hT hW₁⟩)
  dsimp only [Pt.U, Pt.locs, Pt.cells, Pt.slots] at X' e1 e2 h1 h2 h3 st
  subst h1; subst h2; subst h3
  exact ⟨v, (T.setVm vm₁).calling g' mk As.toArray, t, U', L, hT, X', hL, e1, e2, hq, st⟩
/-- not caught here, past rows that name other classes: it goes on to the caller -/
theorem vx_outP {p : Program} {l : Launch} {e : Env} {R : Room} {s : State} {m : MethodId} {args : Array Value} {below : List Frame} {meth : Method} {c : Code} {H : Heap} {locs : List Loc} {cells slots : Nat} {free : Addr → Prop} {ls : Array Slot} {rest : List Value} {Qc : Array Value → State → Outcome → State → Prop} {XC : String → State → State → Prop}
    {pc : Nat} {own E : String} {ce : Cell} {q : Addr} {mc ms : Nat} (hown : s.vm.findClass own = some m.cls) (hlocks : meth.locks = false)
    (hpass : ∀ z ∈ c.exceptionTable.toList, covers z pc = false ∨ (z.catchType ≠ 0 ∧ ∃ nm : String, (Cond.classLink own z.catchType nm).before args s = true ∧ va_Nc E nm s)) (hcell : H[q]? = some ce) (hv : ce.vm = .none) (hcl : s.vm.findClass E = some ce.cls)
    (hx : ∀ t : State, t.heap = H → s.vm.Alike t.vm → XC E s t) (hf : ∀ z ∈ locs, free z.base) (hc : cells ≤ mc) (hs : slots ≤ ms) :
    vx_W p l e R s m args below meth c H locs cells slots (vx_MQ below Qc XC args s mc ms free) (F0 m pc ls rest) q := by
  intro T hT X
  have hpl : e.platform.magicAccessors = ({} : Platform).magicAccessors := by rw [X.admits.platform]
  obtain ⟨vm', hW', X', st⟩ := X.outThrough hlocks q (g := F0 m pc ls rest) rfl rfl rfl (cell := ce) (by rw [hT]; exact hcell) (by rw [hv]; rfl)
    (by obtain ⟨k9, h9, -⟩ := Vm.findClass_spec hcl; exact ⟨k9, h9⟩) (fun z hz => by
      rcases hpass z hz with h | ⟨hz0, nm, hl1, hn1⟩
      · exact Or.inl h
      · obtain ⟨c6, hc6, hcl6⟩ := Cond.classLink_spec hown hl1 e.platform hpl
        obtain ⟨a8, b8, h1, h2, h3⟩ := hn1
        cases Option.some.inj (h1.symm.trans hcl)
        cases Option.some.inj (h2.symm.trans hc6)
        exact Or.inr ⟨hz0, _, hcl6, h3⟩)
  obtain ⟨g₀, hfr⟩ := X'.frames_eq
  have hcell9 : ((T.setVm vm').setFrames (.throwing q :: below)).heap[q]? = some ce := by
    show T.heap[q]? = some ce
    rw [hT]; exact hcell
  have hend : Ended ((T.setVm vm').setFrames (.throwing q :: below)) below (.threw q) := State.frames_setFrames _ (State.cur_lt_of_frames hfr)
  refine ⟨(T.setVm vm').setFrames (.throwing q :: below), ?_, .threw q, X'.here.running, hend, Or.inr ⟨q, rfl, E, ce, locs, hx _ hT (X'.ends _).1.alike, hcell9, hv, hcl, (X'.ends _).1, (X'.ends _).2.mono hc hs, hf⟩⟩
  rw [X.pushThrowing_eq]
  exact st
/-- a thing of a world lies in the heap -/
theorem vx_lt {D : va_G} {cl : List vw_C} {ws : va_W} {H1 : Heap} (h : va_P D cl ws H1) {k : Nat} {q : Nat × va_E} (hk : ws[k]? = some q) : q.1 < H1.size := (h k q hk).lt
end VXS
/-! ===== END ===== -/
/-! ===== BEGIN methods with a table of their own: called by a name, returning or throwing ===== -/
section VXH
/-! vx_backW, vx_callVX, vx_callSX, vx_callVW, vx_runVW, vx_runVX, vx_runSX, vx_ofWH follow the same proofs as their sisters above (Free/Laws.lean, Shelf42/LK1.lean); vx_outP calls Shelf42/NT130.lean (outThrough). -/
section
variable {l : Launch} {R : Room} {p : Program} {e : Env} {below : List Frame} {s : State} {sargs : Array Value} {y : MethodName} {len W9 : Nat}
theorem vx_backW {ws : List Cond} {rm : Room} {Pc : Array Value → State → Prop} {Qc : Array Value → State → Outcome → State → Prop} {XC : String → State → State → Prop} {mc ms : Nat} {free : Addr → Prop} {bytes : ByteArray} {maxL : Nat} {ret : Option FieldType} {hh : List (Nat × Nat × Nat × Nat)}
    (hM : vx_Met l y ws rm Pc Qc XC mc ms free) (hblind : FrameBlind Pc) (hrc : rm.cells = mc) (hrs : rm.slots = ms)
    (hframes : rm.frames + 1 ≤ R.frames) (hlocals : W9 + (maxL + 11) + rm.locals ≤ R.locals)
    (hws : ∀ w ∈ ws, ∀ a' U, s.WarmedH U.vm → w.before a' U = true) (hcode : Cond.codeWith y bytes maxL ret hh ∈ ws) (hinit : ∀ a' U, s.WarmedH U.vm → (Cond.initialized y.cls).before a' U = true) :
    vx_Back l R p e below s sargs y len W9 (PreOf R mc ms Pc) (PostOf Qc mc ms free) (vx_Post XC mc ms free) := by
  intro m meth c A g ig mk a X hg hsize hdg hW hn hp
  have h1 : (headSpec ws rm).pre.before a A.U = true := atoms_intro fun w hw => hws w hw _ _ X.warmed
  have h2 : (Cond.codeWith y bytes maxL ret hh).before a A.U = true := hws _ hcode _ _ X.warmed
  have h3 : (Cond.initialized y.cls).before a A.U = true := hinit _ _ X.warmed
  have h4 : A.cells + (headSpec ws rm).room.cells ≤ R.cells := by rw [show (headSpec ws rm).room.cells = mc from hrc]; exact hp.1
  have h5 : A.slots + (headSpec ws rm).room.slots ≤ R.slots := by rw [show (headSpec ws rm).room.slots = ms from hrs]; exact hp.2.1
  have hPc : Pc a (A.U.calling g mk a) := hblind _ _ _ _ hp.2.2
  obtain ⟨U, Ls, c0, s0⟩ := A
  dsimp only [Pt.U, Pt.locs, Pt.cells, Pt.slots] at h1 h2 h3 h4 h5 X hn hPc ⊢
  obtain ⟨m9, methY, cY, hn9, hmY, hcY, -, hlY, -⟩ := Cond.codeWith_spec h2
  cases Option.some.inj (hn9.symm.trans hn)
  obtain ⟨kY, hkY, -⟩ := className_of_methodNamed hn
  have hinitY : kY.init = .initialized := Cond.initialized_spec (findClass_of_methodNamed hn) hkY h3
  have h : At U g.method c below := by rw [hg]; exact X.here
  have hlocals9 : W9 + (maxL + 11) + (headSpec ws rm).room.locals ≤ R.locals := hlocals
  have happ : (headSpec ws rm).appliesLoose y e.platform (U.calling g mk a) = true :=
    Spec.appliesLoose_calling (g := g) h hdg hn hkY hinitY
      (X.room_calling (g := g) (R' := (headSpec ws rm).room) hsize hmY hcY hframes (by rw [hlY]; omega) h4 h5) h1
  obtain ⟨mid, hmid⟩ := h.above
  have hfr : (U.setTop g).frames = (.java g :: mid) ++ below := by rw [State.frames_setTop' g h.top, hmid]; rfl
  obtain ⟨o, s₂, hsteps, -, hend, hq⟩ := Steps.callFree hM p X.admits X.cas X.clock (acts := []) hfr happ hPc trivial
  have hq' : vx_Q Qc XC mc ms free a (U.calling g mk a) o s₂ := hq
  rw [State.frames_setTop' g h.top] at hend
  obtain ⟨g₀, hg0⟩ := Option.isSome_iff_exists.mp h.top
  obtain ⟨r, hr⟩ := State.topJava?_eq_some.mp hg0
  have hr' : (({ U with heap := s₂.heap, slotsUsed := s₂.slotsUsed } : State).setVm s₂.vm).frames = .java g₀ :: r := hr
  rcases hq' with ⟨hqc, L, hfe, hL⟩ | ⟨q, rfl, E, ce, L, hx, hce, hcv, hcl, hW₂, hsm, hL⟩
  · obtain ⟨⟨v, rfl⟩, hW₂, e2, q2, q3, q4, q5, q6⟩ := id hfe
    have e3 : s₂ = ({ (U.calling g mk a).setFrames s₂.frames with heap := s₂.heap, slotsUsed := s₂.slotsUsed } : State).setVm s₂.vm := by
      have : s₂ = ({ s₂ with vm := (U.calling g mk a).vm } : State).setVm s₂.vm := rfl
      rw [e2] at this
      exact this
    obtain ⟨c₂, i₂, len₂, hc₂, hd₂, hf₂⟩ := hend
    have hW' : U.WarmedH s₂.vm := hW₂
    have hcc : c₂ = c := by
      have h1 : s₂.code? g.method = U.code? g.method := by
        rw [State.code?_eq, State.code?_eq, hW'.alike.method?]
      exact Option.some.inj (hc₂.symm.trans (h1.trans h.code))
    subst hcc
    have hlen : len₂ = len := by rw [hdg] at hd₂; cases hd₂; rfl
    subst hlen
    have hs₂ : s₂ = (({ U with heap := s₂.heap, slotsUsed := s₂.slotsUsed } : State).setVm s₂.vm).setTop { g with pc := g.pc + len₂, stack := v.toList ++ g.stack } := by
      refine e3.trans ?_
      rw [hf₂, State.calling_eq h.top, State.setFrames_setFrames, State.setTop_of_frames _ hr', hr]
      rfl
    have hsame : U.sameButNew ({ U with heap := s₂.heap, slotsUsed := s₂.slotsUsed } : State) L mc ms := by
      refine ⟨?_, q2, q3, q4, q5, q6⟩
      obtain ⟨t, ht, -⟩ := State.frames_cons hr
      show ({ U with heap := s₂.heap, slotsUsed := s₂.slotsUsed } : State) = { U.setFrames U.frames with heap := s₂.heap, slotsUsed := s₂.slotsUsed }
      rw [State.setFrames_self ht]
    subst hg
    refine Or.inl ⟨v, ⟨(({ U with heap := s₂.heap, slotsUsed := s₂.slotsUsed } : State).setVm s₂.vm), Ls ++ L, c0 + mc, s0 + ms⟩,
      ⟨X.admits, X.cas, X.clock, X.frames, X.room, X.hears, X.method, X.code, (X.here.setHeapUsed s₂.heap s₂.slotsUsed).setVm hW'.alike, X.tail, State.WarmedH.trans X.warmed hW', X.limits, X.bytes, X.same.trans (hsame.setVm s.vm)⟩,
      ⟨g, mk, s₂, L, rfl, rfl, hqc, rfl, hL, rfl, rfl⟩, ?_⟩
    show Steps p.tables e below _ ((({ U with heap := s₂.heap, slotsUsed := s₂.slotsUsed } : State).setVm s₂.vm).setTop { g with pc := g.pc + len₂, stack := v.toList ++ g.stack })
    rw [← hs₂]
    exact hsteps
  · obtain ⟨e2, q2, q3, q4, q5, q6⟩ := id hsm
    have e3 : s₂ = ({ (U.calling g mk a).setFrames s₂.frames with heap := s₂.heap, slotsUsed := s₂.slotsUsed } : State).setVm s₂.vm := by
      have : s₂ = ({ s₂ with vm := (U.calling g mk a).vm } : State).setVm s₂.vm := rfl
      rw [e2] at this
      exact this
    have hf₂ : s₂.frames = .throwing q :: .java g :: U.frames.tail := hend
    have hW' : U.WarmedH s₂.vm := hW₂
    have hs₂ : s₂ = ((({ U with heap := s₂.heap, slotsUsed := s₂.slotsUsed } : State).setVm s₂.vm).setTop g).pushFrame (.throwing q) := by
      refine e3.trans ?_
      rw [hf₂, State.calling_eq h.top, State.setFrames_setFrames, State.pushFrame, State.frames_setTop _ hr', State.setTop_of_frames _ hr', State.setFrames_setFrames, hr]
      rfl
    have hsame : U.sameButNew ({ U with heap := s₂.heap, slotsUsed := s₂.slotsUsed } : State) L mc ms := by
      refine ⟨?_, q2, q3, q4, q5, q6⟩
      obtain ⟨t, ht, -⟩ := State.frames_cons hr
      show ({ U with heap := s₂.heap, slotsUsed := s₂.slotsUsed } : State) = { U.setFrames U.frames with heap := s₂.heap, slotsUsed := s₂.slotsUsed }
      rw [State.setFrames_self ht]
    subst hg
    refine Or.inr ⟨q, ⟨(({ U with heap := s₂.heap, slotsUsed := s₂.slotsUsed } : State).setVm s₂.vm), Ls ++ L, c0 + mc, s0 + ms⟩,
      ⟨X.admits, X.cas, X.clock, X.frames, X.room, X.hears, X.method, X.code, (X.here.setHeapUsed s₂.heap s₂.slotsUsed).setVm hW'.alike, X.tail, State.WarmedH.trans X.warmed hW', X.limits, X.bytes, X.same.trans (hsame.setVm s.vm)⟩,
      ⟨g, mk, s₂, L, E, ce, rfl, rfl, hx, hce, hcv, hcl, rfl, hL, rfl, rfl⟩, ?_⟩
    show Steps p.tables e below _ (((({ U with heap := s₂.heap, slotsUsed := s₂.slotsUsed } : State).setVm s₂.vm).setTop g).pushFrame (.throwing q))
    rw [← hs₂]
    exact hsteps
end
variable {p : Program} {l : Launch} {e : Env} {R : Room} {s : State} {m : MethodId} {args : Array Value} {below : List Frame} {meth : Method} {c : Code} {T : State} {H : Heap} {locs : List Loc} {cells slots : Nat}
theorem vx_callVX (X : Stand p l e R s m args below meth c T locs cells slots) (hexec : p.tables.exec = Jvm.exec) {own C : String} {index : Nat} {y : MethodName} {bytes : ByteArray} {maxL : Nat} {ret : Option FieldType} {hh : List (Nat × Nat × Nat × Nat)}
    (hown : s.vm.findClass own = some m.cls) (hlink : (Cond.methodLink own index y).before args s = true) (hinst : (Cond.instanceMethod y).before args s = true) (hsel : (Cond.selects C y y).before args s = true)
    (hcode : (Cond.codeWith y bytes maxL ret hh).before args s = true) (hy : y.cls ≠ "java/lang/invoke/MethodHandle" ∧ y.cls ≠ "java/lang/invoke/VarHandle")
    {W9 : Nat} {Pre : Pt → Array Value → Prop} {Post : Pt → Array Value → Option Value → Pt → Prop} {PostX : Pt → Array Value → Addr → Pt → Prop} (hK : vx_Back l R p e below s args y 3 W9 Pre Post PostX)
    {b : Addr} {cellB : Cell} (hcell : T.heap[b]? = some cellB) (hobj : cellB.vm.isStatics = false) (hcls : s.vm.findClass C = some cellB.cls)
    {g : JFrame} (hg : g.method = m) (hsize : g.locals.size = c.maxLocals) {argsL rest : List Value} (hlen : ∀ sig, parseMethodDescriptor y.desc = some sig → argsL.length = sig.parameters.length)
    (hstack : g.stack = argsL.reverse ++ .ref b :: rest) (hW : 2 * g.monitorRoom + (rest.map fun v => v.category).sum ≤ W9) (hdg : decode c.code g.pc = .ok (.invokevirtual index, 3))
    (hpre : ∀ vm₁, s.WarmedH vm₁ → Pre ⟨T.setVm vm₁, locs, cells, slots⟩ (Value.ref b :: argsL).toArray) :
    (∃ (v : Option Value) (vm₁ : Vm) (B : Pt), s.WarmedH vm₁ ∧ Stand p l e R s m args below meth c B.U B.locs B.cells B.slots ∧ Post ⟨T.setVm vm₁, locs, cells, slots⟩ (Value.ref b :: argsL).toArray v B ∧
      ∀ target, Steps p.tables e below (B.U.setTop { g with pc := g.pc + 3, stack := v.toList ++ rest }) target → Steps p.tables e below (T.setTop g) target) ∨
    (∃ (q : Addr) (vm₁ : Vm) (B : Pt), s.WarmedH vm₁ ∧ Stand p l e R s m args below meth c B.U B.locs B.cells B.slots ∧ PostX ⟨T.setVm vm₁, locs, cells, slots⟩ (Value.ref b :: argsL).toArray q B ∧
      Steps p.tables e below (T.setTop g) ((B.U.setTop { g with stack := rest }).pushFrame (.throwing q))) := by
  obtain ⟨mk, methM, hnamed, hmethM, hstM, habM⟩ := Cond.instanceMethod_spec hinst
  obtain ⟨m8, methM', cM, hn8, hmethM', -, -, -, -, -, -, hsigM⟩ := Cond.codeWith_spec hcode
  cases Option.some.inj (hn8.symm.trans hnamed)
  cases hmethM.symm.trans hmethM'
  obtain ⟨c2, r2, m2, q1, q2, q3, q4, kP, hkP, hkPi⟩ := Cond.selects_spec hsel
  cases hcls.symm.trans q1
  cases (State.methodFound?_of_named hnamed hy).symm.trans q2
  cases hnamed.symm.trans q3
  have hselP : selectMethod e.platform s.vm cellB.cls mk = .method mk := by rw [Launch.admits_selectMethod X.admits]; exact q4
  obtain ⟨vm₁, X₁, hstep₁⟩ := X.invokevirtual hexec hown hlink hnamed hmethM hstM hkP hkPi hy (a := b) (cell := cellB) hcell
    (fun z h => by rw [h] at hobj; cases hobj) hselP hmethM habM hkP hkPi (g := g) hg (argsL := argsL) (rest := rest) (hlen _ hsigM) hstack hdg
  rcases hK m meth c ⟨T.setVm vm₁, locs, cells, slots⟩ { g with stack := rest } (.invokevirtual index) mk (Value.ref b :: argsL).toArray X₁ hg hsize hdg hW (X₁.named hnamed) (hpre vm₁ X₁.warmed) with ⟨v, B, X', hpost, hsteps⟩ | ⟨q, B, X', hpost, hsteps⟩
  · exact Or.inl ⟨v, vm₁, B, X₁.warmed, X', hpost, fun target h => hstep₁ _ fun acts => by rw [doInvoke_state]; exact hsteps.trans h⟩
  · exact Or.inr ⟨q, vm₁, B, X₁.warmed, X', hpost, hstep₁ _ fun acts => by rw [doInvoke_state]; exact hsteps⟩
theorem vx_callSX (X : Stand p l e R s m args below meth c T locs cells slots) (hexec : p.tables.exec = Jvm.exec) {own : String} {index : Nat} {y : MethodName} {bytes : ByteArray} {maxL : Nat} {ret : Option FieldType} {hh : List (Nat × Nat × Nat × Nat)}
    (hown : s.vm.findClass own = some m.cls) (hlink : (Cond.methodLink own index y).before args s = true) (hstat : (Cond.static y).before args s = true) (hinit : (Cond.initialized y.cls).before args s = true)
    (hcode : (Cond.codeWith y bytes maxL ret hh).before args s = true) (hy : y.cls ≠ "java/lang/invoke/MethodHandle" ∧ y.cls ≠ "java/lang/invoke/VarHandle")
    {W9 : Nat} {Pre : Pt → Array Value → Prop} {Post : Pt → Array Value → Option Value → Pt → Prop} {PostX : Pt → Array Value → Addr → Pt → Prop} (hK : vx_Back l R p e below s args y 3 W9 Pre Post PostX)
    {g : JFrame} (hg : g.method = m) (hsize : g.locals.size = c.maxLocals) {argsL rest : List Value} (hlen : ∀ sig, parseMethodDescriptor y.desc = some sig → argsL.length = sig.parameters.length)
    (hstack : g.stack = argsL.reverse ++ rest) (hW : 2 * g.monitorRoom + (rest.map fun v => v.category).sum ≤ W9) (hdg : decode c.code g.pc = .ok (.invokestatic index, 3))
    (hpre : ∀ vm₁, s.WarmedH vm₁ → Pre ⟨T.setVm vm₁, locs, cells, slots⟩ argsL.toArray) :
    (∃ (v : Option Value) (vm₁ : Vm) (B : Pt), s.WarmedH vm₁ ∧ Stand p l e R s m args below meth c B.U B.locs B.cells B.slots ∧ Post ⟨T.setVm vm₁, locs, cells, slots⟩ argsL.toArray v B ∧
      ∀ target, Steps p.tables e below (B.U.setTop { g with pc := g.pc + 3, stack := v.toList ++ rest }) target → Steps p.tables e below (T.setTop g) target) ∨
    (∃ (q : Addr) (vm₁ : Vm) (B : Pt), s.WarmedH vm₁ ∧ Stand p l e R s m args below meth c B.U B.locs B.cells B.slots ∧ PostX ⟨T.setVm vm₁, locs, cells, slots⟩ argsL.toArray q B ∧
      Steps p.tables e below (T.setTop g) ((B.U.setTop { g with stack := rest }).pushFrame (.throwing q))) := by
  obtain ⟨mk, methM, cM, hnamed, hmethM, -, -, -, -, -, -, hsigM⟩ := Cond.codeWith_spec hcode
  have hstatic : methM.isStatic = true := Cond.static_spec hnamed hmethM hstat
  obtain ⟨kP, hkP, -⟩ := className_of_methodNamed hnamed
  have hinitP : kP.init = .initialized := Cond.initialized_spec (findClass_of_methodNamed hnamed) hkP hinit
  obtain ⟨vm₁, X₁, hstep₁⟩ := X.invokestatic hexec hown hlink hnamed hmethM hstatic hkP hinitP hy (g := g) hg (argsL := argsL) (rest := rest) (hlen _ hsigM) hstack hdg
  rcases hK m meth c ⟨T.setVm vm₁, locs, cells, slots⟩ { g with stack := rest } (.invokestatic index) mk argsL.toArray X₁ hg hsize hdg hW (X₁.named hnamed) (hpre vm₁ X₁.warmed) with ⟨v, B, X', hpost, hsteps⟩ | ⟨q, B, X', hpost, hsteps⟩
  · exact Or.inl ⟨v, vm₁, B, X₁.warmed, X', hpost, fun target h => hstep₁ _ fun acts => by rw [doInvoke_state]; exact hsteps.trans h⟩
  · exact Or.inr ⟨q, vm₁, B, X₁.warmed, X', hpost, hstep₁ _ fun acts => by rw [doInvoke_state]; exact hsteps⟩
theorem vx_callVW (X : Stand p l e R s m args below meth c T locs cells slots) (hexec : p.tables.exec = Jvm.exec) {own C : String} {index : Nat} {y : MethodName} {bytes : ByteArray} {maxL : Nat} {ret : Option FieldType} {hh : List (Nat × Nat × Nat × Nat)}
    (hown : s.vm.findClass own = some m.cls) (hlink : (Cond.methodLink own index y).before args s = true) (hinst : (Cond.instanceMethod y).before args s = true) (hsel : (Cond.selects C y y).before args s = true)
    (hcode : (Cond.codeWith y bytes maxL ret hh).before args s = true) (hy : y.cls ≠ "java/lang/invoke/MethodHandle" ∧ y.cls ≠ "java/lang/invoke/VarHandle")
    {W9 : Nat} {Pre : Pt → Array Value → Prop} {Post : Pt → Array Value → Option Value → Pt → Prop} (hK : Back l R p e below s args y 3 W9 Pre Post)
    {b : Addr} {cellB : Cell} (hcell : T.heap[b]? = some cellB) (hobj : cellB.vm.isStatics = false) (hcls : s.vm.findClass C = some cellB.cls)
    {g : JFrame} (hg : g.method = m) (hsize : g.locals.size = c.maxLocals) {argsL rest : List Value} (hlen : ∀ sig, parseMethodDescriptor y.desc = some sig → argsL.length = sig.parameters.length)
    (hstack : g.stack = argsL.reverse ++ .ref b :: rest) (hW : 2 * g.monitorRoom + (rest.map fun v => v.category).sum ≤ W9) (hdg : decode c.code g.pc = .ok (.invokevirtual index, 3))
    (hpre : ∀ vm₁, s.WarmedH vm₁ → Pre ⟨T.setVm vm₁, locs, cells, slots⟩ (Value.ref b :: argsL).toArray) :
    ∃ (v : Option Value) (vm₁ : Vm) (B : Pt), s.WarmedH vm₁ ∧ Stand p l e R s m args below meth c B.U B.locs B.cells B.slots ∧ Post ⟨T.setVm vm₁, locs, cells, slots⟩ (Value.ref b :: argsL).toArray v B ∧
      ∀ target, Steps p.tables e below (B.U.setTop { g with pc := g.pc + 3, stack := v.toList ++ rest }) target → Steps p.tables e below (T.setTop g) target := by
  obtain ⟨mk, methM, hnamed, hmethM, hstM, habM⟩ := Cond.instanceMethod_spec hinst
  obtain ⟨m8, methM', cM, hn8, hmethM', -, -, -, -, -, -, hsigM⟩ := Cond.codeWith_spec hcode
  cases Option.some.inj (hn8.symm.trans hnamed)
  cases hmethM.symm.trans hmethM'
  obtain ⟨c2, r2, m2, q1, q2, q3, q4, kP, hkP, hkPi⟩ := Cond.selects_spec hsel
  cases hcls.symm.trans q1
  cases (State.methodFound?_of_named hnamed hy).symm.trans q2
  cases hnamed.symm.trans q3
  have hselP : selectMethod e.platform s.vm cellB.cls mk = .method mk := by rw [Launch.admits_selectMethod X.admits]; exact q4
  obtain ⟨vm₁, X₁, hstep₁⟩ := X.invokevirtual hexec hown hlink hnamed hmethM hstM hkP hkPi hy (a := b) (cell := cellB) hcell
    (fun z h => by rw [h] at hobj; cases hobj) hselP hmethM habM hkP hkPi (g := g) hg (argsL := argsL) (rest := rest) (hlen _ hsigM) hstack hdg
  obtain ⟨v, B, X', hpost, hsteps⟩ := hK m meth c ⟨T.setVm vm₁, locs, cells, slots⟩ { g with stack := rest } (.invokevirtual index) mk (Value.ref b :: argsL).toArray X₁ hg hsize hdg hW (X₁.named hnamed) (hpre vm₁ X₁.warmed)
  exact ⟨v, vm₁, B, X₁.warmed, X', hpost, fun target h => hstep₁ _ fun acts => by rw [doInvoke_state]; exact hsteps.trans h⟩
abbrev vx_CVW (R : Room) (s : State) (args : Array Value) (own C : String) (index : Nat) (y : MethodName) (bytes : ByteArray) (maxL : Nat) (ret : Option FieldType) (hh : List (Nat × Nat × Nat × Nat)) (ws : List Cond) (rm : Room) (mc ms n : Nat) : Prop :=
  (rm.cells = mc ∧ rm.slots = ms ∧ rm.frames + 1 ≤ R.frames ∧ 8 + (maxL + 11) + rm.locals ≤ R.locals ∧ (∀ w ∈ ws, ∀ (a' : Array Value) (U : State), s.WarmedH U.vm → w.before a' U = true) ∧ Cond.codeWith y bytes maxL ret hh ∈ ws) ∧
  (Cond.codeWith y bytes maxL ret hh).before args s = true ∧ (Cond.initialized y.cls).before args s = true ∧ (y.cls ≠ "java/lang/invoke/MethodHandle" ∧ y.cls ≠ "java/lang/invoke/VarHandle") ∧
  (∀ sig, parseMethodDescriptor y.desc = some sig → n = sig.parameters.length) ∧ (Cond.methodLink own index y).before args s = true ∧ (Cond.instanceMethod y).before args s = true ∧ (Cond.selects C y y).before args s = true
theorem vx_cwVW {own C : String} {index maxL mc ms : Nat} {y : MethodName} {bytes : ByteArray} {ret : Option FieldType} {hh : List (Nat × Nat × Nat × Nat)} {Ts ws ws' : List Cond} {rm : Room} (n : Nat) (ht : ∀ w ∈ Ts, w.before args s = true) (hT : GoodIn Ts (wsV own index C y ws)) (hw : ws = Cond.codeWith y bytes maxL ret hh :: ws') (hrc : rm.cells = mc) (hrs : rm.slots = ms)
    (hd : y.cls = C ∧ y.cls ≠ "java/lang/invoke/MethodHandle" ∧ y.cls ≠ "java/lang/invoke/VarHandle" ∧ (parseMethodDescriptor y.desc).map (fun d => d.parameters.length) = some n) (hR : rm.frames + 1 ≤ R.frames ∧ 8 + (maxL + 11) + rm.locals ≤ R.locals) :
    vx_CVW R s args own C index y bytes maxL ret hh ws rm mc ms n := by
  obtain ⟨hC, hd⟩ := hd
  subst hC
  have ok : ∀ w ∈ wsV own index y.cls y ws, w.before args s = true := fun w h => ht w (hT w h).1
  have hG : GoodIn Ts ws := fun w h => hT w (by unfold wsV; exact List.mem_append_right _ h)
  have hc : Cond.codeWith y bytes maxL ret hh ∈ ws := by rw [hw]; exact List.mem_cons_self
  refine ⟨⟨hrc, hrs, hR.1, hR.2, pay_in ht hG, hc⟩, ht _ (hG _ hc).1, ok _ (by simp [wsV]), ⟨hd.1, hd.2.1⟩, fun sig h => ?_, ok _ (by simp [wsV]), ok _ (by simp [wsV]), ok _ (by simp [wsV])⟩
  have h2 := hd.2.2
  rw [h] at h2
  exact (Option.some.inj h2).symm
theorem vx_runVW {y : MethodName} {bytes cc : ByteArray} {maxL nL mc ms n index : Nat} {ret : Option FieldType} {hh : List (Nat × Nat × Nat × Nat)} {ws : List Cond} {rm : Room} {Pc : Array Value → State → Prop} {Qc : Array Value → State → Outcome → State → Prop} {free : Addr → Prop} {Ts : List Cond} {own C : String} {b : Addr} {As rest : List Value} {g : JFrame}
    (S : CallFix p m c cc nL s args Ts own) (hM : Met l y ws rm Pc Qc mc ms free) (cw : vx_CVW R s args own C index y bytes maxL ret hh ws rm mc ms n) (hp : PreV s H C b Pc As)
    (hg : g.method = m) (hn : As.length = n) (hsize : g.locals.size = nL) (hstack : g.stack = As.reverse ++ .ref b :: rest) (hW : 2 * g.monitorRoom + (rest.map fun v => v.category).sum ≤ 8) (hdg : decode cc g.pc = .ok (.invokevirtual index, 3)) (hf : cells + mc ≤ R.cells ∧ slots + ms ≤ R.slots) :
    va_Run p l e R s m args below meth c H locs cells slots mc ms g rest (Qc (Value.ref b :: As).toArray) free := by
  obtain ⟨⟨hrc, hrs, hfr, hlo, hws, hcw⟩, hcode, hini, hy, hlen, hl, hin, hse⟩ := cw
  have hK : Back l R p e below s args y 3 8 (PreOf R mc ms Pc) (PostOf Qc mc ms free) := va_backW (hh := hh) (bytes := bytes) (maxL := maxL) (ret := ret) hM hp.1 hrc hrs hfr hlo hws hcw (fun a' U hW => word_at hW (Or.inl (by first | rfl | simp [Cond.onTables, Cond.keeps, Cond.steady])) hini)
  obtain ⟨hx, hb, hml, ho, -⟩ := S
  obtain ⟨-, ⟨cellB, hcB, hoB, hclB⟩, hPc⟩ := hp
  intro T hT X
  obtain ⟨v, vm₁, ⟨U', l2, c2, s2⟩, hW₁, X', ⟨g', mk, t, L, e1, e2, hq, h1, hL, h2, h3⟩, st⟩ := vx_callVW X hx (C := C) (hh := hh) (bytes := bytes) (maxL := maxL) (ret := ret) ho hl hin hse hcode hy hK (by rw [hT]; exact hcB) hoB hclB hg (hsize.trans hml.symm) (argsL := As) (rest := rest) (fun sig h => hn.trans (hlen sig h)) hstack hW (by rw [hb]; exact hdg)
    (fun vm₁ hW₁ => ⟨hf.1, hf.2, hPc (T.setVm vm₁) hT hW₁⟩)
  dsimp only [Pt.U, Pt.locs, Pt.cells, Pt.slots] at X' e1 e2 h1 h2 h3 st
  subst h1; subst h2; subst h3
  exact ⟨v, (T.setVm vm₁).calling g' mk (Value.ref b :: As).toArray, t, U', L, hT, X', hL, e1, e2, hq, st⟩
section
variable {y : MethodName} {bytes cc : ByteArray} {maxL nL mc ms n index : Nat} {ret : Option FieldType} {ws : List Cond} {rm : Room} {Pc : Array Value → State → Prop} {Qc : Array Value → State → Outcome → State → Prop} {XC : String → State → State → Prop} {free : Addr → Prop} {Ts : List Cond} {own C : String} {b : Addr} {As rest : List Value} {g : JFrame}
theorem vx_runVX {hh : List (Nat × Nat × Nat × Nat)} (S : CallFix p m c cc nL s args Ts own) (hM : vx_Met l y ws rm Pc Qc XC mc ms free) (cw : vx_CVW R s args own C index y bytes maxL ret hh ws rm mc ms n) (hp : PreV s H C b Pc As)
    (hg : g.method = m) (hn : As.length = n) (hsize : g.locals.size = nL) (hstack : g.stack = As.reverse ++ .ref b :: rest) (hW : 2 * g.monitorRoom + (rest.map fun v => v.category).sum ≤ 8) (hdg : decode cc g.pc = .ok (.invokevirtual index, 3)) (hf : cells + mc ≤ R.cells ∧ slots + ms ≤ R.slots) :
    vx_Run p l e R s m args below meth c H locs cells slots mc ms g rest (Qc (Value.ref b :: As).toArray) XC free := by
  obtain ⟨⟨hrc, hrs, hfr, hlo, hws, hcw⟩, hcode, hini, hy, hlen, hl, hin, hse⟩ := cw
  have hK : vx_Back l R p e below s args y 3 8 (PreOf R mc ms Pc) (PostOf Qc mc ms free) (vx_Post XC mc ms free) := vx_backW (hh := hh) (bytes := bytes) (maxL := maxL) (ret := ret) hM hp.1 hrc hrs hfr hlo hws hcw (fun a' U hW => word_at hW (Or.inl (by first | rfl | simp [Cond.onTables, Cond.keeps, Cond.steady])) hini)
  obtain ⟨hx, hb, hml, ho, -⟩ := S
  obtain ⟨-, ⟨cellB, hcB, hoB, hclB⟩, hPc⟩ := hp
  intro T hT X
  rcases vx_callVX X hx (C := C) (hh := hh) (bytes := bytes) (maxL := maxL) (ret := ret) ho hl hin hse hcode hy hK (by rw [hT]; exact hcB) hoB hclB hg (hsize.trans hml.symm) (argsL := As) (rest := rest) (fun sig h => hn.trans (hlen sig h)) hstack hW (by rw [hb]; exact hdg)
    (fun vm₁ hW₁ => ⟨hf.1, hf.2, hPc (T.setVm vm₁) hT hW₁⟩) with ⟨v, vm₁, ⟨U', l2, c2, s2⟩, hW₁, X', ⟨g', mk, t, L, e1, e2, hq, h1, hL, h2, h3⟩, st⟩ | ⟨q, vm₁, ⟨U', l2, c2, s2⟩, hW₁, X', ⟨g', mk, t, L, E, ce, e1, e2, hq, hce, hcv, hcl, h1, hL, h2, h3⟩, st⟩
  · dsimp only [Pt.U, Pt.locs, Pt.cells, Pt.slots] at X' e1 e2 h1 h2 h3 st
    subst h1; subst h2; subst h3
    exact Or.inl ⟨v, (T.setVm vm₁).calling g' mk (Value.ref b :: As).toArray, t, U', L, hT, X', hL, e1, e2, hq, st⟩
  · dsimp only [Pt.U, Pt.locs, Pt.cells, Pt.slots] at X' e1 e2 h1 h2 h3 st hcl
    subst h1; subst h2; subst h3
    exact Or.inr ⟨q, (T.setVm vm₁).calling g' mk (Value.ref b :: As).toArray, t, U', L, E, ce, hT, X', hL, e1, e2, hq, hce, hcv, vx_cls hW₁ hcl, st⟩
theorem vx_runSX {hh : List (Nat × Nat × Nat × Nat)} (S : CallFix p m c cc nL s args Ts own) (hM : vx_Met l y ws rm Pc Qc XC mc ms free) (cw : vx_CSW R s args own index y bytes maxL ret hh ws rm mc ms n) (hp : PreS s H Pc As)
    (hg : g.method = m) (hn : As.length = n) (hsize : g.locals.size = nL) (hstack : g.stack = As.reverse ++ rest) (hW : 2 * g.monitorRoom + (rest.map fun v => v.category).sum ≤ 8) (hdg : decode cc g.pc = .ok (.invokestatic index, 3)) (hf : cells + mc ≤ R.cells ∧ slots + ms ≤ R.slots) :
    vx_Run p l e R s m args below meth c H locs cells slots mc ms g rest (Qc As.toArray) XC free := by
  obtain ⟨⟨hrc, hrs, hfr, hlo, hws, hcw⟩, hcode, hini, hy, hlen, hl, hstt⟩ := cw
  have hK : vx_Back l R p e below s args y 3 8 (PreOf R mc ms Pc) (PostOf Qc mc ms free) (vx_Post XC mc ms free) := vx_backW (hh := hh) (bytes := bytes) (maxL := maxL) (ret := ret) hM hp.1 hrc hrs hfr hlo hws hcw (fun a' U hW => word_at hW (Or.inl (by first | rfl | simp [Cond.onTables, Cond.keeps, Cond.steady])) hini)
  obtain ⟨hx, hb, hml, ho, -⟩ := S
  intro T hT X
  rcases vx_callSX X hx (hh := hh) (bytes := bytes) (maxL := maxL) (ret := ret) ho hl hstt hini hcode hy hK hg (hsize.trans hml.symm) (argsL := As) (rest := rest) (fun sig h => hn.trans (hlen sig h)) hstack hW (by rw [hb]; exact hdg)
    (fun vm₁ hW₁ => ⟨hf.1, hf.2, hp.2 (T.setVm vm₁) hT hW₁⟩) with ⟨v, vm₁, ⟨U', l2, c2, s2⟩, hW₁, X', ⟨g', mk, t, L, e1, e2, hq, h1, hL, h2, h3⟩, st⟩ | ⟨q, vm₁, ⟨U', l2, c2, s2⟩, hW₁, X', ⟨g', mk, t, L, E, ce, e1, e2, hq, hce, hcv, hcl, h1, hL, h2, h3⟩, st⟩
  · dsimp only [Pt.U, Pt.locs, Pt.cells, Pt.slots] at X' e1 e2 h1 h2 h3 st
    subst h1; subst h2; subst h3
    exact Or.inl ⟨v, (T.setVm vm₁).calling g' mk As.toArray, t, U', L, hT, X', hL, e1, e2, hq, st⟩
  · dsimp only [Pt.U, Pt.locs, Pt.cells, Pt.slots] at X' e1 e2 h1 h2 h3 st hcl
    subst h1; subst h2; subst h3
    exact Or.inr ⟨q, (T.setVm vm₁).calling g' mk As.toArray, t, U', L, E, ce, hT, X', hL, e1, e2, hq, hce, hcv, vx_cls hW₁ hcl, st⟩
end
end VXH
theorem vx_ofWH {l : Launch} {y : MethodName} {ws ws' : List Cond} {rm : Room} {Pc : Array Value → State → Prop} {Qc : Array Value → State → Outcome → State → Prop} {XC : String → State → State → Prop} {mc ms : Nat} {free : Addr → Prop} {cc : ByteArray} {maxL : Nat} {ret : Option FieldType} {hh : List (Nat × Nat × Nat × Nat)}
    (hy : plainName y.cls = true) (hw : ws = Cond.codeWith y cc maxL ret hh :: ws')
    (body : ∀ p e s m args below meth c s₁, BodyLoose p l y (headSpec ws rm) cc maxL ret e s m args below meth c s₁ → c.maxLocals = maxL → Pc args s →
      W p l e (headSpec ws rm).room s m args below meth c s.heap [] 0 0 (vx_MQ below Qc XC args s mc ms free) (entryFrame m args maxL)) : vx_Met l y ws rm Pc Qc XC mc ms free := by
  refine MetFree.of_bodyS (code := cc) (maxLocals := maxL) (ret := ret) hy ?_ ?_
  · intro args s m h hn
    obtain ⟨m9, meth, c, hn9, h1, h2, h3, h4, -, h5, h6, -⟩ := Cond.codeWith_spec (atoms_spec (ws := ws) h _ (by rw [hw]; exact List.mem_cons_self))
    cases hn.symm.trans hn9
    exact ⟨meth, c, h1, h2, h3, h4, h5, h6⟩
  · intro p e s m args below meth c s₁ B hml hP _
    have hh0 : s₁.heap = s.heap := by rw [B.state]; rfl
    obtain ⟨t, a1, o, b1, b2, b3⟩ := body p e s m args below meth c s₁ B hml hP s₁ hh0 (Stand.of_body B)
    exact ⟨t, o, a1, b1, b2, b3⟩
/-! ===== END ===== -/

/-! ===== BEGIN printed: names, fields, word lists, decode rows ===== -/
def RX0 : String := "GrantBook$Line"
def TX0 : u_T := fun k => match k with
  | 0 => ("GrantBook$Line", "budget", "I", true)
  | 1 => ("GrantBook$Line", "first", "I", true)
  | 2 => ("GrantBook$Line", "last", "I", false)
  | 3 => ("GrantBook$Line", "isInBase", "Z", true)
  | 4 => ("GrantBook$Line", "movedIn", "I", false)
  | 5 => ("GrantBook$Line", "movedAway", "I", false)
  | _ => ("GrantBook$Line", "earliest", "LGrantBook$Voucher;", false)
def tyX0 : Nat → FieldType := fun k => match k with
  | 0 => .int
  | 1 => .int
  | 2 => .int
  | 3 => .boolean
  | 4 => .int
  | 5 => .int
  | _ => .object "GrantBook$Voucher"
abbrev wsX00 : List Cond := u_ws RX0 TX0 7
theorem nmX0 : ∀ a, a < 7 → ∀ b, b < 7 → a ≠ b → (TX0 a).2.1 ≠ (TX0 b).2.1 := by decide +kernel
theorem tyX0_ok : ∀ k, k < 7 → parseFieldDescriptor (TX0 k).2.2.1 = some (tyX0 k) := by decide +kernel
abbrev cX0_init : ByteArray := prog_2_method_1_code
def yX0_init : MethodName := ⟨RX0, "<init>", "(IIIZ)V"⟩
abbrev cX0_money : ByteArray := prog_2_method_2_code
def yX0_money : MethodName := ⟨RX0, "money", "()I"⟩
abbrev cX0_accepts : ByteArray := prog_2_method_3_code
def yX0_accepts : MethodName := ⟨RX0, "accepts", "(LGrantBook$Voucher;)Z"⟩
abbrev cX0_putInOrder : ByteArray := prog_2_method_4_code
def yX0_putInOrder : MethodName := ⟨RX0, "putInOrder", "(LGrantBook$Voucher;)V"⟩
abbrev cX0_reckon : ByteArray := prog_2_method_5_code
def yX0_reckon : MethodName := ⟨RX0, "reckon", "()V"⟩
abbrev cX0_eligibleUpTo : ByteArray := prog_2_method_6_code
def yX0_eligibleUpTo : MethodName := ⟨RX0, "eligibleUpTo", "(I)I"⟩
def RX1 : String := "GrantBook$Voucher"
def TX1 : u_T := fun k => match k with
  | 0 => ("GrantBook$Voucher", "line", "LGrantBook$Line;", true)
  | 1 => ("GrantBook$Voucher", "day", "I", true)
  | 2 => ("GrantBook$Voucher", "amount", "I", true)
  | 3 => ("GrantBook$Voucher", "isRefused", "Z", false)
  | 4 => ("GrantBook$Voucher", "eligible", "I", false)
  | _ => ("GrantBook$Voucher", "next", "LGrantBook$Voucher;", false)
def tyX1 : Nat → FieldType := fun k => match k with
  | 0 => .object "GrantBook$Line"
  | 1 => .int
  | 2 => .int
  | 3 => .boolean
  | 4 => .int
  | _ => .object "GrantBook$Voucher"
abbrev wsX10 : List Cond := u_ws RX1 TX1 6
theorem nmX1 : ∀ a, a < 6 → ∀ b, b < 6 → a ≠ b → (TX1 a).2.1 ≠ (TX1 b).2.1 := by decide +kernel
theorem tyX1_ok : ∀ k, k < 6 → parseFieldDescriptor (TX1 k).2.2.1 = some (tyX1 k) := by decide +kernel
abbrev cX1_init : ByteArray := prog_3_method_1_code
def yX1_init : MethodName := ⟨RX1, "<init>", "(LGrantBook$Line;II)V"⟩
def RX2 : String := "GrantBook"
def TX2 : u_T := fun k => match k with
  | 0 => ("GrantBook", "grantAmount", "I", false)
  | 1 => ("GrantBook", "grantShare", "I", false)
  | 2 => ("GrantBook", "overheadRate", "I", false)
  | 3 => ("GrantBook", "overheadCeiling", "I", false)
  | 4 => ("GrantBook", "lineRows", "[LGrantBook$Line;", true)
  | 5 => ("GrantBook", "lineCount", "I", false)
  | 6 => ("GrantBook", "voucherRows", "[LGrantBook$Voucher;", true)
  | 7 => ("GrantBook", "voucherCount", "I", false)
  | 8 => ("GrantBook", "allMatch", "I", false)
  | 9 => ("GrantBook", "payments", "[I", true)
  | 10 => ("GrantBook", "claimCount", "I", false)
  | 11 => ("GrantBook", "lastClaimDay", "I", false)
  | _ => ("GrantBook", "paidInAll", "I", false)
def tyX2 : Nat → FieldType := fun k => match k with
  | 0 => .int
  | 1 => .int
  | 2 => .int
  | 3 => .int
  | 4 => .array (.object "GrantBook$Line")
  | 5 => .int
  | 6 => .array (.object "GrantBook$Voucher")
  | 7 => .int
  | 8 => .int
  | 9 => .array .int
  | 10 => .int
  | 11 => .int
  | _ => .int
abbrev wsX20 : List Cond := u_ws RX2 TX2 13
theorem nmX2 : ∀ a, a < 13 → ∀ b, b < 13 → a ≠ b → (TX2 a).2.1 ≠ (TX2 b).2.1 := by decide +kernel
theorem tyX2_ok : ∀ k, k < 13 → parseFieldDescriptor (TX2 k).2.2.1 = some (tyX2 k) := by decide +kernel
abbrev cX2_init : ByteArray := prog_1_method_1_code
def yX2_init : MethodName := ⟨RX2, "<init>", "()V"⟩
abbrev cX2_setGrant : ByteArray := prog_1_method_2_code
def yX2_setGrant : MethodName := ⟨RX2, "setGrant", "(IIII)V"⟩
abbrev cX2_addLine : ByteArray := prog_1_method_3_code
def yX2_addLine : MethodName := ⟨RX2, "addLine", "(IIIZ)I"⟩
abbrev cX2_extend : ByteArray := prog_1_method_4_code
def yX2_extend : MethodName := ⟨RX2, "extend", "(II)I"⟩
abbrev cX2_move : ByteArray := prog_1_method_5_code
def yX2_move : MethodName := ⟨RX2, "move", "(III)I"⟩
abbrev cX2_lines : ByteArray := prog_1_method_6_code
def yX2_lines : MethodName := ⟨RX2, "lines", "()I"⟩
abbrev cX2_room : ByteArray := prog_1_method_7_code
def yX2_room : MethodName := ⟨RX2, "room", "(I)I"⟩
abbrev cX2_left : ByteArray := prog_1_method_8_code
def yX2_left : MethodName := ⟨RX2, "left", "(I)I"⟩
abbrev cX2_spend : ByteArray := prog_1_method_9_code
def yX2_spend : MethodName := ⟨RX2, "spend", "(III)I"⟩
abbrev cX2_refuse : ByteArray := prog_1_method_10_code
def yX2_refuse : MethodName := ⟨RX2, "refuse", "(I)I"⟩
abbrev cX2_admit : ByteArray := prog_1_method_11_code
def yX2_admit : MethodName := ⟨RX2, "admit", "(I)I"⟩
abbrev cX2_match : ByteArray := prog_1_method_12_code
def yX2_match : MethodName := ⟨RX2, "match", "(I)I"⟩
abbrev cX2_vouchers : ByteArray := prog_1_method_13_code
def yX2_vouchers : MethodName := ⟨RX2, "vouchers", "()I"⟩
abbrev cX2_fits : ByteArray := prog_1_method_14_code
def yX2_fits : MethodName := ⟨RX2, "fits", "(I)Z"⟩
abbrev cX2_eligible : ByteArray := prog_1_method_15_code
def yX2_eligible : MethodName := ⟨RX2, "eligible", "(I)I"⟩
abbrev cX2_costs : ByteArray := prog_1_method_16_code
def yX2_costs : MethodName := ⟨RX2, "costs", "(I)I"⟩
abbrev cX2_overhead : ByteArray := prog_1_method_17_code
def yX2_overhead : MethodName := ⟨RX2, "overhead", "(I)I"⟩
abbrev cX2_earned : ByteArray := prog_1_method_18_code
def yX2_earned : MethodName := ⟨RX2, "earned", "(I)I"⟩
abbrev cX2_missingMatch : ByteArray := prog_1_method_19_code
def yX2_missingMatch : MethodName := ⟨RX2, "missingMatch", "(I)I"⟩
abbrev cX2_claim : ByteArray := prog_1_method_20_code
def yX2_claim : MethodName := ⟨RX2, "claim", "(I)I"⟩
abbrev cX2_claims : ByteArray := prog_1_method_21_code
def yX2_claims : MethodName := ⟨RX2, "claims", "()I"⟩
abbrev cX2_paid : ByteArray := prog_1_method_22_code
def yX2_paid : MethodName := ⟨RX2, "paid", "(I)I"⟩
abbrev cX2_unsettled : ByteArray := prog_1_method_23_code
def yX2_unsettled : MethodName := ⟨RX2, "unsettled", "()I"⟩
abbrev cX2_checkRange : ByteArray := prog_1_method_24_code
def yX2_checkRange : MethodName := ⟨RX2, "checkRange", "(III)V"⟩
abbrev cX2_checkDay : ByteArray := prog_1_method_25_code
def yX2_checkDay : MethodName := ⟨RX2, "checkDay", "(I)V"⟩
abbrev cX2_findLine : ByteArray := prog_1_method_26_code
def yX2_findLine : MethodName := ⟨RX2, "findLine", "(I)LGrantBook$Line;"⟩
abbrev cX2_findVoucher : ByteArray := prog_1_method_27_code
def yX2_findVoucher : MethodName := ⟨RX2, "findVoucher", "(I)LGrantBook$Voucher;"⟩
abbrev cX2_eligibleMoreWith : ByteArray := prog_1_method_28_code
def yX2_eligibleMoreWith : MethodName := ⟨RX2, "eligibleMoreWith", "(LGrantBook$Voucher;Z)I"⟩
abbrev cX2_costsUpTo : ByteArray := prog_1_method_29_code
def yX2_costsUpTo : MethodName := ⟨RX2, "costsUpTo", "(I)I"⟩
abbrev cX2_overheadUpTo : ByteArray := prog_1_method_30_code
def yX2_overheadUpTo : MethodName := ⟨RX2, "overheadUpTo", "(I)I"⟩
abbrev cX2_eligibleInAll : ByteArray := prog_1_method_31_code
def yX2_eligibleInAll : MethodName := ⟨RX2, "eligibleInAll", "(IZ)I"⟩
abbrev cX2_earnedUpTo : ByteArray := prog_1_method_32_code
def yX2_earnedUpTo : MethodName := ⟨RX2, "earnedUpTo", "(I)I"⟩
abbrev cX2_earnedButForMatch : ByteArray := prog_1_method_33_code
def yX2_earnedButForMatch : MethodName := ⟨RX2, "earnedButForMatch", "(I)J"⟩
abbrev cX2_leastMatchFor : ByteArray := prog_1_method_34_code
def yX2_leastMatchFor : MethodName := ⟨RX2, "leastMatchFor", "(J)J"⟩
def RX3 : String := "GrantBookModel"
def TX3 : u_T := fun k => match k with
  | 0 => ("GrantBookModel", "grant", "I", false)
  | 1 => ("GrantBookModel", "share", "I", false)
  | 2 => ("GrantBookModel", "rate", "I", false)
  | 3 => ("GrantBookModel", "ceiling", "I", false)
  | 4 => ("GrantBookModel", "lineMany", "I", false)
  | 5 => ("GrantBookModel", "budgets", "[I", true)
  | 6 => ("GrantBookModel", "firsts", "[I", true)
  | 7 => ("GrantBookModel", "lasts", "[I", true)
  | 8 => ("GrantBookModel", "isBase", "[Z", true)
  | 9 => ("GrantBookModel", "movedTo", "[I", true)
  | 10 => ("GrantBookModel", "movedAway", "[I", true)
  | 11 => ("GrantBookModel", "voucherMany", "I", false)
  | 12 => ("GrantBookModel", "lineOf", "[I", true)
  | 13 => ("GrantBookModel", "dayOf", "[I", true)
  | 14 => ("GrantBookModel", "amounts", "[I", true)
  | 15 => ("GrantBookModel", "isRefused", "[Z", true)
  | 16 => ("GrantBookModel", "order", "[I", true)
  | 17 => ("GrantBookModel", "allMatch", "I", false)
  | 18 => ("GrantBookModel", "claimMany", "I", false)
  | 19 => ("GrantBookModel", "claimDay", "I", false)
  | 20 => ("GrantBookModel", "claimPaid", "[I", true)
  | 21 => ("GrantBookModel", "thrown", "I", false)
  | 22 => ("GrantBookModel", "eligibles", "[I", true)
  | _ => ("GrantBookModel", "usedOf", "[I", true)
def tyX3 : Nat → FieldType := fun k => match k with
  | 0 => .int
  | 1 => .int
  | 2 => .int
  | 3 => .int
  | 4 => .int
  | 5 => .array .int
  | 6 => .array .int
  | 7 => .array .int
  | 8 => .array .boolean
  | 9 => .array .int
  | 10 => .array .int
  | 11 => .int
  | 12 => .array .int
  | 13 => .array .int
  | 14 => .array .int
  | 15 => .array .boolean
  | 16 => .array .int
  | 17 => .int
  | 18 => .int
  | 19 => .int
  | 20 => .array .int
  | 21 => .int
  | 22 => .array .int
  | _ => .array .int
abbrev wsX30 : List Cond := u_ws RX3 TX3 24
theorem nmX3 : ∀ a, a < 24 → ∀ b, b < 24 → a ≠ b → (TX3 a).2.1 ≠ (TX3 b).2.1 := by decide +kernel
theorem tyX3_ok : ∀ k, k < 24 → parseFieldDescriptor (TX3 k).2.2.1 = some (tyX3 k) := by decide +kernel
abbrev cX3_init : ByteArray := prog_5_method_1_code
def yX3_init : MethodName := ⟨RX3, "<init>", "()V"⟩
abbrev cX3_thrown : ByteArray := prog_5_method_2_code
def yX3_thrown : MethodName := ⟨RX3, "thrown", "()I"⟩
abbrev cX3_in : ByteArray := prog_5_method_3_code
def yX3_in : MethodName := ⟨RX3, "in", "(III)Z"⟩
abbrev cX3_isLine : ByteArray := prog_5_method_4_code
def yX3_isLine : MethodName := ⟨RX3, "isLine", "(I)Z"⟩
abbrev cX3_isVoucher : ByteArray := prog_5_method_5_code
def yX3_isVoucher : MethodName := ⟨RX3, "isVoucher", "(I)Z"⟩
abbrev cX3_setGrant : ByteArray := prog_5_method_6_code
def yX3_setGrant : MethodName := ⟨RX3, "setGrant", "(IIII)V"⟩
abbrev cX3_addLine : ByteArray := prog_5_method_7_code
def yX3_addLine : MethodName := ⟨RX3, "addLine", "(IIIZ)I"⟩
abbrev cX3_extend : ByteArray := prog_5_method_8_code
def yX3_extend : MethodName := ⟨RX3, "extend", "(II)I"⟩
abbrev cX3_roomOf : ByteArray := prog_5_method_9_code
def yX3_roomOf : MethodName := ⟨RX3, "roomOf", "(I)I"⟩
abbrev cX3_move : ByteArray := prog_5_method_10_code
def yX3_move : MethodName := ⟨RX3, "move", "(III)I"⟩
abbrev cX3_lines : ByteArray := prog_5_method_11_code
def yX3_lines : MethodName := ⟨RX3, "lines", "()I"⟩
abbrev cX3_room : ByteArray := prog_5_method_12_code
def yX3_room : MethodName := ⟨RX3, "room", "(I)I"⟩
abbrev cX3_isFit : ByteArray := prog_5_method_13_code
def yX3_isFit : MethodName := ⟨RX3, "isFit", "(I)Z"⟩
abbrev cX3_layEligibles : ByteArray := prog_5_method_14_code
def yX3_layEligibles : MethodName := ⟨RX3, "layEligibles", "()V"⟩
abbrev cX3_allEligible : ByteArray := prog_5_method_15_code
def yX3_allEligible : MethodName := ⟨RX3, "allEligible", "()I"⟩
abbrev cX3_left : ByteArray := prog_5_method_16_code
def yX3_left : MethodName := ⟨RX3, "left", "(I)I"⟩
abbrev cX3_spend : ByteArray := prog_5_method_17_code
def yX3_spend : MethodName := ⟨RX3, "spend", "(III)I"⟩
abbrev cX3_mark : ByteArray := prog_5_method_18_code
def yX3_mark : MethodName := ⟨RX3, "mark", "(IZ)I"⟩
abbrev cX3_refuse : ByteArray := prog_5_method_19_code
def yX3_refuse : MethodName := ⟨RX3, "refuse", "(I)I"⟩
abbrev cX3_admit : ByteArray := prog_5_method_20_code
def yX3_admit : MethodName := ⟨RX3, "admit", "(I)I"⟩
abbrev cX3_match : ByteArray := prog_5_method_21_code
def yX3_match : MethodName := ⟨RX3, "match", "(I)I"⟩
abbrev cX3_vouchers : ByteArray := prog_5_method_22_code
def yX3_vouchers : MethodName := ⟨RX3, "vouchers", "()I"⟩
abbrev cX3_fits : ByteArray := prog_5_method_23_code
def yX3_fits : MethodName := ⟨RX3, "fits", "(I)Z"⟩
abbrev cX3_eligible : ByteArray := prog_5_method_24_code
def yX3_eligible : MethodName := ⟨RX3, "eligible", "(I)I"⟩
abbrev cX3_costsTo : ByteArray := prog_5_method_25_code
def yX3_costsTo : MethodName := ⟨RX3, "costsTo", "(IZ)I"⟩
abbrev cX3_overheadTo : ByteArray := prog_5_method_26_code
def yX3_overheadTo : MethodName := ⟨RX3, "overheadTo", "(I)I"⟩
abbrev cX3_unbound : ByteArray := prog_5_method_27_code
def yX3_unbound : MethodName := ⟨RX3, "unbound", "(I)I"⟩
abbrev cX3_earnedTo : ByteArray := prog_5_method_28_code
def yX3_earnedTo : MethodName := ⟨RX3, "earnedTo", "(I)I"⟩
abbrev cX3_isDay : ByteArray := prog_5_method_29_code
def yX3_isDay : MethodName := ⟨RX3, "isDay", "(I)Z"⟩
abbrev cX3_costs : ByteArray := prog_5_method_30_code
def yX3_costs : MethodName := ⟨RX3, "costs", "(I)I"⟩
abbrev cX3_overhead : ByteArray := prog_5_method_31_code
def yX3_overhead : MethodName := ⟨RX3, "overhead", "(I)I"⟩
abbrev cX3_earned : ByteArray := prog_5_method_32_code
def yX3_earned : MethodName := ⟨RX3, "earned", "(I)I"⟩
abbrev cX3_missingMatch : ByteArray := prog_5_method_33_code
def yX3_missingMatch : MethodName := ⟨RX3, "missingMatch", "(I)I"⟩
abbrev cX3_paidSum : ByteArray := prog_5_method_34_code
def yX3_paidSum : MethodName := ⟨RX3, "paidSum", "()I"⟩
abbrev cX3_claim : ByteArray := prog_5_method_35_code
def yX3_claim : MethodName := ⟨RX3, "claim", "(I)I"⟩
abbrev cX3_claims : ByteArray := prog_5_method_36_code
def yX3_claims : MethodName := ⟨RX3, "claims", "()I"⟩
abbrev cX3_paid : ByteArray := prog_5_method_37_code
def yX3_paid : MethodName := ⟨RX3, "paid", "(I)I"⟩
abbrev cX3_unsettled : ByteArray := prog_5_method_38_code
def yX3_unsettled : MethodName := ⟨RX3, "unsettled", "()I"⟩
def RJ9 : String := "java/lang/Math"
def TJ9 : u_T := fun k => match k with
  | _ => ("", "", "", false)
def tyJ9 : Nat → FieldType := fun k => match k with
  | _ => .int
abbrev wsJ90 : List Cond := u_ws RJ9 TJ9 0
theorem nmJ9 : ∀ a, a < 0 → ∀ b, b < 0 → a ≠ b → (TJ9 a).2.1 ≠ (TJ9 b).2.1 := by decide +kernel
theorem tyJ9_ok : ∀ k, k < 0 → parseFieldDescriptor (TJ9 k).2.2.1 = some (tyJ9 k) := by decide +kernel
abbrev cJ9_max_f86c9 : ByteArray := prog_10_method_66_code
def yJ9_max_f86c9 : MethodName := ⟨RJ9, "max", "(JJ)J"⟩
abbrev cJ9_min_7cf53 : ByteArray := prog_10_method_69_code
def yJ9_min_7cf53 : MethodName := ⟨RJ9, "min", "(II)I"⟩
abbrev cJ9_min_f86c9 : ByteArray := prog_10_method_70_code
def yJ9_min_f86c9 : MethodName := ⟨RJ9, "min", "(JJ)J"⟩
def RJ0 : String := "java/lang/String"
def TJ0 : u_T := fun k => match k with
  | _ => ("", "", "", false)
def tyJ0 : Nat → FieldType := fun k => match k with
  | _ => .int
abbrev wsJ00 : List Cond := u_ws RJ0 TJ0 0
theorem nmJ0 : ∀ a, a < 0 → ∀ b, b < 0 → a ≠ b → (TJ0 a).2.1 ≠ (TJ0 b).2.1 := by decide +kernel
theorem tyJ0_ok : ∀ k, k < 0 → parseFieldDescriptor (TJ0 k).2.2.1 = some (tyJ0 k) := by decide +kernel
def RL : String := "GrantBookLaw"
abbrev cL_setGrant : ByteArray := method_3_code
def yL_setGrant : MethodName := ⟨RL, "setGrant", "(LGrantBook;IIII)I"⟩
abbrev cL_addLine : ByteArray := method_4_code
def yL_addLine : MethodName := ⟨RL, "addLine", "(LGrantBook;IIIZ[J)I"⟩
abbrev cL_extend : ByteArray := method_5_code
def yL_extend : MethodName := ⟨RL, "extend", "(LGrantBook;II[J)I"⟩
abbrev cL_move : ByteArray := method_6_code
def yL_move : MethodName := ⟨RL, "move", "(LGrantBook;III[J)I"⟩
abbrev cL_room : ByteArray := method_7_code
def yL_room : MethodName := ⟨RL, "room", "(LGrantBook;I[J)I"⟩
abbrev cL_left : ByteArray := method_8_code
def yL_left : MethodName := ⟨RL, "left", "(LGrantBook;I[J)I"⟩
abbrev cL_spend : ByteArray := method_9_code
def yL_spend : MethodName := ⟨RL, "spend", "(LGrantBook;III[J)I"⟩
abbrev cL_refuse : ByteArray := method_10_code
def yL_refuse : MethodName := ⟨RL, "refuse", "(LGrantBook;I[J)I"⟩
abbrev cL_admit : ByteArray := method_11_code
def yL_admit : MethodName := ⟨RL, "admit", "(LGrantBook;I[J)I"⟩
abbrev cL_match : ByteArray := method_12_code
def yL_match : MethodName := ⟨RL, "match", "(LGrantBook;I[J)I"⟩
abbrev cL_fits : ByteArray := method_13_code
def yL_fits : MethodName := ⟨RL, "fits", "(LGrantBook;I[J)I"⟩
abbrev cL_eligible : ByteArray := method_14_code
def yL_eligible : MethodName := ⟨RL, "eligible", "(LGrantBook;I[J)I"⟩
abbrev cL_costs : ByteArray := method_15_code
def yL_costs : MethodName := ⟨RL, "costs", "(LGrantBook;I[J)I"⟩
abbrev cL_overhead : ByteArray := method_16_code
def yL_overhead : MethodName := ⟨RL, "overhead", "(LGrantBook;I[J)I"⟩
abbrev cL_earned : ByteArray := method_17_code
def yL_earned : MethodName := ⟨RL, "earned", "(LGrantBook;I[J)I"⟩
abbrev cL_missingMatch : ByteArray := method_18_code
def yL_missingMatch : MethodName := ⟨RL, "missingMatch", "(LGrantBook;I[J)I"⟩
abbrev cL_claim : ByteArray := method_19_code
def yL_claim : MethodName := ⟨RL, "claim", "(LGrantBook;I[J)I"⟩
abbrev cL_paid : ByteArray := method_20_code
def yL_paid : MethodName := ⟨RL, "paid", "(LGrantBook;I[J)I"⟩
abbrev cL_law : ByteArray := code
def yL_law : MethodName := ⟨RL, "law", "([I)Z"⟩
def wsX0_init : List Cond := .code yX0_init cX0_init 5 none :: ([.methodLink RX0 1 objectInit, .instanceMethod objectInit, .code objectInit ⟨#[0xb1]⟩ 1 none, .fieldLink RX0 7 "GrantBook$Line" "movedIn" "I", .fieldLink RX0 13 "GrantBook$Line" "movedAway" "I", .fieldLink RX0 16 "GrantBook$Line" "earliest" "LGrantBook$Voucher;", .fieldLink RX0 20 "GrantBook$Line" "budget" "I", .fieldLink RX0 23 "GrantBook$Line" "first" "I", .fieldLink RX0 26 "GrantBook$Line" "last" "I", .fieldLink RX0 29 "GrantBook$Line" "isInBase" "Z"] ++ wsX00)
def wsX0_money : List Cond := .code yX0_money cX0_money 1 (some .int) :: ([.fieldLink RX0 20 "GrantBook$Line" "budget" "I", .fieldLink RX0 7 "GrantBook$Line" "movedIn" "I", .fieldLink RX0 13 "GrantBook$Line" "movedAway" "I"] ++ wsX00)
def wsX0_accepts : List Cond := .code yX0_accepts cX0_accepts 2 (some .boolean) :: ([.fieldLink RX0 33 "GrantBook$Voucher" "isRefused" "Z", .fieldLink RX0 38 "GrantBook$Voucher" "day" "I", .fieldLink RX0 23 "GrantBook$Line" "first" "I", .fieldLink RX0 26 "GrantBook$Line" "last" "I"] ++ wsX10 ++ wsX00)
def wsX0_putInOrder : List Cond := .code yX0_putInOrder cX0_putInOrder 4 none :: ([.fieldLink RX0 16 "GrantBook$Line" "earliest" "LGrantBook$Voucher;", .fieldLink RX0 38 "GrantBook$Voucher" "day" "I", .fieldLink RX0 41 "GrantBook$Voucher" "next" "LGrantBook$Voucher;"] ++ wsX00 ++ wsX10)
def wsX0_reckon : List Cond := .code yX0_reckon cX0_reckon 3 none :: ([.fieldLink RX0 16 "GrantBook$Line" "earliest" "LGrantBook$Voucher;", .fieldLink RX0 52 "GrantBook$Voucher" "amount" "I", .methodLink RX0 55 Lib.Math.min.name, .static Lib.Math.min.name, .initialized "java/lang/Math", .code Lib.Math.min.name Lib.Math.min.code 2 (some .int), .fieldLink RX0 61 "GrantBook$Voucher" "eligible" "I", .fieldLink RX0 41 "GrantBook$Voucher" "next" "LGrantBook$Voucher;", .methodLink RX0 44 yX0_money, .instanceMethod yX0_money, .selects RX0 yX0_money yX0_money, .initialized RX0, .code yX0_money cX0_money 1 (some .int), .fieldLink RX0 20 "GrantBook$Line" "budget" "I", .fieldLink RX0 7 "GrantBook$Line" "movedIn" "I", .fieldLink RX0 13 "GrantBook$Line" "movedAway" "I", .methodLink RX0 48 yX0_accepts, .instanceMethod yX0_accepts, .selects RX0 yX0_accepts yX0_accepts, .code yX0_accepts cX0_accepts 2 (some .boolean), .fieldLink RX0 33 "GrantBook$Voucher" "isRefused" "Z", .fieldLink RX0 38 "GrantBook$Voucher" "day" "I", .fieldLink RX0 23 "GrantBook$Line" "first" "I", .fieldLink RX0 26 "GrantBook$Line" "last" "I"] ++ wsX00 ++ wsX10)
def wsX0_eligibleUpTo : List Cond := .code yX0_eligibleUpTo cX0_eligibleUpTo 4 (some .int) :: ([.fieldLink RX0 16 "GrantBook$Line" "earliest" "LGrantBook$Voucher;", .fieldLink RX0 38 "GrantBook$Voucher" "day" "I", .fieldLink RX0 61 "GrantBook$Voucher" "eligible" "I", .fieldLink RX0 41 "GrantBook$Voucher" "next" "LGrantBook$Voucher;"] ++ wsX00 ++ wsX10)
def wsX1_init : List Cond := .code yX1_init cX1_init 4 none :: ([.methodLink RX1 1 objectInit, .instanceMethod objectInit, .code objectInit ⟨#[0xb1]⟩ 1 none, .fieldLink RX1 7 "GrantBook$Voucher" "isRefused" "Z", .fieldLink RX1 13 "GrantBook$Voucher" "eligible" "I", .fieldLink RX1 17 "GrantBook$Voucher" "next" "LGrantBook$Voucher;", .fieldLink RX1 21 "GrantBook$Voucher" "line" "LGrantBook$Line;", .fieldLink RX1 25 "GrantBook$Voucher" "day" "I", .fieldLink RX1 28 "GrantBook$Voucher" "amount" "I"] ++ wsX10)
def wsX2_init : List Cond := .code yX2_init cX2_init 1 none :: ([.methodLink RX2 1 objectInit, .instanceMethod objectInit, .code objectInit ⟨#[0xb1]⟩ 1 none, .constant RX2 7 (1000000), .fieldLink RX2 8 "GrantBook" "grantAmount" "I", .fieldLink RX2 14 "GrantBook" "grantShare" "I", .fieldLink RX2 17 "GrantBook" "overheadRate" "I", .constant RX2 20 (50000), .fieldLink RX2 21 "GrantBook" "overheadCeiling" "I", .classLink RX2 24 RX0, .fieldLink RX2 26 "GrantBook" "lineRows" "[LGrantBook$Line;", .fieldLink RX2 30 "GrantBook" "lineCount" "I", .classLink RX2 33 RX1, .fieldLink RX2 35 "GrantBook" "voucherRows" "[LGrantBook$Voucher;", .fieldLink RX2 39 "GrantBook" "voucherCount" "I", .fieldLink RX2 42 "GrantBook" "allMatch" "I", .arrayClass .int, .fieldLink RX2 45 "GrantBook" "payments" "[I", .fieldLink RX2 49 "GrantBook" "claimCount" "I", .fieldLink RX2 52 "GrantBook" "lastClaimDay" "I", .fieldLink RX2 55 "GrantBook" "paidInAll" "I"] ++ wsX20)
def wsX2_checkRange : List Cond := .code yX2_checkRange cX2_checkRange 3 none :: ([.classLink RX2 90 "java/lang/IllegalArgumentException", .initialized "java/lang/IllegalArgumentException"] ++ (vx_atS RX2 94 "java/lang/IllegalArgumentException" ["java/lang/RuntimeException", "java/lang/Exception"]).filter goodWord)
def wsX2_setGrant : List Cond := .code yX2_setGrant cX2_setGrant 5 none :: ([.classLink RX2 63 "java/lang/IllegalStateException", .initialized "java/lang/IllegalStateException", .constant RX2 58 (100000000), .fieldLink RX2 49 "GrantBook" "claimCount" "I", .fieldLink RX2 8 "GrantBook" "grantAmount" "I", .fieldLink RX2 14 "GrantBook" "grantShare" "I", .fieldLink RX2 17 "GrantBook" "overheadRate" "I", .fieldLink RX2 21 "GrantBook" "overheadCeiling" "I", .methodLink RX2 59 yX2_checkRange, .static yX2_checkRange, .initialized RX2, .code yX2_checkRange cX2_checkRange 3 none, .classLink RX2 90 "java/lang/IllegalArgumentException", .initialized "java/lang/IllegalArgumentException"] ++ wsX20 ++ (vx_atS RX2 67 "java/lang/IllegalStateException" ["java/lang/RuntimeException", "java/lang/Exception"]).filter goodWord ++ (vx_atS RX2 94 "java/lang/IllegalArgumentException" ["java/lang/RuntimeException", "java/lang/Exception"]).filter goodWord)
def wsX2_checkDay : List Cond := .code yX2_checkDay cX2_checkDay 1 none :: ([.methodLink RX2 59 yX2_checkRange, .static yX2_checkRange, .initialized RX2, .code yX2_checkRange cX2_checkRange 3 none, .classLink RX2 90 "java/lang/IllegalArgumentException", .initialized "java/lang/IllegalArgumentException"] ++ (vx_atS RX2 94 "java/lang/IllegalArgumentException" ["java/lang/RuntimeException", "java/lang/Exception"]).filter goodWord)
def wsX2_addLine_r1 : List Cond := [Cond.classLink RX2 63 "java/lang/IllegalStateException", Cond.initialized "java/lang/IllegalStateException", Cond.constant RX2 70 (10000000), Cond.fieldLink RX2 30 "GrantBook" "lineCount" "I", Cond.fieldLink RX2 26 "GrantBook" "lineRows" "[LGrantBook$Line;", Cond.classLink RX2 24 RX0, Cond.instantiable RX0 7, Cond.initialized RX0, Cond.methodLink RX2 59 yX2_checkRange, Cond.static yX2_checkRange, Cond.initialized RX2, Cond.code yX2_checkRange cX2_checkRange 3 none, Cond.classLink RX2 90 "java/lang/IllegalArgumentException", Cond.initialized "java/lang/IllegalArgumentException", Cond.methodLink RX2 71 yX2_checkDay, Cond.static yX2_checkDay, Cond.code yX2_checkDay cX2_checkDay 1 none, Cond.methodLink RX2 77 yX0_init, Cond.instanceMethod yX0_init, Cond.code yX0_init cX0_init 5 none, Cond.methodLink RX0 1 objectInit, Cond.instanceMethod objectInit, Cond.code objectInit ⟨#[0xb1]⟩ 1 none, Cond.fieldLink RX0 7 "GrantBook$Line" "movedIn" "I"]
def wsX2_addLine_r2 : List Cond := [Cond.fieldLink RX0 13 "GrantBook$Line" "movedAway" "I", Cond.fieldLink RX0 16 "GrantBook$Line" "earliest" "LGrantBook$Voucher;", Cond.fieldLink RX0 20 "GrantBook$Line" "budget" "I", Cond.fieldLink RX0 23 "GrantBook$Line" "first" "I", Cond.fieldLink RX0 26 "GrantBook$Line" "last" "I", Cond.fieldLink RX0 29 "GrantBook$Line" "isInBase" "Z"]
def wsX2_addLine : List Cond := .code yX2_addLine cX2_addLine 6 (some .int) :: ((wsX2_addLine_r1 ++ wsX2_addLine_r2) ++ wsX20 ++ wsX00 ++ (vx_atS RX2 67 "java/lang/IllegalStateException" ["java/lang/RuntimeException", "java/lang/Exception"]).filter goodWord ++ (vx_atS RX2 94 "java/lang/IllegalArgumentException" ["java/lang/RuntimeException", "java/lang/Exception"]).filter goodWord)
def wsX2_findLine : List Cond := .code yX2_findLine cX2_findLine 3 (some (.object "GrantBook$Line")) :: ([.classLink RX2 177 "java/lang/IndexOutOfBoundsException", .initialized "java/lang/IndexOutOfBoundsException", .fieldLink RX2 26 "GrantBook" "lineRows" "[LGrantBook$Line;"] ++ wsX20 ++ (vx_atS RX2 181 "java/lang/IndexOutOfBoundsException" ["java/lang/RuntimeException", "java/lang/Exception"]).filter goodWord)
def wsX2_extend_r1 : List Cond := [Cond.fieldLink RX2 84 "GrantBook$Line" "last" "I", Cond.methodLink RX2 80 yX2_findLine, Cond.instanceMethod yX2_findLine, Cond.selects RX2 yX2_findLine yX2_findLine, Cond.initialized RX2, Cond.code yX2_findLine cX2_findLine 3 (some (.object "GrantBook$Line")), Cond.classLink RX2 177 "java/lang/IndexOutOfBoundsException", Cond.initialized "java/lang/IndexOutOfBoundsException", Cond.fieldLink RX2 26 "GrantBook" "lineRows" "[LGrantBook$Line;", Cond.methodLink RX2 59 yX2_checkRange, Cond.static yX2_checkRange, Cond.code yX2_checkRange cX2_checkRange 3 none, Cond.classLink RX2 90 "java/lang/IllegalArgumentException", Cond.initialized "java/lang/IllegalArgumentException", Cond.methodLink RX2 87 yX0_reckon, Cond.instanceMethod yX0_reckon, Cond.selects RX0 yX0_reckon yX0_reckon, Cond.initialized RX0, Cond.code yX0_reckon cX0_reckon 3 none, Cond.fieldLink RX0 16 "GrantBook$Line" "earliest" "LGrantBook$Voucher;", Cond.fieldLink RX0 52 "GrantBook$Voucher" "amount" "I", Cond.methodLink RX0 55 Lib.Math.min.name, Cond.static Lib.Math.min.name, Cond.initialized "java/lang/Math"]
def wsX2_extend_r2 : List Cond := [Cond.code Lib.Math.min.name Lib.Math.min.code 2 (some .int), Cond.fieldLink RX0 61 "GrantBook$Voucher" "eligible" "I", Cond.fieldLink RX0 41 "GrantBook$Voucher" "next" "LGrantBook$Voucher;", Cond.methodLink RX0 44 yX0_money, Cond.instanceMethod yX0_money, Cond.selects RX0 yX0_money yX0_money, Cond.code yX0_money cX0_money 1 (some .int), Cond.fieldLink RX0 20 "GrantBook$Line" "budget" "I", Cond.fieldLink RX0 7 "GrantBook$Line" "movedIn" "I", Cond.fieldLink RX0 13 "GrantBook$Line" "movedAway" "I", Cond.methodLink RX0 48 yX0_accepts, Cond.instanceMethod yX0_accepts, Cond.selects RX0 yX0_accepts yX0_accepts, Cond.code yX0_accepts cX0_accepts 2 (some .boolean), Cond.fieldLink RX0 33 "GrantBook$Voucher" "isRefused" "Z", Cond.fieldLink RX0 38 "GrantBook$Voucher" "day" "I", Cond.fieldLink RX0 23 "GrantBook$Line" "first" "I", Cond.fieldLink RX0 26 "GrantBook$Line" "last" "I"]
def wsX2_extend : List Cond := .code yX2_extend cX2_extend 5 (some .int) :: ((wsX2_extend_r1 ++ wsX2_extend_r2) ++ wsX00 ++ wsX20 ++ wsX10 ++ (vx_atS RX2 181 "java/lang/IndexOutOfBoundsException" ["java/lang/RuntimeException", "java/lang/Exception"]).filter goodWord ++ (vx_atS RX2 94 "java/lang/IllegalArgumentException" ["java/lang/RuntimeException", "java/lang/Exception"]).filter goodWord)
def wsX2_move_r1 : List Cond := [Cond.classLink RX2 90 "java/lang/IllegalArgumentException", Cond.initialized "java/lang/IllegalArgumentException", Cond.classLink RX2 63 "java/lang/IllegalStateException", Cond.initialized "java/lang/IllegalStateException", Cond.constant RX2 70 (10000000), Cond.fieldLink RX2 95 "GrantBook$Line" "movedAway" "I", Cond.fieldLink RX2 98 "GrantBook$Line" "budget" "I", Cond.fieldLink RX2 103 "GrantBook$Line" "movedIn" "I", Cond.methodLink RX2 80 yX2_findLine, Cond.instanceMethod yX2_findLine, Cond.selects RX2 yX2_findLine yX2_findLine, Cond.initialized RX2, Cond.code yX2_findLine cX2_findLine 3 (some (.object "GrantBook$Line")), Cond.classLink RX2 177 "java/lang/IndexOutOfBoundsException", Cond.initialized "java/lang/IndexOutOfBoundsException", Cond.fieldLink RX2 26 "GrantBook" "lineRows" "[LGrantBook$Line;", Cond.methodLink RX2 59 yX2_checkRange, Cond.static yX2_checkRange, Cond.code yX2_checkRange cX2_checkRange 3 none, Cond.methodLink RX2 87 yX0_reckon, Cond.instanceMethod yX0_reckon, Cond.selects RX0 yX0_reckon yX0_reckon, Cond.initialized RX0, Cond.code yX0_reckon cX0_reckon 3 none]
def wsX2_move_r2 : List Cond := [Cond.fieldLink RX0 16 "GrantBook$Line" "earliest" "LGrantBook$Voucher;", Cond.fieldLink RX0 52 "GrantBook$Voucher" "amount" "I", Cond.methodLink RX0 55 Lib.Math.min.name, Cond.static Lib.Math.min.name, Cond.initialized "java/lang/Math", Cond.code Lib.Math.min.name Lib.Math.min.code 2 (some .int), Cond.fieldLink RX0 61 "GrantBook$Voucher" "eligible" "I", Cond.fieldLink RX0 41 "GrantBook$Voucher" "next" "LGrantBook$Voucher;", Cond.methodLink RX0 44 yX0_money, Cond.instanceMethod yX0_money, Cond.selects RX0 yX0_money yX0_money, Cond.code yX0_money cX0_money 1 (some .int), Cond.fieldLink RX0 20 "GrantBook$Line" "budget" "I", Cond.fieldLink RX0 7 "GrantBook$Line" "movedIn" "I", Cond.fieldLink RX0 13 "GrantBook$Line" "movedAway" "I", Cond.methodLink RX0 48 yX0_accepts, Cond.instanceMethod yX0_accepts, Cond.selects RX0 yX0_accepts yX0_accepts, Cond.code yX0_accepts cX0_accepts 2 (some .boolean), Cond.fieldLink RX0 33 "GrantBook$Voucher" "isRefused" "Z", Cond.fieldLink RX0 38 "GrantBook$Voucher" "day" "I", Cond.fieldLink RX0 23 "GrantBook$Line" "first" "I", Cond.fieldLink RX0 26 "GrantBook$Line" "last" "I", Cond.methodLink RX2 106 yX0_money]
def wsX2_move : List Cond := .code yX2_move cX2_move 6 (some .int) :: ((wsX2_move_r1 ++ wsX2_move_r2) ++ wsX00 ++ wsX20 ++ wsX10 ++ (vx_atS RX2 94 "java/lang/IllegalArgumentException" ["java/lang/RuntimeException", "java/lang/Exception"]).filter goodWord ++ (vx_atS RX2 67 "java/lang/IllegalStateException" ["java/lang/RuntimeException", "java/lang/Exception"]).filter goodWord ++ (vx_atS RX2 181 "java/lang/IndexOutOfBoundsException" ["java/lang/RuntimeException", "java/lang/Exception"]).filter goodWord)
def wsX2_lines : List Cond := .code yX2_lines cX2_lines 1 (some .int) :: ([.fieldLink RX2 30 "GrantBook" "lineCount" "I"] ++ wsX20)
def wsX2_room : List Cond := .code yX2_room cX2_room 2 (some .int) :: ([.methodLink RX2 80 yX2_findLine, .instanceMethod yX2_findLine, .selects RX2 yX2_findLine yX2_findLine, .initialized RX2, .code yX2_findLine cX2_findLine 3 (some (.object "GrantBook$Line")), .classLink RX2 177 "java/lang/IndexOutOfBoundsException", .initialized "java/lang/IndexOutOfBoundsException", .fieldLink RX2 26 "GrantBook" "lineRows" "[LGrantBook$Line;", .methodLink RX2 106 yX0_money, .instanceMethod yX0_money, .selects RX0 yX0_money yX0_money, .initialized RX0, .code yX0_money cX0_money 1 (some .int), .fieldLink RX0 20 "GrantBook$Line" "budget" "I", .fieldLink RX0 7 "GrantBook$Line" "movedIn" "I", .fieldLink RX0 13 "GrantBook$Line" "movedAway" "I"] ++ wsX20 ++ wsX00 ++ (vx_atS RX2 181 "java/lang/IndexOutOfBoundsException" ["java/lang/RuntimeException", "java/lang/Exception"]).filter goodWord)
def wsX2_left : List Cond := .code yX2_left cX2_left 3 (some .int) :: ([.methodLink RX2 80 yX2_findLine, .instanceMethod yX2_findLine, .selects RX2 yX2_findLine yX2_findLine, .initialized RX2, .code yX2_findLine cX2_findLine 3 (some (.object "GrantBook$Line")), .classLink RX2 177 "java/lang/IndexOutOfBoundsException", .initialized "java/lang/IndexOutOfBoundsException", .fieldLink RX2 26 "GrantBook" "lineRows" "[LGrantBook$Line;", .methodLink RX2 106 yX0_money, .instanceMethod yX0_money, .selects RX0 yX0_money yX0_money, .initialized RX0, .code yX0_money cX0_money 1 (some .int), .fieldLink RX0 20 "GrantBook$Line" "budget" "I", .fieldLink RX0 7 "GrantBook$Line" "movedIn" "I", .fieldLink RX0 13 "GrantBook$Line" "movedAway" "I", .methodLink RX2 110 yX0_eligibleUpTo, .instanceMethod yX0_eligibleUpTo, .selects RX0 yX0_eligibleUpTo yX0_eligibleUpTo, .code yX0_eligibleUpTo cX0_eligibleUpTo 4 (some .int), .fieldLink RX0 16 "GrantBook$Line" "earliest" "LGrantBook$Voucher;", .fieldLink RX0 38 "GrantBook$Voucher" "day" "I", .fieldLink RX0 61 "GrantBook$Voucher" "eligible" "I", .fieldLink RX0 41 "GrantBook$Voucher" "next" "LGrantBook$Voucher;"] ++ wsX20 ++ wsX00 ++ wsX10 ++ (vx_atS RX2 181 "java/lang/IndexOutOfBoundsException" ["java/lang/RuntimeException", "java/lang/Exception"]).filter goodWord)
def wsX2_spend_r1 : List Cond := [Cond.classLink RX2 63 "java/lang/IllegalStateException", Cond.initialized "java/lang/IllegalStateException", Cond.constant RX2 70 (10000000), Cond.fieldLink RX2 39 "GrantBook" "voucherCount" "I", Cond.fieldLink RX2 35 "GrantBook" "voucherRows" "[LGrantBook$Voucher;", Cond.classLink RX2 33 RX1, Cond.instantiable RX1 6, Cond.initialized RX1, Cond.methodLink RX2 80 yX2_findLine, Cond.instanceMethod yX2_findLine, Cond.selects RX2 yX2_findLine yX2_findLine, Cond.initialized RX2, Cond.code yX2_findLine cX2_findLine 3 (some (.object "GrantBook$Line")), Cond.classLink RX2 177 "java/lang/IndexOutOfBoundsException", Cond.initialized "java/lang/IndexOutOfBoundsException", Cond.fieldLink RX2 26 "GrantBook" "lineRows" "[LGrantBook$Line;", Cond.methodLink RX2 71 yX2_checkDay, Cond.static yX2_checkDay, Cond.code yX2_checkDay cX2_checkDay 1 none, Cond.methodLink RX2 59 yX2_checkRange, Cond.static yX2_checkRange, Cond.code yX2_checkRange cX2_checkRange 3 none, Cond.classLink RX2 90 "java/lang/IllegalArgumentException", Cond.initialized "java/lang/IllegalArgumentException"]
def wsX2_spend_r2 : List Cond := [Cond.methodLink RX2 116 yX1_init, Cond.instanceMethod yX1_init, Cond.code yX1_init cX1_init 4 none, Cond.methodLink RX1 1 objectInit, Cond.instanceMethod objectInit, Cond.code objectInit ⟨#[0xb1]⟩ 1 none, Cond.fieldLink RX1 7 "GrantBook$Voucher" "isRefused" "Z", Cond.fieldLink RX1 13 "GrantBook$Voucher" "eligible" "I", Cond.fieldLink RX1 17 "GrantBook$Voucher" "next" "LGrantBook$Voucher;", Cond.fieldLink RX1 21 "GrantBook$Voucher" "line" "LGrantBook$Line;", Cond.fieldLink RX1 25 "GrantBook$Voucher" "day" "I", Cond.fieldLink RX1 28 "GrantBook$Voucher" "amount" "I", Cond.methodLink RX2 119 yX0_putInOrder, Cond.instanceMethod yX0_putInOrder, Cond.selects RX0 yX0_putInOrder yX0_putInOrder, Cond.initialized RX0, Cond.code yX0_putInOrder cX0_putInOrder 4 none, Cond.fieldLink RX0 16 "GrantBook$Line" "earliest" "LGrantBook$Voucher;", Cond.fieldLink RX0 38 "GrantBook$Voucher" "day" "I", Cond.fieldLink RX0 41 "GrantBook$Voucher" "next" "LGrantBook$Voucher;", Cond.methodLink RX2 87 yX0_reckon, Cond.instanceMethod yX0_reckon, Cond.selects RX0 yX0_reckon yX0_reckon, Cond.code yX0_reckon cX0_reckon 3 none]
def wsX2_spend_r3 : List Cond := [Cond.fieldLink RX0 52 "GrantBook$Voucher" "amount" "I", Cond.methodLink RX0 55 Lib.Math.min.name, Cond.static Lib.Math.min.name, Cond.initialized "java/lang/Math", Cond.code Lib.Math.min.name Lib.Math.min.code 2 (some .int), Cond.fieldLink RX0 61 "GrantBook$Voucher" "eligible" "I", Cond.methodLink RX0 44 yX0_money, Cond.instanceMethod yX0_money, Cond.selects RX0 yX0_money yX0_money, Cond.code yX0_money cX0_money 1 (some .int), Cond.fieldLink RX0 20 "GrantBook$Line" "budget" "I", Cond.fieldLink RX0 7 "GrantBook$Line" "movedIn" "I", Cond.fieldLink RX0 13 "GrantBook$Line" "movedAway" "I", Cond.methodLink RX0 48 yX0_accepts, Cond.instanceMethod yX0_accepts, Cond.selects RX0 yX0_accepts yX0_accepts, Cond.code yX0_accepts cX0_accepts 2 (some .boolean), Cond.fieldLink RX0 33 "GrantBook$Voucher" "isRefused" "Z", Cond.fieldLink RX0 23 "GrantBook$Line" "first" "I", Cond.fieldLink RX0 26 "GrantBook$Line" "last" "I"]
def wsX2_spend : List Cond := .code yX2_spend cX2_spend 7 (some .int) :: ((wsX2_spend_r1 ++ (wsX2_spend_r2 ++ wsX2_spend_r3)) ++ wsX20 ++ wsX10 ++ wsX00 ++ (vx_atS RX2 67 "java/lang/IllegalStateException" ["java/lang/RuntimeException", "java/lang/Exception"]).filter goodWord ++ (vx_atS RX2 181 "java/lang/IndexOutOfBoundsException" ["java/lang/RuntimeException", "java/lang/Exception"]).filter goodWord ++ (vx_atS RX2 94 "java/lang/IllegalArgumentException" ["java/lang/RuntimeException", "java/lang/Exception"]).filter goodWord)
def wsX2_findVoucher : List Cond := .code yX2_findVoucher cX2_findVoucher 3 (some (.object "GrantBook$Voucher")) :: ([.classLink RX2 177 "java/lang/IndexOutOfBoundsException", .initialized "java/lang/IndexOutOfBoundsException", .fieldLink RX2 35 "GrantBook" "voucherRows" "[LGrantBook$Voucher;"] ++ wsX20 ++ (vx_atS RX2 181 "java/lang/IndexOutOfBoundsException" ["java/lang/RuntimeException", "java/lang/Exception"]).filter goodWord)
def wsX2_eligibleMoreWith_r1 : List Cond := [Cond.fieldLink RX2 141 "GrantBook$Voucher" "line" "LGrantBook$Line;", Cond.fieldLink RX2 127 "GrantBook$Voucher" "isRefused" "Z", Cond.methodLink RX2 110 yX0_eligibleUpTo, Cond.instanceMethod yX0_eligibleUpTo, Cond.selects RX0 yX0_eligibleUpTo yX0_eligibleUpTo, Cond.initialized RX0, Cond.code yX0_eligibleUpTo cX0_eligibleUpTo 4 (some .int), Cond.fieldLink RX0 16 "GrantBook$Line" "earliest" "LGrantBook$Voucher;", Cond.fieldLink RX0 38 "GrantBook$Voucher" "day" "I", Cond.fieldLink RX0 61 "GrantBook$Voucher" "eligible" "I", Cond.fieldLink RX0 41 "GrantBook$Voucher" "next" "LGrantBook$Voucher;", Cond.methodLink RX2 87 yX0_reckon, Cond.instanceMethod yX0_reckon, Cond.selects RX0 yX0_reckon yX0_reckon, Cond.code yX0_reckon cX0_reckon 3 none, Cond.fieldLink RX0 52 "GrantBook$Voucher" "amount" "I", Cond.methodLink RX0 55 Lib.Math.min.name, Cond.static Lib.Math.min.name, Cond.initialized "java/lang/Math", Cond.code Lib.Math.min.name Lib.Math.min.code 2 (some .int), Cond.methodLink RX0 44 yX0_money, Cond.instanceMethod yX0_money, Cond.selects RX0 yX0_money yX0_money, Cond.code yX0_money cX0_money 1 (some .int)]
def wsX2_eligibleMoreWith_r2 : List Cond := [Cond.fieldLink RX0 20 "GrantBook$Line" "budget" "I", Cond.fieldLink RX0 7 "GrantBook$Line" "movedIn" "I", Cond.fieldLink RX0 13 "GrantBook$Line" "movedAway" "I", Cond.methodLink RX0 48 yX0_accepts, Cond.instanceMethod yX0_accepts, Cond.selects RX0 yX0_accepts yX0_accepts, Cond.code yX0_accepts cX0_accepts 2 (some .boolean), Cond.fieldLink RX0 33 "GrantBook$Voucher" "isRefused" "Z", Cond.fieldLink RX0 23 "GrantBook$Line" "first" "I", Cond.fieldLink RX0 26 "GrantBook$Line" "last" "I"]
def wsX2_eligibleMoreWith : List Cond := .code yX2_eligibleMoreWith cX2_eligibleMoreWith 4 (some .int) :: ((wsX2_eligibleMoreWith_r1 ++ wsX2_eligibleMoreWith_r2) ++ wsX10 ++ wsX00)
def wsX2_refuse_r1 : List Cond := [Cond.classLink RX2 63 "java/lang/IllegalStateException", Cond.initialized "java/lang/IllegalStateException", Cond.fieldLink RX2 127 "GrantBook$Voucher" "isRefused" "Z", Cond.methodLink RX2 123 yX2_findVoucher, Cond.instanceMethod yX2_findVoucher, Cond.selects RX2 yX2_findVoucher yX2_findVoucher, Cond.initialized RX2, Cond.code yX2_findVoucher cX2_findVoucher 3 (some (.object "GrantBook$Voucher")), Cond.classLink RX2 177 "java/lang/IndexOutOfBoundsException", Cond.initialized "java/lang/IndexOutOfBoundsException", Cond.fieldLink RX2 35 "GrantBook" "voucherRows" "[LGrantBook$Voucher;", Cond.methodLink RX2 133 yX2_eligibleMoreWith, Cond.static yX2_eligibleMoreWith, Cond.code yX2_eligibleMoreWith cX2_eligibleMoreWith 4 (some .int), Cond.fieldLink RX2 141 "GrantBook$Voucher" "line" "LGrantBook$Line;", Cond.methodLink RX2 110 yX0_eligibleUpTo, Cond.instanceMethod yX0_eligibleUpTo, Cond.selects RX0 yX0_eligibleUpTo yX0_eligibleUpTo, Cond.initialized RX0, Cond.code yX0_eligibleUpTo cX0_eligibleUpTo 4 (some .int), Cond.fieldLink RX0 16 "GrantBook$Line" "earliest" "LGrantBook$Voucher;", Cond.fieldLink RX0 38 "GrantBook$Voucher" "day" "I", Cond.fieldLink RX0 61 "GrantBook$Voucher" "eligible" "I", Cond.fieldLink RX0 41 "GrantBook$Voucher" "next" "LGrantBook$Voucher;"]
def wsX2_refuse_r2 : List Cond := [Cond.methodLink RX2 87 yX0_reckon, Cond.instanceMethod yX0_reckon, Cond.selects RX0 yX0_reckon yX0_reckon, Cond.code yX0_reckon cX0_reckon 3 none, Cond.fieldLink RX0 52 "GrantBook$Voucher" "amount" "I", Cond.methodLink RX0 55 Lib.Math.min.name, Cond.static Lib.Math.min.name, Cond.initialized "java/lang/Math", Cond.code Lib.Math.min.name Lib.Math.min.code 2 (some .int), Cond.methodLink RX0 44 yX0_money, Cond.instanceMethod yX0_money, Cond.selects RX0 yX0_money yX0_money, Cond.code yX0_money cX0_money 1 (some .int), Cond.fieldLink RX0 20 "GrantBook$Line" "budget" "I", Cond.fieldLink RX0 7 "GrantBook$Line" "movedIn" "I", Cond.fieldLink RX0 13 "GrantBook$Line" "movedAway" "I", Cond.methodLink RX0 48 yX0_accepts, Cond.instanceMethod yX0_accepts, Cond.selects RX0 yX0_accepts yX0_accepts, Cond.code yX0_accepts cX0_accepts 2 (some .boolean), Cond.fieldLink RX0 33 "GrantBook$Voucher" "isRefused" "Z", Cond.fieldLink RX0 23 "GrantBook$Line" "first" "I", Cond.fieldLink RX0 26 "GrantBook$Line" "last" "I"]
def wsX2_refuse : List Cond := .code yX2_refuse cX2_refuse 3 (some .int) :: ((wsX2_refuse_r1 ++ wsX2_refuse_r2) ++ wsX10 ++ wsX20 ++ wsX00 ++ (vx_atS RX2 67 "java/lang/IllegalStateException" ["java/lang/RuntimeException", "java/lang/Exception"]).filter goodWord ++ (vx_atS RX2 181 "java/lang/IndexOutOfBoundsException" ["java/lang/RuntimeException", "java/lang/Exception"]).filter goodWord)
def wsX2_admit_r1 : List Cond := [Cond.classLink RX2 63 "java/lang/IllegalStateException", Cond.initialized "java/lang/IllegalStateException", Cond.fieldLink RX2 127 "GrantBook$Voucher" "isRefused" "Z", Cond.methodLink RX2 123 yX2_findVoucher, Cond.instanceMethod yX2_findVoucher, Cond.selects RX2 yX2_findVoucher yX2_findVoucher, Cond.initialized RX2, Cond.code yX2_findVoucher cX2_findVoucher 3 (some (.object "GrantBook$Voucher")), Cond.classLink RX2 177 "java/lang/IndexOutOfBoundsException", Cond.initialized "java/lang/IndexOutOfBoundsException", Cond.fieldLink RX2 35 "GrantBook" "voucherRows" "[LGrantBook$Voucher;", Cond.methodLink RX2 133 yX2_eligibleMoreWith, Cond.static yX2_eligibleMoreWith, Cond.code yX2_eligibleMoreWith cX2_eligibleMoreWith 4 (some .int), Cond.fieldLink RX2 141 "GrantBook$Voucher" "line" "LGrantBook$Line;", Cond.methodLink RX2 110 yX0_eligibleUpTo, Cond.instanceMethod yX0_eligibleUpTo, Cond.selects RX0 yX0_eligibleUpTo yX0_eligibleUpTo, Cond.initialized RX0, Cond.code yX0_eligibleUpTo cX0_eligibleUpTo 4 (some .int), Cond.fieldLink RX0 16 "GrantBook$Line" "earliest" "LGrantBook$Voucher;", Cond.fieldLink RX0 38 "GrantBook$Voucher" "day" "I", Cond.fieldLink RX0 61 "GrantBook$Voucher" "eligible" "I", Cond.fieldLink RX0 41 "GrantBook$Voucher" "next" "LGrantBook$Voucher;"]
def wsX2_admit_r2 : List Cond := [Cond.methodLink RX2 87 yX0_reckon, Cond.instanceMethod yX0_reckon, Cond.selects RX0 yX0_reckon yX0_reckon, Cond.code yX0_reckon cX0_reckon 3 none, Cond.fieldLink RX0 52 "GrantBook$Voucher" "amount" "I", Cond.methodLink RX0 55 Lib.Math.min.name, Cond.static Lib.Math.min.name, Cond.initialized "java/lang/Math", Cond.code Lib.Math.min.name Lib.Math.min.code 2 (some .int), Cond.methodLink RX0 44 yX0_money, Cond.instanceMethod yX0_money, Cond.selects RX0 yX0_money yX0_money, Cond.code yX0_money cX0_money 1 (some .int), Cond.fieldLink RX0 20 "GrantBook$Line" "budget" "I", Cond.fieldLink RX0 7 "GrantBook$Line" "movedIn" "I", Cond.fieldLink RX0 13 "GrantBook$Line" "movedAway" "I", Cond.methodLink RX0 48 yX0_accepts, Cond.instanceMethod yX0_accepts, Cond.selects RX0 yX0_accepts yX0_accepts, Cond.code yX0_accepts cX0_accepts 2 (some .boolean), Cond.fieldLink RX0 33 "GrantBook$Voucher" "isRefused" "Z", Cond.fieldLink RX0 23 "GrantBook$Line" "first" "I", Cond.fieldLink RX0 26 "GrantBook$Line" "last" "I"]
def wsX2_admit : List Cond := .code yX2_admit cX2_admit 3 (some .int) :: ((wsX2_admit_r1 ++ wsX2_admit_r2) ++ wsX10 ++ wsX20 ++ wsX00 ++ (vx_atS RX2 67 "java/lang/IllegalStateException" ["java/lang/RuntimeException", "java/lang/Exception"]).filter goodWord ++ (vx_atS RX2 181 "java/lang/IndexOutOfBoundsException" ["java/lang/RuntimeException", "java/lang/Exception"]).filter goodWord)
def wsX2_match : List Cond := .code yX2_match cX2_match 2 (some .int) :: ([.classLink RX2 63 "java/lang/IllegalStateException", .initialized "java/lang/IllegalStateException", .constant RX2 70 (10000000), .fieldLink RX2 42 "GrantBook" "allMatch" "I", .constant RX2 58 (100000000), .methodLink RX2 59 yX2_checkRange, .static yX2_checkRange, .initialized RX2, .code yX2_checkRange cX2_checkRange 3 none, .classLink RX2 90 "java/lang/IllegalArgumentException", .initialized "java/lang/IllegalArgumentException"] ++ wsX20 ++ (vx_atS RX2 67 "java/lang/IllegalStateException" ["java/lang/RuntimeException", "java/lang/Exception"]).filter goodWord ++ (vx_atS RX2 94 "java/lang/IllegalArgumentException" ["java/lang/RuntimeException", "java/lang/Exception"]).filter goodWord)
def wsX2_vouchers : List Cond := .code yX2_vouchers cX2_vouchers 1 (some .int) :: ([.fieldLink RX2 39 "GrantBook" "voucherCount" "I"] ++ wsX20)
def wsX2_fits : List Cond := .code yX2_fits cX2_fits 3 (some .boolean) :: ([.fieldLink RX2 141 "GrantBook$Voucher" "line" "LGrantBook$Line;", .methodLink RX2 123 yX2_findVoucher, .instanceMethod yX2_findVoucher, .selects RX2 yX2_findVoucher yX2_findVoucher, .initialized RX2, .code yX2_findVoucher cX2_findVoucher 3 (some (.object "GrantBook$Voucher")), .classLink RX2 177 "java/lang/IndexOutOfBoundsException", .initialized "java/lang/IndexOutOfBoundsException", .fieldLink RX2 35 "GrantBook" "voucherRows" "[LGrantBook$Voucher;", .methodLink RX2 145 yX0_accepts, .instanceMethod yX0_accepts, .selects RX0 yX0_accepts yX0_accepts, .initialized RX0, .code yX0_accepts cX0_accepts 2 (some .boolean), .fieldLink RX0 33 "GrantBook$Voucher" "isRefused" "Z", .fieldLink RX0 38 "GrantBook$Voucher" "day" "I", .fieldLink RX0 23 "GrantBook$Line" "first" "I", .fieldLink RX0 26 "GrantBook$Line" "last" "I"] ++ wsX10 ++ wsX20 ++ wsX00 ++ (vx_atS RX2 181 "java/lang/IndexOutOfBoundsException" ["java/lang/RuntimeException", "java/lang/Exception"]).filter goodWord)
def wsX2_eligible : List Cond := .code yX2_eligible cX2_eligible 2 (some .int) :: ([.fieldLink RX2 149 "GrantBook$Voucher" "eligible" "I", .methodLink RX2 123 yX2_findVoucher, .instanceMethod yX2_findVoucher, .selects RX2 yX2_findVoucher yX2_findVoucher, .initialized RX2, .code yX2_findVoucher cX2_findVoucher 3 (some (.object "GrantBook$Voucher")), .classLink RX2 177 "java/lang/IndexOutOfBoundsException", .initialized "java/lang/IndexOutOfBoundsException", .fieldLink RX2 35 "GrantBook" "voucherRows" "[LGrantBook$Voucher;"] ++ wsX10 ++ wsX20 ++ (vx_atS RX2 181 "java/lang/IndexOutOfBoundsException" ["java/lang/RuntimeException", "java/lang/Exception"]).filter goodWord)
def wsX2_eligibleInAll : List Cond := .code yX2_eligibleInAll cX2_eligibleInAll 8 (some .int) :: ([.fieldLink RX2 26 "GrantBook" "lineRows" "[LGrantBook$Line;", .fieldLink RX2 197 "GrantBook$Line" "isInBase" "Z", .methodLink RX2 110 yX0_eligibleUpTo, .instanceMethod yX0_eligibleUpTo, .selects RX0 yX0_eligibleUpTo yX0_eligibleUpTo, .initialized RX0, .code yX0_eligibleUpTo cX0_eligibleUpTo 4 (some .int), .fieldLink RX0 16 "GrantBook$Line" "earliest" "LGrantBook$Voucher;", .fieldLink RX0 38 "GrantBook$Voucher" "day" "I", .fieldLink RX0 61 "GrantBook$Voucher" "eligible" "I", .fieldLink RX0 41 "GrantBook$Voucher" "next" "LGrantBook$Voucher;"] ++ wsX20 ++ wsX00 ++ wsX10)
def wsX2_costsUpTo : List Cond := .code yX2_costsUpTo cX2_costsUpTo 2 (some .int) :: ([.methodLink RX2 188 yX2_eligibleInAll, .instanceMethod yX2_eligibleInAll, .selects RX2 yX2_eligibleInAll yX2_eligibleInAll, .initialized RX2, .code yX2_eligibleInAll cX2_eligibleInAll 8 (some .int), .fieldLink RX2 26 "GrantBook" "lineRows" "[LGrantBook$Line;", .fieldLink RX2 197 "GrantBook$Line" "isInBase" "Z", .methodLink RX2 110 yX0_eligibleUpTo, .instanceMethod yX0_eligibleUpTo, .selects RX0 yX0_eligibleUpTo yX0_eligibleUpTo, .initialized RX0, .code yX0_eligibleUpTo cX0_eligibleUpTo 4 (some .int), .fieldLink RX0 16 "GrantBook$Line" "earliest" "LGrantBook$Voucher;", .fieldLink RX0 38 "GrantBook$Voucher" "day" "I", .fieldLink RX0 61 "GrantBook$Voucher" "eligible" "I", .fieldLink RX0 41 "GrantBook$Voucher" "next" "LGrantBook$Voucher;"] ++ wsX20 ++ wsX00 ++ wsX10)
def wsX2_costs_r1 : List Cond := [Cond.methodLink RX2 71 yX2_checkDay, Cond.static yX2_checkDay, Cond.initialized RX2, Cond.code yX2_checkDay cX2_checkDay 1 none, Cond.methodLink RX2 59 yX2_checkRange, Cond.static yX2_checkRange, Cond.code yX2_checkRange cX2_checkRange 3 none, Cond.classLink RX2 90 "java/lang/IllegalArgumentException", Cond.initialized "java/lang/IllegalArgumentException", Cond.methodLink RX2 152 yX2_costsUpTo, Cond.instanceMethod yX2_costsUpTo, Cond.selects RX2 yX2_costsUpTo yX2_costsUpTo, Cond.code yX2_costsUpTo cX2_costsUpTo 2 (some .int), Cond.methodLink RX2 188 yX2_eligibleInAll, Cond.instanceMethod yX2_eligibleInAll, Cond.selects RX2 yX2_eligibleInAll yX2_eligibleInAll, Cond.code yX2_eligibleInAll cX2_eligibleInAll 8 (some .int), Cond.fieldLink RX2 26 "GrantBook" "lineRows" "[LGrantBook$Line;", Cond.fieldLink RX2 197 "GrantBook$Line" "isInBase" "Z", Cond.methodLink RX2 110 yX0_eligibleUpTo, Cond.instanceMethod yX0_eligibleUpTo, Cond.selects RX0 yX0_eligibleUpTo yX0_eligibleUpTo, Cond.initialized RX0, Cond.code yX0_eligibleUpTo cX0_eligibleUpTo 4 (some .int)]
def wsX2_costs_r2 : List Cond := [Cond.fieldLink RX0 16 "GrantBook$Line" "earliest" "LGrantBook$Voucher;", Cond.fieldLink RX0 38 "GrantBook$Voucher" "day" "I", Cond.fieldLink RX0 61 "GrantBook$Voucher" "eligible" "I", Cond.fieldLink RX0 41 "GrantBook$Voucher" "next" "LGrantBook$Voucher;"]
def wsX2_costs : List Cond := .code yX2_costs cX2_costs 2 (some .int) :: ((wsX2_costs_r1 ++ wsX2_costs_r2) ++ wsX20 ++ wsX00 ++ wsX10 ++ (vx_atS RX2 94 "java/lang/IllegalArgumentException" ["java/lang/RuntimeException", "java/lang/Exception"]).filter goodWord)
def wsX2_overheadUpTo : List Cond := .code yX2_overheadUpTo cX2_overheadUpTo 4 (some .int) :: ([.fieldLink RX2 17 "GrantBook" "overheadRate" "I", .constantLong RX2 192 (100), .fieldLink RX2 21 "GrantBook" "overheadCeiling" "I", .methodLink RX2 194 Lib.MathLoose.min_long.x, .static Lib.MathLoose.min_long.x, .initialized "java/lang/Math", .code Lib.MathLoose.min_long.x Lib.MathLoose.min_long.code 4 (some .long), .methodLink RX2 188 yX2_eligibleInAll, .instanceMethod yX2_eligibleInAll, .selects RX2 yX2_eligibleInAll yX2_eligibleInAll, .initialized RX2, .code yX2_eligibleInAll cX2_eligibleInAll 8 (some .int), .fieldLink RX2 26 "GrantBook" "lineRows" "[LGrantBook$Line;", .fieldLink RX2 197 "GrantBook$Line" "isInBase" "Z", .methodLink RX2 110 yX0_eligibleUpTo, .instanceMethod yX0_eligibleUpTo, .selects RX0 yX0_eligibleUpTo yX0_eligibleUpTo, .initialized RX0, .code yX0_eligibleUpTo cX0_eligibleUpTo 4 (some .int), .fieldLink RX0 16 "GrantBook$Line" "earliest" "LGrantBook$Voucher;", .fieldLink RX0 38 "GrantBook$Voucher" "day" "I", .fieldLink RX0 61 "GrantBook$Voucher" "eligible" "I", .fieldLink RX0 41 "GrantBook$Voucher" "next" "LGrantBook$Voucher;"] ++ wsX20 ++ wsX00 ++ wsX10)
def wsX2_overhead_r1 : List Cond := [Cond.methodLink RX2 71 yX2_checkDay, Cond.static yX2_checkDay, Cond.initialized RX2, Cond.code yX2_checkDay cX2_checkDay 1 none, Cond.methodLink RX2 59 yX2_checkRange, Cond.static yX2_checkRange, Cond.code yX2_checkRange cX2_checkRange 3 none, Cond.classLink RX2 90 "java/lang/IllegalArgumentException", Cond.initialized "java/lang/IllegalArgumentException", Cond.methodLink RX2 155 yX2_overheadUpTo, Cond.instanceMethod yX2_overheadUpTo, Cond.selects RX2 yX2_overheadUpTo yX2_overheadUpTo, Cond.code yX2_overheadUpTo cX2_overheadUpTo 4 (some .int), Cond.fieldLink RX2 17 "GrantBook" "overheadRate" "I", Cond.constantLong RX2 192 (100), Cond.fieldLink RX2 21 "GrantBook" "overheadCeiling" "I", Cond.methodLink RX2 194 Lib.MathLoose.min_long.x, Cond.static Lib.MathLoose.min_long.x, Cond.initialized "java/lang/Math", Cond.code Lib.MathLoose.min_long.x Lib.MathLoose.min_long.code 4 (some .long), Cond.methodLink RX2 188 yX2_eligibleInAll, Cond.instanceMethod yX2_eligibleInAll, Cond.selects RX2 yX2_eligibleInAll yX2_eligibleInAll, Cond.code yX2_eligibleInAll cX2_eligibleInAll 8 (some .int)]
def wsX2_overhead_r2 : List Cond := [Cond.fieldLink RX2 26 "GrantBook" "lineRows" "[LGrantBook$Line;", Cond.fieldLink RX2 197 "GrantBook$Line" "isInBase" "Z", Cond.methodLink RX2 110 yX0_eligibleUpTo, Cond.instanceMethod yX0_eligibleUpTo, Cond.selects RX0 yX0_eligibleUpTo yX0_eligibleUpTo, Cond.initialized RX0, Cond.code yX0_eligibleUpTo cX0_eligibleUpTo 4 (some .int), Cond.fieldLink RX0 16 "GrantBook$Line" "earliest" "LGrantBook$Voucher;", Cond.fieldLink RX0 38 "GrantBook$Voucher" "day" "I", Cond.fieldLink RX0 61 "GrantBook$Voucher" "eligible" "I", Cond.fieldLink RX0 41 "GrantBook$Voucher" "next" "LGrantBook$Voucher;"]
def wsX2_overhead : List Cond := .code yX2_overhead cX2_overhead 2 (some .int) :: ((wsX2_overhead_r1 ++ wsX2_overhead_r2) ++ wsX20 ++ wsX00 ++ wsX10 ++ (vx_atS RX2 94 "java/lang/IllegalArgumentException" ["java/lang/RuntimeException", "java/lang/Exception"]).filter goodWord)
def wsX2_earnedButForMatch_r1 : List Cond := [Cond.fieldLink RX2 14 "GrantBook" "grantShare" "I", Cond.constantLong RX2 192 (100), Cond.fieldLink RX2 8 "GrantBook" "grantAmount" "I", Cond.methodLink RX2 194 Lib.MathLoose.min_long.x, Cond.static Lib.MathLoose.min_long.x, Cond.initialized "java/lang/Math", Cond.code Lib.MathLoose.min_long.x Lib.MathLoose.min_long.code 4 (some .long), Cond.methodLink RX2 152 yX2_costsUpTo, Cond.instanceMethod yX2_costsUpTo, Cond.selects RX2 yX2_costsUpTo yX2_costsUpTo, Cond.initialized RX2, Cond.code yX2_costsUpTo cX2_costsUpTo 2 (some .int), Cond.methodLink RX2 188 yX2_eligibleInAll, Cond.instanceMethod yX2_eligibleInAll, Cond.selects RX2 yX2_eligibleInAll yX2_eligibleInAll, Cond.code yX2_eligibleInAll cX2_eligibleInAll 8 (some .int), Cond.fieldLink RX2 26 "GrantBook" "lineRows" "[LGrantBook$Line;", Cond.fieldLink RX2 197 "GrantBook$Line" "isInBase" "Z", Cond.methodLink RX2 110 yX0_eligibleUpTo, Cond.instanceMethod yX0_eligibleUpTo, Cond.selects RX0 yX0_eligibleUpTo yX0_eligibleUpTo, Cond.initialized RX0, Cond.code yX0_eligibleUpTo cX0_eligibleUpTo 4 (some .int), Cond.fieldLink RX0 16 "GrantBook$Line" "earliest" "LGrantBook$Voucher;"]
def wsX2_earnedButForMatch_r2 : List Cond := [Cond.fieldLink RX0 38 "GrantBook$Voucher" "day" "I", Cond.fieldLink RX0 61 "GrantBook$Voucher" "eligible" "I", Cond.fieldLink RX0 41 "GrantBook$Voucher" "next" "LGrantBook$Voucher;", Cond.methodLink RX2 155 yX2_overheadUpTo, Cond.instanceMethod yX2_overheadUpTo, Cond.selects RX2 yX2_overheadUpTo yX2_overheadUpTo, Cond.code yX2_overheadUpTo cX2_overheadUpTo 4 (some .int), Cond.fieldLink RX2 17 "GrantBook" "overheadRate" "I", Cond.fieldLink RX2 21 "GrantBook" "overheadCeiling" "I"]
def wsX2_earnedButForMatch : List Cond := .code yX2_earnedButForMatch cX2_earnedButForMatch 4 (some .long) :: ((wsX2_earnedButForMatch_r1 ++ wsX2_earnedButForMatch_r2) ++ wsX20 ++ wsX00 ++ wsX10)
def wsX2_earnedUpTo_r1 : List Cond := [Cond.fieldLink RX2 14 "GrantBook" "grantShare" "I", Cond.fieldLink RX2 42 "GrantBook" "allMatch" "I", Cond.methodLink RX2 194 Lib.MathLoose.min_long.x, Cond.static Lib.MathLoose.min_long.x, Cond.initialized "java/lang/Math", Cond.code Lib.MathLoose.min_long.x Lib.MathLoose.min_long.code 4 (some .long), Cond.methodLink RX2 161 yX2_earnedButForMatch, Cond.instanceMethod yX2_earnedButForMatch, Cond.selects RX2 yX2_earnedButForMatch yX2_earnedButForMatch, Cond.initialized RX2, Cond.code yX2_earnedButForMatch cX2_earnedButForMatch 4 (some .long), Cond.constantLong RX2 192 (100), Cond.fieldLink RX2 8 "GrantBook" "grantAmount" "I", Cond.methodLink RX2 152 yX2_costsUpTo, Cond.instanceMethod yX2_costsUpTo, Cond.selects RX2 yX2_costsUpTo yX2_costsUpTo, Cond.code yX2_costsUpTo cX2_costsUpTo 2 (some .int), Cond.methodLink RX2 188 yX2_eligibleInAll, Cond.instanceMethod yX2_eligibleInAll, Cond.selects RX2 yX2_eligibleInAll yX2_eligibleInAll, Cond.code yX2_eligibleInAll cX2_eligibleInAll 8 (some .int), Cond.fieldLink RX2 26 "GrantBook" "lineRows" "[LGrantBook$Line;", Cond.fieldLink RX2 197 "GrantBook$Line" "isInBase" "Z", Cond.methodLink RX2 110 yX0_eligibleUpTo]
def wsX2_earnedUpTo_r2 : List Cond := [Cond.instanceMethod yX0_eligibleUpTo, Cond.selects RX0 yX0_eligibleUpTo yX0_eligibleUpTo, Cond.initialized RX0, Cond.code yX0_eligibleUpTo cX0_eligibleUpTo 4 (some .int), Cond.fieldLink RX0 16 "GrantBook$Line" "earliest" "LGrantBook$Voucher;", Cond.fieldLink RX0 38 "GrantBook$Voucher" "day" "I", Cond.fieldLink RX0 61 "GrantBook$Voucher" "eligible" "I", Cond.fieldLink RX0 41 "GrantBook$Voucher" "next" "LGrantBook$Voucher;", Cond.methodLink RX2 155 yX2_overheadUpTo, Cond.instanceMethod yX2_overheadUpTo, Cond.selects RX2 yX2_overheadUpTo yX2_overheadUpTo, Cond.code yX2_overheadUpTo cX2_overheadUpTo 4 (some .int), Cond.fieldLink RX2 17 "GrantBook" "overheadRate" "I", Cond.fieldLink RX2 21 "GrantBook" "overheadCeiling" "I"]
def wsX2_earnedUpTo : List Cond := .code yX2_earnedUpTo cX2_earnedUpTo 5 (some .int) :: ((wsX2_earnedUpTo_r1 ++ wsX2_earnedUpTo_r2) ++ wsX20 ++ wsX00 ++ wsX10)
def wsX2_earned_r1 : List Cond := [Cond.methodLink RX2 71 yX2_checkDay, Cond.static yX2_checkDay, Cond.initialized RX2, Cond.code yX2_checkDay cX2_checkDay 1 none, Cond.methodLink RX2 59 yX2_checkRange, Cond.static yX2_checkRange, Cond.code yX2_checkRange cX2_checkRange 3 none, Cond.classLink RX2 90 "java/lang/IllegalArgumentException", Cond.initialized "java/lang/IllegalArgumentException", Cond.methodLink RX2 158 yX2_earnedUpTo, Cond.instanceMethod yX2_earnedUpTo, Cond.selects RX2 yX2_earnedUpTo yX2_earnedUpTo, Cond.code yX2_earnedUpTo cX2_earnedUpTo 5 (some .int), Cond.fieldLink RX2 14 "GrantBook" "grantShare" "I", Cond.fieldLink RX2 42 "GrantBook" "allMatch" "I", Cond.methodLink RX2 194 Lib.MathLoose.min_long.x, Cond.static Lib.MathLoose.min_long.x, Cond.initialized "java/lang/Math", Cond.code Lib.MathLoose.min_long.x Lib.MathLoose.min_long.code 4 (some .long), Cond.methodLink RX2 161 yX2_earnedButForMatch, Cond.instanceMethod yX2_earnedButForMatch, Cond.selects RX2 yX2_earnedButForMatch yX2_earnedButForMatch, Cond.code yX2_earnedButForMatch cX2_earnedButForMatch 4 (some .long), Cond.constantLong RX2 192 (100)]
def wsX2_earned_r2 : List Cond := [Cond.fieldLink RX2 8 "GrantBook" "grantAmount" "I", Cond.methodLink RX2 152 yX2_costsUpTo, Cond.instanceMethod yX2_costsUpTo, Cond.selects RX2 yX2_costsUpTo yX2_costsUpTo, Cond.code yX2_costsUpTo cX2_costsUpTo 2 (some .int), Cond.methodLink RX2 188 yX2_eligibleInAll, Cond.instanceMethod yX2_eligibleInAll, Cond.selects RX2 yX2_eligibleInAll yX2_eligibleInAll, Cond.code yX2_eligibleInAll cX2_eligibleInAll 8 (some .int), Cond.fieldLink RX2 26 "GrantBook" "lineRows" "[LGrantBook$Line;", Cond.fieldLink RX2 197 "GrantBook$Line" "isInBase" "Z", Cond.methodLink RX2 110 yX0_eligibleUpTo, Cond.instanceMethod yX0_eligibleUpTo, Cond.selects RX0 yX0_eligibleUpTo yX0_eligibleUpTo, Cond.initialized RX0, Cond.code yX0_eligibleUpTo cX0_eligibleUpTo 4 (some .int), Cond.fieldLink RX0 16 "GrantBook$Line" "earliest" "LGrantBook$Voucher;", Cond.fieldLink RX0 38 "GrantBook$Voucher" "day" "I", Cond.fieldLink RX0 61 "GrantBook$Voucher" "eligible" "I", Cond.fieldLink RX0 41 "GrantBook$Voucher" "next" "LGrantBook$Voucher;", Cond.methodLink RX2 155 yX2_overheadUpTo, Cond.instanceMethod yX2_overheadUpTo, Cond.selects RX2 yX2_overheadUpTo yX2_overheadUpTo, Cond.code yX2_overheadUpTo cX2_overheadUpTo 4 (some .int)]
def wsX2_earned_r3 : List Cond := [Cond.fieldLink RX2 17 "GrantBook" "overheadRate" "I", Cond.fieldLink RX2 21 "GrantBook" "overheadCeiling" "I"]
def wsX2_earned : List Cond := .code yX2_earned cX2_earned 2 (some .int) :: ((wsX2_earned_r1 ++ (wsX2_earned_r2 ++ wsX2_earned_r3)) ++ wsX20 ++ wsX00 ++ wsX10 ++ (vx_atS RX2 94 "java/lang/IllegalArgumentException" ["java/lang/RuntimeException", "java/lang/Exception"]).filter goodWord)
def wsX2_leastMatchFor : List Cond := .code yX2_leastMatchFor cX2_leastMatchFor 4 (some .long) :: ([.fieldLink RX2 14 "GrantBook" "grantShare" "I"] ++ wsX20)
def wsX2_missingMatch_r1 : List Cond := [Cond.fieldLink RX2 42 "GrantBook" "allMatch" "I", Cond.methodLink RX2 169 Lib.MathLoose.max_long.x, Cond.static Lib.MathLoose.max_long.x, Cond.initialized "java/lang/Math", Cond.code Lib.MathLoose.max_long.x Lib.MathLoose.max_long.code 4 (some .long), Cond.methodLink RX2 71 yX2_checkDay, Cond.static yX2_checkDay, Cond.initialized RX2, Cond.code yX2_checkDay cX2_checkDay 1 none, Cond.methodLink RX2 59 yX2_checkRange, Cond.static yX2_checkRange, Cond.code yX2_checkRange cX2_checkRange 3 none, Cond.classLink RX2 90 "java/lang/IllegalArgumentException", Cond.initialized "java/lang/IllegalArgumentException", Cond.methodLink RX2 161 yX2_earnedButForMatch, Cond.instanceMethod yX2_earnedButForMatch, Cond.selects RX2 yX2_earnedButForMatch yX2_earnedButForMatch, Cond.code yX2_earnedButForMatch cX2_earnedButForMatch 4 (some .long), Cond.fieldLink RX2 14 "GrantBook" "grantShare" "I", Cond.constantLong RX2 192 (100), Cond.fieldLink RX2 8 "GrantBook" "grantAmount" "I", Cond.methodLink RX2 194 Lib.MathLoose.min_long.x, Cond.static Lib.MathLoose.min_long.x, Cond.code Lib.MathLoose.min_long.x Lib.MathLoose.min_long.code 4 (some .long)]
def wsX2_missingMatch_r2 : List Cond := [Cond.methodLink RX2 152 yX2_costsUpTo, Cond.instanceMethod yX2_costsUpTo, Cond.selects RX2 yX2_costsUpTo yX2_costsUpTo, Cond.code yX2_costsUpTo cX2_costsUpTo 2 (some .int), Cond.methodLink RX2 188 yX2_eligibleInAll, Cond.instanceMethod yX2_eligibleInAll, Cond.selects RX2 yX2_eligibleInAll yX2_eligibleInAll, Cond.code yX2_eligibleInAll cX2_eligibleInAll 8 (some .int), Cond.fieldLink RX2 26 "GrantBook" "lineRows" "[LGrantBook$Line;", Cond.fieldLink RX2 197 "GrantBook$Line" "isInBase" "Z", Cond.methodLink RX2 110 yX0_eligibleUpTo, Cond.instanceMethod yX0_eligibleUpTo, Cond.selects RX0 yX0_eligibleUpTo yX0_eligibleUpTo, Cond.initialized RX0, Cond.code yX0_eligibleUpTo cX0_eligibleUpTo 4 (some .int), Cond.fieldLink RX0 16 "GrantBook$Line" "earliest" "LGrantBook$Voucher;", Cond.fieldLink RX0 38 "GrantBook$Voucher" "day" "I", Cond.fieldLink RX0 61 "GrantBook$Voucher" "eligible" "I", Cond.fieldLink RX0 41 "GrantBook$Voucher" "next" "LGrantBook$Voucher;", Cond.methodLink RX2 155 yX2_overheadUpTo, Cond.instanceMethod yX2_overheadUpTo, Cond.selects RX2 yX2_overheadUpTo yX2_overheadUpTo, Cond.code yX2_overheadUpTo cX2_overheadUpTo 4 (some .int), Cond.fieldLink RX2 17 "GrantBook" "overheadRate" "I"]
def wsX2_missingMatch_r3 : List Cond := [Cond.fieldLink RX2 21 "GrantBook" "overheadCeiling" "I", Cond.methodLink RX2 165 yX2_leastMatchFor, Cond.instanceMethod yX2_leastMatchFor, Cond.selects RX2 yX2_leastMatchFor yX2_leastMatchFor, Cond.code yX2_leastMatchFor cX2_leastMatchFor 4 (some .long)]
def wsX2_missingMatch : List Cond := .code yX2_missingMatch cX2_missingMatch 4 (some .int) :: ((wsX2_missingMatch_r1 ++ (wsX2_missingMatch_r2 ++ wsX2_missingMatch_r3)) ++ wsX20 ++ wsX00 ++ wsX10 ++ (vx_atS RX2 94 "java/lang/IllegalArgumentException" ["java/lang/RuntimeException", "java/lang/Exception"]).filter goodWord)
def wsX2_claim_r1 : List Cond := [Cond.classLink RX2 63 "java/lang/IllegalStateException", Cond.initialized "java/lang/IllegalStateException", Cond.fieldLink RX2 52 "GrantBook" "lastClaimDay" "I", Cond.fieldLink RX2 49 "GrantBook" "claimCount" "I", Cond.fieldLink RX2 45 "GrantBook" "payments" "[I", Cond.fieldLink RX2 55 "GrantBook" "paidInAll" "I", Cond.methodLink RX2 59 yX2_checkRange, Cond.static yX2_checkRange, Cond.initialized RX2, Cond.code yX2_checkRange cX2_checkRange 3 none, Cond.classLink RX2 90 "java/lang/IllegalArgumentException", Cond.initialized "java/lang/IllegalArgumentException", Cond.methodLink RX2 158 yX2_earnedUpTo, Cond.instanceMethod yX2_earnedUpTo, Cond.selects RX2 yX2_earnedUpTo yX2_earnedUpTo, Cond.code yX2_earnedUpTo cX2_earnedUpTo 5 (some .int), Cond.fieldLink RX2 14 "GrantBook" "grantShare" "I", Cond.fieldLink RX2 42 "GrantBook" "allMatch" "I", Cond.methodLink RX2 194 Lib.MathLoose.min_long.x, Cond.static Lib.MathLoose.min_long.x, Cond.initialized "java/lang/Math", Cond.code Lib.MathLoose.min_long.x Lib.MathLoose.min_long.code 4 (some .long), Cond.methodLink RX2 161 yX2_earnedButForMatch, Cond.instanceMethod yX2_earnedButForMatch]
def wsX2_claim_r2 : List Cond := [Cond.selects RX2 yX2_earnedButForMatch yX2_earnedButForMatch, Cond.code yX2_earnedButForMatch cX2_earnedButForMatch 4 (some .long), Cond.constantLong RX2 192 (100), Cond.fieldLink RX2 8 "GrantBook" "grantAmount" "I", Cond.methodLink RX2 152 yX2_costsUpTo, Cond.instanceMethod yX2_costsUpTo, Cond.selects RX2 yX2_costsUpTo yX2_costsUpTo, Cond.code yX2_costsUpTo cX2_costsUpTo 2 (some .int), Cond.methodLink RX2 188 yX2_eligibleInAll, Cond.instanceMethod yX2_eligibleInAll, Cond.selects RX2 yX2_eligibleInAll yX2_eligibleInAll, Cond.code yX2_eligibleInAll cX2_eligibleInAll 8 (some .int), Cond.fieldLink RX2 26 "GrantBook" "lineRows" "[LGrantBook$Line;", Cond.fieldLink RX2 197 "GrantBook$Line" "isInBase" "Z", Cond.methodLink RX2 110 yX0_eligibleUpTo, Cond.instanceMethod yX0_eligibleUpTo, Cond.selects RX0 yX0_eligibleUpTo yX0_eligibleUpTo, Cond.initialized RX0, Cond.code yX0_eligibleUpTo cX0_eligibleUpTo 4 (some .int), Cond.fieldLink RX0 16 "GrantBook$Line" "earliest" "LGrantBook$Voucher;", Cond.fieldLink RX0 38 "GrantBook$Voucher" "day" "I", Cond.fieldLink RX0 61 "GrantBook$Voucher" "eligible" "I", Cond.fieldLink RX0 41 "GrantBook$Voucher" "next" "LGrantBook$Voucher;", Cond.methodLink RX2 155 yX2_overheadUpTo]
def wsX2_claim_r3 : List Cond := [Cond.instanceMethod yX2_overheadUpTo, Cond.selects RX2 yX2_overheadUpTo yX2_overheadUpTo, Cond.code yX2_overheadUpTo cX2_overheadUpTo 4 (some .int), Cond.fieldLink RX2 17 "GrantBook" "overheadRate" "I", Cond.fieldLink RX2 21 "GrantBook" "overheadCeiling" "I"]
def wsX2_claim : List Cond := .code yX2_claim cX2_claim 4 (some .int) :: ((wsX2_claim_r1 ++ (wsX2_claim_r2 ++ wsX2_claim_r3)) ++ wsX20 ++ wsX00 ++ wsX10 ++ (vx_atS RX2 67 "java/lang/IllegalStateException" ["java/lang/RuntimeException", "java/lang/Exception"]).filter goodWord ++ (vx_atS RX2 94 "java/lang/IllegalArgumentException" ["java/lang/RuntimeException", "java/lang/Exception"]).filter goodWord)
def wsX2_claims : List Cond := .code yX2_claims cX2_claims 1 (some .int) :: ([.fieldLink RX2 49 "GrantBook" "claimCount" "I"] ++ wsX20)
def wsX2_paid : List Cond := .code yX2_paid cX2_paid 2 (some .int) :: ([.classLink RX2 177 "java/lang/IndexOutOfBoundsException", .initialized "java/lang/IndexOutOfBoundsException", .fieldLink RX2 49 "GrantBook" "claimCount" "I", .fieldLink RX2 45 "GrantBook" "payments" "[I"] ++ wsX20 ++ (vx_atS RX2 181 "java/lang/IndexOutOfBoundsException" ["java/lang/RuntimeException", "java/lang/Exception"]).filter goodWord)
def wsX2_unsettled_r1 : List Cond := [Cond.fieldLink RX2 49 "GrantBook" "claimCount" "I", Cond.fieldLink RX2 52 "GrantBook" "lastClaimDay" "I", Cond.fieldLink RX2 55 "GrantBook" "paidInAll" "I", Cond.methodLink RX2 158 yX2_earnedUpTo, Cond.instanceMethod yX2_earnedUpTo, Cond.selects RX2 yX2_earnedUpTo yX2_earnedUpTo, Cond.initialized RX2, Cond.code yX2_earnedUpTo cX2_earnedUpTo 5 (some .int), Cond.fieldLink RX2 14 "GrantBook" "grantShare" "I", Cond.fieldLink RX2 42 "GrantBook" "allMatch" "I", Cond.methodLink RX2 194 Lib.MathLoose.min_long.x, Cond.static Lib.MathLoose.min_long.x, Cond.initialized "java/lang/Math", Cond.code Lib.MathLoose.min_long.x Lib.MathLoose.min_long.code 4 (some .long), Cond.methodLink RX2 161 yX2_earnedButForMatch, Cond.instanceMethod yX2_earnedButForMatch, Cond.selects RX2 yX2_earnedButForMatch yX2_earnedButForMatch, Cond.code yX2_earnedButForMatch cX2_earnedButForMatch 4 (some .long), Cond.constantLong RX2 192 (100), Cond.fieldLink RX2 8 "GrantBook" "grantAmount" "I", Cond.methodLink RX2 152 yX2_costsUpTo, Cond.instanceMethod yX2_costsUpTo, Cond.selects RX2 yX2_costsUpTo yX2_costsUpTo, Cond.code yX2_costsUpTo cX2_costsUpTo 2 (some .int)]
def wsX2_unsettled_r2 : List Cond := [Cond.methodLink RX2 188 yX2_eligibleInAll, Cond.instanceMethod yX2_eligibleInAll, Cond.selects RX2 yX2_eligibleInAll yX2_eligibleInAll, Cond.code yX2_eligibleInAll cX2_eligibleInAll 8 (some .int), Cond.fieldLink RX2 26 "GrantBook" "lineRows" "[LGrantBook$Line;", Cond.fieldLink RX2 197 "GrantBook$Line" "isInBase" "Z", Cond.methodLink RX2 110 yX0_eligibleUpTo, Cond.instanceMethod yX0_eligibleUpTo, Cond.selects RX0 yX0_eligibleUpTo yX0_eligibleUpTo, Cond.initialized RX0, Cond.code yX0_eligibleUpTo cX0_eligibleUpTo 4 (some .int), Cond.fieldLink RX0 16 "GrantBook$Line" "earliest" "LGrantBook$Voucher;", Cond.fieldLink RX0 38 "GrantBook$Voucher" "day" "I", Cond.fieldLink RX0 61 "GrantBook$Voucher" "eligible" "I", Cond.fieldLink RX0 41 "GrantBook$Voucher" "next" "LGrantBook$Voucher;", Cond.methodLink RX2 155 yX2_overheadUpTo, Cond.instanceMethod yX2_overheadUpTo, Cond.selects RX2 yX2_overheadUpTo yX2_overheadUpTo, Cond.code yX2_overheadUpTo cX2_overheadUpTo 4 (some .int), Cond.fieldLink RX2 17 "GrantBook" "overheadRate" "I", Cond.fieldLink RX2 21 "GrantBook" "overheadCeiling" "I"]
def wsX2_unsettled : List Cond := .code yX2_unsettled cX2_unsettled 1 (some .int) :: ((wsX2_unsettled_r1 ++ wsX2_unsettled_r2) ++ wsX20 ++ wsX00 ++ wsX10)
def wsX3_init_r1 : List Cond := [Cond.methodLink RX3 1 objectInit, Cond.instanceMethod objectInit, Cond.code objectInit ⟨#[0xb1]⟩ 1 none, Cond.arrayClass .int, Cond.fieldLink RX3 7 "GrantBookModel" "budgets" "[I", Cond.fieldLink RX3 13 "GrantBookModel" "firsts" "[I", Cond.fieldLink RX3 16 "GrantBookModel" "lasts" "[I", Cond.arrayClass .boolean, Cond.fieldLink RX3 19 "GrantBookModel" "isBase" "[Z", Cond.fieldLink RX3 23 "GrantBookModel" "movedTo" "[I", Cond.fieldLink RX3 26 "GrantBookModel" "movedAway" "[I", Cond.fieldLink RX3 29 "GrantBookModel" "lineOf" "[I", Cond.fieldLink RX3 32 "GrantBookModel" "dayOf" "[I", Cond.fieldLink RX3 35 "GrantBookModel" "amounts" "[I", Cond.fieldLink RX3 38 "GrantBookModel" "isRefused" "[Z", Cond.fieldLink RX3 41 "GrantBookModel" "order" "[I", Cond.fieldLink RX3 44 "GrantBookModel" "claimPaid" "[I", Cond.fieldLink RX3 47 "GrantBookModel" "eligibles" "[I", Cond.fieldLink RX3 50 "GrantBookModel" "usedOf" "[I", Cond.constant RX3 53 (1000000), Cond.fieldLink RX3 54 "GrantBookModel" "grant" "I", Cond.fieldLink RX3 58 "GrantBookModel" "share" "I", Cond.fieldLink RX3 61 "GrantBookModel" "rate" "I", Cond.constant RX3 64 (50000)]
def wsX3_init_r2 : List Cond := [Cond.fieldLink RX3 65 "GrantBookModel" "ceiling" "I"]
def wsX3_init : List Cond := .code yX3_init cX3_init 1 none :: ((wsX3_init_r1 ++ wsX3_init_r2) ++ wsX30)
def wsX3_thrown : List Cond := .code yX3_thrown cX3_thrown 1 (some .int) :: ([.fieldLink RX3 68 "GrantBookModel" "thrown" "I"] ++ wsX30)
def wsX3_in : List Cond := .code yX3_in cX3_in 3 (some .boolean) :: ([])
def wsX3_isLine : List Cond := .code yX3_isLine cX3_isLine 2 (some .boolean) :: ([.fieldLink RX3 71 "GrantBookModel" "lineMany" "I", .methodLink RX3 74 yX3_in, .static yX3_in, .initialized RX3, .code yX3_in cX3_in 3 (some .boolean)] ++ wsX30)
def wsX3_isVoucher : List Cond := .code yX3_isVoucher cX3_isVoucher 2 (some .boolean) :: ([.fieldLink RX3 78 "GrantBookModel" "voucherMany" "I", .methodLink RX3 74 yX3_in, .static yX3_in, .initialized RX3, .code yX3_in cX3_in 3 (some .boolean)] ++ wsX30)
def wsX3_setGrant : List Cond := .code yX3_setGrant cX3_setGrant 5 none :: ([.constant RX3 81 (100000000), .fieldLink RX3 82 "GrantBookModel" "claimMany" "I", .fieldLink RX3 68 "GrantBookModel" "thrown" "I", .fieldLink RX3 54 "GrantBookModel" "grant" "I", .fieldLink RX3 58 "GrantBookModel" "share" "I", .fieldLink RX3 61 "GrantBookModel" "rate" "I", .fieldLink RX3 65 "GrantBookModel" "ceiling" "I", .methodLink RX3 74 yX3_in, .static yX3_in, .initialized RX3, .code yX3_in cX3_in 3 (some .boolean)] ++ wsX30)
def wsX3_addLine : List Cond := .code yX3_addLine cX3_addLine 5 (some .int) :: ([.constant RX3 85 (10000000), .fieldLink RX3 71 "GrantBookModel" "lineMany" "I", .fieldLink RX3 68 "GrantBookModel" "thrown" "I", .fieldLink RX3 7 "GrantBookModel" "budgets" "[I", .fieldLink RX3 13 "GrantBookModel" "firsts" "[I", .fieldLink RX3 16 "GrantBookModel" "lasts" "[I", .fieldLink RX3 19 "GrantBookModel" "isBase" "[Z", .methodLink RX3 74 yX3_in, .static yX3_in, .initialized RX3, .code yX3_in cX3_in 3 (some .boolean)] ++ wsX30)
def wsX3_extend : List Cond := .code yX3_extend cX3_extend 4 (some .int) :: ([.fieldLink RX3 16 "GrantBookModel" "lasts" "[I", .fieldLink RX3 68 "GrantBookModel" "thrown" "I", .methodLink RX3 86 yX3_isLine, .instanceMethod yX3_isLine, .selects RX3 yX3_isLine yX3_isLine, .initialized RX3, .code yX3_isLine cX3_isLine 2 (some .boolean), .fieldLink RX3 71 "GrantBookModel" "lineMany" "I", .methodLink RX3 74 yX3_in, .static yX3_in, .code yX3_in cX3_in 3 (some .boolean)] ++ wsX30)
def wsX3_roomOf : List Cond := .code yX3_roomOf cX3_roomOf 2 (some .int) :: ([.fieldLink RX3 7 "GrantBookModel" "budgets" "[I", .fieldLink RX3 23 "GrantBookModel" "movedTo" "[I", .fieldLink RX3 26 "GrantBookModel" "movedAway" "[I"] ++ wsX30)
def wsX3_move : List Cond := .code yX3_move cX3_move 4 (some .int) :: ([.constant RX3 85 (10000000), .fieldLink RX3 26 "GrantBookModel" "movedAway" "[I", .fieldLink RX3 7 "GrantBookModel" "budgets" "[I", .fieldLink RX3 68 "GrantBookModel" "thrown" "I", .fieldLink RX3 23 "GrantBookModel" "movedTo" "[I", .methodLink RX3 86 yX3_isLine, .instanceMethod yX3_isLine, .selects RX3 yX3_isLine yX3_isLine, .initialized RX3, .code yX3_isLine cX3_isLine 2 (some .boolean), .fieldLink RX3 71 "GrantBookModel" "lineMany" "I", .methodLink RX3 74 yX3_in, .static yX3_in, .code yX3_in cX3_in 3 (some .boolean), .methodLink RX3 90 yX3_roomOf, .instanceMethod yX3_roomOf, .selects RX3 yX3_roomOf yX3_roomOf, .code yX3_roomOf cX3_roomOf 2 (some .int)] ++ wsX30)
def wsX3_lines : List Cond := .code yX3_lines cX3_lines 1 (some .int) :: ([.fieldLink RX3 68 "GrantBookModel" "thrown" "I", .fieldLink RX3 71 "GrantBookModel" "lineMany" "I"] ++ wsX30)
def wsX3_room : List Cond := .code yX3_room cX3_room 2 (some .int) :: ([.fieldLink RX3 68 "GrantBookModel" "thrown" "I", .methodLink RX3 86 yX3_isLine, .instanceMethod yX3_isLine, .selects RX3 yX3_isLine yX3_isLine, .initialized RX3, .code yX3_isLine cX3_isLine 2 (some .boolean), .fieldLink RX3 71 "GrantBookModel" "lineMany" "I", .methodLink RX3 74 yX3_in, .static yX3_in, .code yX3_in cX3_in 3 (some .boolean), .methodLink RX3 90 yX3_roomOf, .instanceMethod yX3_roomOf, .selects RX3 yX3_roomOf yX3_roomOf, .code yX3_roomOf cX3_roomOf 2 (some .int), .fieldLink RX3 7 "GrantBookModel" "budgets" "[I", .fieldLink RX3 23 "GrantBookModel" "movedTo" "[I", .fieldLink RX3 26 "GrantBookModel" "movedAway" "[I"] ++ wsX30)
def wsX3_isFit : List Cond := .code yX3_isFit cX3_isFit 3 (some .boolean) :: ([.fieldLink RX3 29 "GrantBookModel" "lineOf" "[I", .fieldLink RX3 38 "GrantBookModel" "isRefused" "[Z", .fieldLink RX3 32 "GrantBookModel" "dayOf" "[I", .fieldLink RX3 13 "GrantBookModel" "firsts" "[I", .fieldLink RX3 16 "GrantBookModel" "lasts" "[I", .methodLink RX3 74 yX3_in, .static yX3_in, .initialized RX3, .code yX3_in cX3_in 3 (some .boolean)] ++ wsX30)
def wsX3_layEligibles_r1 : List Cond := [Cond.fieldLink RX3 71 "GrantBookModel" "lineMany" "I", Cond.fieldLink RX3 50 "GrantBookModel" "usedOf" "[I", Cond.fieldLink RX3 78 "GrantBookModel" "voucherMany" "I", Cond.fieldLink RX3 41 "GrantBookModel" "order" "[I", Cond.fieldLink RX3 29 "GrantBookModel" "lineOf" "[I", Cond.fieldLink RX3 47 "GrantBookModel" "eligibles" "[I", Cond.fieldLink RX3 35 "GrantBookModel" "amounts" "[I", Cond.methodLink RX3 90 yX3_roomOf, Cond.instanceMethod yX3_roomOf, Cond.selects RX3 yX3_roomOf yX3_roomOf, Cond.initialized RX3, Cond.code yX3_roomOf cX3_roomOf 2 (some .int), Cond.fieldLink RX3 7 "GrantBookModel" "budgets" "[I", Cond.fieldLink RX3 23 "GrantBookModel" "movedTo" "[I", Cond.fieldLink RX3 26 "GrantBookModel" "movedAway" "[I", Cond.methodLink RX3 94 yX3_isFit, Cond.instanceMethod yX3_isFit, Cond.selects RX3 yX3_isFit yX3_isFit, Cond.code yX3_isFit cX3_isFit 3 (some .boolean), Cond.fieldLink RX3 38 "GrantBookModel" "isRefused" "[Z", Cond.fieldLink RX3 32 "GrantBookModel" "dayOf" "[I", Cond.fieldLink RX3 13 "GrantBookModel" "firsts" "[I", Cond.fieldLink RX3 16 "GrantBookModel" "lasts" "[I", Cond.methodLink RX3 74 yX3_in]
def wsX3_layEligibles_r2 : List Cond := [Cond.static yX3_in, Cond.code yX3_in cX3_in 3 (some .boolean)]
def wsX3_layEligibles : List Cond := .code yX3_layEligibles cX3_layEligibles 6 none :: ((wsX3_layEligibles_r1 ++ wsX3_layEligibles_r2) ++ wsX30)
def wsX3_allEligible_r1 : List Cond := [Cond.fieldLink RX3 78 "GrantBookModel" "voucherMany" "I", Cond.fieldLink RX3 47 "GrantBookModel" "eligibles" "[I", Cond.methodLink RX3 97 yX3_layEligibles, Cond.instanceMethod yX3_layEligibles, Cond.selects RX3 yX3_layEligibles yX3_layEligibles, Cond.initialized RX3, Cond.code yX3_layEligibles cX3_layEligibles 6 none, Cond.fieldLink RX3 71 "GrantBookModel" "lineMany" "I", Cond.fieldLink RX3 50 "GrantBookModel" "usedOf" "[I", Cond.fieldLink RX3 41 "GrantBookModel" "order" "[I", Cond.fieldLink RX3 29 "GrantBookModel" "lineOf" "[I", Cond.fieldLink RX3 35 "GrantBookModel" "amounts" "[I", Cond.methodLink RX3 90 yX3_roomOf, Cond.instanceMethod yX3_roomOf, Cond.selects RX3 yX3_roomOf yX3_roomOf, Cond.code yX3_roomOf cX3_roomOf 2 (some .int), Cond.fieldLink RX3 7 "GrantBookModel" "budgets" "[I", Cond.fieldLink RX3 23 "GrantBookModel" "movedTo" "[I", Cond.fieldLink RX3 26 "GrantBookModel" "movedAway" "[I", Cond.methodLink RX3 94 yX3_isFit, Cond.instanceMethod yX3_isFit, Cond.selects RX3 yX3_isFit yX3_isFit, Cond.code yX3_isFit cX3_isFit 3 (some .boolean), Cond.fieldLink RX3 38 "GrantBookModel" "isRefused" "[Z"]
def wsX3_allEligible_r2 : List Cond := [Cond.fieldLink RX3 32 "GrantBookModel" "dayOf" "[I", Cond.fieldLink RX3 13 "GrantBookModel" "firsts" "[I", Cond.fieldLink RX3 16 "GrantBookModel" "lasts" "[I", Cond.methodLink RX3 74 yX3_in, Cond.static yX3_in, Cond.code yX3_in cX3_in 3 (some .boolean)]
def wsX3_allEligible : List Cond := .code yX3_allEligible cX3_allEligible 3 (some .int) :: ((wsX3_allEligible_r1 ++ wsX3_allEligible_r2) ++ wsX30)
def wsX3_left_r1 : List Cond := [Cond.fieldLink RX3 68 "GrantBookModel" "thrown" "I", Cond.fieldLink RX3 50 "GrantBookModel" "usedOf" "[I", Cond.methodLink RX3 86 yX3_isLine, Cond.instanceMethod yX3_isLine, Cond.selects RX3 yX3_isLine yX3_isLine, Cond.initialized RX3, Cond.code yX3_isLine cX3_isLine 2 (some .boolean), Cond.fieldLink RX3 71 "GrantBookModel" "lineMany" "I", Cond.methodLink RX3 74 yX3_in, Cond.static yX3_in, Cond.code yX3_in cX3_in 3 (some .boolean), Cond.methodLink RX3 97 yX3_layEligibles, Cond.instanceMethod yX3_layEligibles, Cond.selects RX3 yX3_layEligibles yX3_layEligibles, Cond.code yX3_layEligibles cX3_layEligibles 6 none, Cond.fieldLink RX3 78 "GrantBookModel" "voucherMany" "I", Cond.fieldLink RX3 41 "GrantBookModel" "order" "[I", Cond.fieldLink RX3 29 "GrantBookModel" "lineOf" "[I", Cond.fieldLink RX3 47 "GrantBookModel" "eligibles" "[I", Cond.fieldLink RX3 35 "GrantBookModel" "amounts" "[I", Cond.methodLink RX3 90 yX3_roomOf, Cond.instanceMethod yX3_roomOf, Cond.selects RX3 yX3_roomOf yX3_roomOf, Cond.code yX3_roomOf cX3_roomOf 2 (some .int)]
def wsX3_left_r2 : List Cond := [Cond.fieldLink RX3 7 "GrantBookModel" "budgets" "[I", Cond.fieldLink RX3 23 "GrantBookModel" "movedTo" "[I", Cond.fieldLink RX3 26 "GrantBookModel" "movedAway" "[I", Cond.methodLink RX3 94 yX3_isFit, Cond.instanceMethod yX3_isFit, Cond.selects RX3 yX3_isFit yX3_isFit, Cond.code yX3_isFit cX3_isFit 3 (some .boolean), Cond.fieldLink RX3 38 "GrantBookModel" "isRefused" "[Z", Cond.fieldLink RX3 32 "GrantBookModel" "dayOf" "[I", Cond.fieldLink RX3 13 "GrantBookModel" "firsts" "[I", Cond.fieldLink RX3 16 "GrantBookModel" "lasts" "[I"]
def wsX3_left : List Cond := .code yX3_left cX3_left 2 (some .int) :: ((wsX3_left_r1 ++ wsX3_left_r2) ++ wsX30)
def wsX3_spend : List Cond := .code yX3_spend cX3_spend 5 (some .int) :: ([.constant RX3 85 (10000000), .fieldLink RX3 78 "GrantBookModel" "voucherMany" "I", .fieldLink RX3 68 "GrantBookModel" "thrown" "I", .fieldLink RX3 29 "GrantBookModel" "lineOf" "[I", .fieldLink RX3 32 "GrantBookModel" "dayOf" "[I", .fieldLink RX3 35 "GrantBookModel" "amounts" "[I", .fieldLink RX3 41 "GrantBookModel" "order" "[I", .methodLink RX3 86 yX3_isLine, .instanceMethod yX3_isLine, .selects RX3 yX3_isLine yX3_isLine, .initialized RX3, .code yX3_isLine cX3_isLine 2 (some .boolean), .fieldLink RX3 71 "GrantBookModel" "lineMany" "I", .methodLink RX3 74 yX3_in, .static yX3_in, .code yX3_in cX3_in 3 (some .boolean)] ++ wsX30)
def wsX3_mark_r1 : List Cond := [Cond.fieldLink RX3 38 "GrantBookModel" "isRefused" "[Z", Cond.fieldLink RX3 68 "GrantBookModel" "thrown" "I", Cond.methodLink RX3 100 yX3_isVoucher, Cond.instanceMethod yX3_isVoucher, Cond.selects RX3 yX3_isVoucher yX3_isVoucher, Cond.initialized RX3, Cond.code yX3_isVoucher cX3_isVoucher 2 (some .boolean), Cond.fieldLink RX3 78 "GrantBookModel" "voucherMany" "I", Cond.methodLink RX3 74 yX3_in, Cond.static yX3_in, Cond.code yX3_in cX3_in 3 (some .boolean), Cond.methodLink RX3 103 yX3_allEligible, Cond.instanceMethod yX3_allEligible, Cond.selects RX3 yX3_allEligible yX3_allEligible, Cond.code yX3_allEligible cX3_allEligible 3 (some .int), Cond.fieldLink RX3 47 "GrantBookModel" "eligibles" "[I", Cond.methodLink RX3 97 yX3_layEligibles, Cond.instanceMethod yX3_layEligibles, Cond.selects RX3 yX3_layEligibles yX3_layEligibles, Cond.code yX3_layEligibles cX3_layEligibles 6 none, Cond.fieldLink RX3 71 "GrantBookModel" "lineMany" "I", Cond.fieldLink RX3 50 "GrantBookModel" "usedOf" "[I", Cond.fieldLink RX3 41 "GrantBookModel" "order" "[I", Cond.fieldLink RX3 29 "GrantBookModel" "lineOf" "[I"]
def wsX3_mark_r2 : List Cond := [Cond.fieldLink RX3 35 "GrantBookModel" "amounts" "[I", Cond.methodLink RX3 90 yX3_roomOf, Cond.instanceMethod yX3_roomOf, Cond.selects RX3 yX3_roomOf yX3_roomOf, Cond.code yX3_roomOf cX3_roomOf 2 (some .int), Cond.fieldLink RX3 7 "GrantBookModel" "budgets" "[I", Cond.fieldLink RX3 23 "GrantBookModel" "movedTo" "[I", Cond.fieldLink RX3 26 "GrantBookModel" "movedAway" "[I", Cond.methodLink RX3 94 yX3_isFit, Cond.instanceMethod yX3_isFit, Cond.selects RX3 yX3_isFit yX3_isFit, Cond.code yX3_isFit cX3_isFit 3 (some .boolean), Cond.fieldLink RX3 32 "GrantBookModel" "dayOf" "[I", Cond.fieldLink RX3 13 "GrantBookModel" "firsts" "[I", Cond.fieldLink RX3 16 "GrantBookModel" "lasts" "[I"]
def wsX3_mark : List Cond := .code yX3_mark cX3_mark 4 (some .int) :: ((wsX3_mark_r1 ++ wsX3_mark_r2) ++ wsX30)
def wsX3_refuse_r1 : List Cond := [Cond.methodLink RX3 107 yX3_mark, Cond.instanceMethod yX3_mark, Cond.selects RX3 yX3_mark yX3_mark, Cond.initialized RX3, Cond.code yX3_mark cX3_mark 4 (some .int), Cond.fieldLink RX3 38 "GrantBookModel" "isRefused" "[Z", Cond.fieldLink RX3 68 "GrantBookModel" "thrown" "I", Cond.methodLink RX3 100 yX3_isVoucher, Cond.instanceMethod yX3_isVoucher, Cond.selects RX3 yX3_isVoucher yX3_isVoucher, Cond.code yX3_isVoucher cX3_isVoucher 2 (some .boolean), Cond.fieldLink RX3 78 "GrantBookModel" "voucherMany" "I", Cond.methodLink RX3 74 yX3_in, Cond.static yX3_in, Cond.code yX3_in cX3_in 3 (some .boolean), Cond.methodLink RX3 103 yX3_allEligible, Cond.instanceMethod yX3_allEligible, Cond.selects RX3 yX3_allEligible yX3_allEligible, Cond.code yX3_allEligible cX3_allEligible 3 (some .int), Cond.fieldLink RX3 47 "GrantBookModel" "eligibles" "[I", Cond.methodLink RX3 97 yX3_layEligibles, Cond.instanceMethod yX3_layEligibles, Cond.selects RX3 yX3_layEligibles yX3_layEligibles, Cond.code yX3_layEligibles cX3_layEligibles 6 none]
def wsX3_refuse_r2 : List Cond := [Cond.fieldLink RX3 71 "GrantBookModel" "lineMany" "I", Cond.fieldLink RX3 50 "GrantBookModel" "usedOf" "[I", Cond.fieldLink RX3 41 "GrantBookModel" "order" "[I", Cond.fieldLink RX3 29 "GrantBookModel" "lineOf" "[I", Cond.fieldLink RX3 35 "GrantBookModel" "amounts" "[I", Cond.methodLink RX3 90 yX3_roomOf, Cond.instanceMethod yX3_roomOf, Cond.selects RX3 yX3_roomOf yX3_roomOf, Cond.code yX3_roomOf cX3_roomOf 2 (some .int), Cond.fieldLink RX3 7 "GrantBookModel" "budgets" "[I", Cond.fieldLink RX3 23 "GrantBookModel" "movedTo" "[I", Cond.fieldLink RX3 26 "GrantBookModel" "movedAway" "[I", Cond.methodLink RX3 94 yX3_isFit, Cond.instanceMethod yX3_isFit, Cond.selects RX3 yX3_isFit yX3_isFit, Cond.code yX3_isFit cX3_isFit 3 (some .boolean), Cond.fieldLink RX3 32 "GrantBookModel" "dayOf" "[I", Cond.fieldLink RX3 13 "GrantBookModel" "firsts" "[I", Cond.fieldLink RX3 16 "GrantBookModel" "lasts" "[I"]
def wsX3_refuse : List Cond := .code yX3_refuse cX3_refuse 2 (some .int) :: ((wsX3_refuse_r1 ++ wsX3_refuse_r2) ++ wsX30)
def wsX3_admit_r1 : List Cond := [Cond.methodLink RX3 107 yX3_mark, Cond.instanceMethod yX3_mark, Cond.selects RX3 yX3_mark yX3_mark, Cond.initialized RX3, Cond.code yX3_mark cX3_mark 4 (some .int), Cond.fieldLink RX3 38 "GrantBookModel" "isRefused" "[Z", Cond.fieldLink RX3 68 "GrantBookModel" "thrown" "I", Cond.methodLink RX3 100 yX3_isVoucher, Cond.instanceMethod yX3_isVoucher, Cond.selects RX3 yX3_isVoucher yX3_isVoucher, Cond.code yX3_isVoucher cX3_isVoucher 2 (some .boolean), Cond.fieldLink RX3 78 "GrantBookModel" "voucherMany" "I", Cond.methodLink RX3 74 yX3_in, Cond.static yX3_in, Cond.code yX3_in cX3_in 3 (some .boolean), Cond.methodLink RX3 103 yX3_allEligible, Cond.instanceMethod yX3_allEligible, Cond.selects RX3 yX3_allEligible yX3_allEligible, Cond.code yX3_allEligible cX3_allEligible 3 (some .int), Cond.fieldLink RX3 47 "GrantBookModel" "eligibles" "[I", Cond.methodLink RX3 97 yX3_layEligibles, Cond.instanceMethod yX3_layEligibles, Cond.selects RX3 yX3_layEligibles yX3_layEligibles, Cond.code yX3_layEligibles cX3_layEligibles 6 none]
def wsX3_admit_r2 : List Cond := [Cond.fieldLink RX3 71 "GrantBookModel" "lineMany" "I", Cond.fieldLink RX3 50 "GrantBookModel" "usedOf" "[I", Cond.fieldLink RX3 41 "GrantBookModel" "order" "[I", Cond.fieldLink RX3 29 "GrantBookModel" "lineOf" "[I", Cond.fieldLink RX3 35 "GrantBookModel" "amounts" "[I", Cond.methodLink RX3 90 yX3_roomOf, Cond.instanceMethod yX3_roomOf, Cond.selects RX3 yX3_roomOf yX3_roomOf, Cond.code yX3_roomOf cX3_roomOf 2 (some .int), Cond.fieldLink RX3 7 "GrantBookModel" "budgets" "[I", Cond.fieldLink RX3 23 "GrantBookModel" "movedTo" "[I", Cond.fieldLink RX3 26 "GrantBookModel" "movedAway" "[I", Cond.methodLink RX3 94 yX3_isFit, Cond.instanceMethod yX3_isFit, Cond.selects RX3 yX3_isFit yX3_isFit, Cond.code yX3_isFit cX3_isFit 3 (some .boolean), Cond.fieldLink RX3 32 "GrantBookModel" "dayOf" "[I", Cond.fieldLink RX3 13 "GrantBookModel" "firsts" "[I", Cond.fieldLink RX3 16 "GrantBookModel" "lasts" "[I"]
def wsX3_admit : List Cond := .code yX3_admit cX3_admit 2 (some .int) :: ((wsX3_admit_r1 ++ wsX3_admit_r2) ++ wsX30)
def wsX3_match : List Cond := .code yX3_match cX3_match 2 (some .int) :: ([.constant RX3 85 (10000000), .fieldLink RX3 111 "GrantBookModel" "allMatch" "I", .constant RX3 81 (100000000), .fieldLink RX3 68 "GrantBookModel" "thrown" "I", .methodLink RX3 74 yX3_in, .static yX3_in, .initialized RX3, .code yX3_in cX3_in 3 (some .boolean)] ++ wsX30)
def wsX3_vouchers : List Cond := .code yX3_vouchers cX3_vouchers 1 (some .int) :: ([.fieldLink RX3 68 "GrantBookModel" "thrown" "I", .fieldLink RX3 78 "GrantBookModel" "voucherMany" "I"] ++ wsX30)
def wsX3_fits : List Cond := .code yX3_fits cX3_fits 2 (some .boolean) :: ([.fieldLink RX3 68 "GrantBookModel" "thrown" "I", .methodLink RX3 100 yX3_isVoucher, .instanceMethod yX3_isVoucher, .selects RX3 yX3_isVoucher yX3_isVoucher, .initialized RX3, .code yX3_isVoucher cX3_isVoucher 2 (some .boolean), .fieldLink RX3 78 "GrantBookModel" "voucherMany" "I", .methodLink RX3 74 yX3_in, .static yX3_in, .code yX3_in cX3_in 3 (some .boolean), .methodLink RX3 94 yX3_isFit, .instanceMethod yX3_isFit, .selects RX3 yX3_isFit yX3_isFit, .code yX3_isFit cX3_isFit 3 (some .boolean), .fieldLink RX3 29 "GrantBookModel" "lineOf" "[I", .fieldLink RX3 38 "GrantBookModel" "isRefused" "[Z", .fieldLink RX3 32 "GrantBookModel" "dayOf" "[I", .fieldLink RX3 13 "GrantBookModel" "firsts" "[I", .fieldLink RX3 16 "GrantBookModel" "lasts" "[I"] ++ wsX30)
def wsX3_eligible_r1 : List Cond := [Cond.fieldLink RX3 68 "GrantBookModel" "thrown" "I", Cond.fieldLink RX3 47 "GrantBookModel" "eligibles" "[I", Cond.methodLink RX3 100 yX3_isVoucher, Cond.instanceMethod yX3_isVoucher, Cond.selects RX3 yX3_isVoucher yX3_isVoucher, Cond.initialized RX3, Cond.code yX3_isVoucher cX3_isVoucher 2 (some .boolean), Cond.fieldLink RX3 78 "GrantBookModel" "voucherMany" "I", Cond.methodLink RX3 74 yX3_in, Cond.static yX3_in, Cond.code yX3_in cX3_in 3 (some .boolean), Cond.methodLink RX3 97 yX3_layEligibles, Cond.instanceMethod yX3_layEligibles, Cond.selects RX3 yX3_layEligibles yX3_layEligibles, Cond.code yX3_layEligibles cX3_layEligibles 6 none, Cond.fieldLink RX3 71 "GrantBookModel" "lineMany" "I", Cond.fieldLink RX3 50 "GrantBookModel" "usedOf" "[I", Cond.fieldLink RX3 41 "GrantBookModel" "order" "[I", Cond.fieldLink RX3 29 "GrantBookModel" "lineOf" "[I", Cond.fieldLink RX3 35 "GrantBookModel" "amounts" "[I", Cond.methodLink RX3 90 yX3_roomOf, Cond.instanceMethod yX3_roomOf, Cond.selects RX3 yX3_roomOf yX3_roomOf, Cond.code yX3_roomOf cX3_roomOf 2 (some .int)]
def wsX3_eligible_r2 : List Cond := [Cond.fieldLink RX3 7 "GrantBookModel" "budgets" "[I", Cond.fieldLink RX3 23 "GrantBookModel" "movedTo" "[I", Cond.fieldLink RX3 26 "GrantBookModel" "movedAway" "[I", Cond.methodLink RX3 94 yX3_isFit, Cond.instanceMethod yX3_isFit, Cond.selects RX3 yX3_isFit yX3_isFit, Cond.code yX3_isFit cX3_isFit 3 (some .boolean), Cond.fieldLink RX3 38 "GrantBookModel" "isRefused" "[Z", Cond.fieldLink RX3 32 "GrantBookModel" "dayOf" "[I", Cond.fieldLink RX3 13 "GrantBookModel" "firsts" "[I", Cond.fieldLink RX3 16 "GrantBookModel" "lasts" "[I"]
def wsX3_eligible : List Cond := .code yX3_eligible cX3_eligible 2 (some .int) :: ((wsX3_eligible_r1 ++ wsX3_eligible_r2) ++ wsX30)
def wsX3_costsTo_r1 : List Cond := [Cond.fieldLink RX3 78 "GrantBookModel" "voucherMany" "I", Cond.fieldLink RX3 32 "GrantBookModel" "dayOf" "[I", Cond.fieldLink RX3 19 "GrantBookModel" "isBase" "[Z", Cond.fieldLink RX3 29 "GrantBookModel" "lineOf" "[I", Cond.fieldLink RX3 47 "GrantBookModel" "eligibles" "[I", Cond.methodLink RX3 97 yX3_layEligibles, Cond.instanceMethod yX3_layEligibles, Cond.selects RX3 yX3_layEligibles yX3_layEligibles, Cond.initialized RX3, Cond.code yX3_layEligibles cX3_layEligibles 6 none, Cond.fieldLink RX3 71 "GrantBookModel" "lineMany" "I", Cond.fieldLink RX3 50 "GrantBookModel" "usedOf" "[I", Cond.fieldLink RX3 41 "GrantBookModel" "order" "[I", Cond.fieldLink RX3 35 "GrantBookModel" "amounts" "[I", Cond.methodLink RX3 90 yX3_roomOf, Cond.instanceMethod yX3_roomOf, Cond.selects RX3 yX3_roomOf yX3_roomOf, Cond.code yX3_roomOf cX3_roomOf 2 (some .int), Cond.fieldLink RX3 7 "GrantBookModel" "budgets" "[I", Cond.fieldLink RX3 23 "GrantBookModel" "movedTo" "[I", Cond.fieldLink RX3 26 "GrantBookModel" "movedAway" "[I", Cond.methodLink RX3 94 yX3_isFit, Cond.instanceMethod yX3_isFit, Cond.selects RX3 yX3_isFit yX3_isFit]
def wsX3_costsTo_r2 : List Cond := [Cond.code yX3_isFit cX3_isFit 3 (some .boolean), Cond.fieldLink RX3 38 "GrantBookModel" "isRefused" "[Z", Cond.fieldLink RX3 13 "GrantBookModel" "firsts" "[I", Cond.fieldLink RX3 16 "GrantBookModel" "lasts" "[I", Cond.methodLink RX3 74 yX3_in, Cond.static yX3_in, Cond.code yX3_in cX3_in 3 (some .boolean)]
def wsX3_costsTo : List Cond := .code yX3_costsTo cX3_costsTo 6 (some .int) :: ((wsX3_costsTo_r1 ++ wsX3_costsTo_r2) ++ wsX30)
def wsX3_overheadTo_r1 : List Cond := [Cond.fieldLink RX3 61 "GrantBookModel" "rate" "I", Cond.constantLong RX3 117 (100), Cond.fieldLink RX3 65 "GrantBookModel" "ceiling" "I", Cond.methodLink RX3 114 yX3_costsTo, Cond.instanceMethod yX3_costsTo, Cond.selects RX3 yX3_costsTo yX3_costsTo, Cond.initialized RX3, Cond.code yX3_costsTo cX3_costsTo 6 (some .int), Cond.fieldLink RX3 78 "GrantBookModel" "voucherMany" "I", Cond.fieldLink RX3 32 "GrantBookModel" "dayOf" "[I", Cond.fieldLink RX3 19 "GrantBookModel" "isBase" "[Z", Cond.fieldLink RX3 29 "GrantBookModel" "lineOf" "[I", Cond.fieldLink RX3 47 "GrantBookModel" "eligibles" "[I", Cond.methodLink RX3 97 yX3_layEligibles, Cond.instanceMethod yX3_layEligibles, Cond.selects RX3 yX3_layEligibles yX3_layEligibles, Cond.code yX3_layEligibles cX3_layEligibles 6 none, Cond.fieldLink RX3 71 "GrantBookModel" "lineMany" "I", Cond.fieldLink RX3 50 "GrantBookModel" "usedOf" "[I", Cond.fieldLink RX3 41 "GrantBookModel" "order" "[I", Cond.fieldLink RX3 35 "GrantBookModel" "amounts" "[I", Cond.methodLink RX3 90 yX3_roomOf, Cond.instanceMethod yX3_roomOf, Cond.selects RX3 yX3_roomOf yX3_roomOf]
def wsX3_overheadTo_r2 : List Cond := [Cond.code yX3_roomOf cX3_roomOf 2 (some .int), Cond.fieldLink RX3 7 "GrantBookModel" "budgets" "[I", Cond.fieldLink RX3 23 "GrantBookModel" "movedTo" "[I", Cond.fieldLink RX3 26 "GrantBookModel" "movedAway" "[I", Cond.methodLink RX3 94 yX3_isFit, Cond.instanceMethod yX3_isFit, Cond.selects RX3 yX3_isFit yX3_isFit, Cond.code yX3_isFit cX3_isFit 3 (some .boolean), Cond.fieldLink RX3 38 "GrantBookModel" "isRefused" "[Z", Cond.fieldLink RX3 13 "GrantBookModel" "firsts" "[I", Cond.fieldLink RX3 16 "GrantBookModel" "lasts" "[I", Cond.methodLink RX3 74 yX3_in, Cond.static yX3_in, Cond.code yX3_in cX3_in 3 (some .boolean)]
def wsX3_overheadTo : List Cond := .code yX3_overheadTo cX3_overheadTo 4 (some .int) :: ((wsX3_overheadTo_r1 ++ wsX3_overheadTo_r2) ++ wsX30)
def wsX3_unbound_r1 : List Cond := [Cond.fieldLink RX3 58 "GrantBookModel" "share" "I", Cond.constantLong RX3 117 (100), Cond.fieldLink RX3 54 "GrantBookModel" "grant" "I", Cond.methodLink RX3 114 yX3_costsTo, Cond.instanceMethod yX3_costsTo, Cond.selects RX3 yX3_costsTo yX3_costsTo, Cond.initialized RX3, Cond.code yX3_costsTo cX3_costsTo 6 (some .int), Cond.fieldLink RX3 78 "GrantBookModel" "voucherMany" "I", Cond.fieldLink RX3 32 "GrantBookModel" "dayOf" "[I", Cond.fieldLink RX3 19 "GrantBookModel" "isBase" "[Z", Cond.fieldLink RX3 29 "GrantBookModel" "lineOf" "[I", Cond.fieldLink RX3 47 "GrantBookModel" "eligibles" "[I", Cond.methodLink RX3 97 yX3_layEligibles, Cond.instanceMethod yX3_layEligibles, Cond.selects RX3 yX3_layEligibles yX3_layEligibles, Cond.code yX3_layEligibles cX3_layEligibles 6 none, Cond.fieldLink RX3 71 "GrantBookModel" "lineMany" "I", Cond.fieldLink RX3 50 "GrantBookModel" "usedOf" "[I", Cond.fieldLink RX3 41 "GrantBookModel" "order" "[I", Cond.fieldLink RX3 35 "GrantBookModel" "amounts" "[I", Cond.methodLink RX3 90 yX3_roomOf, Cond.instanceMethod yX3_roomOf, Cond.selects RX3 yX3_roomOf yX3_roomOf]
def wsX3_unbound_r2 : List Cond := [Cond.code yX3_roomOf cX3_roomOf 2 (some .int), Cond.fieldLink RX3 7 "GrantBookModel" "budgets" "[I", Cond.fieldLink RX3 23 "GrantBookModel" "movedTo" "[I", Cond.fieldLink RX3 26 "GrantBookModel" "movedAway" "[I", Cond.methodLink RX3 94 yX3_isFit, Cond.instanceMethod yX3_isFit, Cond.selects RX3 yX3_isFit yX3_isFit, Cond.code yX3_isFit cX3_isFit 3 (some .boolean), Cond.fieldLink RX3 38 "GrantBookModel" "isRefused" "[Z", Cond.fieldLink RX3 13 "GrantBookModel" "firsts" "[I", Cond.fieldLink RX3 16 "GrantBookModel" "lasts" "[I", Cond.methodLink RX3 74 yX3_in, Cond.static yX3_in, Cond.code yX3_in cX3_in 3 (some .boolean), Cond.methodLink RX3 119 yX3_overheadTo, Cond.instanceMethod yX3_overheadTo, Cond.selects RX3 yX3_overheadTo yX3_overheadTo, Cond.code yX3_overheadTo cX3_overheadTo 4 (some .int), Cond.fieldLink RX3 61 "GrantBookModel" "rate" "I", Cond.fieldLink RX3 65 "GrantBookModel" "ceiling" "I"]
def wsX3_unbound : List Cond := .code yX3_unbound cX3_unbound 4 (some .int) :: ((wsX3_unbound_r1 ++ wsX3_unbound_r2) ++ wsX30)
def wsX3_earnedTo_r1 : List Cond := [Cond.fieldLink RX3 58 "GrantBookModel" "share" "I", Cond.fieldLink RX3 111 "GrantBookModel" "allMatch" "I", Cond.methodLink RX3 122 yX3_unbound, Cond.instanceMethod yX3_unbound, Cond.selects RX3 yX3_unbound yX3_unbound, Cond.initialized RX3, Cond.code yX3_unbound cX3_unbound 4 (some .int), Cond.constantLong RX3 117 (100), Cond.fieldLink RX3 54 "GrantBookModel" "grant" "I", Cond.methodLink RX3 114 yX3_costsTo, Cond.instanceMethod yX3_costsTo, Cond.selects RX3 yX3_costsTo yX3_costsTo, Cond.code yX3_costsTo cX3_costsTo 6 (some .int), Cond.fieldLink RX3 78 "GrantBookModel" "voucherMany" "I", Cond.fieldLink RX3 32 "GrantBookModel" "dayOf" "[I", Cond.fieldLink RX3 19 "GrantBookModel" "isBase" "[Z", Cond.fieldLink RX3 29 "GrantBookModel" "lineOf" "[I", Cond.fieldLink RX3 47 "GrantBookModel" "eligibles" "[I", Cond.methodLink RX3 97 yX3_layEligibles, Cond.instanceMethod yX3_layEligibles, Cond.selects RX3 yX3_layEligibles yX3_layEligibles, Cond.code yX3_layEligibles cX3_layEligibles 6 none, Cond.fieldLink RX3 71 "GrantBookModel" "lineMany" "I", Cond.fieldLink RX3 50 "GrantBookModel" "usedOf" "[I"]
def wsX3_earnedTo_r2 : List Cond := [Cond.fieldLink RX3 41 "GrantBookModel" "order" "[I", Cond.fieldLink RX3 35 "GrantBookModel" "amounts" "[I", Cond.methodLink RX3 90 yX3_roomOf, Cond.instanceMethod yX3_roomOf, Cond.selects RX3 yX3_roomOf yX3_roomOf, Cond.code yX3_roomOf cX3_roomOf 2 (some .int), Cond.fieldLink RX3 7 "GrantBookModel" "budgets" "[I", Cond.fieldLink RX3 23 "GrantBookModel" "movedTo" "[I", Cond.fieldLink RX3 26 "GrantBookModel" "movedAway" "[I", Cond.methodLink RX3 94 yX3_isFit, Cond.instanceMethod yX3_isFit, Cond.selects RX3 yX3_isFit yX3_isFit, Cond.code yX3_isFit cX3_isFit 3 (some .boolean), Cond.fieldLink RX3 38 "GrantBookModel" "isRefused" "[Z", Cond.fieldLink RX3 13 "GrantBookModel" "firsts" "[I", Cond.fieldLink RX3 16 "GrantBookModel" "lasts" "[I", Cond.methodLink RX3 74 yX3_in, Cond.static yX3_in, Cond.code yX3_in cX3_in 3 (some .boolean), Cond.methodLink RX3 119 yX3_overheadTo, Cond.instanceMethod yX3_overheadTo, Cond.selects RX3 yX3_overheadTo yX3_overheadTo, Cond.code yX3_overheadTo cX3_overheadTo 4 (some .int), Cond.fieldLink RX3 61 "GrantBookModel" "rate" "I"]
def wsX3_earnedTo_r3 : List Cond := [Cond.fieldLink RX3 65 "GrantBookModel" "ceiling" "I"]
def wsX3_earnedTo : List Cond := .code yX3_earnedTo cX3_earnedTo 5 (some .int) :: ((wsX3_earnedTo_r1 ++ (wsX3_earnedTo_r2 ++ wsX3_earnedTo_r3)) ++ wsX30)
def wsX3_isDay : List Cond := .code yX3_isDay cX3_isDay 2 (some .boolean) :: ([.fieldLink RX3 68 "GrantBookModel" "thrown" "I", .methodLink RX3 74 yX3_in, .static yX3_in, .initialized RX3, .code yX3_in cX3_in 3 (some .boolean)] ++ wsX30)
def wsX3_costs_r1 : List Cond := [Cond.methodLink RX3 125 yX3_isDay, Cond.instanceMethod yX3_isDay, Cond.selects RX3 yX3_isDay yX3_isDay, Cond.initialized RX3, Cond.code yX3_isDay cX3_isDay 2 (some .boolean), Cond.fieldLink RX3 68 "GrantBookModel" "thrown" "I", Cond.methodLink RX3 74 yX3_in, Cond.static yX3_in, Cond.code yX3_in cX3_in 3 (some .boolean), Cond.methodLink RX3 114 yX3_costsTo, Cond.instanceMethod yX3_costsTo, Cond.selects RX3 yX3_costsTo yX3_costsTo, Cond.code yX3_costsTo cX3_costsTo 6 (some .int), Cond.fieldLink RX3 78 "GrantBookModel" "voucherMany" "I", Cond.fieldLink RX3 32 "GrantBookModel" "dayOf" "[I", Cond.fieldLink RX3 19 "GrantBookModel" "isBase" "[Z", Cond.fieldLink RX3 29 "GrantBookModel" "lineOf" "[I", Cond.fieldLink RX3 47 "GrantBookModel" "eligibles" "[I", Cond.methodLink RX3 97 yX3_layEligibles, Cond.instanceMethod yX3_layEligibles, Cond.selects RX3 yX3_layEligibles yX3_layEligibles, Cond.code yX3_layEligibles cX3_layEligibles 6 none, Cond.fieldLink RX3 71 "GrantBookModel" "lineMany" "I", Cond.fieldLink RX3 50 "GrantBookModel" "usedOf" "[I"]
def wsX3_costs_r2 : List Cond := [Cond.fieldLink RX3 41 "GrantBookModel" "order" "[I", Cond.fieldLink RX3 35 "GrantBookModel" "amounts" "[I", Cond.methodLink RX3 90 yX3_roomOf, Cond.instanceMethod yX3_roomOf, Cond.selects RX3 yX3_roomOf yX3_roomOf, Cond.code yX3_roomOf cX3_roomOf 2 (some .int), Cond.fieldLink RX3 7 "GrantBookModel" "budgets" "[I", Cond.fieldLink RX3 23 "GrantBookModel" "movedTo" "[I", Cond.fieldLink RX3 26 "GrantBookModel" "movedAway" "[I", Cond.methodLink RX3 94 yX3_isFit, Cond.instanceMethod yX3_isFit, Cond.selects RX3 yX3_isFit yX3_isFit, Cond.code yX3_isFit cX3_isFit 3 (some .boolean), Cond.fieldLink RX3 38 "GrantBookModel" "isRefused" "[Z", Cond.fieldLink RX3 13 "GrantBookModel" "firsts" "[I", Cond.fieldLink RX3 16 "GrantBookModel" "lasts" "[I"]
def wsX3_costs : List Cond := .code yX3_costs cX3_costs 2 (some .int) :: ((wsX3_costs_r1 ++ wsX3_costs_r2) ++ wsX30)
def wsX3_overhead_r1 : List Cond := [Cond.methodLink RX3 125 yX3_isDay, Cond.instanceMethod yX3_isDay, Cond.selects RX3 yX3_isDay yX3_isDay, Cond.initialized RX3, Cond.code yX3_isDay cX3_isDay 2 (some .boolean), Cond.fieldLink RX3 68 "GrantBookModel" "thrown" "I", Cond.methodLink RX3 74 yX3_in, Cond.static yX3_in, Cond.code yX3_in cX3_in 3 (some .boolean), Cond.methodLink RX3 119 yX3_overheadTo, Cond.instanceMethod yX3_overheadTo, Cond.selects RX3 yX3_overheadTo yX3_overheadTo, Cond.code yX3_overheadTo cX3_overheadTo 4 (some .int), Cond.fieldLink RX3 61 "GrantBookModel" "rate" "I", Cond.constantLong RX3 117 (100), Cond.fieldLink RX3 65 "GrantBookModel" "ceiling" "I", Cond.methodLink RX3 114 yX3_costsTo, Cond.instanceMethod yX3_costsTo, Cond.selects RX3 yX3_costsTo yX3_costsTo, Cond.code yX3_costsTo cX3_costsTo 6 (some .int), Cond.fieldLink RX3 78 "GrantBookModel" "voucherMany" "I", Cond.fieldLink RX3 32 "GrantBookModel" "dayOf" "[I", Cond.fieldLink RX3 19 "GrantBookModel" "isBase" "[Z", Cond.fieldLink RX3 29 "GrantBookModel" "lineOf" "[I"]
def wsX3_overhead_r2 : List Cond := [Cond.fieldLink RX3 47 "GrantBookModel" "eligibles" "[I", Cond.methodLink RX3 97 yX3_layEligibles, Cond.instanceMethod yX3_layEligibles, Cond.selects RX3 yX3_layEligibles yX3_layEligibles, Cond.code yX3_layEligibles cX3_layEligibles 6 none, Cond.fieldLink RX3 71 "GrantBookModel" "lineMany" "I", Cond.fieldLink RX3 50 "GrantBookModel" "usedOf" "[I", Cond.fieldLink RX3 41 "GrantBookModel" "order" "[I", Cond.fieldLink RX3 35 "GrantBookModel" "amounts" "[I", Cond.methodLink RX3 90 yX3_roomOf, Cond.instanceMethod yX3_roomOf, Cond.selects RX3 yX3_roomOf yX3_roomOf, Cond.code yX3_roomOf cX3_roomOf 2 (some .int), Cond.fieldLink RX3 7 "GrantBookModel" "budgets" "[I", Cond.fieldLink RX3 23 "GrantBookModel" "movedTo" "[I", Cond.fieldLink RX3 26 "GrantBookModel" "movedAway" "[I", Cond.methodLink RX3 94 yX3_isFit, Cond.instanceMethod yX3_isFit, Cond.selects RX3 yX3_isFit yX3_isFit, Cond.code yX3_isFit cX3_isFit 3 (some .boolean), Cond.fieldLink RX3 38 "GrantBookModel" "isRefused" "[Z", Cond.fieldLink RX3 13 "GrantBookModel" "firsts" "[I", Cond.fieldLink RX3 16 "GrantBookModel" "lasts" "[I"]
def wsX3_overhead : List Cond := .code yX3_overhead cX3_overhead 2 (some .int) :: ((wsX3_overhead_r1 ++ wsX3_overhead_r2) ++ wsX30)
def wsX3_earned_r1 : List Cond := [Cond.methodLink RX3 125 yX3_isDay, Cond.instanceMethod yX3_isDay, Cond.selects RX3 yX3_isDay yX3_isDay, Cond.initialized RX3, Cond.code yX3_isDay cX3_isDay 2 (some .boolean), Cond.fieldLink RX3 68 "GrantBookModel" "thrown" "I", Cond.methodLink RX3 74 yX3_in, Cond.static yX3_in, Cond.code yX3_in cX3_in 3 (some .boolean), Cond.methodLink RX3 128 yX3_earnedTo, Cond.instanceMethod yX3_earnedTo, Cond.selects RX3 yX3_earnedTo yX3_earnedTo, Cond.code yX3_earnedTo cX3_earnedTo 5 (some .int), Cond.fieldLink RX3 58 "GrantBookModel" "share" "I", Cond.fieldLink RX3 111 "GrantBookModel" "allMatch" "I", Cond.methodLink RX3 122 yX3_unbound, Cond.instanceMethod yX3_unbound, Cond.selects RX3 yX3_unbound yX3_unbound, Cond.code yX3_unbound cX3_unbound 4 (some .int), Cond.constantLong RX3 117 (100), Cond.fieldLink RX3 54 "GrantBookModel" "grant" "I", Cond.methodLink RX3 114 yX3_costsTo, Cond.instanceMethod yX3_costsTo, Cond.selects RX3 yX3_costsTo yX3_costsTo]
def wsX3_earned_r2 : List Cond := [Cond.code yX3_costsTo cX3_costsTo 6 (some .int), Cond.fieldLink RX3 78 "GrantBookModel" "voucherMany" "I", Cond.fieldLink RX3 32 "GrantBookModel" "dayOf" "[I", Cond.fieldLink RX3 19 "GrantBookModel" "isBase" "[Z", Cond.fieldLink RX3 29 "GrantBookModel" "lineOf" "[I", Cond.fieldLink RX3 47 "GrantBookModel" "eligibles" "[I", Cond.methodLink RX3 97 yX3_layEligibles, Cond.instanceMethod yX3_layEligibles, Cond.selects RX3 yX3_layEligibles yX3_layEligibles, Cond.code yX3_layEligibles cX3_layEligibles 6 none, Cond.fieldLink RX3 71 "GrantBookModel" "lineMany" "I", Cond.fieldLink RX3 50 "GrantBookModel" "usedOf" "[I", Cond.fieldLink RX3 41 "GrantBookModel" "order" "[I", Cond.fieldLink RX3 35 "GrantBookModel" "amounts" "[I", Cond.methodLink RX3 90 yX3_roomOf, Cond.instanceMethod yX3_roomOf, Cond.selects RX3 yX3_roomOf yX3_roomOf, Cond.code yX3_roomOf cX3_roomOf 2 (some .int), Cond.fieldLink RX3 7 "GrantBookModel" "budgets" "[I", Cond.fieldLink RX3 23 "GrantBookModel" "movedTo" "[I", Cond.fieldLink RX3 26 "GrantBookModel" "movedAway" "[I", Cond.methodLink RX3 94 yX3_isFit, Cond.instanceMethod yX3_isFit, Cond.selects RX3 yX3_isFit yX3_isFit]
def wsX3_earned_r3 : List Cond := [Cond.code yX3_isFit cX3_isFit 3 (some .boolean), Cond.fieldLink RX3 38 "GrantBookModel" "isRefused" "[Z", Cond.fieldLink RX3 13 "GrantBookModel" "firsts" "[I", Cond.fieldLink RX3 16 "GrantBookModel" "lasts" "[I", Cond.methodLink RX3 119 yX3_overheadTo, Cond.instanceMethod yX3_overheadTo, Cond.selects RX3 yX3_overheadTo yX3_overheadTo, Cond.code yX3_overheadTo cX3_overheadTo 4 (some .int), Cond.fieldLink RX3 61 "GrantBookModel" "rate" "I", Cond.fieldLink RX3 65 "GrantBookModel" "ceiling" "I"]
def wsX3_earned : List Cond := .code yX3_earned cX3_earned 2 (some .int) :: ((wsX3_earned_r1 ++ (wsX3_earned_r2 ++ wsX3_earned_r3)) ++ wsX30)
def wsX3_missingMatch_r1 : List Cond := [Cond.fieldLink RX3 58 "GrantBookModel" "share" "I", Cond.fieldLink RX3 111 "GrantBookModel" "allMatch" "I", Cond.methodLink RX3 125 yX3_isDay, Cond.instanceMethod yX3_isDay, Cond.selects RX3 yX3_isDay yX3_isDay, Cond.initialized RX3, Cond.code yX3_isDay cX3_isDay 2 (some .boolean), Cond.fieldLink RX3 68 "GrantBookModel" "thrown" "I", Cond.methodLink RX3 74 yX3_in, Cond.static yX3_in, Cond.code yX3_in cX3_in 3 (some .boolean), Cond.methodLink RX3 122 yX3_unbound, Cond.instanceMethod yX3_unbound, Cond.selects RX3 yX3_unbound yX3_unbound, Cond.code yX3_unbound cX3_unbound 4 (some .int), Cond.constantLong RX3 117 (100), Cond.fieldLink RX3 54 "GrantBookModel" "grant" "I", Cond.methodLink RX3 114 yX3_costsTo, Cond.instanceMethod yX3_costsTo, Cond.selects RX3 yX3_costsTo yX3_costsTo, Cond.code yX3_costsTo cX3_costsTo 6 (some .int), Cond.fieldLink RX3 78 "GrantBookModel" "voucherMany" "I", Cond.fieldLink RX3 32 "GrantBookModel" "dayOf" "[I", Cond.fieldLink RX3 19 "GrantBookModel" "isBase" "[Z"]
def wsX3_missingMatch_r2 : List Cond := [Cond.fieldLink RX3 29 "GrantBookModel" "lineOf" "[I", Cond.fieldLink RX3 47 "GrantBookModel" "eligibles" "[I", Cond.methodLink RX3 97 yX3_layEligibles, Cond.instanceMethod yX3_layEligibles, Cond.selects RX3 yX3_layEligibles yX3_layEligibles, Cond.code yX3_layEligibles cX3_layEligibles 6 none, Cond.fieldLink RX3 71 "GrantBookModel" "lineMany" "I", Cond.fieldLink RX3 50 "GrantBookModel" "usedOf" "[I", Cond.fieldLink RX3 41 "GrantBookModel" "order" "[I", Cond.fieldLink RX3 35 "GrantBookModel" "amounts" "[I", Cond.methodLink RX3 90 yX3_roomOf, Cond.instanceMethod yX3_roomOf, Cond.selects RX3 yX3_roomOf yX3_roomOf, Cond.code yX3_roomOf cX3_roomOf 2 (some .int), Cond.fieldLink RX3 7 "GrantBookModel" "budgets" "[I", Cond.fieldLink RX3 23 "GrantBookModel" "movedTo" "[I", Cond.fieldLink RX3 26 "GrantBookModel" "movedAway" "[I", Cond.methodLink RX3 94 yX3_isFit, Cond.instanceMethod yX3_isFit, Cond.selects RX3 yX3_isFit yX3_isFit, Cond.code yX3_isFit cX3_isFit 3 (some .boolean), Cond.fieldLink RX3 38 "GrantBookModel" "isRefused" "[Z", Cond.fieldLink RX3 13 "GrantBookModel" "firsts" "[I", Cond.fieldLink RX3 16 "GrantBookModel" "lasts" "[I"]
def wsX3_missingMatch_r3 : List Cond := [Cond.methodLink RX3 119 yX3_overheadTo, Cond.instanceMethod yX3_overheadTo, Cond.selects RX3 yX3_overheadTo yX3_overheadTo, Cond.code yX3_overheadTo cX3_overheadTo 4 (some .int), Cond.fieldLink RX3 61 "GrantBookModel" "rate" "I", Cond.fieldLink RX3 65 "GrantBookModel" "ceiling" "I"]
def wsX3_missingMatch : List Cond := .code yX3_missingMatch cX3_missingMatch 4 (some .int) :: ((wsX3_missingMatch_r1 ++ (wsX3_missingMatch_r2 ++ wsX3_missingMatch_r3)) ++ wsX30)
def wsX3_paidSum : List Cond := .code yX3_paidSum cX3_paidSum 3 (some .int) :: ([.fieldLink RX3 82 "GrantBookModel" "claimMany" "I", .fieldLink RX3 44 "GrantBookModel" "claimPaid" "[I"] ++ wsX30)
def wsX3_claim_r1 : List Cond := [Cond.fieldLink RX3 131 "GrantBookModel" "claimDay" "I", Cond.fieldLink RX3 82 "GrantBookModel" "claimMany" "I", Cond.fieldLink RX3 68 "GrantBookModel" "thrown" "I", Cond.fieldLink RX3 44 "GrantBookModel" "claimPaid" "[I", Cond.methodLink RX3 74 yX3_in, Cond.static yX3_in, Cond.initialized RX3, Cond.code yX3_in cX3_in 3 (some .boolean), Cond.methodLink RX3 128 yX3_earnedTo, Cond.instanceMethod yX3_earnedTo, Cond.selects RX3 yX3_earnedTo yX3_earnedTo, Cond.code yX3_earnedTo cX3_earnedTo 5 (some .int), Cond.fieldLink RX3 58 "GrantBookModel" "share" "I", Cond.fieldLink RX3 111 "GrantBookModel" "allMatch" "I", Cond.methodLink RX3 122 yX3_unbound, Cond.instanceMethod yX3_unbound, Cond.selects RX3 yX3_unbound yX3_unbound, Cond.code yX3_unbound cX3_unbound 4 (some .int), Cond.constantLong RX3 117 (100), Cond.fieldLink RX3 54 "GrantBookModel" "grant" "I", Cond.methodLink RX3 114 yX3_costsTo, Cond.instanceMethod yX3_costsTo, Cond.selects RX3 yX3_costsTo yX3_costsTo, Cond.code yX3_costsTo cX3_costsTo 6 (some .int)]
def wsX3_claim_r2 : List Cond := [Cond.fieldLink RX3 78 "GrantBookModel" "voucherMany" "I", Cond.fieldLink RX3 32 "GrantBookModel" "dayOf" "[I", Cond.fieldLink RX3 19 "GrantBookModel" "isBase" "[Z", Cond.fieldLink RX3 29 "GrantBookModel" "lineOf" "[I", Cond.fieldLink RX3 47 "GrantBookModel" "eligibles" "[I", Cond.methodLink RX3 97 yX3_layEligibles, Cond.instanceMethod yX3_layEligibles, Cond.selects RX3 yX3_layEligibles yX3_layEligibles, Cond.code yX3_layEligibles cX3_layEligibles 6 none, Cond.fieldLink RX3 71 "GrantBookModel" "lineMany" "I", Cond.fieldLink RX3 50 "GrantBookModel" "usedOf" "[I", Cond.fieldLink RX3 41 "GrantBookModel" "order" "[I", Cond.fieldLink RX3 35 "GrantBookModel" "amounts" "[I", Cond.methodLink RX3 90 yX3_roomOf, Cond.instanceMethod yX3_roomOf, Cond.selects RX3 yX3_roomOf yX3_roomOf, Cond.code yX3_roomOf cX3_roomOf 2 (some .int), Cond.fieldLink RX3 7 "GrantBookModel" "budgets" "[I", Cond.fieldLink RX3 23 "GrantBookModel" "movedTo" "[I", Cond.fieldLink RX3 26 "GrantBookModel" "movedAway" "[I", Cond.methodLink RX3 94 yX3_isFit, Cond.instanceMethod yX3_isFit, Cond.selects RX3 yX3_isFit yX3_isFit, Cond.code yX3_isFit cX3_isFit 3 (some .boolean)]
def wsX3_claim_r3 : List Cond := [Cond.fieldLink RX3 38 "GrantBookModel" "isRefused" "[Z", Cond.fieldLink RX3 13 "GrantBookModel" "firsts" "[I", Cond.fieldLink RX3 16 "GrantBookModel" "lasts" "[I", Cond.methodLink RX3 119 yX3_overheadTo, Cond.instanceMethod yX3_overheadTo, Cond.selects RX3 yX3_overheadTo yX3_overheadTo, Cond.code yX3_overheadTo cX3_overheadTo 4 (some .int), Cond.fieldLink RX3 61 "GrantBookModel" "rate" "I", Cond.fieldLink RX3 65 "GrantBookModel" "ceiling" "I", Cond.methodLink RX3 134 yX3_paidSum, Cond.instanceMethod yX3_paidSum, Cond.selects RX3 yX3_paidSum yX3_paidSum, Cond.code yX3_paidSum cX3_paidSum 3 (some .int)]
def wsX3_claim : List Cond := .code yX3_claim cX3_claim 3 (some .int) :: ((wsX3_claim_r1 ++ (wsX3_claim_r2 ++ wsX3_claim_r3)) ++ wsX30)
def wsX3_claims : List Cond := .code yX3_claims cX3_claims 1 (some .int) :: ([.fieldLink RX3 68 "GrantBookModel" "thrown" "I", .fieldLink RX3 82 "GrantBookModel" "claimMany" "I"] ++ wsX30)
def wsX3_paid : List Cond := .code yX3_paid cX3_paid 2 (some .int) :: ([.fieldLink RX3 82 "GrantBookModel" "claimMany" "I", .fieldLink RX3 68 "GrantBookModel" "thrown" "I", .fieldLink RX3 44 "GrantBookModel" "claimPaid" "[I", .methodLink RX3 74 yX3_in, .static yX3_in, .initialized RX3, .code yX3_in cX3_in 3 (some .boolean)] ++ wsX30)
def wsX3_unsettled_r1 : List Cond := [Cond.fieldLink RX3 68 "GrantBookModel" "thrown" "I", Cond.fieldLink RX3 82 "GrantBookModel" "claimMany" "I", Cond.fieldLink RX3 131 "GrantBookModel" "claimDay" "I", Cond.methodLink RX3 128 yX3_earnedTo, Cond.instanceMethod yX3_earnedTo, Cond.selects RX3 yX3_earnedTo yX3_earnedTo, Cond.initialized RX3, Cond.code yX3_earnedTo cX3_earnedTo 5 (some .int), Cond.fieldLink RX3 58 "GrantBookModel" "share" "I", Cond.fieldLink RX3 111 "GrantBookModel" "allMatch" "I", Cond.methodLink RX3 122 yX3_unbound, Cond.instanceMethod yX3_unbound, Cond.selects RX3 yX3_unbound yX3_unbound, Cond.code yX3_unbound cX3_unbound 4 (some .int), Cond.constantLong RX3 117 (100), Cond.fieldLink RX3 54 "GrantBookModel" "grant" "I", Cond.methodLink RX3 114 yX3_costsTo, Cond.instanceMethod yX3_costsTo, Cond.selects RX3 yX3_costsTo yX3_costsTo, Cond.code yX3_costsTo cX3_costsTo 6 (some .int), Cond.fieldLink RX3 78 "GrantBookModel" "voucherMany" "I", Cond.fieldLink RX3 32 "GrantBookModel" "dayOf" "[I", Cond.fieldLink RX3 19 "GrantBookModel" "isBase" "[Z", Cond.fieldLink RX3 29 "GrantBookModel" "lineOf" "[I"]
def wsX3_unsettled_r2 : List Cond := [Cond.fieldLink RX3 47 "GrantBookModel" "eligibles" "[I", Cond.methodLink RX3 97 yX3_layEligibles, Cond.instanceMethod yX3_layEligibles, Cond.selects RX3 yX3_layEligibles yX3_layEligibles, Cond.code yX3_layEligibles cX3_layEligibles 6 none, Cond.fieldLink RX3 71 "GrantBookModel" "lineMany" "I", Cond.fieldLink RX3 50 "GrantBookModel" "usedOf" "[I", Cond.fieldLink RX3 41 "GrantBookModel" "order" "[I", Cond.fieldLink RX3 35 "GrantBookModel" "amounts" "[I", Cond.methodLink RX3 90 yX3_roomOf, Cond.instanceMethod yX3_roomOf, Cond.selects RX3 yX3_roomOf yX3_roomOf, Cond.code yX3_roomOf cX3_roomOf 2 (some .int), Cond.fieldLink RX3 7 "GrantBookModel" "budgets" "[I", Cond.fieldLink RX3 23 "GrantBookModel" "movedTo" "[I", Cond.fieldLink RX3 26 "GrantBookModel" "movedAway" "[I", Cond.methodLink RX3 94 yX3_isFit, Cond.instanceMethod yX3_isFit, Cond.selects RX3 yX3_isFit yX3_isFit, Cond.code yX3_isFit cX3_isFit 3 (some .boolean), Cond.fieldLink RX3 38 "GrantBookModel" "isRefused" "[Z", Cond.fieldLink RX3 13 "GrantBookModel" "firsts" "[I", Cond.fieldLink RX3 16 "GrantBookModel" "lasts" "[I", Cond.methodLink RX3 74 yX3_in]
def wsX3_unsettled_r3 : List Cond := [Cond.static yX3_in, Cond.code yX3_in cX3_in 3 (some .boolean), Cond.methodLink RX3 119 yX3_overheadTo, Cond.instanceMethod yX3_overheadTo, Cond.selects RX3 yX3_overheadTo yX3_overheadTo, Cond.code yX3_overheadTo cX3_overheadTo 4 (some .int), Cond.fieldLink RX3 61 "GrantBookModel" "rate" "I", Cond.fieldLink RX3 65 "GrantBookModel" "ceiling" "I", Cond.methodLink RX3 134 yX3_paidSum, Cond.instanceMethod yX3_paidSum, Cond.selects RX3 yX3_paidSum yX3_paidSum, Cond.code yX3_paidSum cX3_paidSum 3 (some .int), Cond.fieldLink RX3 44 "GrantBookModel" "claimPaid" "[I"]
def wsX3_unsettled : List Cond := .code yX3_unsettled cX3_unsettled 1 (some .int) :: ((wsX3_unsettled_r1 ++ (wsX3_unsettled_r2 ++ wsX3_unsettled_r3)) ++ wsX30)
def wsJ9_max_f86c9 : List Cond := .code yJ9_max_f86c9 cJ9_max_f86c9 4 (some .long) :: ([])
def wsJ9_min_7cf53 : List Cond := .code yJ9_min_7cf53 cJ9_min_7cf53 2 (some .int) :: ([])
def wsJ9_min_f86c9 : List Cond := .code yJ9_min_f86c9 cJ9_min_f86c9 4 (some .long) :: ([])
def wsL_setGrant : List Cond := .codeWith yL_setGrant cL_setGrant 6 (some .int) [(0, 9, 12, 13), (0, 9, 16, 15)] :: ([.classLink RL 13 "java/lang/IllegalArgumentException", .classLink RL 15 "java/lang/IllegalStateException", .methodLink RL 7 yX2_setGrant, .instanceMethod yX2_setGrant, .selects RX2 yX2_setGrant yX2_setGrant, .initialized RX2, .code yX2_setGrant cX2_setGrant 5 none, .classLink RX2 63 "java/lang/IllegalStateException", .initialized "java/lang/IllegalStateException", .constant RX2 58 (100000000), .fieldLink RX2 49 "GrantBook" "claimCount" "I", .fieldLink RX2 8 "GrantBook" "grantAmount" "I", .fieldLink RX2 14 "GrantBook" "grantShare" "I", .fieldLink RX2 17 "GrantBook" "overheadRate" "I", .fieldLink RX2 21 "GrantBook" "overheadCeiling" "I", .methodLink RX2 59 yX2_checkRange, .static yX2_checkRange, .code yX2_checkRange cX2_checkRange 3 none, .classLink RX2 90 "java/lang/IllegalArgumentException", .initialized "java/lang/IllegalArgumentException"] ++ wsX20 ++ (vx_atS RX2 67 "java/lang/IllegalStateException" ["java/lang/RuntimeException", "java/lang/Exception"]).filter goodWord ++ (vx_atS RX2 94 "java/lang/IllegalArgumentException" ["java/lang/RuntimeException", "java/lang/Exception"]).filter goodWord)
def wsL_addLine_r1 : List Cond := [Cond.classLink RL 13 "java/lang/IllegalArgumentException", Cond.classLink RL 15 "java/lang/IllegalStateException", Cond.methodLink RL 17 yX2_addLine, Cond.instanceMethod yX2_addLine, Cond.selects RX2 yX2_addLine yX2_addLine, Cond.initialized RX2, Cond.code yX2_addLine cX2_addLine 6 (some .int), Cond.classLink RX2 63 "java/lang/IllegalStateException", Cond.initialized "java/lang/IllegalStateException", Cond.constant RX2 70 (10000000), Cond.fieldLink RX2 30 "GrantBook" "lineCount" "I", Cond.fieldLink RX2 26 "GrantBook" "lineRows" "[LGrantBook$Line;", Cond.classLink RX2 24 RX0, Cond.instantiable RX0 7, Cond.initialized RX0, Cond.methodLink RX2 59 yX2_checkRange, Cond.static yX2_checkRange, Cond.code yX2_checkRange cX2_checkRange 3 none, Cond.classLink RX2 90 "java/lang/IllegalArgumentException", Cond.initialized "java/lang/IllegalArgumentException", Cond.methodLink RX2 71 yX2_checkDay, Cond.static yX2_checkDay, Cond.code yX2_checkDay cX2_checkDay 1 none, Cond.methodLink RX2 77 yX0_init]
def wsL_addLine_r2 : List Cond := [Cond.instanceMethod yX0_init, Cond.code yX0_init cX0_init 5 none, Cond.methodLink RX0 1 objectInit, Cond.instanceMethod objectInit, Cond.code objectInit ⟨#[0xb1]⟩ 1 none, Cond.fieldLink RX0 7 "GrantBook$Line" "movedIn" "I", Cond.fieldLink RX0 13 "GrantBook$Line" "movedAway" "I", Cond.fieldLink RX0 16 "GrantBook$Line" "earliest" "LGrantBook$Voucher;", Cond.fieldLink RX0 20 "GrantBook$Line" "budget" "I", Cond.fieldLink RX0 23 "GrantBook$Line" "first" "I", Cond.fieldLink RX0 26 "GrantBook$Line" "last" "I", Cond.fieldLink RX0 29 "GrantBook$Line" "isInBase" "Z"]
def wsL_addLine : List Cond := .codeWith yL_addLine cL_addLine 7 (some .int) [(0, 14, 17, 13), (0, 14, 21, 15)] :: ((wsL_addLine_r1 ++ wsL_addLine_r2) ++ wsX20 ++ wsX00 ++ (vx_atS RX2 67 "java/lang/IllegalStateException" ["java/lang/RuntimeException", "java/lang/Exception"]).filter goodWord ++ (vx_atS RX2 94 "java/lang/IllegalArgumentException" ["java/lang/RuntimeException", "java/lang/Exception"]).filter goodWord)
def wsL_extend_r1 : List Cond := [Cond.classLink RL 25 "java/lang/IndexOutOfBoundsException", Cond.classLink RL 13 "java/lang/IllegalArgumentException", Cond.methodLink RL 21 yX2_extend, Cond.instanceMethod yX2_extend, Cond.selects RX2 yX2_extend yX2_extend, Cond.initialized RX2, Cond.code yX2_extend cX2_extend 5 (some .int), Cond.fieldLink RX2 84 "GrantBook$Line" "last" "I", Cond.methodLink RX2 80 yX2_findLine, Cond.instanceMethod yX2_findLine, Cond.selects RX2 yX2_findLine yX2_findLine, Cond.code yX2_findLine cX2_findLine 3 (some (.object "GrantBook$Line")), Cond.classLink RX2 177 "java/lang/IndexOutOfBoundsException", Cond.initialized "java/lang/IndexOutOfBoundsException", Cond.fieldLink RX2 26 "GrantBook" "lineRows" "[LGrantBook$Line;", Cond.methodLink RX2 59 yX2_checkRange, Cond.static yX2_checkRange, Cond.code yX2_checkRange cX2_checkRange 3 none, Cond.classLink RX2 90 "java/lang/IllegalArgumentException", Cond.initialized "java/lang/IllegalArgumentException", Cond.methodLink RX2 87 yX0_reckon, Cond.instanceMethod yX0_reckon, Cond.selects RX0 yX0_reckon yX0_reckon, Cond.initialized RX0]
def wsL_extend_r2 : List Cond := [Cond.code yX0_reckon cX0_reckon 3 none, Cond.fieldLink RX0 16 "GrantBook$Line" "earliest" "LGrantBook$Voucher;", Cond.fieldLink RX0 52 "GrantBook$Voucher" "amount" "I", Cond.methodLink RX0 55 Lib.Math.min.name, Cond.static Lib.Math.min.name, Cond.initialized "java/lang/Math", Cond.code Lib.Math.min.name Lib.Math.min.code 2 (some .int), Cond.fieldLink RX0 61 "GrantBook$Voucher" "eligible" "I", Cond.fieldLink RX0 41 "GrantBook$Voucher" "next" "LGrantBook$Voucher;", Cond.methodLink RX0 44 yX0_money, Cond.instanceMethod yX0_money, Cond.selects RX0 yX0_money yX0_money, Cond.code yX0_money cX0_money 1 (some .int), Cond.fieldLink RX0 20 "GrantBook$Line" "budget" "I", Cond.fieldLink RX0 7 "GrantBook$Line" "movedIn" "I", Cond.fieldLink RX0 13 "GrantBook$Line" "movedAway" "I", Cond.methodLink RX0 48 yX0_accepts, Cond.instanceMethod yX0_accepts, Cond.selects RX0 yX0_accepts yX0_accepts, Cond.code yX0_accepts cX0_accepts 2 (some .boolean), Cond.fieldLink RX0 33 "GrantBook$Voucher" "isRefused" "Z", Cond.fieldLink RX0 38 "GrantBook$Voucher" "day" "I", Cond.fieldLink RX0 23 "GrantBook$Line" "first" "I", Cond.fieldLink RX0 26 "GrantBook$Line" "last" "I"]
def wsL_extend : List Cond := .codeWith yL_extend cL_extend 5 (some .int) [(0, 10, 13, 25), (0, 10, 17, 13)] :: ((wsL_extend_r1 ++ wsL_extend_r2) ++ wsX00 ++ wsX20 ++ wsX10 ++ (vx_atS RX2 181 "java/lang/IndexOutOfBoundsException" ["java/lang/RuntimeException", "java/lang/Exception"]).filter goodWord ++ (vx_atS RX2 94 "java/lang/IllegalArgumentException" ["java/lang/RuntimeException", "java/lang/Exception"]).filter goodWord)
def wsL_move_r1 : List Cond := [Cond.classLink RL 25 "java/lang/IndexOutOfBoundsException", Cond.classLink RL 13 "java/lang/IllegalArgumentException", Cond.classLink RL 15 "java/lang/IllegalStateException", Cond.methodLink RL 27 yX2_move, Cond.instanceMethod yX2_move, Cond.selects RX2 yX2_move yX2_move, Cond.initialized RX2, Cond.code yX2_move cX2_move 6 (some .int), Cond.classLink RX2 90 "java/lang/IllegalArgumentException", Cond.initialized "java/lang/IllegalArgumentException", Cond.classLink RX2 63 "java/lang/IllegalStateException", Cond.initialized "java/lang/IllegalStateException", Cond.constant RX2 70 (10000000), Cond.fieldLink RX2 95 "GrantBook$Line" "movedAway" "I", Cond.fieldLink RX2 98 "GrantBook$Line" "budget" "I", Cond.fieldLink RX2 103 "GrantBook$Line" "movedIn" "I", Cond.methodLink RX2 80 yX2_findLine, Cond.instanceMethod yX2_findLine, Cond.selects RX2 yX2_findLine yX2_findLine, Cond.code yX2_findLine cX2_findLine 3 (some (.object "GrantBook$Line")), Cond.classLink RX2 177 "java/lang/IndexOutOfBoundsException", Cond.initialized "java/lang/IndexOutOfBoundsException", Cond.fieldLink RX2 26 "GrantBook" "lineRows" "[LGrantBook$Line;", Cond.methodLink RX2 59 yX2_checkRange]
def wsL_move_r2 : List Cond := [Cond.static yX2_checkRange, Cond.code yX2_checkRange cX2_checkRange 3 none, Cond.methodLink RX2 87 yX0_reckon, Cond.instanceMethod yX0_reckon, Cond.selects RX0 yX0_reckon yX0_reckon, Cond.initialized RX0, Cond.code yX0_reckon cX0_reckon 3 none, Cond.fieldLink RX0 16 "GrantBook$Line" "earliest" "LGrantBook$Voucher;", Cond.fieldLink RX0 52 "GrantBook$Voucher" "amount" "I", Cond.methodLink RX0 55 Lib.Math.min.name, Cond.static Lib.Math.min.name, Cond.initialized "java/lang/Math", Cond.code Lib.Math.min.name Lib.Math.min.code 2 (some .int), Cond.fieldLink RX0 61 "GrantBook$Voucher" "eligible" "I", Cond.fieldLink RX0 41 "GrantBook$Voucher" "next" "LGrantBook$Voucher;", Cond.methodLink RX0 44 yX0_money, Cond.instanceMethod yX0_money, Cond.selects RX0 yX0_money yX0_money, Cond.code yX0_money cX0_money 1 (some .int), Cond.fieldLink RX0 20 "GrantBook$Line" "budget" "I", Cond.fieldLink RX0 7 "GrantBook$Line" "movedIn" "I", Cond.fieldLink RX0 13 "GrantBook$Line" "movedAway" "I", Cond.methodLink RX0 48 yX0_accepts, Cond.instanceMethod yX0_accepts]
def wsL_move_r3 : List Cond := [Cond.selects RX0 yX0_accepts yX0_accepts, Cond.code yX0_accepts cX0_accepts 2 (some .boolean), Cond.fieldLink RX0 33 "GrantBook$Voucher" "isRefused" "Z", Cond.fieldLink RX0 38 "GrantBook$Voucher" "day" "I", Cond.fieldLink RX0 23 "GrantBook$Line" "first" "I", Cond.fieldLink RX0 26 "GrantBook$Line" "last" "I", Cond.methodLink RX2 106 yX0_money]
def wsL_move : List Cond := .codeWith yL_move cL_move 6 (some .int) [(0, 12, 15, 25), (0, 12, 19, 13), (0, 12, 23, 15)] :: ((wsL_move_r1 ++ (wsL_move_r2 ++ wsL_move_r3)) ++ wsX00 ++ wsX20 ++ wsX10 ++ (vx_atS RX2 94 "java/lang/IllegalArgumentException" ["java/lang/RuntimeException", "java/lang/Exception"]).filter goodWord ++ (vx_atS RX2 67 "java/lang/IllegalStateException" ["java/lang/RuntimeException", "java/lang/Exception"]).filter goodWord ++ (vx_atS RX2 181 "java/lang/IndexOutOfBoundsException" ["java/lang/RuntimeException", "java/lang/Exception"]).filter goodWord)
def wsL_room : List Cond := .codeWith yL_room cL_room 4 (some .int) [(0, 9, 12, 25)] :: ([.classLink RL 25 "java/lang/IndexOutOfBoundsException", .methodLink RL 31 yX2_room, .instanceMethod yX2_room, .selects RX2 yX2_room yX2_room, .initialized RX2, .code yX2_room cX2_room 2 (some .int), .methodLink RX2 80 yX2_findLine, .instanceMethod yX2_findLine, .selects RX2 yX2_findLine yX2_findLine, .code yX2_findLine cX2_findLine 3 (some (.object "GrantBook$Line")), .classLink RX2 177 "java/lang/IndexOutOfBoundsException", .initialized "java/lang/IndexOutOfBoundsException", .fieldLink RX2 26 "GrantBook" "lineRows" "[LGrantBook$Line;", .methodLink RX2 106 yX0_money, .instanceMethod yX0_money, .selects RX0 yX0_money yX0_money, .initialized RX0, .code yX0_money cX0_money 1 (some .int), .fieldLink RX0 20 "GrantBook$Line" "budget" "I", .fieldLink RX0 7 "GrantBook$Line" "movedIn" "I", .fieldLink RX0 13 "GrantBook$Line" "movedAway" "I"] ++ wsX20 ++ wsX00 ++ (vx_atS RX2 181 "java/lang/IndexOutOfBoundsException" ["java/lang/RuntimeException", "java/lang/Exception"]).filter goodWord)
def wsL_left_r1 : List Cond := [Cond.classLink RL 25 "java/lang/IndexOutOfBoundsException", Cond.methodLink RL 35 yX2_left, Cond.instanceMethod yX2_left, Cond.selects RX2 yX2_left yX2_left, Cond.initialized RX2, Cond.code yX2_left cX2_left 3 (some .int), Cond.methodLink RX2 80 yX2_findLine, Cond.instanceMethod yX2_findLine, Cond.selects RX2 yX2_findLine yX2_findLine, Cond.code yX2_findLine cX2_findLine 3 (some (.object "GrantBook$Line")), Cond.classLink RX2 177 "java/lang/IndexOutOfBoundsException", Cond.initialized "java/lang/IndexOutOfBoundsException", Cond.fieldLink RX2 26 "GrantBook" "lineRows" "[LGrantBook$Line;", Cond.methodLink RX2 106 yX0_money, Cond.instanceMethod yX0_money, Cond.selects RX0 yX0_money yX0_money, Cond.initialized RX0, Cond.code yX0_money cX0_money 1 (some .int), Cond.fieldLink RX0 20 "GrantBook$Line" "budget" "I", Cond.fieldLink RX0 7 "GrantBook$Line" "movedIn" "I", Cond.fieldLink RX0 13 "GrantBook$Line" "movedAway" "I", Cond.methodLink RX2 110 yX0_eligibleUpTo, Cond.instanceMethod yX0_eligibleUpTo, Cond.selects RX0 yX0_eligibleUpTo yX0_eligibleUpTo]
def wsL_left_r2 : List Cond := [Cond.code yX0_eligibleUpTo cX0_eligibleUpTo 4 (some .int), Cond.fieldLink RX0 16 "GrantBook$Line" "earliest" "LGrantBook$Voucher;", Cond.fieldLink RX0 38 "GrantBook$Voucher" "day" "I", Cond.fieldLink RX0 61 "GrantBook$Voucher" "eligible" "I", Cond.fieldLink RX0 41 "GrantBook$Voucher" "next" "LGrantBook$Voucher;"]
def wsL_left : List Cond := .codeWith yL_left cL_left 4 (some .int) [(0, 9, 12, 25)] :: ((wsL_left_r1 ++ wsL_left_r2) ++ wsX20 ++ wsX00 ++ wsX10 ++ (vx_atS RX2 181 "java/lang/IndexOutOfBoundsException" ["java/lang/RuntimeException", "java/lang/Exception"]).filter goodWord)
def wsL_spend_r1 : List Cond := [Cond.classLink RL 25 "java/lang/IndexOutOfBoundsException", Cond.classLink RL 13 "java/lang/IllegalArgumentException", Cond.classLink RL 15 "java/lang/IllegalStateException", Cond.methodLink RL 38 yX2_spend, Cond.instanceMethod yX2_spend, Cond.selects RX2 yX2_spend yX2_spend, Cond.initialized RX2, Cond.code yX2_spend cX2_spend 7 (some .int), Cond.classLink RX2 63 "java/lang/IllegalStateException", Cond.initialized "java/lang/IllegalStateException", Cond.constant RX2 70 (10000000), Cond.fieldLink RX2 39 "GrantBook" "voucherCount" "I", Cond.fieldLink RX2 35 "GrantBook" "voucherRows" "[LGrantBook$Voucher;", Cond.classLink RX2 33 RX1, Cond.instantiable RX1 6, Cond.initialized RX1, Cond.methodLink RX2 80 yX2_findLine, Cond.instanceMethod yX2_findLine, Cond.selects RX2 yX2_findLine yX2_findLine, Cond.code yX2_findLine cX2_findLine 3 (some (.object "GrantBook$Line")), Cond.classLink RX2 177 "java/lang/IndexOutOfBoundsException", Cond.initialized "java/lang/IndexOutOfBoundsException", Cond.fieldLink RX2 26 "GrantBook" "lineRows" "[LGrantBook$Line;", Cond.methodLink RX2 71 yX2_checkDay]
def wsL_spend_r2 : List Cond := [Cond.static yX2_checkDay, Cond.code yX2_checkDay cX2_checkDay 1 none, Cond.methodLink RX2 59 yX2_checkRange, Cond.static yX2_checkRange, Cond.code yX2_checkRange cX2_checkRange 3 none, Cond.classLink RX2 90 "java/lang/IllegalArgumentException", Cond.initialized "java/lang/IllegalArgumentException", Cond.methodLink RX2 116 yX1_init, Cond.instanceMethod yX1_init, Cond.code yX1_init cX1_init 4 none, Cond.methodLink RX1 1 objectInit, Cond.instanceMethod objectInit, Cond.code objectInit ⟨#[0xb1]⟩ 1 none, Cond.fieldLink RX1 7 "GrantBook$Voucher" "isRefused" "Z", Cond.fieldLink RX1 13 "GrantBook$Voucher" "eligible" "I", Cond.fieldLink RX1 17 "GrantBook$Voucher" "next" "LGrantBook$Voucher;", Cond.fieldLink RX1 21 "GrantBook$Voucher" "line" "LGrantBook$Line;", Cond.fieldLink RX1 25 "GrantBook$Voucher" "day" "I", Cond.fieldLink RX1 28 "GrantBook$Voucher" "amount" "I", Cond.methodLink RX2 119 yX0_putInOrder, Cond.instanceMethod yX0_putInOrder, Cond.selects RX0 yX0_putInOrder yX0_putInOrder, Cond.initialized RX0, Cond.code yX0_putInOrder cX0_putInOrder 4 none]
def wsL_spend_r3 : List Cond := [Cond.fieldLink RX0 16 "GrantBook$Line" "earliest" "LGrantBook$Voucher;", Cond.fieldLink RX0 38 "GrantBook$Voucher" "day" "I", Cond.fieldLink RX0 41 "GrantBook$Voucher" "next" "LGrantBook$Voucher;", Cond.methodLink RX2 87 yX0_reckon, Cond.instanceMethod yX0_reckon, Cond.selects RX0 yX0_reckon yX0_reckon, Cond.code yX0_reckon cX0_reckon 3 none, Cond.fieldLink RX0 52 "GrantBook$Voucher" "amount" "I", Cond.methodLink RX0 55 Lib.Math.min.name, Cond.static Lib.Math.min.name, Cond.initialized "java/lang/Math", Cond.code Lib.Math.min.name Lib.Math.min.code 2 (some .int), Cond.fieldLink RX0 61 "GrantBook$Voucher" "eligible" "I", Cond.methodLink RX0 44 yX0_money, Cond.instanceMethod yX0_money, Cond.selects RX0 yX0_money yX0_money, Cond.code yX0_money cX0_money 1 (some .int), Cond.fieldLink RX0 20 "GrantBook$Line" "budget" "I", Cond.fieldLink RX0 7 "GrantBook$Line" "movedIn" "I", Cond.fieldLink RX0 13 "GrantBook$Line" "movedAway" "I", Cond.methodLink RX0 48 yX0_accepts, Cond.instanceMethod yX0_accepts, Cond.selects RX0 yX0_accepts yX0_accepts, Cond.code yX0_accepts cX0_accepts 2 (some .boolean)]
def wsL_spend_r4 : List Cond := [Cond.fieldLink RX0 33 "GrantBook$Voucher" "isRefused" "Z", Cond.fieldLink RX0 23 "GrantBook$Line" "first" "I", Cond.fieldLink RX0 26 "GrantBook$Line" "last" "I"]
def wsL_spend : List Cond := .codeWith yL_spend cL_spend 6 (some .int) [(0, 12, 15, 25), (0, 12, 19, 13), (0, 12, 23, 15)] :: ((wsL_spend_r1 ++ (wsL_spend_r2 ++ (wsL_spend_r3 ++ wsL_spend_r4))) ++ wsX20 ++ wsX10 ++ wsX00 ++ (vx_atS RX2 67 "java/lang/IllegalStateException" ["java/lang/RuntimeException", "java/lang/Exception"]).filter goodWord ++ (vx_atS RX2 181 "java/lang/IndexOutOfBoundsException" ["java/lang/RuntimeException", "java/lang/Exception"]).filter goodWord ++ (vx_atS RX2 94 "java/lang/IllegalArgumentException" ["java/lang/RuntimeException", "java/lang/Exception"]).filter goodWord)
def wsL_refuse_r1 : List Cond := [Cond.classLink RL 25 "java/lang/IndexOutOfBoundsException", Cond.classLink RL 15 "java/lang/IllegalStateException", Cond.methodLink RL 41 yX2_refuse, Cond.instanceMethod yX2_refuse, Cond.selects RX2 yX2_refuse yX2_refuse, Cond.initialized RX2, Cond.code yX2_refuse cX2_refuse 3 (some .int), Cond.classLink RX2 63 "java/lang/IllegalStateException", Cond.initialized "java/lang/IllegalStateException", Cond.fieldLink RX2 127 "GrantBook$Voucher" "isRefused" "Z", Cond.methodLink RX2 123 yX2_findVoucher, Cond.instanceMethod yX2_findVoucher, Cond.selects RX2 yX2_findVoucher yX2_findVoucher, Cond.code yX2_findVoucher cX2_findVoucher 3 (some (.object "GrantBook$Voucher")), Cond.classLink RX2 177 "java/lang/IndexOutOfBoundsException", Cond.initialized "java/lang/IndexOutOfBoundsException", Cond.fieldLink RX2 35 "GrantBook" "voucherRows" "[LGrantBook$Voucher;", Cond.methodLink RX2 133 yX2_eligibleMoreWith, Cond.static yX2_eligibleMoreWith, Cond.code yX2_eligibleMoreWith cX2_eligibleMoreWith 4 (some .int), Cond.fieldLink RX2 141 "GrantBook$Voucher" "line" "LGrantBook$Line;", Cond.methodLink RX2 110 yX0_eligibleUpTo, Cond.instanceMethod yX0_eligibleUpTo, Cond.selects RX0 yX0_eligibleUpTo yX0_eligibleUpTo]
def wsL_refuse_r2 : List Cond := [Cond.initialized RX0, Cond.code yX0_eligibleUpTo cX0_eligibleUpTo 4 (some .int), Cond.fieldLink RX0 16 "GrantBook$Line" "earliest" "LGrantBook$Voucher;", Cond.fieldLink RX0 38 "GrantBook$Voucher" "day" "I", Cond.fieldLink RX0 61 "GrantBook$Voucher" "eligible" "I", Cond.fieldLink RX0 41 "GrantBook$Voucher" "next" "LGrantBook$Voucher;", Cond.methodLink RX2 87 yX0_reckon, Cond.instanceMethod yX0_reckon, Cond.selects RX0 yX0_reckon yX0_reckon, Cond.code yX0_reckon cX0_reckon 3 none, Cond.fieldLink RX0 52 "GrantBook$Voucher" "amount" "I", Cond.methodLink RX0 55 Lib.Math.min.name, Cond.static Lib.Math.min.name, Cond.initialized "java/lang/Math", Cond.code Lib.Math.min.name Lib.Math.min.code 2 (some .int), Cond.methodLink RX0 44 yX0_money, Cond.instanceMethod yX0_money, Cond.selects RX0 yX0_money yX0_money, Cond.code yX0_money cX0_money 1 (some .int), Cond.fieldLink RX0 20 "GrantBook$Line" "budget" "I", Cond.fieldLink RX0 7 "GrantBook$Line" "movedIn" "I", Cond.fieldLink RX0 13 "GrantBook$Line" "movedAway" "I", Cond.methodLink RX0 48 yX0_accepts, Cond.instanceMethod yX0_accepts]
def wsL_refuse_r3 : List Cond := [Cond.selects RX0 yX0_accepts yX0_accepts, Cond.code yX0_accepts cX0_accepts 2 (some .boolean), Cond.fieldLink RX0 33 "GrantBook$Voucher" "isRefused" "Z", Cond.fieldLink RX0 23 "GrantBook$Line" "first" "I", Cond.fieldLink RX0 26 "GrantBook$Line" "last" "I"]
def wsL_refuse : List Cond := .codeWith yL_refuse cL_refuse 4 (some .int) [(0, 9, 12, 25), (0, 9, 15, 15)] :: ((wsL_refuse_r1 ++ (wsL_refuse_r2 ++ wsL_refuse_r3)) ++ wsX10 ++ wsX20 ++ wsX00 ++ (vx_atS RX2 67 "java/lang/IllegalStateException" ["java/lang/RuntimeException", "java/lang/Exception"]).filter goodWord ++ (vx_atS RX2 181 "java/lang/IndexOutOfBoundsException" ["java/lang/RuntimeException", "java/lang/Exception"]).filter goodWord)
def wsL_admit_r1 : List Cond := [Cond.classLink RL 25 "java/lang/IndexOutOfBoundsException", Cond.classLink RL 15 "java/lang/IllegalStateException", Cond.methodLink RL 44 yX2_admit, Cond.instanceMethod yX2_admit, Cond.selects RX2 yX2_admit yX2_admit, Cond.initialized RX2, Cond.code yX2_admit cX2_admit 3 (some .int), Cond.classLink RX2 63 "java/lang/IllegalStateException", Cond.initialized "java/lang/IllegalStateException", Cond.fieldLink RX2 127 "GrantBook$Voucher" "isRefused" "Z", Cond.methodLink RX2 123 yX2_findVoucher, Cond.instanceMethod yX2_findVoucher, Cond.selects RX2 yX2_findVoucher yX2_findVoucher, Cond.code yX2_findVoucher cX2_findVoucher 3 (some (.object "GrantBook$Voucher")), Cond.classLink RX2 177 "java/lang/IndexOutOfBoundsException", Cond.initialized "java/lang/IndexOutOfBoundsException", Cond.fieldLink RX2 35 "GrantBook" "voucherRows" "[LGrantBook$Voucher;", Cond.methodLink RX2 133 yX2_eligibleMoreWith, Cond.static yX2_eligibleMoreWith, Cond.code yX2_eligibleMoreWith cX2_eligibleMoreWith 4 (some .int), Cond.fieldLink RX2 141 "GrantBook$Voucher" "line" "LGrantBook$Line;", Cond.methodLink RX2 110 yX0_eligibleUpTo, Cond.instanceMethod yX0_eligibleUpTo, Cond.selects RX0 yX0_eligibleUpTo yX0_eligibleUpTo]
def wsL_admit_r2 : List Cond := [Cond.initialized RX0, Cond.code yX0_eligibleUpTo cX0_eligibleUpTo 4 (some .int), Cond.fieldLink RX0 16 "GrantBook$Line" "earliest" "LGrantBook$Voucher;", Cond.fieldLink RX0 38 "GrantBook$Voucher" "day" "I", Cond.fieldLink RX0 61 "GrantBook$Voucher" "eligible" "I", Cond.fieldLink RX0 41 "GrantBook$Voucher" "next" "LGrantBook$Voucher;", Cond.methodLink RX2 87 yX0_reckon, Cond.instanceMethod yX0_reckon, Cond.selects RX0 yX0_reckon yX0_reckon, Cond.code yX0_reckon cX0_reckon 3 none, Cond.fieldLink RX0 52 "GrantBook$Voucher" "amount" "I", Cond.methodLink RX0 55 Lib.Math.min.name, Cond.static Lib.Math.min.name, Cond.initialized "java/lang/Math", Cond.code Lib.Math.min.name Lib.Math.min.code 2 (some .int), Cond.methodLink RX0 44 yX0_money, Cond.instanceMethod yX0_money, Cond.selects RX0 yX0_money yX0_money, Cond.code yX0_money cX0_money 1 (some .int), Cond.fieldLink RX0 20 "GrantBook$Line" "budget" "I", Cond.fieldLink RX0 7 "GrantBook$Line" "movedIn" "I", Cond.fieldLink RX0 13 "GrantBook$Line" "movedAway" "I", Cond.methodLink RX0 48 yX0_accepts, Cond.instanceMethod yX0_accepts]
def wsL_admit_r3 : List Cond := [Cond.selects RX0 yX0_accepts yX0_accepts, Cond.code yX0_accepts cX0_accepts 2 (some .boolean), Cond.fieldLink RX0 33 "GrantBook$Voucher" "isRefused" "Z", Cond.fieldLink RX0 23 "GrantBook$Line" "first" "I", Cond.fieldLink RX0 26 "GrantBook$Line" "last" "I"]
def wsL_admit : List Cond := .codeWith yL_admit cL_admit 4 (some .int) [(0, 9, 12, 25), (0, 9, 15, 15)] :: ((wsL_admit_r1 ++ (wsL_admit_r2 ++ wsL_admit_r3)) ++ wsX10 ++ wsX20 ++ wsX00 ++ (vx_atS RX2 67 "java/lang/IllegalStateException" ["java/lang/RuntimeException", "java/lang/Exception"]).filter goodWord ++ (vx_atS RX2 181 "java/lang/IndexOutOfBoundsException" ["java/lang/RuntimeException", "java/lang/Exception"]).filter goodWord)
def wsL_match : List Cond := .codeWith yL_match cL_match 4 (some .int) [(0, 9, 12, 13), (0, 9, 15, 15)] :: ([.classLink RL 13 "java/lang/IllegalArgumentException", .classLink RL 15 "java/lang/IllegalStateException", .methodLink RL 47 yX2_match, .instanceMethod yX2_match, .selects RX2 yX2_match yX2_match, .initialized RX2, .code yX2_match cX2_match 2 (some .int), .classLink RX2 63 "java/lang/IllegalStateException", .initialized "java/lang/IllegalStateException", .constant RX2 70 (10000000), .fieldLink RX2 42 "GrantBook" "allMatch" "I", .constant RX2 58 (100000000), .methodLink RX2 59 yX2_checkRange, .static yX2_checkRange, .code yX2_checkRange cX2_checkRange 3 none, .classLink RX2 90 "java/lang/IllegalArgumentException", .initialized "java/lang/IllegalArgumentException"] ++ wsX20 ++ (vx_atS RX2 67 "java/lang/IllegalStateException" ["java/lang/RuntimeException", "java/lang/Exception"]).filter goodWord ++ (vx_atS RX2 94 "java/lang/IllegalArgumentException" ["java/lang/RuntimeException", "java/lang/Exception"]).filter goodWord)
def wsL_fits : List Cond := .codeWith yL_fits cL_fits 4 (some .int) [(0, 16, 19, 25)] :: ([.classLink RL 25 "java/lang/IndexOutOfBoundsException", .methodLink RL 50 yX2_fits, .instanceMethod yX2_fits, .selects RX2 yX2_fits yX2_fits, .initialized RX2, .code yX2_fits cX2_fits 3 (some .boolean), .fieldLink RX2 141 "GrantBook$Voucher" "line" "LGrantBook$Line;", .methodLink RX2 123 yX2_findVoucher, .instanceMethod yX2_findVoucher, .selects RX2 yX2_findVoucher yX2_findVoucher, .code yX2_findVoucher cX2_findVoucher 3 (some (.object "GrantBook$Voucher")), .classLink RX2 177 "java/lang/IndexOutOfBoundsException", .initialized "java/lang/IndexOutOfBoundsException", .fieldLink RX2 35 "GrantBook" "voucherRows" "[LGrantBook$Voucher;", .methodLink RX2 145 yX0_accepts, .instanceMethod yX0_accepts, .selects RX0 yX0_accepts yX0_accepts, .initialized RX0, .code yX0_accepts cX0_accepts 2 (some .boolean), .fieldLink RX0 33 "GrantBook$Voucher" "isRefused" "Z", .fieldLink RX0 38 "GrantBook$Voucher" "day" "I", .fieldLink RX0 23 "GrantBook$Line" "first" "I", .fieldLink RX0 26 "GrantBook$Line" "last" "I"] ++ wsX10 ++ wsX20 ++ wsX00 ++ (vx_atS RX2 181 "java/lang/IndexOutOfBoundsException" ["java/lang/RuntimeException", "java/lang/Exception"]).filter goodWord)
def wsL_eligible : List Cond := .codeWith yL_eligible cL_eligible 4 (some .int) [(0, 9, 12, 25)] :: ([.classLink RL 25 "java/lang/IndexOutOfBoundsException", .methodLink RL 54 yX2_eligible, .instanceMethod yX2_eligible, .selects RX2 yX2_eligible yX2_eligible, .initialized RX2, .code yX2_eligible cX2_eligible 2 (some .int), .fieldLink RX2 149 "GrantBook$Voucher" "eligible" "I", .methodLink RX2 123 yX2_findVoucher, .instanceMethod yX2_findVoucher, .selects RX2 yX2_findVoucher yX2_findVoucher, .code yX2_findVoucher cX2_findVoucher 3 (some (.object "GrantBook$Voucher")), .classLink RX2 177 "java/lang/IndexOutOfBoundsException", .initialized "java/lang/IndexOutOfBoundsException", .fieldLink RX2 35 "GrantBook" "voucherRows" "[LGrantBook$Voucher;"] ++ wsX10 ++ wsX20 ++ (vx_atS RX2 181 "java/lang/IndexOutOfBoundsException" ["java/lang/RuntimeException", "java/lang/Exception"]).filter goodWord)
def wsL_costs_r1 : List Cond := [Cond.classLink RL 13 "java/lang/IllegalArgumentException", Cond.methodLink RL 57 yX2_costs, Cond.instanceMethod yX2_costs, Cond.selects RX2 yX2_costs yX2_costs, Cond.initialized RX2, Cond.code yX2_costs cX2_costs 2 (some .int), Cond.methodLink RX2 71 yX2_checkDay, Cond.static yX2_checkDay, Cond.code yX2_checkDay cX2_checkDay 1 none, Cond.methodLink RX2 59 yX2_checkRange, Cond.static yX2_checkRange, Cond.code yX2_checkRange cX2_checkRange 3 none, Cond.classLink RX2 90 "java/lang/IllegalArgumentException", Cond.initialized "java/lang/IllegalArgumentException", Cond.methodLink RX2 152 yX2_costsUpTo, Cond.instanceMethod yX2_costsUpTo, Cond.selects RX2 yX2_costsUpTo yX2_costsUpTo, Cond.code yX2_costsUpTo cX2_costsUpTo 2 (some .int), Cond.methodLink RX2 188 yX2_eligibleInAll, Cond.instanceMethod yX2_eligibleInAll, Cond.selects RX2 yX2_eligibleInAll yX2_eligibleInAll, Cond.code yX2_eligibleInAll cX2_eligibleInAll 8 (some .int), Cond.fieldLink RX2 26 "GrantBook" "lineRows" "[LGrantBook$Line;", Cond.fieldLink RX2 197 "GrantBook$Line" "isInBase" "Z"]
def wsL_costs_r2 : List Cond := [Cond.methodLink RX2 110 yX0_eligibleUpTo, Cond.instanceMethod yX0_eligibleUpTo, Cond.selects RX0 yX0_eligibleUpTo yX0_eligibleUpTo, Cond.initialized RX0, Cond.code yX0_eligibleUpTo cX0_eligibleUpTo 4 (some .int), Cond.fieldLink RX0 16 "GrantBook$Line" "earliest" "LGrantBook$Voucher;", Cond.fieldLink RX0 38 "GrantBook$Voucher" "day" "I", Cond.fieldLink RX0 61 "GrantBook$Voucher" "eligible" "I", Cond.fieldLink RX0 41 "GrantBook$Voucher" "next" "LGrantBook$Voucher;"]
def wsL_costs : List Cond := .codeWith yL_costs cL_costs 4 (some .int) [(0, 9, 12, 13)] :: ((wsL_costs_r1 ++ wsL_costs_r2) ++ wsX20 ++ wsX00 ++ wsX10 ++ (vx_atS RX2 94 "java/lang/IllegalArgumentException" ["java/lang/RuntimeException", "java/lang/Exception"]).filter goodWord)
def wsL_overhead_r1 : List Cond := [Cond.classLink RL 13 "java/lang/IllegalArgumentException", Cond.methodLink RL 60 yX2_overhead, Cond.instanceMethod yX2_overhead, Cond.selects RX2 yX2_overhead yX2_overhead, Cond.initialized RX2, Cond.code yX2_overhead cX2_overhead 2 (some .int), Cond.methodLink RX2 71 yX2_checkDay, Cond.static yX2_checkDay, Cond.code yX2_checkDay cX2_checkDay 1 none, Cond.methodLink RX2 59 yX2_checkRange, Cond.static yX2_checkRange, Cond.code yX2_checkRange cX2_checkRange 3 none, Cond.classLink RX2 90 "java/lang/IllegalArgumentException", Cond.initialized "java/lang/IllegalArgumentException", Cond.methodLink RX2 155 yX2_overheadUpTo, Cond.instanceMethod yX2_overheadUpTo, Cond.selects RX2 yX2_overheadUpTo yX2_overheadUpTo, Cond.code yX2_overheadUpTo cX2_overheadUpTo 4 (some .int), Cond.fieldLink RX2 17 "GrantBook" "overheadRate" "I", Cond.constantLong RX2 192 (100), Cond.fieldLink RX2 21 "GrantBook" "overheadCeiling" "I", Cond.methodLink RX2 194 Lib.MathLoose.min_long.x, Cond.static Lib.MathLoose.min_long.x, Cond.initialized "java/lang/Math"]
def wsL_overhead_r2 : List Cond := [Cond.code Lib.MathLoose.min_long.x Lib.MathLoose.min_long.code 4 (some .long), Cond.methodLink RX2 188 yX2_eligibleInAll, Cond.instanceMethod yX2_eligibleInAll, Cond.selects RX2 yX2_eligibleInAll yX2_eligibleInAll, Cond.code yX2_eligibleInAll cX2_eligibleInAll 8 (some .int), Cond.fieldLink RX2 26 "GrantBook" "lineRows" "[LGrantBook$Line;", Cond.fieldLink RX2 197 "GrantBook$Line" "isInBase" "Z", Cond.methodLink RX2 110 yX0_eligibleUpTo, Cond.instanceMethod yX0_eligibleUpTo, Cond.selects RX0 yX0_eligibleUpTo yX0_eligibleUpTo, Cond.initialized RX0, Cond.code yX0_eligibleUpTo cX0_eligibleUpTo 4 (some .int), Cond.fieldLink RX0 16 "GrantBook$Line" "earliest" "LGrantBook$Voucher;", Cond.fieldLink RX0 38 "GrantBook$Voucher" "day" "I", Cond.fieldLink RX0 61 "GrantBook$Voucher" "eligible" "I", Cond.fieldLink RX0 41 "GrantBook$Voucher" "next" "LGrantBook$Voucher;"]
def wsL_overhead : List Cond := .codeWith yL_overhead cL_overhead 4 (some .int) [(0, 9, 12, 13)] :: ((wsL_overhead_r1 ++ wsL_overhead_r2) ++ wsX20 ++ wsX00 ++ wsX10 ++ (vx_atS RX2 94 "java/lang/IllegalArgumentException" ["java/lang/RuntimeException", "java/lang/Exception"]).filter goodWord)
def wsL_earned_r1 : List Cond := [Cond.classLink RL 13 "java/lang/IllegalArgumentException", Cond.methodLink RL 63 yX2_earned, Cond.instanceMethod yX2_earned, Cond.selects RX2 yX2_earned yX2_earned, Cond.initialized RX2, Cond.code yX2_earned cX2_earned 2 (some .int), Cond.methodLink RX2 71 yX2_checkDay, Cond.static yX2_checkDay, Cond.code yX2_checkDay cX2_checkDay 1 none, Cond.methodLink RX2 59 yX2_checkRange, Cond.static yX2_checkRange, Cond.code yX2_checkRange cX2_checkRange 3 none, Cond.classLink RX2 90 "java/lang/IllegalArgumentException", Cond.initialized "java/lang/IllegalArgumentException", Cond.methodLink RX2 158 yX2_earnedUpTo, Cond.instanceMethod yX2_earnedUpTo, Cond.selects RX2 yX2_earnedUpTo yX2_earnedUpTo, Cond.code yX2_earnedUpTo cX2_earnedUpTo 5 (some .int), Cond.fieldLink RX2 14 "GrantBook" "grantShare" "I", Cond.fieldLink RX2 42 "GrantBook" "allMatch" "I", Cond.methodLink RX2 194 Lib.MathLoose.min_long.x, Cond.static Lib.MathLoose.min_long.x, Cond.initialized "java/lang/Math", Cond.code Lib.MathLoose.min_long.x Lib.MathLoose.min_long.code 4 (some .long)]
def wsL_earned_r2 : List Cond := [Cond.methodLink RX2 161 yX2_earnedButForMatch, Cond.instanceMethod yX2_earnedButForMatch, Cond.selects RX2 yX2_earnedButForMatch yX2_earnedButForMatch, Cond.code yX2_earnedButForMatch cX2_earnedButForMatch 4 (some .long), Cond.constantLong RX2 192 (100), Cond.fieldLink RX2 8 "GrantBook" "grantAmount" "I", Cond.methodLink RX2 152 yX2_costsUpTo, Cond.instanceMethod yX2_costsUpTo, Cond.selects RX2 yX2_costsUpTo yX2_costsUpTo, Cond.code yX2_costsUpTo cX2_costsUpTo 2 (some .int), Cond.methodLink RX2 188 yX2_eligibleInAll, Cond.instanceMethod yX2_eligibleInAll, Cond.selects RX2 yX2_eligibleInAll yX2_eligibleInAll, Cond.code yX2_eligibleInAll cX2_eligibleInAll 8 (some .int), Cond.fieldLink RX2 26 "GrantBook" "lineRows" "[LGrantBook$Line;", Cond.fieldLink RX2 197 "GrantBook$Line" "isInBase" "Z", Cond.methodLink RX2 110 yX0_eligibleUpTo, Cond.instanceMethod yX0_eligibleUpTo, Cond.selects RX0 yX0_eligibleUpTo yX0_eligibleUpTo, Cond.initialized RX0, Cond.code yX0_eligibleUpTo cX0_eligibleUpTo 4 (some .int), Cond.fieldLink RX0 16 "GrantBook$Line" "earliest" "LGrantBook$Voucher;", Cond.fieldLink RX0 38 "GrantBook$Voucher" "day" "I", Cond.fieldLink RX0 61 "GrantBook$Voucher" "eligible" "I"]
def wsL_earned_r3 : List Cond := [Cond.fieldLink RX0 41 "GrantBook$Voucher" "next" "LGrantBook$Voucher;", Cond.methodLink RX2 155 yX2_overheadUpTo, Cond.instanceMethod yX2_overheadUpTo, Cond.selects RX2 yX2_overheadUpTo yX2_overheadUpTo, Cond.code yX2_overheadUpTo cX2_overheadUpTo 4 (some .int), Cond.fieldLink RX2 17 "GrantBook" "overheadRate" "I", Cond.fieldLink RX2 21 "GrantBook" "overheadCeiling" "I"]
def wsL_earned : List Cond := .codeWith yL_earned cL_earned 4 (some .int) [(0, 9, 12, 13)] :: ((wsL_earned_r1 ++ (wsL_earned_r2 ++ wsL_earned_r3)) ++ wsX20 ++ wsX00 ++ wsX10 ++ (vx_atS RX2 94 "java/lang/IllegalArgumentException" ["java/lang/RuntimeException", "java/lang/Exception"]).filter goodWord)
def wsL_missingMatch_r1 : List Cond := [Cond.classLink RL 13 "java/lang/IllegalArgumentException", Cond.methodLink RL 66 yX2_missingMatch, Cond.instanceMethod yX2_missingMatch, Cond.selects RX2 yX2_missingMatch yX2_missingMatch, Cond.initialized RX2, Cond.code yX2_missingMatch cX2_missingMatch 4 (some .int), Cond.fieldLink RX2 42 "GrantBook" "allMatch" "I", Cond.methodLink RX2 169 Lib.MathLoose.max_long.x, Cond.static Lib.MathLoose.max_long.x, Cond.initialized "java/lang/Math", Cond.code Lib.MathLoose.max_long.x Lib.MathLoose.max_long.code 4 (some .long), Cond.methodLink RX2 71 yX2_checkDay, Cond.static yX2_checkDay, Cond.code yX2_checkDay cX2_checkDay 1 none, Cond.methodLink RX2 59 yX2_checkRange, Cond.static yX2_checkRange, Cond.code yX2_checkRange cX2_checkRange 3 none, Cond.classLink RX2 90 "java/lang/IllegalArgumentException", Cond.initialized "java/lang/IllegalArgumentException", Cond.methodLink RX2 161 yX2_earnedButForMatch, Cond.instanceMethod yX2_earnedButForMatch, Cond.selects RX2 yX2_earnedButForMatch yX2_earnedButForMatch, Cond.code yX2_earnedButForMatch cX2_earnedButForMatch 4 (some .long), Cond.fieldLink RX2 14 "GrantBook" "grantShare" "I"]
def wsL_missingMatch_r2 : List Cond := [Cond.constantLong RX2 192 (100), Cond.fieldLink RX2 8 "GrantBook" "grantAmount" "I", Cond.methodLink RX2 194 Lib.MathLoose.min_long.x, Cond.static Lib.MathLoose.min_long.x, Cond.code Lib.MathLoose.min_long.x Lib.MathLoose.min_long.code 4 (some .long), Cond.methodLink RX2 152 yX2_costsUpTo, Cond.instanceMethod yX2_costsUpTo, Cond.selects RX2 yX2_costsUpTo yX2_costsUpTo, Cond.code yX2_costsUpTo cX2_costsUpTo 2 (some .int), Cond.methodLink RX2 188 yX2_eligibleInAll, Cond.instanceMethod yX2_eligibleInAll, Cond.selects RX2 yX2_eligibleInAll yX2_eligibleInAll, Cond.code yX2_eligibleInAll cX2_eligibleInAll 8 (some .int), Cond.fieldLink RX2 26 "GrantBook" "lineRows" "[LGrantBook$Line;", Cond.fieldLink RX2 197 "GrantBook$Line" "isInBase" "Z", Cond.methodLink RX2 110 yX0_eligibleUpTo, Cond.instanceMethod yX0_eligibleUpTo, Cond.selects RX0 yX0_eligibleUpTo yX0_eligibleUpTo, Cond.initialized RX0, Cond.code yX0_eligibleUpTo cX0_eligibleUpTo 4 (some .int), Cond.fieldLink RX0 16 "GrantBook$Line" "earliest" "LGrantBook$Voucher;", Cond.fieldLink RX0 38 "GrantBook$Voucher" "day" "I", Cond.fieldLink RX0 61 "GrantBook$Voucher" "eligible" "I", Cond.fieldLink RX0 41 "GrantBook$Voucher" "next" "LGrantBook$Voucher;"]
def wsL_missingMatch_r3 : List Cond := [Cond.methodLink RX2 155 yX2_overheadUpTo, Cond.instanceMethod yX2_overheadUpTo, Cond.selects RX2 yX2_overheadUpTo yX2_overheadUpTo, Cond.code yX2_overheadUpTo cX2_overheadUpTo 4 (some .int), Cond.fieldLink RX2 17 "GrantBook" "overheadRate" "I", Cond.fieldLink RX2 21 "GrantBook" "overheadCeiling" "I", Cond.methodLink RX2 165 yX2_leastMatchFor, Cond.instanceMethod yX2_leastMatchFor, Cond.selects RX2 yX2_leastMatchFor yX2_leastMatchFor, Cond.code yX2_leastMatchFor cX2_leastMatchFor 4 (some .long)]
def wsL_missingMatch : List Cond := .codeWith yL_missingMatch cL_missingMatch 4 (some .int) [(0, 9, 12, 13)] :: ((wsL_missingMatch_r1 ++ (wsL_missingMatch_r2 ++ wsL_missingMatch_r3)) ++ wsX20 ++ wsX00 ++ wsX10 ++ (vx_atS RX2 94 "java/lang/IllegalArgumentException" ["java/lang/RuntimeException", "java/lang/Exception"]).filter goodWord)
def wsL_claim_r1 : List Cond := [Cond.classLink RL 13 "java/lang/IllegalArgumentException", Cond.classLink RL 15 "java/lang/IllegalStateException", Cond.methodLink RL 69 yX2_claim, Cond.instanceMethod yX2_claim, Cond.selects RX2 yX2_claim yX2_claim, Cond.initialized RX2, Cond.code yX2_claim cX2_claim 4 (some .int), Cond.classLink RX2 63 "java/lang/IllegalStateException", Cond.initialized "java/lang/IllegalStateException", Cond.fieldLink RX2 52 "GrantBook" "lastClaimDay" "I", Cond.fieldLink RX2 49 "GrantBook" "claimCount" "I", Cond.fieldLink RX2 45 "GrantBook" "payments" "[I", Cond.fieldLink RX2 55 "GrantBook" "paidInAll" "I", Cond.methodLink RX2 59 yX2_checkRange, Cond.static yX2_checkRange, Cond.code yX2_checkRange cX2_checkRange 3 none, Cond.classLink RX2 90 "java/lang/IllegalArgumentException", Cond.initialized "java/lang/IllegalArgumentException", Cond.methodLink RX2 158 yX2_earnedUpTo, Cond.instanceMethod yX2_earnedUpTo, Cond.selects RX2 yX2_earnedUpTo yX2_earnedUpTo, Cond.code yX2_earnedUpTo cX2_earnedUpTo 5 (some .int), Cond.fieldLink RX2 14 "GrantBook" "grantShare" "I", Cond.fieldLink RX2 42 "GrantBook" "allMatch" "I"]
def wsL_claim_r2 : List Cond := [Cond.methodLink RX2 194 Lib.MathLoose.min_long.x, Cond.static Lib.MathLoose.min_long.x, Cond.initialized "java/lang/Math", Cond.code Lib.MathLoose.min_long.x Lib.MathLoose.min_long.code 4 (some .long), Cond.methodLink RX2 161 yX2_earnedButForMatch, Cond.instanceMethod yX2_earnedButForMatch, Cond.selects RX2 yX2_earnedButForMatch yX2_earnedButForMatch, Cond.code yX2_earnedButForMatch cX2_earnedButForMatch 4 (some .long), Cond.constantLong RX2 192 (100), Cond.fieldLink RX2 8 "GrantBook" "grantAmount" "I", Cond.methodLink RX2 152 yX2_costsUpTo, Cond.instanceMethod yX2_costsUpTo, Cond.selects RX2 yX2_costsUpTo yX2_costsUpTo, Cond.code yX2_costsUpTo cX2_costsUpTo 2 (some .int), Cond.methodLink RX2 188 yX2_eligibleInAll, Cond.instanceMethod yX2_eligibleInAll, Cond.selects RX2 yX2_eligibleInAll yX2_eligibleInAll, Cond.code yX2_eligibleInAll cX2_eligibleInAll 8 (some .int), Cond.fieldLink RX2 26 "GrantBook" "lineRows" "[LGrantBook$Line;", Cond.fieldLink RX2 197 "GrantBook$Line" "isInBase" "Z", Cond.methodLink RX2 110 yX0_eligibleUpTo, Cond.instanceMethod yX0_eligibleUpTo, Cond.selects RX0 yX0_eligibleUpTo yX0_eligibleUpTo, Cond.initialized RX0]
def wsL_claim_r3 : List Cond := [Cond.code yX0_eligibleUpTo cX0_eligibleUpTo 4 (some .int), Cond.fieldLink RX0 16 "GrantBook$Line" "earliest" "LGrantBook$Voucher;", Cond.fieldLink RX0 38 "GrantBook$Voucher" "day" "I", Cond.fieldLink RX0 61 "GrantBook$Voucher" "eligible" "I", Cond.fieldLink RX0 41 "GrantBook$Voucher" "next" "LGrantBook$Voucher;", Cond.methodLink RX2 155 yX2_overheadUpTo, Cond.instanceMethod yX2_overheadUpTo, Cond.selects RX2 yX2_overheadUpTo yX2_overheadUpTo, Cond.code yX2_overheadUpTo cX2_overheadUpTo 4 (some .int), Cond.fieldLink RX2 17 "GrantBook" "overheadRate" "I", Cond.fieldLink RX2 21 "GrantBook" "overheadCeiling" "I"]
def wsL_claim : List Cond := .codeWith yL_claim cL_claim 4 (some .int) [(0, 9, 12, 13), (0, 9, 15, 15)] :: ((wsL_claim_r1 ++ (wsL_claim_r2 ++ wsL_claim_r3)) ++ wsX20 ++ wsX00 ++ wsX10 ++ (vx_atS RX2 67 "java/lang/IllegalStateException" ["java/lang/RuntimeException", "java/lang/Exception"]).filter goodWord ++ (vx_atS RX2 94 "java/lang/IllegalArgumentException" ["java/lang/RuntimeException", "java/lang/Exception"]).filter goodWord)
def wsL_paid : List Cond := .codeWith yL_paid cL_paid 4 (some .int) [(0, 9, 12, 25)] :: ([.classLink RL 25 "java/lang/IndexOutOfBoundsException", .methodLink RL 72 yX2_paid, .instanceMethod yX2_paid, .selects RX2 yX2_paid yX2_paid, .initialized RX2, .code yX2_paid cX2_paid 2 (some .int), .classLink RX2 177 "java/lang/IndexOutOfBoundsException", .initialized "java/lang/IndexOutOfBoundsException", .fieldLink RX2 49 "GrantBook" "claimCount" "I", .fieldLink RX2 45 "GrantBook" "payments" "[I"] ++ wsX20 ++ (vx_atS RX2 181 "java/lang/IndexOutOfBoundsException" ["java/lang/RuntimeException", "java/lang/Exception"]).filter goodWord)
def wsL_law0_r1 : List Cond := [Cond.classLink RL 8 RX2, Cond.instantiable RX2 13, Cond.initialized RX2, Cond.classLink RL 76 RX3, Cond.instantiable RX3 24, Cond.initialized RX3, Cond.arrayClass .long, Cond.methodLink RL 75 yX2_init, Cond.instanceMethod yX2_init, Cond.code yX2_init cX2_init 1 none, Cond.methodLink RX2 1 objectInit, Cond.instanceMethod objectInit, Cond.code objectInit ⟨#[0xb1]⟩ 1 none, Cond.constant RX2 7 (1000000), Cond.fieldLink RX2 8 "GrantBook" "grantAmount" "I", Cond.fieldLink RX2 14 "GrantBook" "grantShare" "I", Cond.fieldLink RX2 17 "GrantBook" "overheadRate" "I", Cond.constant RX2 20 (50000), Cond.fieldLink RX2 21 "GrantBook" "overheadCeiling" "I", Cond.classLink RX2 24 RX0, Cond.fieldLink RX2 26 "GrantBook" "lineRows" "[LGrantBook$Line;", Cond.fieldLink RX2 30 "GrantBook" "lineCount" "I", Cond.classLink RX2 33 RX1, Cond.fieldLink RX2 35 "GrantBook" "voucherRows" "[LGrantBook$Voucher;"]
def wsL_law0_r2 : List Cond := [Cond.fieldLink RX2 39 "GrantBook" "voucherCount" "I", Cond.fieldLink RX2 42 "GrantBook" "allMatch" "I", Cond.arrayClass .int, Cond.fieldLink RX2 45 "GrantBook" "payments" "[I", Cond.fieldLink RX2 49 "GrantBook" "claimCount" "I", Cond.fieldLink RX2 52 "GrantBook" "lastClaimDay" "I", Cond.fieldLink RX2 55 "GrantBook" "paidInAll" "I", Cond.methodLink RL 78 yX3_init, Cond.instanceMethod yX3_init, Cond.code yX3_init cX3_init 1 none, Cond.methodLink RX3 1 objectInit, Cond.fieldLink RX3 7 "GrantBookModel" "budgets" "[I", Cond.fieldLink RX3 13 "GrantBookModel" "firsts" "[I", Cond.fieldLink RX3 16 "GrantBookModel" "lasts" "[I", Cond.arrayClass .boolean, Cond.fieldLink RX3 19 "GrantBookModel" "isBase" "[Z", Cond.fieldLink RX3 23 "GrantBookModel" "movedTo" "[I", Cond.fieldLink RX3 26 "GrantBookModel" "movedAway" "[I", Cond.fieldLink RX3 29 "GrantBookModel" "lineOf" "[I", Cond.fieldLink RX3 32 "GrantBookModel" "dayOf" "[I", Cond.fieldLink RX3 35 "GrantBookModel" "amounts" "[I", Cond.fieldLink RX3 38 "GrantBookModel" "isRefused" "[Z", Cond.fieldLink RX3 41 "GrantBookModel" "order" "[I", Cond.fieldLink RX3 44 "GrantBookModel" "claimPaid" "[I"]
def wsL_law0_r3 : List Cond := [Cond.fieldLink RX3 47 "GrantBookModel" "eligibles" "[I", Cond.fieldLink RX3 50 "GrantBookModel" "usedOf" "[I", Cond.constant RX3 53 (1000000), Cond.fieldLink RX3 54 "GrantBookModel" "grant" "I", Cond.fieldLink RX3 58 "GrantBookModel" "share" "I", Cond.fieldLink RX3 61 "GrantBookModel" "rate" "I", Cond.constant RX3 64 (50000), Cond.fieldLink RX3 65 "GrantBookModel" "ceiling" "I", Cond.methodLink RL 79 yL_setGrant, Cond.static yL_setGrant, Cond.initialized RL, Cond.codeWith yL_setGrant cL_setGrant 6 (some .int) [(0, 9, 12, 13), (0, 9, 16, 15)], Cond.classLink RL 13 "java/lang/IllegalArgumentException", Cond.classLink RL 15 "java/lang/IllegalStateException", Cond.methodLink RL 7 yX2_setGrant, Cond.instanceMethod yX2_setGrant, Cond.selects RX2 yX2_setGrant yX2_setGrant, Cond.code yX2_setGrant cX2_setGrant 5 none, Cond.classLink RX2 63 "java/lang/IllegalStateException", Cond.initialized "java/lang/IllegalStateException", Cond.constant RX2 58 (100000000), Cond.methodLink RX2 59 yX2_checkRange, Cond.static yX2_checkRange, Cond.code yX2_checkRange cX2_checkRange 3 none]
def wsL_law0_r4 : List Cond := [Cond.classLink RX2 90 "java/lang/IllegalArgumentException", Cond.initialized "java/lang/IllegalArgumentException", Cond.methodLink RL 84 yX3_setGrant, Cond.instanceMethod yX3_setGrant, Cond.selects RX3 yX3_setGrant yX3_setGrant, Cond.code yX3_setGrant cX3_setGrant 5 none, Cond.constant RX3 81 (100000000), Cond.fieldLink RX3 82 "GrantBookModel" "claimMany" "I", Cond.fieldLink RX3 68 "GrantBookModel" "thrown" "I", Cond.methodLink RX3 74 yX3_in, Cond.static yX3_in, Cond.code yX3_in cX3_in 3 (some .boolean), Cond.methodLink RL 85 yX3_thrown, Cond.instanceMethod yX3_thrown, Cond.selects RX3 yX3_thrown yX3_thrown, Cond.code yX3_thrown cX3_thrown 1 (some .int), Cond.methodLink RL 89 yL_addLine, Cond.static yL_addLine, Cond.codeWith yL_addLine cL_addLine 7 (some .int) [(0, 14, 17, 13), (0, 14, 21, 15)], Cond.methodLink RL 17 yX2_addLine, Cond.instanceMethod yX2_addLine, Cond.selects RX2 yX2_addLine yX2_addLine, Cond.code yX2_addLine cX2_addLine 6 (some .int), Cond.constant RX2 70 (10000000)]
def wsL_law0_r5 : List Cond := [Cond.instantiable RX0 7, Cond.initialized RX0, Cond.methodLink RX2 71 yX2_checkDay, Cond.static yX2_checkDay, Cond.code yX2_checkDay cX2_checkDay 1 none, Cond.methodLink RX2 77 yX0_init, Cond.instanceMethod yX0_init, Cond.code yX0_init cX0_init 5 none, Cond.methodLink RX0 1 objectInit, Cond.fieldLink RX0 7 "GrantBook$Line" "movedIn" "I", Cond.fieldLink RX0 13 "GrantBook$Line" "movedAway" "I", Cond.fieldLink RX0 16 "GrantBook$Line" "earliest" "LGrantBook$Voucher;", Cond.fieldLink RX0 20 "GrantBook$Line" "budget" "I", Cond.fieldLink RX0 23 "GrantBook$Line" "first" "I", Cond.fieldLink RX0 26 "GrantBook$Line" "last" "I", Cond.fieldLink RX0 29 "GrantBook$Line" "isInBase" "Z", Cond.methodLink RL 92 yX3_addLine, Cond.instanceMethod yX3_addLine, Cond.selects RX3 yX3_addLine yX3_addLine, Cond.code yX3_addLine cX3_addLine 5 (some .int), Cond.constant RX3 85 (10000000), Cond.fieldLink RX3 71 "GrantBookModel" "lineMany" "I", Cond.methodLink RL 93 yL_extend, Cond.static yL_extend]
def wsL_law0_r6 : List Cond := [Cond.codeWith yL_extend cL_extend 5 (some .int) [(0, 10, 13, 25), (0, 10, 17, 13)], Cond.classLink RL 25 "java/lang/IndexOutOfBoundsException", Cond.methodLink RL 21 yX2_extend, Cond.instanceMethod yX2_extend, Cond.selects RX2 yX2_extend yX2_extend, Cond.code yX2_extend cX2_extend 5 (some .int), Cond.fieldLink RX2 84 "GrantBook$Line" "last" "I", Cond.methodLink RX2 80 yX2_findLine, Cond.instanceMethod yX2_findLine, Cond.selects RX2 yX2_findLine yX2_findLine, Cond.code yX2_findLine cX2_findLine 3 (some (.object "GrantBook$Line")), Cond.classLink RX2 177 "java/lang/IndexOutOfBoundsException", Cond.initialized "java/lang/IndexOutOfBoundsException", Cond.methodLink RX2 87 yX0_reckon, Cond.instanceMethod yX0_reckon, Cond.selects RX0 yX0_reckon yX0_reckon, Cond.code yX0_reckon cX0_reckon 3 none, Cond.fieldLink RX0 52 "GrantBook$Voucher" "amount" "I", Cond.methodLink RX0 55 Lib.Math.min.name, Cond.static Lib.Math.min.name, Cond.initialized "java/lang/Math", Cond.code Lib.Math.min.name Lib.Math.min.code 2 (some .int), Cond.fieldLink RX0 61 "GrantBook$Voucher" "eligible" "I", Cond.fieldLink RX0 41 "GrantBook$Voucher" "next" "LGrantBook$Voucher;"]
def wsL_law0_r7 : List Cond := [Cond.methodLink RX0 44 yX0_money, Cond.instanceMethod yX0_money, Cond.selects RX0 yX0_money yX0_money, Cond.code yX0_money cX0_money 1 (some .int), Cond.methodLink RX0 48 yX0_accepts, Cond.instanceMethod yX0_accepts, Cond.selects RX0 yX0_accepts yX0_accepts, Cond.code yX0_accepts cX0_accepts 2 (some .boolean), Cond.fieldLink RX0 33 "GrantBook$Voucher" "isRefused" "Z", Cond.fieldLink RX0 38 "GrantBook$Voucher" "day" "I", Cond.methodLink RL 96 yX3_extend, Cond.instanceMethod yX3_extend, Cond.selects RX3 yX3_extend yX3_extend, Cond.code yX3_extend cX3_extend 4 (some .int), Cond.methodLink RX3 86 yX3_isLine, Cond.instanceMethod yX3_isLine, Cond.selects RX3 yX3_isLine yX3_isLine, Cond.code yX3_isLine cX3_isLine 2 (some .boolean), Cond.methodLink RL 97 yL_move, Cond.static yL_move, Cond.codeWith yL_move cL_move 6 (some .int) [(0, 12, 15, 25), (0, 12, 19, 13), (0, 12, 23, 15)], Cond.methodLink RL 27 yX2_move, Cond.instanceMethod yX2_move, Cond.selects RX2 yX2_move yX2_move]
def wsL_law0_r8 : List Cond := [Cond.code yX2_move cX2_move 6 (some .int), Cond.fieldLink RX2 95 "GrantBook$Line" "movedAway" "I", Cond.fieldLink RX2 98 "GrantBook$Line" "budget" "I", Cond.fieldLink RX2 103 "GrantBook$Line" "movedIn" "I", Cond.methodLink RX2 106 yX0_money, Cond.methodLink RL 100 yX3_move, Cond.instanceMethod yX3_move, Cond.selects RX3 yX3_move yX3_move, Cond.code yX3_move cX3_move 4 (some .int), Cond.methodLink RX3 90 yX3_roomOf, Cond.instanceMethod yX3_roomOf, Cond.selects RX3 yX3_roomOf yX3_roomOf, Cond.code yX3_roomOf cX3_roomOf 2 (some .int), Cond.methodLink RL 101 yX2_lines, Cond.instanceMethod yX2_lines, Cond.selects RX2 yX2_lines yX2_lines, Cond.code yX2_lines cX2_lines 1 (some .int), Cond.methodLink RL 104 yX3_lines, Cond.instanceMethod yX3_lines, Cond.selects RX3 yX3_lines yX3_lines, Cond.code yX3_lines cX3_lines 1 (some .int), Cond.methodLink RL 105 yL_room, Cond.static yL_room, Cond.codeWith yL_room cL_room 4 (some .int) [(0, 9, 12, 25)]]
def wsL_law0_r9 : List Cond := [Cond.methodLink RL 31 yX2_room, Cond.instanceMethod yX2_room, Cond.selects RX2 yX2_room yX2_room, Cond.code yX2_room cX2_room 2 (some .int), Cond.methodLink RL 108 yX3_room, Cond.instanceMethod yX3_room, Cond.selects RX3 yX3_room yX3_room, Cond.code yX3_room cX3_room 2 (some .int), Cond.methodLink RL 109 yL_left, Cond.static yL_left, Cond.codeWith yL_left cL_left 4 (some .int) [(0, 9, 12, 25)], Cond.methodLink RL 35 yX2_left, Cond.instanceMethod yX2_left, Cond.selects RX2 yX2_left yX2_left, Cond.code yX2_left cX2_left 3 (some .int), Cond.methodLink RX2 110 yX0_eligibleUpTo, Cond.instanceMethod yX0_eligibleUpTo, Cond.selects RX0 yX0_eligibleUpTo yX0_eligibleUpTo, Cond.code yX0_eligibleUpTo cX0_eligibleUpTo 4 (some .int), Cond.methodLink RL 111 yX3_left, Cond.instanceMethod yX3_left, Cond.selects RX3 yX3_left yX3_left, Cond.code yX3_left cX3_left 2 (some .int), Cond.methodLink RX3 97 yX3_layEligibles]
def wsL_law0_r10 : List Cond := [Cond.instanceMethod yX3_layEligibles, Cond.selects RX3 yX3_layEligibles yX3_layEligibles, Cond.code yX3_layEligibles cX3_layEligibles 6 none, Cond.fieldLink RX3 78 "GrantBookModel" "voucherMany" "I", Cond.methodLink RX3 94 yX3_isFit, Cond.instanceMethod yX3_isFit, Cond.selects RX3 yX3_isFit yX3_isFit, Cond.code yX3_isFit cX3_isFit 3 (some .boolean), Cond.methodLink RL 112 yL_spend, Cond.static yL_spend, Cond.codeWith yL_spend cL_spend 6 (some .int) [(0, 12, 15, 25), (0, 12, 19, 13), (0, 12, 23, 15)], Cond.methodLink RL 38 yX2_spend, Cond.instanceMethod yX2_spend, Cond.selects RX2 yX2_spend yX2_spend, Cond.code yX2_spend cX2_spend 7 (some .int), Cond.instantiable RX1 6, Cond.initialized RX1, Cond.methodLink RX2 116 yX1_init, Cond.instanceMethod yX1_init, Cond.code yX1_init cX1_init 4 none, Cond.methodLink RX1 1 objectInit, Cond.fieldLink RX1 7 "GrantBook$Voucher" "isRefused" "Z", Cond.fieldLink RX1 13 "GrantBook$Voucher" "eligible" "I", Cond.fieldLink RX1 17 "GrantBook$Voucher" "next" "LGrantBook$Voucher;"]
def wsL_law0_r11 : List Cond := [Cond.fieldLink RX1 21 "GrantBook$Voucher" "line" "LGrantBook$Line;", Cond.fieldLink RX1 25 "GrantBook$Voucher" "day" "I", Cond.fieldLink RX1 28 "GrantBook$Voucher" "amount" "I", Cond.methodLink RX2 119 yX0_putInOrder, Cond.instanceMethod yX0_putInOrder, Cond.selects RX0 yX0_putInOrder yX0_putInOrder, Cond.code yX0_putInOrder cX0_putInOrder 4 none, Cond.methodLink RL 114 yX3_spend, Cond.instanceMethod yX3_spend, Cond.selects RX3 yX3_spend yX3_spend, Cond.code yX3_spend cX3_spend 5 (some .int), Cond.methodLink RL 115 yL_refuse, Cond.static yL_refuse, Cond.codeWith yL_refuse cL_refuse 4 (some .int) [(0, 9, 12, 25), (0, 9, 15, 15)], Cond.methodLink RL 41 yX2_refuse, Cond.instanceMethod yX2_refuse, Cond.selects RX2 yX2_refuse yX2_refuse, Cond.code yX2_refuse cX2_refuse 3 (some .int), Cond.fieldLink RX2 127 "GrantBook$Voucher" "isRefused" "Z", Cond.methodLink RX2 123 yX2_findVoucher, Cond.instanceMethod yX2_findVoucher, Cond.selects RX2 yX2_findVoucher yX2_findVoucher, Cond.code yX2_findVoucher cX2_findVoucher 3 (some (.object "GrantBook$Voucher")), Cond.methodLink RX2 133 yX2_eligibleMoreWith]
def wsL_law0_r12 : List Cond := [Cond.static yX2_eligibleMoreWith, Cond.code yX2_eligibleMoreWith cX2_eligibleMoreWith 4 (some .int), Cond.fieldLink RX2 141 "GrantBook$Voucher" "line" "LGrantBook$Line;", Cond.methodLink RL 117 yX3_refuse, Cond.instanceMethod yX3_refuse, Cond.selects RX3 yX3_refuse yX3_refuse, Cond.code yX3_refuse cX3_refuse 2 (some .int), Cond.methodLink RX3 107 yX3_mark, Cond.instanceMethod yX3_mark, Cond.selects RX3 yX3_mark yX3_mark, Cond.code yX3_mark cX3_mark 4 (some .int), Cond.methodLink RX3 100 yX3_isVoucher, Cond.instanceMethod yX3_isVoucher, Cond.selects RX3 yX3_isVoucher yX3_isVoucher, Cond.code yX3_isVoucher cX3_isVoucher 2 (some .boolean), Cond.methodLink RX3 103 yX3_allEligible, Cond.instanceMethod yX3_allEligible, Cond.selects RX3 yX3_allEligible yX3_allEligible, Cond.code yX3_allEligible cX3_allEligible 3 (some .int), Cond.methodLink RL 118 yL_admit, Cond.static yL_admit, Cond.codeWith yL_admit cL_admit 4 (some .int) [(0, 9, 12, 25), (0, 9, 15, 15)], Cond.methodLink RL 44 yX2_admit, Cond.instanceMethod yX2_admit]
def wsL_law0_r13 : List Cond := [Cond.selects RX2 yX2_admit yX2_admit, Cond.code yX2_admit cX2_admit 3 (some .int), Cond.methodLink RL 120 yX3_admit, Cond.instanceMethod yX3_admit, Cond.selects RX3 yX3_admit yX3_admit, Cond.code yX3_admit cX3_admit 2 (some .int), Cond.methodLink RL 121 yL_match, Cond.static yL_match, Cond.codeWith yL_match cL_match 4 (some .int) [(0, 9, 12, 13), (0, 9, 15, 15)], Cond.methodLink RL 47 yX2_match, Cond.instanceMethod yX2_match, Cond.selects RX2 yX2_match yX2_match, Cond.code yX2_match cX2_match 2 (some .int), Cond.methodLink RL 123 yX3_match, Cond.instanceMethod yX3_match, Cond.selects RX3 yX3_match yX3_match, Cond.code yX3_match cX3_match 2 (some .int), Cond.fieldLink RX3 111 "GrantBookModel" "allMatch" "I", Cond.methodLink RL 124 yX2_vouchers, Cond.instanceMethod yX2_vouchers, Cond.selects RX2 yX2_vouchers yX2_vouchers, Cond.code yX2_vouchers cX2_vouchers 1 (some .int), Cond.methodLink RL 127 yX3_vouchers, Cond.instanceMethod yX3_vouchers]
def wsL_law0_r14 : List Cond := [Cond.selects RX3 yX3_vouchers yX3_vouchers, Cond.code yX3_vouchers cX3_vouchers 1 (some .int), Cond.methodLink RL 128 yL_fits, Cond.static yL_fits, Cond.codeWith yL_fits cL_fits 4 (some .int) [(0, 16, 19, 25)], Cond.methodLink RL 50 yX2_fits, Cond.instanceMethod yX2_fits, Cond.selects RX2 yX2_fits yX2_fits, Cond.code yX2_fits cX2_fits 3 (some .boolean), Cond.methodLink RX2 145 yX0_accepts, Cond.methodLink RL 130 yX3_fits, Cond.instanceMethod yX3_fits, Cond.selects RX3 yX3_fits yX3_fits, Cond.code yX3_fits cX3_fits 2 (some .boolean), Cond.methodLink RL 131 yL_eligible, Cond.static yL_eligible, Cond.codeWith yL_eligible cL_eligible 4 (some .int) [(0, 9, 12, 25)], Cond.methodLink RL 54 yX2_eligible, Cond.instanceMethod yX2_eligible, Cond.selects RX2 yX2_eligible yX2_eligible, Cond.code yX2_eligible cX2_eligible 2 (some .int), Cond.fieldLink RX2 149 "GrantBook$Voucher" "eligible" "I", Cond.methodLink RL 133 yX3_eligible, Cond.instanceMethod yX3_eligible]
def wsL_law0_r15 : List Cond := [Cond.selects RX3 yX3_eligible yX3_eligible, Cond.code yX3_eligible cX3_eligible 2 (some .int), Cond.methodLink RL 134 yL_costs, Cond.static yL_costs, Cond.codeWith yL_costs cL_costs 4 (some .int) [(0, 9, 12, 13)], Cond.methodLink RL 57 yX2_costs, Cond.instanceMethod yX2_costs, Cond.selects RX2 yX2_costs yX2_costs, Cond.code yX2_costs cX2_costs 2 (some .int), Cond.methodLink RX2 152 yX2_costsUpTo, Cond.instanceMethod yX2_costsUpTo, Cond.selects RX2 yX2_costsUpTo yX2_costsUpTo, Cond.code yX2_costsUpTo cX2_costsUpTo 2 (some .int), Cond.methodLink RX2 188 yX2_eligibleInAll, Cond.instanceMethod yX2_eligibleInAll, Cond.selects RX2 yX2_eligibleInAll yX2_eligibleInAll, Cond.code yX2_eligibleInAll cX2_eligibleInAll 8 (some .int), Cond.fieldLink RX2 197 "GrantBook$Line" "isInBase" "Z", Cond.methodLink RL 136 yX3_costs, Cond.instanceMethod yX3_costs, Cond.selects RX3 yX3_costs yX3_costs, Cond.code yX3_costs cX3_costs 2 (some .int), Cond.methodLink RX3 125 yX3_isDay, Cond.instanceMethod yX3_isDay]
def wsL_law0_r16 : List Cond := [Cond.selects RX3 yX3_isDay yX3_isDay, Cond.code yX3_isDay cX3_isDay 2 (some .boolean), Cond.methodLink RX3 114 yX3_costsTo, Cond.instanceMethod yX3_costsTo, Cond.selects RX3 yX3_costsTo yX3_costsTo, Cond.code yX3_costsTo cX3_costsTo 6 (some .int), Cond.methodLink RL 137 yL_overhead, Cond.static yL_overhead, Cond.codeWith yL_overhead cL_overhead 4 (some .int) [(0, 9, 12, 13)], Cond.methodLink RL 60 yX2_overhead, Cond.instanceMethod yX2_overhead, Cond.selects RX2 yX2_overhead yX2_overhead, Cond.code yX2_overhead cX2_overhead 2 (some .int), Cond.methodLink RX2 155 yX2_overheadUpTo, Cond.instanceMethod yX2_overheadUpTo, Cond.selects RX2 yX2_overheadUpTo yX2_overheadUpTo, Cond.code yX2_overheadUpTo cX2_overheadUpTo 4 (some .int), Cond.constantLong RX2 192 (100), Cond.methodLink RX2 194 Lib.MathLoose.min_long.x, Cond.static Lib.MathLoose.min_long.x, Cond.code Lib.MathLoose.min_long.x Lib.MathLoose.min_long.code 4 (some .long), Cond.methodLink RL 139 yX3_overhead, Cond.instanceMethod yX3_overhead, Cond.selects RX3 yX3_overhead yX3_overhead]
def wsL_law0_r17 : List Cond := [Cond.code yX3_overhead cX3_overhead 2 (some .int), Cond.methodLink RX3 119 yX3_overheadTo, Cond.instanceMethod yX3_overheadTo, Cond.selects RX3 yX3_overheadTo yX3_overheadTo, Cond.code yX3_overheadTo cX3_overheadTo 4 (some .int), Cond.constantLong RX3 117 (100), Cond.methodLink RL 140 yL_earned, Cond.static yL_earned, Cond.codeWith yL_earned cL_earned 4 (some .int) [(0, 9, 12, 13)], Cond.methodLink RL 63 yX2_earned, Cond.instanceMethod yX2_earned, Cond.selects RX2 yX2_earned yX2_earned, Cond.code yX2_earned cX2_earned 2 (some .int), Cond.methodLink RX2 158 yX2_earnedUpTo, Cond.instanceMethod yX2_earnedUpTo, Cond.selects RX2 yX2_earnedUpTo yX2_earnedUpTo, Cond.code yX2_earnedUpTo cX2_earnedUpTo 5 (some .int), Cond.methodLink RX2 161 yX2_earnedButForMatch, Cond.instanceMethod yX2_earnedButForMatch, Cond.selects RX2 yX2_earnedButForMatch yX2_earnedButForMatch, Cond.code yX2_earnedButForMatch cX2_earnedButForMatch 4 (some .long), Cond.methodLink RL 142 yX3_earned, Cond.instanceMethod yX3_earned, Cond.selects RX3 yX3_earned yX3_earned]
def wsL_law0_r18 : List Cond := [Cond.code yX3_earned cX3_earned 2 (some .int), Cond.methodLink RX3 128 yX3_earnedTo, Cond.instanceMethod yX3_earnedTo, Cond.selects RX3 yX3_earnedTo yX3_earnedTo, Cond.code yX3_earnedTo cX3_earnedTo 5 (some .int), Cond.methodLink RX3 122 yX3_unbound, Cond.instanceMethod yX3_unbound, Cond.selects RX3 yX3_unbound yX3_unbound, Cond.code yX3_unbound cX3_unbound 4 (some .int), Cond.methodLink RL 143 yL_missingMatch, Cond.static yL_missingMatch, Cond.codeWith yL_missingMatch cL_missingMatch 4 (some .int) [(0, 9, 12, 13)], Cond.methodLink RL 66 yX2_missingMatch, Cond.instanceMethod yX2_missingMatch, Cond.selects RX2 yX2_missingMatch yX2_missingMatch, Cond.code yX2_missingMatch cX2_missingMatch 4 (some .int), Cond.methodLink RX2 169 Lib.MathLoose.max_long.x, Cond.static Lib.MathLoose.max_long.x, Cond.code Lib.MathLoose.max_long.x Lib.MathLoose.max_long.code 4 (some .long), Cond.methodLink RX2 165 yX2_leastMatchFor, Cond.instanceMethod yX2_leastMatchFor, Cond.selects RX2 yX2_leastMatchFor yX2_leastMatchFor, Cond.code yX2_leastMatchFor cX2_leastMatchFor 4 (some .long), Cond.methodLink RL 145 yX3_missingMatch]
def wsL_law0_r19 : List Cond := [Cond.instanceMethod yX3_missingMatch, Cond.selects RX3 yX3_missingMatch yX3_missingMatch, Cond.code yX3_missingMatch cX3_missingMatch 4 (some .int), Cond.methodLink RL 146 yL_claim, Cond.static yL_claim, Cond.codeWith yL_claim cL_claim 4 (some .int) [(0, 9, 12, 13), (0, 9, 15, 15)], Cond.methodLink RL 69 yX2_claim, Cond.instanceMethod yX2_claim, Cond.selects RX2 yX2_claim yX2_claim, Cond.code yX2_claim cX2_claim 4 (some .int), Cond.methodLink RL 148 yX3_claim, Cond.instanceMethod yX3_claim, Cond.selects RX3 yX3_claim yX3_claim, Cond.code yX3_claim cX3_claim 3 (some .int), Cond.fieldLink RX3 131 "GrantBookModel" "claimDay" "I", Cond.methodLink RX3 134 yX3_paidSum, Cond.instanceMethod yX3_paidSum, Cond.selects RX3 yX3_paidSum yX3_paidSum, Cond.code yX3_paidSum cX3_paidSum 3 (some .int), Cond.methodLink RL 149 yX2_claims, Cond.instanceMethod yX2_claims, Cond.selects RX2 yX2_claims yX2_claims, Cond.code yX2_claims cX2_claims 1 (some .int), Cond.methodLink RL 152 yX3_claims]
def wsL_law0_r20 : List Cond := [Cond.instanceMethod yX3_claims, Cond.selects RX3 yX3_claims yX3_claims, Cond.code yX3_claims cX3_claims 1 (some .int), Cond.methodLink RL 153 yL_paid, Cond.static yL_paid, Cond.codeWith yL_paid cL_paid 4 (some .int) [(0, 9, 12, 25)], Cond.methodLink RL 72 yX2_paid, Cond.instanceMethod yX2_paid, Cond.selects RX2 yX2_paid yX2_paid, Cond.code yX2_paid cX2_paid 2 (some .int), Cond.methodLink RL 155 yX3_paid, Cond.instanceMethod yX3_paid, Cond.selects RX3 yX3_paid yX3_paid, Cond.code yX3_paid cX3_paid 2 (some .int), Cond.methodLink RL 156 yX2_unsettled, Cond.instanceMethod yX2_unsettled, Cond.selects RX2 yX2_unsettled yX2_unsettled, Cond.code yX2_unsettled cX2_unsettled 1 (some .int), Cond.methodLink RL 159 yX3_unsettled, Cond.instanceMethod yX3_unsettled, Cond.selects RX3 yX3_unsettled yX3_unsettled, Cond.code yX3_unsettled cX3_unsettled 1 (some .int)]
def wsL_law0 : List Cond := (wsL_law0_r1 ++ (wsL_law0_r2 ++ (wsL_law0_r3 ++ (wsL_law0_r4 ++ (wsL_law0_r5 ++ (wsL_law0_r6 ++ (wsL_law0_r7 ++ (wsL_law0_r8 ++ (wsL_law0_r9 ++ (wsL_law0_r10 ++ (wsL_law0_r11 ++ (wsL_law0_r12 ++ (wsL_law0_r13 ++ (wsL_law0_r14 ++ (wsL_law0_r15 ++ (wsL_law0_r16 ++ (wsL_law0_r17 ++ (wsL_law0_r18 ++ (wsL_law0_r19 ++ wsL_law0_r20))))))))))))))))))) ++ wsX20 ++ wsX30 ++ wsX00 ++ wsX10 ++ ([] : List Cond)
def wsL_law : List Cond := wsL_law0 ++ (vx_atS RX2 67 "java/lang/IllegalStateException" ["java/lang/RuntimeException", "java/lang/Exception"]).filter goodWord ++ (vx_atS RX2 94 "java/lang/IllegalArgumentException" ["java/lang/RuntimeException", "java/lang/Exception"]).filter goodWord ++ (vx_atS RX2 181 "java/lang/IndexOutOfBoundsException" ["java/lang/RuntimeException", "java/lang/Exception"]).filter goodWord
end
section
theorem wq_1_0 : (Cond.classLink RL 8 RX2 : Cond) ∈ lw_tbl := List.mem_append_right _ (List.mem_append_left _ (List.mem_of_getElem? (i := 12) rfl))
theorem wq_1_1 : (Cond.instantiable RX2 13 : Cond) ∈ lw_tbl := List.mem_append_right _ (List.mem_append_left _ (List.mem_of_getElem? (i := 13) rfl))
theorem wq_1_2 : (Cond.initialized RX2 : Cond) ∈ lw_tbl := List.mem_append_right _ (List.mem_append_left _ (List.mem_of_getElem? (i := 1) rfl))
theorem wq_1_3 : (Cond.classLink RL 76 RX3 : Cond) ∈ lw_tbl := List.mem_append_right _ (List.mem_append_right _ (List.mem_append_left _ (List.mem_of_getElem? (i := 221) rfl)))
theorem wq_1_4 : (Cond.instantiable RX3 24 : Cond) ∈ lw_tbl := List.mem_append_right _ (List.mem_append_right _ (List.mem_append_left _ (List.mem_of_getElem? (i := 222) rfl)))
theorem wq_1_5 : (Cond.initialized RX3 : Cond) ∈ lw_tbl := List.mem_append_right _ (List.mem_append_left _ (List.mem_of_getElem? (i := 2) rfl))
theorem wq_1_6 : (Cond.arrayClass .long : Cond) ∈ lw_tbl := List.mem_append_right _ (List.mem_append_right _ (List.mem_append_right _ (List.mem_of_getElem? (i := 213) rfl)))
theorem wq_1_7 : (Cond.methodLink RL 75 yX2_init : Cond) ∈ lw_tbl := List.mem_append_right _ (List.mem_append_left _ (List.mem_of_getElem? (i := 14) rfl))
theorem wq_1_8 : (Cond.instanceMethod yX2_init : Cond) ∈ lw_tbl := List.mem_append_right _ (List.mem_append_left _ (List.mem_of_getElem? (i := 15) rfl))
theorem wq_1_9 : (Cond.code yX2_init cX2_init 1 none : Cond) ∈ lw_tbl := List.mem_append_right _ (List.mem_append_left _ (List.mem_of_getElem? (i := 16) rfl))
theorem wq_1_10 : (Cond.methodLink RX2 1 objectInit : Cond) ∈ lw_tbl := List.mem_append_right _ (List.mem_append_left _ (List.mem_of_getElem? (i := 17) rfl))
theorem wq_1_11 : (Cond.instanceMethod objectInit : Cond) ∈ lw_tbl := List.mem_append_right _ (List.mem_append_left _ (List.mem_of_getElem? (i := 18) rfl))
theorem wq_1_12 : (Cond.code objectInit ⟨#[0xb1]⟩ 1 none : Cond) ∈ lw_tbl := List.mem_append_right _ (List.mem_append_left _ (List.mem_of_getElem? (i := 19) rfl))
theorem wq_1_13 : (Cond.constant RX2 7 (1000000) : Cond) ∈ lw_tbl := List.mem_append_right _ (List.mem_append_left _ (List.mem_of_getElem? (i := 20) rfl))
theorem wq_1_14 : (Cond.fieldLink RX2 8 "GrantBook" "grantAmount" "I" : Cond) ∈ lw_tbl := List.mem_append_right _ (List.mem_append_left _ (List.mem_of_getElem? (i := 26) rfl))
theorem wq_1_15 : (Cond.fieldLink RX2 14 "GrantBook" "grantShare" "I" : Cond) ∈ lw_tbl := List.mem_append_right _ (List.mem_append_left _ (List.mem_of_getElem? (i := 27) rfl))
theorem wq_1_16 : (Cond.fieldLink RX2 17 "GrantBook" "overheadRate" "I" : Cond) ∈ lw_tbl := List.mem_append_right _ (List.mem_append_left _ (List.mem_of_getElem? (i := 28) rfl))
theorem wq_1_17 : (Cond.constant RX2 20 (50000) : Cond) ∈ lw_tbl := List.mem_append_right _ (List.mem_append_left _ (List.mem_of_getElem? (i := 21) rfl))
theorem wq_1_18 : (Cond.fieldLink RX2 21 "GrantBook" "overheadCeiling" "I" : Cond) ∈ lw_tbl := List.mem_append_right _ (List.mem_append_left _ (List.mem_of_getElem? (i := 29) rfl))
theorem wq_1_19 : (Cond.classLink RX2 24 RX0 : Cond) ∈ lw_tbl := List.mem_append_right _ (List.mem_append_left _ (List.mem_of_getElem? (i := 22) rfl))
theorem wq_1_20 : (Cond.fieldLink RX2 26 "GrantBook" "lineRows" "[LGrantBook$Line;" : Cond) ∈ lw_tbl := List.mem_append_right _ (List.mem_append_left _ (List.mem_of_getElem? (i := 30) rfl))
theorem wq_1_21 : (Cond.fieldLink RX2 30 "GrantBook" "lineCount" "I" : Cond) ∈ lw_tbl := List.mem_append_right _ (List.mem_append_left _ (List.mem_of_getElem? (i := 31) rfl))
theorem wq_1_22 : (Cond.classLink RX2 33 RX1 : Cond) ∈ lw_tbl := List.mem_append_right _ (List.mem_append_left _ (List.mem_of_getElem? (i := 24) rfl))
theorem wq_1_23 : (Cond.fieldLink RX2 35 "GrantBook" "voucherRows" "[LGrantBook$Voucher;" : Cond) ∈ lw_tbl := List.mem_append_right _ (List.mem_append_left _ (List.mem_of_getElem? (i := 32) rfl))
theorem wq_1 : ∀ w ∈ wsL_law0_r1, w ∈ lw_tbl := List.forall_mem_cons.mpr ⟨wq_1_0, List.forall_mem_cons.mpr ⟨wq_1_1, List.forall_mem_cons.mpr ⟨wq_1_2, List.forall_mem_cons.mpr ⟨wq_1_3, List.forall_mem_cons.mpr ⟨wq_1_4, List.forall_mem_cons.mpr ⟨wq_1_5, List.forall_mem_cons.mpr ⟨wq_1_6, List.forall_mem_cons.mpr ⟨wq_1_7, List.forall_mem_cons.mpr ⟨wq_1_8, List.forall_mem_cons.mpr ⟨wq_1_9, List.forall_mem_cons.mpr ⟨wq_1_10, List.forall_mem_cons.mpr ⟨wq_1_11, List.forall_mem_cons.mpr ⟨wq_1_12, List.forall_mem_cons.mpr ⟨wq_1_13, List.forall_mem_cons.mpr ⟨wq_1_14, List.forall_mem_cons.mpr ⟨wq_1_15, List.forall_mem_cons.mpr ⟨wq_1_16, List.forall_mem_cons.mpr ⟨wq_1_17, List.forall_mem_cons.mpr ⟨wq_1_18, List.forall_mem_cons.mpr ⟨wq_1_19, List.forall_mem_cons.mpr ⟨wq_1_20, List.forall_mem_cons.mpr ⟨wq_1_21, List.forall_mem_cons.mpr ⟨wq_1_22, List.forall_mem_cons.mpr ⟨wq_1_23, fun _ h => absurd h List.not_mem_nil⟩⟩⟩⟩⟩⟩⟩⟩⟩⟩⟩⟩⟩⟩⟩⟩⟩⟩⟩⟩⟩⟩⟩⟩
theorem wq_2_0 : (Cond.fieldLink RX2 39 "GrantBook" "voucherCount" "I" : Cond) ∈ lw_tbl := List.mem_append_right _ (List.mem_append_left _ (List.mem_of_getElem? (i := 33) rfl))
theorem wq_2_1 : (Cond.fieldLink RX2 42 "GrantBook" "allMatch" "I" : Cond) ∈ lw_tbl := List.mem_append_right _ (List.mem_append_left _ (List.mem_of_getElem? (i := 34) rfl))
theorem wq_2_2 : (Cond.arrayClass .int : Cond) ∈ lw_tbl := List.mem_append_right _ (List.mem_append_left _ (List.mem_of_getElem? (i := 66) rfl))
theorem wq_2_3 : (Cond.fieldLink RX2 45 "GrantBook" "payments" "[I" : Cond) ∈ lw_tbl := List.mem_append_right _ (List.mem_append_left _ (List.mem_of_getElem? (i := 35) rfl))
theorem wq_2_4 : (Cond.fieldLink RX2 49 "GrantBook" "claimCount" "I" : Cond) ∈ lw_tbl := List.mem_append_right _ (List.mem_append_left _ (List.mem_of_getElem? (i := 36) rfl))
theorem wq_2_5 : (Cond.fieldLink RX2 52 "GrantBook" "lastClaimDay" "I" : Cond) ∈ lw_tbl := List.mem_append_right _ (List.mem_append_left _ (List.mem_of_getElem? (i := 37) rfl))
theorem wq_2_6 : (Cond.fieldLink RX2 55 "GrantBook" "paidInAll" "I" : Cond) ∈ lw_tbl := List.mem_append_right _ (List.mem_append_left _ (List.mem_of_getElem? (i := 38) rfl))
theorem wq_2_7 : (Cond.methodLink RL 78 yX3_init : Cond) ∈ lw_tbl := List.mem_append_right _ (List.mem_append_right _ (List.mem_append_left _ (List.mem_of_getElem? (i := 223) rfl)))
theorem wq_2_8 : (Cond.instanceMethod yX3_init : Cond) ∈ lw_tbl := List.mem_append_right _ (List.mem_append_right _ (List.mem_append_left _ (List.mem_of_getElem? (i := 224) rfl)))
theorem wq_2_9 : (Cond.code yX3_init cX3_init 1 none : Cond) ∈ lw_tbl := List.mem_append_right _ (List.mem_append_right _ (List.mem_append_left _ (List.mem_of_getElem? (i := 225) rfl)))
theorem wq_2_10 : (Cond.methodLink RX3 1 objectInit : Cond) ∈ lw_tbl := List.mem_append_right _ (List.mem_append_right _ (List.mem_append_left _ (List.mem_of_getElem? (i := 226) rfl)))
theorem wq_2_11 : (Cond.fieldLink RX3 7 "GrantBookModel" "budgets" "[I" : Cond) ∈ lw_tbl := List.mem_append_right _ (List.mem_append_right _ (List.mem_append_left _ (List.mem_of_getElem? (i := 234) rfl)))
theorem wq_2_12 : (Cond.fieldLink RX3 13 "GrantBookModel" "firsts" "[I" : Cond) ∈ lw_tbl := List.mem_append_right _ (List.mem_append_right _ (List.mem_append_left _ (List.mem_of_getElem? (i := 235) rfl)))
theorem wq_2_13 : (Cond.fieldLink RX3 16 "GrantBookModel" "lasts" "[I" : Cond) ∈ lw_tbl := List.mem_append_right _ (List.mem_append_right _ (List.mem_append_left _ (List.mem_of_getElem? (i := 236) rfl)))
theorem wq_2_14 : (Cond.arrayClass .boolean : Cond) ∈ lw_tbl := List.mem_append_right _ (List.mem_append_right _ (List.mem_append_right _ (List.mem_of_getElem? (i := 62) rfl)))
theorem wq_2_15 : (Cond.fieldLink RX3 19 "GrantBookModel" "isBase" "[Z" : Cond) ∈ lw_tbl := List.mem_append_right _ (List.mem_append_right _ (List.mem_append_left _ (List.mem_of_getElem? (i := 237) rfl)))
theorem wq_2_16 : (Cond.fieldLink RX3 23 "GrantBookModel" "movedTo" "[I" : Cond) ∈ lw_tbl := List.mem_append_right _ (List.mem_append_right _ (List.mem_append_left _ (List.mem_of_getElem? (i := 238) rfl)))
theorem wq_2_17 : (Cond.fieldLink RX3 26 "GrantBookModel" "movedAway" "[I" : Cond) ∈ lw_tbl := List.mem_append_right _ (List.mem_append_right _ (List.mem_append_left _ (List.mem_of_getElem? (i := 239) rfl)))
theorem wq_2_18 : (Cond.fieldLink RX3 29 "GrantBookModel" "lineOf" "[I" : Cond) ∈ lw_tbl := List.mem_append_right _ (List.mem_append_right _ (List.mem_append_right _ (List.mem_of_getElem? (i := 1) rfl)))
theorem wq_2_19 : (Cond.fieldLink RX3 32 "GrantBookModel" "dayOf" "[I" : Cond) ∈ lw_tbl := List.mem_append_right _ (List.mem_append_right _ (List.mem_append_right _ (List.mem_of_getElem? (i := 2) rfl)))
theorem wq_2_20 : (Cond.fieldLink RX3 35 "GrantBookModel" "amounts" "[I" : Cond) ∈ lw_tbl := List.mem_append_right _ (List.mem_append_right _ (List.mem_append_right _ (List.mem_of_getElem? (i := 3) rfl)))
theorem wq_2_21 : (Cond.fieldLink RX3 38 "GrantBookModel" "isRefused" "[Z" : Cond) ∈ lw_tbl := List.mem_append_right _ (List.mem_append_right _ (List.mem_append_right _ (List.mem_of_getElem? (i := 4) rfl)))
theorem wq_2_22 : (Cond.fieldLink RX3 41 "GrantBookModel" "order" "[I" : Cond) ∈ lw_tbl := List.mem_append_right _ (List.mem_append_right _ (List.mem_append_right _ (List.mem_of_getElem? (i := 5) rfl)))
theorem wq_2_23 : (Cond.fieldLink RX3 44 "GrantBookModel" "claimPaid" "[I" : Cond) ∈ lw_tbl := List.mem_append_right _ (List.mem_append_right _ (List.mem_append_right _ (List.mem_of_getElem? (i := 9) rfl)))
theorem wq_2 : ∀ w ∈ wsL_law0_r2, w ∈ lw_tbl := List.forall_mem_cons.mpr ⟨wq_2_0, List.forall_mem_cons.mpr ⟨wq_2_1, List.forall_mem_cons.mpr ⟨wq_2_2, List.forall_mem_cons.mpr ⟨wq_2_3, List.forall_mem_cons.mpr ⟨wq_2_4, List.forall_mem_cons.mpr ⟨wq_2_5, List.forall_mem_cons.mpr ⟨wq_2_6, List.forall_mem_cons.mpr ⟨wq_2_7, List.forall_mem_cons.mpr ⟨wq_2_8, List.forall_mem_cons.mpr ⟨wq_2_9, List.forall_mem_cons.mpr ⟨wq_2_10, List.forall_mem_cons.mpr ⟨wq_2_11, List.forall_mem_cons.mpr ⟨wq_2_12, List.forall_mem_cons.mpr ⟨wq_2_13, List.forall_mem_cons.mpr ⟨wq_2_14, List.forall_mem_cons.mpr ⟨wq_2_15, List.forall_mem_cons.mpr ⟨wq_2_16, List.forall_mem_cons.mpr ⟨wq_2_17, List.forall_mem_cons.mpr ⟨wq_2_18, List.forall_mem_cons.mpr ⟨wq_2_19, List.forall_mem_cons.mpr ⟨wq_2_20, List.forall_mem_cons.mpr ⟨wq_2_21, List.forall_mem_cons.mpr ⟨wq_2_22, List.forall_mem_cons.mpr ⟨wq_2_23, fun _ h => absurd h List.not_mem_nil⟩⟩⟩⟩⟩⟩⟩⟩⟩⟩⟩⟩⟩⟩⟩⟩⟩⟩⟩⟩⟩⟩⟩⟩
theorem wq_3_0 : (Cond.fieldLink RX3 47 "GrantBookModel" "eligibles" "[I" : Cond) ∈ lw_tbl := List.mem_append_right _ (List.mem_append_right _ (List.mem_append_right _ (List.mem_of_getElem? (i := 11) rfl)))
theorem wq_3_1 : (Cond.fieldLink RX3 50 "GrantBookModel" "usedOf" "[I" : Cond) ∈ lw_tbl := List.mem_append_right _ (List.mem_append_right _ (List.mem_append_right _ (List.mem_of_getElem? (i := 12) rfl)))
theorem wq_3_2 : (Cond.constant RX3 53 (1000000) : Cond) ∈ lw_tbl := List.mem_append_right _ (List.mem_append_right _ (List.mem_append_left _ (List.mem_of_getElem? (i := 227) rfl)))
theorem wq_3_3 : (Cond.fieldLink RX3 54 "GrantBookModel" "grant" "I" : Cond) ∈ lw_tbl := List.mem_append_right _ (List.mem_append_right _ (List.mem_append_left _ (List.mem_of_getElem? (i := 229) rfl)))
theorem wq_3_4 : (Cond.fieldLink RX3 58 "GrantBookModel" "share" "I" : Cond) ∈ lw_tbl := List.mem_append_right _ (List.mem_append_right _ (List.mem_append_left _ (List.mem_of_getElem? (i := 230) rfl)))
theorem wq_3_5 : (Cond.fieldLink RX3 61 "GrantBookModel" "rate" "I" : Cond) ∈ lw_tbl := List.mem_append_right _ (List.mem_append_right _ (List.mem_append_left _ (List.mem_of_getElem? (i := 231) rfl)))
theorem wq_3_6 : (Cond.constant RX3 64 (50000) : Cond) ∈ lw_tbl := List.mem_append_right _ (List.mem_append_right _ (List.mem_append_left _ (List.mem_of_getElem? (i := 228) rfl)))
theorem wq_3_7 : (Cond.fieldLink RX3 65 "GrantBookModel" "ceiling" "I" : Cond) ∈ lw_tbl := List.mem_append_right _ (List.mem_append_right _ (List.mem_append_left _ (List.mem_of_getElem? (i := 232) rfl)))
theorem wq_3_8 : (Cond.methodLink RL 79 yL_setGrant : Cond) ∈ lw_tbl := List.mem_append_right _ (List.mem_append_left _ (List.mem_of_getElem? (i := 111) rfl))
theorem wq_3_9 : (Cond.static yL_setGrant : Cond) ∈ lw_tbl := List.mem_append_right _ (List.mem_append_left _ (List.mem_of_getElem? (i := 112) rfl))
theorem wq_3_10 : (Cond.initialized RL : Cond) ∈ lw_tbl := List.mem_append_right _ (List.mem_append_left _ (List.mem_of_getElem? (i := 0) rfl))
theorem wq_3_11 : (Cond.codeWith yL_setGrant cL_setGrant 6 (some .int) [(0, 9, 12, 13), (0, 9, 16, 15)] : Cond) ∈ lw_tbl := List.mem_append_right _ (List.mem_append_left _ (List.mem_of_getElem? (i := 113) rfl))
theorem wq_3_12 : (Cond.classLink RL 13 "java/lang/IllegalArgumentException" : Cond) ∈ lw_tbl := List.mem_append_right _ (List.mem_append_left _ (List.mem_of_getElem? (i := 114) rfl))
theorem wq_3_13 : (Cond.classLink RL 15 "java/lang/IllegalStateException" : Cond) ∈ lw_tbl := List.mem_append_right _ (List.mem_append_left _ (List.mem_of_getElem? (i := 115) rfl))
theorem wq_3_14 : (Cond.methodLink RL 7 yX2_setGrant : Cond) ∈ lw_tbl := List.mem_append_right _ (List.mem_append_left _ (List.mem_of_getElem? (i := 116) rfl))
theorem wq_3_15 : (Cond.instanceMethod yX2_setGrant : Cond) ∈ lw_tbl := List.mem_append_right _ (List.mem_append_left _ (List.mem_of_getElem? (i := 117) rfl))
theorem wq_3_16 : (Cond.selects RX2 yX2_setGrant yX2_setGrant : Cond) ∈ lw_tbl := List.mem_append_right _ (List.mem_append_left _ (List.mem_of_getElem? (i := 118) rfl))
theorem wq_3_17 : (Cond.code yX2_setGrant cX2_setGrant 5 none : Cond) ∈ lw_tbl := List.mem_append_right _ (List.mem_append_left _ (List.mem_of_getElem? (i := 119) rfl))
theorem wq_3_18 : (Cond.classLink RX2 63 "java/lang/IllegalStateException" : Cond) ∈ lw_tbl := List.mem_append_right _ (List.mem_append_left _ (List.mem_of_getElem? (i := 192) rfl))
theorem wq_3_19 : (Cond.initialized "java/lang/IllegalStateException" : Cond) ∈ lw_tbl := List.mem_append_right _ (List.mem_append_left _ (List.mem_of_getElem? (i := 7) rfl))
theorem wq_3_20 : (Cond.constant RX2 58 (100000000) : Cond) ∈ lw_tbl := List.mem_append_right _ (List.mem_append_left _ (List.mem_of_getElem? (i := 120) rfl))
theorem wq_3_21 : (Cond.methodLink RX2 59 yX2_checkRange : Cond) ∈ lw_tbl := List.mem_append_right _ (List.mem_append_left _ (List.mem_of_getElem? (i := 121) rfl))
theorem wq_3_22 : (Cond.static yX2_checkRange : Cond) ∈ lw_tbl := List.mem_append_right _ (List.mem_append_left _ (List.mem_of_getElem? (i := 122) rfl))
theorem wq_3_23 : (Cond.code yX2_checkRange cX2_checkRange 3 none : Cond) ∈ lw_tbl := List.mem_append_right _ (List.mem_append_left _ (List.mem_of_getElem? (i := 123) rfl))
theorem wq_3 : ∀ w ∈ wsL_law0_r3, w ∈ lw_tbl := List.forall_mem_cons.mpr ⟨wq_3_0, List.forall_mem_cons.mpr ⟨wq_3_1, List.forall_mem_cons.mpr ⟨wq_3_2, List.forall_mem_cons.mpr ⟨wq_3_3, List.forall_mem_cons.mpr ⟨wq_3_4, List.forall_mem_cons.mpr ⟨wq_3_5, List.forall_mem_cons.mpr ⟨wq_3_6, List.forall_mem_cons.mpr ⟨wq_3_7, List.forall_mem_cons.mpr ⟨wq_3_8, List.forall_mem_cons.mpr ⟨wq_3_9, List.forall_mem_cons.mpr ⟨wq_3_10, List.forall_mem_cons.mpr ⟨wq_3_11, List.forall_mem_cons.mpr ⟨wq_3_12, List.forall_mem_cons.mpr ⟨wq_3_13, List.forall_mem_cons.mpr ⟨wq_3_14, List.forall_mem_cons.mpr ⟨wq_3_15, List.forall_mem_cons.mpr ⟨wq_3_16, List.forall_mem_cons.mpr ⟨wq_3_17, List.forall_mem_cons.mpr ⟨wq_3_18, List.forall_mem_cons.mpr ⟨wq_3_19, List.forall_mem_cons.mpr ⟨wq_3_20, List.forall_mem_cons.mpr ⟨wq_3_21, List.forall_mem_cons.mpr ⟨wq_3_22, List.forall_mem_cons.mpr ⟨wq_3_23, fun _ h => absurd h List.not_mem_nil⟩⟩⟩⟩⟩⟩⟩⟩⟩⟩⟩⟩⟩⟩⟩⟩⟩⟩⟩⟩⟩⟩⟩⟩
theorem wq_4_0 : (Cond.classLink RX2 90 "java/lang/IllegalArgumentException" : Cond) ∈ lw_tbl := List.mem_append_right _ (List.mem_append_left _ (List.mem_of_getElem? (i := 124) rfl))
theorem wq_4_1 : (Cond.initialized "java/lang/IllegalArgumentException" : Cond) ∈ lw_tbl := List.mem_append_right _ (List.mem_append_left _ (List.mem_of_getElem? (i := 6) rfl))
theorem wq_4_2 : (Cond.methodLink RL 84 yX3_setGrant : Cond) ∈ lw_tbl := List.mem_append_right _ (List.mem_append_right _ (List.mem_append_right _ (List.mem_of_getElem? (i := 67) rfl)))
theorem wq_4_3 : (Cond.instanceMethod yX3_setGrant : Cond) ∈ lw_tbl := List.mem_append_right _ (List.mem_append_right _ (List.mem_append_right _ (List.mem_of_getElem? (i := 68) rfl)))
theorem wq_4_4 : (Cond.selects RX3 yX3_setGrant yX3_setGrant : Cond) ∈ lw_tbl := List.mem_append_right _ (List.mem_append_right _ (List.mem_append_right _ (List.mem_of_getElem? (i := 69) rfl)))
theorem wq_4_5 : (Cond.code yX3_setGrant cX3_setGrant 5 none : Cond) ∈ lw_tbl := List.mem_append_right _ (List.mem_append_right _ (List.mem_append_right _ (List.mem_of_getElem? (i := 70) rfl)))
theorem wq_4_6 : (Cond.constant RX3 81 (100000000) : Cond) ∈ lw_tbl := List.mem_append_right _ (List.mem_append_right _ (List.mem_append_right _ (List.mem_of_getElem? (i := 71) rfl)))
theorem wq_4_7 : (Cond.fieldLink RX3 82 "GrantBookModel" "claimMany" "I" : Cond) ∈ lw_tbl := List.mem_append_right _ (List.mem_append_right _ (List.mem_append_right _ (List.mem_of_getElem? (i := 7) rfl)))
theorem wq_4_8 : (Cond.fieldLink RX3 68 "GrantBookModel" "thrown" "I" : Cond) ∈ lw_tbl := List.mem_append_right _ (List.mem_append_right _ (List.mem_append_right _ (List.mem_of_getElem? (i := 10) rfl)))
theorem wq_4_9 : (Cond.methodLink RX3 74 yX3_in : Cond) ∈ lw_tbl := List.mem_append_right _ (List.mem_append_right _ (List.mem_append_right _ (List.mem_of_getElem? (i := 72) rfl)))
theorem wq_4_10 : (Cond.static yX3_in : Cond) ∈ lw_tbl := List.mem_append_right _ (List.mem_append_right _ (List.mem_append_right _ (List.mem_of_getElem? (i := 73) rfl)))
theorem wq_4_11 : (Cond.code yX3_in cX3_in 3 (some .boolean) : Cond) ∈ lw_tbl := List.mem_append_right _ (List.mem_append_right _ (List.mem_append_right _ (List.mem_of_getElem? (i := 74) rfl)))
theorem wq_4_12 : (Cond.methodLink RL 85 yX3_thrown : Cond) ∈ lw_tbl := List.mem_append_right _ (List.mem_append_right _ (List.mem_append_right _ (List.mem_of_getElem? (i := 63) rfl)))
theorem wq_4_13 : (Cond.instanceMethod yX3_thrown : Cond) ∈ lw_tbl := List.mem_append_right _ (List.mem_append_right _ (List.mem_append_right _ (List.mem_of_getElem? (i := 64) rfl)))
theorem wq_4_14 : (Cond.selects RX3 yX3_thrown yX3_thrown : Cond) ∈ lw_tbl := List.mem_append_right _ (List.mem_append_right _ (List.mem_append_right _ (List.mem_of_getElem? (i := 65) rfl)))
theorem wq_4_15 : (Cond.code yX3_thrown cX3_thrown 1 (some .int) : Cond) ∈ lw_tbl := List.mem_append_right _ (List.mem_append_right _ (List.mem_append_right _ (List.mem_of_getElem? (i := 66) rfl)))
theorem wq_4_16 : (Cond.methodLink RL 89 yL_addLine : Cond) ∈ lw_tbl := List.mem_append_right _ (List.mem_append_left _ (List.mem_of_getElem? (i := 208) rfl))
theorem wq_4_17 : (Cond.static yL_addLine : Cond) ∈ lw_tbl := List.mem_append_right _ (List.mem_append_left _ (List.mem_of_getElem? (i := 209) rfl))
theorem wq_4_18 : (Cond.codeWith yL_addLine cL_addLine 7 (some .int) [(0, 14, 17, 13), (0, 14, 21, 15)] : Cond) ∈ lw_tbl := List.mem_append_right _ (List.mem_append_left _ (List.mem_of_getElem? (i := 210) rfl))
theorem wq_4_19 : (Cond.methodLink RL 17 yX2_addLine : Cond) ∈ lw_tbl := List.mem_append_right _ (List.mem_append_left _ (List.mem_of_getElem? (i := 211) rfl))
theorem wq_4_20 : (Cond.instanceMethod yX2_addLine : Cond) ∈ lw_tbl := List.mem_append_right _ (List.mem_append_left _ (List.mem_of_getElem? (i := 212) rfl))
theorem wq_4_21 : (Cond.selects RX2 yX2_addLine yX2_addLine : Cond) ∈ lw_tbl := List.mem_append_right _ (List.mem_append_left _ (List.mem_of_getElem? (i := 213) rfl))
theorem wq_4_22 : (Cond.code yX2_addLine cX2_addLine 6 (some .int) : Cond) ∈ lw_tbl := List.mem_append_right _ (List.mem_append_left _ (List.mem_of_getElem? (i := 214) rfl))
theorem wq_4_23 : (Cond.constant RX2 70 (10000000) : Cond) ∈ lw_tbl := List.mem_append_right _ (List.mem_append_left _ (List.mem_of_getElem? (i := 215) rfl))
theorem wq_4 : ∀ w ∈ wsL_law0_r4, w ∈ lw_tbl := List.forall_mem_cons.mpr ⟨wq_4_0, List.forall_mem_cons.mpr ⟨wq_4_1, List.forall_mem_cons.mpr ⟨wq_4_2, List.forall_mem_cons.mpr ⟨wq_4_3, List.forall_mem_cons.mpr ⟨wq_4_4, List.forall_mem_cons.mpr ⟨wq_4_5, List.forall_mem_cons.mpr ⟨wq_4_6, List.forall_mem_cons.mpr ⟨wq_4_7, List.forall_mem_cons.mpr ⟨wq_4_8, List.forall_mem_cons.mpr ⟨wq_4_9, List.forall_mem_cons.mpr ⟨wq_4_10, List.forall_mem_cons.mpr ⟨wq_4_11, List.forall_mem_cons.mpr ⟨wq_4_12, List.forall_mem_cons.mpr ⟨wq_4_13, List.forall_mem_cons.mpr ⟨wq_4_14, List.forall_mem_cons.mpr ⟨wq_4_15, List.forall_mem_cons.mpr ⟨wq_4_16, List.forall_mem_cons.mpr ⟨wq_4_17, List.forall_mem_cons.mpr ⟨wq_4_18, List.forall_mem_cons.mpr ⟨wq_4_19, List.forall_mem_cons.mpr ⟨wq_4_20, List.forall_mem_cons.mpr ⟨wq_4_21, List.forall_mem_cons.mpr ⟨wq_4_22, List.forall_mem_cons.mpr ⟨wq_4_23, fun _ h => absurd h List.not_mem_nil⟩⟩⟩⟩⟩⟩⟩⟩⟩⟩⟩⟩⟩⟩⟩⟩⟩⟩⟩⟩⟩⟩⟩⟩
theorem wq_5_0 : (Cond.instantiable RX0 7 : Cond) ∈ lw_tbl := List.mem_append_right _ (List.mem_append_left _ (List.mem_of_getElem? (i := 220) rfl))
theorem wq_5_1 : (Cond.initialized RX0 : Cond) ∈ lw_tbl := List.mem_append_right _ (List.mem_append_left _ (List.mem_of_getElem? (i := 8) rfl))
theorem wq_5_2 : (Cond.methodLink RX2 71 yX2_checkDay : Cond) ∈ lw_tbl := List.mem_append_right _ (List.mem_append_left _ (List.mem_of_getElem? (i := 216) rfl))
theorem wq_5_3 : (Cond.static yX2_checkDay : Cond) ∈ lw_tbl := List.mem_append_right _ (List.mem_append_left _ (List.mem_of_getElem? (i := 217) rfl))
theorem wq_5_4 : (Cond.code yX2_checkDay cX2_checkDay 1 none : Cond) ∈ lw_tbl := List.mem_append_right _ (List.mem_append_left _ (List.mem_of_getElem? (i := 218) rfl))
theorem wq_5_5 : (Cond.methodLink RX2 77 yX0_init : Cond) ∈ lw_tbl := List.mem_append_right _ (List.mem_append_left _ (List.mem_of_getElem? (i := 221) rfl))
theorem wq_5_6 : (Cond.instanceMethod yX0_init : Cond) ∈ lw_tbl := List.mem_append_right _ (List.mem_append_left _ (List.mem_of_getElem? (i := 222) rfl))
theorem wq_5_7 : (Cond.code yX0_init cX0_init 5 none : Cond) ∈ lw_tbl := List.mem_append_right _ (List.mem_append_left _ (List.mem_of_getElem? (i := 223) rfl))
theorem wq_5_8 : (Cond.methodLink RX0 1 objectInit : Cond) ∈ lw_tbl := List.mem_append_right _ (List.mem_append_left _ (List.mem_of_getElem? (i := 224) rfl))
theorem wq_5_9 : (Cond.fieldLink RX0 7 "GrantBook$Line" "movedIn" "I" : Cond) ∈ lw_tbl := List.mem_append_right _ (List.mem_append_left _ (List.mem_of_getElem? (i := 232) rfl))
theorem wq_5_10 : (Cond.fieldLink RX0 13 "GrantBook$Line" "movedAway" "I" : Cond) ∈ lw_tbl := List.mem_append_right _ (List.mem_append_left _ (List.mem_of_getElem? (i := 234) rfl))
theorem wq_5_11 : (Cond.fieldLink RX0 16 "GrantBook$Line" "earliest" "LGrantBook$Voucher;" : Cond) ∈ lw_tbl := List.mem_append_right _ (List.mem_append_left _ (List.mem_of_getElem? (i := 236) rfl))
theorem wq_5_12 : (Cond.fieldLink RX0 20 "GrantBook$Line" "budget" "I" : Cond) ∈ lw_tbl := List.mem_append_right _ (List.mem_append_left _ (List.mem_of_getElem? (i := 225) rfl))
theorem wq_5_13 : (Cond.fieldLink RX0 23 "GrantBook$Line" "first" "I" : Cond) ∈ lw_tbl := List.mem_append_right _ (List.mem_append_left _ (List.mem_of_getElem? (i := 227) rfl))
theorem wq_5_14 : (Cond.fieldLink RX0 26 "GrantBook$Line" "last" "I" : Cond) ∈ lw_tbl := List.mem_append_right _ (List.mem_append_left _ (List.mem_of_getElem? (i := 228) rfl))
theorem wq_5_15 : (Cond.fieldLink RX0 29 "GrantBook$Line" "isInBase" "Z" : Cond) ∈ lw_tbl := List.mem_append_right _ (List.mem_append_left _ (List.mem_of_getElem? (i := 230) rfl))
theorem wq_5_16 : (Cond.methodLink RL 92 yX3_addLine : Cond) ∈ lw_tbl := List.mem_append_right _ (List.mem_append_right _ (List.mem_append_right _ (List.mem_of_getElem? (i := 75) rfl)))
theorem wq_5_17 : (Cond.instanceMethod yX3_addLine : Cond) ∈ lw_tbl := List.mem_append_right _ (List.mem_append_right _ (List.mem_append_right _ (List.mem_of_getElem? (i := 76) rfl)))
theorem wq_5_18 : (Cond.selects RX3 yX3_addLine yX3_addLine : Cond) ∈ lw_tbl := List.mem_append_right _ (List.mem_append_right _ (List.mem_append_right _ (List.mem_of_getElem? (i := 77) rfl)))
theorem wq_5_19 : (Cond.code yX3_addLine cX3_addLine 5 (some .int) : Cond) ∈ lw_tbl := List.mem_append_right _ (List.mem_append_right _ (List.mem_append_right _ (List.mem_of_getElem? (i := 78) rfl)))
theorem wq_5_20 : (Cond.constant RX3 85 (10000000) : Cond) ∈ lw_tbl := List.mem_append_right _ (List.mem_append_right _ (List.mem_append_right _ (List.mem_of_getElem? (i := 79) rfl)))
theorem wq_5_21 : (Cond.fieldLink RX3 71 "GrantBookModel" "lineMany" "I" : Cond) ∈ lw_tbl := List.mem_append_right _ (List.mem_append_right _ (List.mem_append_left _ (List.mem_of_getElem? (i := 233) rfl)))
theorem wq_5_22 : (Cond.methodLink RL 93 yL_extend : Cond) ∈ lw_tbl := List.mem_append_right _ (List.mem_append_right _ (List.mem_append_left _ (List.mem_of_getElem? (i := 12) rfl)))
theorem wq_5_23 : (Cond.static yL_extend : Cond) ∈ lw_tbl := List.mem_append_right _ (List.mem_append_right _ (List.mem_append_left _ (List.mem_of_getElem? (i := 13) rfl)))
theorem wq_5 : ∀ w ∈ wsL_law0_r5, w ∈ lw_tbl := List.forall_mem_cons.mpr ⟨wq_5_0, List.forall_mem_cons.mpr ⟨wq_5_1, List.forall_mem_cons.mpr ⟨wq_5_2, List.forall_mem_cons.mpr ⟨wq_5_3, List.forall_mem_cons.mpr ⟨wq_5_4, List.forall_mem_cons.mpr ⟨wq_5_5, List.forall_mem_cons.mpr ⟨wq_5_6, List.forall_mem_cons.mpr ⟨wq_5_7, List.forall_mem_cons.mpr ⟨wq_5_8, List.forall_mem_cons.mpr ⟨wq_5_9, List.forall_mem_cons.mpr ⟨wq_5_10, List.forall_mem_cons.mpr ⟨wq_5_11, List.forall_mem_cons.mpr ⟨wq_5_12, List.forall_mem_cons.mpr ⟨wq_5_13, List.forall_mem_cons.mpr ⟨wq_5_14, List.forall_mem_cons.mpr ⟨wq_5_15, List.forall_mem_cons.mpr ⟨wq_5_16, List.forall_mem_cons.mpr ⟨wq_5_17, List.forall_mem_cons.mpr ⟨wq_5_18, List.forall_mem_cons.mpr ⟨wq_5_19, List.forall_mem_cons.mpr ⟨wq_5_20, List.forall_mem_cons.mpr ⟨wq_5_21, List.forall_mem_cons.mpr ⟨wq_5_22, List.forall_mem_cons.mpr ⟨wq_5_23, fun _ h => absurd h List.not_mem_nil⟩⟩⟩⟩⟩⟩⟩⟩⟩⟩⟩⟩⟩⟩⟩⟩⟩⟩⟩⟩⟩⟩⟩⟩
theorem wq_6_0 : (Cond.codeWith yL_extend cL_extend 5 (some .int) [(0, 10, 13, 25), (0, 10, 17, 13)] : Cond) ∈ lw_tbl := List.mem_append_right _ (List.mem_append_right _ (List.mem_append_left _ (List.mem_of_getElem? (i := 14) rfl)))
theorem wq_6_1 : (Cond.classLink RL 25 "java/lang/IndexOutOfBoundsException" : Cond) ∈ lw_tbl := List.mem_append_right _ (List.mem_append_right _ (List.mem_append_left _ (List.mem_of_getElem? (i := 15) rfl)))
theorem wq_6_2 : (Cond.methodLink RL 21 yX2_extend : Cond) ∈ lw_tbl := List.mem_append_right _ (List.mem_append_right _ (List.mem_append_left _ (List.mem_of_getElem? (i := 16) rfl)))
theorem wq_6_3 : (Cond.instanceMethod yX2_extend : Cond) ∈ lw_tbl := List.mem_append_right _ (List.mem_append_right _ (List.mem_append_left _ (List.mem_of_getElem? (i := 17) rfl)))
theorem wq_6_4 : (Cond.selects RX2 yX2_extend yX2_extend : Cond) ∈ lw_tbl := List.mem_append_right _ (List.mem_append_right _ (List.mem_append_left _ (List.mem_of_getElem? (i := 18) rfl)))
theorem wq_6_5 : (Cond.code yX2_extend cX2_extend 5 (some .int) : Cond) ∈ lw_tbl := List.mem_append_right _ (List.mem_append_right _ (List.mem_append_left _ (List.mem_of_getElem? (i := 19) rfl)))
theorem wq_6_6 : (Cond.fieldLink RX2 84 "GrantBook$Line" "last" "I" : Cond) ∈ lw_tbl := List.mem_append_right _ (List.mem_append_left _ (List.mem_of_getElem? (i := 229) rfl))
theorem wq_6_7 : (Cond.methodLink RX2 80 yX2_findLine : Cond) ∈ lw_tbl := List.mem_append_right _ (List.mem_append_right _ (List.mem_append_left _ (List.mem_of_getElem? (i := 20) rfl)))
theorem wq_6_8 : (Cond.instanceMethod yX2_findLine : Cond) ∈ lw_tbl := List.mem_append_right _ (List.mem_append_right _ (List.mem_append_left _ (List.mem_of_getElem? (i := 22) rfl)))
theorem wq_6_9 : (Cond.selects RX2 yX2_findLine yX2_findLine : Cond) ∈ lw_tbl := List.mem_append_left _ (List.mem_of_getElem? (i := 6) rfl)
theorem wq_6_10 : (Cond.code yX2_findLine cX2_findLine 3 (some (.object "GrantBook$Line")) : Cond) ∈ lw_tbl := List.mem_append_right _ (List.mem_append_right _ (List.mem_append_left _ (List.mem_of_getElem? (i := 23) rfl)))
theorem wq_6_11 : (Cond.classLink RX2 177 "java/lang/IndexOutOfBoundsException" : Cond) ∈ lw_tbl := List.mem_append_right _ (List.mem_append_right _ (List.mem_append_left _ (List.mem_of_getElem? (i := 24) rfl)))
theorem wq_6_12 : (Cond.initialized "java/lang/IndexOutOfBoundsException" : Cond) ∈ lw_tbl := List.mem_append_right _ (List.mem_append_left _ (List.mem_of_getElem? (i := 9) rfl))
theorem wq_6_13 : (Cond.methodLink RX2 87 yX0_reckon : Cond) ∈ lw_tbl := List.mem_append_right _ (List.mem_append_right _ (List.mem_append_left _ (List.mem_of_getElem? (i := 40) rfl)))
theorem wq_6_14 : (Cond.instanceMethod yX0_reckon : Cond) ∈ lw_tbl := List.mem_append_right _ (List.mem_append_right _ (List.mem_append_left _ (List.mem_of_getElem? (i := 41) rfl)))
theorem wq_6_15 : (Cond.selects RX0 yX0_reckon yX0_reckon : Cond) ∈ lw_tbl := List.mem_append_right _ (List.mem_append_right _ (List.mem_append_left _ (List.mem_of_getElem? (i := 42) rfl)))
theorem wq_6_16 : (Cond.code yX0_reckon cX0_reckon 3 none : Cond) ∈ lw_tbl := List.mem_append_right _ (List.mem_append_right _ (List.mem_append_left _ (List.mem_of_getElem? (i := 43) rfl)))
theorem wq_6_17 : (Cond.fieldLink RX0 52 "GrantBook$Voucher" "amount" "I" : Cond) ∈ lw_tbl := List.mem_append_right _ (List.mem_append_right _ (List.mem_append_left _ (List.mem_of_getElem? (i := 97) rfl)))
theorem wq_6_18 : (Cond.methodLink RX0 55 Lib.Math.min.name : Cond) ∈ lw_tbl := List.mem_append_right _ (List.mem_append_right _ (List.mem_append_left _ (List.mem_of_getElem? (i := 52) rfl)))
theorem wq_6_19 : (Cond.static Lib.Math.min.name : Cond) ∈ lw_tbl := List.mem_append_right _ (List.mem_append_right _ (List.mem_append_left _ (List.mem_of_getElem? (i := 53) rfl)))
theorem wq_6_20 : (Cond.initialized "java/lang/Math" : Cond) ∈ lw_tbl := List.mem_append_right _ (List.mem_append_left _ (List.mem_of_getElem? (i := 10) rfl))
theorem wq_6_21 : (Cond.code Lib.Math.min.name Lib.Math.min.code 2 (some .int) : Cond) ∈ lw_tbl := List.mem_append_right _ (List.mem_append_right _ (List.mem_append_left _ (List.mem_of_getElem? (i := 54) rfl)))
theorem wq_6_22 : (Cond.fieldLink RX0 61 "GrantBook$Voucher" "eligible" "I" : Cond) ∈ lw_tbl := List.mem_append_right _ (List.mem_append_right _ (List.mem_append_left _ (List.mem_of_getElem? (i := 102) rfl)))
theorem wq_6_23 : (Cond.fieldLink RX0 41 "GrantBook$Voucher" "next" "LGrantBook$Voucher;" : Cond) ∈ lw_tbl := List.mem_append_right _ (List.mem_append_right _ (List.mem_append_left _ (List.mem_of_getElem? (i := 105) rfl)))
theorem wq_6 : ∀ w ∈ wsL_law0_r6, w ∈ lw_tbl := List.forall_mem_cons.mpr ⟨wq_6_0, List.forall_mem_cons.mpr ⟨wq_6_1, List.forall_mem_cons.mpr ⟨wq_6_2, List.forall_mem_cons.mpr ⟨wq_6_3, List.forall_mem_cons.mpr ⟨wq_6_4, List.forall_mem_cons.mpr ⟨wq_6_5, List.forall_mem_cons.mpr ⟨wq_6_6, List.forall_mem_cons.mpr ⟨wq_6_7, List.forall_mem_cons.mpr ⟨wq_6_8, List.forall_mem_cons.mpr ⟨wq_6_9, List.forall_mem_cons.mpr ⟨wq_6_10, List.forall_mem_cons.mpr ⟨wq_6_11, List.forall_mem_cons.mpr ⟨wq_6_12, List.forall_mem_cons.mpr ⟨wq_6_13, List.forall_mem_cons.mpr ⟨wq_6_14, List.forall_mem_cons.mpr ⟨wq_6_15, List.forall_mem_cons.mpr ⟨wq_6_16, List.forall_mem_cons.mpr ⟨wq_6_17, List.forall_mem_cons.mpr ⟨wq_6_18, List.forall_mem_cons.mpr ⟨wq_6_19, List.forall_mem_cons.mpr ⟨wq_6_20, List.forall_mem_cons.mpr ⟨wq_6_21, List.forall_mem_cons.mpr ⟨wq_6_22, List.forall_mem_cons.mpr ⟨wq_6_23, fun _ h => absurd h List.not_mem_nil⟩⟩⟩⟩⟩⟩⟩⟩⟩⟩⟩⟩⟩⟩⟩⟩⟩⟩⟩⟩⟩⟩⟩⟩
theorem wq_7_0 : (Cond.methodLink RX0 44 yX0_money : Cond) ∈ lw_tbl := List.mem_append_right _ (List.mem_append_right _ (List.mem_append_left _ (List.mem_of_getElem? (i := 44) rfl)))
theorem wq_7_1 : (Cond.instanceMethod yX0_money : Cond) ∈ lw_tbl := List.mem_append_right _ (List.mem_append_right _ (List.mem_append_left _ (List.mem_of_getElem? (i := 45) rfl)))
theorem wq_7_2 : (Cond.selects RX0 yX0_money yX0_money : Cond) ∈ lw_tbl := List.mem_append_right _ (List.mem_append_right _ (List.mem_append_left _ (List.mem_of_getElem? (i := 46) rfl)))
theorem wq_7_3 : (Cond.code yX0_money cX0_money 1 (some .int) : Cond) ∈ lw_tbl := List.mem_append_right _ (List.mem_append_right _ (List.mem_append_left _ (List.mem_of_getElem? (i := 47) rfl)))
theorem wq_7_4 : (Cond.methodLink RX0 48 yX0_accepts : Cond) ∈ lw_tbl := List.mem_append_right _ (List.mem_append_right _ (List.mem_append_left _ (List.mem_of_getElem? (i := 48) rfl)))
theorem wq_7_5 : (Cond.instanceMethod yX0_accepts : Cond) ∈ lw_tbl := List.mem_append_right _ (List.mem_append_right _ (List.mem_append_left _ (List.mem_of_getElem? (i := 49) rfl)))
theorem wq_7_6 : (Cond.selects RX0 yX0_accepts yX0_accepts : Cond) ∈ lw_tbl := List.mem_append_right _ (List.mem_append_right _ (List.mem_append_left _ (List.mem_of_getElem? (i := 50) rfl)))
theorem wq_7_7 : (Cond.code yX0_accepts cX0_accepts 2 (some .boolean) : Cond) ∈ lw_tbl := List.mem_append_right _ (List.mem_append_right _ (List.mem_append_left _ (List.mem_of_getElem? (i := 51) rfl)))
theorem wq_7_8 : (Cond.fieldLink RX0 33 "GrantBook$Voucher" "isRefused" "Z" : Cond) ∈ lw_tbl := List.mem_append_right _ (List.mem_append_right _ (List.mem_append_left _ (List.mem_of_getElem? (i := 99) rfl)))
theorem wq_7_9 : (Cond.fieldLink RX0 38 "GrantBook$Voucher" "day" "I" : Cond) ∈ lw_tbl := List.mem_append_right _ (List.mem_append_right _ (List.mem_append_left _ (List.mem_of_getElem? (i := 95) rfl)))
theorem wq_7_10 : (Cond.methodLink RL 96 yX3_extend : Cond) ∈ lw_tbl := List.mem_append_right _ (List.mem_append_right _ (List.mem_append_right _ (List.mem_of_getElem? (i := 80) rfl)))
theorem wq_7_11 : (Cond.instanceMethod yX3_extend : Cond) ∈ lw_tbl := List.mem_append_right _ (List.mem_append_right _ (List.mem_append_right _ (List.mem_of_getElem? (i := 81) rfl)))
theorem wq_7_12 : (Cond.selects RX3 yX3_extend yX3_extend : Cond) ∈ lw_tbl := List.mem_append_right _ (List.mem_append_right _ (List.mem_append_right _ (List.mem_of_getElem? (i := 82) rfl)))
theorem wq_7_13 : (Cond.code yX3_extend cX3_extend 4 (some .int) : Cond) ∈ lw_tbl := List.mem_append_right _ (List.mem_append_right _ (List.mem_append_right _ (List.mem_of_getElem? (i := 83) rfl)))
theorem wq_7_14 : (Cond.methodLink RX3 86 yX3_isLine : Cond) ∈ lw_tbl := List.mem_append_right _ (List.mem_append_right _ (List.mem_append_right _ (List.mem_of_getElem? (i := 84) rfl)))
theorem wq_7_15 : (Cond.instanceMethod yX3_isLine : Cond) ∈ lw_tbl := List.mem_append_right _ (List.mem_append_right _ (List.mem_append_right _ (List.mem_of_getElem? (i := 86) rfl)))
theorem wq_7_16 : (Cond.selects RX3 yX3_isLine yX3_isLine : Cond) ∈ lw_tbl := List.mem_append_left _ (List.mem_of_getElem? (i := 9) rfl)
theorem wq_7_17 : (Cond.code yX3_isLine cX3_isLine 2 (some .boolean) : Cond) ∈ lw_tbl := List.mem_append_right _ (List.mem_append_right _ (List.mem_append_right _ (List.mem_of_getElem? (i := 87) rfl)))
theorem wq_7_18 : (Cond.methodLink RL 97 yL_move : Cond) ∈ lw_tbl := List.mem_append_right _ (List.mem_append_right _ (List.mem_append_left _ (List.mem_of_getElem? (i := 55) rfl)))
theorem wq_7_19 : (Cond.static yL_move : Cond) ∈ lw_tbl := List.mem_append_right _ (List.mem_append_right _ (List.mem_append_left _ (List.mem_of_getElem? (i := 56) rfl)))
theorem wq_7_20 : (Cond.codeWith yL_move cL_move 6 (some .int) [(0, 12, 15, 25), (0, 12, 19, 13), (0, 12, 23, 15)] : Cond) ∈ lw_tbl := List.mem_append_right _ (List.mem_append_right _ (List.mem_append_left _ (List.mem_of_getElem? (i := 57) rfl)))
theorem wq_7_21 : (Cond.methodLink RL 27 yX2_move : Cond) ∈ lw_tbl := List.mem_append_right _ (List.mem_append_right _ (List.mem_append_left _ (List.mem_of_getElem? (i := 58) rfl)))
theorem wq_7_22 : (Cond.instanceMethod yX2_move : Cond) ∈ lw_tbl := List.mem_append_right _ (List.mem_append_right _ (List.mem_append_left _ (List.mem_of_getElem? (i := 59) rfl)))
theorem wq_7_23 : (Cond.selects RX2 yX2_move yX2_move : Cond) ∈ lw_tbl := List.mem_append_right _ (List.mem_append_right _ (List.mem_append_left _ (List.mem_of_getElem? (i := 60) rfl)))
theorem wq_7 : ∀ w ∈ wsL_law0_r7, w ∈ lw_tbl := List.forall_mem_cons.mpr ⟨wq_7_0, List.forall_mem_cons.mpr ⟨wq_7_1, List.forall_mem_cons.mpr ⟨wq_7_2, List.forall_mem_cons.mpr ⟨wq_7_3, List.forall_mem_cons.mpr ⟨wq_7_4, List.forall_mem_cons.mpr ⟨wq_7_5, List.forall_mem_cons.mpr ⟨wq_7_6, List.forall_mem_cons.mpr ⟨wq_7_7, List.forall_mem_cons.mpr ⟨wq_7_8, List.forall_mem_cons.mpr ⟨wq_7_9, List.forall_mem_cons.mpr ⟨wq_7_10, List.forall_mem_cons.mpr ⟨wq_7_11, List.forall_mem_cons.mpr ⟨wq_7_12, List.forall_mem_cons.mpr ⟨wq_7_13, List.forall_mem_cons.mpr ⟨wq_7_14, List.forall_mem_cons.mpr ⟨wq_7_15, List.forall_mem_cons.mpr ⟨wq_7_16, List.forall_mem_cons.mpr ⟨wq_7_17, List.forall_mem_cons.mpr ⟨wq_7_18, List.forall_mem_cons.mpr ⟨wq_7_19, List.forall_mem_cons.mpr ⟨wq_7_20, List.forall_mem_cons.mpr ⟨wq_7_21, List.forall_mem_cons.mpr ⟨wq_7_22, List.forall_mem_cons.mpr ⟨wq_7_23, fun _ h => absurd h List.not_mem_nil⟩⟩⟩⟩⟩⟩⟩⟩⟩⟩⟩⟩⟩⟩⟩⟩⟩⟩⟩⟩⟩⟩⟩⟩
theorem wq_8_0 : (Cond.code yX2_move cX2_move 6 (some .int) : Cond) ∈ lw_tbl := List.mem_append_right _ (List.mem_append_right _ (List.mem_append_left _ (List.mem_of_getElem? (i := 61) rfl)))
theorem wq_8_1 : (Cond.fieldLink RX2 95 "GrantBook$Line" "movedAway" "I" : Cond) ∈ lw_tbl := List.mem_append_right _ (List.mem_append_left _ (List.mem_of_getElem? (i := 235) rfl))
theorem wq_8_2 : (Cond.fieldLink RX2 98 "GrantBook$Line" "budget" "I" : Cond) ∈ lw_tbl := List.mem_append_right _ (List.mem_append_left _ (List.mem_of_getElem? (i := 226) rfl))
theorem wq_8_3 : (Cond.fieldLink RX2 103 "GrantBook$Line" "movedIn" "I" : Cond) ∈ lw_tbl := List.mem_append_right _ (List.mem_append_left _ (List.mem_of_getElem? (i := 233) rfl))
theorem wq_8_4 : (Cond.methodLink RX2 106 yX0_money : Cond) ∈ lw_tbl := List.mem_append_right _ (List.mem_append_right _ (List.mem_append_left _ (List.mem_of_getElem? (i := 64) rfl)))
theorem wq_8_5 : (Cond.methodLink RL 100 yX3_move : Cond) ∈ lw_tbl := List.mem_append_right _ (List.mem_append_right _ (List.mem_append_right _ (List.mem_of_getElem? (i := 88) rfl)))
theorem wq_8_6 : (Cond.instanceMethod yX3_move : Cond) ∈ lw_tbl := List.mem_append_right _ (List.mem_append_right _ (List.mem_append_right _ (List.mem_of_getElem? (i := 89) rfl)))
theorem wq_8_7 : (Cond.selects RX3 yX3_move yX3_move : Cond) ∈ lw_tbl := List.mem_append_right _ (List.mem_append_right _ (List.mem_append_right _ (List.mem_of_getElem? (i := 90) rfl)))
theorem wq_8_8 : (Cond.code yX3_move cX3_move 4 (some .int) : Cond) ∈ lw_tbl := List.mem_append_right _ (List.mem_append_right _ (List.mem_append_right _ (List.mem_of_getElem? (i := 91) rfl)))
theorem wq_8_9 : (Cond.methodLink RX3 90 yX3_roomOf : Cond) ∈ lw_tbl := List.mem_append_right _ (List.mem_append_right _ (List.mem_append_right _ (List.mem_of_getElem? (i := 92) rfl)))
theorem wq_8_10 : (Cond.instanceMethod yX3_roomOf : Cond) ∈ lw_tbl := List.mem_append_right _ (List.mem_append_right _ (List.mem_append_right _ (List.mem_of_getElem? (i := 94) rfl)))
theorem wq_8_11 : (Cond.selects RX3 yX3_roomOf yX3_roomOf : Cond) ∈ lw_tbl := List.mem_append_left _ (List.mem_of_getElem? (i := 10) rfl)
theorem wq_8_12 : (Cond.code yX3_roomOf cX3_roomOf 2 (some .int) : Cond) ∈ lw_tbl := List.mem_append_right _ (List.mem_append_right _ (List.mem_append_right _ (List.mem_of_getElem? (i := 95) rfl)))
theorem wq_8_13 : (Cond.methodLink RL 101 yX2_lines : Cond) ∈ lw_tbl := List.mem_append_right _ (List.mem_append_left _ (List.mem_of_getElem? (i := 67) rfl))
theorem wq_8_14 : (Cond.instanceMethod yX2_lines : Cond) ∈ lw_tbl := List.mem_append_right _ (List.mem_append_left _ (List.mem_of_getElem? (i := 68) rfl))
theorem wq_8_15 : (Cond.selects RX2 yX2_lines yX2_lines : Cond) ∈ lw_tbl := List.mem_append_right _ (List.mem_append_left _ (List.mem_of_getElem? (i := 69) rfl))
theorem wq_8_16 : (Cond.code yX2_lines cX2_lines 1 (some .int) : Cond) ∈ lw_tbl := List.mem_append_right _ (List.mem_append_left _ (List.mem_of_getElem? (i := 70) rfl))
theorem wq_8_17 : (Cond.methodLink RL 104 yX3_lines : Cond) ∈ lw_tbl := List.mem_append_right _ (List.mem_append_right _ (List.mem_append_right _ (List.mem_of_getElem? (i := 96) rfl)))
theorem wq_8_18 : (Cond.instanceMethod yX3_lines : Cond) ∈ lw_tbl := List.mem_append_right _ (List.mem_append_right _ (List.mem_append_right _ (List.mem_of_getElem? (i := 97) rfl)))
theorem wq_8_19 : (Cond.selects RX3 yX3_lines yX3_lines : Cond) ∈ lw_tbl := List.mem_append_right _ (List.mem_append_right _ (List.mem_append_right _ (List.mem_of_getElem? (i := 98) rfl)))
theorem wq_8_20 : (Cond.code yX3_lines cX3_lines 1 (some .int) : Cond) ∈ lw_tbl := List.mem_append_right _ (List.mem_append_right _ (List.mem_append_right _ (List.mem_of_getElem? (i := 99) rfl)))
theorem wq_8_21 : (Cond.methodLink RL 105 yL_room : Cond) ∈ lw_tbl := List.mem_append_right _ (List.mem_append_right _ (List.mem_append_left _ (List.mem_of_getElem? (i := 65) rfl)))
theorem wq_8_22 : (Cond.static yL_room : Cond) ∈ lw_tbl := List.mem_append_right _ (List.mem_append_right _ (List.mem_append_left _ (List.mem_of_getElem? (i := 66) rfl)))
theorem wq_8_23 : (Cond.codeWith yL_room cL_room 4 (some .int) [(0, 9, 12, 25)] : Cond) ∈ lw_tbl := List.mem_append_right _ (List.mem_append_right _ (List.mem_append_left _ (List.mem_of_getElem? (i := 67) rfl)))
theorem wq_8 : ∀ w ∈ wsL_law0_r8, w ∈ lw_tbl := List.forall_mem_cons.mpr ⟨wq_8_0, List.forall_mem_cons.mpr ⟨wq_8_1, List.forall_mem_cons.mpr ⟨wq_8_2, List.forall_mem_cons.mpr ⟨wq_8_3, List.forall_mem_cons.mpr ⟨wq_8_4, List.forall_mem_cons.mpr ⟨wq_8_5, List.forall_mem_cons.mpr ⟨wq_8_6, List.forall_mem_cons.mpr ⟨wq_8_7, List.forall_mem_cons.mpr ⟨wq_8_8, List.forall_mem_cons.mpr ⟨wq_8_9, List.forall_mem_cons.mpr ⟨wq_8_10, List.forall_mem_cons.mpr ⟨wq_8_11, List.forall_mem_cons.mpr ⟨wq_8_12, List.forall_mem_cons.mpr ⟨wq_8_13, List.forall_mem_cons.mpr ⟨wq_8_14, List.forall_mem_cons.mpr ⟨wq_8_15, List.forall_mem_cons.mpr ⟨wq_8_16, List.forall_mem_cons.mpr ⟨wq_8_17, List.forall_mem_cons.mpr ⟨wq_8_18, List.forall_mem_cons.mpr ⟨wq_8_19, List.forall_mem_cons.mpr ⟨wq_8_20, List.forall_mem_cons.mpr ⟨wq_8_21, List.forall_mem_cons.mpr ⟨wq_8_22, List.forall_mem_cons.mpr ⟨wq_8_23, fun _ h => absurd h List.not_mem_nil⟩⟩⟩⟩⟩⟩⟩⟩⟩⟩⟩⟩⟩⟩⟩⟩⟩⟩⟩⟩⟩⟩⟩⟩
theorem wq_9_0 : (Cond.methodLink RL 31 yX2_room : Cond) ∈ lw_tbl := List.mem_append_right _ (List.mem_append_right _ (List.mem_append_left _ (List.mem_of_getElem? (i := 68) rfl)))
theorem wq_9_1 : (Cond.instanceMethod yX2_room : Cond) ∈ lw_tbl := List.mem_append_right _ (List.mem_append_right _ (List.mem_append_left _ (List.mem_of_getElem? (i := 69) rfl)))
theorem wq_9_2 : (Cond.selects RX2 yX2_room yX2_room : Cond) ∈ lw_tbl := List.mem_append_right _ (List.mem_append_right _ (List.mem_append_left _ (List.mem_of_getElem? (i := 70) rfl)))
theorem wq_9_3 : (Cond.code yX2_room cX2_room 2 (some .int) : Cond) ∈ lw_tbl := List.mem_append_right _ (List.mem_append_right _ (List.mem_append_left _ (List.mem_of_getElem? (i := 71) rfl)))
theorem wq_9_4 : (Cond.methodLink RL 108 yX3_room : Cond) ∈ lw_tbl := List.mem_append_right _ (List.mem_append_right _ (List.mem_append_right _ (List.mem_of_getElem? (i := 100) rfl)))
theorem wq_9_5 : (Cond.instanceMethod yX3_room : Cond) ∈ lw_tbl := List.mem_append_right _ (List.mem_append_right _ (List.mem_append_right _ (List.mem_of_getElem? (i := 101) rfl)))
theorem wq_9_6 : (Cond.selects RX3 yX3_room yX3_room : Cond) ∈ lw_tbl := List.mem_append_right _ (List.mem_append_right _ (List.mem_append_right _ (List.mem_of_getElem? (i := 102) rfl)))
theorem wq_9_7 : (Cond.code yX3_room cX3_room 2 (some .int) : Cond) ∈ lw_tbl := List.mem_append_right _ (List.mem_append_right _ (List.mem_append_right _ (List.mem_of_getElem? (i := 103) rfl)))
theorem wq_9_8 : (Cond.methodLink RL 109 yL_left : Cond) ∈ lw_tbl := List.mem_append_right _ (List.mem_append_right _ (List.mem_append_left _ (List.mem_of_getElem? (i := 72) rfl)))
theorem wq_9_9 : (Cond.static yL_left : Cond) ∈ lw_tbl := List.mem_append_right _ (List.mem_append_right _ (List.mem_append_left _ (List.mem_of_getElem? (i := 73) rfl)))
theorem wq_9_10 : (Cond.codeWith yL_left cL_left 4 (some .int) [(0, 9, 12, 25)] : Cond) ∈ lw_tbl := List.mem_append_right _ (List.mem_append_right _ (List.mem_append_left _ (List.mem_of_getElem? (i := 74) rfl)))
theorem wq_9_11 : (Cond.methodLink RL 35 yX2_left : Cond) ∈ lw_tbl := List.mem_append_right _ (List.mem_append_right _ (List.mem_append_left _ (List.mem_of_getElem? (i := 75) rfl)))
theorem wq_9_12 : (Cond.instanceMethod yX2_left : Cond) ∈ lw_tbl := List.mem_append_right _ (List.mem_append_right _ (List.mem_append_left _ (List.mem_of_getElem? (i := 76) rfl)))
theorem wq_9_13 : (Cond.selects RX2 yX2_left yX2_left : Cond) ∈ lw_tbl := List.mem_append_right _ (List.mem_append_right _ (List.mem_append_left _ (List.mem_of_getElem? (i := 77) rfl)))
theorem wq_9_14 : (Cond.code yX2_left cX2_left 3 (some .int) : Cond) ∈ lw_tbl := List.mem_append_right _ (List.mem_append_right _ (List.mem_append_left _ (List.mem_of_getElem? (i := 78) rfl)))
theorem wq_9_15 : (Cond.methodLink RX2 110 yX0_eligibleUpTo : Cond) ∈ lw_tbl := List.mem_append_right _ (List.mem_append_left _ (List.mem_of_getElem? (i := 99) rfl))
theorem wq_9_16 : (Cond.instanceMethod yX0_eligibleUpTo : Cond) ∈ lw_tbl := List.mem_append_right _ (List.mem_append_left _ (List.mem_of_getElem? (i := 100) rfl))
theorem wq_9_17 : (Cond.selects RX0 yX0_eligibleUpTo yX0_eligibleUpTo : Cond) ∈ lw_tbl := List.mem_append_right _ (List.mem_append_left _ (List.mem_of_getElem? (i := 101) rfl))
theorem wq_9_18 : (Cond.code yX0_eligibleUpTo cX0_eligibleUpTo 4 (some .int) : Cond) ∈ lw_tbl := List.mem_append_right _ (List.mem_append_left _ (List.mem_of_getElem? (i := 102) rfl))
theorem wq_9_19 : (Cond.methodLink RL 111 yX3_left : Cond) ∈ lw_tbl := List.mem_append_right _ (List.mem_append_right _ (List.mem_append_right _ (List.mem_of_getElem? (i := 104) rfl)))
theorem wq_9_20 : (Cond.instanceMethod yX3_left : Cond) ∈ lw_tbl := List.mem_append_right _ (List.mem_append_right _ (List.mem_append_right _ (List.mem_of_getElem? (i := 105) rfl)))
theorem wq_9_21 : (Cond.selects RX3 yX3_left yX3_left : Cond) ∈ lw_tbl := List.mem_append_right _ (List.mem_append_right _ (List.mem_append_right _ (List.mem_of_getElem? (i := 106) rfl)))
theorem wq_9_22 : (Cond.code yX3_left cX3_left 2 (some .int) : Cond) ∈ lw_tbl := List.mem_append_right _ (List.mem_append_right _ (List.mem_append_right _ (List.mem_of_getElem? (i := 107) rfl)))
theorem wq_9_23 : (Cond.methodLink RX3 97 yX3_layEligibles : Cond) ∈ lw_tbl := List.mem_append_right _ (List.mem_append_right _ (List.mem_append_right _ (List.mem_of_getElem? (i := 108) rfl)))
theorem wq_9 : ∀ w ∈ wsL_law0_r9, w ∈ lw_tbl := List.forall_mem_cons.mpr ⟨wq_9_0, List.forall_mem_cons.mpr ⟨wq_9_1, List.forall_mem_cons.mpr ⟨wq_9_2, List.forall_mem_cons.mpr ⟨wq_9_3, List.forall_mem_cons.mpr ⟨wq_9_4, List.forall_mem_cons.mpr ⟨wq_9_5, List.forall_mem_cons.mpr ⟨wq_9_6, List.forall_mem_cons.mpr ⟨wq_9_7, List.forall_mem_cons.mpr ⟨wq_9_8, List.forall_mem_cons.mpr ⟨wq_9_9, List.forall_mem_cons.mpr ⟨wq_9_10, List.forall_mem_cons.mpr ⟨wq_9_11, List.forall_mem_cons.mpr ⟨wq_9_12, List.forall_mem_cons.mpr ⟨wq_9_13, List.forall_mem_cons.mpr ⟨wq_9_14, List.forall_mem_cons.mpr ⟨wq_9_15, List.forall_mem_cons.mpr ⟨wq_9_16, List.forall_mem_cons.mpr ⟨wq_9_17, List.forall_mem_cons.mpr ⟨wq_9_18, List.forall_mem_cons.mpr ⟨wq_9_19, List.forall_mem_cons.mpr ⟨wq_9_20, List.forall_mem_cons.mpr ⟨wq_9_21, List.forall_mem_cons.mpr ⟨wq_9_22, List.forall_mem_cons.mpr ⟨wq_9_23, fun _ h => absurd h List.not_mem_nil⟩⟩⟩⟩⟩⟩⟩⟩⟩⟩⟩⟩⟩⟩⟩⟩⟩⟩⟩⟩⟩⟩⟩⟩
theorem wq_10_0 : (Cond.instanceMethod yX3_layEligibles : Cond) ∈ lw_tbl := List.mem_append_right _ (List.mem_append_right _ (List.mem_append_right _ (List.mem_of_getElem? (i := 110) rfl)))
theorem wq_10_1 : (Cond.selects RX3 yX3_layEligibles yX3_layEligibles : Cond) ∈ lw_tbl := List.mem_append_left _ (List.mem_of_getElem? (i := 11) rfl)
theorem wq_10_2 : (Cond.code yX3_layEligibles cX3_layEligibles 6 none : Cond) ∈ lw_tbl := List.mem_append_right _ (List.mem_append_right _ (List.mem_append_right _ (List.mem_of_getElem? (i := 111) rfl)))
theorem wq_10_3 : (Cond.fieldLink RX3 78 "GrantBookModel" "voucherMany" "I" : Cond) ∈ lw_tbl := List.mem_append_right _ (List.mem_append_right _ (List.mem_append_right _ (List.mem_of_getElem? (i := 0) rfl)))
theorem wq_10_4 : (Cond.methodLink RX3 94 yX3_isFit : Cond) ∈ lw_tbl := List.mem_append_right _ (List.mem_append_right _ (List.mem_append_right _ (List.mem_of_getElem? (i := 112) rfl)))
theorem wq_10_5 : (Cond.instanceMethod yX3_isFit : Cond) ∈ lw_tbl := List.mem_append_right _ (List.mem_append_right _ (List.mem_append_right _ (List.mem_of_getElem? (i := 114) rfl)))
theorem wq_10_6 : (Cond.selects RX3 yX3_isFit yX3_isFit : Cond) ∈ lw_tbl := List.mem_append_left _ (List.mem_of_getElem? (i := 12) rfl)
theorem wq_10_7 : (Cond.code yX3_isFit cX3_isFit 3 (some .boolean) : Cond) ∈ lw_tbl := List.mem_append_right _ (List.mem_append_right _ (List.mem_append_right _ (List.mem_of_getElem? (i := 115) rfl)))
theorem wq_10_8 : (Cond.methodLink RL 112 yL_spend : Cond) ∈ lw_tbl := List.mem_append_right _ (List.mem_append_right _ (List.mem_append_left _ (List.mem_of_getElem? (i := 79) rfl)))
theorem wq_10_9 : (Cond.static yL_spend : Cond) ∈ lw_tbl := List.mem_append_right _ (List.mem_append_right _ (List.mem_append_left _ (List.mem_of_getElem? (i := 80) rfl)))
theorem wq_10_10 : (Cond.codeWith yL_spend cL_spend 6 (some .int) [(0, 12, 15, 25), (0, 12, 19, 13), (0, 12, 23, 15)] : Cond) ∈ lw_tbl := List.mem_append_right _ (List.mem_append_right _ (List.mem_append_left _ (List.mem_of_getElem? (i := 81) rfl)))
theorem wq_10_11 : (Cond.methodLink RL 38 yX2_spend : Cond) ∈ lw_tbl := List.mem_append_right _ (List.mem_append_right _ (List.mem_append_left _ (List.mem_of_getElem? (i := 82) rfl)))
theorem wq_10_12 : (Cond.instanceMethod yX2_spend : Cond) ∈ lw_tbl := List.mem_append_right _ (List.mem_append_right _ (List.mem_append_left _ (List.mem_of_getElem? (i := 83) rfl)))
theorem wq_10_13 : (Cond.selects RX2 yX2_spend yX2_spend : Cond) ∈ lw_tbl := List.mem_append_right _ (List.mem_append_right _ (List.mem_append_left _ (List.mem_of_getElem? (i := 84) rfl)))
theorem wq_10_14 : (Cond.code yX2_spend cX2_spend 7 (some .int) : Cond) ∈ lw_tbl := List.mem_append_right _ (List.mem_append_right _ (List.mem_append_left _ (List.mem_of_getElem? (i := 85) rfl)))
theorem wq_10_15 : (Cond.instantiable RX1 6 : Cond) ∈ lw_tbl := List.mem_append_right _ (List.mem_append_right _ (List.mem_append_left _ (List.mem_of_getElem? (i := 87) rfl)))
theorem wq_10_16 : (Cond.initialized RX1 : Cond) ∈ lw_tbl := List.mem_append_right _ (List.mem_append_left _ (List.mem_of_getElem? (i := 11) rfl))
theorem wq_10_17 : (Cond.methodLink RX2 116 yX1_init : Cond) ∈ lw_tbl := List.mem_append_right _ (List.mem_append_right _ (List.mem_append_left _ (List.mem_of_getElem? (i := 88) rfl)))
theorem wq_10_18 : (Cond.instanceMethod yX1_init : Cond) ∈ lw_tbl := List.mem_append_right _ (List.mem_append_right _ (List.mem_append_left _ (List.mem_of_getElem? (i := 89) rfl)))
theorem wq_10_19 : (Cond.code yX1_init cX1_init 4 none : Cond) ∈ lw_tbl := List.mem_append_right _ (List.mem_append_right _ (List.mem_append_left _ (List.mem_of_getElem? (i := 90) rfl)))
theorem wq_10_20 : (Cond.methodLink RX1 1 objectInit : Cond) ∈ lw_tbl := List.mem_append_right _ (List.mem_append_right _ (List.mem_append_left _ (List.mem_of_getElem? (i := 91) rfl)))
theorem wq_10_21 : (Cond.fieldLink RX1 7 "GrantBook$Voucher" "isRefused" "Z" : Cond) ∈ lw_tbl := List.mem_append_right _ (List.mem_append_right _ (List.mem_append_left _ (List.mem_of_getElem? (i := 98) rfl)))
theorem wq_10_22 : (Cond.fieldLink RX1 13 "GrantBook$Voucher" "eligible" "I" : Cond) ∈ lw_tbl := List.mem_append_right _ (List.mem_append_right _ (List.mem_append_left _ (List.mem_of_getElem? (i := 101) rfl)))
theorem wq_10_23 : (Cond.fieldLink RX1 17 "GrantBook$Voucher" "next" "LGrantBook$Voucher;" : Cond) ∈ lw_tbl := List.mem_append_right _ (List.mem_append_right _ (List.mem_append_left _ (List.mem_of_getElem? (i := 104) rfl)))
theorem wq_10 : ∀ w ∈ wsL_law0_r10, w ∈ lw_tbl := List.forall_mem_cons.mpr ⟨wq_10_0, List.forall_mem_cons.mpr ⟨wq_10_1, List.forall_mem_cons.mpr ⟨wq_10_2, List.forall_mem_cons.mpr ⟨wq_10_3, List.forall_mem_cons.mpr ⟨wq_10_4, List.forall_mem_cons.mpr ⟨wq_10_5, List.forall_mem_cons.mpr ⟨wq_10_6, List.forall_mem_cons.mpr ⟨wq_10_7, List.forall_mem_cons.mpr ⟨wq_10_8, List.forall_mem_cons.mpr ⟨wq_10_9, List.forall_mem_cons.mpr ⟨wq_10_10, List.forall_mem_cons.mpr ⟨wq_10_11, List.forall_mem_cons.mpr ⟨wq_10_12, List.forall_mem_cons.mpr ⟨wq_10_13, List.forall_mem_cons.mpr ⟨wq_10_14, List.forall_mem_cons.mpr ⟨wq_10_15, List.forall_mem_cons.mpr ⟨wq_10_16, List.forall_mem_cons.mpr ⟨wq_10_17, List.forall_mem_cons.mpr ⟨wq_10_18, List.forall_mem_cons.mpr ⟨wq_10_19, List.forall_mem_cons.mpr ⟨wq_10_20, List.forall_mem_cons.mpr ⟨wq_10_21, List.forall_mem_cons.mpr ⟨wq_10_22, List.forall_mem_cons.mpr ⟨wq_10_23, fun _ h => absurd h List.not_mem_nil⟩⟩⟩⟩⟩⟩⟩⟩⟩⟩⟩⟩⟩⟩⟩⟩⟩⟩⟩⟩⟩⟩⟩⟩
theorem wq_11_0 : (Cond.fieldLink RX1 21 "GrantBook$Voucher" "line" "LGrantBook$Line;" : Cond) ∈ lw_tbl := List.mem_append_right _ (List.mem_append_right _ (List.mem_append_left _ (List.mem_of_getElem? (i := 92) rfl)))
theorem wq_11_1 : (Cond.fieldLink RX1 25 "GrantBook$Voucher" "day" "I" : Cond) ∈ lw_tbl := List.mem_append_right _ (List.mem_append_right _ (List.mem_append_left _ (List.mem_of_getElem? (i := 94) rfl)))
theorem wq_11_2 : (Cond.fieldLink RX1 28 "GrantBook$Voucher" "amount" "I" : Cond) ∈ lw_tbl := List.mem_append_right _ (List.mem_append_right _ (List.mem_append_left _ (List.mem_of_getElem? (i := 96) rfl)))
theorem wq_11_3 : (Cond.methodLink RX2 119 yX0_putInOrder : Cond) ∈ lw_tbl := List.mem_append_right _ (List.mem_append_right _ (List.mem_append_left _ (List.mem_of_getElem? (i := 119) rfl)))
theorem wq_11_4 : (Cond.instanceMethod yX0_putInOrder : Cond) ∈ lw_tbl := List.mem_append_right _ (List.mem_append_right _ (List.mem_append_left _ (List.mem_of_getElem? (i := 120) rfl)))
theorem wq_11_5 : (Cond.selects RX0 yX0_putInOrder yX0_putInOrder : Cond) ∈ lw_tbl := List.mem_append_right _ (List.mem_append_right _ (List.mem_append_left _ (List.mem_of_getElem? (i := 121) rfl)))
theorem wq_11_6 : (Cond.code yX0_putInOrder cX0_putInOrder 4 none : Cond) ∈ lw_tbl := List.mem_append_right _ (List.mem_append_right _ (List.mem_append_left _ (List.mem_of_getElem? (i := 122) rfl)))
theorem wq_11_7 : (Cond.methodLink RL 114 yX3_spend : Cond) ∈ lw_tbl := List.mem_append_right _ (List.mem_append_right _ (List.mem_append_right _ (List.mem_of_getElem? (i := 116) rfl)))
theorem wq_11_8 : (Cond.instanceMethod yX3_spend : Cond) ∈ lw_tbl := List.mem_append_right _ (List.mem_append_right _ (List.mem_append_right _ (List.mem_of_getElem? (i := 117) rfl)))
theorem wq_11_9 : (Cond.selects RX3 yX3_spend yX3_spend : Cond) ∈ lw_tbl := List.mem_append_right _ (List.mem_append_right _ (List.mem_append_right _ (List.mem_of_getElem? (i := 118) rfl)))
theorem wq_11_10 : (Cond.code yX3_spend cX3_spend 5 (some .int) : Cond) ∈ lw_tbl := List.mem_append_right _ (List.mem_append_right _ (List.mem_append_right _ (List.mem_of_getElem? (i := 119) rfl)))
theorem wq_11_11 : (Cond.methodLink RL 115 yL_refuse : Cond) ∈ lw_tbl := List.mem_append_right _ (List.mem_append_right _ (List.mem_append_left _ (List.mem_of_getElem? (i := 123) rfl)))
theorem wq_11_12 : (Cond.static yL_refuse : Cond) ∈ lw_tbl := List.mem_append_right _ (List.mem_append_right _ (List.mem_append_left _ (List.mem_of_getElem? (i := 124) rfl)))
theorem wq_11_13 : (Cond.codeWith yL_refuse cL_refuse 4 (some .int) [(0, 9, 12, 25), (0, 9, 15, 15)] : Cond) ∈ lw_tbl := List.mem_append_right _ (List.mem_append_right _ (List.mem_append_left _ (List.mem_of_getElem? (i := 125) rfl)))
theorem wq_11_14 : (Cond.methodLink RL 41 yX2_refuse : Cond) ∈ lw_tbl := List.mem_append_right _ (List.mem_append_right _ (List.mem_append_left _ (List.mem_of_getElem? (i := 126) rfl)))
theorem wq_11_15 : (Cond.instanceMethod yX2_refuse : Cond) ∈ lw_tbl := List.mem_append_right _ (List.mem_append_right _ (List.mem_append_left _ (List.mem_of_getElem? (i := 127) rfl)))
theorem wq_11_16 : (Cond.selects RX2 yX2_refuse yX2_refuse : Cond) ∈ lw_tbl := List.mem_append_right _ (List.mem_append_right _ (List.mem_append_left _ (List.mem_of_getElem? (i := 128) rfl)))
theorem wq_11_17 : (Cond.code yX2_refuse cX2_refuse 3 (some .int) : Cond) ∈ lw_tbl := List.mem_append_right _ (List.mem_append_right _ (List.mem_append_left _ (List.mem_of_getElem? (i := 129) rfl)))
theorem wq_11_18 : (Cond.fieldLink RX2 127 "GrantBook$Voucher" "isRefused" "Z" : Cond) ∈ lw_tbl := List.mem_append_right _ (List.mem_append_right _ (List.mem_append_left _ (List.mem_of_getElem? (i := 100) rfl)))
theorem wq_11_19 : (Cond.methodLink RX2 123 yX2_findVoucher : Cond) ∈ lw_tbl := List.mem_append_right _ (List.mem_append_right _ (List.mem_append_left _ (List.mem_of_getElem? (i := 130) rfl)))
theorem wq_11_20 : (Cond.instanceMethod yX2_findVoucher : Cond) ∈ lw_tbl := List.mem_append_right _ (List.mem_append_right _ (List.mem_append_left _ (List.mem_of_getElem? (i := 132) rfl)))
theorem wq_11_21 : (Cond.selects RX2 yX2_findVoucher yX2_findVoucher : Cond) ∈ lw_tbl := List.mem_append_left _ (List.mem_of_getElem? (i := 7) rfl)
theorem wq_11_22 : (Cond.code yX2_findVoucher cX2_findVoucher 3 (some (.object "GrantBook$Voucher")) : Cond) ∈ lw_tbl := List.mem_append_right _ (List.mem_append_right _ (List.mem_append_left _ (List.mem_of_getElem? (i := 133) rfl)))
theorem wq_11_23 : (Cond.methodLink RX2 133 yX2_eligibleMoreWith : Cond) ∈ lw_tbl := List.mem_append_right _ (List.mem_append_right _ (List.mem_append_left _ (List.mem_of_getElem? (i := 136) rfl)))
theorem wq_11 : ∀ w ∈ wsL_law0_r11, w ∈ lw_tbl := List.forall_mem_cons.mpr ⟨wq_11_0, List.forall_mem_cons.mpr ⟨wq_11_1, List.forall_mem_cons.mpr ⟨wq_11_2, List.forall_mem_cons.mpr ⟨wq_11_3, List.forall_mem_cons.mpr ⟨wq_11_4, List.forall_mem_cons.mpr ⟨wq_11_5, List.forall_mem_cons.mpr ⟨wq_11_6, List.forall_mem_cons.mpr ⟨wq_11_7, List.forall_mem_cons.mpr ⟨wq_11_8, List.forall_mem_cons.mpr ⟨wq_11_9, List.forall_mem_cons.mpr ⟨wq_11_10, List.forall_mem_cons.mpr ⟨wq_11_11, List.forall_mem_cons.mpr ⟨wq_11_12, List.forall_mem_cons.mpr ⟨wq_11_13, List.forall_mem_cons.mpr ⟨wq_11_14, List.forall_mem_cons.mpr ⟨wq_11_15, List.forall_mem_cons.mpr ⟨wq_11_16, List.forall_mem_cons.mpr ⟨wq_11_17, List.forall_mem_cons.mpr ⟨wq_11_18, List.forall_mem_cons.mpr ⟨wq_11_19, List.forall_mem_cons.mpr ⟨wq_11_20, List.forall_mem_cons.mpr ⟨wq_11_21, List.forall_mem_cons.mpr ⟨wq_11_22, List.forall_mem_cons.mpr ⟨wq_11_23, fun _ h => absurd h List.not_mem_nil⟩⟩⟩⟩⟩⟩⟩⟩⟩⟩⟩⟩⟩⟩⟩⟩⟩⟩⟩⟩⟩⟩⟩⟩
theorem wq_12_0 : (Cond.static yX2_eligibleMoreWith : Cond) ∈ lw_tbl := List.mem_append_right _ (List.mem_append_right _ (List.mem_append_left _ (List.mem_of_getElem? (i := 137) rfl)))
theorem wq_12_1 : (Cond.code yX2_eligibleMoreWith cX2_eligibleMoreWith 4 (some .int) : Cond) ∈ lw_tbl := List.mem_append_right _ (List.mem_append_right _ (List.mem_append_left _ (List.mem_of_getElem? (i := 138) rfl)))
theorem wq_12_2 : (Cond.fieldLink RX2 141 "GrantBook$Voucher" "line" "LGrantBook$Line;" : Cond) ∈ lw_tbl := List.mem_append_right _ (List.mem_append_right _ (List.mem_append_left _ (List.mem_of_getElem? (i := 93) rfl)))
theorem wq_12_3 : (Cond.methodLink RL 117 yX3_refuse : Cond) ∈ lw_tbl := List.mem_append_right _ (List.mem_append_right _ (List.mem_append_right _ (List.mem_of_getElem? (i := 120) rfl)))
theorem wq_12_4 : (Cond.instanceMethod yX3_refuse : Cond) ∈ lw_tbl := List.mem_append_right _ (List.mem_append_right _ (List.mem_append_right _ (List.mem_of_getElem? (i := 121) rfl)))
theorem wq_12_5 : (Cond.selects RX3 yX3_refuse yX3_refuse : Cond) ∈ lw_tbl := List.mem_append_right _ (List.mem_append_right _ (List.mem_append_right _ (List.mem_of_getElem? (i := 122) rfl)))
theorem wq_12_6 : (Cond.code yX3_refuse cX3_refuse 2 (some .int) : Cond) ∈ lw_tbl := List.mem_append_right _ (List.mem_append_right _ (List.mem_append_right _ (List.mem_of_getElem? (i := 123) rfl)))
theorem wq_12_7 : (Cond.methodLink RX3 107 yX3_mark : Cond) ∈ lw_tbl := List.mem_append_right _ (List.mem_append_right _ (List.mem_append_right _ (List.mem_of_getElem? (i := 124) rfl)))
theorem wq_12_8 : (Cond.instanceMethod yX3_mark : Cond) ∈ lw_tbl := List.mem_append_right _ (List.mem_append_right _ (List.mem_append_right _ (List.mem_of_getElem? (i := 126) rfl)))
theorem wq_12_9 : (Cond.selects RX3 yX3_mark yX3_mark : Cond) ∈ lw_tbl := List.mem_append_left _ (List.mem_of_getElem? (i := 13) rfl)
theorem wq_12_10 : (Cond.code yX3_mark cX3_mark 4 (some .int) : Cond) ∈ lw_tbl := List.mem_append_right _ (List.mem_append_right _ (List.mem_append_right _ (List.mem_of_getElem? (i := 127) rfl)))
theorem wq_12_11 : (Cond.methodLink RX3 100 yX3_isVoucher : Cond) ∈ lw_tbl := List.mem_append_right _ (List.mem_append_right _ (List.mem_append_right _ (List.mem_of_getElem? (i := 128) rfl)))
theorem wq_12_12 : (Cond.instanceMethod yX3_isVoucher : Cond) ∈ lw_tbl := List.mem_append_right _ (List.mem_append_right _ (List.mem_append_right _ (List.mem_of_getElem? (i := 130) rfl)))
theorem wq_12_13 : (Cond.selects RX3 yX3_isVoucher yX3_isVoucher : Cond) ∈ lw_tbl := List.mem_append_left _ (List.mem_of_getElem? (i := 14) rfl)
theorem wq_12_14 : (Cond.code yX3_isVoucher cX3_isVoucher 2 (some .boolean) : Cond) ∈ lw_tbl := List.mem_append_right _ (List.mem_append_right _ (List.mem_append_right _ (List.mem_of_getElem? (i := 131) rfl)))
theorem wq_12_15 : (Cond.methodLink RX3 103 yX3_allEligible : Cond) ∈ lw_tbl := List.mem_append_right _ (List.mem_append_right _ (List.mem_append_right _ (List.mem_of_getElem? (i := 132) rfl)))
theorem wq_12_16 : (Cond.instanceMethod yX3_allEligible : Cond) ∈ lw_tbl := List.mem_append_right _ (List.mem_append_right _ (List.mem_append_right _ (List.mem_of_getElem? (i := 134) rfl)))
theorem wq_12_17 : (Cond.selects RX3 yX3_allEligible yX3_allEligible : Cond) ∈ lw_tbl := List.mem_append_left _ (List.mem_of_getElem? (i := 15) rfl)
theorem wq_12_18 : (Cond.code yX3_allEligible cX3_allEligible 3 (some .int) : Cond) ∈ lw_tbl := List.mem_append_right _ (List.mem_append_right _ (List.mem_append_right _ (List.mem_of_getElem? (i := 135) rfl)))
theorem wq_12_19 : (Cond.methodLink RL 118 yL_admit : Cond) ∈ lw_tbl := List.mem_append_right _ (List.mem_append_right _ (List.mem_append_left _ (List.mem_of_getElem? (i := 139) rfl)))
theorem wq_12_20 : (Cond.static yL_admit : Cond) ∈ lw_tbl := List.mem_append_right _ (List.mem_append_right _ (List.mem_append_left _ (List.mem_of_getElem? (i := 140) rfl)))
theorem wq_12_21 : (Cond.codeWith yL_admit cL_admit 4 (some .int) [(0, 9, 12, 25), (0, 9, 15, 15)] : Cond) ∈ lw_tbl := List.mem_append_right _ (List.mem_append_right _ (List.mem_append_left _ (List.mem_of_getElem? (i := 141) rfl)))
theorem wq_12_22 : (Cond.methodLink RL 44 yX2_admit : Cond) ∈ lw_tbl := List.mem_append_right _ (List.mem_append_right _ (List.mem_append_left _ (List.mem_of_getElem? (i := 142) rfl)))
theorem wq_12_23 : (Cond.instanceMethod yX2_admit : Cond) ∈ lw_tbl := List.mem_append_right _ (List.mem_append_right _ (List.mem_append_left _ (List.mem_of_getElem? (i := 143) rfl)))
theorem wq_12 : ∀ w ∈ wsL_law0_r12, w ∈ lw_tbl := List.forall_mem_cons.mpr ⟨wq_12_0, List.forall_mem_cons.mpr ⟨wq_12_1, List.forall_mem_cons.mpr ⟨wq_12_2, List.forall_mem_cons.mpr ⟨wq_12_3, List.forall_mem_cons.mpr ⟨wq_12_4, List.forall_mem_cons.mpr ⟨wq_12_5, List.forall_mem_cons.mpr ⟨wq_12_6, List.forall_mem_cons.mpr ⟨wq_12_7, List.forall_mem_cons.mpr ⟨wq_12_8, List.forall_mem_cons.mpr ⟨wq_12_9, List.forall_mem_cons.mpr ⟨wq_12_10, List.forall_mem_cons.mpr ⟨wq_12_11, List.forall_mem_cons.mpr ⟨wq_12_12, List.forall_mem_cons.mpr ⟨wq_12_13, List.forall_mem_cons.mpr ⟨wq_12_14, List.forall_mem_cons.mpr ⟨wq_12_15, List.forall_mem_cons.mpr ⟨wq_12_16, List.forall_mem_cons.mpr ⟨wq_12_17, List.forall_mem_cons.mpr ⟨wq_12_18, List.forall_mem_cons.mpr ⟨wq_12_19, List.forall_mem_cons.mpr ⟨wq_12_20, List.forall_mem_cons.mpr ⟨wq_12_21, List.forall_mem_cons.mpr ⟨wq_12_22, List.forall_mem_cons.mpr ⟨wq_12_23, fun _ h => absurd h List.not_mem_nil⟩⟩⟩⟩⟩⟩⟩⟩⟩⟩⟩⟩⟩⟩⟩⟩⟩⟩⟩⟩⟩⟩⟩⟩
theorem wq_13_0 : (Cond.selects RX2 yX2_admit yX2_admit : Cond) ∈ lw_tbl := List.mem_append_right _ (List.mem_append_right _ (List.mem_append_left _ (List.mem_of_getElem? (i := 144) rfl)))
theorem wq_13_1 : (Cond.code yX2_admit cX2_admit 3 (some .int) : Cond) ∈ lw_tbl := List.mem_append_right _ (List.mem_append_right _ (List.mem_append_left _ (List.mem_of_getElem? (i := 145) rfl)))
theorem wq_13_2 : (Cond.methodLink RL 120 yX3_admit : Cond) ∈ lw_tbl := List.mem_append_right _ (List.mem_append_right _ (List.mem_append_right _ (List.mem_of_getElem? (i := 136) rfl)))
theorem wq_13_3 : (Cond.instanceMethod yX3_admit : Cond) ∈ lw_tbl := List.mem_append_right _ (List.mem_append_right _ (List.mem_append_right _ (List.mem_of_getElem? (i := 137) rfl)))
theorem wq_13_4 : (Cond.selects RX3 yX3_admit yX3_admit : Cond) ∈ lw_tbl := List.mem_append_right _ (List.mem_append_right _ (List.mem_append_right _ (List.mem_of_getElem? (i := 138) rfl)))
theorem wq_13_5 : (Cond.code yX3_admit cX3_admit 2 (some .int) : Cond) ∈ lw_tbl := List.mem_append_right _ (List.mem_append_right _ (List.mem_append_right _ (List.mem_of_getElem? (i := 139) rfl)))
theorem wq_13_6 : (Cond.methodLink RL 121 yL_match : Cond) ∈ lw_tbl := List.mem_append_right _ (List.mem_append_right _ (List.mem_append_left _ (List.mem_of_getElem? (i := 147) rfl)))
theorem wq_13_7 : (Cond.static yL_match : Cond) ∈ lw_tbl := List.mem_append_right _ (List.mem_append_right _ (List.mem_append_left _ (List.mem_of_getElem? (i := 148) rfl)))
theorem wq_13_8 : (Cond.codeWith yL_match cL_match 4 (some .int) [(0, 9, 12, 13), (0, 9, 15, 15)] : Cond) ∈ lw_tbl := List.mem_append_right _ (List.mem_append_right _ (List.mem_append_left _ (List.mem_of_getElem? (i := 149) rfl)))
theorem wq_13_9 : (Cond.methodLink RL 47 yX2_match : Cond) ∈ lw_tbl := List.mem_append_right _ (List.mem_append_right _ (List.mem_append_left _ (List.mem_of_getElem? (i := 150) rfl)))
theorem wq_13_10 : (Cond.instanceMethod yX2_match : Cond) ∈ lw_tbl := List.mem_append_right _ (List.mem_append_right _ (List.mem_append_left _ (List.mem_of_getElem? (i := 151) rfl)))
theorem wq_13_11 : (Cond.selects RX2 yX2_match yX2_match : Cond) ∈ lw_tbl := List.mem_append_right _ (List.mem_append_right _ (List.mem_append_left _ (List.mem_of_getElem? (i := 152) rfl)))
theorem wq_13_12 : (Cond.code yX2_match cX2_match 2 (some .int) : Cond) ∈ lw_tbl := List.mem_append_right _ (List.mem_append_right _ (List.mem_append_left _ (List.mem_of_getElem? (i := 153) rfl)))
theorem wq_13_13 : (Cond.methodLink RL 123 yX3_match : Cond) ∈ lw_tbl := List.mem_append_right _ (List.mem_append_right _ (List.mem_append_right _ (List.mem_of_getElem? (i := 140) rfl)))
theorem wq_13_14 : (Cond.instanceMethod yX3_match : Cond) ∈ lw_tbl := List.mem_append_right _ (List.mem_append_right _ (List.mem_append_right _ (List.mem_of_getElem? (i := 141) rfl)))
theorem wq_13_15 : (Cond.selects RX3 yX3_match yX3_match : Cond) ∈ lw_tbl := List.mem_append_right _ (List.mem_append_right _ (List.mem_append_right _ (List.mem_of_getElem? (i := 142) rfl)))
theorem wq_13_16 : (Cond.code yX3_match cX3_match 2 (some .int) : Cond) ∈ lw_tbl := List.mem_append_right _ (List.mem_append_right _ (List.mem_append_right _ (List.mem_of_getElem? (i := 143) rfl)))
theorem wq_13_17 : (Cond.fieldLink RX3 111 "GrantBookModel" "allMatch" "I" : Cond) ∈ lw_tbl := List.mem_append_right _ (List.mem_append_right _ (List.mem_append_right _ (List.mem_of_getElem? (i := 6) rfl)))
theorem wq_13_18 : (Cond.methodLink RL 124 yX2_vouchers : Cond) ∈ lw_tbl := List.mem_append_right _ (List.mem_append_left _ (List.mem_of_getElem? (i := 71) rfl))
theorem wq_13_19 : (Cond.instanceMethod yX2_vouchers : Cond) ∈ lw_tbl := List.mem_append_right _ (List.mem_append_left _ (List.mem_of_getElem? (i := 72) rfl))
theorem wq_13_20 : (Cond.selects RX2 yX2_vouchers yX2_vouchers : Cond) ∈ lw_tbl := List.mem_append_right _ (List.mem_append_left _ (List.mem_of_getElem? (i := 73) rfl))
theorem wq_13_21 : (Cond.code yX2_vouchers cX2_vouchers 1 (some .int) : Cond) ∈ lw_tbl := List.mem_append_right _ (List.mem_append_left _ (List.mem_of_getElem? (i := 74) rfl))
theorem wq_13_22 : (Cond.methodLink RL 127 yX3_vouchers : Cond) ∈ lw_tbl := List.mem_append_right _ (List.mem_append_right _ (List.mem_append_right _ (List.mem_of_getElem? (i := 144) rfl)))
theorem wq_13_23 : (Cond.instanceMethod yX3_vouchers : Cond) ∈ lw_tbl := List.mem_append_right _ (List.mem_append_right _ (List.mem_append_right _ (List.mem_of_getElem? (i := 145) rfl)))
theorem wq_13 : ∀ w ∈ wsL_law0_r13, w ∈ lw_tbl := List.forall_mem_cons.mpr ⟨wq_13_0, List.forall_mem_cons.mpr ⟨wq_13_1, List.forall_mem_cons.mpr ⟨wq_13_2, List.forall_mem_cons.mpr ⟨wq_13_3, List.forall_mem_cons.mpr ⟨wq_13_4, List.forall_mem_cons.mpr ⟨wq_13_5, List.forall_mem_cons.mpr ⟨wq_13_6, List.forall_mem_cons.mpr ⟨wq_13_7, List.forall_mem_cons.mpr ⟨wq_13_8, List.forall_mem_cons.mpr ⟨wq_13_9, List.forall_mem_cons.mpr ⟨wq_13_10, List.forall_mem_cons.mpr ⟨wq_13_11, List.forall_mem_cons.mpr ⟨wq_13_12, List.forall_mem_cons.mpr ⟨wq_13_13, List.forall_mem_cons.mpr ⟨wq_13_14, List.forall_mem_cons.mpr ⟨wq_13_15, List.forall_mem_cons.mpr ⟨wq_13_16, List.forall_mem_cons.mpr ⟨wq_13_17, List.forall_mem_cons.mpr ⟨wq_13_18, List.forall_mem_cons.mpr ⟨wq_13_19, List.forall_mem_cons.mpr ⟨wq_13_20, List.forall_mem_cons.mpr ⟨wq_13_21, List.forall_mem_cons.mpr ⟨wq_13_22, List.forall_mem_cons.mpr ⟨wq_13_23, fun _ h => absurd h List.not_mem_nil⟩⟩⟩⟩⟩⟩⟩⟩⟩⟩⟩⟩⟩⟩⟩⟩⟩⟩⟩⟩⟩⟩⟩⟩
theorem wq_14_0 : (Cond.selects RX3 yX3_vouchers yX3_vouchers : Cond) ∈ lw_tbl := List.mem_append_right _ (List.mem_append_right _ (List.mem_append_right _ (List.mem_of_getElem? (i := 146) rfl)))
theorem wq_14_1 : (Cond.code yX3_vouchers cX3_vouchers 1 (some .int) : Cond) ∈ lw_tbl := List.mem_append_right _ (List.mem_append_right _ (List.mem_append_right _ (List.mem_of_getElem? (i := 147) rfl)))
theorem wq_14_2 : (Cond.methodLink RL 128 yL_fits : Cond) ∈ lw_tbl := List.mem_append_right _ (List.mem_append_right _ (List.mem_append_left _ (List.mem_of_getElem? (i := 155) rfl)))
theorem wq_14_3 : (Cond.static yL_fits : Cond) ∈ lw_tbl := List.mem_append_right _ (List.mem_append_right _ (List.mem_append_left _ (List.mem_of_getElem? (i := 156) rfl)))
theorem wq_14_4 : (Cond.codeWith yL_fits cL_fits 4 (some .int) [(0, 16, 19, 25)] : Cond) ∈ lw_tbl := List.mem_append_right _ (List.mem_append_right _ (List.mem_append_left _ (List.mem_of_getElem? (i := 157) rfl)))
theorem wq_14_5 : (Cond.methodLink RL 50 yX2_fits : Cond) ∈ lw_tbl := List.mem_append_right _ (List.mem_append_right _ (List.mem_append_left _ (List.mem_of_getElem? (i := 158) rfl)))
theorem wq_14_6 : (Cond.instanceMethod yX2_fits : Cond) ∈ lw_tbl := List.mem_append_right _ (List.mem_append_right _ (List.mem_append_left _ (List.mem_of_getElem? (i := 159) rfl)))
theorem wq_14_7 : (Cond.selects RX2 yX2_fits yX2_fits : Cond) ∈ lw_tbl := List.mem_append_right _ (List.mem_append_right _ (List.mem_append_left _ (List.mem_of_getElem? (i := 160) rfl)))
theorem wq_14_8 : (Cond.code yX2_fits cX2_fits 3 (some .boolean) : Cond) ∈ lw_tbl := List.mem_append_right _ (List.mem_append_right _ (List.mem_append_left _ (List.mem_of_getElem? (i := 161) rfl)))
theorem wq_14_9 : (Cond.methodLink RX2 145 yX0_accepts : Cond) ∈ lw_tbl := List.mem_append_right _ (List.mem_append_right _ (List.mem_append_left _ (List.mem_of_getElem? (i := 162) rfl)))
theorem wq_14_10 : (Cond.methodLink RL 130 yX3_fits : Cond) ∈ lw_tbl := List.mem_append_right _ (List.mem_append_right _ (List.mem_append_right _ (List.mem_of_getElem? (i := 148) rfl)))
theorem wq_14_11 : (Cond.instanceMethod yX3_fits : Cond) ∈ lw_tbl := List.mem_append_right _ (List.mem_append_right _ (List.mem_append_right _ (List.mem_of_getElem? (i := 149) rfl)))
theorem wq_14_12 : (Cond.selects RX3 yX3_fits yX3_fits : Cond) ∈ lw_tbl := List.mem_append_right _ (List.mem_append_right _ (List.mem_append_right _ (List.mem_of_getElem? (i := 150) rfl)))
theorem wq_14_13 : (Cond.code yX3_fits cX3_fits 2 (some .boolean) : Cond) ∈ lw_tbl := List.mem_append_right _ (List.mem_append_right _ (List.mem_append_right _ (List.mem_of_getElem? (i := 151) rfl)))
theorem wq_14_14 : (Cond.methodLink RL 131 yL_eligible : Cond) ∈ lw_tbl := List.mem_append_right _ (List.mem_append_right _ (List.mem_append_left _ (List.mem_of_getElem? (i := 163) rfl)))
theorem wq_14_15 : (Cond.static yL_eligible : Cond) ∈ lw_tbl := List.mem_append_right _ (List.mem_append_right _ (List.mem_append_left _ (List.mem_of_getElem? (i := 164) rfl)))
theorem wq_14_16 : (Cond.codeWith yL_eligible cL_eligible 4 (some .int) [(0, 9, 12, 25)] : Cond) ∈ lw_tbl := List.mem_append_right _ (List.mem_append_right _ (List.mem_append_left _ (List.mem_of_getElem? (i := 165) rfl)))
theorem wq_14_17 : (Cond.methodLink RL 54 yX2_eligible : Cond) ∈ lw_tbl := List.mem_append_right _ (List.mem_append_right _ (List.mem_append_left _ (List.mem_of_getElem? (i := 166) rfl)))
theorem wq_14_18 : (Cond.instanceMethod yX2_eligible : Cond) ∈ lw_tbl := List.mem_append_right _ (List.mem_append_right _ (List.mem_append_left _ (List.mem_of_getElem? (i := 167) rfl)))
theorem wq_14_19 : (Cond.selects RX2 yX2_eligible yX2_eligible : Cond) ∈ lw_tbl := List.mem_append_right _ (List.mem_append_right _ (List.mem_append_left _ (List.mem_of_getElem? (i := 168) rfl)))
theorem wq_14_20 : (Cond.code yX2_eligible cX2_eligible 2 (some .int) : Cond) ∈ lw_tbl := List.mem_append_right _ (List.mem_append_right _ (List.mem_append_left _ (List.mem_of_getElem? (i := 169) rfl)))
theorem wq_14_21 : (Cond.fieldLink RX2 149 "GrantBook$Voucher" "eligible" "I" : Cond) ∈ lw_tbl := List.mem_append_right _ (List.mem_append_right _ (List.mem_append_left _ (List.mem_of_getElem? (i := 103) rfl)))
theorem wq_14_22 : (Cond.methodLink RL 133 yX3_eligible : Cond) ∈ lw_tbl := List.mem_append_right _ (List.mem_append_right _ (List.mem_append_right _ (List.mem_of_getElem? (i := 152) rfl)))
theorem wq_14_23 : (Cond.instanceMethod yX3_eligible : Cond) ∈ lw_tbl := List.mem_append_right _ (List.mem_append_right _ (List.mem_append_right _ (List.mem_of_getElem? (i := 153) rfl)))
theorem wq_14 : ∀ w ∈ wsL_law0_r14, w ∈ lw_tbl := List.forall_mem_cons.mpr ⟨wq_14_0, List.forall_mem_cons.mpr ⟨wq_14_1, List.forall_mem_cons.mpr ⟨wq_14_2, List.forall_mem_cons.mpr ⟨wq_14_3, List.forall_mem_cons.mpr ⟨wq_14_4, List.forall_mem_cons.mpr ⟨wq_14_5, List.forall_mem_cons.mpr ⟨wq_14_6, List.forall_mem_cons.mpr ⟨wq_14_7, List.forall_mem_cons.mpr ⟨wq_14_8, List.forall_mem_cons.mpr ⟨wq_14_9, List.forall_mem_cons.mpr ⟨wq_14_10, List.forall_mem_cons.mpr ⟨wq_14_11, List.forall_mem_cons.mpr ⟨wq_14_12, List.forall_mem_cons.mpr ⟨wq_14_13, List.forall_mem_cons.mpr ⟨wq_14_14, List.forall_mem_cons.mpr ⟨wq_14_15, List.forall_mem_cons.mpr ⟨wq_14_16, List.forall_mem_cons.mpr ⟨wq_14_17, List.forall_mem_cons.mpr ⟨wq_14_18, List.forall_mem_cons.mpr ⟨wq_14_19, List.forall_mem_cons.mpr ⟨wq_14_20, List.forall_mem_cons.mpr ⟨wq_14_21, List.forall_mem_cons.mpr ⟨wq_14_22, List.forall_mem_cons.mpr ⟨wq_14_23, fun _ h => absurd h List.not_mem_nil⟩⟩⟩⟩⟩⟩⟩⟩⟩⟩⟩⟩⟩⟩⟩⟩⟩⟩⟩⟩⟩⟩⟩⟩
theorem wq_15_0 : (Cond.selects RX3 yX3_eligible yX3_eligible : Cond) ∈ lw_tbl := List.mem_append_right _ (List.mem_append_right _ (List.mem_append_right _ (List.mem_of_getElem? (i := 154) rfl)))
theorem wq_15_1 : (Cond.code yX3_eligible cX3_eligible 2 (some .int) : Cond) ∈ lw_tbl := List.mem_append_right _ (List.mem_append_right _ (List.mem_append_right _ (List.mem_of_getElem? (i := 155) rfl)))
theorem wq_15_2 : (Cond.methodLink RL 134 yL_costs : Cond) ∈ lw_tbl := List.mem_append_right _ (List.mem_append_right _ (List.mem_append_left _ (List.mem_of_getElem? (i := 170) rfl)))
theorem wq_15_3 : (Cond.static yL_costs : Cond) ∈ lw_tbl := List.mem_append_right _ (List.mem_append_right _ (List.mem_append_left _ (List.mem_of_getElem? (i := 171) rfl)))
theorem wq_15_4 : (Cond.codeWith yL_costs cL_costs 4 (some .int) [(0, 9, 12, 13)] : Cond) ∈ lw_tbl := List.mem_append_right _ (List.mem_append_right _ (List.mem_append_left _ (List.mem_of_getElem? (i := 172) rfl)))
theorem wq_15_5 : (Cond.methodLink RL 57 yX2_costs : Cond) ∈ lw_tbl := List.mem_append_right _ (List.mem_append_right _ (List.mem_append_left _ (List.mem_of_getElem? (i := 173) rfl)))
theorem wq_15_6 : (Cond.instanceMethod yX2_costs : Cond) ∈ lw_tbl := List.mem_append_right _ (List.mem_append_right _ (List.mem_append_left _ (List.mem_of_getElem? (i := 174) rfl)))
theorem wq_15_7 : (Cond.selects RX2 yX2_costs yX2_costs : Cond) ∈ lw_tbl := List.mem_append_right _ (List.mem_append_right _ (List.mem_append_left _ (List.mem_of_getElem? (i := 175) rfl)))
theorem wq_15_8 : (Cond.code yX2_costs cX2_costs 2 (some .int) : Cond) ∈ lw_tbl := List.mem_append_right _ (List.mem_append_right _ (List.mem_append_left _ (List.mem_of_getElem? (i := 176) rfl)))
theorem wq_15_9 : (Cond.methodLink RX2 152 yX2_costsUpTo : Cond) ∈ lw_tbl := List.mem_append_right _ (List.mem_append_left _ (List.mem_of_getElem? (i := 91) rfl))
theorem wq_15_10 : (Cond.instanceMethod yX2_costsUpTo : Cond) ∈ lw_tbl := List.mem_append_right _ (List.mem_append_left _ (List.mem_of_getElem? (i := 93) rfl))
theorem wq_15_11 : (Cond.selects RX2 yX2_costsUpTo yX2_costsUpTo : Cond) ∈ lw_tbl := List.mem_append_left _ (List.mem_of_getElem? (i := 2) rfl)
theorem wq_15_12 : (Cond.code yX2_costsUpTo cX2_costsUpTo 2 (some .int) : Cond) ∈ lw_tbl := List.mem_append_right _ (List.mem_append_left _ (List.mem_of_getElem? (i := 94) rfl))
theorem wq_15_13 : (Cond.methodLink RX2 188 yX2_eligibleInAll : Cond) ∈ lw_tbl := List.mem_append_right _ (List.mem_append_left _ (List.mem_of_getElem? (i := 95) rfl))
theorem wq_15_14 : (Cond.instanceMethod yX2_eligibleInAll : Cond) ∈ lw_tbl := List.mem_append_right _ (List.mem_append_left _ (List.mem_of_getElem? (i := 97) rfl))
theorem wq_15_15 : (Cond.selects RX2 yX2_eligibleInAll yX2_eligibleInAll : Cond) ∈ lw_tbl := List.mem_append_left _ (List.mem_of_getElem? (i := 3) rfl)
theorem wq_15_16 : (Cond.code yX2_eligibleInAll cX2_eligibleInAll 8 (some .int) : Cond) ∈ lw_tbl := List.mem_append_right _ (List.mem_append_left _ (List.mem_of_getElem? (i := 98) rfl))
theorem wq_15_17 : (Cond.fieldLink RX2 197 "GrantBook$Line" "isInBase" "Z" : Cond) ∈ lw_tbl := List.mem_append_right _ (List.mem_append_left _ (List.mem_of_getElem? (i := 231) rfl))
theorem wq_15_18 : (Cond.methodLink RL 136 yX3_costs : Cond) ∈ lw_tbl := List.mem_append_right _ (List.mem_append_right _ (List.mem_append_right _ (List.mem_of_getElem? (i := 156) rfl)))
theorem wq_15_19 : (Cond.instanceMethod yX3_costs : Cond) ∈ lw_tbl := List.mem_append_right _ (List.mem_append_right _ (List.mem_append_right _ (List.mem_of_getElem? (i := 157) rfl)))
theorem wq_15_20 : (Cond.selects RX3 yX3_costs yX3_costs : Cond) ∈ lw_tbl := List.mem_append_right _ (List.mem_append_right _ (List.mem_append_right _ (List.mem_of_getElem? (i := 158) rfl)))
theorem wq_15_21 : (Cond.code yX3_costs cX3_costs 2 (some .int) : Cond) ∈ lw_tbl := List.mem_append_right _ (List.mem_append_right _ (List.mem_append_right _ (List.mem_of_getElem? (i := 159) rfl)))
theorem wq_15_22 : (Cond.methodLink RX3 125 yX3_isDay : Cond) ∈ lw_tbl := List.mem_append_right _ (List.mem_append_right _ (List.mem_append_right _ (List.mem_of_getElem? (i := 160) rfl)))
theorem wq_15_23 : (Cond.instanceMethod yX3_isDay : Cond) ∈ lw_tbl := List.mem_append_right _ (List.mem_append_right _ (List.mem_append_right _ (List.mem_of_getElem? (i := 162) rfl)))
theorem wq_15 : ∀ w ∈ wsL_law0_r15, w ∈ lw_tbl := List.forall_mem_cons.mpr ⟨wq_15_0, List.forall_mem_cons.mpr ⟨wq_15_1, List.forall_mem_cons.mpr ⟨wq_15_2, List.forall_mem_cons.mpr ⟨wq_15_3, List.forall_mem_cons.mpr ⟨wq_15_4, List.forall_mem_cons.mpr ⟨wq_15_5, List.forall_mem_cons.mpr ⟨wq_15_6, List.forall_mem_cons.mpr ⟨wq_15_7, List.forall_mem_cons.mpr ⟨wq_15_8, List.forall_mem_cons.mpr ⟨wq_15_9, List.forall_mem_cons.mpr ⟨wq_15_10, List.forall_mem_cons.mpr ⟨wq_15_11, List.forall_mem_cons.mpr ⟨wq_15_12, List.forall_mem_cons.mpr ⟨wq_15_13, List.forall_mem_cons.mpr ⟨wq_15_14, List.forall_mem_cons.mpr ⟨wq_15_15, List.forall_mem_cons.mpr ⟨wq_15_16, List.forall_mem_cons.mpr ⟨wq_15_17, List.forall_mem_cons.mpr ⟨wq_15_18, List.forall_mem_cons.mpr ⟨wq_15_19, List.forall_mem_cons.mpr ⟨wq_15_20, List.forall_mem_cons.mpr ⟨wq_15_21, List.forall_mem_cons.mpr ⟨wq_15_22, List.forall_mem_cons.mpr ⟨wq_15_23, fun _ h => absurd h List.not_mem_nil⟩⟩⟩⟩⟩⟩⟩⟩⟩⟩⟩⟩⟩⟩⟩⟩⟩⟩⟩⟩⟩⟩⟩⟩
theorem wq_16_0 : (Cond.selects RX3 yX3_isDay yX3_isDay : Cond) ∈ lw_tbl := List.mem_append_left _ (List.mem_of_getElem? (i := 16) rfl)
theorem wq_16_1 : (Cond.code yX3_isDay cX3_isDay 2 (some .boolean) : Cond) ∈ lw_tbl := List.mem_append_right _ (List.mem_append_right _ (List.mem_append_right _ (List.mem_of_getElem? (i := 163) rfl)))
theorem wq_16_2 : (Cond.methodLink RX3 114 yX3_costsTo : Cond) ∈ lw_tbl := List.mem_append_right _ (List.mem_append_right _ (List.mem_append_right _ (List.mem_of_getElem? (i := 164) rfl)))
theorem wq_16_3 : (Cond.instanceMethod yX3_costsTo : Cond) ∈ lw_tbl := List.mem_append_right _ (List.mem_append_right _ (List.mem_append_right _ (List.mem_of_getElem? (i := 166) rfl)))
theorem wq_16_4 : (Cond.selects RX3 yX3_costsTo yX3_costsTo : Cond) ∈ lw_tbl := List.mem_append_left _ (List.mem_of_getElem? (i := 17) rfl)
theorem wq_16_5 : (Cond.code yX3_costsTo cX3_costsTo 6 (some .int) : Cond) ∈ lw_tbl := List.mem_append_right _ (List.mem_append_right _ (List.mem_append_right _ (List.mem_of_getElem? (i := 167) rfl)))
theorem wq_16_6 : (Cond.methodLink RL 137 yL_overhead : Cond) ∈ lw_tbl := List.mem_append_right _ (List.mem_append_right _ (List.mem_append_left _ (List.mem_of_getElem? (i := 177) rfl)))
theorem wq_16_7 : (Cond.static yL_overhead : Cond) ∈ lw_tbl := List.mem_append_right _ (List.mem_append_right _ (List.mem_append_left _ (List.mem_of_getElem? (i := 178) rfl)))
theorem wq_16_8 : (Cond.codeWith yL_overhead cL_overhead 4 (some .int) [(0, 9, 12, 13)] : Cond) ∈ lw_tbl := List.mem_append_right _ (List.mem_append_right _ (List.mem_append_left _ (List.mem_of_getElem? (i := 179) rfl)))
theorem wq_16_9 : (Cond.methodLink RL 60 yX2_overhead : Cond) ∈ lw_tbl := List.mem_append_right _ (List.mem_append_right _ (List.mem_append_left _ (List.mem_of_getElem? (i := 180) rfl)))
theorem wq_16_10 : (Cond.instanceMethod yX2_overhead : Cond) ∈ lw_tbl := List.mem_append_right _ (List.mem_append_right _ (List.mem_append_left _ (List.mem_of_getElem? (i := 181) rfl)))
theorem wq_16_11 : (Cond.selects RX2 yX2_overhead yX2_overhead : Cond) ∈ lw_tbl := List.mem_append_right _ (List.mem_append_right _ (List.mem_append_left _ (List.mem_of_getElem? (i := 182) rfl)))
theorem wq_16_12 : (Cond.code yX2_overhead cX2_overhead 2 (some .int) : Cond) ∈ lw_tbl := List.mem_append_right _ (List.mem_append_right _ (List.mem_append_left _ (List.mem_of_getElem? (i := 183) rfl)))
theorem wq_16_13 : (Cond.methodLink RX2 155 yX2_overheadUpTo : Cond) ∈ lw_tbl := List.mem_append_right _ (List.mem_append_left _ (List.mem_of_getElem? (i := 103) rfl))
theorem wq_16_14 : (Cond.instanceMethod yX2_overheadUpTo : Cond) ∈ lw_tbl := List.mem_append_right _ (List.mem_append_left _ (List.mem_of_getElem? (i := 105) rfl))
theorem wq_16_15 : (Cond.selects RX2 yX2_overheadUpTo yX2_overheadUpTo : Cond) ∈ lw_tbl := List.mem_append_left _ (List.mem_of_getElem? (i := 4) rfl)
theorem wq_16_16 : (Cond.code yX2_overheadUpTo cX2_overheadUpTo 4 (some .int) : Cond) ∈ lw_tbl := List.mem_append_right _ (List.mem_append_left _ (List.mem_of_getElem? (i := 106) rfl))
theorem wq_16_17 : (Cond.constantLong RX2 192 (100) : Cond) ∈ lw_tbl := List.mem_append_right _ (List.mem_append_left _ (List.mem_of_getElem? (i := 107) rfl))
theorem wq_16_18 : (Cond.methodLink RX2 194 Lib.MathLoose.min_long.x : Cond) ∈ lw_tbl := List.mem_append_right _ (List.mem_append_left _ (List.mem_of_getElem? (i := 108) rfl))
theorem wq_16_19 : (Cond.static Lib.MathLoose.min_long.x : Cond) ∈ lw_tbl := List.mem_append_right _ (List.mem_append_left _ (List.mem_of_getElem? (i := 109) rfl))
theorem wq_16_20 : (Cond.code Lib.MathLoose.min_long.x Lib.MathLoose.min_long.code 4 (some .long) : Cond) ∈ lw_tbl := List.mem_append_right _ (List.mem_append_left _ (List.mem_of_getElem? (i := 110) rfl))
theorem wq_16_21 : (Cond.methodLink RL 139 yX3_overhead : Cond) ∈ lw_tbl := List.mem_append_right _ (List.mem_append_right _ (List.mem_append_right _ (List.mem_of_getElem? (i := 168) rfl)))
theorem wq_16_22 : (Cond.instanceMethod yX3_overhead : Cond) ∈ lw_tbl := List.mem_append_right _ (List.mem_append_right _ (List.mem_append_right _ (List.mem_of_getElem? (i := 169) rfl)))
theorem wq_16_23 : (Cond.selects RX3 yX3_overhead yX3_overhead : Cond) ∈ lw_tbl := List.mem_append_right _ (List.mem_append_right _ (List.mem_append_right _ (List.mem_of_getElem? (i := 170) rfl)))
theorem wq_16 : ∀ w ∈ wsL_law0_r16, w ∈ lw_tbl := List.forall_mem_cons.mpr ⟨wq_16_0, List.forall_mem_cons.mpr ⟨wq_16_1, List.forall_mem_cons.mpr ⟨wq_16_2, List.forall_mem_cons.mpr ⟨wq_16_3, List.forall_mem_cons.mpr ⟨wq_16_4, List.forall_mem_cons.mpr ⟨wq_16_5, List.forall_mem_cons.mpr ⟨wq_16_6, List.forall_mem_cons.mpr ⟨wq_16_7, List.forall_mem_cons.mpr ⟨wq_16_8, List.forall_mem_cons.mpr ⟨wq_16_9, List.forall_mem_cons.mpr ⟨wq_16_10, List.forall_mem_cons.mpr ⟨wq_16_11, List.forall_mem_cons.mpr ⟨wq_16_12, List.forall_mem_cons.mpr ⟨wq_16_13, List.forall_mem_cons.mpr ⟨wq_16_14, List.forall_mem_cons.mpr ⟨wq_16_15, List.forall_mem_cons.mpr ⟨wq_16_16, List.forall_mem_cons.mpr ⟨wq_16_17, List.forall_mem_cons.mpr ⟨wq_16_18, List.forall_mem_cons.mpr ⟨wq_16_19, List.forall_mem_cons.mpr ⟨wq_16_20, List.forall_mem_cons.mpr ⟨wq_16_21, List.forall_mem_cons.mpr ⟨wq_16_22, List.forall_mem_cons.mpr ⟨wq_16_23, fun _ h => absurd h List.not_mem_nil⟩⟩⟩⟩⟩⟩⟩⟩⟩⟩⟩⟩⟩⟩⟩⟩⟩⟩⟩⟩⟩⟩⟩⟩
theorem wq_17_0 : (Cond.code yX3_overhead cX3_overhead 2 (some .int) : Cond) ∈ lw_tbl := List.mem_append_right _ (List.mem_append_right _ (List.mem_append_right _ (List.mem_of_getElem? (i := 171) rfl)))
theorem wq_17_1 : (Cond.methodLink RX3 119 yX3_overheadTo : Cond) ∈ lw_tbl := List.mem_append_right _ (List.mem_append_right _ (List.mem_append_right _ (List.mem_of_getElem? (i := 172) rfl)))
theorem wq_17_2 : (Cond.instanceMethod yX3_overheadTo : Cond) ∈ lw_tbl := List.mem_append_right _ (List.mem_append_right _ (List.mem_append_right _ (List.mem_of_getElem? (i := 174) rfl)))
theorem wq_17_3 : (Cond.selects RX3 yX3_overheadTo yX3_overheadTo : Cond) ∈ lw_tbl := List.mem_append_left _ (List.mem_of_getElem? (i := 18) rfl)
theorem wq_17_4 : (Cond.code yX3_overheadTo cX3_overheadTo 4 (some .int) : Cond) ∈ lw_tbl := List.mem_append_right _ (List.mem_append_right _ (List.mem_append_right _ (List.mem_of_getElem? (i := 175) rfl)))
theorem wq_17_5 : (Cond.constantLong RX3 117 (100) : Cond) ∈ lw_tbl := List.mem_append_right _ (List.mem_append_right _ (List.mem_append_right _ (List.mem_of_getElem? (i := 176) rfl)))
theorem wq_17_6 : (Cond.methodLink RL 140 yL_earned : Cond) ∈ lw_tbl := List.mem_append_right _ (List.mem_append_right _ (List.mem_append_left _ (List.mem_of_getElem? (i := 184) rfl)))
theorem wq_17_7 : (Cond.static yL_earned : Cond) ∈ lw_tbl := List.mem_append_right _ (List.mem_append_right _ (List.mem_append_left _ (List.mem_of_getElem? (i := 185) rfl)))
theorem wq_17_8 : (Cond.codeWith yL_earned cL_earned 4 (some .int) [(0, 9, 12, 13)] : Cond) ∈ lw_tbl := List.mem_append_right _ (List.mem_append_right _ (List.mem_append_left _ (List.mem_of_getElem? (i := 186) rfl)))
theorem wq_17_9 : (Cond.methodLink RL 63 yX2_earned : Cond) ∈ lw_tbl := List.mem_append_right _ (List.mem_append_right _ (List.mem_append_left _ (List.mem_of_getElem? (i := 187) rfl)))
theorem wq_17_10 : (Cond.instanceMethod yX2_earned : Cond) ∈ lw_tbl := List.mem_append_right _ (List.mem_append_right _ (List.mem_append_left _ (List.mem_of_getElem? (i := 188) rfl)))
theorem wq_17_11 : (Cond.selects RX2 yX2_earned yX2_earned : Cond) ∈ lw_tbl := List.mem_append_right _ (List.mem_append_right _ (List.mem_append_left _ (List.mem_of_getElem? (i := 189) rfl)))
theorem wq_17_12 : (Cond.code yX2_earned cX2_earned 2 (some .int) : Cond) ∈ lw_tbl := List.mem_append_right _ (List.mem_append_right _ (List.mem_append_left _ (List.mem_of_getElem? (i := 190) rfl)))
theorem wq_17_13 : (Cond.methodLink RX2 158 yX2_earnedUpTo : Cond) ∈ lw_tbl := List.mem_append_right _ (List.mem_append_left _ (List.mem_of_getElem? (i := 83) rfl))
theorem wq_17_14 : (Cond.instanceMethod yX2_earnedUpTo : Cond) ∈ lw_tbl := List.mem_append_right _ (List.mem_append_left _ (List.mem_of_getElem? (i := 85) rfl))
theorem wq_17_15 : (Cond.selects RX2 yX2_earnedUpTo yX2_earnedUpTo : Cond) ∈ lw_tbl := List.mem_append_left _ (List.mem_of_getElem? (i := 0) rfl)
theorem wq_17_16 : (Cond.code yX2_earnedUpTo cX2_earnedUpTo 5 (some .int) : Cond) ∈ lw_tbl := List.mem_append_right _ (List.mem_append_left _ (List.mem_of_getElem? (i := 86) rfl))
theorem wq_17_17 : (Cond.methodLink RX2 161 yX2_earnedButForMatch : Cond) ∈ lw_tbl := List.mem_append_right _ (List.mem_append_left _ (List.mem_of_getElem? (i := 87) rfl))
theorem wq_17_18 : (Cond.instanceMethod yX2_earnedButForMatch : Cond) ∈ lw_tbl := List.mem_append_right _ (List.mem_append_left _ (List.mem_of_getElem? (i := 89) rfl))
theorem wq_17_19 : (Cond.selects RX2 yX2_earnedButForMatch yX2_earnedButForMatch : Cond) ∈ lw_tbl := List.mem_append_left _ (List.mem_of_getElem? (i := 1) rfl)
theorem wq_17_20 : (Cond.code yX2_earnedButForMatch cX2_earnedButForMatch 4 (some .long) : Cond) ∈ lw_tbl := List.mem_append_right _ (List.mem_append_left _ (List.mem_of_getElem? (i := 90) rfl))
theorem wq_17_21 : (Cond.methodLink RL 142 yX3_earned : Cond) ∈ lw_tbl := List.mem_append_right _ (List.mem_append_right _ (List.mem_append_right _ (List.mem_of_getElem? (i := 177) rfl)))
theorem wq_17_22 : (Cond.instanceMethod yX3_earned : Cond) ∈ lw_tbl := List.mem_append_right _ (List.mem_append_right _ (List.mem_append_right _ (List.mem_of_getElem? (i := 178) rfl)))
theorem wq_17_23 : (Cond.selects RX3 yX3_earned yX3_earned : Cond) ∈ lw_tbl := List.mem_append_right _ (List.mem_append_right _ (List.mem_append_right _ (List.mem_of_getElem? (i := 179) rfl)))
theorem wq_17 : ∀ w ∈ wsL_law0_r17, w ∈ lw_tbl := List.forall_mem_cons.mpr ⟨wq_17_0, List.forall_mem_cons.mpr ⟨wq_17_1, List.forall_mem_cons.mpr ⟨wq_17_2, List.forall_mem_cons.mpr ⟨wq_17_3, List.forall_mem_cons.mpr ⟨wq_17_4, List.forall_mem_cons.mpr ⟨wq_17_5, List.forall_mem_cons.mpr ⟨wq_17_6, List.forall_mem_cons.mpr ⟨wq_17_7, List.forall_mem_cons.mpr ⟨wq_17_8, List.forall_mem_cons.mpr ⟨wq_17_9, List.forall_mem_cons.mpr ⟨wq_17_10, List.forall_mem_cons.mpr ⟨wq_17_11, List.forall_mem_cons.mpr ⟨wq_17_12, List.forall_mem_cons.mpr ⟨wq_17_13, List.forall_mem_cons.mpr ⟨wq_17_14, List.forall_mem_cons.mpr ⟨wq_17_15, List.forall_mem_cons.mpr ⟨wq_17_16, List.forall_mem_cons.mpr ⟨wq_17_17, List.forall_mem_cons.mpr ⟨wq_17_18, List.forall_mem_cons.mpr ⟨wq_17_19, List.forall_mem_cons.mpr ⟨wq_17_20, List.forall_mem_cons.mpr ⟨wq_17_21, List.forall_mem_cons.mpr ⟨wq_17_22, List.forall_mem_cons.mpr ⟨wq_17_23, fun _ h => absurd h List.not_mem_nil⟩⟩⟩⟩⟩⟩⟩⟩⟩⟩⟩⟩⟩⟩⟩⟩⟩⟩⟩⟩⟩⟩⟩⟩
theorem wq_18_0 : (Cond.code yX3_earned cX3_earned 2 (some .int) : Cond) ∈ lw_tbl := List.mem_append_right _ (List.mem_append_right _ (List.mem_append_right _ (List.mem_of_getElem? (i := 180) rfl)))
theorem wq_18_1 : (Cond.methodLink RX3 128 yX3_earnedTo : Cond) ∈ lw_tbl := List.mem_append_right _ (List.mem_append_right _ (List.mem_append_right _ (List.mem_of_getElem? (i := 181) rfl)))
theorem wq_18_2 : (Cond.instanceMethod yX3_earnedTo : Cond) ∈ lw_tbl := List.mem_append_right _ (List.mem_append_right _ (List.mem_append_right _ (List.mem_of_getElem? (i := 183) rfl)))
theorem wq_18_3 : (Cond.selects RX3 yX3_earnedTo yX3_earnedTo : Cond) ∈ lw_tbl := List.mem_append_left _ (List.mem_of_getElem? (i := 19) rfl)
theorem wq_18_4 : (Cond.code yX3_earnedTo cX3_earnedTo 5 (some .int) : Cond) ∈ lw_tbl := List.mem_append_right _ (List.mem_append_right _ (List.mem_append_right _ (List.mem_of_getElem? (i := 184) rfl)))
theorem wq_18_5 : (Cond.methodLink RX3 122 yX3_unbound : Cond) ∈ lw_tbl := List.mem_append_right _ (List.mem_append_right _ (List.mem_append_right _ (List.mem_of_getElem? (i := 185) rfl)))
theorem wq_18_6 : (Cond.instanceMethod yX3_unbound : Cond) ∈ lw_tbl := List.mem_append_right _ (List.mem_append_right _ (List.mem_append_right _ (List.mem_of_getElem? (i := 187) rfl)))
theorem wq_18_7 : (Cond.selects RX3 yX3_unbound yX3_unbound : Cond) ∈ lw_tbl := List.mem_append_left _ (List.mem_of_getElem? (i := 20) rfl)
theorem wq_18_8 : (Cond.code yX3_unbound cX3_unbound 4 (some .int) : Cond) ∈ lw_tbl := List.mem_append_right _ (List.mem_append_right _ (List.mem_append_right _ (List.mem_of_getElem? (i := 188) rfl)))
theorem wq_18_9 : (Cond.methodLink RL 143 yL_missingMatch : Cond) ∈ lw_tbl := List.mem_append_right _ (List.mem_append_right _ (List.mem_append_left _ (List.mem_of_getElem? (i := 191) rfl)))
theorem wq_18_10 : (Cond.static yL_missingMatch : Cond) ∈ lw_tbl := List.mem_append_right _ (List.mem_append_right _ (List.mem_append_left _ (List.mem_of_getElem? (i := 192) rfl)))
theorem wq_18_11 : (Cond.codeWith yL_missingMatch cL_missingMatch 4 (some .int) [(0, 9, 12, 13)] : Cond) ∈ lw_tbl := List.mem_append_right _ (List.mem_append_right _ (List.mem_append_left _ (List.mem_of_getElem? (i := 193) rfl)))
theorem wq_18_12 : (Cond.methodLink RL 66 yX2_missingMatch : Cond) ∈ lw_tbl := List.mem_append_right _ (List.mem_append_right _ (List.mem_append_left _ (List.mem_of_getElem? (i := 194) rfl)))
theorem wq_18_13 : (Cond.instanceMethod yX2_missingMatch : Cond) ∈ lw_tbl := List.mem_append_right _ (List.mem_append_right _ (List.mem_append_left _ (List.mem_of_getElem? (i := 195) rfl)))
theorem wq_18_14 : (Cond.selects RX2 yX2_missingMatch yX2_missingMatch : Cond) ∈ lw_tbl := List.mem_append_right _ (List.mem_append_right _ (List.mem_append_left _ (List.mem_of_getElem? (i := 196) rfl)))
theorem wq_18_15 : (Cond.code yX2_missingMatch cX2_missingMatch 4 (some .int) : Cond) ∈ lw_tbl := List.mem_append_right _ (List.mem_append_right _ (List.mem_append_left _ (List.mem_of_getElem? (i := 197) rfl)))
theorem wq_18_16 : (Cond.methodLink RX2 169 Lib.MathLoose.max_long.x : Cond) ∈ lw_tbl := List.mem_append_right _ (List.mem_append_right _ (List.mem_append_left _ (List.mem_of_getElem? (i := 202) rfl)))
theorem wq_18_17 : (Cond.static Lib.MathLoose.max_long.x : Cond) ∈ lw_tbl := List.mem_append_right _ (List.mem_append_right _ (List.mem_append_left _ (List.mem_of_getElem? (i := 203) rfl)))
theorem wq_18_18 : (Cond.code Lib.MathLoose.max_long.x Lib.MathLoose.max_long.code 4 (some .long) : Cond) ∈ lw_tbl := List.mem_append_right _ (List.mem_append_right _ (List.mem_append_left _ (List.mem_of_getElem? (i := 204) rfl)))
theorem wq_18_19 : (Cond.methodLink RX2 165 yX2_leastMatchFor : Cond) ∈ lw_tbl := List.mem_append_right _ (List.mem_append_right _ (List.mem_append_left _ (List.mem_of_getElem? (i := 198) rfl)))
theorem wq_18_20 : (Cond.instanceMethod yX2_leastMatchFor : Cond) ∈ lw_tbl := List.mem_append_right _ (List.mem_append_right _ (List.mem_append_left _ (List.mem_of_getElem? (i := 200) rfl)))
theorem wq_18_21 : (Cond.selects RX2 yX2_leastMatchFor yX2_leastMatchFor : Cond) ∈ lw_tbl := List.mem_append_left _ (List.mem_of_getElem? (i := 8) rfl)
theorem wq_18_22 : (Cond.code yX2_leastMatchFor cX2_leastMatchFor 4 (some .long) : Cond) ∈ lw_tbl := List.mem_append_right _ (List.mem_append_right _ (List.mem_append_left _ (List.mem_of_getElem? (i := 201) rfl)))
theorem wq_18_23 : (Cond.methodLink RL 145 yX3_missingMatch : Cond) ∈ lw_tbl := List.mem_append_right _ (List.mem_append_right _ (List.mem_append_right _ (List.mem_of_getElem? (i := 189) rfl)))
theorem wq_18 : ∀ w ∈ wsL_law0_r18, w ∈ lw_tbl := List.forall_mem_cons.mpr ⟨wq_18_0, List.forall_mem_cons.mpr ⟨wq_18_1, List.forall_mem_cons.mpr ⟨wq_18_2, List.forall_mem_cons.mpr ⟨wq_18_3, List.forall_mem_cons.mpr ⟨wq_18_4, List.forall_mem_cons.mpr ⟨wq_18_5, List.forall_mem_cons.mpr ⟨wq_18_6, List.forall_mem_cons.mpr ⟨wq_18_7, List.forall_mem_cons.mpr ⟨wq_18_8, List.forall_mem_cons.mpr ⟨wq_18_9, List.forall_mem_cons.mpr ⟨wq_18_10, List.forall_mem_cons.mpr ⟨wq_18_11, List.forall_mem_cons.mpr ⟨wq_18_12, List.forall_mem_cons.mpr ⟨wq_18_13, List.forall_mem_cons.mpr ⟨wq_18_14, List.forall_mem_cons.mpr ⟨wq_18_15, List.forall_mem_cons.mpr ⟨wq_18_16, List.forall_mem_cons.mpr ⟨wq_18_17, List.forall_mem_cons.mpr ⟨wq_18_18, List.forall_mem_cons.mpr ⟨wq_18_19, List.forall_mem_cons.mpr ⟨wq_18_20, List.forall_mem_cons.mpr ⟨wq_18_21, List.forall_mem_cons.mpr ⟨wq_18_22, List.forall_mem_cons.mpr ⟨wq_18_23, fun _ h => absurd h List.not_mem_nil⟩⟩⟩⟩⟩⟩⟩⟩⟩⟩⟩⟩⟩⟩⟩⟩⟩⟩⟩⟩⟩⟩⟩⟩
theorem wq_19_0 : (Cond.instanceMethod yX3_missingMatch : Cond) ∈ lw_tbl := List.mem_append_right _ (List.mem_append_right _ (List.mem_append_right _ (List.mem_of_getElem? (i := 190) rfl)))
theorem wq_19_1 : (Cond.selects RX3 yX3_missingMatch yX3_missingMatch : Cond) ∈ lw_tbl := List.mem_append_right _ (List.mem_append_right _ (List.mem_append_right _ (List.mem_of_getElem? (i := 191) rfl)))
theorem wq_19_2 : (Cond.code yX3_missingMatch cX3_missingMatch 4 (some .int) : Cond) ∈ lw_tbl := List.mem_append_right _ (List.mem_append_right _ (List.mem_append_right _ (List.mem_of_getElem? (i := 192) rfl)))
theorem wq_19_3 : (Cond.methodLink RL 146 yL_claim : Cond) ∈ lw_tbl := List.mem_append_right _ (List.mem_append_right _ (List.mem_append_left _ (List.mem_of_getElem? (i := 205) rfl)))
theorem wq_19_4 : (Cond.static yL_claim : Cond) ∈ lw_tbl := List.mem_append_right _ (List.mem_append_right _ (List.mem_append_left _ (List.mem_of_getElem? (i := 206) rfl)))
theorem wq_19_5 : (Cond.codeWith yL_claim cL_claim 4 (some .int) [(0, 9, 12, 13), (0, 9, 15, 15)] : Cond) ∈ lw_tbl := List.mem_append_right _ (List.mem_append_right _ (List.mem_append_left _ (List.mem_of_getElem? (i := 207) rfl)))
theorem wq_19_6 : (Cond.methodLink RL 69 yX2_claim : Cond) ∈ lw_tbl := List.mem_append_right _ (List.mem_append_right _ (List.mem_append_left _ (List.mem_of_getElem? (i := 208) rfl)))
theorem wq_19_7 : (Cond.instanceMethod yX2_claim : Cond) ∈ lw_tbl := List.mem_append_right _ (List.mem_append_right _ (List.mem_append_left _ (List.mem_of_getElem? (i := 209) rfl)))
theorem wq_19_8 : (Cond.selects RX2 yX2_claim yX2_claim : Cond) ∈ lw_tbl := List.mem_append_right _ (List.mem_append_right _ (List.mem_append_left _ (List.mem_of_getElem? (i := 210) rfl)))
theorem wq_19_9 : (Cond.code yX2_claim cX2_claim 4 (some .int) : Cond) ∈ lw_tbl := List.mem_append_right _ (List.mem_append_right _ (List.mem_append_left _ (List.mem_of_getElem? (i := 211) rfl)))
theorem wq_19_10 : (Cond.methodLink RL 148 yX3_claim : Cond) ∈ lw_tbl := List.mem_append_right _ (List.mem_append_right _ (List.mem_append_right _ (List.mem_of_getElem? (i := 193) rfl)))
theorem wq_19_11 : (Cond.instanceMethod yX3_claim : Cond) ∈ lw_tbl := List.mem_append_right _ (List.mem_append_right _ (List.mem_append_right _ (List.mem_of_getElem? (i := 194) rfl)))
theorem wq_19_12 : (Cond.selects RX3 yX3_claim yX3_claim : Cond) ∈ lw_tbl := List.mem_append_right _ (List.mem_append_right _ (List.mem_append_right _ (List.mem_of_getElem? (i := 195) rfl)))
theorem wq_19_13 : (Cond.code yX3_claim cX3_claim 3 (some .int) : Cond) ∈ lw_tbl := List.mem_append_right _ (List.mem_append_right _ (List.mem_append_right _ (List.mem_of_getElem? (i := 196) rfl)))
theorem wq_19_14 : (Cond.fieldLink RX3 131 "GrantBookModel" "claimDay" "I" : Cond) ∈ lw_tbl := List.mem_append_right _ (List.mem_append_right _ (List.mem_append_right _ (List.mem_of_getElem? (i := 8) rfl)))
theorem wq_19_15 : (Cond.methodLink RX3 134 yX3_paidSum : Cond) ∈ lw_tbl := List.mem_append_right _ (List.mem_append_right _ (List.mem_append_right _ (List.mem_of_getElem? (i := 197) rfl)))
theorem wq_19_16 : (Cond.instanceMethod yX3_paidSum : Cond) ∈ lw_tbl := List.mem_append_right _ (List.mem_append_right _ (List.mem_append_right _ (List.mem_of_getElem? (i := 199) rfl)))
theorem wq_19_17 : (Cond.selects RX3 yX3_paidSum yX3_paidSum : Cond) ∈ lw_tbl := List.mem_append_left _ (List.mem_of_getElem? (i := 21) rfl)
theorem wq_19_18 : (Cond.code yX3_paidSum cX3_paidSum 3 (some .int) : Cond) ∈ lw_tbl := List.mem_append_right _ (List.mem_append_right _ (List.mem_append_right _ (List.mem_of_getElem? (i := 200) rfl)))
theorem wq_19_19 : (Cond.methodLink RL 149 yX2_claims : Cond) ∈ lw_tbl := List.mem_append_right _ (List.mem_append_left _ (List.mem_of_getElem? (i := 75) rfl))
theorem wq_19_20 : (Cond.instanceMethod yX2_claims : Cond) ∈ lw_tbl := List.mem_append_right _ (List.mem_append_left _ (List.mem_of_getElem? (i := 76) rfl))
theorem wq_19_21 : (Cond.selects RX2 yX2_claims yX2_claims : Cond) ∈ lw_tbl := List.mem_append_right _ (List.mem_append_left _ (List.mem_of_getElem? (i := 77) rfl))
theorem wq_19_22 : (Cond.code yX2_claims cX2_claims 1 (some .int) : Cond) ∈ lw_tbl := List.mem_append_right _ (List.mem_append_left _ (List.mem_of_getElem? (i := 78) rfl))
theorem wq_19_23 : (Cond.methodLink RL 152 yX3_claims : Cond) ∈ lw_tbl := List.mem_append_right _ (List.mem_append_right _ (List.mem_append_right _ (List.mem_of_getElem? (i := 201) rfl)))
theorem wq_19 : ∀ w ∈ wsL_law0_r19, w ∈ lw_tbl := List.forall_mem_cons.mpr ⟨wq_19_0, List.forall_mem_cons.mpr ⟨wq_19_1, List.forall_mem_cons.mpr ⟨wq_19_2, List.forall_mem_cons.mpr ⟨wq_19_3, List.forall_mem_cons.mpr ⟨wq_19_4, List.forall_mem_cons.mpr ⟨wq_19_5, List.forall_mem_cons.mpr ⟨wq_19_6, List.forall_mem_cons.mpr ⟨wq_19_7, List.forall_mem_cons.mpr ⟨wq_19_8, List.forall_mem_cons.mpr ⟨wq_19_9, List.forall_mem_cons.mpr ⟨wq_19_10, List.forall_mem_cons.mpr ⟨wq_19_11, List.forall_mem_cons.mpr ⟨wq_19_12, List.forall_mem_cons.mpr ⟨wq_19_13, List.forall_mem_cons.mpr ⟨wq_19_14, List.forall_mem_cons.mpr ⟨wq_19_15, List.forall_mem_cons.mpr ⟨wq_19_16, List.forall_mem_cons.mpr ⟨wq_19_17, List.forall_mem_cons.mpr ⟨wq_19_18, List.forall_mem_cons.mpr ⟨wq_19_19, List.forall_mem_cons.mpr ⟨wq_19_20, List.forall_mem_cons.mpr ⟨wq_19_21, List.forall_mem_cons.mpr ⟨wq_19_22, List.forall_mem_cons.mpr ⟨wq_19_23, fun _ h => absurd h List.not_mem_nil⟩⟩⟩⟩⟩⟩⟩⟩⟩⟩⟩⟩⟩⟩⟩⟩⟩⟩⟩⟩⟩⟩⟩⟩
theorem wq_20_0 : (Cond.instanceMethod yX3_claims : Cond) ∈ lw_tbl := List.mem_append_right _ (List.mem_append_right _ (List.mem_append_right _ (List.mem_of_getElem? (i := 202) rfl)))
theorem wq_20_1 : (Cond.selects RX3 yX3_claims yX3_claims : Cond) ∈ lw_tbl := List.mem_append_right _ (List.mem_append_right _ (List.mem_append_right _ (List.mem_of_getElem? (i := 203) rfl)))
theorem wq_20_2 : (Cond.code yX3_claims cX3_claims 1 (some .int) : Cond) ∈ lw_tbl := List.mem_append_right _ (List.mem_append_right _ (List.mem_append_right _ (List.mem_of_getElem? (i := 204) rfl)))
theorem wq_20_3 : (Cond.methodLink RL 153 yL_paid : Cond) ∈ lw_tbl := List.mem_append_right _ (List.mem_append_right _ (List.mem_append_left _ (List.mem_of_getElem? (i := 213) rfl)))
theorem wq_20_4 : (Cond.static yL_paid : Cond) ∈ lw_tbl := List.mem_append_right _ (List.mem_append_right _ (List.mem_append_left _ (List.mem_of_getElem? (i := 214) rfl)))
theorem wq_20_5 : (Cond.codeWith yL_paid cL_paid 4 (some .int) [(0, 9, 12, 25)] : Cond) ∈ lw_tbl := List.mem_append_right _ (List.mem_append_right _ (List.mem_append_left _ (List.mem_of_getElem? (i := 215) rfl)))
theorem wq_20_6 : (Cond.methodLink RL 72 yX2_paid : Cond) ∈ lw_tbl := List.mem_append_right _ (List.mem_append_right _ (List.mem_append_left _ (List.mem_of_getElem? (i := 216) rfl)))
theorem wq_20_7 : (Cond.instanceMethod yX2_paid : Cond) ∈ lw_tbl := List.mem_append_right _ (List.mem_append_right _ (List.mem_append_left _ (List.mem_of_getElem? (i := 217) rfl)))
theorem wq_20_8 : (Cond.selects RX2 yX2_paid yX2_paid : Cond) ∈ lw_tbl := List.mem_append_right _ (List.mem_append_right _ (List.mem_append_left _ (List.mem_of_getElem? (i := 218) rfl)))
theorem wq_20_9 : (Cond.code yX2_paid cX2_paid 2 (some .int) : Cond) ∈ lw_tbl := List.mem_append_right _ (List.mem_append_right _ (List.mem_append_left _ (List.mem_of_getElem? (i := 219) rfl)))
theorem wq_20_10 : (Cond.methodLink RL 155 yX3_paid : Cond) ∈ lw_tbl := List.mem_append_right _ (List.mem_append_right _ (List.mem_append_right _ (List.mem_of_getElem? (i := 205) rfl)))
theorem wq_20_11 : (Cond.instanceMethod yX3_paid : Cond) ∈ lw_tbl := List.mem_append_right _ (List.mem_append_right _ (List.mem_append_right _ (List.mem_of_getElem? (i := 206) rfl)))
theorem wq_20_12 : (Cond.selects RX3 yX3_paid yX3_paid : Cond) ∈ lw_tbl := List.mem_append_right _ (List.mem_append_right _ (List.mem_append_right _ (List.mem_of_getElem? (i := 207) rfl)))
theorem wq_20_13 : (Cond.code yX3_paid cX3_paid 2 (some .int) : Cond) ∈ lw_tbl := List.mem_append_right _ (List.mem_append_right _ (List.mem_append_right _ (List.mem_of_getElem? (i := 208) rfl)))
theorem wq_20_14 : (Cond.methodLink RL 156 yX2_unsettled : Cond) ∈ lw_tbl := List.mem_append_right _ (List.mem_append_left _ (List.mem_of_getElem? (i := 79) rfl))
theorem wq_20_15 : (Cond.instanceMethod yX2_unsettled : Cond) ∈ lw_tbl := List.mem_append_right _ (List.mem_append_left _ (List.mem_of_getElem? (i := 80) rfl))
theorem wq_20_16 : (Cond.selects RX2 yX2_unsettled yX2_unsettled : Cond) ∈ lw_tbl := List.mem_append_right _ (List.mem_append_left _ (List.mem_of_getElem? (i := 81) rfl))
theorem wq_20_17 : (Cond.code yX2_unsettled cX2_unsettled 1 (some .int) : Cond) ∈ lw_tbl := List.mem_append_right _ (List.mem_append_left _ (List.mem_of_getElem? (i := 82) rfl))
theorem wq_20_18 : (Cond.methodLink RL 159 yX3_unsettled : Cond) ∈ lw_tbl := List.mem_append_right _ (List.mem_append_right _ (List.mem_append_right _ (List.mem_of_getElem? (i := 209) rfl)))
theorem wq_20_19 : (Cond.instanceMethod yX3_unsettled : Cond) ∈ lw_tbl := List.mem_append_right _ (List.mem_append_right _ (List.mem_append_right _ (List.mem_of_getElem? (i := 210) rfl)))
theorem wq_20_20 : (Cond.selects RX3 yX3_unsettled yX3_unsettled : Cond) ∈ lw_tbl := List.mem_append_right _ (List.mem_append_right _ (List.mem_append_right _ (List.mem_of_getElem? (i := 211) rfl)))
theorem wq_20_21 : (Cond.code yX3_unsettled cX3_unsettled 1 (some .int) : Cond) ∈ lw_tbl := List.mem_append_right _ (List.mem_append_right _ (List.mem_append_right _ (List.mem_of_getElem? (i := 212) rfl)))
theorem wq_20 : ∀ w ∈ wsL_law0_r20, w ∈ lw_tbl := List.forall_mem_cons.mpr ⟨wq_20_0, List.forall_mem_cons.mpr ⟨wq_20_1, List.forall_mem_cons.mpr ⟨wq_20_2, List.forall_mem_cons.mpr ⟨wq_20_3, List.forall_mem_cons.mpr ⟨wq_20_4, List.forall_mem_cons.mpr ⟨wq_20_5, List.forall_mem_cons.mpr ⟨wq_20_6, List.forall_mem_cons.mpr ⟨wq_20_7, List.forall_mem_cons.mpr ⟨wq_20_8, List.forall_mem_cons.mpr ⟨wq_20_9, List.forall_mem_cons.mpr ⟨wq_20_10, List.forall_mem_cons.mpr ⟨wq_20_11, List.forall_mem_cons.mpr ⟨wq_20_12, List.forall_mem_cons.mpr ⟨wq_20_13, List.forall_mem_cons.mpr ⟨wq_20_14, List.forall_mem_cons.mpr ⟨wq_20_15, List.forall_mem_cons.mpr ⟨wq_20_16, List.forall_mem_cons.mpr ⟨wq_20_17, List.forall_mem_cons.mpr ⟨wq_20_18, List.forall_mem_cons.mpr ⟨wq_20_19, List.forall_mem_cons.mpr ⟨wq_20_20, List.forall_mem_cons.mpr ⟨wq_20_21, fun _ h => absurd h List.not_mem_nil⟩⟩⟩⟩⟩⟩⟩⟩⟩⟩⟩⟩⟩⟩⟩⟩⟩⟩⟩⟩⟩⟩
theorem wu_0_0 : u_lay RX0 TX0 0 ∈ lw_tbl := List.mem_append_right _ (List.mem_append_left _ (List.mem_of_getElem? (i := 237) rfl))
theorem wu_0_1 : u_lay RX0 TX0 1 ∈ lw_tbl := List.mem_append_right _ (List.mem_append_left _ (List.mem_of_getElem? (i := 239) rfl))
theorem wu_0_2 : u_lay RX0 TX0 2 ∈ lw_tbl := List.mem_append_right _ (List.mem_append_right _ (List.mem_append_left _ (List.mem_of_getElem? (i := 1) rfl)))
theorem wu_0_3 : u_lay RX0 TX0 3 ∈ lw_tbl := List.mem_append_right _ (List.mem_append_right _ (List.mem_append_left _ (List.mem_of_getElem? (i := 3) rfl)))
theorem wu_0_4 : u_lay RX0 TX0 4 ∈ lw_tbl := List.mem_append_right _ (List.mem_append_right _ (List.mem_append_left _ (List.mem_of_getElem? (i := 5) rfl)))
theorem wu_0_5 : u_lay RX0 TX0 5 ∈ lw_tbl := List.mem_append_right _ (List.mem_append_right _ (List.mem_append_left _ (List.mem_of_getElem? (i := 7) rfl)))
theorem wu_0_6 : u_lay RX0 TX0 6 ∈ lw_tbl := List.mem_append_right _ (List.mem_append_right _ (List.mem_append_left _ (List.mem_of_getElem? (i := 9) rfl)))
theorem wu_0 : ∀ k, k < 7 → u_lay RX0 TX0 k ∈ lw_tbl := lt_s (lt_s (lt_s (lt_s (lt_s (lt_s (lt_s (lt_0) wu_0_0) wu_0_1) wu_0_2) wu_0_3) wu_0_4) wu_0_5) wu_0_6
theorem wv_0 : ∀ w ∈ wsX00, w ∈ lw_tbl := fun w h => by
  obtain ⟨k, hk, rfl⟩ := List.mem_map.mp h
  exact wu_0 k (List.mem_range.mp hk)
theorem wu_1_0 : u_lay RX1 TX1 0 ∈ lw_tbl := List.mem_append_right _ (List.mem_append_right _ (List.mem_append_left _ (List.mem_of_getElem? (i := 106) rfl)))
theorem wu_1_1 : u_lay RX1 TX1 1 ∈ lw_tbl := List.mem_append_right _ (List.mem_append_right _ (List.mem_append_left _ (List.mem_of_getElem? (i := 108) rfl)))
theorem wu_1_2 : u_lay RX1 TX1 2 ∈ lw_tbl := List.mem_append_right _ (List.mem_append_right _ (List.mem_append_left _ (List.mem_of_getElem? (i := 110) rfl)))
theorem wu_1_3 : u_lay RX1 TX1 3 ∈ lw_tbl := List.mem_append_right _ (List.mem_append_right _ (List.mem_append_left _ (List.mem_of_getElem? (i := 112) rfl)))
theorem wu_1_4 : u_lay RX1 TX1 4 ∈ lw_tbl := List.mem_append_right _ (List.mem_append_right _ (List.mem_append_left _ (List.mem_of_getElem? (i := 114) rfl)))
theorem wu_1_5 : u_lay RX1 TX1 5 ∈ lw_tbl := List.mem_append_right _ (List.mem_append_right _ (List.mem_append_left _ (List.mem_of_getElem? (i := 116) rfl)))
theorem wu_1 : ∀ k, k < 6 → u_lay RX1 TX1 k ∈ lw_tbl := lt_s (lt_s (lt_s (lt_s (lt_s (lt_s (lt_0) wu_1_0) wu_1_1) wu_1_2) wu_1_3) wu_1_4) wu_1_5
theorem wv_1 : ∀ w ∈ wsX10, w ∈ lw_tbl := fun w h => by
  obtain ⟨k, hk, rfl⟩ := List.mem_map.mp h
  exact wu_1 k (List.mem_range.mp hk)
theorem wu_2_0 : u_lay RX2 TX2 0 ∈ lw_tbl := List.mem_append_right _ (List.mem_append_left _ (List.mem_of_getElem? (i := 39) rfl))
theorem wu_2_1 : u_lay RX2 TX2 1 ∈ lw_tbl := List.mem_append_right _ (List.mem_append_left _ (List.mem_of_getElem? (i := 41) rfl))
theorem wu_2_2 : u_lay RX2 TX2 2 ∈ lw_tbl := List.mem_append_right _ (List.mem_append_left _ (List.mem_of_getElem? (i := 43) rfl))
theorem wu_2_3 : u_lay RX2 TX2 3 ∈ lw_tbl := List.mem_append_right _ (List.mem_append_left _ (List.mem_of_getElem? (i := 45) rfl))
theorem wu_2_4 : u_lay RX2 TX2 4 ∈ lw_tbl := List.mem_append_right _ (List.mem_append_left _ (List.mem_of_getElem? (i := 47) rfl))
theorem wu_2_5 : u_lay RX2 TX2 5 ∈ lw_tbl := List.mem_append_right _ (List.mem_append_left _ (List.mem_of_getElem? (i := 49) rfl))
theorem wu_2_6 : u_lay RX2 TX2 6 ∈ lw_tbl := List.mem_append_right _ (List.mem_append_left _ (List.mem_of_getElem? (i := 51) rfl))
theorem wu_2_7 : u_lay RX2 TX2 7 ∈ lw_tbl := List.mem_append_right _ (List.mem_append_left _ (List.mem_of_getElem? (i := 53) rfl))
theorem wu_2_8 : u_lay RX2 TX2 8 ∈ lw_tbl := List.mem_append_right _ (List.mem_append_left _ (List.mem_of_getElem? (i := 55) rfl))
theorem wu_2_9 : u_lay RX2 TX2 9 ∈ lw_tbl := List.mem_append_right _ (List.mem_append_left _ (List.mem_of_getElem? (i := 57) rfl))
theorem wu_2_10 : u_lay RX2 TX2 10 ∈ lw_tbl := List.mem_append_right _ (List.mem_append_left _ (List.mem_of_getElem? (i := 59) rfl))
theorem wu_2_11 : u_lay RX2 TX2 11 ∈ lw_tbl := List.mem_append_right _ (List.mem_append_left _ (List.mem_of_getElem? (i := 61) rfl))
theorem wu_2_12 : u_lay RX2 TX2 12 ∈ lw_tbl := List.mem_append_right _ (List.mem_append_left _ (List.mem_of_getElem? (i := 63) rfl))
theorem wu_2 : ∀ k, k < 13 → u_lay RX2 TX2 k ∈ lw_tbl := lt_s (lt_s (lt_s (lt_s (lt_s (lt_s (lt_s (lt_s (lt_s (lt_s (lt_s (lt_s (lt_s (lt_0) wu_2_0) wu_2_1) wu_2_2) wu_2_3) wu_2_4) wu_2_5) wu_2_6) wu_2_7) wu_2_8) wu_2_9) wu_2_10) wu_2_11) wu_2_12
theorem wv_2 : ∀ w ∈ wsX20, w ∈ lw_tbl := fun w h => by
  obtain ⟨k, hk, rfl⟩ := List.mem_map.mp h
  exact wu_2 k (List.mem_range.mp hk)
theorem wu_3_0 : u_lay RX3 TX3 0 ∈ lw_tbl := List.mem_append_right _ (List.mem_append_right _ (List.mem_append_right _ (List.mem_of_getElem? (i := 13) rfl)))
theorem wu_3_1 : u_lay RX3 TX3 1 ∈ lw_tbl := List.mem_append_right _ (List.mem_append_right _ (List.mem_append_right _ (List.mem_of_getElem? (i := 15) rfl)))
theorem wu_3_2 : u_lay RX3 TX3 2 ∈ lw_tbl := List.mem_append_right _ (List.mem_append_right _ (List.mem_append_right _ (List.mem_of_getElem? (i := 17) rfl)))
theorem wu_3_3 : u_lay RX3 TX3 3 ∈ lw_tbl := List.mem_append_right _ (List.mem_append_right _ (List.mem_append_right _ (List.mem_of_getElem? (i := 19) rfl)))
theorem wu_3_4 : u_lay RX3 TX3 4 ∈ lw_tbl := List.mem_append_right _ (List.mem_append_right _ (List.mem_append_right _ (List.mem_of_getElem? (i := 21) rfl)))
theorem wu_3_5 : u_lay RX3 TX3 5 ∈ lw_tbl := List.mem_append_right _ (List.mem_append_right _ (List.mem_append_right _ (List.mem_of_getElem? (i := 23) rfl)))
theorem wu_3_6 : u_lay RX3 TX3 6 ∈ lw_tbl := List.mem_append_right _ (List.mem_append_right _ (List.mem_append_right _ (List.mem_of_getElem? (i := 25) rfl)))
theorem wu_3_7 : u_lay RX3 TX3 7 ∈ lw_tbl := List.mem_append_right _ (List.mem_append_right _ (List.mem_append_right _ (List.mem_of_getElem? (i := 27) rfl)))
theorem wu_3_8 : u_lay RX3 TX3 8 ∈ lw_tbl := List.mem_append_right _ (List.mem_append_right _ (List.mem_append_right _ (List.mem_of_getElem? (i := 29) rfl)))
theorem wu_3_9 : u_lay RX3 TX3 9 ∈ lw_tbl := List.mem_append_right _ (List.mem_append_right _ (List.mem_append_right _ (List.mem_of_getElem? (i := 31) rfl)))
theorem wu_3_10 : u_lay RX3 TX3 10 ∈ lw_tbl := List.mem_append_right _ (List.mem_append_right _ (List.mem_append_right _ (List.mem_of_getElem? (i := 33) rfl)))
theorem wu_3_11 : u_lay RX3 TX3 11 ∈ lw_tbl := List.mem_append_right _ (List.mem_append_right _ (List.mem_append_right _ (List.mem_of_getElem? (i := 35) rfl)))
theorem wu_3_12 : u_lay RX3 TX3 12 ∈ lw_tbl := List.mem_append_right _ (List.mem_append_right _ (List.mem_append_right _ (List.mem_of_getElem? (i := 37) rfl)))
theorem wu_3_13 : u_lay RX3 TX3 13 ∈ lw_tbl := List.mem_append_right _ (List.mem_append_right _ (List.mem_append_right _ (List.mem_of_getElem? (i := 39) rfl)))
theorem wu_3_14 : u_lay RX3 TX3 14 ∈ lw_tbl := List.mem_append_right _ (List.mem_append_right _ (List.mem_append_right _ (List.mem_of_getElem? (i := 41) rfl)))
theorem wu_3_15 : u_lay RX3 TX3 15 ∈ lw_tbl := List.mem_append_right _ (List.mem_append_right _ (List.mem_append_right _ (List.mem_of_getElem? (i := 43) rfl)))
theorem wu_3_16 : u_lay RX3 TX3 16 ∈ lw_tbl := List.mem_append_right _ (List.mem_append_right _ (List.mem_append_right _ (List.mem_of_getElem? (i := 45) rfl)))
theorem wu_3_17 : u_lay RX3 TX3 17 ∈ lw_tbl := List.mem_append_right _ (List.mem_append_right _ (List.mem_append_right _ (List.mem_of_getElem? (i := 47) rfl)))
theorem wu_3_18 : u_lay RX3 TX3 18 ∈ lw_tbl := List.mem_append_right _ (List.mem_append_right _ (List.mem_append_right _ (List.mem_of_getElem? (i := 49) rfl)))
theorem wu_3_19 : u_lay RX3 TX3 19 ∈ lw_tbl := List.mem_append_right _ (List.mem_append_right _ (List.mem_append_right _ (List.mem_of_getElem? (i := 51) rfl)))
theorem wu_3_20 : u_lay RX3 TX3 20 ∈ lw_tbl := List.mem_append_right _ (List.mem_append_right _ (List.mem_append_right _ (List.mem_of_getElem? (i := 53) rfl)))
theorem wu_3_21 : u_lay RX3 TX3 21 ∈ lw_tbl := List.mem_append_right _ (List.mem_append_right _ (List.mem_append_right _ (List.mem_of_getElem? (i := 55) rfl)))
theorem wu_3_22 : u_lay RX3 TX3 22 ∈ lw_tbl := List.mem_append_right _ (List.mem_append_right _ (List.mem_append_right _ (List.mem_of_getElem? (i := 57) rfl)))
theorem wu_3_23 : u_lay RX3 TX3 23 ∈ lw_tbl := List.mem_append_right _ (List.mem_append_right _ (List.mem_append_right _ (List.mem_of_getElem? (i := 59) rfl)))
theorem wu_3 : ∀ k, k < 24 → u_lay RX3 TX3 k ∈ lw_tbl := lt_s (lt_s (lt_s (lt_s (lt_s (lt_s (lt_s (lt_s (lt_s (lt_s (lt_s (lt_s (lt_s (lt_s (lt_s (lt_s (lt_s (lt_s (lt_s (lt_s (lt_s (lt_s (lt_s (lt_s (lt_0) wu_3_0) wu_3_1) wu_3_2) wu_3_3) wu_3_4) wu_3_5) wu_3_6) wu_3_7) wu_3_8) wu_3_9) wu_3_10) wu_3_11) wu_3_12) wu_3_13) wu_3_14) wu_3_15) wu_3_16) wu_3_17) wu_3_18) wu_3_19) wu_3_20) wu_3_21) wu_3_22) wu_3_23
theorem wv_3 : ∀ w ∈ wsX30, w ∈ lw_tbl := fun w h => by
  obtain ⟨k, hk, rfl⟩ := List.mem_map.mp h
  exact wu_3 k (List.mem_range.mp hk)
theorem wsL_law_in0 : ∀ w ∈ wsL_law0, w ∈ lw_tbl := fun w h => (List.mem_append.mp h).elim (fun h => (List.mem_append.mp h).elim (fun h => (List.mem_append.mp h).elim (fun h => (List.mem_append.mp h).elim (fun h => (List.mem_append.mp h).elim (fun h => (List.mem_append.mp h).elim (fun h => wq_1 w h) (fun h => (List.mem_append.mp h).elim (fun h => wq_2 w h) (fun h => (List.mem_append.mp h).elim (fun h => wq_3 w h) (fun h => (List.mem_append.mp h).elim (fun h => wq_4 w h) (fun h => (List.mem_append.mp h).elim (fun h => wq_5 w h) (fun h => (List.mem_append.mp h).elim (fun h => wq_6 w h) (fun h => (List.mem_append.mp h).elim (fun h => wq_7 w h) (fun h => (List.mem_append.mp h).elim (fun h => wq_8 w h) (fun h => (List.mem_append.mp h).elim (fun h => wq_9 w h) (fun h => (List.mem_append.mp h).elim (fun h => wq_10 w h) (fun h => (List.mem_append.mp h).elim (fun h => wq_11 w h) (fun h => (List.mem_append.mp h).elim (fun h => wq_12 w h) (fun h => (List.mem_append.mp h).elim (fun h => wq_13 w h) (fun h => (List.mem_append.mp h).elim (fun h => wq_14 w h) (fun h => (List.mem_append.mp h).elim (fun h => wq_15 w h) (fun h => (List.mem_append.mp h).elim (fun h => wq_16 w h) (fun h => (List.mem_append.mp h).elim (fun h => wq_17 w h) (fun h => (List.mem_append.mp h).elim (fun h => wq_18 w h) (fun h => (List.mem_append.mp h).elim (fun h => wq_19 w h) (fun h => wq_20 w h)))))))))))))))))))) (fun h => wv_2 w h)) (fun h => wv_3 w h)) (fun h => wv_0 w h)) (fun h => wv_1 w h)) (fun h => absurd h List.not_mem_nil)
theorem wsL_law_x0 : ∀ w ∈ (vx_atS RX2 67 "java/lang/IllegalStateException" ["java/lang/RuntimeException", "java/lang/Exception"]).filter goodWord, w ∈ lw_tbl := by decide +kernel
theorem wsL_law_x1 : ∀ w ∈ (vx_atS RX2 94 "java/lang/IllegalArgumentException" ["java/lang/RuntimeException", "java/lang/Exception"]).filter goodWord, w ∈ lw_tbl := by decide +kernel
theorem wsL_law_x2 : ∀ w ∈ (vx_atS RX2 181 "java/lang/IndexOutOfBoundsException" ["java/lang/RuntimeException", "java/lang/Exception"]).filter goodWord, w ∈ lw_tbl := by decide +kernel
theorem wsL_law_in : ∀ w ∈ wsL_law, w ∈ lw_tbl := fun w h => (List.mem_append.mp h).elim (fun h => (List.mem_append.mp h).elim (fun h => (List.mem_append.mp h).elim (fun h => wsL_law_in0 w h) (fun h => wsL_law_x0 w h)) (fun h => wsL_law_x1 w h)) (fun h => wsL_law_x2 w h)
theorem inlX0 : ∀ w ∈ wsX00, w ∈ wsL_law := fun _ h => List.mem_append_left _ (List.mem_append_left _ (List.mem_append_left _ (List.mem_append_left _ (List.mem_append_left _ (List.mem_append_right _ h)))))
theorem inX0 : ∀ w ∈ wsX00, w ∈ lw_tbl := fun w h => wsL_law_in w (inlX0 w h)
theorem inlX1 : ∀ w ∈ wsX10, w ∈ wsL_law := fun _ h => List.mem_append_left _ (List.mem_append_left _ (List.mem_append_left _ (List.mem_append_left _ (List.mem_append_right _ h))))
theorem inX1 : ∀ w ∈ wsX10, w ∈ lw_tbl := fun w h => wsL_law_in w (inlX1 w h)
theorem inlX2 : ∀ w ∈ wsX20, w ∈ wsL_law := fun _ h => List.mem_append_left _ (List.mem_append_left _ (List.mem_append_left _ (List.mem_append_left _ (List.mem_append_left _ (List.mem_append_left _ (List.mem_append_left _ (List.mem_append_right _ h)))))))
theorem inX2 : ∀ w ∈ wsX20, w ∈ lw_tbl := fun w h => wsL_law_in w (inlX2 w h)
theorem inlX3 : ∀ w ∈ wsX30, w ∈ wsL_law := fun _ h => List.mem_append_left _ (List.mem_append_left _ (List.mem_append_left _ (List.mem_append_left _ (List.mem_append_left _ (List.mem_append_left _ (List.mem_append_right _ h))))))
theorem inX3 : ∀ w ∈ wsX30, w ∈ lw_tbl := fun w h => wsL_law_in w (inlX3 w h)
theorem inJ9 : ∀ w ∈ wsJ90, w ∈ lw_tbl := by decide +kernel
theorem inJ0 : ∀ w ∈ wsJ00, w ∈ lw_tbl := by decide +kernel
end
section
theorem dX0_init_0 : decode cX0_init 0 = .ok (.aload_n 0, 1) := by decide +kernel
theorem dX0_init_1 : decode cX0_init 1 = .ok (.invokespecial 1, 3) := by decide +kernel
theorem dX0_init_4 : decode cX0_init 4 = .ok (.aload_n 0, 1) := by decide +kernel
theorem dX0_init_5 : decode cX0_init 5 = .ok (.iconst 0, 1) := by decide +kernel
theorem dX0_init_6 : decode cX0_init 6 = .ok (.putfield 7, 3) := by decide +kernel
theorem dX0_init_9 : decode cX0_init 9 = .ok (.aload_n 0, 1) := by decide +kernel
theorem dX0_init_10 : decode cX0_init 10 = .ok (.iconst 0, 1) := by decide +kernel
theorem dX0_init_11 : decode cX0_init 11 = .ok (.putfield 13, 3) := by decide +kernel
theorem dX0_init_14 : decode cX0_init 14 = .ok (.aload_n 0, 1) := by decide +kernel
theorem dX0_init_15 : decode cX0_init 15 = .ok (.aconst_null, 1) := by decide +kernel
theorem dX0_init_16 : decode cX0_init 16 = .ok (.putfield 16, 3) := by decide +kernel
theorem dX0_init_19 : decode cX0_init 19 = .ok (.aload_n 0, 1) := by decide +kernel
theorem dX0_init_20 : decode cX0_init 20 = .ok (.iload_n 1, 1) := by decide +kernel
theorem dX0_init_21 : decode cX0_init 21 = .ok (.putfield 20, 3) := by decide +kernel
theorem dX0_init_24 : decode cX0_init 24 = .ok (.aload_n 0, 1) := by decide +kernel
theorem dX0_init_25 : decode cX0_init 25 = .ok (.iload_n 2, 1) := by decide +kernel
theorem dX0_init_26 : decode cX0_init 26 = .ok (.putfield 23, 3) := by decide +kernel
theorem dX0_init_29 : decode cX0_init 29 = .ok (.aload_n 0, 1) := by decide +kernel
theorem dX0_init_30 : decode cX0_init 30 = .ok (.iload_n 3, 1) := by decide +kernel
theorem dX0_init_31 : decode cX0_init 31 = .ok (.putfield 26, 3) := by decide +kernel
theorem dX0_init_34 : decode cX0_init 34 = .ok (.aload_n 0, 1) := by decide +kernel
theorem dX0_init_35 : decode cX0_init 35 = .ok (.iload 4, 2) := by decide +kernel
theorem dX0_init_37 : decode cX0_init 37 = .ok (.putfield 29, 3) := by decide +kernel
theorem dX0_init_40 : decode cX0_init 40 = .ok (.return_, 1) := by decide +kernel
theorem dX0_money_0 : decode cX0_money 0 = .ok (.aload_n 0, 1) := by decide +kernel
theorem dX0_money_1 : decode cX0_money 1 = .ok (.getfield 20, 3) := by decide +kernel
theorem dX0_money_4 : decode cX0_money 4 = .ok (.aload_n 0, 1) := by decide +kernel
theorem dX0_money_5 : decode cX0_money 5 = .ok (.getfield 7, 3) := by decide +kernel
theorem dX0_money_8 : decode cX0_money 8 = .ok (.iadd, 1) := by decide +kernel
theorem dX0_money_9 : decode cX0_money 9 = .ok (.aload_n 0, 1) := by decide +kernel
theorem dX0_money_10 : decode cX0_money 10 = .ok (.getfield 13, 3) := by decide +kernel
theorem dX0_money_13 : decode cX0_money 13 = .ok (.isub, 1) := by decide +kernel
theorem dX0_money_14 : decode cX0_money 14 = .ok (.ireturn, 1) := by decide +kernel
theorem dX0_accepts_0 : decode cX0_accepts 0 = .ok (.aload_n 1, 1) := by decide +kernel
theorem dX0_accepts_1 : decode cX0_accepts 1 = .ok (.getfield 33, 3) := by decide +kernel
theorem dX0_accepts_4 : decode cX0_accepts 4 = .ok (.ifCond .ne 29, 3) := by decide +kernel
theorem dX0_accepts_7 : decode cX0_accepts 7 = .ok (.aload_n 1, 1) := by decide +kernel
theorem dX0_accepts_8 : decode cX0_accepts 8 = .ok (.getfield 38, 3) := by decide +kernel
theorem dX0_accepts_11 : decode cX0_accepts 11 = .ok (.aload_n 0, 1) := by decide +kernel
theorem dX0_accepts_12 : decode cX0_accepts 12 = .ok (.getfield 23, 3) := by decide +kernel
theorem dX0_accepts_15 : decode cX0_accepts 15 = .ok (.if_icmp .lt 18, 3) := by decide +kernel
theorem dX0_accepts_18 : decode cX0_accepts 18 = .ok (.aload_n 1, 1) := by decide +kernel
theorem dX0_accepts_19 : decode cX0_accepts 19 = .ok (.getfield 38, 3) := by decide +kernel
theorem dX0_accepts_22 : decode cX0_accepts 22 = .ok (.aload_n 0, 1) := by decide +kernel
theorem dX0_accepts_23 : decode cX0_accepts 23 = .ok (.getfield 26, 3) := by decide +kernel
theorem dX0_accepts_26 : decode cX0_accepts 26 = .ok (.if_icmp .gt 7, 3) := by decide +kernel
theorem dX0_accepts_29 : decode cX0_accepts 29 = .ok (.iconst 1, 1) := by decide +kernel
theorem dX0_accepts_30 : decode cX0_accepts 30 = .ok (.goto 4, 3) := by decide +kernel
theorem dX0_accepts_33 : decode cX0_accepts 33 = .ok (.iconst 0, 1) := by decide +kernel
theorem dX0_accepts_34 : decode cX0_accepts 34 = .ok (.ireturn, 1) := by decide +kernel
theorem dX0_putInOrder_0 : decode cX0_putInOrder 0 = .ok (.aconst_null, 1) := by decide +kernel
theorem dX0_putInOrder_1 : decode cX0_putInOrder 1 = .ok (.astore_n 2, 1) := by decide +kernel
theorem dX0_putInOrder_2 : decode cX0_putInOrder 2 = .ok (.aload_n 0, 1) := by decide +kernel
theorem dX0_putInOrder_3 : decode cX0_putInOrder 3 = .ok (.getfield 16, 3) := by decide +kernel
theorem dX0_putInOrder_6 : decode cX0_putInOrder 6 = .ok (.astore_n 3, 1) := by decide +kernel
theorem dX0_putInOrder_7 : decode cX0_putInOrder 7 = .ok (.aload_n 3, 1) := by decide +kernel
theorem dX0_putInOrder_8 : decode cX0_putInOrder 8 = .ok (.ifnull 24, 3) := by decide +kernel
theorem dX0_putInOrder_11 : decode cX0_putInOrder 11 = .ok (.aload_n 3, 1) := by decide +kernel
theorem dX0_putInOrder_12 : decode cX0_putInOrder 12 = .ok (.getfield 38, 3) := by decide +kernel
theorem dX0_putInOrder_15 : decode cX0_putInOrder 15 = .ok (.aload_n 1, 1) := by decide +kernel
theorem dX0_putInOrder_16 : decode cX0_putInOrder 16 = .ok (.getfield 38, 3) := by decide +kernel
theorem dX0_putInOrder_19 : decode cX0_putInOrder 19 = .ok (.if_icmp .gt 13, 3) := by decide +kernel
theorem dX0_putInOrder_22 : decode cX0_putInOrder 22 = .ok (.aload_n 3, 1) := by decide +kernel
theorem dX0_putInOrder_23 : decode cX0_putInOrder 23 = .ok (.astore_n 2, 1) := by decide +kernel
theorem dX0_putInOrder_24 : decode cX0_putInOrder 24 = .ok (.aload_n 3, 1) := by decide +kernel
theorem dX0_putInOrder_25 : decode cX0_putInOrder 25 = .ok (.getfield 41, 3) := by decide +kernel
theorem dX0_putInOrder_28 : decode cX0_putInOrder 28 = .ok (.astore_n 3, 1) := by decide +kernel
theorem dX0_putInOrder_29 : decode cX0_putInOrder 29 = .ok (.goto (-22), 3) := by decide +kernel
theorem dX0_putInOrder_32 : decode cX0_putInOrder 32 = .ok (.aload_n 2, 1) := by decide +kernel
theorem dX0_putInOrder_33 : decode cX0_putInOrder 33 = .ok (.ifnonnull 19, 3) := by decide +kernel
theorem dX0_putInOrder_36 : decode cX0_putInOrder 36 = .ok (.aload_n 1, 1) := by decide +kernel
theorem dX0_putInOrder_37 : decode cX0_putInOrder 37 = .ok (.aload_n 0, 1) := by decide +kernel
theorem dX0_putInOrder_38 : decode cX0_putInOrder 38 = .ok (.getfield 16, 3) := by decide +kernel
theorem dX0_putInOrder_41 : decode cX0_putInOrder 41 = .ok (.putfield 41, 3) := by decide +kernel
theorem dX0_putInOrder_44 : decode cX0_putInOrder 44 = .ok (.aload_n 0, 1) := by decide +kernel
theorem dX0_putInOrder_45 : decode cX0_putInOrder 45 = .ok (.aload_n 1, 1) := by decide +kernel
theorem dX0_putInOrder_46 : decode cX0_putInOrder 46 = .ok (.putfield 16, 3) := by decide +kernel
theorem dX0_putInOrder_49 : decode cX0_putInOrder 49 = .ok (.goto 16, 3) := by decide +kernel
theorem dX0_putInOrder_52 : decode cX0_putInOrder 52 = .ok (.aload_n 1, 1) := by decide +kernel
theorem dX0_putInOrder_53 : decode cX0_putInOrder 53 = .ok (.aload_n 2, 1) := by decide +kernel
theorem dX0_putInOrder_54 : decode cX0_putInOrder 54 = .ok (.getfield 41, 3) := by decide +kernel
theorem dX0_putInOrder_57 : decode cX0_putInOrder 57 = .ok (.putfield 41, 3) := by decide +kernel
theorem dX0_putInOrder_60 : decode cX0_putInOrder 60 = .ok (.aload_n 2, 1) := by decide +kernel
theorem dX0_putInOrder_61 : decode cX0_putInOrder 61 = .ok (.aload_n 1, 1) := by decide +kernel
theorem dX0_putInOrder_62 : decode cX0_putInOrder 62 = .ok (.putfield 41, 3) := by decide +kernel
theorem dX0_putInOrder_65 : decode cX0_putInOrder 65 = .ok (.return_, 1) := by decide +kernel
set_option maxRecDepth 20000 in
theorem ggX0_reckon_X0_money : GoodIn wsX0_reckon wsX0_money := goodIn_r _ [13, 14, 15, 16, 25, 26, 27, 28, 29, 30, 31] (by decide +kernel) (by decide +kernel)
set_option maxRecDepth 20000 in
theorem gX0_reckon_X0_money : GoodIn wsX0_reckon (wsV RX0 44 RX0 yX0_money wsX0_money) := goodIn_app (goodIn_of _ (by decide +kernel)) ggX0_reckon_X0_money
set_option maxRecDepth 20000 in
theorem ggX0_reckon_X0_accepts : GoodIn wsX0_reckon wsX0_accepts := goodIn_r _ [20, 21, 22, 23, 24, 32, 33, 34, 35, 36, 37, 25, 26, 27, 28, 29, 30, 31] (by decide +kernel) (by decide +kernel)
set_option maxRecDepth 20000 in
theorem gX0_reckon_X0_accepts : GoodIn wsX0_reckon (wsV RX0 48 RX0 yX0_accepts wsX0_accepts) := goodIn_app (goodIn_of _ (by decide +kernel)) ggX0_reckon_X0_accepts
theorem dX0_reckon_0 : decode cX0_reckon 0 = .ok (.aload_n 0, 1) := by decide +kernel
theorem dX0_reckon_1 : decode cX0_reckon 1 = .ok (.invokevirtual 44, 3) := by decide +kernel
theorem dX0_reckon_4 : decode cX0_reckon 4 = .ok (.istore_n 1, 1) := by decide +kernel
theorem dX0_reckon_5 : decode cX0_reckon 5 = .ok (.aload_n 0, 1) := by decide +kernel
theorem dX0_reckon_6 : decode cX0_reckon 6 = .ok (.getfield 16, 3) := by decide +kernel
theorem dX0_reckon_9 : decode cX0_reckon 9 = .ok (.astore_n 2, 1) := by decide +kernel
theorem dX0_reckon_10 : decode cX0_reckon 10 = .ok (.aload_n 2, 1) := by decide +kernel
theorem dX0_reckon_11 : decode cX0_reckon 11 = .ok (.ifnull 42, 3) := by decide +kernel
theorem dX0_reckon_14 : decode cX0_reckon 14 = .ok (.aload_n 2, 1) := by decide +kernel
theorem dX0_reckon_15 : decode cX0_reckon 15 = .ok (.aload_n 0, 1) := by decide +kernel
theorem dX0_reckon_16 : decode cX0_reckon 16 = .ok (.aload_n 2, 1) := by decide +kernel
theorem dX0_reckon_17 : decode cX0_reckon 17 = .ok (.invokevirtual 48, 3) := by decide +kernel
theorem dX0_reckon_20 : decode cX0_reckon 20 = .ok (.ifCond .eq 14, 3) := by decide +kernel
theorem dX0_reckon_23 : decode cX0_reckon 23 = .ok (.aload_n 2, 1) := by decide +kernel
theorem dX0_reckon_24 : decode cX0_reckon 24 = .ok (.getfield 52, 3) := by decide +kernel
theorem dX0_reckon_27 : decode cX0_reckon 27 = .ok (.iload_n 1, 1) := by decide +kernel
theorem dX0_reckon_28 : decode cX0_reckon 28 = .ok (.invokestatic 55, 3) := by decide +kernel
theorem dX0_reckon_31 : decode cX0_reckon 31 = .ok (.goto 4, 3) := by decide +kernel
theorem dX0_reckon_34 : decode cX0_reckon 34 = .ok (.iconst 0, 1) := by decide +kernel
theorem dX0_reckon_35 : decode cX0_reckon 35 = .ok (.putfield 61, 3) := by decide +kernel
theorem dX0_reckon_38 : decode cX0_reckon 38 = .ok (.iload_n 1, 1) := by decide +kernel
theorem dX0_reckon_39 : decode cX0_reckon 39 = .ok (.aload_n 2, 1) := by decide +kernel
theorem dX0_reckon_40 : decode cX0_reckon 40 = .ok (.getfield 61, 3) := by decide +kernel
theorem dX0_reckon_43 : decode cX0_reckon 43 = .ok (.isub, 1) := by decide +kernel
theorem dX0_reckon_44 : decode cX0_reckon 44 = .ok (.istore_n 1, 1) := by decide +kernel
theorem dX0_reckon_45 : decode cX0_reckon 45 = .ok (.aload_n 2, 1) := by decide +kernel
theorem dX0_reckon_46 : decode cX0_reckon 46 = .ok (.getfield 41, 3) := by decide +kernel
theorem dX0_reckon_49 : decode cX0_reckon 49 = .ok (.astore_n 2, 1) := by decide +kernel
theorem dX0_reckon_50 : decode cX0_reckon 50 = .ok (.goto (-40), 3) := by decide +kernel
theorem dX0_reckon_53 : decode cX0_reckon 53 = .ok (.return_, 1) := by decide +kernel
theorem dX0_eligibleUpTo_0 : decode cX0_eligibleUpTo 0 = .ok (.iconst 0, 1) := by decide +kernel
theorem dX0_eligibleUpTo_1 : decode cX0_eligibleUpTo 1 = .ok (.istore_n 2, 1) := by decide +kernel
theorem dX0_eligibleUpTo_2 : decode cX0_eligibleUpTo 2 = .ok (.aload_n 0, 1) := by decide +kernel
theorem dX0_eligibleUpTo_3 : decode cX0_eligibleUpTo 3 = .ok (.getfield 16, 3) := by decide +kernel
theorem dX0_eligibleUpTo_6 : decode cX0_eligibleUpTo 6 = .ok (.astore_n 3, 1) := by decide +kernel
theorem dX0_eligibleUpTo_7 : decode cX0_eligibleUpTo 7 = .ok (.aload_n 3, 1) := by decide +kernel
theorem dX0_eligibleUpTo_8 : decode cX0_eligibleUpTo 8 = .ok (.ifnull 26, 3) := by decide +kernel
theorem dX0_eligibleUpTo_11 : decode cX0_eligibleUpTo 11 = .ok (.aload_n 3, 1) := by decide +kernel
theorem dX0_eligibleUpTo_12 : decode cX0_eligibleUpTo 12 = .ok (.getfield 38, 3) := by decide +kernel
theorem dX0_eligibleUpTo_15 : decode cX0_eligibleUpTo 15 = .ok (.iload_n 1, 1) := by decide +kernel
theorem dX0_eligibleUpTo_16 : decode cX0_eligibleUpTo 16 = .ok (.if_icmp .gt 18, 3) := by decide +kernel
theorem dX0_eligibleUpTo_19 : decode cX0_eligibleUpTo 19 = .ok (.iload_n 2, 1) := by decide +kernel
theorem dX0_eligibleUpTo_20 : decode cX0_eligibleUpTo 20 = .ok (.aload_n 3, 1) := by decide +kernel
theorem dX0_eligibleUpTo_21 : decode cX0_eligibleUpTo 21 = .ok (.getfield 61, 3) := by decide +kernel
theorem dX0_eligibleUpTo_24 : decode cX0_eligibleUpTo 24 = .ok (.iadd, 1) := by decide +kernel
theorem dX0_eligibleUpTo_25 : decode cX0_eligibleUpTo 25 = .ok (.istore_n 2, 1) := by decide +kernel
theorem dX0_eligibleUpTo_26 : decode cX0_eligibleUpTo 26 = .ok (.aload_n 3, 1) := by decide +kernel
theorem dX0_eligibleUpTo_27 : decode cX0_eligibleUpTo 27 = .ok (.getfield 41, 3) := by decide +kernel
theorem dX0_eligibleUpTo_30 : decode cX0_eligibleUpTo 30 = .ok (.astore_n 3, 1) := by decide +kernel
theorem dX0_eligibleUpTo_31 : decode cX0_eligibleUpTo 31 = .ok (.goto (-24), 3) := by decide +kernel
theorem dX0_eligibleUpTo_34 : decode cX0_eligibleUpTo 34 = .ok (.iload_n 2, 1) := by decide +kernel
theorem dX0_eligibleUpTo_35 : decode cX0_eligibleUpTo 35 = .ok (.ireturn, 1) := by decide +kernel
theorem dX1_init_0 : decode cX1_init 0 = .ok (.aload_n 0, 1) := by decide +kernel
theorem dX1_init_1 : decode cX1_init 1 = .ok (.invokespecial 1, 3) := by decide +kernel
theorem dX1_init_4 : decode cX1_init 4 = .ok (.aload_n 0, 1) := by decide +kernel
theorem dX1_init_5 : decode cX1_init 5 = .ok (.iconst 0, 1) := by decide +kernel
theorem dX1_init_6 : decode cX1_init 6 = .ok (.putfield 7, 3) := by decide +kernel
theorem dX1_init_9 : decode cX1_init 9 = .ok (.aload_n 0, 1) := by decide +kernel
theorem dX1_init_10 : decode cX1_init 10 = .ok (.iconst 0, 1) := by decide +kernel
theorem dX1_init_11 : decode cX1_init 11 = .ok (.putfield 13, 3) := by decide +kernel
theorem dX1_init_14 : decode cX1_init 14 = .ok (.aload_n 0, 1) := by decide +kernel
theorem dX1_init_15 : decode cX1_init 15 = .ok (.aconst_null, 1) := by decide +kernel
theorem dX1_init_16 : decode cX1_init 16 = .ok (.putfield 17, 3) := by decide +kernel
theorem dX1_init_19 : decode cX1_init 19 = .ok (.aload_n 0, 1) := by decide +kernel
theorem dX1_init_20 : decode cX1_init 20 = .ok (.aload_n 1, 1) := by decide +kernel
theorem dX1_init_21 : decode cX1_init 21 = .ok (.putfield 21, 3) := by decide +kernel
theorem dX1_init_24 : decode cX1_init 24 = .ok (.aload_n 0, 1) := by decide +kernel
theorem dX1_init_25 : decode cX1_init 25 = .ok (.iload_n 2, 1) := by decide +kernel
theorem dX1_init_26 : decode cX1_init 26 = .ok (.putfield 25, 3) := by decide +kernel
theorem dX1_init_29 : decode cX1_init 29 = .ok (.aload_n 0, 1) := by decide +kernel
theorem dX1_init_30 : decode cX1_init 30 = .ok (.iload_n 3, 1) := by decide +kernel
theorem dX1_init_31 : decode cX1_init 31 = .ok (.putfield 28, 3) := by decide +kernel
theorem dX1_init_34 : decode cX1_init 34 = .ok (.return_, 1) := by decide +kernel
theorem dX2_init_0 : decode cX2_init 0 = .ok (.aload_n 0, 1) := by decide +kernel
theorem dX2_init_1 : decode cX2_init 1 = .ok (.invokespecial 1, 3) := by decide +kernel
theorem dX2_init_4 : decode cX2_init 4 = .ok (.aload_n 0, 1) := by decide +kernel
theorem dX2_init_5 : decode cX2_init 5 = .ok (.ldc 7, 2) := by decide +kernel
theorem dX2_init_7 : decode cX2_init 7 = .ok (.putfield 8, 3) := by decide +kernel
theorem dX2_init_10 : decode cX2_init 10 = .ok (.aload_n 0, 1) := by decide +kernel
theorem dX2_init_11 : decode cX2_init 11 = .ok (.bipush 75, 2) := by decide +kernel
theorem dX2_init_13 : decode cX2_init 13 = .ok (.putfield 14, 3) := by decide +kernel
theorem dX2_init_16 : decode cX2_init 16 = .ok (.aload_n 0, 1) := by decide +kernel
theorem dX2_init_17 : decode cX2_init 17 = .ok (.bipush 10, 2) := by decide +kernel
theorem dX2_init_19 : decode cX2_init 19 = .ok (.putfield 17, 3) := by decide +kernel
theorem dX2_init_22 : decode cX2_init 22 = .ok (.aload_n 0, 1) := by decide +kernel
theorem dX2_init_23 : decode cX2_init 23 = .ok (.ldc 20, 2) := by decide +kernel
theorem dX2_init_25 : decode cX2_init 25 = .ok (.putfield 21, 3) := by decide +kernel
theorem dX2_init_28 : decode cX2_init 28 = .ok (.aload_n 0, 1) := by decide +kernel
theorem dX2_init_29 : decode cX2_init 29 = .ok (.bipush 12, 2) := by decide +kernel
theorem dX2_init_31 : decode cX2_init 31 = .ok (.anewarray 24, 3) := by decide +kernel
theorem dX2_init_34 : decode cX2_init 34 = .ok (.putfield 26, 3) := by decide +kernel
theorem dX2_init_37 : decode cX2_init 37 = .ok (.aload_n 0, 1) := by decide +kernel
theorem dX2_init_38 : decode cX2_init 38 = .ok (.iconst 0, 1) := by decide +kernel
theorem dX2_init_39 : decode cX2_init 39 = .ok (.putfield 30, 3) := by decide +kernel
theorem dX2_init_42 : decode cX2_init 42 = .ok (.aload_n 0, 1) := by decide +kernel
theorem dX2_init_43 : decode cX2_init 43 = .ok (.bipush 100, 2) := by decide +kernel
theorem dX2_init_45 : decode cX2_init 45 = .ok (.anewarray 33, 3) := by decide +kernel
theorem dX2_init_48 : decode cX2_init 48 = .ok (.putfield 35, 3) := by decide +kernel
theorem dX2_init_51 : decode cX2_init 51 = .ok (.aload_n 0, 1) := by decide +kernel
theorem dX2_init_52 : decode cX2_init 52 = .ok (.iconst 0, 1) := by decide +kernel
theorem dX2_init_53 : decode cX2_init 53 = .ok (.putfield 39, 3) := by decide +kernel
theorem dX2_init_56 : decode cX2_init 56 = .ok (.aload_n 0, 1) := by decide +kernel
theorem dX2_init_57 : decode cX2_init 57 = .ok (.iconst 0, 1) := by decide +kernel
theorem dX2_init_58 : decode cX2_init 58 = .ok (.putfield 42, 3) := by decide +kernel
theorem dX2_init_61 : decode cX2_init 61 = .ok (.aload_n 0, 1) := by decide +kernel
theorem dX2_init_62 : decode cX2_init 62 = .ok (.bipush 40, 2) := by decide +kernel
theorem dX2_init_64 : decode cX2_init 64 = .ok (.newarray .int, 2) := by decide +kernel
theorem dX2_init_66 : decode cX2_init 66 = .ok (.putfield 45, 3) := by decide +kernel
theorem dX2_init_69 : decode cX2_init 69 = .ok (.aload_n 0, 1) := by decide +kernel
theorem dX2_init_70 : decode cX2_init 70 = .ok (.iconst 0, 1) := by decide +kernel
theorem dX2_init_71 : decode cX2_init 71 = .ok (.putfield 49, 3) := by decide +kernel
theorem dX2_init_74 : decode cX2_init 74 = .ok (.aload_n 0, 1) := by decide +kernel
theorem dX2_init_75 : decode cX2_init 75 = .ok (.iconst 0, 1) := by decide +kernel
theorem dX2_init_76 : decode cX2_init 76 = .ok (.putfield 52, 3) := by decide +kernel
theorem dX2_init_79 : decode cX2_init 79 = .ok (.aload_n 0, 1) := by decide +kernel
theorem dX2_init_80 : decode cX2_init 80 = .ok (.iconst 0, 1) := by decide +kernel
theorem dX2_init_81 : decode cX2_init 81 = .ok (.putfield 55, 3) := by decide +kernel
theorem dX2_init_84 : decode cX2_init 84 = .ok (.return_, 1) := by decide +kernel
set_option maxRecDepth 20000 in
theorem ggX2_setGrant_X2_checkRange : GoodIn wsX2_setGrant wsX2_checkRange := goodIn_ca (goodIn_r _ [12, 13, 14] (by decide +kernel) (by decide +kernel)) (goodIn_sub (fun _ h => List.mem_cons_of_mem _ (List.mem_append_right _ h)) (by decide +kernel))
set_option maxRecDepth 20000 in
theorem gX2_setGrant_X2_checkRange : GoodIn wsX2_setGrant (va_wsS RX2 59 yX2_checkRange wsX2_checkRange) := goodIn_app (goodIn_of _ (by decide +kernel)) ggX2_setGrant_X2_checkRange
theorem dX2_setGrant_0 : decode cX2_setGrant 0 = .ok (.iload_n 1, 1) := by decide +kernel
theorem dX2_setGrant_1 : decode cX2_setGrant 1 = .ok (.iconst 0, 1) := by decide +kernel
theorem dX2_setGrant_2 : decode cX2_setGrant 2 = .ok (.ldc 58, 2) := by decide +kernel
theorem dX2_setGrant_4 : decode cX2_setGrant 4 = .ok (.invokestatic 59, 3) := by decide +kernel
theorem dX2_setGrant_7 : decode cX2_setGrant 7 = .ok (.iload_n 2, 1) := by decide +kernel
theorem dX2_setGrant_8 : decode cX2_setGrant 8 = .ok (.iconst 1, 1) := by decide +kernel
theorem dX2_setGrant_9 : decode cX2_setGrant 9 = .ok (.bipush 100, 2) := by decide +kernel
theorem dX2_setGrant_11 : decode cX2_setGrant 11 = .ok (.invokestatic 59, 3) := by decide +kernel
theorem dX2_setGrant_14 : decode cX2_setGrant 14 = .ok (.iload_n 3, 1) := by decide +kernel
theorem dX2_setGrant_15 : decode cX2_setGrant 15 = .ok (.iconst 0, 1) := by decide +kernel
theorem dX2_setGrant_16 : decode cX2_setGrant 16 = .ok (.bipush 100, 2) := by decide +kernel
theorem dX2_setGrant_18 : decode cX2_setGrant 18 = .ok (.invokestatic 59, 3) := by decide +kernel
theorem dX2_setGrant_21 : decode cX2_setGrant 21 = .ok (.iload 4, 2) := by decide +kernel
theorem dX2_setGrant_23 : decode cX2_setGrant 23 = .ok (.iconst 0, 1) := by decide +kernel
theorem dX2_setGrant_24 : decode cX2_setGrant 24 = .ok (.ldc 58, 2) := by decide +kernel
theorem dX2_setGrant_26 : decode cX2_setGrant 26 = .ok (.invokestatic 59, 3) := by decide +kernel
theorem dX2_setGrant_29 : decode cX2_setGrant 29 = .ok (.aload_n 0, 1) := by decide +kernel
theorem dX2_setGrant_30 : decode cX2_setGrant 30 = .ok (.getfield 49, 3) := by decide +kernel
theorem dX2_setGrant_33 : decode cX2_setGrant 33 = .ok (.ifCond .le 13, 3) := by decide +kernel
theorem dX2_setGrant_36 : decode cX2_setGrant 36 = .ok (.new 63, 3) := by decide +kernel
theorem dX2_setGrant_39 : decode cX2_setGrant 39 = .ok (.dup, 1) := by decide +kernel
theorem dX2_setGrant_40 : decode cX2_setGrant 40 = .ok (.ldc 65, 2) := by decide +kernel
theorem dX2_setGrant_42 : decode cX2_setGrant 42 = .ok (.invokespecial 67, 3) := by decide +kernel
theorem dX2_setGrant_45 : decode cX2_setGrant 45 = .ok (.athrow, 1) := by decide +kernel
theorem dX2_setGrant_46 : decode cX2_setGrant 46 = .ok (.aload_n 0, 1) := by decide +kernel
theorem dX2_setGrant_47 : decode cX2_setGrant 47 = .ok (.iload_n 1, 1) := by decide +kernel
theorem dX2_setGrant_48 : decode cX2_setGrant 48 = .ok (.putfield 8, 3) := by decide +kernel
theorem dX2_setGrant_51 : decode cX2_setGrant 51 = .ok (.aload_n 0, 1) := by decide +kernel
theorem dX2_setGrant_52 : decode cX2_setGrant 52 = .ok (.iload_n 2, 1) := by decide +kernel
theorem dX2_setGrant_53 : decode cX2_setGrant 53 = .ok (.putfield 14, 3) := by decide +kernel
theorem dX2_setGrant_56 : decode cX2_setGrant 56 = .ok (.aload_n 0, 1) := by decide +kernel
theorem dX2_setGrant_57 : decode cX2_setGrant 57 = .ok (.iload_n 3, 1) := by decide +kernel
theorem dX2_setGrant_58 : decode cX2_setGrant 58 = .ok (.putfield 17, 3) := by decide +kernel
theorem dX2_setGrant_61 : decode cX2_setGrant 61 = .ok (.aload_n 0, 1) := by decide +kernel
theorem dX2_setGrant_62 : decode cX2_setGrant 62 = .ok (.iload 4, 2) := by decide +kernel
theorem dX2_setGrant_64 : decode cX2_setGrant 64 = .ok (.putfield 21, 3) := by decide +kernel
theorem dX2_setGrant_67 : decode cX2_setGrant 67 = .ok (.return_, 1) := by decide +kernel
set_option maxRecDepth 20000 in
theorem ggX2_addLine_X2_checkRange : GoodIn wsX2_addLine wsX2_checkRange := goodIn_ca (goodIn_r _ [12, 13, 14] (by decide +kernel) (by decide +kernel)) (goodIn_sub (fun _ h => List.mem_cons_of_mem _ (List.mem_append_right _ h)) (by decide +kernel))
set_option maxRecDepth 20000 in
theorem gX2_addLine_X2_checkRange : GoodIn wsX2_addLine (va_wsS RX2 59 yX2_checkRange wsX2_checkRange) := goodIn_app (goodIn_of _ (by decide +kernel)) ggX2_addLine_X2_checkRange
set_option maxRecDepth 20000 in
theorem ggX2_addLine_X2_checkDay : GoodIn wsX2_addLine wsX2_checkDay := goodIn_ca (goodIn_r _ [17, 9, 10, 11, 12, 13, 14] (by decide +kernel) (by decide +kernel)) (goodIn_sub (fun _ h => List.mem_cons_of_mem _ (List.mem_append_right _ h)) (by decide +kernel))
set_option maxRecDepth 20000 in
theorem gX2_addLine_X2_checkDay : GoodIn wsX2_addLine (va_wsS RX2 71 yX2_checkDay wsX2_checkDay) := goodIn_app (goodIn_of _ (by decide +kernel)) ggX2_addLine_X2_checkDay
set_option maxRecDepth 20000 in
theorem ggX2_addLine_X0_init : GoodIn wsX2_addLine wsX0_init := goodIn_r _ [20, 21, 22, 23, 24, 25, 26, 27, 28, 29, 30, 44, 45, 46, 47, 48, 49, 50] (by decide +kernel) (by decide +kernel)
set_option maxRecDepth 20000 in
theorem gX2_addLine_X0_init : GoodIn wsX2_addLine (wsX0_init) := ggX2_addLine_X0_init
theorem dX2_addLine_0 : decode cX2_addLine 0 = .ok (.iload_n 1, 1) := by decide +kernel
theorem dX2_addLine_1 : decode cX2_addLine 1 = .ok (.iconst 0, 1) := by decide +kernel
theorem dX2_addLine_2 : decode cX2_addLine 2 = .ok (.ldc 70, 2) := by decide +kernel
theorem dX2_addLine_4 : decode cX2_addLine 4 = .ok (.invokestatic 59, 3) := by decide +kernel
theorem dX2_addLine_7 : decode cX2_addLine 7 = .ok (.iload_n 2, 1) := by decide +kernel
theorem dX2_addLine_8 : decode cX2_addLine 8 = .ok (.invokestatic 71, 3) := by decide +kernel
theorem dX2_addLine_11 : decode cX2_addLine 11 = .ok (.iload_n 3, 1) := by decide +kernel
theorem dX2_addLine_12 : decode cX2_addLine 12 = .ok (.iload_n 2, 1) := by decide +kernel
theorem dX2_addLine_13 : decode cX2_addLine 13 = .ok (.sipush 9999, 3) := by decide +kernel
theorem dX2_addLine_16 : decode cX2_addLine 16 = .ok (.invokestatic 59, 3) := by decide +kernel
theorem dX2_addLine_19 : decode cX2_addLine 19 = .ok (.aload_n 0, 1) := by decide +kernel
theorem dX2_addLine_20 : decode cX2_addLine 20 = .ok (.getfield 30, 3) := by decide +kernel
theorem dX2_addLine_23 : decode cX2_addLine 23 = .ok (.istore 5, 2) := by decide +kernel
theorem dX2_addLine_25 : decode cX2_addLine 25 = .ok (.iload 5, 2) := by decide +kernel
theorem dX2_addLine_27 : decode cX2_addLine 27 = .ok (.aload_n 0, 1) := by decide +kernel
theorem dX2_addLine_28 : decode cX2_addLine 28 = .ok (.getfield 26, 3) := by decide +kernel
theorem dX2_addLine_31 : decode cX2_addLine 31 = .ok (.arraylength, 1) := by decide +kernel
theorem dX2_addLine_32 : decode cX2_addLine 32 = .ok (.if_icmp .lt 13, 3) := by decide +kernel
theorem dX2_addLine_35 : decode cX2_addLine 35 = .ok (.new 63, 3) := by decide +kernel
theorem dX2_addLine_38 : decode cX2_addLine 38 = .ok (.dup, 1) := by decide +kernel
theorem dX2_addLine_39 : decode cX2_addLine 39 = .ok (.ldc 75, 2) := by decide +kernel
theorem dX2_addLine_41 : decode cX2_addLine 41 = .ok (.invokespecial 67, 3) := by decide +kernel
theorem dX2_addLine_44 : decode cX2_addLine 44 = .ok (.athrow, 1) := by decide +kernel
theorem dX2_addLine_45 : decode cX2_addLine 45 = .ok (.aload_n 0, 1) := by decide +kernel
theorem dX2_addLine_46 : decode cX2_addLine 46 = .ok (.getfield 26, 3) := by decide +kernel
theorem dX2_addLine_49 : decode cX2_addLine 49 = .ok (.iload 5, 2) := by decide +kernel
theorem dX2_addLine_51 : decode cX2_addLine 51 = .ok (.new 24, 3) := by decide +kernel
theorem dX2_addLine_54 : decode cX2_addLine 54 = .ok (.dup, 1) := by decide +kernel
theorem dX2_addLine_55 : decode cX2_addLine 55 = .ok (.iload_n 1, 1) := by decide +kernel
theorem dX2_addLine_56 : decode cX2_addLine 56 = .ok (.iload_n 2, 1) := by decide +kernel
theorem dX2_addLine_57 : decode cX2_addLine 57 = .ok (.iload_n 3, 1) := by decide +kernel
theorem dX2_addLine_58 : decode cX2_addLine 58 = .ok (.iload 4, 2) := by decide +kernel
theorem dX2_addLine_60 : decode cX2_addLine 60 = .ok (.invokespecial 77, 3) := by decide +kernel
theorem dX2_addLine_63 : decode cX2_addLine 63 = .ok (.aastore, 1) := by decide +kernel
theorem dX2_addLine_64 : decode cX2_addLine 64 = .ok (.aload_n 0, 1) := by decide +kernel
theorem dX2_addLine_65 : decode cX2_addLine 65 = .ok (.iload 5, 2) := by decide +kernel
theorem dX2_addLine_67 : decode cX2_addLine 67 = .ok (.iconst 1, 1) := by decide +kernel
theorem dX2_addLine_68 : decode cX2_addLine 68 = .ok (.iadd, 1) := by decide +kernel
theorem dX2_addLine_69 : decode cX2_addLine 69 = .ok (.putfield 30, 3) := by decide +kernel
theorem dX2_addLine_72 : decode cX2_addLine 72 = .ok (.iload 5, 2) := by decide +kernel
theorem dX2_addLine_74 : decode cX2_addLine 74 = .ok (.ireturn, 1) := by decide +kernel
set_option maxRecDepth 20000 in
theorem ggX2_extend_X2_findLine : GoodIn wsX2_extend wsX2_findLine := goodIn_ca (goodIn_r _ [6, 7, 8, 9, 50, 51, 52, 53, 54, 55, 56, 57, 58, 59, 60, 61, 62] (by decide +kernel) (by decide +kernel)) (goodIn_sub (fun _ h => List.mem_cons_of_mem _ (List.mem_append_left _ (List.mem_append_right _ h))) (by decide +kernel))
set_option maxRecDepth 20000 in
theorem gX2_extend_X2_findLine : GoodIn wsX2_extend (wsV RX2 80 RX2 yX2_findLine wsX2_findLine) := goodIn_app (goodIn_of _ (by decide +kernel)) ggX2_extend_X2_findLine
set_option maxRecDepth 20000 in
theorem ggX2_extend_X2_checkRange : GoodIn wsX2_extend wsX2_checkRange := goodIn_ca (goodIn_r _ [12, 13, 14] (by decide +kernel) (by decide +kernel)) (goodIn_sub (fun _ h => List.mem_cons_of_mem _ (List.mem_append_right _ h)) (by decide +kernel))
set_option maxRecDepth 20000 in
theorem gX2_extend_X2_checkRange : GoodIn wsX2_extend (va_wsS RX2 59 yX2_checkRange wsX2_checkRange) := goodIn_app (goodIn_of _ (by decide +kernel)) ggX2_extend_X2_checkRange
set_option maxRecDepth 20000 in
theorem ggX2_extend_X0_reckon : GoodIn wsX2_extend wsX0_reckon := goodIn_r _ [19, 20, 21, 22, 23, 24, 25, 26, 27, 28, 29, 30, 18, 31, 32, 33, 34, 35, 36, 37, 38, 39, 40, 41, 42, 43, 44, 45, 46, 47, 48, 49, 63, 64, 65, 66, 67, 68] (by decide +kernel) (by decide +kernel)
set_option maxRecDepth 20000 in
theorem gX2_extend_X0_reckon : GoodIn wsX2_extend (wsV RX2 87 RX0 yX0_reckon wsX0_reckon) := goodIn_app (goodIn_of _ (by decide +kernel)) ggX2_extend_X0_reckon
theorem dX2_extend_0 : decode cX2_extend 0 = .ok (.aload_n 0, 1) := by decide +kernel
theorem dX2_extend_1 : decode cX2_extend 1 = .ok (.iload_n 1, 1) := by decide +kernel
theorem dX2_extend_2 : decode cX2_extend 2 = .ok (.invokevirtual 80, 3) := by decide +kernel
theorem dX2_extend_5 : decode cX2_extend 5 = .ok (.astore_n 3, 1) := by decide +kernel
theorem dX2_extend_6 : decode cX2_extend 6 = .ok (.aload_n 3, 1) := by decide +kernel
theorem dX2_extend_7 : decode cX2_extend 7 = .ok (.getfield 84, 3) := by decide +kernel
theorem dX2_extend_10 : decode cX2_extend 10 = .ok (.istore 4, 2) := by decide +kernel
theorem dX2_extend_12 : decode cX2_extend 12 = .ok (.iload_n 2, 1) := by decide +kernel
theorem dX2_extend_13 : decode cX2_extend 13 = .ok (.iload 4, 2) := by decide +kernel
theorem dX2_extend_15 : decode cX2_extend 15 = .ok (.sipush 9999, 3) := by decide +kernel
theorem dX2_extend_18 : decode cX2_extend 18 = .ok (.invokestatic 59, 3) := by decide +kernel
theorem dX2_extend_21 : decode cX2_extend 21 = .ok (.aload_n 3, 1) := by decide +kernel
theorem dX2_extend_22 : decode cX2_extend 22 = .ok (.iload_n 2, 1) := by decide +kernel
theorem dX2_extend_23 : decode cX2_extend 23 = .ok (.putfield 84, 3) := by decide +kernel
theorem dX2_extend_26 : decode cX2_extend 26 = .ok (.aload_n 3, 1) := by decide +kernel
theorem dX2_extend_27 : decode cX2_extend 27 = .ok (.invokevirtual 87, 3) := by decide +kernel
theorem dX2_extend_30 : decode cX2_extend 30 = .ok (.iload 4, 2) := by decide +kernel
theorem dX2_extend_32 : decode cX2_extend 32 = .ok (.ireturn, 1) := by decide +kernel
set_option maxRecDepth 20000 in
theorem ggX2_move_X2_findLine : GoodIn wsX2_move wsX2_findLine := goodIn_ca (goodIn_r _ [13, 14, 15, 16, 56, 57, 58, 59, 60, 61, 62, 63, 64, 65, 66, 67, 68] (by decide +kernel) (by decide +kernel)) (goodIn_sub (fun _ h => List.mem_cons_of_mem _ (List.mem_append_right _ h)) (by decide +kernel))
set_option maxRecDepth 20000 in
theorem gX2_move_X2_findLine : GoodIn wsX2_move (wsV RX2 80 RX2 yX2_findLine wsX2_findLine) := goodIn_app (goodIn_of _ (by decide +kernel)) ggX2_move_X2_findLine
set_option maxRecDepth 20000 in
theorem ggX2_move_X2_checkRange : GoodIn wsX2_move wsX2_checkRange := goodIn_ca (goodIn_r _ [19, 1, 2] (by decide +kernel) (by decide +kernel)) (goodIn_sub (fun _ h => List.mem_cons_of_mem _ (List.mem_append_left _ (List.mem_append_left _ (List.mem_append_right _ h)))) (by decide +kernel))
set_option maxRecDepth 20000 in
theorem gX2_move_X2_checkRange : GoodIn wsX2_move (va_wsS RX2 59 yX2_checkRange wsX2_checkRange) := goodIn_app (goodIn_of _ (by decide +kernel)) ggX2_move_X2_checkRange
set_option maxRecDepth 20000 in
theorem ggX2_move_X0_reckon : GoodIn wsX2_move wsX0_reckon := goodIn_r _ [24, 25, 26, 27, 28, 29, 30, 31, 32, 33, 34, 35, 23, 36, 37, 38, 39, 40, 41, 42, 43, 44, 45, 46, 47, 49, 50, 51, 52, 53, 54, 55, 69, 70, 71, 72, 73, 74] (by decide +kernel) (by decide +kernel)
set_option maxRecDepth 20000 in
theorem gX2_move_X0_reckon : GoodIn wsX2_move (wsV RX2 87 RX0 yX0_reckon wsX0_reckon) := goodIn_app (goodIn_of _ (by decide +kernel)) ggX2_move_X0_reckon
set_option maxRecDepth 20000 in
theorem ggX2_move_X0_money : GoodIn wsX2_move wsX0_money := goodIn_r _ [36, 37, 38, 39, 49, 50, 51, 52, 53, 54, 55] (by decide +kernel) (by decide +kernel)
set_option maxRecDepth 20000 in
theorem gX2_move_X0_money : GoodIn wsX2_move (wsV RX2 106 RX0 yX0_money wsX0_money) := goodIn_app (goodIn_of _ (by decide +kernel)) ggX2_move_X0_money
theorem dX2_move_0 : decode cX2_move 0 = .ok (.aload_n 0, 1) := by decide +kernel
theorem dX2_move_1 : decode cX2_move 1 = .ok (.iload_n 1, 1) := by decide +kernel
theorem dX2_move_2 : decode cX2_move 2 = .ok (.invokevirtual 80, 3) := by decide +kernel
theorem dX2_move_5 : decode cX2_move 5 = .ok (.astore 4, 2) := by decide +kernel
theorem dX2_move_7 : decode cX2_move 7 = .ok (.aload_n 0, 1) := by decide +kernel
theorem dX2_move_8 : decode cX2_move 8 = .ok (.iload_n 2, 1) := by decide +kernel
theorem dX2_move_9 : decode cX2_move 9 = .ok (.invokevirtual 80, 3) := by decide +kernel
theorem dX2_move_12 : decode cX2_move 12 = .ok (.astore 5, 2) := by decide +kernel
theorem dX2_move_14 : decode cX2_move 14 = .ok (.iload_n 3, 1) := by decide +kernel
theorem dX2_move_15 : decode cX2_move 15 = .ok (.iconst 1, 1) := by decide +kernel
theorem dX2_move_16 : decode cX2_move 16 = .ok (.ldc 70, 2) := by decide +kernel
theorem dX2_move_18 : decode cX2_move 18 = .ok (.invokestatic 59, 3) := by decide +kernel
theorem dX2_move_21 : decode cX2_move 21 = .ok (.aload 4, 2) := by decide +kernel
theorem dX2_move_23 : decode cX2_move 23 = .ok (.aload 5, 2) := by decide +kernel
theorem dX2_move_25 : decode cX2_move 25 = .ok (.if_acmp .ne 13, 3) := by decide +kernel
theorem dX2_move_28 : decode cX2_move 28 = .ok (.new 90, 3) := by decide +kernel
theorem dX2_move_31 : decode cX2_move 31 = .ok (.dup, 1) := by decide +kernel
theorem dX2_move_32 : decode cX2_move 32 = .ok (.ldc 92, 2) := by decide +kernel
theorem dX2_move_34 : decode cX2_move 34 = .ok (.invokespecial 94, 3) := by decide +kernel
theorem dX2_move_37 : decode cX2_move 37 = .ok (.athrow, 1) := by decide +kernel
theorem dX2_move_38 : decode cX2_move 38 = .ok (.aload 4, 2) := by decide +kernel
theorem dX2_move_40 : decode cX2_move 40 = .ok (.getfield 95, 3) := by decide +kernel
theorem dX2_move_43 : decode cX2_move 43 = .ok (.iload_n 3, 1) := by decide +kernel
theorem dX2_move_44 : decode cX2_move 44 = .ok (.iadd, 1) := by decide +kernel
theorem dX2_move_45 : decode cX2_move 45 = .ok (.aload 4, 2) := by decide +kernel
theorem dX2_move_47 : decode cX2_move 47 = .ok (.getfield 98, 3) := by decide +kernel
theorem dX2_move_50 : decode cX2_move 50 = .ok (.bipush 10, 2) := by decide +kernel
theorem dX2_move_52 : decode cX2_move 52 = .ok (.idiv, 1) := by decide +kernel
theorem dX2_move_53 : decode cX2_move 53 = .ok (.if_icmp .le 13, 3) := by decide +kernel
theorem dX2_move_56 : decode cX2_move 56 = .ok (.new 63, 3) := by decide +kernel
theorem dX2_move_59 : decode cX2_move 59 = .ok (.dup, 1) := by decide +kernel
theorem dX2_move_60 : decode cX2_move 60 = .ok (.ldc 101, 2) := by decide +kernel
theorem dX2_move_62 : decode cX2_move 62 = .ok (.invokespecial 67, 3) := by decide +kernel
theorem dX2_move_65 : decode cX2_move 65 = .ok (.athrow, 1) := by decide +kernel
theorem dX2_move_66 : decode cX2_move 66 = .ok (.aload 4, 2) := by decide +kernel
theorem dX2_move_68 : decode cX2_move 68 = .ok (.dup, 1) := by decide +kernel
theorem dX2_move_69 : decode cX2_move 69 = .ok (.getfield 95, 3) := by decide +kernel
theorem dX2_move_72 : decode cX2_move 72 = .ok (.iload_n 3, 1) := by decide +kernel
theorem dX2_move_73 : decode cX2_move 73 = .ok (.iadd, 1) := by decide +kernel
theorem dX2_move_74 : decode cX2_move 74 = .ok (.putfield 95, 3) := by decide +kernel
theorem dX2_move_77 : decode cX2_move 77 = .ok (.aload 5, 2) := by decide +kernel
theorem dX2_move_79 : decode cX2_move 79 = .ok (.dup, 1) := by decide +kernel
theorem dX2_move_80 : decode cX2_move 80 = .ok (.getfield 103, 3) := by decide +kernel
theorem dX2_move_83 : decode cX2_move 83 = .ok (.iload_n 3, 1) := by decide +kernel
theorem dX2_move_84 : decode cX2_move 84 = .ok (.iadd, 1) := by decide +kernel
theorem dX2_move_85 : decode cX2_move 85 = .ok (.putfield 103, 3) := by decide +kernel
theorem dX2_move_88 : decode cX2_move 88 = .ok (.aload 4, 2) := by decide +kernel
theorem dX2_move_90 : decode cX2_move 90 = .ok (.invokevirtual 87, 3) := by decide +kernel
theorem dX2_move_93 : decode cX2_move 93 = .ok (.aload 5, 2) := by decide +kernel
theorem dX2_move_95 : decode cX2_move 95 = .ok (.invokevirtual 87, 3) := by decide +kernel
theorem dX2_move_98 : decode cX2_move 98 = .ok (.aload 4, 2) := by decide +kernel
theorem dX2_move_100 : decode cX2_move 100 = .ok (.invokevirtual 106, 3) := by decide +kernel
theorem dX2_move_103 : decode cX2_move 103 = .ok (.ireturn, 1) := by decide +kernel
theorem dX2_lines_0 : decode cX2_lines 0 = .ok (.aload_n 0, 1) := by decide +kernel
theorem dX2_lines_1 : decode cX2_lines 1 = .ok (.getfield 30, 3) := by decide +kernel
theorem dX2_lines_4 : decode cX2_lines 4 = .ok (.ireturn, 1) := by decide +kernel
set_option maxRecDepth 20000 in
theorem ggX2_room_X2_findLine : GoodIn wsX2_room wsX2_findLine := goodIn_ca (goodIn_r _ [5, 6, 7, 8, 17, 18, 19, 20, 21, 22, 23, 24, 25, 26, 27, 28, 29] (by decide +kernel) (by decide +kernel)) (goodIn_sub (fun _ h => List.mem_cons_of_mem _ (List.mem_append_right _ h)) (by decide +kernel))
set_option maxRecDepth 20000 in
theorem gX2_room_X2_findLine : GoodIn wsX2_room (wsV RX2 80 RX2 yX2_findLine wsX2_findLine) := goodIn_app (goodIn_of _ (by decide +kernel)) ggX2_room_X2_findLine
set_option maxRecDepth 20000 in
theorem ggX2_room_X0_money : GoodIn wsX2_room wsX0_money := goodIn_r _ [13, 14, 15, 16, 30, 31, 32, 33, 34, 35, 36] (by decide +kernel) (by decide +kernel)
set_option maxRecDepth 20000 in
theorem gX2_room_X0_money : GoodIn wsX2_room (wsV RX2 106 RX0 yX0_money wsX0_money) := goodIn_app (goodIn_of _ (by decide +kernel)) ggX2_room_X0_money
theorem dX2_room_0 : decode cX2_room 0 = .ok (.aload_n 0, 1) := by decide +kernel
theorem dX2_room_1 : decode cX2_room 1 = .ok (.iload_n 1, 1) := by decide +kernel
theorem dX2_room_2 : decode cX2_room 2 = .ok (.invokevirtual 80, 3) := by decide +kernel
theorem dX2_room_5 : decode cX2_room 5 = .ok (.invokevirtual 106, 3) := by decide +kernel
theorem dX2_room_8 : decode cX2_room 8 = .ok (.ireturn, 1) := by decide +kernel
set_option maxRecDepth 20000 in
theorem ggX2_left_X2_findLine : GoodIn wsX2_left wsX2_findLine := goodIn_ca (goodIn_r _ [5, 6, 7, 8, 25, 26, 27, 28, 29, 30, 31, 32, 33, 34, 35, 36, 37] (by decide +kernel) (by decide +kernel)) (goodIn_sub (fun _ h => List.mem_cons_of_mem _ (List.mem_append_right _ h)) (by decide +kernel))
set_option maxRecDepth 20000 in
theorem gX2_left_X2_findLine : GoodIn wsX2_left (wsV RX2 80 RX2 yX2_findLine wsX2_findLine) := goodIn_app (goodIn_of _ (by decide +kernel)) ggX2_left_X2_findLine
set_option maxRecDepth 20000 in
theorem ggX2_left_X0_money : GoodIn wsX2_left wsX0_money := goodIn_r _ [13, 14, 15, 16, 38, 39, 40, 41, 42, 43, 44] (by decide +kernel) (by decide +kernel)
set_option maxRecDepth 20000 in
theorem gX2_left_X0_money : GoodIn wsX2_left (wsV RX2 106 RX0 yX0_money wsX0_money) := goodIn_app (goodIn_of _ (by decide +kernel)) ggX2_left_X0_money
set_option maxRecDepth 20000 in
theorem ggX2_left_X0_eligibleUpTo : GoodIn wsX2_left wsX0_eligibleUpTo := goodIn_r _ [20, 21, 22, 23, 24, 38, 39, 40, 41, 42, 43, 44, 45, 46, 47, 48, 49, 50] (by decide +kernel) (by decide +kernel)
set_option maxRecDepth 20000 in
theorem gX2_left_X0_eligibleUpTo : GoodIn wsX2_left (wsV RX2 110 RX0 yX0_eligibleUpTo wsX0_eligibleUpTo) := goodIn_app (goodIn_of _ (by decide +kernel)) ggX2_left_X0_eligibleUpTo
theorem dX2_left_0 : decode cX2_left 0 = .ok (.aload_n 0, 1) := by decide +kernel
theorem dX2_left_1 : decode cX2_left 1 = .ok (.iload_n 1, 1) := by decide +kernel
theorem dX2_left_2 : decode cX2_left 2 = .ok (.invokevirtual 80, 3) := by decide +kernel
theorem dX2_left_5 : decode cX2_left 5 = .ok (.astore_n 2, 1) := by decide +kernel
theorem dX2_left_6 : decode cX2_left 6 = .ok (.aload_n 2, 1) := by decide +kernel
theorem dX2_left_7 : decode cX2_left 7 = .ok (.invokevirtual 106, 3) := by decide +kernel
theorem dX2_left_10 : decode cX2_left 10 = .ok (.aload_n 2, 1) := by decide +kernel
theorem dX2_left_11 : decode cX2_left 11 = .ok (.sipush 9999, 3) := by decide +kernel
theorem dX2_left_14 : decode cX2_left 14 = .ok (.invokevirtual 110, 3) := by decide +kernel
theorem dX2_left_17 : decode cX2_left 17 = .ok (.isub, 1) := by decide +kernel
theorem dX2_left_18 : decode cX2_left 18 = .ok (.ireturn, 1) := by decide +kernel
set_option maxRecDepth 20000 in
theorem ggX2_spend_X2_findLine : GoodIn wsX2_spend wsX2_findLine := goodIn_ca (goodIn_r _ [13, 14, 15, 16, 69, 70, 71, 72, 73, 74, 75, 76, 77, 78, 79, 80, 81] (by decide +kernel) (by decide +kernel)) (goodIn_sub (fun _ h => List.mem_cons_of_mem _ (List.mem_append_left _ (List.mem_append_right _ h))) (by decide +kernel))
set_option maxRecDepth 20000 in
theorem gX2_spend_X2_findLine : GoodIn wsX2_spend (wsV RX2 80 RX2 yX2_findLine wsX2_findLine) := goodIn_app (goodIn_of _ (by decide +kernel)) ggX2_spend_X2_findLine
set_option maxRecDepth 20000 in
theorem ggX2_spend_X2_checkDay : GoodIn wsX2_spend wsX2_checkDay := goodIn_ca (goodIn_r _ [19, 20, 21, 12, 22, 23, 24] (by decide +kernel) (by decide +kernel)) (goodIn_sub (fun _ h => List.mem_cons_of_mem _ (List.mem_append_right _ h)) (by decide +kernel))
set_option maxRecDepth 20000 in
theorem gX2_spend_X2_checkDay : GoodIn wsX2_spend (va_wsS RX2 71 yX2_checkDay wsX2_checkDay) := goodIn_app (goodIn_of _ (by decide +kernel)) ggX2_spend_X2_checkDay
set_option maxRecDepth 20000 in
theorem ggX2_spend_X2_checkRange : GoodIn wsX2_spend wsX2_checkRange := goodIn_ca (goodIn_r _ [22, 23, 24] (by decide +kernel) (by decide +kernel)) (goodIn_sub (fun _ h => List.mem_cons_of_mem _ (List.mem_append_right _ h)) (by decide +kernel))
set_option maxRecDepth 20000 in
theorem gX2_spend_X2_checkRange : GoodIn wsX2_spend (va_wsS RX2 59 yX2_checkRange wsX2_checkRange) := goodIn_app (goodIn_of _ (by decide +kernel)) ggX2_spend_X2_checkRange
set_option maxRecDepth 20000 in
theorem ggX2_spend_X1_init : GoodIn wsX2_spend wsX1_init := goodIn_r _ [27, 28, 29, 30, 31, 32, 33, 34, 35, 36, 82, 83, 84, 85, 86, 87] (by decide +kernel) (by decide +kernel)
set_option maxRecDepth 20000 in
theorem gX2_spend_X1_init : GoodIn wsX2_spend (wsX1_init) := ggX2_spend_X1_init
set_option maxRecDepth 20000 in
theorem ggX2_spend_X0_putInOrder : GoodIn wsX2_spend wsX0_putInOrder := goodIn_r _ [41, 42, 43, 44, 88, 89, 90, 91, 92, 93, 94, 82, 83, 84, 85, 86, 87] (by decide +kernel) (by decide +kernel)
set_option maxRecDepth 20000 in
theorem gX2_spend_X0_putInOrder : GoodIn wsX2_spend (wsV RX2 119 RX0 yX0_putInOrder wsX0_putInOrder) := goodIn_app (goodIn_of _ (by decide +kernel)) ggX2_spend_X0_putInOrder
set_option maxRecDepth 20000 in
theorem ggX2_spend_X0_reckon : GoodIn wsX2_spend wsX0_reckon := goodIn_r _ [48, 42, 49, 50, 51, 52, 53, 54, 44, 55, 56, 57, 40, 58, 59, 60, 61, 62, 63, 64, 65, 66, 43, 67, 68, 88, 89, 90, 91, 92, 93, 94, 82, 83, 84, 85, 86, 87] (by decide +kernel) (by decide +kernel)
set_option maxRecDepth 20000 in
theorem gX2_spend_X0_reckon : GoodIn wsX2_spend (wsV RX2 87 RX0 yX0_reckon wsX0_reckon) := goodIn_app (goodIn_of _ (by decide +kernel)) ggX2_spend_X0_reckon
theorem dX2_spend_0 : decode cX2_spend 0 = .ok (.aload_n 0, 1) := by decide +kernel
theorem dX2_spend_1 : decode cX2_spend 1 = .ok (.iload_n 1, 1) := by decide +kernel
theorem dX2_spend_2 : decode cX2_spend 2 = .ok (.invokevirtual 80, 3) := by decide +kernel
theorem dX2_spend_5 : decode cX2_spend 5 = .ok (.astore 4, 2) := by decide +kernel
theorem dX2_spend_7 : decode cX2_spend 7 = .ok (.iload_n 2, 1) := by decide +kernel
theorem dX2_spend_8 : decode cX2_spend 8 = .ok (.invokestatic 71, 3) := by decide +kernel
theorem dX2_spend_11 : decode cX2_spend 11 = .ok (.iload_n 3, 1) := by decide +kernel
theorem dX2_spend_12 : decode cX2_spend 12 = .ok (.iconst 1, 1) := by decide +kernel
theorem dX2_spend_13 : decode cX2_spend 13 = .ok (.ldc 70, 2) := by decide +kernel
theorem dX2_spend_15 : decode cX2_spend 15 = .ok (.invokestatic 59, 3) := by decide +kernel
theorem dX2_spend_18 : decode cX2_spend 18 = .ok (.aload_n 0, 1) := by decide +kernel
theorem dX2_spend_19 : decode cX2_spend 19 = .ok (.getfield 39, 3) := by decide +kernel
theorem dX2_spend_22 : decode cX2_spend 22 = .ok (.istore 5, 2) := by decide +kernel
theorem dX2_spend_24 : decode cX2_spend 24 = .ok (.iload 5, 2) := by decide +kernel
theorem dX2_spend_26 : decode cX2_spend 26 = .ok (.aload_n 0, 1) := by decide +kernel
theorem dX2_spend_27 : decode cX2_spend 27 = .ok (.getfield 35, 3) := by decide +kernel
theorem dX2_spend_30 : decode cX2_spend 30 = .ok (.arraylength, 1) := by decide +kernel
theorem dX2_spend_31 : decode cX2_spend 31 = .ok (.if_icmp .lt 13, 3) := by decide +kernel
theorem dX2_spend_34 : decode cX2_spend 34 = .ok (.new 63, 3) := by decide +kernel
theorem dX2_spend_37 : decode cX2_spend 37 = .ok (.dup, 1) := by decide +kernel
theorem dX2_spend_38 : decode cX2_spend 38 = .ok (.ldc 114, 2) := by decide +kernel
theorem dX2_spend_40 : decode cX2_spend 40 = .ok (.invokespecial 67, 3) := by decide +kernel
theorem dX2_spend_43 : decode cX2_spend 43 = .ok (.athrow, 1) := by decide +kernel
theorem dX2_spend_44 : decode cX2_spend 44 = .ok (.new 33, 3) := by decide +kernel
theorem dX2_spend_47 : decode cX2_spend 47 = .ok (.dup, 1) := by decide +kernel
theorem dX2_spend_48 : decode cX2_spend 48 = .ok (.aload 4, 2) := by decide +kernel
theorem dX2_spend_50 : decode cX2_spend 50 = .ok (.iload_n 2, 1) := by decide +kernel
theorem dX2_spend_51 : decode cX2_spend 51 = .ok (.iload_n 3, 1) := by decide +kernel
theorem dX2_spend_52 : decode cX2_spend 52 = .ok (.invokespecial 116, 3) := by decide +kernel
theorem dX2_spend_55 : decode cX2_spend 55 = .ok (.astore 6, 2) := by decide +kernel
theorem dX2_spend_57 : decode cX2_spend 57 = .ok (.aload_n 0, 1) := by decide +kernel
theorem dX2_spend_58 : decode cX2_spend 58 = .ok (.getfield 35, 3) := by decide +kernel
theorem dX2_spend_61 : decode cX2_spend 61 = .ok (.iload 5, 2) := by decide +kernel
theorem dX2_spend_63 : decode cX2_spend 63 = .ok (.aload 6, 2) := by decide +kernel
theorem dX2_spend_65 : decode cX2_spend 65 = .ok (.aastore, 1) := by decide +kernel
theorem dX2_spend_66 : decode cX2_spend 66 = .ok (.aload_n 0, 1) := by decide +kernel
theorem dX2_spend_67 : decode cX2_spend 67 = .ok (.iload 5, 2) := by decide +kernel
theorem dX2_spend_69 : decode cX2_spend 69 = .ok (.iconst 1, 1) := by decide +kernel
theorem dX2_spend_70 : decode cX2_spend 70 = .ok (.iadd, 1) := by decide +kernel
theorem dX2_spend_71 : decode cX2_spend 71 = .ok (.putfield 39, 3) := by decide +kernel
theorem dX2_spend_74 : decode cX2_spend 74 = .ok (.aload 4, 2) := by decide +kernel
theorem dX2_spend_76 : decode cX2_spend 76 = .ok (.aload 6, 2) := by decide +kernel
theorem dX2_spend_78 : decode cX2_spend 78 = .ok (.invokevirtual 119, 3) := by decide +kernel
theorem dX2_spend_81 : decode cX2_spend 81 = .ok (.aload 4, 2) := by decide +kernel
theorem dX2_spend_83 : decode cX2_spend 83 = .ok (.invokevirtual 87, 3) := by decide +kernel
theorem dX2_spend_86 : decode cX2_spend 86 = .ok (.iload 5, 2) := by decide +kernel
theorem dX2_spend_88 : decode cX2_spend 88 = .ok (.ireturn, 1) := by decide +kernel
set_option maxRecDepth 20000 in
theorem ggX2_refuse_X2_findVoucher : GoodIn wsX2_refuse wsX2_findVoucher := goodIn_ca (goodIn_r _ [8, 9, 10, 11, 54, 55, 56, 57, 58, 59, 60, 61, 62, 63, 64, 65, 66] (by decide +kernel) (by decide +kernel)) (goodIn_sub (fun _ h => List.mem_cons_of_mem _ (List.mem_append_right _ h)) (by decide +kernel))
set_option maxRecDepth 20000 in
theorem gX2_refuse_X2_findVoucher : GoodIn wsX2_refuse (wsV RX2 123 RX2 yX2_findVoucher wsX2_findVoucher) := goodIn_app (goodIn_of _ (by decide +kernel)) ggX2_refuse_X2_findVoucher
set_option maxRecDepth 20000 in
theorem ggX2_refuse_X2_eligibleMoreWith : GoodIn wsX2_refuse wsX2_eligibleMoreWith := goodIn_r _ [14, 15, 3, 16, 17, 18, 19, 20, 21, 22, 23, 24, 25, 26, 27, 28, 29, 30, 31, 32, 33, 34, 35, 36, 37, 38, 39, 40, 41, 42, 43, 44, 45, 46, 47, 48, 49, 50, 51, 52, 53, 67, 68, 69, 70, 71, 72, 73] (by decide +kernel) (by decide +kernel)
set_option maxRecDepth 20000 in
theorem gX2_refuse_X2_eligibleMoreWith : GoodIn wsX2_refuse (va_wsS RX2 133 yX2_eligibleMoreWith wsX2_eligibleMoreWith) := goodIn_app (goodIn_of _ (by decide +kernel)) ggX2_refuse_X2_eligibleMoreWith
theorem dX2_refuse_0 : decode cX2_refuse 0 = .ok (.aload_n 0, 1) := by decide +kernel
theorem dX2_refuse_1 : decode cX2_refuse 1 = .ok (.iload_n 1, 1) := by decide +kernel
theorem dX2_refuse_2 : decode cX2_refuse 2 = .ok (.invokevirtual 123, 3) := by decide +kernel
theorem dX2_refuse_5 : decode cX2_refuse 5 = .ok (.astore_n 2, 1) := by decide +kernel
theorem dX2_refuse_6 : decode cX2_refuse 6 = .ok (.aload_n 2, 1) := by decide +kernel
theorem dX2_refuse_7 : decode cX2_refuse 7 = .ok (.getfield 127, 3) := by decide +kernel
theorem dX2_refuse_10 : decode cX2_refuse 10 = .ok (.ifCond .eq 13, 3) := by decide +kernel
theorem dX2_refuse_13 : decode cX2_refuse 13 = .ok (.new 63, 3) := by decide +kernel
theorem dX2_refuse_16 : decode cX2_refuse 16 = .ok (.dup, 1) := by decide +kernel
theorem dX2_refuse_17 : decode cX2_refuse 17 = .ok (.ldc 131, 2) := by decide +kernel
theorem dX2_refuse_19 : decode cX2_refuse 19 = .ok (.invokespecial 67, 3) := by decide +kernel
theorem dX2_refuse_22 : decode cX2_refuse 22 = .ok (.athrow, 1) := by decide +kernel
theorem dX2_refuse_23 : decode cX2_refuse 23 = .ok (.aload_n 2, 1) := by decide +kernel
theorem dX2_refuse_24 : decode cX2_refuse 24 = .ok (.iconst 1, 1) := by decide +kernel
theorem dX2_refuse_25 : decode cX2_refuse 25 = .ok (.invokestatic 133, 3) := by decide +kernel
theorem dX2_refuse_28 : decode cX2_refuse 28 = .ok (.ineg, 1) := by decide +kernel
theorem dX2_refuse_29 : decode cX2_refuse 29 = .ok (.ireturn, 1) := by decide +kernel
set_option maxRecDepth 20000 in
theorem ggX2_admit_X2_findVoucher : GoodIn wsX2_admit wsX2_findVoucher := goodIn_ca (goodIn_r _ [8, 9, 10, 11, 54, 55, 56, 57, 58, 59, 60, 61, 62, 63, 64, 65, 66] (by decide +kernel) (by decide +kernel)) (goodIn_sub (fun _ h => List.mem_cons_of_mem _ (List.mem_append_right _ h)) (by decide +kernel))
set_option maxRecDepth 20000 in
theorem gX2_admit_X2_findVoucher : GoodIn wsX2_admit (wsV RX2 123 RX2 yX2_findVoucher wsX2_findVoucher) := goodIn_app (goodIn_of _ (by decide +kernel)) ggX2_admit_X2_findVoucher
set_option maxRecDepth 20000 in
theorem ggX2_admit_X2_eligibleMoreWith : GoodIn wsX2_admit wsX2_eligibleMoreWith := goodIn_r _ [14, 15, 3, 16, 17, 18, 19, 20, 21, 22, 23, 24, 25, 26, 27, 28, 29, 30, 31, 32, 33, 34, 35, 36, 37, 38, 39, 40, 41, 42, 43, 44, 45, 46, 47, 48, 49, 50, 51, 52, 53, 67, 68, 69, 70, 71, 72, 73] (by decide +kernel) (by decide +kernel)
set_option maxRecDepth 20000 in
theorem gX2_admit_X2_eligibleMoreWith : GoodIn wsX2_admit (va_wsS RX2 133 yX2_eligibleMoreWith wsX2_eligibleMoreWith) := goodIn_app (goodIn_of _ (by decide +kernel)) ggX2_admit_X2_eligibleMoreWith
theorem dX2_admit_0 : decode cX2_admit 0 = .ok (.aload_n 0, 1) := by decide +kernel
theorem dX2_admit_1 : decode cX2_admit 1 = .ok (.iload_n 1, 1) := by decide +kernel
theorem dX2_admit_2 : decode cX2_admit 2 = .ok (.invokevirtual 123, 3) := by decide +kernel
theorem dX2_admit_5 : decode cX2_admit 5 = .ok (.astore_n 2, 1) := by decide +kernel
theorem dX2_admit_6 : decode cX2_admit 6 = .ok (.aload_n 2, 1) := by decide +kernel
theorem dX2_admit_7 : decode cX2_admit 7 = .ok (.getfield 127, 3) := by decide +kernel
theorem dX2_admit_10 : decode cX2_admit 10 = .ok (.ifCond .ne 13, 3) := by decide +kernel
theorem dX2_admit_13 : decode cX2_admit 13 = .ok (.new 63, 3) := by decide +kernel
theorem dX2_admit_16 : decode cX2_admit 16 = .ok (.dup, 1) := by decide +kernel
theorem dX2_admit_17 : decode cX2_admit 17 = .ok (.ldc 137, 2) := by decide +kernel
theorem dX2_admit_19 : decode cX2_admit 19 = .ok (.invokespecial 67, 3) := by decide +kernel
theorem dX2_admit_22 : decode cX2_admit 22 = .ok (.athrow, 1) := by decide +kernel
theorem dX2_admit_23 : decode cX2_admit 23 = .ok (.aload_n 2, 1) := by decide +kernel
theorem dX2_admit_24 : decode cX2_admit 24 = .ok (.iconst 0, 1) := by decide +kernel
theorem dX2_admit_25 : decode cX2_admit 25 = .ok (.invokestatic 133, 3) := by decide +kernel
theorem dX2_admit_28 : decode cX2_admit 28 = .ok (.ireturn, 1) := by decide +kernel
set_option maxRecDepth 20000 in
theorem ggX2_match_X2_checkRange : GoodIn wsX2_match wsX2_checkRange := goodIn_ca (goodIn_r _ [9, 10, 11] (by decide +kernel) (by decide +kernel)) (goodIn_sub (fun _ h => List.mem_cons_of_mem _ (List.mem_append_right _ h)) (by decide +kernel))
set_option maxRecDepth 20000 in
theorem gX2_match_X2_checkRange : GoodIn wsX2_match (va_wsS RX2 59 yX2_checkRange wsX2_checkRange) := goodIn_app (goodIn_of _ (by decide +kernel)) ggX2_match_X2_checkRange
theorem dX2_match_0 : decode cX2_match 0 = .ok (.iload_n 1, 1) := by decide +kernel
theorem dX2_match_1 : decode cX2_match 1 = .ok (.iconst 1, 1) := by decide +kernel
theorem dX2_match_2 : decode cX2_match 2 = .ok (.ldc 70, 2) := by decide +kernel
theorem dX2_match_4 : decode cX2_match 4 = .ok (.invokestatic 59, 3) := by decide +kernel
theorem dX2_match_7 : decode cX2_match 7 = .ok (.aload_n 0, 1) := by decide +kernel
theorem dX2_match_8 : decode cX2_match 8 = .ok (.getfield 42, 3) := by decide +kernel
theorem dX2_match_11 : decode cX2_match 11 = .ok (.iload_n 1, 1) := by decide +kernel
theorem dX2_match_12 : decode cX2_match 12 = .ok (.iadd, 1) := by decide +kernel
theorem dX2_match_13 : decode cX2_match 13 = .ok (.ldc 58, 2) := by decide +kernel
theorem dX2_match_15 : decode cX2_match 15 = .ok (.if_icmp .le 13, 3) := by decide +kernel
theorem dX2_match_18 : decode cX2_match 18 = .ok (.new 63, 3) := by decide +kernel
theorem dX2_match_21 : decode cX2_match 21 = .ok (.dup, 1) := by decide +kernel
theorem dX2_match_22 : decode cX2_match 22 = .ok (.ldc 139, 2) := by decide +kernel
theorem dX2_match_24 : decode cX2_match 24 = .ok (.invokespecial 67, 3) := by decide +kernel
theorem dX2_match_27 : decode cX2_match 27 = .ok (.athrow, 1) := by decide +kernel
theorem dX2_match_28 : decode cX2_match 28 = .ok (.aload_n 0, 1) := by decide +kernel
theorem dX2_match_29 : decode cX2_match 29 = .ok (.dup, 1) := by decide +kernel
theorem dX2_match_30 : decode cX2_match 30 = .ok (.getfield 42, 3) := by decide +kernel
theorem dX2_match_33 : decode cX2_match 33 = .ok (.iload_n 1, 1) := by decide +kernel
theorem dX2_match_34 : decode cX2_match 34 = .ok (.iadd, 1) := by decide +kernel
theorem dX2_match_35 : decode cX2_match 35 = .ok (.putfield 42, 3) := by decide +kernel
theorem dX2_match_38 : decode cX2_match 38 = .ok (.aload_n 0, 1) := by decide +kernel
theorem dX2_match_39 : decode cX2_match 39 = .ok (.getfield 42, 3) := by decide +kernel
theorem dX2_match_42 : decode cX2_match 42 = .ok (.ireturn, 1) := by decide +kernel
theorem dX2_vouchers_0 : decode cX2_vouchers 0 = .ok (.aload_n 0, 1) := by decide +kernel
theorem dX2_vouchers_1 : decode cX2_vouchers 1 = .ok (.getfield 39, 3) := by decide +kernel
theorem dX2_vouchers_4 : decode cX2_vouchers 4 = .ok (.ireturn, 1) := by decide +kernel
set_option maxRecDepth 20000 in
theorem ggX2_fits_X2_findVoucher : GoodIn wsX2_fits wsX2_findVoucher := goodIn_ca (goodIn_r _ [6, 7, 8, 9, 25, 26, 27, 28, 29, 30, 31, 32, 33, 34, 35, 36, 37] (by decide +kernel) (by decide +kernel)) (goodIn_sub (fun _ h => List.mem_cons_of_mem _ (List.mem_append_right _ h)) (by decide +kernel))
set_option maxRecDepth 20000 in
theorem gX2_fits_X2_findVoucher : GoodIn wsX2_fits (wsV RX2 123 RX2 yX2_findVoucher wsX2_findVoucher) := goodIn_app (goodIn_of _ (by decide +kernel)) ggX2_fits_X2_findVoucher
set_option maxRecDepth 20000 in
theorem ggX2_fits_X0_accepts : GoodIn wsX2_fits wsX0_accepts := goodIn_r _ [14, 15, 16, 17, 18, 19, 20, 21, 22, 23, 24, 38, 39, 40, 41, 42, 43, 44] (by decide +kernel) (by decide +kernel)
set_option maxRecDepth 20000 in
theorem gX2_fits_X0_accepts : GoodIn wsX2_fits (wsV RX2 145 RX0 yX0_accepts wsX0_accepts) := goodIn_app (goodIn_of _ (by decide +kernel)) ggX2_fits_X0_accepts
theorem dX2_fits_0 : decode cX2_fits 0 = .ok (.aload_n 0, 1) := by decide +kernel
theorem dX2_fits_1 : decode cX2_fits 1 = .ok (.iload_n 1, 1) := by decide +kernel
theorem dX2_fits_2 : decode cX2_fits 2 = .ok (.invokevirtual 123, 3) := by decide +kernel
theorem dX2_fits_5 : decode cX2_fits 5 = .ok (.astore_n 2, 1) := by decide +kernel
theorem dX2_fits_6 : decode cX2_fits 6 = .ok (.aload_n 2, 1) := by decide +kernel
theorem dX2_fits_7 : decode cX2_fits 7 = .ok (.getfield 141, 3) := by decide +kernel
theorem dX2_fits_10 : decode cX2_fits 10 = .ok (.aload_n 2, 1) := by decide +kernel
theorem dX2_fits_11 : decode cX2_fits 11 = .ok (.invokevirtual 145, 3) := by decide +kernel
theorem dX2_fits_14 : decode cX2_fits 14 = .ok (.ireturn, 1) := by decide +kernel
set_option maxRecDepth 20000 in
theorem ggX2_eligible_X2_findVoucher : GoodIn wsX2_eligible wsX2_findVoucher := goodIn_ca (goodIn_r _ [6, 7, 8, 9, 16, 17, 18, 19, 20, 21, 22, 23, 24, 25, 26, 27, 28] (by decide +kernel) (by decide +kernel)) (goodIn_sub (fun _ h => List.mem_cons_of_mem _ (List.mem_append_right _ h)) (by decide +kernel))
set_option maxRecDepth 20000 in
theorem gX2_eligible_X2_findVoucher : GoodIn wsX2_eligible (wsV RX2 123 RX2 yX2_findVoucher wsX2_findVoucher) := goodIn_app (goodIn_of _ (by decide +kernel)) ggX2_eligible_X2_findVoucher
theorem dX2_eligible_0 : decode cX2_eligible 0 = .ok (.aload_n 0, 1) := by decide +kernel
theorem dX2_eligible_1 : decode cX2_eligible 1 = .ok (.iload_n 1, 1) := by decide +kernel
theorem dX2_eligible_2 : decode cX2_eligible 2 = .ok (.invokevirtual 123, 3) := by decide +kernel
theorem dX2_eligible_5 : decode cX2_eligible 5 = .ok (.getfield 149, 3) := by decide +kernel
theorem dX2_eligible_8 : decode cX2_eligible 8 = .ok (.ireturn, 1) := by decide +kernel
set_option maxRecDepth 20000 in
theorem ggX2_costs_X2_checkDay : GoodIn wsX2_costs wsX2_checkDay := goodIn_ca (goodIn_r _ [4, 5, 6, 3, 7, 8, 9] (by decide +kernel) (by decide +kernel)) (goodIn_sub (fun _ h => List.mem_cons_of_mem _ (List.mem_append_right _ h)) (by decide +kernel))
set_option maxRecDepth 20000 in
theorem gX2_costs_X2_checkDay : GoodIn wsX2_costs (va_wsS RX2 71 yX2_checkDay wsX2_checkDay) := goodIn_app (goodIn_of _ (by decide +kernel)) ggX2_costs_X2_checkDay
set_option maxRecDepth 20000 in
theorem ggX2_costs_X2_costsUpTo : GoodIn wsX2_costs wsX2_costsUpTo := goodIn_r _ [13, 14, 15, 16, 3, 17, 18, 19, 20, 21, 22, 23, 24, 25, 26, 27, 28, 29, 30, 31, 32, 33, 34, 35, 36, 37, 38, 39, 40, 41, 42, 43, 44, 45, 46, 47, 48, 49, 50, 51, 52, 53, 54] (by decide +kernel) (by decide +kernel)
set_option maxRecDepth 20000 in
theorem gX2_costs_X2_costsUpTo : GoodIn wsX2_costs (wsV RX2 152 RX2 yX2_costsUpTo wsX2_costsUpTo) := goodIn_app (goodIn_of _ (by decide +kernel)) ggX2_costs_X2_costsUpTo
theorem dX2_costs_0 : decode cX2_costs 0 = .ok (.iload_n 1, 1) := by decide +kernel
theorem dX2_costs_1 : decode cX2_costs 1 = .ok (.invokestatic 71, 3) := by decide +kernel
theorem dX2_costs_4 : decode cX2_costs 4 = .ok (.aload_n 0, 1) := by decide +kernel
theorem dX2_costs_5 : decode cX2_costs 5 = .ok (.iload_n 1, 1) := by decide +kernel
theorem dX2_costs_6 : decode cX2_costs 6 = .ok (.invokevirtual 152, 3) := by decide +kernel
theorem dX2_costs_9 : decode cX2_costs 9 = .ok (.ireturn, 1) := by decide +kernel
set_option maxRecDepth 20000 in
theorem ggX2_overhead_X2_checkDay : GoodIn wsX2_overhead wsX2_checkDay := goodIn_ca (goodIn_r _ [4, 5, 6, 3, 7, 8, 9] (by decide +kernel) (by decide +kernel)) (goodIn_sub (fun _ h => List.mem_cons_of_mem _ (List.mem_append_right _ h)) (by decide +kernel))
set_option maxRecDepth 20000 in
theorem gX2_overhead_X2_checkDay : GoodIn wsX2_overhead (va_wsS RX2 71 yX2_checkDay wsX2_checkDay) := goodIn_app (goodIn_of _ (by decide +kernel)) ggX2_overhead_X2_checkDay
set_option maxRecDepth 20000 in
theorem ggX2_overhead_X2_overheadUpTo : GoodIn wsX2_overhead wsX2_overheadUpTo := goodIn_r _ [13, 14, 15, 16, 17, 18, 19, 20, 21, 22, 23, 3, 24, 25, 26, 27, 28, 29, 30, 31, 32, 33, 34, 35, 36, 37, 38, 39, 40, 41, 42, 43, 44, 45, 46, 47, 48, 49, 50, 51, 52, 53, 54, 55, 56, 57, 58, 59, 60, 61] (by decide +kernel) (by decide +kernel)
set_option maxRecDepth 20000 in
theorem gX2_overhead_X2_overheadUpTo : GoodIn wsX2_overhead (wsV RX2 155 RX2 yX2_overheadUpTo wsX2_overheadUpTo) := goodIn_app (goodIn_of _ (by decide +kernel)) ggX2_overhead_X2_overheadUpTo
theorem dX2_overhead_0 : decode cX2_overhead 0 = .ok (.iload_n 1, 1) := by decide +kernel
theorem dX2_overhead_1 : decode cX2_overhead 1 = .ok (.invokestatic 71, 3) := by decide +kernel
theorem dX2_overhead_4 : decode cX2_overhead 4 = .ok (.aload_n 0, 1) := by decide +kernel
theorem dX2_overhead_5 : decode cX2_overhead 5 = .ok (.iload_n 1, 1) := by decide +kernel
theorem dX2_overhead_6 : decode cX2_overhead 6 = .ok (.invokevirtual 155, 3) := by decide +kernel
theorem dX2_overhead_9 : decode cX2_overhead 9 = .ok (.ireturn, 1) := by decide +kernel
set_option maxRecDepth 20000 in
theorem ggX2_earned_X2_checkDay : GoodIn wsX2_earned wsX2_checkDay := goodIn_ca (goodIn_r _ [4, 5, 6, 3, 7, 8, 9] (by decide +kernel) (by decide +kernel)) (goodIn_sub (fun _ h => List.mem_cons_of_mem _ (List.mem_append_right _ h)) (by decide +kernel))
set_option maxRecDepth 20000 in
theorem gX2_earned_X2_checkDay : GoodIn wsX2_earned (va_wsS RX2 71 yX2_checkDay wsX2_checkDay) := goodIn_app (goodIn_of _ (by decide +kernel)) ggX2_earned_X2_checkDay
set_option maxRecDepth 20000 in
theorem ggX2_earned_X2_earnedUpTo : GoodIn wsX2_earned wsX2_earnedUpTo := goodIn_r _ [13, 14, 15, 16, 17, 18, 19, 20, 21, 22, 3, 23, 24, 25, 26, 27, 28, 29, 30, 31, 32, 33, 34, 35, 36, 37, 38, 39, 40, 41, 42, 43, 44, 45, 46, 47, 48, 49, 50, 51, 52, 53, 54, 55, 56, 57, 58, 59, 60, 61, 62, 63, 64, 65, 66, 67, 68, 69, 70, 71, 72, 73, 74, 75, 76] (by decide +kernel) (by decide +kernel)
set_option maxRecDepth 20000 in
theorem gX2_earned_X2_earnedUpTo : GoodIn wsX2_earned (wsV RX2 158 RX2 yX2_earnedUpTo wsX2_earnedUpTo) := goodIn_app (goodIn_of _ (by decide +kernel)) ggX2_earned_X2_earnedUpTo
theorem dX2_earned_0 : decode cX2_earned 0 = .ok (.iload_n 1, 1) := by decide +kernel
theorem dX2_earned_1 : decode cX2_earned 1 = .ok (.invokestatic 71, 3) := by decide +kernel
theorem dX2_earned_4 : decode cX2_earned 4 = .ok (.aload_n 0, 1) := by decide +kernel
theorem dX2_earned_5 : decode cX2_earned 5 = .ok (.iload_n 1, 1) := by decide +kernel
theorem dX2_earned_6 : decode cX2_earned 6 = .ok (.invokevirtual 158, 3) := by decide +kernel
theorem dX2_earned_9 : decode cX2_earned 9 = .ok (.ireturn, 1) := by decide +kernel
set_option maxRecDepth 20000 in
theorem ggX2_missingMatch_X2_checkDay : GoodIn wsX2_missingMatch wsX2_checkDay := goodIn_ca (goodIn_r _ [9, 10, 11, 8, 12, 13, 14] (by decide +kernel) (by decide +kernel)) (goodIn_sub (fun _ h => List.mem_cons_of_mem _ (List.mem_append_right _ h)) (by decide +kernel))
set_option maxRecDepth 20000 in
theorem gX2_missingMatch_X2_checkDay : GoodIn wsX2_missingMatch (va_wsS RX2 71 yX2_checkDay wsX2_checkDay) := goodIn_app (goodIn_of _ (by decide +kernel)) ggX2_missingMatch_X2_checkDay
set_option maxRecDepth 20000 in
theorem ggX2_missingMatch_X2_earnedButForMatch : GoodIn wsX2_missingMatch wsX2_earnedButForMatch := goodIn_r _ [18, 19, 20, 21, 22, 23, 4, 24, 25, 26, 27, 8, 28, 29, 30, 31, 32, 33, 34, 35, 36, 37, 38, 39, 40, 41, 42, 43, 44, 45, 46, 47, 48, 49, 54, 55, 56, 57, 58, 59, 60, 61, 62, 63, 64, 65, 66, 67, 68, 69, 70, 71, 72, 73, 74, 75, 76, 77, 78, 79] (by decide +kernel) (by decide +kernel)
set_option maxRecDepth 20000 in
theorem gX2_missingMatch_X2_earnedButForMatch : GoodIn wsX2_missingMatch (wsV RX2 161 RX2 yX2_earnedButForMatch wsX2_earnedButForMatch) := goodIn_app (goodIn_of _ (by decide +kernel)) ggX2_missingMatch_X2_earnedButForMatch
set_option maxRecDepth 20000 in
theorem ggX2_missingMatch_X2_leastMatchFor : GoodIn wsX2_missingMatch wsX2_leastMatchFor := goodIn_r _ [53, 19, 54, 55, 56, 57, 58, 59, 60, 61, 62, 63, 64, 65, 66] (by decide +kernel) (by decide +kernel)
set_option maxRecDepth 20000 in
theorem gX2_missingMatch_X2_leastMatchFor : GoodIn wsX2_missingMatch (wsV RX2 165 RX2 yX2_leastMatchFor wsX2_leastMatchFor) := goodIn_app (goodIn_of _ (by decide +kernel)) ggX2_missingMatch_X2_leastMatchFor
theorem dX2_missingMatch_0 : decode cX2_missingMatch 0 = .ok (.iload_n 1, 1) := by decide +kernel
theorem dX2_missingMatch_1 : decode cX2_missingMatch 1 = .ok (.invokestatic 71, 3) := by decide +kernel
theorem dX2_missingMatch_4 : decode cX2_missingMatch 4 = .ok (.aload_n 0, 1) := by decide +kernel
theorem dX2_missingMatch_5 : decode cX2_missingMatch 5 = .ok (.aload_n 0, 1) := by decide +kernel
theorem dX2_missingMatch_6 : decode cX2_missingMatch 6 = .ok (.iload_n 1, 1) := by decide +kernel
theorem dX2_missingMatch_7 : decode cX2_missingMatch 7 = .ok (.invokevirtual 161, 3) := by decide +kernel
theorem dX2_missingMatch_10 : decode cX2_missingMatch 10 = .ok (.invokevirtual 165, 3) := by decide +kernel
theorem dX2_missingMatch_13 : decode cX2_missingMatch 13 = .ok (.aload_n 0, 1) := by decide +kernel
theorem dX2_missingMatch_14 : decode cX2_missingMatch 14 = .ok (.getfield 42, 3) := by decide +kernel
theorem dX2_missingMatch_17 : decode cX2_missingMatch 17 = .ok (.i2l, 1) := by decide +kernel
theorem dX2_missingMatch_18 : decode cX2_missingMatch 18 = .ok (.lsub, 1) := by decide +kernel
theorem dX2_missingMatch_19 : decode cX2_missingMatch 19 = .ok (.lstore_n 2, 1) := by decide +kernel
theorem dX2_missingMatch_20 : decode cX2_missingMatch 20 = .ok (.lload_n 2, 1) := by decide +kernel
theorem dX2_missingMatch_21 : decode cX2_missingMatch 21 = .ok (.lconst 0, 1) := by decide +kernel
theorem dX2_missingMatch_22 : decode cX2_missingMatch 22 = .ok (.invokestatic 169, 3) := by decide +kernel
theorem dX2_missingMatch_25 : decode cX2_missingMatch 25 = .ok (.l2i, 1) := by decide +kernel
theorem dX2_missingMatch_26 : decode cX2_missingMatch 26 = .ok (.ireturn, 1) := by decide +kernel
set_option maxRecDepth 20000 in
theorem ggX2_claim_X2_checkRange : GoodIn wsX2_claim wsX2_checkRange := goodIn_ca (goodIn_r _ [10, 11, 12] (by decide +kernel) (by decide +kernel)) (goodIn_sub (fun _ h => List.mem_cons_of_mem _ (List.mem_append_right _ h)) (by decide +kernel))
set_option maxRecDepth 20000 in
theorem gX2_claim_X2_checkRange : GoodIn wsX2_claim (va_wsS RX2 59 yX2_checkRange wsX2_checkRange) := goodIn_app (goodIn_of _ (by decide +kernel)) ggX2_claim_X2_checkRange
set_option maxRecDepth 20000 in
theorem ggX2_claim_X2_earnedUpTo : GoodIn wsX2_claim wsX2_earnedUpTo := goodIn_r _ [16, 17, 18, 19, 20, 21, 22, 23, 24, 25, 9, 26, 27, 28, 29, 30, 31, 32, 33, 34, 35, 36, 37, 38, 39, 40, 41, 42, 43, 44, 45, 46, 47, 48, 49, 50, 51, 52, 53, 54, 55, 56, 57, 58, 59, 60, 61, 62, 63, 64, 65, 66, 67, 68, 69, 70, 71, 72, 73, 74, 75, 76, 77, 78, 79] (by decide +kernel) (by decide +kernel)
set_option maxRecDepth 20000 in
theorem gX2_claim_X2_earnedUpTo : GoodIn wsX2_claim (wsV RX2 158 RX2 yX2_earnedUpTo wsX2_earnedUpTo) := goodIn_app (goodIn_of _ (by decide +kernel)) ggX2_claim_X2_earnedUpTo
theorem dX2_claim_0 : decode cX2_claim 0 = .ok (.iload_n 1, 1) := by decide +kernel
theorem dX2_claim_1 : decode cX2_claim 1 = .ok (.aload_n 0, 1) := by decide +kernel
theorem dX2_claim_2 : decode cX2_claim 2 = .ok (.getfield 52, 3) := by decide +kernel
theorem dX2_claim_5 : decode cX2_claim 5 = .ok (.sipush 9999, 3) := by decide +kernel
theorem dX2_claim_8 : decode cX2_claim 8 = .ok (.invokestatic 59, 3) := by decide +kernel
theorem dX2_claim_11 : decode cX2_claim 11 = .ok (.aload_n 0, 1) := by decide +kernel
theorem dX2_claim_12 : decode cX2_claim 12 = .ok (.getfield 49, 3) := by decide +kernel
theorem dX2_claim_15 : decode cX2_claim 15 = .ok (.istore_n 2, 1) := by decide +kernel
theorem dX2_claim_16 : decode cX2_claim 16 = .ok (.iload_n 2, 1) := by decide +kernel
theorem dX2_claim_17 : decode cX2_claim 17 = .ok (.aload_n 0, 1) := by decide +kernel
theorem dX2_claim_18 : decode cX2_claim 18 = .ok (.getfield 45, 3) := by decide +kernel
theorem dX2_claim_21 : decode cX2_claim 21 = .ok (.arraylength, 1) := by decide +kernel
theorem dX2_claim_22 : decode cX2_claim 22 = .ok (.if_icmp .lt 13, 3) := by decide +kernel
theorem dX2_claim_25 : decode cX2_claim 25 = .ok (.new 63, 3) := by decide +kernel
theorem dX2_claim_28 : decode cX2_claim 28 = .ok (.dup, 1) := by decide +kernel
theorem dX2_claim_29 : decode cX2_claim 29 = .ok (.ldc 175, 2) := by decide +kernel
theorem dX2_claim_31 : decode cX2_claim 31 = .ok (.invokespecial 67, 3) := by decide +kernel
theorem dX2_claim_34 : decode cX2_claim 34 = .ok (.athrow, 1) := by decide +kernel
theorem dX2_claim_35 : decode cX2_claim 35 = .ok (.aload_n 0, 1) := by decide +kernel
theorem dX2_claim_36 : decode cX2_claim 36 = .ok (.iload_n 1, 1) := by decide +kernel
theorem dX2_claim_37 : decode cX2_claim 37 = .ok (.invokevirtual 158, 3) := by decide +kernel
theorem dX2_claim_40 : decode cX2_claim 40 = .ok (.aload_n 0, 1) := by decide +kernel
theorem dX2_claim_41 : decode cX2_claim 41 = .ok (.getfield 55, 3) := by decide +kernel
theorem dX2_claim_44 : decode cX2_claim 44 = .ok (.isub, 1) := by decide +kernel
theorem dX2_claim_45 : decode cX2_claim 45 = .ok (.istore_n 3, 1) := by decide +kernel
theorem dX2_claim_46 : decode cX2_claim 46 = .ok (.aload_n 0, 1) := by decide +kernel
theorem dX2_claim_47 : decode cX2_claim 47 = .ok (.getfield 45, 3) := by decide +kernel
theorem dX2_claim_50 : decode cX2_claim 50 = .ok (.iload_n 2, 1) := by decide +kernel
theorem dX2_claim_51 : decode cX2_claim 51 = .ok (.iload_n 3, 1) := by decide +kernel
theorem dX2_claim_52 : decode cX2_claim 52 = .ok (.iastore, 1) := by decide +kernel
theorem dX2_claim_53 : decode cX2_claim 53 = .ok (.aload_n 0, 1) := by decide +kernel
theorem dX2_claim_54 : decode cX2_claim 54 = .ok (.iload_n 2, 1) := by decide +kernel
theorem dX2_claim_55 : decode cX2_claim 55 = .ok (.iconst 1, 1) := by decide +kernel
theorem dX2_claim_56 : decode cX2_claim 56 = .ok (.iadd, 1) := by decide +kernel
theorem dX2_claim_57 : decode cX2_claim 57 = .ok (.putfield 49, 3) := by decide +kernel
theorem dX2_claim_60 : decode cX2_claim 60 = .ok (.aload_n 0, 1) := by decide +kernel
theorem dX2_claim_61 : decode cX2_claim 61 = .ok (.iload_n 1, 1) := by decide +kernel
theorem dX2_claim_62 : decode cX2_claim 62 = .ok (.putfield 52, 3) := by decide +kernel
theorem dX2_claim_65 : decode cX2_claim 65 = .ok (.aload_n 0, 1) := by decide +kernel
theorem dX2_claim_66 : decode cX2_claim 66 = .ok (.dup, 1) := by decide +kernel
theorem dX2_claim_67 : decode cX2_claim 67 = .ok (.getfield 55, 3) := by decide +kernel
theorem dX2_claim_70 : decode cX2_claim 70 = .ok (.iload_n 3, 1) := by decide +kernel
theorem dX2_claim_71 : decode cX2_claim 71 = .ok (.iadd, 1) := by decide +kernel
theorem dX2_claim_72 : decode cX2_claim 72 = .ok (.putfield 55, 3) := by decide +kernel
theorem dX2_claim_75 : decode cX2_claim 75 = .ok (.iload_n 3, 1) := by decide +kernel
theorem dX2_claim_76 : decode cX2_claim 76 = .ok (.ireturn, 1) := by decide +kernel
theorem dX2_claims_0 : decode cX2_claims 0 = .ok (.aload_n 0, 1) := by decide +kernel
theorem dX2_claims_1 : decode cX2_claims 1 = .ok (.getfield 49, 3) := by decide +kernel
theorem dX2_claims_4 : decode cX2_claims 4 = .ok (.ireturn, 1) := by decide +kernel
theorem dX2_paid_0 : decode cX2_paid 0 = .ok (.iload_n 1, 1) := by decide +kernel
theorem dX2_paid_1 : decode cX2_paid 1 = .ok (.ifCond .lt 20, 3) := by decide +kernel
theorem dX2_paid_4 : decode cX2_paid 4 = .ok (.iload_n 1, 1) := by decide +kernel
theorem dX2_paid_5 : decode cX2_paid 5 = .ok (.aload_n 0, 1) := by decide +kernel
theorem dX2_paid_6 : decode cX2_paid 6 = .ok (.getfield 49, 3) := by decide +kernel
theorem dX2_paid_9 : decode cX2_paid 9 = .ok (.if_icmp .ge 12, 3) := by decide +kernel
theorem dX2_paid_12 : decode cX2_paid 12 = .ok (.iload_n 1, 1) := by decide +kernel
theorem dX2_paid_13 : decode cX2_paid 13 = .ok (.aload_n 0, 1) := by decide +kernel
theorem dX2_paid_14 : decode cX2_paid 14 = .ok (.getfield 45, 3) := by decide +kernel
theorem dX2_paid_17 : decode cX2_paid 17 = .ok (.arraylength, 1) := by decide +kernel
theorem dX2_paid_18 : decode cX2_paid 18 = .ok (.if_icmp .lt 13, 3) := by decide +kernel
theorem dX2_paid_21 : decode cX2_paid 21 = .ok (.new 177, 3) := by decide +kernel
theorem dX2_paid_24 : decode cX2_paid 24 = .ok (.dup, 1) := by decide +kernel
theorem dX2_paid_25 : decode cX2_paid 25 = .ok (.ldc 179, 2) := by decide +kernel
theorem dX2_paid_27 : decode cX2_paid 27 = .ok (.invokespecial 181, 3) := by decide +kernel
theorem dX2_paid_30 : decode cX2_paid 30 = .ok (.athrow, 1) := by decide +kernel
theorem dX2_paid_31 : decode cX2_paid 31 = .ok (.aload_n 0, 1) := by decide +kernel
theorem dX2_paid_32 : decode cX2_paid 32 = .ok (.getfield 45, 3) := by decide +kernel
theorem dX2_paid_35 : decode cX2_paid 35 = .ok (.iload_n 1, 1) := by decide +kernel
theorem dX2_paid_36 : decode cX2_paid 36 = .ok (.iaload, 1) := by decide +kernel
theorem dX2_paid_37 : decode cX2_paid 37 = .ok (.ireturn, 1) := by decide +kernel
set_option maxRecDepth 20000 in
theorem ggX2_unsettled_X2_earnedUpTo : GoodIn wsX2_unsettled wsX2_earnedUpTo := goodIn_r _ [8, 9, 10, 11, 12, 13, 14, 15, 16, 17, 7, 18, 19, 20, 21, 22, 23, 24, 25, 26, 27, 28, 29, 30, 31, 32, 33, 34, 35, 36, 37, 38, 39, 40, 41, 42, 43, 44, 45, 46, 47, 48, 49, 50, 51, 52, 53, 54, 55, 56, 57, 58, 59, 60, 61, 62, 63, 64, 65, 66, 67, 68, 69, 70, 71] (by decide +kernel) (by decide +kernel)
set_option maxRecDepth 20000 in
theorem gX2_unsettled_X2_earnedUpTo : GoodIn wsX2_unsettled (wsV RX2 158 RX2 yX2_earnedUpTo wsX2_earnedUpTo) := goodIn_app (goodIn_of _ (by decide +kernel)) ggX2_unsettled_X2_earnedUpTo
theorem dX2_unsettled_0 : decode cX2_unsettled 0 = .ok (.aload_n 0, 1) := by decide +kernel
theorem dX2_unsettled_1 : decode cX2_unsettled 1 = .ok (.getfield 49, 3) := by decide +kernel
theorem dX2_unsettled_4 : decode cX2_unsettled 4 = .ok (.ifCond .ne 7, 3) := by decide +kernel
theorem dX2_unsettled_7 : decode cX2_unsettled 7 = .ok (.iconst 0, 1) := by decide +kernel
theorem dX2_unsettled_8 : decode cX2_unsettled 8 = .ok (.goto 16, 3) := by decide +kernel
theorem dX2_unsettled_11 : decode cX2_unsettled 11 = .ok (.aload_n 0, 1) := by decide +kernel
theorem dX2_unsettled_12 : decode cX2_unsettled 12 = .ok (.aload_n 0, 1) := by decide +kernel
theorem dX2_unsettled_13 : decode cX2_unsettled 13 = .ok (.getfield 52, 3) := by decide +kernel
theorem dX2_unsettled_16 : decode cX2_unsettled 16 = .ok (.invokevirtual 158, 3) := by decide +kernel
theorem dX2_unsettled_19 : decode cX2_unsettled 19 = .ok (.aload_n 0, 1) := by decide +kernel
theorem dX2_unsettled_20 : decode cX2_unsettled 20 = .ok (.getfield 55, 3) := by decide +kernel
theorem dX2_unsettled_23 : decode cX2_unsettled 23 = .ok (.isub, 1) := by decide +kernel
theorem dX2_unsettled_24 : decode cX2_unsettled 24 = .ok (.ireturn, 1) := by decide +kernel
theorem dX2_checkRange_0 : decode cX2_checkRange 0 = .ok (.iload_n 0, 1) := by decide +kernel
theorem dX2_checkRange_1 : decode cX2_checkRange 1 = .ok (.iload_n 1, 1) := by decide +kernel
theorem dX2_checkRange_2 : decode cX2_checkRange 2 = .ok (.if_icmp .lt 8, 3) := by decide +kernel
theorem dX2_checkRange_5 : decode cX2_checkRange 5 = .ok (.iload_n 0, 1) := by decide +kernel
theorem dX2_checkRange_6 : decode cX2_checkRange 6 = .ok (.iload_n 2, 1) := by decide +kernel
theorem dX2_checkRange_7 : decode cX2_checkRange 7 = .ok (.if_icmp .le 13, 3) := by decide +kernel
theorem dX2_checkRange_10 : decode cX2_checkRange 10 = .ok (.new 90, 3) := by decide +kernel
theorem dX2_checkRange_13 : decode cX2_checkRange 13 = .ok (.dup, 1) := by decide +kernel
theorem dX2_checkRange_14 : decode cX2_checkRange 14 = .ok (.ldc 182, 2) := by decide +kernel
theorem dX2_checkRange_16 : decode cX2_checkRange 16 = .ok (.invokespecial 94, 3) := by decide +kernel
theorem dX2_checkRange_19 : decode cX2_checkRange 19 = .ok (.athrow, 1) := by decide +kernel
theorem dX2_checkRange_20 : decode cX2_checkRange 20 = .ok (.return_, 1) := by decide +kernel
set_option maxRecDepth 20000 in
theorem ggX2_checkDay_X2_checkRange : GoodIn wsX2_checkDay wsX2_checkRange := goodIn_ca (goodIn_r _ [4, 5, 6] (by decide +kernel) (by decide +kernel)) (goodIn_sub (fun _ h => List.mem_cons_of_mem _ (List.mem_append_right _ h)) (by decide +kernel))
set_option maxRecDepth 20000 in
theorem gX2_checkDay_X2_checkRange : GoodIn wsX2_checkDay (va_wsS RX2 59 yX2_checkRange wsX2_checkRange) := goodIn_app (goodIn_of _ (by decide +kernel)) ggX2_checkDay_X2_checkRange
theorem dX2_checkDay_0 : decode cX2_checkDay 0 = .ok (.iload_n 0, 1) := by decide +kernel
theorem dX2_checkDay_1 : decode cX2_checkDay 1 = .ok (.iconst 0, 1) := by decide +kernel
theorem dX2_checkDay_2 : decode cX2_checkDay 2 = .ok (.sipush 9999, 3) := by decide +kernel
theorem dX2_checkDay_5 : decode cX2_checkDay 5 = .ok (.invokestatic 59, 3) := by decide +kernel
theorem dX2_checkDay_8 : decode cX2_checkDay 8 = .ok (.return_, 1) := by decide +kernel
theorem dX2_findLine_0 : decode cX2_findLine 0 = .ok (.iload_n 1, 1) := by decide +kernel
theorem dX2_findLine_1 : decode cX2_findLine 1 = .ok (.ifCond .lt 21, 3) := by decide +kernel
theorem dX2_findLine_4 : decode cX2_findLine 4 = .ok (.iload_n 1, 1) := by decide +kernel
theorem dX2_findLine_5 : decode cX2_findLine 5 = .ok (.aload_n 0, 1) := by decide +kernel
theorem dX2_findLine_6 : decode cX2_findLine 6 = .ok (.getfield 26, 3) := by decide +kernel
theorem dX2_findLine_9 : decode cX2_findLine 9 = .ok (.arraylength, 1) := by decide +kernel
theorem dX2_findLine_10 : decode cX2_findLine 10 = .ok (.if_icmp .ge 12, 3) := by decide +kernel
theorem dX2_findLine_13 : decode cX2_findLine 13 = .ok (.aload_n 0, 1) := by decide +kernel
theorem dX2_findLine_14 : decode cX2_findLine 14 = .ok (.getfield 26, 3) := by decide +kernel
theorem dX2_findLine_17 : decode cX2_findLine 17 = .ok (.iload_n 1, 1) := by decide +kernel
theorem dX2_findLine_18 : decode cX2_findLine 18 = .ok (.aaload, 1) := by decide +kernel
theorem dX2_findLine_19 : decode cX2_findLine 19 = .ok (.goto 4, 3) := by decide +kernel
theorem dX2_findLine_22 : decode cX2_findLine 22 = .ok (.aconst_null, 1) := by decide +kernel
theorem dX2_findLine_23 : decode cX2_findLine 23 = .ok (.astore_n 2, 1) := by decide +kernel
theorem dX2_findLine_24 : decode cX2_findLine 24 = .ok (.aload_n 2, 1) := by decide +kernel
theorem dX2_findLine_25 : decode cX2_findLine 25 = .ok (.ifnonnull 13, 3) := by decide +kernel
theorem dX2_findLine_28 : decode cX2_findLine 28 = .ok (.new 177, 3) := by decide +kernel
theorem dX2_findLine_31 : decode cX2_findLine 31 = .ok (.dup, 1) := by decide +kernel
theorem dX2_findLine_32 : decode cX2_findLine 32 = .ok (.ldc 184, 2) := by decide +kernel
theorem dX2_findLine_34 : decode cX2_findLine 34 = .ok (.invokespecial 181, 3) := by decide +kernel
theorem dX2_findLine_37 : decode cX2_findLine 37 = .ok (.athrow, 1) := by decide +kernel
theorem dX2_findLine_38 : decode cX2_findLine 38 = .ok (.aload_n 2, 1) := by decide +kernel
theorem dX2_findLine_39 : decode cX2_findLine 39 = .ok (.areturn, 1) := by decide +kernel
theorem dX2_findVoucher_0 : decode cX2_findVoucher 0 = .ok (.iload_n 1, 1) := by decide +kernel
theorem dX2_findVoucher_1 : decode cX2_findVoucher 1 = .ok (.ifCond .lt 21, 3) := by decide +kernel
theorem dX2_findVoucher_4 : decode cX2_findVoucher 4 = .ok (.iload_n 1, 1) := by decide +kernel
theorem dX2_findVoucher_5 : decode cX2_findVoucher 5 = .ok (.aload_n 0, 1) := by decide +kernel
theorem dX2_findVoucher_6 : decode cX2_findVoucher 6 = .ok (.getfield 35, 3) := by decide +kernel
theorem dX2_findVoucher_9 : decode cX2_findVoucher 9 = .ok (.arraylength, 1) := by decide +kernel
theorem dX2_findVoucher_10 : decode cX2_findVoucher 10 = .ok (.if_icmp .ge 12, 3) := by decide +kernel
theorem dX2_findVoucher_13 : decode cX2_findVoucher 13 = .ok (.aload_n 0, 1) := by decide +kernel
theorem dX2_findVoucher_14 : decode cX2_findVoucher 14 = .ok (.getfield 35, 3) := by decide +kernel
theorem dX2_findVoucher_17 : decode cX2_findVoucher 17 = .ok (.iload_n 1, 1) := by decide +kernel
theorem dX2_findVoucher_18 : decode cX2_findVoucher 18 = .ok (.aaload, 1) := by decide +kernel
theorem dX2_findVoucher_19 : decode cX2_findVoucher 19 = .ok (.goto 4, 3) := by decide +kernel
theorem dX2_findVoucher_22 : decode cX2_findVoucher 22 = .ok (.aconst_null, 1) := by decide +kernel
theorem dX2_findVoucher_23 : decode cX2_findVoucher 23 = .ok (.astore_n 2, 1) := by decide +kernel
theorem dX2_findVoucher_24 : decode cX2_findVoucher 24 = .ok (.aload_n 2, 1) := by decide +kernel
theorem dX2_findVoucher_25 : decode cX2_findVoucher 25 = .ok (.ifnonnull 13, 3) := by decide +kernel
theorem dX2_findVoucher_28 : decode cX2_findVoucher 28 = .ok (.new 177, 3) := by decide +kernel
theorem dX2_findVoucher_31 : decode cX2_findVoucher 31 = .ok (.dup, 1) := by decide +kernel
theorem dX2_findVoucher_32 : decode cX2_findVoucher 32 = .ok (.ldc 186, 2) := by decide +kernel
theorem dX2_findVoucher_34 : decode cX2_findVoucher 34 = .ok (.invokespecial 181, 3) := by decide +kernel
theorem dX2_findVoucher_37 : decode cX2_findVoucher 37 = .ok (.athrow, 1) := by decide +kernel
theorem dX2_findVoucher_38 : decode cX2_findVoucher 38 = .ok (.aload_n 2, 1) := by decide +kernel
theorem dX2_findVoucher_39 : decode cX2_findVoucher 39 = .ok (.areturn, 1) := by decide +kernel
set_option maxRecDepth 20000 in
theorem ggX2_eligibleMoreWith_X0_eligibleUpTo : GoodIn wsX2_eligibleMoreWith wsX0_eligibleUpTo := goodIn_r _ [7, 8, 9, 10, 11, 41, 42, 43, 44, 45, 46, 47, 35, 36, 37, 38, 39, 40] (by decide +kernel) (by decide +kernel)
set_option maxRecDepth 20000 in
theorem gX2_eligibleMoreWith_X0_eligibleUpTo : GoodIn wsX2_eligibleMoreWith (wsV RX2 110 RX0 yX0_eligibleUpTo wsX0_eligibleUpTo) := goodIn_app (goodIn_of _ (by decide +kernel)) ggX2_eligibleMoreWith_X0_eligibleUpTo
set_option maxRecDepth 20000 in
theorem ggX2_eligibleMoreWith_X0_reckon : GoodIn wsX2_eligibleMoreWith wsX0_reckon := goodIn_r _ [15, 8, 16, 17, 18, 19, 20, 10, 11, 21, 22, 23, 6, 24, 25, 26, 27, 28, 29, 30, 31, 32, 9, 33, 34, 41, 42, 43, 44, 45, 46, 47, 35, 36, 37, 38, 39, 40] (by decide +kernel) (by decide +kernel)
set_option maxRecDepth 20000 in
theorem gX2_eligibleMoreWith_X0_reckon : GoodIn wsX2_eligibleMoreWith (wsV RX2 87 RX0 yX0_reckon wsX0_reckon) := goodIn_app (goodIn_of _ (by decide +kernel)) ggX2_eligibleMoreWith_X0_reckon
theorem dX2_eligibleMoreWith_0 : decode cX2_eligibleMoreWith 0 = .ok (.aload_n 0, 1) := by decide +kernel
theorem dX2_eligibleMoreWith_1 : decode cX2_eligibleMoreWith 1 = .ok (.getfield 141, 3) := by decide +kernel
theorem dX2_eligibleMoreWith_4 : decode cX2_eligibleMoreWith 4 = .ok (.astore_n 2, 1) := by decide +kernel
theorem dX2_eligibleMoreWith_5 : decode cX2_eligibleMoreWith 5 = .ok (.aload_n 2, 1) := by decide +kernel
theorem dX2_eligibleMoreWith_6 : decode cX2_eligibleMoreWith 6 = .ok (.sipush 9999, 3) := by decide +kernel
theorem dX2_eligibleMoreWith_9 : decode cX2_eligibleMoreWith 9 = .ok (.invokevirtual 110, 3) := by decide +kernel
theorem dX2_eligibleMoreWith_12 : decode cX2_eligibleMoreWith 12 = .ok (.istore_n 3, 1) := by decide +kernel
theorem dX2_eligibleMoreWith_13 : decode cX2_eligibleMoreWith 13 = .ok (.aload_n 0, 1) := by decide +kernel
theorem dX2_eligibleMoreWith_14 : decode cX2_eligibleMoreWith 14 = .ok (.iload_n 1, 1) := by decide +kernel
theorem dX2_eligibleMoreWith_15 : decode cX2_eligibleMoreWith 15 = .ok (.putfield 127, 3) := by decide +kernel
theorem dX2_eligibleMoreWith_18 : decode cX2_eligibleMoreWith 18 = .ok (.aload_n 2, 1) := by decide +kernel
theorem dX2_eligibleMoreWith_19 : decode cX2_eligibleMoreWith 19 = .ok (.invokevirtual 87, 3) := by decide +kernel
theorem dX2_eligibleMoreWith_22 : decode cX2_eligibleMoreWith 22 = .ok (.aload_n 2, 1) := by decide +kernel
theorem dX2_eligibleMoreWith_23 : decode cX2_eligibleMoreWith 23 = .ok (.sipush 9999, 3) := by decide +kernel
theorem dX2_eligibleMoreWith_26 : decode cX2_eligibleMoreWith 26 = .ok (.invokevirtual 110, 3) := by decide +kernel
theorem dX2_eligibleMoreWith_29 : decode cX2_eligibleMoreWith 29 = .ok (.iload_n 3, 1) := by decide +kernel
theorem dX2_eligibleMoreWith_30 : decode cX2_eligibleMoreWith 30 = .ok (.isub, 1) := by decide +kernel
theorem dX2_eligibleMoreWith_31 : decode cX2_eligibleMoreWith 31 = .ok (.ireturn, 1) := by decide +kernel
set_option maxRecDepth 20000 in
theorem ggX2_costsUpTo_X2_eligibleInAll : GoodIn wsX2_costsUpTo wsX2_eligibleInAll := goodIn_r _ [5, 6, 7, 8, 9, 10, 11, 12, 13, 14, 15, 16, 17, 18, 19, 20, 21, 22, 23, 24, 25, 26, 27, 28, 29, 30, 31, 32, 33, 34, 35, 36, 37, 38, 39, 40, 41, 42] (by decide +kernel) (by decide +kernel)
set_option maxRecDepth 20000 in
theorem gX2_costsUpTo_X2_eligibleInAll : GoodIn wsX2_costsUpTo (wsV RX2 188 RX2 yX2_eligibleInAll wsX2_eligibleInAll) := goodIn_app (goodIn_of _ (by decide +kernel)) ggX2_costsUpTo_X2_eligibleInAll
theorem dX2_costsUpTo_0 : decode cX2_costsUpTo 0 = .ok (.aload_n 0, 1) := by decide +kernel
theorem dX2_costsUpTo_1 : decode cX2_costsUpTo 1 = .ok (.iload_n 1, 1) := by decide +kernel
theorem dX2_costsUpTo_2 : decode cX2_costsUpTo 2 = .ok (.iconst 0, 1) := by decide +kernel
theorem dX2_costsUpTo_3 : decode cX2_costsUpTo 3 = .ok (.invokevirtual 188, 3) := by decide +kernel
theorem dX2_costsUpTo_6 : decode cX2_costsUpTo 6 = .ok (.ireturn, 1) := by decide +kernel
set_option maxRecDepth 20000 in
theorem ggX2_overheadUpTo_X2_eligibleInAll : GoodIn wsX2_overheadUpTo wsX2_eligibleInAll := goodIn_r _ [12, 13, 14, 15, 16, 17, 18, 19, 20, 21, 22, 23, 24, 25, 26, 27, 28, 29, 30, 31, 32, 33, 34, 35, 36, 37, 38, 39, 40, 41, 42, 43, 44, 45, 46, 47, 48, 49] (by decide +kernel) (by decide +kernel)
set_option maxRecDepth 20000 in
theorem gX2_overheadUpTo_X2_eligibleInAll : GoodIn wsX2_overheadUpTo (wsV RX2 188 RX2 yX2_eligibleInAll wsX2_eligibleInAll) := goodIn_app (goodIn_of _ (by decide +kernel)) ggX2_overheadUpTo_X2_eligibleInAll
theorem dX2_overheadUpTo_0 : decode cX2_overheadUpTo 0 = .ok (.aload_n 0, 1) := by decide +kernel
theorem dX2_overheadUpTo_1 : decode cX2_overheadUpTo 1 = .ok (.getfield 17, 3) := by decide +kernel
theorem dX2_overheadUpTo_4 : decode cX2_overheadUpTo 4 = .ok (.i2l, 1) := by decide +kernel
theorem dX2_overheadUpTo_5 : decode cX2_overheadUpTo 5 = .ok (.aload_n 0, 1) := by decide +kernel
theorem dX2_overheadUpTo_6 : decode cX2_overheadUpTo 6 = .ok (.iload_n 1, 1) := by decide +kernel
theorem dX2_overheadUpTo_7 : decode cX2_overheadUpTo 7 = .ok (.iconst 1, 1) := by decide +kernel
theorem dX2_overheadUpTo_8 : decode cX2_overheadUpTo 8 = .ok (.invokevirtual 188, 3) := by decide +kernel
theorem dX2_overheadUpTo_11 : decode cX2_overheadUpTo 11 = .ok (.i2l, 1) := by decide +kernel
theorem dX2_overheadUpTo_12 : decode cX2_overheadUpTo 12 = .ok (.lmul, 1) := by decide +kernel
theorem dX2_overheadUpTo_13 : decode cX2_overheadUpTo 13 = .ok (.ldc2_w 192, 3) := by decide +kernel
theorem dX2_overheadUpTo_16 : decode cX2_overheadUpTo 16 = .ok (.ldiv, 1) := by decide +kernel
theorem dX2_overheadUpTo_17 : decode cX2_overheadUpTo 17 = .ok (.lstore_n 2, 1) := by decide +kernel
theorem dX2_overheadUpTo_18 : decode cX2_overheadUpTo 18 = .ok (.lload_n 2, 1) := by decide +kernel
theorem dX2_overheadUpTo_19 : decode cX2_overheadUpTo 19 = .ok (.aload_n 0, 1) := by decide +kernel
theorem dX2_overheadUpTo_20 : decode cX2_overheadUpTo 20 = .ok (.getfield 21, 3) := by decide +kernel
theorem dX2_overheadUpTo_23 : decode cX2_overheadUpTo 23 = .ok (.i2l, 1) := by decide +kernel
theorem dX2_overheadUpTo_24 : decode cX2_overheadUpTo 24 = .ok (.invokestatic 194, 3) := by decide +kernel
theorem dX2_overheadUpTo_27 : decode cX2_overheadUpTo 27 = .ok (.l2i, 1) := by decide +kernel
theorem dX2_overheadUpTo_28 : decode cX2_overheadUpTo 28 = .ok (.ireturn, 1) := by decide +kernel
set_option maxRecDepth 20000 in
theorem ggX2_eligibleInAll_X0_eligibleUpTo : GoodIn wsX2_eligibleInAll wsX0_eligibleUpTo := goodIn_r _ [7, 8, 9, 10, 11, 25, 26, 27, 28, 29, 30, 31, 32, 33, 34, 35, 36, 37] (by decide +kernel) (by decide +kernel)
set_option maxRecDepth 20000 in
theorem gX2_eligibleInAll_X0_eligibleUpTo : GoodIn wsX2_eligibleInAll (wsV RX2 110 RX0 yX0_eligibleUpTo wsX0_eligibleUpTo) := goodIn_app (goodIn_of _ (by decide +kernel)) ggX2_eligibleInAll_X0_eligibleUpTo
theorem dX2_eligibleInAll_0 : decode cX2_eligibleInAll 0 = .ok (.iconst 0, 1) := by decide +kernel
theorem dX2_eligibleInAll_1 : decode cX2_eligibleInAll 1 = .ok (.istore_n 3, 1) := by decide +kernel
theorem dX2_eligibleInAll_2 : decode cX2_eligibleInAll 2 = .ok (.aload_n 0, 1) := by decide +kernel
theorem dX2_eligibleInAll_3 : decode cX2_eligibleInAll 3 = .ok (.getfield 26, 3) := by decide +kernel
theorem dX2_eligibleInAll_6 : decode cX2_eligibleInAll 6 = .ok (.astore 4, 2) := by decide +kernel
theorem dX2_eligibleInAll_8 : decode cX2_eligibleInAll 8 = .ok (.aload 4, 2) := by decide +kernel
theorem dX2_eligibleInAll_10 : decode cX2_eligibleInAll 10 = .ok (.arraylength, 1) := by decide +kernel
theorem dX2_eligibleInAll_11 : decode cX2_eligibleInAll 11 = .ok (.istore 5, 2) := by decide +kernel
theorem dX2_eligibleInAll_13 : decode cX2_eligibleInAll 13 = .ok (.iconst 0, 1) := by decide +kernel
theorem dX2_eligibleInAll_14 : decode cX2_eligibleInAll 14 = .ok (.istore 6, 2) := by decide +kernel
theorem dX2_eligibleInAll_16 : decode cX2_eligibleInAll 16 = .ok (.iload 6, 2) := by decide +kernel
theorem dX2_eligibleInAll_18 : decode cX2_eligibleInAll 18 = .ok (.iload 5, 2) := by decide +kernel
theorem dX2_eligibleInAll_20 : decode cX2_eligibleInAll 20 = .ok (.if_icmp .ge 42, 3) := by decide +kernel
theorem dX2_eligibleInAll_23 : decode cX2_eligibleInAll 23 = .ok (.aload 4, 2) := by decide +kernel
theorem dX2_eligibleInAll_25 : decode cX2_eligibleInAll 25 = .ok (.iload 6, 2) := by decide +kernel
theorem dX2_eligibleInAll_27 : decode cX2_eligibleInAll 27 = .ok (.aaload, 1) := by decide +kernel
theorem dX2_eligibleInAll_28 : decode cX2_eligibleInAll 28 = .ok (.astore 7, 2) := by decide +kernel
theorem dX2_eligibleInAll_30 : decode cX2_eligibleInAll 30 = .ok (.aload 7, 2) := by decide +kernel
theorem dX2_eligibleInAll_32 : decode cX2_eligibleInAll 32 = .ok (.ifnull 24, 3) := by decide +kernel
theorem dX2_eligibleInAll_35 : decode cX2_eligibleInAll 35 = .ok (.aload 7, 2) := by decide +kernel
theorem dX2_eligibleInAll_37 : decode cX2_eligibleInAll 37 = .ok (.getfield 197, 3) := by decide +kernel
theorem dX2_eligibleInAll_40 : decode cX2_eligibleInAll 40 = .ok (.ifCond .ne 7, 3) := by decide +kernel
theorem dX2_eligibleInAll_43 : decode cX2_eligibleInAll 43 = .ok (.iload_n 2, 1) := by decide +kernel
theorem dX2_eligibleInAll_44 : decode cX2_eligibleInAll 44 = .ok (.ifCond .ne 12, 3) := by decide +kernel
theorem dX2_eligibleInAll_47 : decode cX2_eligibleInAll 47 = .ok (.iload_n 3, 1) := by decide +kernel
theorem dX2_eligibleInAll_48 : decode cX2_eligibleInAll 48 = .ok (.aload 7, 2) := by decide +kernel
theorem dX2_eligibleInAll_50 : decode cX2_eligibleInAll 50 = .ok (.iload_n 1, 1) := by decide +kernel
theorem dX2_eligibleInAll_51 : decode cX2_eligibleInAll 51 = .ok (.invokevirtual 110, 3) := by decide +kernel
theorem dX2_eligibleInAll_54 : decode cX2_eligibleInAll 54 = .ok (.iadd, 1) := by decide +kernel
theorem dX2_eligibleInAll_55 : decode cX2_eligibleInAll 55 = .ok (.istore_n 3, 1) := by decide +kernel
theorem dX2_eligibleInAll_56 : decode cX2_eligibleInAll 56 = .ok (.iinc 6 1, 3) := by decide +kernel
theorem dX2_eligibleInAll_59 : decode cX2_eligibleInAll 59 = .ok (.goto (-43), 3) := by decide +kernel
theorem dX2_eligibleInAll_62 : decode cX2_eligibleInAll 62 = .ok (.iload_n 3, 1) := by decide +kernel
theorem dX2_eligibleInAll_63 : decode cX2_eligibleInAll 63 = .ok (.ireturn, 1) := by decide +kernel
set_option maxRecDepth 20000 in
theorem ggX2_earnedUpTo_X2_earnedButForMatch : GoodIn wsX2_earnedUpTo wsX2_earnedButForMatch := goodIn_r _ [11, 1, 12, 13, 3, 4, 5, 6, 14, 15, 16, 10, 17, 18, 19, 20, 21, 22, 23, 24, 25, 26, 27, 28, 29, 30, 31, 32, 33, 34, 35, 36, 37, 38, 39, 40, 41, 42, 43, 44, 45, 46, 47, 48, 49, 50, 51, 52, 53, 54, 55, 56, 57, 58, 59, 60, 61, 62, 63, 64] (by decide +kernel) (by decide +kernel)
set_option maxRecDepth 20000 in
theorem gX2_earnedUpTo_X2_earnedButForMatch : GoodIn wsX2_earnedUpTo (wsV RX2 161 RX2 yX2_earnedButForMatch wsX2_earnedButForMatch) := goodIn_app (goodIn_of _ (by decide +kernel)) ggX2_earnedUpTo_X2_earnedButForMatch
theorem dX2_earnedUpTo_0 : decode cX2_earnedUpTo 0 = .ok (.aload_n 0, 1) := by decide +kernel
theorem dX2_earnedUpTo_1 : decode cX2_earnedUpTo 1 = .ok (.iload_n 1, 1) := by decide +kernel
theorem dX2_earnedUpTo_2 : decode cX2_earnedUpTo 2 = .ok (.invokevirtual 161, 3) := by decide +kernel
theorem dX2_earnedUpTo_5 : decode cX2_earnedUpTo 5 = .ok (.lstore_n 2, 1) := by decide +kernel
theorem dX2_earnedUpTo_6 : decode cX2_earnedUpTo 6 = .ok (.bipush 100, 2) := by decide +kernel
theorem dX2_earnedUpTo_8 : decode cX2_earnedUpTo 8 = .ok (.aload_n 0, 1) := by decide +kernel
theorem dX2_earnedUpTo_9 : decode cX2_earnedUpTo 9 = .ok (.getfield 14, 3) := by decide +kernel
theorem dX2_earnedUpTo_12 : decode cX2_earnedUpTo 12 = .ok (.isub, 1) := by decide +kernel
theorem dX2_earnedUpTo_13 : decode cX2_earnedUpTo 13 = .ok (.istore 4, 2) := by decide +kernel
theorem dX2_earnedUpTo_15 : decode cX2_earnedUpTo 15 = .ok (.iload 4, 2) := by decide +kernel
theorem dX2_earnedUpTo_17 : decode cX2_earnedUpTo 17 = .ok (.ifCond .le 23, 3) := by decide +kernel
theorem dX2_earnedUpTo_20 : decode cX2_earnedUpTo 20 = .ok (.lload_n 2, 1) := by decide +kernel
theorem dX2_earnedUpTo_21 : decode cX2_earnedUpTo 21 = .ok (.aload_n 0, 1) := by decide +kernel
theorem dX2_earnedUpTo_22 : decode cX2_earnedUpTo 22 = .ok (.getfield 42, 3) := by decide +kernel
theorem dX2_earnedUpTo_25 : decode cX2_earnedUpTo 25 = .ok (.i2l, 1) := by decide +kernel
theorem dX2_earnedUpTo_26 : decode cX2_earnedUpTo 26 = .ok (.aload_n 0, 1) := by decide +kernel
theorem dX2_earnedUpTo_27 : decode cX2_earnedUpTo 27 = .ok (.getfield 14, 3) := by decide +kernel
theorem dX2_earnedUpTo_30 : decode cX2_earnedUpTo 30 = .ok (.i2l, 1) := by decide +kernel
theorem dX2_earnedUpTo_31 : decode cX2_earnedUpTo 31 = .ok (.lmul, 1) := by decide +kernel
theorem dX2_earnedUpTo_32 : decode cX2_earnedUpTo 32 = .ok (.iload 4, 2) := by decide +kernel
theorem dX2_earnedUpTo_34 : decode cX2_earnedUpTo 34 = .ok (.i2l, 1) := by decide +kernel
theorem dX2_earnedUpTo_35 : decode cX2_earnedUpTo 35 = .ok (.ldiv, 1) := by decide +kernel
theorem dX2_earnedUpTo_36 : decode cX2_earnedUpTo 36 = .ok (.invokestatic 194, 3) := by decide +kernel
theorem dX2_earnedUpTo_39 : decode cX2_earnedUpTo 39 = .ok (.lstore_n 2, 1) := by decide +kernel
theorem dX2_earnedUpTo_40 : decode cX2_earnedUpTo 40 = .ok (.lload_n 2, 1) := by decide +kernel
theorem dX2_earnedUpTo_41 : decode cX2_earnedUpTo 41 = .ok (.l2i, 1) := by decide +kernel
theorem dX2_earnedUpTo_42 : decode cX2_earnedUpTo 42 = .ok (.ireturn, 1) := by decide +kernel
set_option maxRecDepth 20000 in
theorem ggX2_earnedButForMatch_X2_costsUpTo : GoodIn wsX2_earnedButForMatch wsX2_costsUpTo := goodIn_r _ [12, 13, 14, 15, 11, 16, 17, 18, 19, 20, 21, 22, 23, 24, 25, 26, 27, 34, 35, 36, 37, 38, 39, 40, 41, 42, 43, 44, 45, 46, 47, 48, 49, 50, 51, 52, 53, 54, 55, 56, 57, 58, 59] (by decide +kernel) (by decide +kernel)
set_option maxRecDepth 20000 in
theorem gX2_earnedButForMatch_X2_costsUpTo : GoodIn wsX2_earnedButForMatch (wsV RX2 152 RX2 yX2_costsUpTo wsX2_costsUpTo) := goodIn_app (goodIn_of _ (by decide +kernel)) ggX2_earnedButForMatch_X2_costsUpTo
set_option maxRecDepth 20000 in
theorem ggX2_earnedButForMatch_X2_overheadUpTo : GoodIn wsX2_earnedButForMatch wsX2_overheadUpTo := goodIn_r _ [31, 32, 2, 33, 4, 5, 6, 7, 13, 14, 15, 11, 16, 17, 18, 19, 20, 21, 22, 23, 24, 25, 26, 27, 34, 35, 36, 37, 38, 39, 40, 41, 42, 43, 44, 45, 46, 47, 48, 49, 50, 51, 52, 53, 54, 55, 56, 57, 58, 59] (by decide +kernel) (by decide +kernel)
set_option maxRecDepth 20000 in
theorem gX2_earnedButForMatch_X2_overheadUpTo : GoodIn wsX2_earnedButForMatch (wsV RX2 155 RX2 yX2_overheadUpTo wsX2_overheadUpTo) := goodIn_app (goodIn_of _ (by decide +kernel)) ggX2_earnedButForMatch_X2_overheadUpTo
theorem dX2_earnedButForMatch_0 : decode cX2_earnedButForMatch 0 = .ok (.aload_n 0, 1) := by decide +kernel
theorem dX2_earnedButForMatch_1 : decode cX2_earnedButForMatch 1 = .ok (.iload_n 1, 1) := by decide +kernel
theorem dX2_earnedButForMatch_2 : decode cX2_earnedButForMatch 2 = .ok (.invokevirtual 152, 3) := by decide +kernel
theorem dX2_earnedButForMatch_5 : decode cX2_earnedButForMatch 5 = .ok (.i2l, 1) := by decide +kernel
theorem dX2_earnedButForMatch_6 : decode cX2_earnedButForMatch 6 = .ok (.aload_n 0, 1) := by decide +kernel
theorem dX2_earnedButForMatch_7 : decode cX2_earnedButForMatch 7 = .ok (.iload_n 1, 1) := by decide +kernel
theorem dX2_earnedButForMatch_8 : decode cX2_earnedButForMatch 8 = .ok (.invokevirtual 155, 3) := by decide +kernel
theorem dX2_earnedButForMatch_11 : decode cX2_earnedButForMatch 11 = .ok (.i2l, 1) := by decide +kernel
theorem dX2_earnedButForMatch_12 : decode cX2_earnedButForMatch 12 = .ok (.ladd, 1) := by decide +kernel
theorem dX2_earnedButForMatch_13 : decode cX2_earnedButForMatch 13 = .ok (.lstore_n 2, 1) := by decide +kernel
theorem dX2_earnedButForMatch_14 : decode cX2_earnedButForMatch 14 = .ok (.lload_n 2, 1) := by decide +kernel
theorem dX2_earnedButForMatch_15 : decode cX2_earnedButForMatch 15 = .ok (.aload_n 0, 1) := by decide +kernel
theorem dX2_earnedButForMatch_16 : decode cX2_earnedButForMatch 16 = .ok (.getfield 14, 3) := by decide +kernel
theorem dX2_earnedButForMatch_19 : decode cX2_earnedButForMatch 19 = .ok (.i2l, 1) := by decide +kernel
theorem dX2_earnedButForMatch_20 : decode cX2_earnedButForMatch 20 = .ok (.lmul, 1) := by decide +kernel
theorem dX2_earnedButForMatch_21 : decode cX2_earnedButForMatch 21 = .ok (.ldc2_w 192, 3) := by decide +kernel
theorem dX2_earnedButForMatch_24 : decode cX2_earnedButForMatch 24 = .ok (.ldiv, 1) := by decide +kernel
theorem dX2_earnedButForMatch_25 : decode cX2_earnedButForMatch 25 = .ok (.aload_n 0, 1) := by decide +kernel
theorem dX2_earnedButForMatch_26 : decode cX2_earnedButForMatch 26 = .ok (.getfield 8, 3) := by decide +kernel
theorem dX2_earnedButForMatch_29 : decode cX2_earnedButForMatch 29 = .ok (.i2l, 1) := by decide +kernel
theorem dX2_earnedButForMatch_30 : decode cX2_earnedButForMatch 30 = .ok (.invokestatic 194, 3) := by decide +kernel
theorem dX2_earnedButForMatch_33 : decode cX2_earnedButForMatch 33 = .ok (.lreturn, 1) := by decide +kernel
theorem dX2_leastMatchFor_0 : decode cX2_leastMatchFor 0 = .ok (.bipush 100, 2) := by decide +kernel
theorem dX2_leastMatchFor_2 : decode cX2_leastMatchFor 2 = .ok (.aload_n 0, 1) := by decide +kernel
theorem dX2_leastMatchFor_3 : decode cX2_leastMatchFor 3 = .ok (.getfield 14, 3) := by decide +kernel
theorem dX2_leastMatchFor_6 : decode cX2_leastMatchFor 6 = .ok (.isub, 1) := by decide +kernel
theorem dX2_leastMatchFor_7 : decode cX2_leastMatchFor 7 = .ok (.istore_n 3, 1) := by decide +kernel
theorem dX2_leastMatchFor_8 : decode cX2_leastMatchFor 8 = .ok (.aload_n 0, 1) := by decide +kernel
theorem dX2_leastMatchFor_9 : decode cX2_leastMatchFor 9 = .ok (.getfield 14, 3) := by decide +kernel
theorem dX2_leastMatchFor_12 : decode cX2_leastMatchFor 12 = .ok (.ifCond .le 24, 3) := by decide +kernel
theorem dX2_leastMatchFor_15 : decode cX2_leastMatchFor 15 = .ok (.lload_n 1, 1) := by decide +kernel
theorem dX2_leastMatchFor_16 : decode cX2_leastMatchFor 16 = .ok (.iload_n 3, 1) := by decide +kernel
theorem dX2_leastMatchFor_17 : decode cX2_leastMatchFor 17 = .ok (.i2l, 1) := by decide +kernel
theorem dX2_leastMatchFor_18 : decode cX2_leastMatchFor 18 = .ok (.lmul, 1) := by decide +kernel
theorem dX2_leastMatchFor_19 : decode cX2_leastMatchFor 19 = .ok (.aload_n 0, 1) := by decide +kernel
theorem dX2_leastMatchFor_20 : decode cX2_leastMatchFor 20 = .ok (.getfield 14, 3) := by decide +kernel
theorem dX2_leastMatchFor_23 : decode cX2_leastMatchFor 23 = .ok (.i2l, 1) := by decide +kernel
theorem dX2_leastMatchFor_24 : decode cX2_leastMatchFor 24 = .ok (.ladd, 1) := by decide +kernel
theorem dX2_leastMatchFor_25 : decode cX2_leastMatchFor 25 = .ok (.lconst 1, 1) := by decide +kernel
theorem dX2_leastMatchFor_26 : decode cX2_leastMatchFor 26 = .ok (.lsub, 1) := by decide +kernel
theorem dX2_leastMatchFor_27 : decode cX2_leastMatchFor 27 = .ok (.aload_n 0, 1) := by decide +kernel
theorem dX2_leastMatchFor_28 : decode cX2_leastMatchFor 28 = .ok (.getfield 14, 3) := by decide +kernel
theorem dX2_leastMatchFor_31 : decode cX2_leastMatchFor 31 = .ok (.i2l, 1) := by decide +kernel
theorem dX2_leastMatchFor_32 : decode cX2_leastMatchFor 32 = .ok (.ldiv, 1) := by decide +kernel
theorem dX2_leastMatchFor_33 : decode cX2_leastMatchFor 33 = .ok (.goto 4, 3) := by decide +kernel
theorem dX2_leastMatchFor_36 : decode cX2_leastMatchFor 36 = .ok (.lconst 0, 1) := by decide +kernel
theorem dX2_leastMatchFor_37 : decode cX2_leastMatchFor 37 = .ok (.lreturn, 1) := by decide +kernel
end
section
theorem dX3_init_0 : decode cX3_init 0 = .ok (.aload_n 0, 1) := by decide +kernel
theorem dX3_init_1 : decode cX3_init 1 = .ok (.invokespecial 1, 3) := by decide +kernel
theorem dX3_init_4 : decode cX3_init 4 = .ok (.aload_n 0, 1) := by decide +kernel
theorem dX3_init_5 : decode cX3_init 5 = .ok (.bipush 12, 2) := by decide +kernel
theorem dX3_init_7 : decode cX3_init 7 = .ok (.newarray .int, 2) := by decide +kernel
theorem dX3_init_9 : decode cX3_init 9 = .ok (.putfield 7, 3) := by decide +kernel
theorem dX3_init_12 : decode cX3_init 12 = .ok (.aload_n 0, 1) := by decide +kernel
theorem dX3_init_13 : decode cX3_init 13 = .ok (.bipush 12, 2) := by decide +kernel
theorem dX3_init_15 : decode cX3_init 15 = .ok (.newarray .int, 2) := by decide +kernel
theorem dX3_init_17 : decode cX3_init 17 = .ok (.putfield 13, 3) := by decide +kernel
theorem dX3_init_20 : decode cX3_init 20 = .ok (.aload_n 0, 1) := by decide +kernel
theorem dX3_init_21 : decode cX3_init 21 = .ok (.bipush 12, 2) := by decide +kernel
theorem dX3_init_23 : decode cX3_init 23 = .ok (.newarray .int, 2) := by decide +kernel
theorem dX3_init_25 : decode cX3_init 25 = .ok (.putfield 16, 3) := by decide +kernel
theorem dX3_init_28 : decode cX3_init 28 = .ok (.aload_n 0, 1) := by decide +kernel
theorem dX3_init_29 : decode cX3_init 29 = .ok (.bipush 12, 2) := by decide +kernel
theorem dX3_init_31 : decode cX3_init 31 = .ok (.newarray .boolean, 2) := by decide +kernel
theorem dX3_init_33 : decode cX3_init 33 = .ok (.putfield 19, 3) := by decide +kernel
theorem dX3_init_36 : decode cX3_init 36 = .ok (.aload_n 0, 1) := by decide +kernel
theorem dX3_init_37 : decode cX3_init 37 = .ok (.bipush 12, 2) := by decide +kernel
theorem dX3_init_39 : decode cX3_init 39 = .ok (.newarray .int, 2) := by decide +kernel
theorem dX3_init_41 : decode cX3_init 41 = .ok (.putfield 23, 3) := by decide +kernel
theorem dX3_init_44 : decode cX3_init 44 = .ok (.aload_n 0, 1) := by decide +kernel
theorem dX3_init_45 : decode cX3_init 45 = .ok (.bipush 12, 2) := by decide +kernel
theorem dX3_init_47 : decode cX3_init 47 = .ok (.newarray .int, 2) := by decide +kernel
theorem dX3_init_49 : decode cX3_init 49 = .ok (.putfield 26, 3) := by decide +kernel
theorem dX3_init_52 : decode cX3_init 52 = .ok (.aload_n 0, 1) := by decide +kernel
theorem dX3_init_53 : decode cX3_init 53 = .ok (.bipush 100, 2) := by decide +kernel
theorem dX3_init_55 : decode cX3_init 55 = .ok (.newarray .int, 2) := by decide +kernel
theorem dX3_init_57 : decode cX3_init 57 = .ok (.putfield 29, 3) := by decide +kernel
theorem dX3_init_60 : decode cX3_init 60 = .ok (.aload_n 0, 1) := by decide +kernel
theorem dX3_init_61 : decode cX3_init 61 = .ok (.bipush 100, 2) := by decide +kernel
theorem dX3_init_63 : decode cX3_init 63 = .ok (.newarray .int, 2) := by decide +kernel
theorem dX3_init_65 : decode cX3_init 65 = .ok (.putfield 32, 3) := by decide +kernel
theorem dX3_init_68 : decode cX3_init 68 = .ok (.aload_n 0, 1) := by decide +kernel
theorem dX3_init_69 : decode cX3_init 69 = .ok (.bipush 100, 2) := by decide +kernel
theorem dX3_init_71 : decode cX3_init 71 = .ok (.newarray .int, 2) := by decide +kernel
theorem dX3_init_73 : decode cX3_init 73 = .ok (.putfield 35, 3) := by decide +kernel
theorem dX3_init_76 : decode cX3_init 76 = .ok (.aload_n 0, 1) := by decide +kernel
theorem dX3_init_77 : decode cX3_init 77 = .ok (.bipush 100, 2) := by decide +kernel
theorem dX3_init_79 : decode cX3_init 79 = .ok (.newarray .boolean, 2) := by decide +kernel
theorem dX3_init_81 : decode cX3_init 81 = .ok (.putfield 38, 3) := by decide +kernel
theorem dX3_init_84 : decode cX3_init 84 = .ok (.aload_n 0, 1) := by decide +kernel
theorem dX3_init_85 : decode cX3_init 85 = .ok (.bipush 100, 2) := by decide +kernel
theorem dX3_init_87 : decode cX3_init 87 = .ok (.newarray .int, 2) := by decide +kernel
theorem dX3_init_89 : decode cX3_init 89 = .ok (.putfield 41, 3) := by decide +kernel
theorem dX3_init_92 : decode cX3_init 92 = .ok (.aload_n 0, 1) := by decide +kernel
theorem dX3_init_93 : decode cX3_init 93 = .ok (.bipush 40, 2) := by decide +kernel
theorem dX3_init_95 : decode cX3_init 95 = .ok (.newarray .int, 2) := by decide +kernel
theorem dX3_init_97 : decode cX3_init 97 = .ok (.putfield 44, 3) := by decide +kernel
theorem dX3_init_100 : decode cX3_init 100 = .ok (.aload_n 0, 1) := by decide +kernel
theorem dX3_init_101 : decode cX3_init 101 = .ok (.bipush 100, 2) := by decide +kernel
theorem dX3_init_103 : decode cX3_init 103 = .ok (.newarray .int, 2) := by decide +kernel
theorem dX3_init_105 : decode cX3_init 105 = .ok (.putfield 47, 3) := by decide +kernel
theorem dX3_init_108 : decode cX3_init 108 = .ok (.aload_n 0, 1) := by decide +kernel
theorem dX3_init_109 : decode cX3_init 109 = .ok (.bipush 12, 2) := by decide +kernel
theorem dX3_init_111 : decode cX3_init 111 = .ok (.newarray .int, 2) := by decide +kernel
theorem dX3_init_113 : decode cX3_init 113 = .ok (.putfield 50, 3) := by decide +kernel
theorem dX3_init_116 : decode cX3_init 116 = .ok (.aload_n 0, 1) := by decide +kernel
theorem dX3_init_117 : decode cX3_init 117 = .ok (.ldc 53, 2) := by decide +kernel
theorem dX3_init_119 : decode cX3_init 119 = .ok (.putfield 54, 3) := by decide +kernel
theorem dX3_init_122 : decode cX3_init 122 = .ok (.aload_n 0, 1) := by decide +kernel
theorem dX3_init_123 : decode cX3_init 123 = .ok (.bipush 75, 2) := by decide +kernel
theorem dX3_init_125 : decode cX3_init 125 = .ok (.putfield 58, 3) := by decide +kernel
theorem dX3_init_128 : decode cX3_init 128 = .ok (.aload_n 0, 1) := by decide +kernel
theorem dX3_init_129 : decode cX3_init 129 = .ok (.bipush 10, 2) := by decide +kernel
theorem dX3_init_131 : decode cX3_init 131 = .ok (.putfield 61, 3) := by decide +kernel
theorem dX3_init_134 : decode cX3_init 134 = .ok (.aload_n 0, 1) := by decide +kernel
theorem dX3_init_135 : decode cX3_init 135 = .ok (.ldc 64, 2) := by decide +kernel
theorem dX3_init_137 : decode cX3_init 137 = .ok (.putfield 65, 3) := by decide +kernel
theorem dX3_init_140 : decode cX3_init 140 = .ok (.return_, 1) := by decide +kernel
theorem dX3_thrown_0 : decode cX3_thrown 0 = .ok (.aload_n 0, 1) := by decide +kernel
theorem dX3_thrown_1 : decode cX3_thrown 1 = .ok (.getfield 68, 3) := by decide +kernel
theorem dX3_thrown_4 : decode cX3_thrown 4 = .ok (.ireturn, 1) := by decide +kernel
theorem dX3_in_0 : decode cX3_in 0 = .ok (.iload_n 0, 1) := by decide +kernel
theorem dX3_in_1 : decode cX3_in 1 = .ok (.iload_n 1, 1) := by decide +kernel
theorem dX3_in_2 : decode cX3_in 2 = .ok (.if_icmp .lt 12, 3) := by decide +kernel
theorem dX3_in_5 : decode cX3_in 5 = .ok (.iload_n 0, 1) := by decide +kernel
theorem dX3_in_6 : decode cX3_in 6 = .ok (.iload_n 2, 1) := by decide +kernel
theorem dX3_in_7 : decode cX3_in 7 = .ok (.if_icmp .gt 7, 3) := by decide +kernel
theorem dX3_in_10 : decode cX3_in 10 = .ok (.iconst 1, 1) := by decide +kernel
theorem dX3_in_11 : decode cX3_in 11 = .ok (.goto 4, 3) := by decide +kernel
theorem dX3_in_14 : decode cX3_in 14 = .ok (.iconst 0, 1) := by decide +kernel
theorem dX3_in_15 : decode cX3_in 15 = .ok (.ireturn, 1) := by decide +kernel
set_option maxRecDepth 20000 in
theorem ggX3_isLine_X3_in : GoodIn wsX3_isLine wsX3_in := goodIn_r _ [5] (by decide +kernel) (by decide +kernel)
set_option maxRecDepth 20000 in
theorem gX3_isLine_X3_in : GoodIn wsX3_isLine (va_wsS RX3 74 yX3_in wsX3_in) := goodIn_app (goodIn_of _ (by decide +kernel)) ggX3_isLine_X3_in
theorem dX3_isLine_0 : decode cX3_isLine 0 = .ok (.iload_n 1, 1) := by decide +kernel
theorem dX3_isLine_1 : decode cX3_isLine 1 = .ok (.iconst 0, 1) := by decide +kernel
theorem dX3_isLine_2 : decode cX3_isLine 2 = .ok (.aload_n 0, 1) := by decide +kernel
theorem dX3_isLine_3 : decode cX3_isLine 3 = .ok (.getfield 71, 3) := by decide +kernel
theorem dX3_isLine_6 : decode cX3_isLine 6 = .ok (.iconst 1, 1) := by decide +kernel
theorem dX3_isLine_7 : decode cX3_isLine 7 = .ok (.isub, 1) := by decide +kernel
theorem dX3_isLine_8 : decode cX3_isLine 8 = .ok (.invokestatic 74, 3) := by decide +kernel
theorem dX3_isLine_11 : decode cX3_isLine 11 = .ok (.ireturn, 1) := by decide +kernel
set_option maxRecDepth 20000 in
theorem ggX3_isVoucher_X3_in : GoodIn wsX3_isVoucher wsX3_in := goodIn_r _ [5] (by decide +kernel) (by decide +kernel)
set_option maxRecDepth 20000 in
theorem gX3_isVoucher_X3_in : GoodIn wsX3_isVoucher (va_wsS RX3 74 yX3_in wsX3_in) := goodIn_app (goodIn_of _ (by decide +kernel)) ggX3_isVoucher_X3_in
theorem dX3_isVoucher_0 : decode cX3_isVoucher 0 = .ok (.iload_n 1, 1) := by decide +kernel
theorem dX3_isVoucher_1 : decode cX3_isVoucher 1 = .ok (.iconst 0, 1) := by decide +kernel
theorem dX3_isVoucher_2 : decode cX3_isVoucher 2 = .ok (.aload_n 0, 1) := by decide +kernel
theorem dX3_isVoucher_3 : decode cX3_isVoucher 3 = .ok (.getfield 78, 3) := by decide +kernel
theorem dX3_isVoucher_6 : decode cX3_isVoucher 6 = .ok (.iconst 1, 1) := by decide +kernel
theorem dX3_isVoucher_7 : decode cX3_isVoucher 7 = .ok (.isub, 1) := by decide +kernel
theorem dX3_isVoucher_8 : decode cX3_isVoucher 8 = .ok (.invokestatic 74, 3) := by decide +kernel
theorem dX3_isVoucher_11 : decode cX3_isVoucher 11 = .ok (.ireturn, 1) := by decide +kernel
set_option maxRecDepth 20000 in
theorem ggX3_setGrant_X3_in : GoodIn wsX3_setGrant wsX3_in := goodIn_r _ [11] (by decide +kernel) (by decide +kernel)
set_option maxRecDepth 20000 in
theorem gX3_setGrant_X3_in : GoodIn wsX3_setGrant (va_wsS RX3 74 yX3_in wsX3_in) := goodIn_app (goodIn_of _ (by decide +kernel)) ggX3_setGrant_X3_in
theorem dX3_setGrant_0 : decode cX3_setGrant 0 = .ok (.aload_n 0, 1) := by decide +kernel
theorem dX3_setGrant_1 : decode cX3_setGrant 1 = .ok (.iload_n 1, 1) := by decide +kernel
theorem dX3_setGrant_2 : decode cX3_setGrant 2 = .ok (.iconst 0, 1) := by decide +kernel
theorem dX3_setGrant_3 : decode cX3_setGrant 3 = .ok (.ldc 81, 2) := by decide +kernel
theorem dX3_setGrant_5 : decode cX3_setGrant 5 = .ok (.invokestatic 74, 3) := by decide +kernel
theorem dX3_setGrant_8 : decode cX3_setGrant 8 = .ok (.ifCond .eq 34, 3) := by decide +kernel
theorem dX3_setGrant_11 : decode cX3_setGrant 11 = .ok (.iload_n 2, 1) := by decide +kernel
theorem dX3_setGrant_12 : decode cX3_setGrant 12 = .ok (.iconst 1, 1) := by decide +kernel
theorem dX3_setGrant_13 : decode cX3_setGrant 13 = .ok (.bipush 100, 2) := by decide +kernel
theorem dX3_setGrant_15 : decode cX3_setGrant 15 = .ok (.invokestatic 74, 3) := by decide +kernel
theorem dX3_setGrant_18 : decode cX3_setGrant 18 = .ok (.ifCond .eq 24, 3) := by decide +kernel
theorem dX3_setGrant_21 : decode cX3_setGrant 21 = .ok (.iload_n 3, 1) := by decide +kernel
theorem dX3_setGrant_22 : decode cX3_setGrant 22 = .ok (.iconst 0, 1) := by decide +kernel
theorem dX3_setGrant_23 : decode cX3_setGrant 23 = .ok (.bipush 100, 2) := by decide +kernel
theorem dX3_setGrant_25 : decode cX3_setGrant 25 = .ok (.invokestatic 74, 3) := by decide +kernel
theorem dX3_setGrant_28 : decode cX3_setGrant 28 = .ok (.ifCond .eq 14, 3) := by decide +kernel
theorem dX3_setGrant_31 : decode cX3_setGrant 31 = .ok (.iload 4, 2) := by decide +kernel
theorem dX3_setGrant_33 : decode cX3_setGrant 33 = .ok (.iconst 0, 1) := by decide +kernel
theorem dX3_setGrant_34 : decode cX3_setGrant 34 = .ok (.ldc 81, 2) := by decide +kernel
theorem dX3_setGrant_36 : decode cX3_setGrant 36 = .ok (.invokestatic 74, 3) := by decide +kernel
theorem dX3_setGrant_39 : decode cX3_setGrant 39 = .ok (.ifCond .ne 7, 3) := by decide +kernel
theorem dX3_setGrant_42 : decode cX3_setGrant 42 = .ok (.iconst 1, 1) := by decide +kernel
theorem dX3_setGrant_43 : decode cX3_setGrant 43 = .ok (.goto 15, 3) := by decide +kernel
theorem dX3_setGrant_46 : decode cX3_setGrant 46 = .ok (.aload_n 0, 1) := by decide +kernel
theorem dX3_setGrant_47 : decode cX3_setGrant 47 = .ok (.getfield 82, 3) := by decide +kernel
theorem dX3_setGrant_50 : decode cX3_setGrant 50 = .ok (.ifCond .le 7, 3) := by decide +kernel
theorem dX3_setGrant_53 : decode cX3_setGrant 53 = .ok (.iconst 2, 1) := by decide +kernel
theorem dX3_setGrant_54 : decode cX3_setGrant 54 = .ok (.goto 4, 3) := by decide +kernel
theorem dX3_setGrant_57 : decode cX3_setGrant 57 = .ok (.iconst 0, 1) := by decide +kernel
theorem dX3_setGrant_58 : decode cX3_setGrant 58 = .ok (.putfield 68, 3) := by decide +kernel
theorem dX3_setGrant_61 : decode cX3_setGrant 61 = .ok (.aload_n 0, 1) := by decide +kernel
theorem dX3_setGrant_62 : decode cX3_setGrant 62 = .ok (.getfield 68, 3) := by decide +kernel
theorem dX3_setGrant_65 : decode cX3_setGrant 65 = .ok (.ifCond .ne 24, 3) := by decide +kernel
theorem dX3_setGrant_68 : decode cX3_setGrant 68 = .ok (.aload_n 0, 1) := by decide +kernel
theorem dX3_setGrant_69 : decode cX3_setGrant 69 = .ok (.iload_n 1, 1) := by decide +kernel
theorem dX3_setGrant_70 : decode cX3_setGrant 70 = .ok (.putfield 54, 3) := by decide +kernel
theorem dX3_setGrant_73 : decode cX3_setGrant 73 = .ok (.aload_n 0, 1) := by decide +kernel
theorem dX3_setGrant_74 : decode cX3_setGrant 74 = .ok (.iload_n 2, 1) := by decide +kernel
theorem dX3_setGrant_75 : decode cX3_setGrant 75 = .ok (.putfield 58, 3) := by decide +kernel
theorem dX3_setGrant_78 : decode cX3_setGrant 78 = .ok (.aload_n 0, 1) := by decide +kernel
theorem dX3_setGrant_79 : decode cX3_setGrant 79 = .ok (.iload_n 3, 1) := by decide +kernel
theorem dX3_setGrant_80 : decode cX3_setGrant 80 = .ok (.putfield 61, 3) := by decide +kernel
theorem dX3_setGrant_83 : decode cX3_setGrant 83 = .ok (.aload_n 0, 1) := by decide +kernel
theorem dX3_setGrant_84 : decode cX3_setGrant 84 = .ok (.iload 4, 2) := by decide +kernel
theorem dX3_setGrant_86 : decode cX3_setGrant 86 = .ok (.putfield 65, 3) := by decide +kernel
theorem dX3_setGrant_89 : decode cX3_setGrant 89 = .ok (.return_, 1) := by decide +kernel
set_option maxRecDepth 20000 in
theorem ggX3_addLine_X3_in : GoodIn wsX3_addLine wsX3_in := goodIn_r _ [11] (by decide +kernel) (by decide +kernel)
set_option maxRecDepth 20000 in
theorem gX3_addLine_X3_in : GoodIn wsX3_addLine (va_wsS RX3 74 yX3_in wsX3_in) := goodIn_app (goodIn_of _ (by decide +kernel)) ggX3_addLine_X3_in
theorem dX3_addLine_0 : decode cX3_addLine 0 = .ok (.aload_n 0, 1) := by decide +kernel
theorem dX3_addLine_1 : decode cX3_addLine 1 = .ok (.iload_n 1, 1) := by decide +kernel
theorem dX3_addLine_2 : decode cX3_addLine 2 = .ok (.iconst 0, 1) := by decide +kernel
theorem dX3_addLine_3 : decode cX3_addLine 3 = .ok (.ldc 85, 2) := by decide +kernel
theorem dX3_addLine_5 : decode cX3_addLine 5 = .ok (.invokestatic 74, 3) := by decide +kernel
theorem dX3_addLine_8 : decode cX3_addLine 8 = .ok (.ifCond .eq 25, 3) := by decide +kernel
theorem dX3_addLine_11 : decode cX3_addLine 11 = .ok (.iload_n 2, 1) := by decide +kernel
theorem dX3_addLine_12 : decode cX3_addLine 12 = .ok (.iconst 0, 1) := by decide +kernel
theorem dX3_addLine_13 : decode cX3_addLine 13 = .ok (.sipush 9999, 3) := by decide +kernel
theorem dX3_addLine_16 : decode cX3_addLine 16 = .ok (.invokestatic 74, 3) := by decide +kernel
theorem dX3_addLine_19 : decode cX3_addLine 19 = .ok (.ifCond .eq 14, 3) := by decide +kernel
theorem dX3_addLine_22 : decode cX3_addLine 22 = .ok (.iload_n 3, 1) := by decide +kernel
theorem dX3_addLine_23 : decode cX3_addLine 23 = .ok (.iload_n 2, 1) := by decide +kernel
theorem dX3_addLine_24 : decode cX3_addLine 24 = .ok (.sipush 9999, 3) := by decide +kernel
theorem dX3_addLine_27 : decode cX3_addLine 27 = .ok (.invokestatic 74, 3) := by decide +kernel
theorem dX3_addLine_30 : decode cX3_addLine 30 = .ok (.ifCond .ne 7, 3) := by decide +kernel
theorem dX3_addLine_33 : decode cX3_addLine 33 = .ok (.iconst 1, 1) := by decide +kernel
theorem dX3_addLine_34 : decode cX3_addLine 34 = .ok (.goto 17, 3) := by decide +kernel
theorem dX3_addLine_37 : decode cX3_addLine 37 = .ok (.aload_n 0, 1) := by decide +kernel
theorem dX3_addLine_38 : decode cX3_addLine 38 = .ok (.getfield 71, 3) := by decide +kernel
theorem dX3_addLine_41 : decode cX3_addLine 41 = .ok (.bipush 12, 2) := by decide +kernel
theorem dX3_addLine_43 : decode cX3_addLine 43 = .ok (.if_icmp .ne 7, 3) := by decide +kernel
theorem dX3_addLine_46 : decode cX3_addLine 46 = .ok (.iconst 2, 1) := by decide +kernel
theorem dX3_addLine_47 : decode cX3_addLine 47 = .ok (.goto 4, 3) := by decide +kernel
theorem dX3_addLine_50 : decode cX3_addLine 50 = .ok (.iconst 0, 1) := by decide +kernel
theorem dX3_addLine_51 : decode cX3_addLine 51 = .ok (.putfield 68, 3) := by decide +kernel
theorem dX3_addLine_54 : decode cX3_addLine 54 = .ok (.aload_n 0, 1) := by decide +kernel
theorem dX3_addLine_55 : decode cX3_addLine 55 = .ok (.getfield 68, 3) := by decide +kernel
theorem dX3_addLine_58 : decode cX3_addLine 58 = .ok (.ifCond .le 5, 3) := by decide +kernel
theorem dX3_addLine_61 : decode cX3_addLine 61 = .ok (.iconst 0, 1) := by decide +kernel
theorem dX3_addLine_62 : decode cX3_addLine 62 = .ok (.ireturn, 1) := by decide +kernel
theorem dX3_addLine_63 : decode cX3_addLine 63 = .ok (.aload_n 0, 1) := by decide +kernel
theorem dX3_addLine_64 : decode cX3_addLine 64 = .ok (.getfield 7, 3) := by decide +kernel
theorem dX3_addLine_67 : decode cX3_addLine 67 = .ok (.aload_n 0, 1) := by decide +kernel
theorem dX3_addLine_68 : decode cX3_addLine 68 = .ok (.getfield 71, 3) := by decide +kernel
theorem dX3_addLine_71 : decode cX3_addLine 71 = .ok (.iload_n 1, 1) := by decide +kernel
theorem dX3_addLine_72 : decode cX3_addLine 72 = .ok (.iastore, 1) := by decide +kernel
theorem dX3_addLine_73 : decode cX3_addLine 73 = .ok (.aload_n 0, 1) := by decide +kernel
theorem dX3_addLine_74 : decode cX3_addLine 74 = .ok (.getfield 13, 3) := by decide +kernel
theorem dX3_addLine_77 : decode cX3_addLine 77 = .ok (.aload_n 0, 1) := by decide +kernel
theorem dX3_addLine_78 : decode cX3_addLine 78 = .ok (.getfield 71, 3) := by decide +kernel
theorem dX3_addLine_81 : decode cX3_addLine 81 = .ok (.iload_n 2, 1) := by decide +kernel
theorem dX3_addLine_82 : decode cX3_addLine 82 = .ok (.iastore, 1) := by decide +kernel
theorem dX3_addLine_83 : decode cX3_addLine 83 = .ok (.aload_n 0, 1) := by decide +kernel
theorem dX3_addLine_84 : decode cX3_addLine 84 = .ok (.getfield 16, 3) := by decide +kernel
theorem dX3_addLine_87 : decode cX3_addLine 87 = .ok (.aload_n 0, 1) := by decide +kernel
theorem dX3_addLine_88 : decode cX3_addLine 88 = .ok (.getfield 71, 3) := by decide +kernel
theorem dX3_addLine_91 : decode cX3_addLine 91 = .ok (.iload_n 3, 1) := by decide +kernel
theorem dX3_addLine_92 : decode cX3_addLine 92 = .ok (.iastore, 1) := by decide +kernel
theorem dX3_addLine_93 : decode cX3_addLine 93 = .ok (.aload_n 0, 1) := by decide +kernel
theorem dX3_addLine_94 : decode cX3_addLine 94 = .ok (.getfield 19, 3) := by decide +kernel
theorem dX3_addLine_97 : decode cX3_addLine 97 = .ok (.aload_n 0, 1) := by decide +kernel
theorem dX3_addLine_98 : decode cX3_addLine 98 = .ok (.getfield 71, 3) := by decide +kernel
theorem dX3_addLine_101 : decode cX3_addLine 101 = .ok (.iload 4, 2) := by decide +kernel
theorem dX3_addLine_103 : decode cX3_addLine 103 = .ok (.bastore, 1) := by decide +kernel
theorem dX3_addLine_104 : decode cX3_addLine 104 = .ok (.aload_n 0, 1) := by decide +kernel
theorem dX3_addLine_105 : decode cX3_addLine 105 = .ok (.dup, 1) := by decide +kernel
theorem dX3_addLine_106 : decode cX3_addLine 106 = .ok (.getfield 71, 3) := by decide +kernel
theorem dX3_addLine_109 : decode cX3_addLine 109 = .ok (.iconst 1, 1) := by decide +kernel
theorem dX3_addLine_110 : decode cX3_addLine 110 = .ok (.iadd, 1) := by decide +kernel
theorem dX3_addLine_111 : decode cX3_addLine 111 = .ok (.putfield 71, 3) := by decide +kernel
theorem dX3_addLine_114 : decode cX3_addLine 114 = .ok (.aload_n 0, 1) := by decide +kernel
theorem dX3_addLine_115 : decode cX3_addLine 115 = .ok (.getfield 71, 3) := by decide +kernel
theorem dX3_addLine_118 : decode cX3_addLine 118 = .ok (.iconst 1, 1) := by decide +kernel
theorem dX3_addLine_119 : decode cX3_addLine 119 = .ok (.isub, 1) := by decide +kernel
theorem dX3_addLine_120 : decode cX3_addLine 120 = .ok (.ireturn, 1) := by decide +kernel
set_option maxRecDepth 20000 in
theorem ggX3_extend_X3_isLine : GoodIn wsX3_extend wsX3_isLine := goodIn_r _ [7, 8, 9, 10, 6, 11, 12, 13, 14, 15, 16, 17, 18, 19, 20, 21, 22, 23, 24, 25, 26, 27, 28, 29, 30, 31, 32, 33, 34, 35] (by decide +kernel) (by decide +kernel)
set_option maxRecDepth 20000 in
theorem gX3_extend_X3_isLine : GoodIn wsX3_extend (wsV RX3 86 RX3 yX3_isLine wsX3_isLine) := goodIn_app (goodIn_of _ (by decide +kernel)) ggX3_extend_X3_isLine
set_option maxRecDepth 20000 in
theorem ggX3_extend_X3_in : GoodIn wsX3_extend wsX3_in := goodIn_r _ [11] (by decide +kernel) (by decide +kernel)
set_option maxRecDepth 20000 in
theorem gX3_extend_X3_in : GoodIn wsX3_extend (va_wsS RX3 74 yX3_in wsX3_in) := goodIn_app (goodIn_of _ (by decide +kernel)) ggX3_extend_X3_in
theorem dX3_extend_0 : decode cX3_extend 0 = .ok (.aload_n 0, 1) := by decide +kernel
theorem dX3_extend_1 : decode cX3_extend 1 = .ok (.aload_n 0, 1) := by decide +kernel
theorem dX3_extend_2 : decode cX3_extend 2 = .ok (.iload_n 1, 1) := by decide +kernel
theorem dX3_extend_3 : decode cX3_extend 3 = .ok (.invokevirtual 86, 3) := by decide +kernel
theorem dX3_extend_6 : decode cX3_extend 6 = .ok (.ifCond .ne 7, 3) := by decide +kernel
theorem dX3_extend_9 : decode cX3_extend 9 = .ok (.iconst 1, 1) := by decide +kernel
theorem dX3_extend_10 : decode cX3_extend 10 = .ok (.goto 24, 3) := by decide +kernel
theorem dX3_extend_13 : decode cX3_extend 13 = .ok (.iload_n 2, 1) := by decide +kernel
theorem dX3_extend_14 : decode cX3_extend 14 = .ok (.aload_n 0, 1) := by decide +kernel
theorem dX3_extend_15 : decode cX3_extend 15 = .ok (.getfield 16, 3) := by decide +kernel
theorem dX3_extend_18 : decode cX3_extend 18 = .ok (.iload_n 1, 1) := by decide +kernel
theorem dX3_extend_19 : decode cX3_extend 19 = .ok (.iaload, 1) := by decide +kernel
theorem dX3_extend_20 : decode cX3_extend 20 = .ok (.sipush 9999, 3) := by decide +kernel
theorem dX3_extend_23 : decode cX3_extend 23 = .ok (.invokestatic 74, 3) := by decide +kernel
theorem dX3_extend_26 : decode cX3_extend 26 = .ok (.ifCond .ne 7, 3) := by decide +kernel
theorem dX3_extend_29 : decode cX3_extend 29 = .ok (.iconst 2, 1) := by decide +kernel
theorem dX3_extend_30 : decode cX3_extend 30 = .ok (.goto 4, 3) := by decide +kernel
theorem dX3_extend_33 : decode cX3_extend 33 = .ok (.iconst 0, 1) := by decide +kernel
theorem dX3_extend_34 : decode cX3_extend 34 = .ok (.putfield 68, 3) := by decide +kernel
theorem dX3_extend_37 : decode cX3_extend 37 = .ok (.aload_n 0, 1) := by decide +kernel
theorem dX3_extend_38 : decode cX3_extend 38 = .ok (.getfield 68, 3) := by decide +kernel
theorem dX3_extend_41 : decode cX3_extend 41 = .ok (.ifCond .le 5, 3) := by decide +kernel
theorem dX3_extend_44 : decode cX3_extend 44 = .ok (.iconst 0, 1) := by decide +kernel
theorem dX3_extend_45 : decode cX3_extend 45 = .ok (.ireturn, 1) := by decide +kernel
theorem dX3_extend_46 : decode cX3_extend 46 = .ok (.aload_n 0, 1) := by decide +kernel
theorem dX3_extend_47 : decode cX3_extend 47 = .ok (.getfield 16, 3) := by decide +kernel
theorem dX3_extend_50 : decode cX3_extend 50 = .ok (.iload_n 1, 1) := by decide +kernel
theorem dX3_extend_51 : decode cX3_extend 51 = .ok (.iaload, 1) := by decide +kernel
theorem dX3_extend_52 : decode cX3_extend 52 = .ok (.istore_n 3, 1) := by decide +kernel
theorem dX3_extend_53 : decode cX3_extend 53 = .ok (.aload_n 0, 1) := by decide +kernel
theorem dX3_extend_54 : decode cX3_extend 54 = .ok (.getfield 16, 3) := by decide +kernel
theorem dX3_extend_57 : decode cX3_extend 57 = .ok (.iload_n 1, 1) := by decide +kernel
theorem dX3_extend_58 : decode cX3_extend 58 = .ok (.iload_n 2, 1) := by decide +kernel
theorem dX3_extend_59 : decode cX3_extend 59 = .ok (.iastore, 1) := by decide +kernel
theorem dX3_extend_60 : decode cX3_extend 60 = .ok (.iload_n 3, 1) := by decide +kernel
theorem dX3_extend_61 : decode cX3_extend 61 = .ok (.ireturn, 1) := by decide +kernel
theorem dX3_roomOf_0 : decode cX3_roomOf 0 = .ok (.aload_n 0, 1) := by decide +kernel
theorem dX3_roomOf_1 : decode cX3_roomOf 1 = .ok (.getfield 7, 3) := by decide +kernel
theorem dX3_roomOf_4 : decode cX3_roomOf 4 = .ok (.iload_n 1, 1) := by decide +kernel
theorem dX3_roomOf_5 : decode cX3_roomOf 5 = .ok (.iaload, 1) := by decide +kernel
theorem dX3_roomOf_6 : decode cX3_roomOf 6 = .ok (.aload_n 0, 1) := by decide +kernel
theorem dX3_roomOf_7 : decode cX3_roomOf 7 = .ok (.getfield 23, 3) := by decide +kernel
theorem dX3_roomOf_10 : decode cX3_roomOf 10 = .ok (.iload_n 1, 1) := by decide +kernel
theorem dX3_roomOf_11 : decode cX3_roomOf 11 = .ok (.iaload, 1) := by decide +kernel
theorem dX3_roomOf_12 : decode cX3_roomOf 12 = .ok (.iadd, 1) := by decide +kernel
theorem dX3_roomOf_13 : decode cX3_roomOf 13 = .ok (.aload_n 0, 1) := by decide +kernel
theorem dX3_roomOf_14 : decode cX3_roomOf 14 = .ok (.getfield 26, 3) := by decide +kernel
theorem dX3_roomOf_17 : decode cX3_roomOf 17 = .ok (.iload_n 1, 1) := by decide +kernel
theorem dX3_roomOf_18 : decode cX3_roomOf 18 = .ok (.iaload, 1) := by decide +kernel
theorem dX3_roomOf_19 : decode cX3_roomOf 19 = .ok (.isub, 1) := by decide +kernel
theorem dX3_roomOf_20 : decode cX3_roomOf 20 = .ok (.ireturn, 1) := by decide +kernel
set_option maxRecDepth 20000 in
theorem ggX3_move_X3_isLine : GoodIn wsX3_move wsX3_isLine := goodIn_r _ [10, 11, 12, 13, 9, 14, 19, 20, 21, 22, 23, 24, 25, 26, 27, 28, 29, 30, 31, 32, 33, 34, 35, 36, 37, 38, 39, 40, 41, 42] (by decide +kernel) (by decide +kernel)
set_option maxRecDepth 20000 in
theorem gX3_move_X3_isLine : GoodIn wsX3_move (wsV RX3 86 RX3 yX3_isLine wsX3_isLine) := goodIn_app (goodIn_of _ (by decide +kernel)) ggX3_move_X3_isLine
set_option maxRecDepth 20000 in
theorem ggX3_move_X3_in : GoodIn wsX3_move wsX3_in := goodIn_r _ [14] (by decide +kernel) (by decide +kernel)
set_option maxRecDepth 20000 in
theorem gX3_move_X3_in : GoodIn wsX3_move (va_wsS RX3 74 yX3_in wsX3_in) := goodIn_app (goodIn_of _ (by decide +kernel)) ggX3_move_X3_in
set_option maxRecDepth 20000 in
theorem ggX3_move_X3_roomOf : GoodIn wsX3_move wsX3_roomOf := goodIn_r _ [18, 3, 5, 2, 19, 20, 21, 22, 23, 24, 25, 26, 27, 28, 29, 30, 31, 32, 33, 34, 35, 36, 37, 38, 39, 40, 41, 42] (by decide +kernel) (by decide +kernel)
set_option maxRecDepth 20000 in
theorem gX3_move_X3_roomOf : GoodIn wsX3_move (wsV RX3 90 RX3 yX3_roomOf wsX3_roomOf) := goodIn_app (goodIn_of _ (by decide +kernel)) ggX3_move_X3_roomOf
theorem dX3_move_0 : decode cX3_move 0 = .ok (.aload_n 0, 1) := by decide +kernel
theorem dX3_move_1 : decode cX3_move 1 = .ok (.aload_n 0, 1) := by decide +kernel
theorem dX3_move_2 : decode cX3_move 2 = .ok (.iload_n 1, 1) := by decide +kernel
theorem dX3_move_3 : decode cX3_move 3 = .ok (.invokevirtual 86, 3) := by decide +kernel
theorem dX3_move_6 : decode cX3_move 6 = .ok (.ifCond .eq 11, 3) := by decide +kernel
theorem dX3_move_9 : decode cX3_move 9 = .ok (.aload_n 0, 1) := by decide +kernel
theorem dX3_move_10 : decode cX3_move 10 = .ok (.iload_n 2, 1) := by decide +kernel
theorem dX3_move_11 : decode cX3_move 11 = .ok (.invokevirtual 86, 3) := by decide +kernel
theorem dX3_move_14 : decode cX3_move 14 = .ok (.ifCond .ne 7, 3) := by decide +kernel
theorem dX3_move_17 : decode cX3_move 17 = .ok (.iconst 1, 1) := by decide +kernel
theorem dX3_move_18 : decode cX3_move 18 = .ok (.goto 47, 3) := by decide +kernel
theorem dX3_move_21 : decode cX3_move 21 = .ok (.iload_n 3, 1) := by decide +kernel
theorem dX3_move_22 : decode cX3_move 22 = .ok (.iconst 1, 1) := by decide +kernel
theorem dX3_move_23 : decode cX3_move 23 = .ok (.ldc 85, 2) := by decide +kernel
theorem dX3_move_25 : decode cX3_move 25 = .ok (.invokestatic 74, 3) := by decide +kernel
theorem dX3_move_28 : decode cX3_move 28 = .ok (.ifCond .eq 8, 3) := by decide +kernel
theorem dX3_move_31 : decode cX3_move 31 = .ok (.iload_n 1, 1) := by decide +kernel
theorem dX3_move_32 : decode cX3_move 32 = .ok (.iload_n 2, 1) := by decide +kernel
theorem dX3_move_33 : decode cX3_move 33 = .ok (.if_icmp .ne 7, 3) := by decide +kernel
theorem dX3_move_36 : decode cX3_move 36 = .ok (.iconst 2, 1) := by decide +kernel
theorem dX3_move_37 : decode cX3_move 37 = .ok (.goto 28, 3) := by decide +kernel
theorem dX3_move_40 : decode cX3_move 40 = .ok (.aload_n 0, 1) := by decide +kernel
theorem dX3_move_41 : decode cX3_move 41 = .ok (.getfield 26, 3) := by decide +kernel
theorem dX3_move_44 : decode cX3_move 44 = .ok (.iload_n 1, 1) := by decide +kernel
theorem dX3_move_45 : decode cX3_move 45 = .ok (.iaload, 1) := by decide +kernel
theorem dX3_move_46 : decode cX3_move 46 = .ok (.iload_n 3, 1) := by decide +kernel
theorem dX3_move_47 : decode cX3_move 47 = .ok (.iadd, 1) := by decide +kernel
theorem dX3_move_48 : decode cX3_move 48 = .ok (.aload_n 0, 1) := by decide +kernel
theorem dX3_move_49 : decode cX3_move 49 = .ok (.getfield 7, 3) := by decide +kernel
theorem dX3_move_52 : decode cX3_move 52 = .ok (.iload_n 1, 1) := by decide +kernel
theorem dX3_move_53 : decode cX3_move 53 = .ok (.iaload, 1) := by decide +kernel
theorem dX3_move_54 : decode cX3_move 54 = .ok (.bipush 10, 2) := by decide +kernel
theorem dX3_move_56 : decode cX3_move 56 = .ok (.idiv, 1) := by decide +kernel
theorem dX3_move_57 : decode cX3_move 57 = .ok (.if_icmp .le 7, 3) := by decide +kernel
theorem dX3_move_60 : decode cX3_move 60 = .ok (.iconst 3, 1) := by decide +kernel
theorem dX3_move_61 : decode cX3_move 61 = .ok (.goto 4, 3) := by decide +kernel
theorem dX3_move_64 : decode cX3_move 64 = .ok (.iconst 0, 1) := by decide +kernel
theorem dX3_move_65 : decode cX3_move 65 = .ok (.putfield 68, 3) := by decide +kernel
theorem dX3_move_68 : decode cX3_move 68 = .ok (.aload_n 0, 1) := by decide +kernel
theorem dX3_move_69 : decode cX3_move 69 = .ok (.getfield 68, 3) := by decide +kernel
theorem dX3_move_72 : decode cX3_move 72 = .ok (.ifCond .le 5, 3) := by decide +kernel
theorem dX3_move_75 : decode cX3_move 75 = .ok (.iconst 0, 1) := by decide +kernel
theorem dX3_move_76 : decode cX3_move 76 = .ok (.ireturn, 1) := by decide +kernel
theorem dX3_move_77 : decode cX3_move 77 = .ok (.aload_n 0, 1) := by decide +kernel
theorem dX3_move_78 : decode cX3_move 78 = .ok (.getfield 26, 3) := by decide +kernel
theorem dX3_move_81 : decode cX3_move 81 = .ok (.iload_n 1, 1) := by decide +kernel
theorem dX3_move_82 : decode cX3_move 82 = .ok (.dup2, 1) := by decide +kernel
theorem dX3_move_83 : decode cX3_move 83 = .ok (.iaload, 1) := by decide +kernel
theorem dX3_move_84 : decode cX3_move 84 = .ok (.iload_n 3, 1) := by decide +kernel
theorem dX3_move_85 : decode cX3_move 85 = .ok (.iadd, 1) := by decide +kernel
theorem dX3_move_86 : decode cX3_move 86 = .ok (.iastore, 1) := by decide +kernel
theorem dX3_move_87 : decode cX3_move 87 = .ok (.aload_n 0, 1) := by decide +kernel
theorem dX3_move_88 : decode cX3_move 88 = .ok (.getfield 23, 3) := by decide +kernel
theorem dX3_move_91 : decode cX3_move 91 = .ok (.iload_n 2, 1) := by decide +kernel
theorem dX3_move_92 : decode cX3_move 92 = .ok (.dup2, 1) := by decide +kernel
theorem dX3_move_93 : decode cX3_move 93 = .ok (.iaload, 1) := by decide +kernel
theorem dX3_move_94 : decode cX3_move 94 = .ok (.iload_n 3, 1) := by decide +kernel
theorem dX3_move_95 : decode cX3_move 95 = .ok (.iadd, 1) := by decide +kernel
theorem dX3_move_96 : decode cX3_move 96 = .ok (.iastore, 1) := by decide +kernel
theorem dX3_move_97 : decode cX3_move 97 = .ok (.aload_n 0, 1) := by decide +kernel
theorem dX3_move_98 : decode cX3_move 98 = .ok (.iload_n 1, 1) := by decide +kernel
theorem dX3_move_99 : decode cX3_move 99 = .ok (.invokevirtual 90, 3) := by decide +kernel
theorem dX3_move_102 : decode cX3_move 102 = .ok (.ireturn, 1) := by decide +kernel
theorem dX3_lines_0 : decode cX3_lines 0 = .ok (.aload_n 0, 1) := by decide +kernel
theorem dX3_lines_1 : decode cX3_lines 1 = .ok (.iconst 0, 1) := by decide +kernel
theorem dX3_lines_2 : decode cX3_lines 2 = .ok (.putfield 68, 3) := by decide +kernel
theorem dX3_lines_5 : decode cX3_lines 5 = .ok (.aload_n 0, 1) := by decide +kernel
theorem dX3_lines_6 : decode cX3_lines 6 = .ok (.getfield 71, 3) := by decide +kernel
theorem dX3_lines_9 : decode cX3_lines 9 = .ok (.ireturn, 1) := by decide +kernel
set_option maxRecDepth 20000 in
theorem ggX3_room_X3_isLine : GoodIn wsX3_room wsX3_isLine := goodIn_r _ [6, 7, 8, 9, 5, 10, 18, 19, 20, 21, 22, 23, 24, 25, 26, 27, 28, 29, 30, 31, 32, 33, 34, 35, 36, 37, 38, 39, 40, 41] (by decide +kernel) (by decide +kernel)
set_option maxRecDepth 20000 in
theorem gX3_room_X3_isLine : GoodIn wsX3_room (wsV RX3 86 RX3 yX3_isLine wsX3_isLine) := goodIn_app (goodIn_of _ (by decide +kernel)) ggX3_room_X3_isLine
set_option maxRecDepth 20000 in
theorem ggX3_room_X3_roomOf : GoodIn wsX3_room wsX3_roomOf := goodIn_r _ [14, 15, 16, 17, 18, 19, 20, 21, 22, 23, 24, 25, 26, 27, 28, 29, 30, 31, 32, 33, 34, 35, 36, 37, 38, 39, 40, 41] (by decide +kernel) (by decide +kernel)
set_option maxRecDepth 20000 in
theorem gX3_room_X3_roomOf : GoodIn wsX3_room (wsV RX3 90 RX3 yX3_roomOf wsX3_roomOf) := goodIn_app (goodIn_of _ (by decide +kernel)) ggX3_room_X3_roomOf
theorem dX3_room_0 : decode cX3_room 0 = .ok (.aload_n 0, 1) := by decide +kernel
theorem dX3_room_1 : decode cX3_room 1 = .ok (.aload_n 0, 1) := by decide +kernel
theorem dX3_room_2 : decode cX3_room 2 = .ok (.iload_n 1, 1) := by decide +kernel
theorem dX3_room_3 : decode cX3_room 3 = .ok (.invokevirtual 86, 3) := by decide +kernel
theorem dX3_room_6 : decode cX3_room 6 = .ok (.ifCond .eq 7, 3) := by decide +kernel
theorem dX3_room_9 : decode cX3_room 9 = .ok (.iconst 0, 1) := by decide +kernel
theorem dX3_room_10 : decode cX3_room 10 = .ok (.goto 4, 3) := by decide +kernel
theorem dX3_room_13 : decode cX3_room 13 = .ok (.iconst 1, 1) := by decide +kernel
theorem dX3_room_14 : decode cX3_room 14 = .ok (.putfield 68, 3) := by decide +kernel
theorem dX3_room_17 : decode cX3_room 17 = .ok (.aload_n 0, 1) := by decide +kernel
theorem dX3_room_18 : decode cX3_room 18 = .ok (.getfield 68, 3) := by decide +kernel
theorem dX3_room_21 : decode cX3_room 21 = .ok (.ifCond .ne 11, 3) := by decide +kernel
theorem dX3_room_24 : decode cX3_room 24 = .ok (.aload_n 0, 1) := by decide +kernel
theorem dX3_room_25 : decode cX3_room 25 = .ok (.iload_n 1, 1) := by decide +kernel
theorem dX3_room_26 : decode cX3_room 26 = .ok (.invokevirtual 90, 3) := by decide +kernel
theorem dX3_room_29 : decode cX3_room 29 = .ok (.goto 4, 3) := by decide +kernel
theorem dX3_room_32 : decode cX3_room 32 = .ok (.iconst 0, 1) := by decide +kernel
theorem dX3_room_33 : decode cX3_room 33 = .ok (.ireturn, 1) := by decide +kernel
set_option maxRecDepth 20000 in
theorem ggX3_isFit_X3_in : GoodIn wsX3_isFit wsX3_in := goodIn_r _ [9] (by decide +kernel) (by decide +kernel)
set_option maxRecDepth 20000 in
theorem gX3_isFit_X3_in : GoodIn wsX3_isFit (va_wsS RX3 74 yX3_in wsX3_in) := goodIn_app (goodIn_of _ (by decide +kernel)) ggX3_isFit_X3_in
theorem dX3_isFit_0 : decode cX3_isFit 0 = .ok (.aload_n 0, 1) := by decide +kernel
theorem dX3_isFit_1 : decode cX3_isFit 1 = .ok (.getfield 29, 3) := by decide +kernel
theorem dX3_isFit_4 : decode cX3_isFit 4 = .ok (.iload_n 1, 1) := by decide +kernel
theorem dX3_isFit_5 : decode cX3_isFit 5 = .ok (.iaload, 1) := by decide +kernel
theorem dX3_isFit_6 : decode cX3_isFit 6 = .ok (.istore_n 2, 1) := by decide +kernel
theorem dX3_isFit_7 : decode cX3_isFit 7 = .ok (.aload_n 0, 1) := by decide +kernel
theorem dX3_isFit_8 : decode cX3_isFit 8 = .ok (.getfield 38, 3) := by decide +kernel
theorem dX3_isFit_11 : decode cX3_isFit 11 = .ok (.iload_n 1, 1) := by decide +kernel
theorem dX3_isFit_12 : decode cX3_isFit 12 = .ok (.baload, 1) := by decide +kernel
theorem dX3_isFit_13 : decode cX3_isFit 13 = .ok (.ifCond .ne 31, 3) := by decide +kernel
theorem dX3_isFit_16 : decode cX3_isFit 16 = .ok (.aload_n 0, 1) := by decide +kernel
theorem dX3_isFit_17 : decode cX3_isFit 17 = .ok (.getfield 32, 3) := by decide +kernel
theorem dX3_isFit_20 : decode cX3_isFit 20 = .ok (.iload_n 1, 1) := by decide +kernel
theorem dX3_isFit_21 : decode cX3_isFit 21 = .ok (.iaload, 1) := by decide +kernel
theorem dX3_isFit_22 : decode cX3_isFit 22 = .ok (.aload_n 0, 1) := by decide +kernel
theorem dX3_isFit_23 : decode cX3_isFit 23 = .ok (.getfield 13, 3) := by decide +kernel
theorem dX3_isFit_26 : decode cX3_isFit 26 = .ok (.iload_n 2, 1) := by decide +kernel
theorem dX3_isFit_27 : decode cX3_isFit 27 = .ok (.iaload, 1) := by decide +kernel
theorem dX3_isFit_28 : decode cX3_isFit 28 = .ok (.aload_n 0, 1) := by decide +kernel
theorem dX3_isFit_29 : decode cX3_isFit 29 = .ok (.getfield 16, 3) := by decide +kernel
theorem dX3_isFit_32 : decode cX3_isFit 32 = .ok (.iload_n 2, 1) := by decide +kernel
theorem dX3_isFit_33 : decode cX3_isFit 33 = .ok (.iaload, 1) := by decide +kernel
theorem dX3_isFit_34 : decode cX3_isFit 34 = .ok (.invokestatic 74, 3) := by decide +kernel
theorem dX3_isFit_37 : decode cX3_isFit 37 = .ok (.ifCond .eq 7, 3) := by decide +kernel
theorem dX3_isFit_40 : decode cX3_isFit 40 = .ok (.iconst 1, 1) := by decide +kernel
theorem dX3_isFit_41 : decode cX3_isFit 41 = .ok (.goto 4, 3) := by decide +kernel
theorem dX3_isFit_44 : decode cX3_isFit 44 = .ok (.iconst 0, 1) := by decide +kernel
theorem dX3_isFit_45 : decode cX3_isFit 45 = .ok (.ireturn, 1) := by decide +kernel
set_option maxRecDepth 20000 in
theorem ggX3_layEligibles_X3_roomOf : GoodIn wsX3_layEligibles wsX3_roomOf := goodIn_r _ [12, 13, 14, 15, 27, 28, 29, 30, 31, 32, 33, 34, 35, 36, 37, 38, 39, 40, 41, 42, 43, 44, 45, 46, 47, 48, 49, 50] (by decide +kernel) (by decide +kernel)
set_option maxRecDepth 20000 in
theorem gX3_layEligibles_X3_roomOf : GoodIn wsX3_layEligibles (wsV RX3 90 RX3 yX3_roomOf wsX3_roomOf) := goodIn_app (goodIn_of _ (by decide +kernel)) ggX3_layEligibles_X3_roomOf
set_option maxRecDepth 20000 in
theorem ggX3_layEligibles_X3_isFit : GoodIn wsX3_layEligibles wsX3_isFit := goodIn_r _ [19, 5, 20, 21, 22, 23, 24, 25, 11, 26, 27, 28, 29, 30, 31, 32, 33, 34, 35, 36, 37, 38, 39, 40, 41, 42, 43, 44, 45, 46, 47, 48, 49, 50] (by decide +kernel) (by decide +kernel)
set_option maxRecDepth 20000 in
theorem gX3_layEligibles_X3_isFit : GoodIn wsX3_layEligibles (wsV RX3 94 RX3 yX3_isFit wsX3_isFit) := goodIn_app (goodIn_of _ (by decide +kernel)) ggX3_layEligibles_X3_isFit
theorem dX3_layEligibles_0 : decode cX3_layEligibles 0 = .ok (.iconst 0, 1) := by decide +kernel
theorem dX3_layEligibles_1 : decode cX3_layEligibles 1 = .ok (.istore_n 1, 1) := by decide +kernel
theorem dX3_layEligibles_2 : decode cX3_layEligibles 2 = .ok (.iload_n 1, 1) := by decide +kernel
theorem dX3_layEligibles_3 : decode cX3_layEligibles 3 = .ok (.aload_n 0, 1) := by decide +kernel
theorem dX3_layEligibles_4 : decode cX3_layEligibles 4 = .ok (.getfield 71, 3) := by decide +kernel
theorem dX3_layEligibles_7 : decode cX3_layEligibles 7 = .ok (.if_icmp .ge 16, 3) := by decide +kernel
theorem dX3_layEligibles_10 : decode cX3_layEligibles 10 = .ok (.aload_n 0, 1) := by decide +kernel
theorem dX3_layEligibles_11 : decode cX3_layEligibles 11 = .ok (.getfield 50, 3) := by decide +kernel
theorem dX3_layEligibles_14 : decode cX3_layEligibles 14 = .ok (.iload_n 1, 1) := by decide +kernel
theorem dX3_layEligibles_15 : decode cX3_layEligibles 15 = .ok (.iconst 0, 1) := by decide +kernel
theorem dX3_layEligibles_16 : decode cX3_layEligibles 16 = .ok (.iastore, 1) := by decide +kernel
theorem dX3_layEligibles_17 : decode cX3_layEligibles 17 = .ok (.iinc 1 1, 3) := by decide +kernel
theorem dX3_layEligibles_20 : decode cX3_layEligibles 20 = .ok (.goto (-18), 3) := by decide +kernel
theorem dX3_layEligibles_23 : decode cX3_layEligibles 23 = .ok (.iconst 0, 1) := by decide +kernel
theorem dX3_layEligibles_24 : decode cX3_layEligibles 24 = .ok (.istore_n 1, 1) := by decide +kernel
theorem dX3_layEligibles_25 : decode cX3_layEligibles 25 = .ok (.iload_n 1, 1) := by decide +kernel
theorem dX3_layEligibles_26 : decode cX3_layEligibles 26 = .ok (.aload_n 0, 1) := by decide +kernel
theorem dX3_layEligibles_27 : decode cX3_layEligibles 27 = .ok (.getfield 78, 3) := by decide +kernel
theorem dX3_layEligibles_30 : decode cX3_layEligibles 30 = .ok (.if_icmp .ge 105, 3) := by decide +kernel
theorem dX3_layEligibles_33 : decode cX3_layEligibles 33 = .ok (.aload_n 0, 1) := by decide +kernel
theorem dX3_layEligibles_34 : decode cX3_layEligibles 34 = .ok (.getfield 41, 3) := by decide +kernel
theorem dX3_layEligibles_37 : decode cX3_layEligibles 37 = .ok (.iload_n 1, 1) := by decide +kernel
theorem dX3_layEligibles_38 : decode cX3_layEligibles 38 = .ok (.iaload, 1) := by decide +kernel
theorem dX3_layEligibles_39 : decode cX3_layEligibles 39 = .ok (.istore_n 2, 1) := by decide +kernel
theorem dX3_layEligibles_40 : decode cX3_layEligibles 40 = .ok (.aload_n 0, 1) := by decide +kernel
theorem dX3_layEligibles_41 : decode cX3_layEligibles 41 = .ok (.getfield 29, 3) := by decide +kernel
theorem dX3_layEligibles_44 : decode cX3_layEligibles 44 = .ok (.iload_n 2, 1) := by decide +kernel
theorem dX3_layEligibles_45 : decode cX3_layEligibles 45 = .ok (.iaload, 1) := by decide +kernel
theorem dX3_layEligibles_46 : decode cX3_layEligibles 46 = .ok (.istore_n 3, 1) := by decide +kernel
theorem dX3_layEligibles_47 : decode cX3_layEligibles 47 = .ok (.aload_n 0, 1) := by decide +kernel
theorem dX3_layEligibles_48 : decode cX3_layEligibles 48 = .ok (.iload_n 3, 1) := by decide +kernel
theorem dX3_layEligibles_49 : decode cX3_layEligibles 49 = .ok (.invokevirtual 90, 3) := by decide +kernel
theorem dX3_layEligibles_52 : decode cX3_layEligibles 52 = .ok (.aload_n 0, 1) := by decide +kernel
theorem dX3_layEligibles_53 : decode cX3_layEligibles 53 = .ok (.getfield 50, 3) := by decide +kernel
theorem dX3_layEligibles_56 : decode cX3_layEligibles 56 = .ok (.iload_n 3, 1) := by decide +kernel
theorem dX3_layEligibles_57 : decode cX3_layEligibles 57 = .ok (.iaload, 1) := by decide +kernel
theorem dX3_layEligibles_58 : decode cX3_layEligibles 58 = .ok (.isub, 1) := by decide +kernel
theorem dX3_layEligibles_59 : decode cX3_layEligibles 59 = .ok (.istore 4, 2) := by decide +kernel
theorem dX3_layEligibles_61 : decode cX3_layEligibles 61 = .ok (.iload 4, 2) := by decide +kernel
theorem dX3_layEligibles_63 : decode cX3_layEligibles 63 = .ok (.ifCond .ge 7, 3) := by decide +kernel
theorem dX3_layEligibles_66 : decode cX3_layEligibles 66 = .ok (.iconst 0, 1) := by decide +kernel
theorem dX3_layEligibles_67 : decode cX3_layEligibles 67 = .ok (.goto 5, 3) := by decide +kernel
theorem dX3_layEligibles_70 : decode cX3_layEligibles 70 = .ok (.iload 4, 2) := by decide +kernel
theorem dX3_layEligibles_72 : decode cX3_layEligibles 72 = .ok (.istore 5, 2) := by decide +kernel
theorem dX3_layEligibles_74 : decode cX3_layEligibles 74 = .ok (.aload_n 0, 1) := by decide +kernel
theorem dX3_layEligibles_75 : decode cX3_layEligibles 75 = .ok (.getfield 47, 3) := by decide +kernel
theorem dX3_layEligibles_78 : decode cX3_layEligibles 78 = .ok (.iload_n 2, 1) := by decide +kernel
theorem dX3_layEligibles_79 : decode cX3_layEligibles 79 = .ok (.aload_n 0, 1) := by decide +kernel
theorem dX3_layEligibles_80 : decode cX3_layEligibles 80 = .ok (.iload_n 2, 1) := by decide +kernel
theorem dX3_layEligibles_81 : decode cX3_layEligibles 81 = .ok (.invokevirtual 94, 3) := by decide +kernel
theorem dX3_layEligibles_84 : decode cX3_layEligibles 84 = .ok (.ifCond .ne 7, 3) := by decide +kernel
theorem dX3_layEligibles_87 : decode cX3_layEligibles 87 = .ok (.iconst 0, 1) := by decide +kernel
theorem dX3_layEligibles_88 : decode cX3_layEligibles 88 = .ok (.goto 25, 3) := by decide +kernel
theorem dX3_layEligibles_91 : decode cX3_layEligibles 91 = .ok (.aload_n 0, 1) := by decide +kernel
theorem dX3_layEligibles_92 : decode cX3_layEligibles 92 = .ok (.getfield 35, 3) := by decide +kernel
theorem dX3_layEligibles_95 : decode cX3_layEligibles 95 = .ok (.iload_n 2, 1) := by decide +kernel
theorem dX3_layEligibles_96 : decode cX3_layEligibles 96 = .ok (.iaload, 1) := by decide +kernel
theorem dX3_layEligibles_97 : decode cX3_layEligibles 97 = .ok (.iload 5, 2) := by decide +kernel
theorem dX3_layEligibles_99 : decode cX3_layEligibles 99 = .ok (.if_icmp .ge 12, 3) := by decide +kernel
theorem dX3_layEligibles_102 : decode cX3_layEligibles 102 = .ok (.aload_n 0, 1) := by decide +kernel
theorem dX3_layEligibles_103 : decode cX3_layEligibles 103 = .ok (.getfield 35, 3) := by decide +kernel
theorem dX3_layEligibles_106 : decode cX3_layEligibles 106 = .ok (.iload_n 2, 1) := by decide +kernel
theorem dX3_layEligibles_107 : decode cX3_layEligibles 107 = .ok (.iaload, 1) := by decide +kernel
theorem dX3_layEligibles_108 : decode cX3_layEligibles 108 = .ok (.goto 5, 3) := by decide +kernel
theorem dX3_layEligibles_111 : decode cX3_layEligibles 111 = .ok (.iload 5, 2) := by decide +kernel
theorem dX3_layEligibles_113 : decode cX3_layEligibles 113 = .ok (.iastore, 1) := by decide +kernel
theorem dX3_layEligibles_114 : decode cX3_layEligibles 114 = .ok (.aload_n 0, 1) := by decide +kernel
theorem dX3_layEligibles_115 : decode cX3_layEligibles 115 = .ok (.getfield 50, 3) := by decide +kernel
theorem dX3_layEligibles_118 : decode cX3_layEligibles 118 = .ok (.iload_n 3, 1) := by decide +kernel
theorem dX3_layEligibles_119 : decode cX3_layEligibles 119 = .ok (.dup2, 1) := by decide +kernel
theorem dX3_layEligibles_120 : decode cX3_layEligibles 120 = .ok (.iaload, 1) := by decide +kernel
theorem dX3_layEligibles_121 : decode cX3_layEligibles 121 = .ok (.aload_n 0, 1) := by decide +kernel
theorem dX3_layEligibles_122 : decode cX3_layEligibles 122 = .ok (.getfield 47, 3) := by decide +kernel
theorem dX3_layEligibles_125 : decode cX3_layEligibles 125 = .ok (.iload_n 2, 1) := by decide +kernel
theorem dX3_layEligibles_126 : decode cX3_layEligibles 126 = .ok (.iaload, 1) := by decide +kernel
theorem dX3_layEligibles_127 : decode cX3_layEligibles 127 = .ok (.iadd, 1) := by decide +kernel
theorem dX3_layEligibles_128 : decode cX3_layEligibles 128 = .ok (.iastore, 1) := by decide +kernel
theorem dX3_layEligibles_129 : decode cX3_layEligibles 129 = .ok (.iinc 1 1, 3) := by decide +kernel
theorem dX3_layEligibles_132 : decode cX3_layEligibles 132 = .ok (.goto (-107), 3) := by decide +kernel
theorem dX3_layEligibles_135 : decode cX3_layEligibles 135 = .ok (.return_, 1) := by decide +kernel
set_option maxRecDepth 20000 in
theorem ggX3_allEligible_X3_layEligibles : GoodIn wsX3_allEligible wsX3_layEligibles := goodIn_r _ [7, 8, 9, 1, 10, 11, 2, 12, 13, 14, 15, 6, 16, 17, 18, 19, 20, 21, 22, 23, 24, 25, 26, 27, 28, 29, 30, 31, 32, 33, 34, 35, 36, 37, 38, 39, 40, 41, 42, 43, 44, 45, 46, 47, 48, 49, 50, 51, 52, 53, 54] (by decide +kernel) (by decide +kernel)
set_option maxRecDepth 20000 in
theorem gX3_allEligible_X3_layEligibles : GoodIn wsX3_allEligible (wsV RX3 97 RX3 yX3_layEligibles wsX3_layEligibles) := goodIn_app (goodIn_of _ (by decide +kernel)) ggX3_allEligible_X3_layEligibles
theorem dX3_allEligible_0 : decode cX3_allEligible 0 = .ok (.aload_n 0, 1) := by decide +kernel
theorem dX3_allEligible_1 : decode cX3_allEligible 1 = .ok (.invokevirtual 97, 3) := by decide +kernel
theorem dX3_allEligible_4 : decode cX3_allEligible 4 = .ok (.iconst 0, 1) := by decide +kernel
theorem dX3_allEligible_5 : decode cX3_allEligible 5 = .ok (.istore_n 1, 1) := by decide +kernel
theorem dX3_allEligible_6 : decode cX3_allEligible 6 = .ok (.iconst 0, 1) := by decide +kernel
theorem dX3_allEligible_7 : decode cX3_allEligible 7 = .ok (.istore_n 2, 1) := by decide +kernel
theorem dX3_allEligible_8 : decode cX3_allEligible 8 = .ok (.iload_n 2, 1) := by decide +kernel
theorem dX3_allEligible_9 : decode cX3_allEligible 9 = .ok (.aload_n 0, 1) := by decide +kernel
theorem dX3_allEligible_10 : decode cX3_allEligible 10 = .ok (.getfield 78, 3) := by decide +kernel
theorem dX3_allEligible_13 : decode cX3_allEligible 13 = .ok (.if_icmp .ge 18, 3) := by decide +kernel
theorem dX3_allEligible_16 : decode cX3_allEligible 16 = .ok (.iload_n 1, 1) := by decide +kernel
theorem dX3_allEligible_17 : decode cX3_allEligible 17 = .ok (.aload_n 0, 1) := by decide +kernel
theorem dX3_allEligible_18 : decode cX3_allEligible 18 = .ok (.getfield 47, 3) := by decide +kernel
theorem dX3_allEligible_21 : decode cX3_allEligible 21 = .ok (.iload_n 2, 1) := by decide +kernel
theorem dX3_allEligible_22 : decode cX3_allEligible 22 = .ok (.iaload, 1) := by decide +kernel
theorem dX3_allEligible_23 : decode cX3_allEligible 23 = .ok (.iadd, 1) := by decide +kernel
theorem dX3_allEligible_24 : decode cX3_allEligible 24 = .ok (.istore_n 1, 1) := by decide +kernel
theorem dX3_allEligible_25 : decode cX3_allEligible 25 = .ok (.iinc 2 1, 3) := by decide +kernel
theorem dX3_allEligible_28 : decode cX3_allEligible 28 = .ok (.goto (-20), 3) := by decide +kernel
theorem dX3_allEligible_31 : decode cX3_allEligible 31 = .ok (.iload_n 1, 1) := by decide +kernel
theorem dX3_allEligible_32 : decode cX3_allEligible 32 = .ok (.ireturn, 1) := by decide +kernel
set_option maxRecDepth 20000 in
theorem ggX3_left_X3_isLine : GoodIn wsX3_left wsX3_isLine := goodIn_r _ [7, 8, 9, 10, 6, 11, 36, 37, 38, 39, 40, 41, 42, 43, 44, 45, 46, 47, 48, 49, 50, 51, 52, 53, 54, 55, 56, 57, 58, 59] (by decide +kernel) (by decide +kernel)
set_option maxRecDepth 20000 in
theorem gX3_left_X3_isLine : GoodIn wsX3_left (wsV RX3 86 RX3 yX3_isLine wsX3_isLine) := goodIn_app (goodIn_of _ (by decide +kernel)) ggX3_left_X3_isLine
set_option maxRecDepth 20000 in
theorem ggX3_left_X3_layEligibles : GoodIn wsX3_left wsX3_layEligibles := goodIn_r _ [15, 8, 2, 16, 17, 18, 19, 20, 21, 22, 23, 6, 24, 25, 26, 27, 28, 29, 30, 31, 32, 33, 34, 35, 9, 10, 11, 36, 37, 38, 39, 40, 41, 42, 43, 44, 45, 46, 47, 48, 49, 50, 51, 52, 53, 54, 55, 56, 57, 58, 59] (by decide +kernel) (by decide +kernel)
set_option maxRecDepth 20000 in
theorem gX3_left_X3_layEligibles : GoodIn wsX3_left (wsV RX3 97 RX3 yX3_layEligibles wsX3_layEligibles) := goodIn_app (goodIn_of _ (by decide +kernel)) ggX3_left_X3_layEligibles
set_option maxRecDepth 20000 in
theorem ggX3_left_X3_roomOf : GoodIn wsX3_left wsX3_roomOf := goodIn_r _ [24, 25, 26, 27, 36, 37, 38, 39, 40, 41, 42, 43, 44, 45, 46, 47, 48, 49, 50, 51, 52, 53, 54, 55, 56, 57, 58, 59] (by decide +kernel) (by decide +kernel)
set_option maxRecDepth 20000 in
theorem gX3_left_X3_roomOf : GoodIn wsX3_left (wsV RX3 90 RX3 yX3_roomOf wsX3_roomOf) := goodIn_app (goodIn_of _ (by decide +kernel)) ggX3_left_X3_roomOf
theorem dX3_left_0 : decode cX3_left 0 = .ok (.aload_n 0, 1) := by decide +kernel
theorem dX3_left_1 : decode cX3_left 1 = .ok (.aload_n 0, 1) := by decide +kernel
theorem dX3_left_2 : decode cX3_left 2 = .ok (.iload_n 1, 1) := by decide +kernel
theorem dX3_left_3 : decode cX3_left 3 = .ok (.invokevirtual 86, 3) := by decide +kernel
theorem dX3_left_6 : decode cX3_left 6 = .ok (.ifCond .eq 7, 3) := by decide +kernel
theorem dX3_left_9 : decode cX3_left 9 = .ok (.iconst 0, 1) := by decide +kernel
theorem dX3_left_10 : decode cX3_left 10 = .ok (.goto 4, 3) := by decide +kernel
theorem dX3_left_13 : decode cX3_left 13 = .ok (.iconst 1, 1) := by decide +kernel
theorem dX3_left_14 : decode cX3_left 14 = .ok (.putfield 68, 3) := by decide +kernel
theorem dX3_left_17 : decode cX3_left 17 = .ok (.aload_n 0, 1) := by decide +kernel
theorem dX3_left_18 : decode cX3_left 18 = .ok (.getfield 68, 3) := by decide +kernel
theorem dX3_left_21 : decode cX3_left 21 = .ok (.ifCond .le 5, 3) := by decide +kernel
theorem dX3_left_24 : decode cX3_left 24 = .ok (.iconst 0, 1) := by decide +kernel
theorem dX3_left_25 : decode cX3_left 25 = .ok (.ireturn, 1) := by decide +kernel
theorem dX3_left_26 : decode cX3_left 26 = .ok (.aload_n 0, 1) := by decide +kernel
theorem dX3_left_27 : decode cX3_left 27 = .ok (.invokevirtual 97, 3) := by decide +kernel
theorem dX3_left_30 : decode cX3_left 30 = .ok (.aload_n 0, 1) := by decide +kernel
theorem dX3_left_31 : decode cX3_left 31 = .ok (.iload_n 1, 1) := by decide +kernel
theorem dX3_left_32 : decode cX3_left 32 = .ok (.invokevirtual 90, 3) := by decide +kernel
theorem dX3_left_35 : decode cX3_left 35 = .ok (.aload_n 0, 1) := by decide +kernel
theorem dX3_left_36 : decode cX3_left 36 = .ok (.getfield 50, 3) := by decide +kernel
theorem dX3_left_39 : decode cX3_left 39 = .ok (.iload_n 1, 1) := by decide +kernel
theorem dX3_left_40 : decode cX3_left 40 = .ok (.iaload, 1) := by decide +kernel
theorem dX3_left_41 : decode cX3_left 41 = .ok (.isub, 1) := by decide +kernel
theorem dX3_left_42 : decode cX3_left 42 = .ok (.ireturn, 1) := by decide +kernel
set_option maxRecDepth 20000 in
theorem ggX3_spend_X3_isLine : GoodIn wsX3_spend wsX3_isLine := goodIn_r _ [12, 13, 14, 15, 11, 16, 17, 18, 19, 20, 21, 22, 23, 24, 25, 26, 27, 28, 29, 30, 31, 32, 33, 34, 35, 36, 37, 38, 39, 40] (by decide +kernel) (by decide +kernel)
set_option maxRecDepth 20000 in
theorem gX3_spend_X3_isLine : GoodIn wsX3_spend (wsV RX3 86 RX3 yX3_isLine wsX3_isLine) := goodIn_app (goodIn_of _ (by decide +kernel)) ggX3_spend_X3_isLine
set_option maxRecDepth 20000 in
theorem ggX3_spend_X3_in : GoodIn wsX3_spend wsX3_in := goodIn_r _ [16] (by decide +kernel) (by decide +kernel)
set_option maxRecDepth 20000 in
theorem gX3_spend_X3_in : GoodIn wsX3_spend (va_wsS RX3 74 yX3_in wsX3_in) := goodIn_app (goodIn_of _ (by decide +kernel)) ggX3_spend_X3_in
theorem dX3_spend_0 : decode cX3_spend 0 = .ok (.aload_n 0, 1) := by decide +kernel
theorem dX3_spend_1 : decode cX3_spend 1 = .ok (.aload_n 0, 1) := by decide +kernel
theorem dX3_spend_2 : decode cX3_spend 2 = .ok (.iload_n 1, 1) := by decide +kernel
theorem dX3_spend_3 : decode cX3_spend 3 = .ok (.invokevirtual 86, 3) := by decide +kernel
theorem dX3_spend_6 : decode cX3_spend 6 = .ok (.ifCond .ne 7, 3) := by decide +kernel
theorem dX3_spend_9 : decode cX3_spend 9 = .ok (.iconst 1, 1) := by decide +kernel
theorem dX3_spend_10 : decode cX3_spend 10 = .ok (.goto 42, 3) := by decide +kernel
theorem dX3_spend_13 : decode cX3_spend 13 = .ok (.iload_n 2, 1) := by decide +kernel
theorem dX3_spend_14 : decode cX3_spend 14 = .ok (.iconst 0, 1) := by decide +kernel
theorem dX3_spend_15 : decode cX3_spend 15 = .ok (.sipush 9999, 3) := by decide +kernel
theorem dX3_spend_18 : decode cX3_spend 18 = .ok (.invokestatic 74, 3) := by decide +kernel
theorem dX3_spend_21 : decode cX3_spend 21 = .ok (.ifCond .eq 13, 3) := by decide +kernel
theorem dX3_spend_24 : decode cX3_spend 24 = .ok (.iload_n 3, 1) := by decide +kernel
theorem dX3_spend_25 : decode cX3_spend 25 = .ok (.iconst 1, 1) := by decide +kernel
theorem dX3_spend_26 : decode cX3_spend 26 = .ok (.ldc 85, 2) := by decide +kernel
theorem dX3_spend_28 : decode cX3_spend 28 = .ok (.invokestatic 74, 3) := by decide +kernel
theorem dX3_spend_31 : decode cX3_spend 31 = .ok (.ifCond .ne 7, 3) := by decide +kernel
theorem dX3_spend_34 : decode cX3_spend 34 = .ok (.iconst 2, 1) := by decide +kernel
theorem dX3_spend_35 : decode cX3_spend 35 = .ok (.goto 17, 3) := by decide +kernel
theorem dX3_spend_38 : decode cX3_spend 38 = .ok (.aload_n 0, 1) := by decide +kernel
theorem dX3_spend_39 : decode cX3_spend 39 = .ok (.getfield 78, 3) := by decide +kernel
theorem dX3_spend_42 : decode cX3_spend 42 = .ok (.bipush 100, 2) := by decide +kernel
theorem dX3_spend_44 : decode cX3_spend 44 = .ok (.if_icmp .ne 7, 3) := by decide +kernel
theorem dX3_spend_47 : decode cX3_spend 47 = .ok (.iconst 3, 1) := by decide +kernel
theorem dX3_spend_48 : decode cX3_spend 48 = .ok (.goto 4, 3) := by decide +kernel
theorem dX3_spend_51 : decode cX3_spend 51 = .ok (.iconst 0, 1) := by decide +kernel
theorem dX3_spend_52 : decode cX3_spend 52 = .ok (.putfield 68, 3) := by decide +kernel
theorem dX3_spend_55 : decode cX3_spend 55 = .ok (.aload_n 0, 1) := by decide +kernel
theorem dX3_spend_56 : decode cX3_spend 56 = .ok (.getfield 68, 3) := by decide +kernel
theorem dX3_spend_59 : decode cX3_spend 59 = .ok (.ifCond .le 5, 3) := by decide +kernel
theorem dX3_spend_62 : decode cX3_spend 62 = .ok (.iconst 0, 1) := by decide +kernel
theorem dX3_spend_63 : decode cX3_spend 63 = .ok (.ireturn, 1) := by decide +kernel
theorem dX3_spend_64 : decode cX3_spend 64 = .ok (.aload_n 0, 1) := by decide +kernel
theorem dX3_spend_65 : decode cX3_spend 65 = .ok (.getfield 29, 3) := by decide +kernel
theorem dX3_spend_68 : decode cX3_spend 68 = .ok (.aload_n 0, 1) := by decide +kernel
theorem dX3_spend_69 : decode cX3_spend 69 = .ok (.getfield 78, 3) := by decide +kernel
theorem dX3_spend_72 : decode cX3_spend 72 = .ok (.iload_n 1, 1) := by decide +kernel
theorem dX3_spend_73 : decode cX3_spend 73 = .ok (.iastore, 1) := by decide +kernel
theorem dX3_spend_74 : decode cX3_spend 74 = .ok (.aload_n 0, 1) := by decide +kernel
theorem dX3_spend_75 : decode cX3_spend 75 = .ok (.getfield 32, 3) := by decide +kernel
theorem dX3_spend_78 : decode cX3_spend 78 = .ok (.aload_n 0, 1) := by decide +kernel
theorem dX3_spend_79 : decode cX3_spend 79 = .ok (.getfield 78, 3) := by decide +kernel
theorem dX3_spend_82 : decode cX3_spend 82 = .ok (.iload_n 2, 1) := by decide +kernel
theorem dX3_spend_83 : decode cX3_spend 83 = .ok (.iastore, 1) := by decide +kernel
theorem dX3_spend_84 : decode cX3_spend 84 = .ok (.aload_n 0, 1) := by decide +kernel
theorem dX3_spend_85 : decode cX3_spend 85 = .ok (.getfield 35, 3) := by decide +kernel
theorem dX3_spend_88 : decode cX3_spend 88 = .ok (.aload_n 0, 1) := by decide +kernel
theorem dX3_spend_89 : decode cX3_spend 89 = .ok (.getfield 78, 3) := by decide +kernel
theorem dX3_spend_92 : decode cX3_spend 92 = .ok (.iload_n 3, 1) := by decide +kernel
theorem dX3_spend_93 : decode cX3_spend 93 = .ok (.iastore, 1) := by decide +kernel
theorem dX3_spend_94 : decode cX3_spend 94 = .ok (.aload_n 0, 1) := by decide +kernel
theorem dX3_spend_95 : decode cX3_spend 95 = .ok (.getfield 78, 3) := by decide +kernel
theorem dX3_spend_98 : decode cX3_spend 98 = .ok (.istore 4, 2) := by decide +kernel
theorem dX3_spend_100 : decode cX3_spend 100 = .ok (.iload 4, 2) := by decide +kernel
theorem dX3_spend_102 : decode cX3_spend 102 = .ok (.ifCond .le 43, 3) := by decide +kernel
theorem dX3_spend_105 : decode cX3_spend 105 = .ok (.aload_n 0, 1) := by decide +kernel
theorem dX3_spend_106 : decode cX3_spend 106 = .ok (.getfield 32, 3) := by decide +kernel
theorem dX3_spend_109 : decode cX3_spend 109 = .ok (.aload_n 0, 1) := by decide +kernel
theorem dX3_spend_110 : decode cX3_spend 110 = .ok (.getfield 41, 3) := by decide +kernel
theorem dX3_spend_113 : decode cX3_spend 113 = .ok (.iload 4, 2) := by decide +kernel
theorem dX3_spend_115 : decode cX3_spend 115 = .ok (.iconst 1, 1) := by decide +kernel
theorem dX3_spend_116 : decode cX3_spend 116 = .ok (.isub, 1) := by decide +kernel
theorem dX3_spend_117 : decode cX3_spend 117 = .ok (.iaload, 1) := by decide +kernel
theorem dX3_spend_118 : decode cX3_spend 118 = .ok (.iaload, 1) := by decide +kernel
theorem dX3_spend_119 : decode cX3_spend 119 = .ok (.iload_n 2, 1) := by decide +kernel
theorem dX3_spend_120 : decode cX3_spend 120 = .ok (.if_icmp .le 25, 3) := by decide +kernel
theorem dX3_spend_123 : decode cX3_spend 123 = .ok (.aload_n 0, 1) := by decide +kernel
theorem dX3_spend_124 : decode cX3_spend 124 = .ok (.getfield 41, 3) := by decide +kernel
theorem dX3_spend_127 : decode cX3_spend 127 = .ok (.iload 4, 2) := by decide +kernel
theorem dX3_spend_129 : decode cX3_spend 129 = .ok (.aload_n 0, 1) := by decide +kernel
theorem dX3_spend_130 : decode cX3_spend 130 = .ok (.getfield 41, 3) := by decide +kernel
theorem dX3_spend_133 : decode cX3_spend 133 = .ok (.iload 4, 2) := by decide +kernel
theorem dX3_spend_135 : decode cX3_spend 135 = .ok (.iconst 1, 1) := by decide +kernel
theorem dX3_spend_136 : decode cX3_spend 136 = .ok (.isub, 1) := by decide +kernel
theorem dX3_spend_137 : decode cX3_spend 137 = .ok (.iaload, 1) := by decide +kernel
theorem dX3_spend_138 : decode cX3_spend 138 = .ok (.iastore, 1) := by decide +kernel
theorem dX3_spend_139 : decode cX3_spend 139 = .ok (.iinc 4 (-1), 3) := by decide +kernel
theorem dX3_spend_142 : decode cX3_spend 142 = .ok (.goto (-42), 3) := by decide +kernel
theorem dX3_spend_145 : decode cX3_spend 145 = .ok (.aload_n 0, 1) := by decide +kernel
theorem dX3_spend_146 : decode cX3_spend 146 = .ok (.getfield 41, 3) := by decide +kernel
theorem dX3_spend_149 : decode cX3_spend 149 = .ok (.iload 4, 2) := by decide +kernel
theorem dX3_spend_151 : decode cX3_spend 151 = .ok (.aload_n 0, 1) := by decide +kernel
theorem dX3_spend_152 : decode cX3_spend 152 = .ok (.getfield 78, 3) := by decide +kernel
theorem dX3_spend_155 : decode cX3_spend 155 = .ok (.iastore, 1) := by decide +kernel
theorem dX3_spend_156 : decode cX3_spend 156 = .ok (.aload_n 0, 1) := by decide +kernel
theorem dX3_spend_157 : decode cX3_spend 157 = .ok (.dup, 1) := by decide +kernel
theorem dX3_spend_158 : decode cX3_spend 158 = .ok (.getfield 78, 3) := by decide +kernel
theorem dX3_spend_161 : decode cX3_spend 161 = .ok (.iconst 1, 1) := by decide +kernel
theorem dX3_spend_162 : decode cX3_spend 162 = .ok (.iadd, 1) := by decide +kernel
theorem dX3_spend_163 : decode cX3_spend 163 = .ok (.putfield 78, 3) := by decide +kernel
theorem dX3_spend_166 : decode cX3_spend 166 = .ok (.aload_n 0, 1) := by decide +kernel
theorem dX3_spend_167 : decode cX3_spend 167 = .ok (.getfield 78, 3) := by decide +kernel
theorem dX3_spend_170 : decode cX3_spend 170 = .ok (.iconst 1, 1) := by decide +kernel
theorem dX3_spend_171 : decode cX3_spend 171 = .ok (.isub, 1) := by decide +kernel
theorem dX3_spend_172 : decode cX3_spend 172 = .ok (.ireturn, 1) := by decide +kernel
set_option maxRecDepth 20000 in
theorem ggX3_mark_X3_isVoucher : GoodIn wsX3_mark wsX3_isVoucher := goodIn_r _ [7, 8, 9, 10, 6, 11, 40, 41, 42, 43, 44, 45, 46, 47, 48, 49, 50, 51, 52, 53, 54, 55, 56, 57, 58, 59, 60, 61, 62, 63] (by decide +kernel) (by decide +kernel)
set_option maxRecDepth 20000 in
theorem gX3_mark_X3_isVoucher : GoodIn wsX3_mark (wsV RX3 100 RX3 yX3_isVoucher wsX3_isVoucher) := goodIn_app (goodIn_of _ (by decide +kernel)) ggX3_mark_X3_isVoucher
set_option maxRecDepth 20000 in
theorem ggX3_mark_X3_allEligible : GoodIn wsX3_mark wsX3_allEligible := goodIn_r _ [15, 8, 16, 17, 18, 19, 6, 20, 21, 22, 23, 24, 25, 26, 27, 28, 29, 30, 31, 32, 33, 34, 35, 36, 1, 37, 38, 39, 9, 10, 11, 40, 41, 42, 43, 44, 45, 46, 47, 48, 49, 50, 51, 52, 53, 54, 55, 56, 57, 58, 59, 60, 61, 62, 63] (by decide +kernel) (by decide +kernel)
set_option maxRecDepth 20000 in
theorem gX3_mark_X3_allEligible : GoodIn wsX3_mark (wsV RX3 103 RX3 yX3_allEligible wsX3_allEligible) := goodIn_app (goodIn_of _ (by decide +kernel)) ggX3_mark_X3_allEligible
theorem dX3_mark_0 : decode cX3_mark 0 = .ok (.aload_n 0, 1) := by decide +kernel
theorem dX3_mark_1 : decode cX3_mark 1 = .ok (.aload_n 0, 1) := by decide +kernel
theorem dX3_mark_2 : decode cX3_mark 2 = .ok (.iload_n 1, 1) := by decide +kernel
theorem dX3_mark_3 : decode cX3_mark 3 = .ok (.invokevirtual 100, 3) := by decide +kernel
theorem dX3_mark_6 : decode cX3_mark 6 = .ok (.ifCond .ne 7, 3) := by decide +kernel
theorem dX3_mark_9 : decode cX3_mark 9 = .ok (.iconst 1, 1) := by decide +kernel
theorem dX3_mark_10 : decode cX3_mark 10 = .ok (.goto 18, 3) := by decide +kernel
theorem dX3_mark_13 : decode cX3_mark 13 = .ok (.aload_n 0, 1) := by decide +kernel
theorem dX3_mark_14 : decode cX3_mark 14 = .ok (.getfield 38, 3) := by decide +kernel
theorem dX3_mark_17 : decode cX3_mark 17 = .ok (.iload_n 1, 1) := by decide +kernel
theorem dX3_mark_18 : decode cX3_mark 18 = .ok (.baload, 1) := by decide +kernel
theorem dX3_mark_19 : decode cX3_mark 19 = .ok (.iload_n 2, 1) := by decide +kernel
theorem dX3_mark_20 : decode cX3_mark 20 = .ok (.if_icmp .ne 7, 3) := by decide +kernel
theorem dX3_mark_23 : decode cX3_mark 23 = .ok (.iconst 2, 1) := by decide +kernel
theorem dX3_mark_24 : decode cX3_mark 24 = .ok (.goto 4, 3) := by decide +kernel
theorem dX3_mark_27 : decode cX3_mark 27 = .ok (.iconst 0, 1) := by decide +kernel
theorem dX3_mark_28 : decode cX3_mark 28 = .ok (.putfield 68, 3) := by decide +kernel
theorem dX3_mark_31 : decode cX3_mark 31 = .ok (.aload_n 0, 1) := by decide +kernel
theorem dX3_mark_32 : decode cX3_mark 32 = .ok (.getfield 68, 3) := by decide +kernel
theorem dX3_mark_35 : decode cX3_mark 35 = .ok (.ifCond .le 5, 3) := by decide +kernel
theorem dX3_mark_38 : decode cX3_mark 38 = .ok (.iconst 0, 1) := by decide +kernel
theorem dX3_mark_39 : decode cX3_mark 39 = .ok (.ireturn, 1) := by decide +kernel
theorem dX3_mark_40 : decode cX3_mark 40 = .ok (.aload_n 0, 1) := by decide +kernel
theorem dX3_mark_41 : decode cX3_mark 41 = .ok (.invokevirtual 103, 3) := by decide +kernel
theorem dX3_mark_44 : decode cX3_mark 44 = .ok (.istore_n 3, 1) := by decide +kernel
theorem dX3_mark_45 : decode cX3_mark 45 = .ok (.aload_n 0, 1) := by decide +kernel
theorem dX3_mark_46 : decode cX3_mark 46 = .ok (.getfield 38, 3) := by decide +kernel
theorem dX3_mark_49 : decode cX3_mark 49 = .ok (.iload_n 1, 1) := by decide +kernel
theorem dX3_mark_50 : decode cX3_mark 50 = .ok (.iload_n 2, 1) := by decide +kernel
theorem dX3_mark_51 : decode cX3_mark 51 = .ok (.bastore, 1) := by decide +kernel
theorem dX3_mark_52 : decode cX3_mark 52 = .ok (.iload_n 3, 1) := by decide +kernel
theorem dX3_mark_53 : decode cX3_mark 53 = .ok (.aload_n 0, 1) := by decide +kernel
theorem dX3_mark_54 : decode cX3_mark 54 = .ok (.invokevirtual 103, 3) := by decide +kernel
theorem dX3_mark_57 : decode cX3_mark 57 = .ok (.isub, 1) := by decide +kernel
theorem dX3_mark_58 : decode cX3_mark 58 = .ok (.ireturn, 1) := by decide +kernel
set_option maxRecDepth 20000 in
theorem ggX3_refuse_X3_mark : GoodIn wsX3_refuse wsX3_mark := goodIn_r _ [5, 6, 7, 8, 9, 10, 4, 11, 12, 13, 14, 15, 16, 17, 18, 19, 20, 21, 22, 23, 24, 25, 26, 27, 28, 29, 30, 31, 32, 33, 34, 35, 36, 37, 38, 39, 40, 41, 42, 43, 44, 45, 46, 47, 48, 49, 50, 51, 52, 53, 54, 55, 56, 57, 58, 59, 60, 61, 62, 63, 64, 65, 66, 67] (by decide +kernel) (by decide +kernel)
set_option maxRecDepth 20000 in
theorem gX3_refuse_X3_mark : GoodIn wsX3_refuse (wsV RX3 107 RX3 yX3_mark wsX3_mark) := goodIn_app (goodIn_of _ (by decide +kernel)) ggX3_refuse_X3_mark
theorem dX3_refuse_0 : decode cX3_refuse 0 = .ok (.aload_n 0, 1) := by decide +kernel
theorem dX3_refuse_1 : decode cX3_refuse 1 = .ok (.iload_n 1, 1) := by decide +kernel
theorem dX3_refuse_2 : decode cX3_refuse 2 = .ok (.iconst 1, 1) := by decide +kernel
theorem dX3_refuse_3 : decode cX3_refuse 3 = .ok (.invokevirtual 107, 3) := by decide +kernel
theorem dX3_refuse_6 : decode cX3_refuse 6 = .ok (.ireturn, 1) := by decide +kernel
set_option maxRecDepth 20000 in
theorem ggX3_admit_X3_mark : GoodIn wsX3_admit wsX3_mark := goodIn_r _ [5, 6, 7, 8, 9, 10, 4, 11, 12, 13, 14, 15, 16, 17, 18, 19, 20, 21, 22, 23, 24, 25, 26, 27, 28, 29, 30, 31, 32, 33, 34, 35, 36, 37, 38, 39, 40, 41, 42, 43, 44, 45, 46, 47, 48, 49, 50, 51, 52, 53, 54, 55, 56, 57, 58, 59, 60, 61, 62, 63, 64, 65, 66, 67] (by decide +kernel) (by decide +kernel)
set_option maxRecDepth 20000 in
theorem gX3_admit_X3_mark : GoodIn wsX3_admit (wsV RX3 107 RX3 yX3_mark wsX3_mark) := goodIn_app (goodIn_of _ (by decide +kernel)) ggX3_admit_X3_mark
theorem dX3_admit_0 : decode cX3_admit 0 = .ok (.aload_n 0, 1) := by decide +kernel
theorem dX3_admit_1 : decode cX3_admit 1 = .ok (.iload_n 1, 1) := by decide +kernel
theorem dX3_admit_2 : decode cX3_admit 2 = .ok (.iconst 0, 1) := by decide +kernel
theorem dX3_admit_3 : decode cX3_admit 3 = .ok (.invokevirtual 107, 3) := by decide +kernel
theorem dX3_admit_6 : decode cX3_admit 6 = .ok (.ineg, 1) := by decide +kernel
theorem dX3_admit_7 : decode cX3_admit 7 = .ok (.ireturn, 1) := by decide +kernel
set_option maxRecDepth 20000 in
theorem ggX3_match_X3_in : GoodIn wsX3_match wsX3_in := goodIn_r _ [8] (by decide +kernel) (by decide +kernel)
set_option maxRecDepth 20000 in
theorem gX3_match_X3_in : GoodIn wsX3_match (va_wsS RX3 74 yX3_in wsX3_in) := goodIn_app (goodIn_of _ (by decide +kernel)) ggX3_match_X3_in
theorem dX3_match_0 : decode cX3_match 0 = .ok (.aload_n 0, 1) := by decide +kernel
theorem dX3_match_1 : decode cX3_match 1 = .ok (.iload_n 1, 1) := by decide +kernel
theorem dX3_match_2 : decode cX3_match 2 = .ok (.iconst 1, 1) := by decide +kernel
theorem dX3_match_3 : decode cX3_match 3 = .ok (.ldc 85, 2) := by decide +kernel
theorem dX3_match_5 : decode cX3_match 5 = .ok (.invokestatic 74, 3) := by decide +kernel
theorem dX3_match_8 : decode cX3_match 8 = .ok (.ifCond .ne 7, 3) := by decide +kernel
theorem dX3_match_11 : decode cX3_match 11 = .ok (.iconst 1, 1) := by decide +kernel
theorem dX3_match_12 : decode cX3_match 12 = .ok (.goto 19, 3) := by decide +kernel
theorem dX3_match_15 : decode cX3_match 15 = .ok (.aload_n 0, 1) := by decide +kernel
theorem dX3_match_16 : decode cX3_match 16 = .ok (.getfield 111, 3) := by decide +kernel
theorem dX3_match_19 : decode cX3_match 19 = .ok (.iload_n 1, 1) := by decide +kernel
theorem dX3_match_20 : decode cX3_match 20 = .ok (.iadd, 1) := by decide +kernel
theorem dX3_match_21 : decode cX3_match 21 = .ok (.ldc 81, 2) := by decide +kernel
theorem dX3_match_23 : decode cX3_match 23 = .ok (.if_icmp .le 7, 3) := by decide +kernel
theorem dX3_match_26 : decode cX3_match 26 = .ok (.iconst 2, 1) := by decide +kernel
theorem dX3_match_27 : decode cX3_match 27 = .ok (.goto 4, 3) := by decide +kernel
theorem dX3_match_30 : decode cX3_match 30 = .ok (.iconst 0, 1) := by decide +kernel
theorem dX3_match_31 : decode cX3_match 31 = .ok (.putfield 68, 3) := by decide +kernel
theorem dX3_match_34 : decode cX3_match 34 = .ok (.aload_n 0, 1) := by decide +kernel
theorem dX3_match_35 : decode cX3_match 35 = .ok (.getfield 68, 3) := by decide +kernel
theorem dX3_match_38 : decode cX3_match 38 = .ok (.ifCond .le 5, 3) := by decide +kernel
theorem dX3_match_41 : decode cX3_match 41 = .ok (.iconst 0, 1) := by decide +kernel
theorem dX3_match_42 : decode cX3_match 42 = .ok (.ireturn, 1) := by decide +kernel
theorem dX3_match_43 : decode cX3_match 43 = .ok (.aload_n 0, 1) := by decide +kernel
theorem dX3_match_44 : decode cX3_match 44 = .ok (.dup, 1) := by decide +kernel
theorem dX3_match_45 : decode cX3_match 45 = .ok (.getfield 111, 3) := by decide +kernel
theorem dX3_match_48 : decode cX3_match 48 = .ok (.iload_n 1, 1) := by decide +kernel
theorem dX3_match_49 : decode cX3_match 49 = .ok (.iadd, 1) := by decide +kernel
theorem dX3_match_50 : decode cX3_match 50 = .ok (.putfield 111, 3) := by decide +kernel
theorem dX3_match_53 : decode cX3_match 53 = .ok (.aload_n 0, 1) := by decide +kernel
theorem dX3_match_54 : decode cX3_match 54 = .ok (.getfield 111, 3) := by decide +kernel
theorem dX3_match_57 : decode cX3_match 57 = .ok (.ireturn, 1) := by decide +kernel
theorem dX3_vouchers_0 : decode cX3_vouchers 0 = .ok (.aload_n 0, 1) := by decide +kernel
theorem dX3_vouchers_1 : decode cX3_vouchers 1 = .ok (.iconst 0, 1) := by decide +kernel
theorem dX3_vouchers_2 : decode cX3_vouchers 2 = .ok (.putfield 68, 3) := by decide +kernel
theorem dX3_vouchers_5 : decode cX3_vouchers 5 = .ok (.aload_n 0, 1) := by decide +kernel
theorem dX3_vouchers_6 : decode cX3_vouchers 6 = .ok (.getfield 78, 3) := by decide +kernel
theorem dX3_vouchers_9 : decode cX3_vouchers 9 = .ok (.ireturn, 1) := by decide +kernel
set_option maxRecDepth 20000 in
theorem ggX3_fits_X3_isVoucher : GoodIn wsX3_fits wsX3_isVoucher := goodIn_r _ [6, 7, 8, 9, 5, 10, 20, 21, 22, 23, 24, 25, 26, 27, 28, 29, 30, 31, 32, 33, 34, 35, 36, 37, 38, 39, 40, 41, 42, 43] (by decide +kernel) (by decide +kernel)
set_option maxRecDepth 20000 in
theorem gX3_fits_X3_isVoucher : GoodIn wsX3_fits (wsV RX3 100 RX3 yX3_isVoucher wsX3_isVoucher) := goodIn_app (goodIn_of _ (by decide +kernel)) ggX3_fits_X3_isVoucher
set_option maxRecDepth 20000 in
theorem ggX3_fits_X3_isFit : GoodIn wsX3_fits wsX3_isFit := goodIn_r _ [14, 15, 16, 17, 18, 19, 8, 9, 5, 10, 20, 21, 22, 23, 24, 25, 26, 27, 28, 29, 30, 31, 32, 33, 34, 35, 36, 37, 38, 39, 40, 41, 42, 43] (by decide +kernel) (by decide +kernel)
set_option maxRecDepth 20000 in
theorem gX3_fits_X3_isFit : GoodIn wsX3_fits (wsV RX3 94 RX3 yX3_isFit wsX3_isFit) := goodIn_app (goodIn_of _ (by decide +kernel)) ggX3_fits_X3_isFit
theorem dX3_fits_0 : decode cX3_fits 0 = .ok (.aload_n 0, 1) := by decide +kernel
theorem dX3_fits_1 : decode cX3_fits 1 = .ok (.aload_n 0, 1) := by decide +kernel
theorem dX3_fits_2 : decode cX3_fits 2 = .ok (.iload_n 1, 1) := by decide +kernel
theorem dX3_fits_3 : decode cX3_fits 3 = .ok (.invokevirtual 100, 3) := by decide +kernel
theorem dX3_fits_6 : decode cX3_fits 6 = .ok (.ifCond .eq 7, 3) := by decide +kernel
theorem dX3_fits_9 : decode cX3_fits 9 = .ok (.iconst 0, 1) := by decide +kernel
theorem dX3_fits_10 : decode cX3_fits 10 = .ok (.goto 4, 3) := by decide +kernel
theorem dX3_fits_13 : decode cX3_fits 13 = .ok (.iconst 1, 1) := by decide +kernel
theorem dX3_fits_14 : decode cX3_fits 14 = .ok (.putfield 68, 3) := by decide +kernel
theorem dX3_fits_17 : decode cX3_fits 17 = .ok (.aload_n 0, 1) := by decide +kernel
theorem dX3_fits_18 : decode cX3_fits 18 = .ok (.getfield 68, 3) := by decide +kernel
theorem dX3_fits_21 : decode cX3_fits 21 = .ok (.ifCond .ne 15, 3) := by decide +kernel
theorem dX3_fits_24 : decode cX3_fits 24 = .ok (.aload_n 0, 1) := by decide +kernel
theorem dX3_fits_25 : decode cX3_fits 25 = .ok (.iload_n 1, 1) := by decide +kernel
theorem dX3_fits_26 : decode cX3_fits 26 = .ok (.invokevirtual 94, 3) := by decide +kernel
theorem dX3_fits_29 : decode cX3_fits 29 = .ok (.ifCond .eq 7, 3) := by decide +kernel
theorem dX3_fits_32 : decode cX3_fits 32 = .ok (.iconst 1, 1) := by decide +kernel
theorem dX3_fits_33 : decode cX3_fits 33 = .ok (.goto 4, 3) := by decide +kernel
theorem dX3_fits_36 : decode cX3_fits 36 = .ok (.iconst 0, 1) := by decide +kernel
theorem dX3_fits_37 : decode cX3_fits 37 = .ok (.ireturn, 1) := by decide +kernel
set_option maxRecDepth 20000 in
theorem ggX3_eligible_X3_isVoucher : GoodIn wsX3_eligible wsX3_isVoucher := goodIn_r _ [7, 8, 9, 10, 6, 11, 36, 37, 38, 39, 40, 41, 42, 43, 44, 45, 46, 47, 48, 49, 50, 51, 52, 53, 54, 55, 56, 57, 58, 59] (by decide +kernel) (by decide +kernel)
set_option maxRecDepth 20000 in
theorem gX3_eligible_X3_isVoucher : GoodIn wsX3_eligible (wsV RX3 100 RX3 yX3_isVoucher wsX3_isVoucher) := goodIn_app (goodIn_of _ (by decide +kernel)) ggX3_eligible_X3_isVoucher
set_option maxRecDepth 20000 in
theorem ggX3_eligible_X3_layEligibles : GoodIn wsX3_eligible wsX3_layEligibles := goodIn_r _ [15, 16, 17, 8, 18, 19, 2, 20, 21, 22, 23, 6, 24, 25, 26, 27, 28, 29, 30, 31, 32, 33, 34, 35, 9, 10, 11, 36, 37, 38, 39, 40, 41, 42, 43, 44, 45, 46, 47, 48, 49, 50, 51, 52, 53, 54, 55, 56, 57, 58, 59] (by decide +kernel) (by decide +kernel)
set_option maxRecDepth 20000 in
theorem gX3_eligible_X3_layEligibles : GoodIn wsX3_eligible (wsV RX3 97 RX3 yX3_layEligibles wsX3_layEligibles) := goodIn_app (goodIn_of _ (by decide +kernel)) ggX3_eligible_X3_layEligibles
theorem dX3_eligible_0 : decode cX3_eligible 0 = .ok (.aload_n 0, 1) := by decide +kernel
theorem dX3_eligible_1 : decode cX3_eligible 1 = .ok (.aload_n 0, 1) := by decide +kernel
theorem dX3_eligible_2 : decode cX3_eligible 2 = .ok (.iload_n 1, 1) := by decide +kernel
theorem dX3_eligible_3 : decode cX3_eligible 3 = .ok (.invokevirtual 100, 3) := by decide +kernel
theorem dX3_eligible_6 : decode cX3_eligible 6 = .ok (.ifCond .eq 7, 3) := by decide +kernel
theorem dX3_eligible_9 : decode cX3_eligible 9 = .ok (.iconst 0, 1) := by decide +kernel
theorem dX3_eligible_10 : decode cX3_eligible 10 = .ok (.goto 4, 3) := by decide +kernel
theorem dX3_eligible_13 : decode cX3_eligible 13 = .ok (.iconst 1, 1) := by decide +kernel
theorem dX3_eligible_14 : decode cX3_eligible 14 = .ok (.putfield 68, 3) := by decide +kernel
theorem dX3_eligible_17 : decode cX3_eligible 17 = .ok (.aload_n 0, 1) := by decide +kernel
theorem dX3_eligible_18 : decode cX3_eligible 18 = .ok (.getfield 68, 3) := by decide +kernel
theorem dX3_eligible_21 : decode cX3_eligible 21 = .ok (.ifCond .le 5, 3) := by decide +kernel
theorem dX3_eligible_24 : decode cX3_eligible 24 = .ok (.iconst 0, 1) := by decide +kernel
theorem dX3_eligible_25 : decode cX3_eligible 25 = .ok (.ireturn, 1) := by decide +kernel
theorem dX3_eligible_26 : decode cX3_eligible 26 = .ok (.aload_n 0, 1) := by decide +kernel
theorem dX3_eligible_27 : decode cX3_eligible 27 = .ok (.invokevirtual 97, 3) := by decide +kernel
theorem dX3_eligible_30 : decode cX3_eligible 30 = .ok (.aload_n 0, 1) := by decide +kernel
theorem dX3_eligible_31 : decode cX3_eligible 31 = .ok (.getfield 47, 3) := by decide +kernel
theorem dX3_eligible_34 : decode cX3_eligible 34 = .ok (.iload_n 1, 1) := by decide +kernel
theorem dX3_eligible_35 : decode cX3_eligible 35 = .ok (.iaload, 1) := by decide +kernel
theorem dX3_eligible_36 : decode cX3_eligible 36 = .ok (.ireturn, 1) := by decide +kernel
set_option maxRecDepth 20000 in
theorem ggX3_costsTo_X3_layEligibles : GoodIn wsX3_costsTo wsX3_layEligibles := goodIn_r _ [10, 11, 12, 1, 13, 4, 5, 14, 15, 16, 17, 9, 18, 19, 20, 21, 22, 23, 24, 25, 26, 2, 27, 28, 29, 30, 31, 32, 33, 34, 35, 36, 37, 38, 39, 40, 41, 42, 43, 44, 45, 46, 47, 48, 49, 50, 51, 52, 53, 54, 55] (by decide +kernel) (by decide +kernel)
set_option maxRecDepth 20000 in
theorem gX3_costsTo_X3_layEligibles : GoodIn wsX3_costsTo (wsV RX3 97 RX3 yX3_layEligibles wsX3_layEligibles) := goodIn_app (goodIn_of _ (by decide +kernel)) ggX3_costsTo_X3_layEligibles
theorem dX3_costsTo_0 : decode cX3_costsTo 0 = .ok (.aload_n 0, 1) := by decide +kernel
theorem dX3_costsTo_1 : decode cX3_costsTo 1 = .ok (.invokevirtual 97, 3) := by decide +kernel
theorem dX3_costsTo_4 : decode cX3_costsTo 4 = .ok (.iconst 0, 1) := by decide +kernel
theorem dX3_costsTo_5 : decode cX3_costsTo 5 = .ok (.istore_n 3, 1) := by decide +kernel
theorem dX3_costsTo_6 : decode cX3_costsTo 6 = .ok (.iconst 0, 1) := by decide +kernel
theorem dX3_costsTo_7 : decode cX3_costsTo 7 = .ok (.istore 4, 2) := by decide +kernel
theorem dX3_costsTo_9 : decode cX3_costsTo 9 = .ok (.iload 4, 2) := by decide +kernel
theorem dX3_costsTo_11 : decode cX3_costsTo 11 = .ok (.aload_n 0, 1) := by decide +kernel
theorem dX3_costsTo_12 : decode cX3_costsTo 12 = .ok (.getfield 78, 3) := by decide +kernel
theorem dX3_costsTo_15 : decode cX3_costsTo 15 = .ok (.if_icmp .ge 65, 3) := by decide +kernel
theorem dX3_costsTo_18 : decode cX3_costsTo 18 = .ok (.aload_n 0, 1) := by decide +kernel
theorem dX3_costsTo_19 : decode cX3_costsTo 19 = .ok (.getfield 32, 3) := by decide +kernel
theorem dX3_costsTo_22 : decode cX3_costsTo 22 = .ok (.iload 4, 2) := by decide +kernel
theorem dX3_costsTo_24 : decode cX3_costsTo 24 = .ok (.iaload, 1) := by decide +kernel
theorem dX3_costsTo_25 : decode cX3_costsTo 25 = .ok (.iload_n 1, 1) := by decide +kernel
theorem dX3_costsTo_26 : decode cX3_costsTo 26 = .ok (.if_icmp .gt 26, 3) := by decide +kernel
theorem dX3_costsTo_29 : decode cX3_costsTo 29 = .ok (.iload_n 2, 1) := by decide +kernel
theorem dX3_costsTo_30 : decode cX3_costsTo 30 = .ok (.ifCond .eq 18, 3) := by decide +kernel
theorem dX3_costsTo_33 : decode cX3_costsTo 33 = .ok (.aload_n 0, 1) := by decide +kernel
theorem dX3_costsTo_34 : decode cX3_costsTo 34 = .ok (.getfield 19, 3) := by decide +kernel
theorem dX3_costsTo_37 : decode cX3_costsTo 37 = .ok (.aload_n 0, 1) := by decide +kernel
theorem dX3_costsTo_38 : decode cX3_costsTo 38 = .ok (.getfield 29, 3) := by decide +kernel
theorem dX3_costsTo_41 : decode cX3_costsTo 41 = .ok (.iload 4, 2) := by decide +kernel
theorem dX3_costsTo_43 : decode cX3_costsTo 43 = .ok (.iaload, 1) := by decide +kernel
theorem dX3_costsTo_44 : decode cX3_costsTo 44 = .ok (.baload, 1) := by decide +kernel
theorem dX3_costsTo_45 : decode cX3_costsTo 45 = .ok (.ifCond .eq 7, 3) := by decide +kernel
theorem dX3_costsTo_48 : decode cX3_costsTo 48 = .ok (.iconst 1, 1) := by decide +kernel
theorem dX3_costsTo_49 : decode cX3_costsTo 49 = .ok (.goto 4, 3) := by decide +kernel
theorem dX3_costsTo_52 : decode cX3_costsTo 52 = .ok (.iconst 0, 1) := by decide +kernel
theorem dX3_costsTo_53 : decode cX3_costsTo 53 = .ok (.istore 5, 2) := by decide +kernel
theorem dX3_costsTo_55 : decode cX3_costsTo 55 = .ok (.iload_n 3, 1) := by decide +kernel
theorem dX3_costsTo_56 : decode cX3_costsTo 56 = .ok (.iload 5, 2) := by decide +kernel
theorem dX3_costsTo_58 : decode cX3_costsTo 58 = .ok (.ifCond .eq 13, 3) := by decide +kernel
theorem dX3_costsTo_61 : decode cX3_costsTo 61 = .ok (.aload_n 0, 1) := by decide +kernel
theorem dX3_costsTo_62 : decode cX3_costsTo 62 = .ok (.getfield 47, 3) := by decide +kernel
theorem dX3_costsTo_65 : decode cX3_costsTo 65 = .ok (.iload 4, 2) := by decide +kernel
theorem dX3_costsTo_67 : decode cX3_costsTo 67 = .ok (.iaload, 1) := by decide +kernel
theorem dX3_costsTo_68 : decode cX3_costsTo 68 = .ok (.goto 4, 3) := by decide +kernel
theorem dX3_costsTo_71 : decode cX3_costsTo 71 = .ok (.iconst 0, 1) := by decide +kernel
theorem dX3_costsTo_72 : decode cX3_costsTo 72 = .ok (.iadd, 1) := by decide +kernel
theorem dX3_costsTo_73 : decode cX3_costsTo 73 = .ok (.istore_n 3, 1) := by decide +kernel
theorem dX3_costsTo_74 : decode cX3_costsTo 74 = .ok (.iinc 4 1, 3) := by decide +kernel
theorem dX3_costsTo_77 : decode cX3_costsTo 77 = .ok (.goto (-68), 3) := by decide +kernel
theorem dX3_costsTo_80 : decode cX3_costsTo 80 = .ok (.iload_n 3, 1) := by decide +kernel
theorem dX3_costsTo_81 : decode cX3_costsTo 81 = .ok (.ireturn, 1) := by decide +kernel
set_option maxRecDepth 20000 in
theorem ggX3_overheadTo_X3_costsTo : GoodIn wsX3_overheadTo wsX3_costsTo := goodIn_r _ [8, 9, 10, 11, 12, 13, 14, 15, 16, 7, 17, 18, 19, 20, 21, 22, 23, 24, 25, 26, 27, 28, 29, 30, 31, 32, 33, 34, 35, 36, 37, 38, 39, 40, 41, 42, 43, 44, 45, 46, 47, 48, 49, 50, 51, 52, 53, 54, 55, 56, 57, 58, 59, 60, 61, 62] (by decide +kernel) (by decide +kernel)
set_option maxRecDepth 20000 in
theorem gX3_overheadTo_X3_costsTo : GoodIn wsX3_overheadTo (wsV RX3 114 RX3 yX3_costsTo wsX3_costsTo) := goodIn_app (goodIn_of _ (by decide +kernel)) ggX3_overheadTo_X3_costsTo
theorem dX3_overheadTo_0 : decode cX3_overheadTo 0 = .ok (.aload_n 0, 1) := by decide +kernel
theorem dX3_overheadTo_1 : decode cX3_overheadTo 1 = .ok (.getfield 61, 3) := by decide +kernel
theorem dX3_overheadTo_4 : decode cX3_overheadTo 4 = .ok (.i2l, 1) := by decide +kernel
theorem dX3_overheadTo_5 : decode cX3_overheadTo 5 = .ok (.aload_n 0, 1) := by decide +kernel
theorem dX3_overheadTo_6 : decode cX3_overheadTo 6 = .ok (.iload_n 1, 1) := by decide +kernel
theorem dX3_overheadTo_7 : decode cX3_overheadTo 7 = .ok (.iconst 1, 1) := by decide +kernel
theorem dX3_overheadTo_8 : decode cX3_overheadTo 8 = .ok (.invokevirtual 114, 3) := by decide +kernel
theorem dX3_overheadTo_11 : decode cX3_overheadTo 11 = .ok (.i2l, 1) := by decide +kernel
theorem dX3_overheadTo_12 : decode cX3_overheadTo 12 = .ok (.lmul, 1) := by decide +kernel
theorem dX3_overheadTo_13 : decode cX3_overheadTo 13 = .ok (.ldc2_w 117, 3) := by decide +kernel
theorem dX3_overheadTo_16 : decode cX3_overheadTo 16 = .ok (.ldiv, 1) := by decide +kernel
theorem dX3_overheadTo_17 : decode cX3_overheadTo 17 = .ok (.lstore_n 2, 1) := by decide +kernel
theorem dX3_overheadTo_18 : decode cX3_overheadTo 18 = .ok (.lload_n 2, 1) := by decide +kernel
theorem dX3_overheadTo_19 : decode cX3_overheadTo 19 = .ok (.aload_n 0, 1) := by decide +kernel
theorem dX3_overheadTo_20 : decode cX3_overheadTo 20 = .ok (.getfield 65, 3) := by decide +kernel
theorem dX3_overheadTo_23 : decode cX3_overheadTo 23 = .ok (.i2l, 1) := by decide +kernel
theorem dX3_overheadTo_24 : decode cX3_overheadTo 24 = .ok (.lcmp, 1) := by decide +kernel
theorem dX3_overheadTo_25 : decode cX3_overheadTo 25 = .ok (.ifCond .le 10, 3) := by decide +kernel
theorem dX3_overheadTo_28 : decode cX3_overheadTo 28 = .ok (.aload_n 0, 1) := by decide +kernel
theorem dX3_overheadTo_29 : decode cX3_overheadTo 29 = .ok (.getfield 65, 3) := by decide +kernel
theorem dX3_overheadTo_32 : decode cX3_overheadTo 32 = .ok (.goto 5, 3) := by decide +kernel
theorem dX3_overheadTo_35 : decode cX3_overheadTo 35 = .ok (.lload_n 2, 1) := by decide +kernel
theorem dX3_overheadTo_36 : decode cX3_overheadTo 36 = .ok (.l2i, 1) := by decide +kernel
theorem dX3_overheadTo_37 : decode cX3_overheadTo 37 = .ok (.ireturn, 1) := by decide +kernel
set_option maxRecDepth 20000 in
theorem ggX3_unbound_X3_costsTo : GoodIn wsX3_unbound wsX3_costsTo := goodIn_r _ [8, 9, 10, 11, 12, 13, 14, 15, 16, 7, 17, 18, 19, 20, 21, 22, 23, 24, 25, 26, 27, 28, 29, 30, 31, 32, 33, 34, 35, 36, 37, 38, 45, 46, 47, 48, 49, 50, 51, 52, 53, 54, 55, 56, 57, 58, 59, 60, 61, 62, 63, 64, 65, 66, 67, 68] (by decide +kernel) (by decide +kernel)
set_option maxRecDepth 20000 in
theorem gX3_unbound_X3_costsTo : GoodIn wsX3_unbound (wsV RX3 114 RX3 yX3_costsTo wsX3_costsTo) := goodIn_app (goodIn_of _ (by decide +kernel)) ggX3_unbound_X3_costsTo
set_option maxRecDepth 20000 in
theorem ggX3_unbound_X3_overheadTo : GoodIn wsX3_unbound wsX3_overheadTo := goodIn_r _ [42, 43, 2, 44, 4, 5, 6, 7, 8, 9, 10, 11, 12, 13, 14, 15, 16, 17, 18, 19, 20, 21, 22, 23, 24, 25, 26, 27, 28, 29, 30, 31, 32, 33, 34, 35, 36, 37, 38, 45, 46, 47, 48, 49, 50, 51, 52, 53, 54, 55, 56, 57, 58, 59, 60, 61, 62, 63, 64, 65, 66, 67, 68] (by decide +kernel) (by decide +kernel)
set_option maxRecDepth 20000 in
theorem gX3_unbound_X3_overheadTo : GoodIn wsX3_unbound (wsV RX3 119 RX3 yX3_overheadTo wsX3_overheadTo) := goodIn_app (goodIn_of _ (by decide +kernel)) ggX3_unbound_X3_overheadTo
theorem dX3_unbound_0 : decode cX3_unbound 0 = .ok (.aload_n 0, 1) := by decide +kernel
theorem dX3_unbound_1 : decode cX3_unbound 1 = .ok (.getfield 58, 3) := by decide +kernel
theorem dX3_unbound_4 : decode cX3_unbound 4 = .ok (.i2l, 1) := by decide +kernel
theorem dX3_unbound_5 : decode cX3_unbound 5 = .ok (.aload_n 0, 1) := by decide +kernel
theorem dX3_unbound_6 : decode cX3_unbound 6 = .ok (.iload_n 1, 1) := by decide +kernel
theorem dX3_unbound_7 : decode cX3_unbound 7 = .ok (.iconst 0, 1) := by decide +kernel
theorem dX3_unbound_8 : decode cX3_unbound 8 = .ok (.invokevirtual 114, 3) := by decide +kernel
theorem dX3_unbound_11 : decode cX3_unbound 11 = .ok (.aload_n 0, 1) := by decide +kernel
theorem dX3_unbound_12 : decode cX3_unbound 12 = .ok (.iload_n 1, 1) := by decide +kernel
theorem dX3_unbound_13 : decode cX3_unbound 13 = .ok (.invokevirtual 119, 3) := by decide +kernel
theorem dX3_unbound_16 : decode cX3_unbound 16 = .ok (.iadd, 1) := by decide +kernel
theorem dX3_unbound_17 : decode cX3_unbound 17 = .ok (.i2l, 1) := by decide +kernel
theorem dX3_unbound_18 : decode cX3_unbound 18 = .ok (.lmul, 1) := by decide +kernel
theorem dX3_unbound_19 : decode cX3_unbound 19 = .ok (.ldc2_w 117, 3) := by decide +kernel
theorem dX3_unbound_22 : decode cX3_unbound 22 = .ok (.ldiv, 1) := by decide +kernel
theorem dX3_unbound_23 : decode cX3_unbound 23 = .ok (.lstore_n 2, 1) := by decide +kernel
theorem dX3_unbound_24 : decode cX3_unbound 24 = .ok (.lload_n 2, 1) := by decide +kernel
theorem dX3_unbound_25 : decode cX3_unbound 25 = .ok (.aload_n 0, 1) := by decide +kernel
theorem dX3_unbound_26 : decode cX3_unbound 26 = .ok (.getfield 54, 3) := by decide +kernel
theorem dX3_unbound_29 : decode cX3_unbound 29 = .ok (.i2l, 1) := by decide +kernel
theorem dX3_unbound_30 : decode cX3_unbound 30 = .ok (.lcmp, 1) := by decide +kernel
theorem dX3_unbound_31 : decode cX3_unbound 31 = .ok (.ifCond .le 10, 3) := by decide +kernel
theorem dX3_unbound_34 : decode cX3_unbound 34 = .ok (.aload_n 0, 1) := by decide +kernel
theorem dX3_unbound_35 : decode cX3_unbound 35 = .ok (.getfield 54, 3) := by decide +kernel
theorem dX3_unbound_38 : decode cX3_unbound 38 = .ok (.goto 5, 3) := by decide +kernel
theorem dX3_unbound_41 : decode cX3_unbound 41 = .ok (.lload_n 2, 1) := by decide +kernel
theorem dX3_unbound_42 : decode cX3_unbound 42 = .ok (.l2i, 1) := by decide +kernel
theorem dX3_unbound_43 : decode cX3_unbound 43 = .ok (.ireturn, 1) := by decide +kernel
set_option maxRecDepth 20000 in
theorem ggX3_earnedTo_X3_unbound : GoodIn wsX3_earnedTo wsX3_unbound := goodIn_r _ [7, 1, 8, 9, 10, 11, 12, 6, 13, 14, 15, 16, 17, 18, 19, 20, 21, 22, 23, 24, 25, 26, 27, 28, 29, 30, 31, 32, 33, 34, 35, 36, 37, 38, 39, 40, 41, 42, 43, 44, 45, 46, 47, 48, 49, 50, 51, 52, 53, 54, 55, 56, 57, 58, 59, 60, 61, 62, 63, 64, 65, 66, 67, 68, 69, 70, 71, 72, 73] (by decide +kernel) (by decide +kernel)
set_option maxRecDepth 20000 in
theorem gX3_earnedTo_X3_unbound : GoodIn wsX3_earnedTo (wsV RX3 122 RX3 yX3_unbound wsX3_unbound) := goodIn_app (goodIn_of _ (by decide +kernel)) ggX3_earnedTo_X3_unbound
theorem dX3_earnedTo_0 : decode cX3_earnedTo 0 = .ok (.aload_n 0, 1) := by decide +kernel
theorem dX3_earnedTo_1 : decode cX3_earnedTo 1 = .ok (.iload_n 1, 1) := by decide +kernel
theorem dX3_earnedTo_2 : decode cX3_earnedTo 2 = .ok (.invokevirtual 122, 3) := by decide +kernel
theorem dX3_earnedTo_5 : decode cX3_earnedTo 5 = .ok (.istore_n 2, 1) := by decide +kernel
theorem dX3_earnedTo_6 : decode cX3_earnedTo 6 = .ok (.aload_n 0, 1) := by decide +kernel
theorem dX3_earnedTo_7 : decode cX3_earnedTo 7 = .ok (.getfield 58, 3) := by decide +kernel
theorem dX3_earnedTo_10 : decode cX3_earnedTo 10 = .ok (.bipush 100, 2) := by decide +kernel
theorem dX3_earnedTo_12 : decode cX3_earnedTo 12 = .ok (.if_icmp .ne 5, 3) := by decide +kernel
theorem dX3_earnedTo_15 : decode cX3_earnedTo 15 = .ok (.iload_n 2, 1) := by decide +kernel
theorem dX3_earnedTo_16 : decode cX3_earnedTo 16 = .ok (.ireturn, 1) := by decide +kernel
theorem dX3_earnedTo_17 : decode cX3_earnedTo 17 = .ok (.aload_n 0, 1) := by decide +kernel
theorem dX3_earnedTo_18 : decode cX3_earnedTo 18 = .ok (.getfield 111, 3) := by decide +kernel
theorem dX3_earnedTo_21 : decode cX3_earnedTo 21 = .ok (.i2l, 1) := by decide +kernel
theorem dX3_earnedTo_22 : decode cX3_earnedTo 22 = .ok (.aload_n 0, 1) := by decide +kernel
theorem dX3_earnedTo_23 : decode cX3_earnedTo 23 = .ok (.getfield 58, 3) := by decide +kernel
theorem dX3_earnedTo_26 : decode cX3_earnedTo 26 = .ok (.i2l, 1) := by decide +kernel
theorem dX3_earnedTo_27 : decode cX3_earnedTo 27 = .ok (.lmul, 1) := by decide +kernel
theorem dX3_earnedTo_28 : decode cX3_earnedTo 28 = .ok (.bipush 100, 2) := by decide +kernel
theorem dX3_earnedTo_30 : decode cX3_earnedTo 30 = .ok (.aload_n 0, 1) := by decide +kernel
theorem dX3_earnedTo_31 : decode cX3_earnedTo 31 = .ok (.getfield 58, 3) := by decide +kernel
theorem dX3_earnedTo_34 : decode cX3_earnedTo 34 = .ok (.isub, 1) := by decide +kernel
theorem dX3_earnedTo_35 : decode cX3_earnedTo 35 = .ok (.i2l, 1) := by decide +kernel
theorem dX3_earnedTo_36 : decode cX3_earnedTo 36 = .ok (.ldiv, 1) := by decide +kernel
theorem dX3_earnedTo_37 : decode cX3_earnedTo 37 = .ok (.lstore_n 3, 1) := by decide +kernel
theorem dX3_earnedTo_38 : decode cX3_earnedTo 38 = .ok (.iload_n 2, 1) := by decide +kernel
theorem dX3_earnedTo_39 : decode cX3_earnedTo 39 = .ok (.i2l, 1) := by decide +kernel
theorem dX3_earnedTo_40 : decode cX3_earnedTo 40 = .ok (.lload_n 3, 1) := by decide +kernel
theorem dX3_earnedTo_41 : decode cX3_earnedTo 41 = .ok (.lcmp, 1) := by decide +kernel
theorem dX3_earnedTo_42 : decode cX3_earnedTo 42 = .ok (.ifCond .le 8, 3) := by decide +kernel
theorem dX3_earnedTo_45 : decode cX3_earnedTo 45 = .ok (.lload_n 3, 1) := by decide +kernel
theorem dX3_earnedTo_46 : decode cX3_earnedTo 46 = .ok (.l2i, 1) := by decide +kernel
theorem dX3_earnedTo_47 : decode cX3_earnedTo 47 = .ok (.goto 4, 3) := by decide +kernel
theorem dX3_earnedTo_50 : decode cX3_earnedTo 50 = .ok (.iload_n 2, 1) := by decide +kernel
theorem dX3_earnedTo_51 : decode cX3_earnedTo 51 = .ok (.ireturn, 1) := by decide +kernel
set_option maxRecDepth 20000 in
theorem ggX3_isDay_X3_in : GoodIn wsX3_isDay wsX3_in := goodIn_r _ [5] (by decide +kernel) (by decide +kernel)
set_option maxRecDepth 20000 in
theorem gX3_isDay_X3_in : GoodIn wsX3_isDay (va_wsS RX3 74 yX3_in wsX3_in) := goodIn_app (goodIn_of _ (by decide +kernel)) ggX3_isDay_X3_in
theorem dX3_isDay_0 : decode cX3_isDay 0 = .ok (.aload_n 0, 1) := by decide +kernel
theorem dX3_isDay_1 : decode cX3_isDay 1 = .ok (.iload_n 1, 1) := by decide +kernel
theorem dX3_isDay_2 : decode cX3_isDay 2 = .ok (.iconst 0, 1) := by decide +kernel
theorem dX3_isDay_3 : decode cX3_isDay 3 = .ok (.sipush 9999, 3) := by decide +kernel
theorem dX3_isDay_6 : decode cX3_isDay 6 = .ok (.invokestatic 74, 3) := by decide +kernel
theorem dX3_isDay_9 : decode cX3_isDay 9 = .ok (.ifCond .eq 7, 3) := by decide +kernel
theorem dX3_isDay_12 : decode cX3_isDay 12 = .ok (.iconst 0, 1) := by decide +kernel
theorem dX3_isDay_13 : decode cX3_isDay 13 = .ok (.goto 4, 3) := by decide +kernel
theorem dX3_isDay_16 : decode cX3_isDay 16 = .ok (.iconst 1, 1) := by decide +kernel
theorem dX3_isDay_17 : decode cX3_isDay 17 = .ok (.putfield 68, 3) := by decide +kernel
theorem dX3_isDay_20 : decode cX3_isDay 20 = .ok (.aload_n 0, 1) := by decide +kernel
theorem dX3_isDay_21 : decode cX3_isDay 21 = .ok (.getfield 68, 3) := by decide +kernel
theorem dX3_isDay_24 : decode cX3_isDay 24 = .ok (.ifCond .ne 7, 3) := by decide +kernel
theorem dX3_isDay_27 : decode cX3_isDay 27 = .ok (.iconst 1, 1) := by decide +kernel
theorem dX3_isDay_28 : decode cX3_isDay 28 = .ok (.goto 4, 3) := by decide +kernel
theorem dX3_isDay_31 : decode cX3_isDay 31 = .ok (.iconst 0, 1) := by decide +kernel
theorem dX3_isDay_32 : decode cX3_isDay 32 = .ok (.ireturn, 1) := by decide +kernel
set_option maxRecDepth 20000 in
theorem ggX3_costs_X3_isDay : GoodIn wsX3_costs wsX3_isDay := goodIn_r _ [5, 6, 7, 8, 4, 9, 41, 42, 43, 44, 45, 46, 47, 48, 49, 50, 51, 52, 53, 54, 55, 56, 57, 58, 59, 60, 61, 62, 63, 64] (by decide +kernel) (by decide +kernel)
set_option maxRecDepth 20000 in
theorem gX3_costs_X3_isDay : GoodIn wsX3_costs (wsV RX3 125 RX3 yX3_isDay wsX3_isDay) := goodIn_app (goodIn_of _ (by decide +kernel)) ggX3_costs_X3_isDay
set_option maxRecDepth 20000 in
theorem ggX3_costs_X3_costsTo : GoodIn wsX3_costs wsX3_costsTo := goodIn_r _ [13, 14, 15, 16, 17, 18, 19, 20, 21, 4, 22, 23, 24, 25, 26, 27, 28, 29, 30, 31, 32, 33, 34, 35, 36, 37, 38, 39, 40, 7, 8, 9, 41, 42, 43, 44, 45, 46, 47, 48, 49, 50, 51, 52, 53, 54, 55, 56, 57, 58, 59, 60, 61, 62, 63, 64] (by decide +kernel) (by decide +kernel)
set_option maxRecDepth 20000 in
theorem gX3_costs_X3_costsTo : GoodIn wsX3_costs (wsV RX3 114 RX3 yX3_costsTo wsX3_costsTo) := goodIn_app (goodIn_of _ (by decide +kernel)) ggX3_costs_X3_costsTo
theorem dX3_costs_0 : decode cX3_costs 0 = .ok (.aload_n 0, 1) := by decide +kernel
theorem dX3_costs_1 : decode cX3_costs 1 = .ok (.iload_n 1, 1) := by decide +kernel
theorem dX3_costs_2 : decode cX3_costs 2 = .ok (.invokevirtual 125, 3) := by decide +kernel
theorem dX3_costs_5 : decode cX3_costs 5 = .ok (.ifCond .eq 12, 3) := by decide +kernel
theorem dX3_costs_8 : decode cX3_costs 8 = .ok (.aload_n 0, 1) := by decide +kernel
theorem dX3_costs_9 : decode cX3_costs 9 = .ok (.iload_n 1, 1) := by decide +kernel
theorem dX3_costs_10 : decode cX3_costs 10 = .ok (.iconst 0, 1) := by decide +kernel
theorem dX3_costs_11 : decode cX3_costs 11 = .ok (.invokevirtual 114, 3) := by decide +kernel
theorem dX3_costs_14 : decode cX3_costs 14 = .ok (.goto 4, 3) := by decide +kernel
theorem dX3_costs_17 : decode cX3_costs 17 = .ok (.iconst 0, 1) := by decide +kernel
theorem dX3_costs_18 : decode cX3_costs 18 = .ok (.ireturn, 1) := by decide +kernel
set_option maxRecDepth 20000 in
theorem ggX3_overhead_X3_isDay : GoodIn wsX3_overhead wsX3_isDay := goodIn_r _ [5, 6, 7, 8, 4, 9, 48, 49, 50, 51, 52, 53, 54, 55, 56, 57, 58, 59, 60, 61, 62, 63, 64, 65, 66, 67, 68, 69, 70, 71] (by decide +kernel) (by decide +kernel)
set_option maxRecDepth 20000 in
theorem gX3_overhead_X3_isDay : GoodIn wsX3_overhead (wsV RX3 125 RX3 yX3_isDay wsX3_isDay) := goodIn_app (goodIn_of _ (by decide +kernel)) ggX3_overhead_X3_isDay
set_option maxRecDepth 20000 in
theorem ggX3_overhead_X3_overheadTo : GoodIn wsX3_overhead wsX3_overheadTo := goodIn_r _ [13, 14, 15, 16, 17, 18, 19, 4, 20, 21, 22, 23, 24, 25, 26, 27, 28, 29, 30, 31, 32, 33, 34, 35, 36, 37, 38, 39, 40, 41, 42, 43, 44, 45, 46, 47, 7, 8, 9, 48, 49, 50, 51, 52, 53, 54, 55, 56, 57, 58, 59, 60, 61, 62, 63, 64, 65, 66, 67, 68, 69, 70, 71] (by decide +kernel) (by decide +kernel)
set_option maxRecDepth 20000 in
theorem gX3_overhead_X3_overheadTo : GoodIn wsX3_overhead (wsV RX3 119 RX3 yX3_overheadTo wsX3_overheadTo) := goodIn_app (goodIn_of _ (by decide +kernel)) ggX3_overhead_X3_overheadTo
theorem dX3_overhead_0 : decode cX3_overhead 0 = .ok (.aload_n 0, 1) := by decide +kernel
theorem dX3_overhead_1 : decode cX3_overhead 1 = .ok (.iload_n 1, 1) := by decide +kernel
theorem dX3_overhead_2 : decode cX3_overhead 2 = .ok (.invokevirtual 125, 3) := by decide +kernel
theorem dX3_overhead_5 : decode cX3_overhead 5 = .ok (.ifCond .eq 11, 3) := by decide +kernel
theorem dX3_overhead_8 : decode cX3_overhead 8 = .ok (.aload_n 0, 1) := by decide +kernel
theorem dX3_overhead_9 : decode cX3_overhead 9 = .ok (.iload_n 1, 1) := by decide +kernel
theorem dX3_overhead_10 : decode cX3_overhead 10 = .ok (.invokevirtual 119, 3) := by decide +kernel
theorem dX3_overhead_13 : decode cX3_overhead 13 = .ok (.goto 4, 3) := by decide +kernel
theorem dX3_overhead_16 : decode cX3_overhead 16 = .ok (.iconst 0, 1) := by decide +kernel
theorem dX3_overhead_17 : decode cX3_overhead 17 = .ok (.ireturn, 1) := by decide +kernel
set_option maxRecDepth 20000 in
theorem ggX3_earned_X3_isDay : GoodIn wsX3_earned wsX3_isDay := goodIn_r _ [5, 6, 7, 8, 4, 9, 59, 60, 61, 62, 63, 64, 65, 66, 67, 68, 69, 70, 71, 72, 73, 74, 75, 76, 77, 78, 79, 80, 81, 82] (by decide +kernel) (by decide +kernel)
set_option maxRecDepth 20000 in
theorem gX3_earned_X3_isDay : GoodIn wsX3_earned (wsV RX3 125 RX3 yX3_isDay wsX3_isDay) := goodIn_app (goodIn_of _ (by decide +kernel)) ggX3_earned_X3_isDay
set_option maxRecDepth 20000 in
theorem ggX3_earned_X3_earnedTo : GoodIn wsX3_earned wsX3_earnedTo := goodIn_r _ [13, 14, 15, 16, 17, 18, 4, 19, 20, 21, 22, 23, 24, 25, 26, 27, 28, 29, 30, 31, 32, 33, 34, 35, 36, 37, 38, 39, 40, 41, 42, 43, 44, 45, 46, 47, 48, 49, 50, 51, 52, 7, 8, 9, 53, 54, 55, 56, 57, 58, 59, 60, 61, 62, 63, 64, 65, 66, 67, 68, 69, 70, 71, 72, 73, 74, 75, 76, 77, 78, 79, 80, 81, 82] (by decide +kernel) (by decide +kernel)
set_option maxRecDepth 20000 in
theorem gX3_earned_X3_earnedTo : GoodIn wsX3_earned (wsV RX3 128 RX3 yX3_earnedTo wsX3_earnedTo) := goodIn_app (goodIn_of _ (by decide +kernel)) ggX3_earned_X3_earnedTo
theorem dX3_earned_0 : decode cX3_earned 0 = .ok (.aload_n 0, 1) := by decide +kernel
theorem dX3_earned_1 : decode cX3_earned 1 = .ok (.iload_n 1, 1) := by decide +kernel
theorem dX3_earned_2 : decode cX3_earned 2 = .ok (.invokevirtual 125, 3) := by decide +kernel
theorem dX3_earned_5 : decode cX3_earned 5 = .ok (.ifCond .eq 11, 3) := by decide +kernel
theorem dX3_earned_8 : decode cX3_earned 8 = .ok (.aload_n 0, 1) := by decide +kernel
theorem dX3_earned_9 : decode cX3_earned 9 = .ok (.iload_n 1, 1) := by decide +kernel
theorem dX3_earned_10 : decode cX3_earned 10 = .ok (.invokevirtual 128, 3) := by decide +kernel
theorem dX3_earned_13 : decode cX3_earned 13 = .ok (.goto 4, 3) := by decide +kernel
theorem dX3_earned_16 : decode cX3_earned 16 = .ok (.iconst 0, 1) := by decide +kernel
theorem dX3_earned_17 : decode cX3_earned 17 = .ok (.ireturn, 1) := by decide +kernel
set_option maxRecDepth 20000 in
theorem ggX3_missingMatch_X3_isDay : GoodIn wsX3_missingMatch wsX3_isDay := goodIn_r _ [7, 8, 9, 10, 6, 11, 55, 56, 57, 58, 59, 60, 61, 62, 63, 64, 65, 66, 67, 68, 69, 70, 71, 72, 73, 74, 75, 76, 77, 78] (by decide +kernel) (by decide +kernel)
set_option maxRecDepth 20000 in
theorem gX3_missingMatch_X3_isDay : GoodIn wsX3_missingMatch (wsV RX3 125 RX3 yX3_isDay wsX3_isDay) := goodIn_app (goodIn_of _ (by decide +kernel)) ggX3_missingMatch_X3_isDay
set_option maxRecDepth 20000 in
theorem ggX3_missingMatch_X3_unbound : GoodIn wsX3_missingMatch wsX3_unbound := goodIn_r _ [15, 1, 16, 17, 18, 19, 20, 6, 21, 22, 23, 24, 25, 26, 27, 28, 29, 30, 31, 32, 33, 34, 35, 36, 37, 38, 39, 40, 41, 42, 43, 44, 45, 46, 47, 48, 9, 10, 11, 49, 50, 51, 52, 53, 54, 55, 56, 57, 58, 59, 60, 61, 62, 63, 64, 65, 66, 67, 68, 69, 70, 71, 72, 73, 74, 75, 76, 77, 78] (by decide +kernel) (by decide +kernel)
set_option maxRecDepth 20000 in
theorem gX3_missingMatch_X3_unbound : GoodIn wsX3_missingMatch (wsV RX3 122 RX3 yX3_unbound wsX3_unbound) := goodIn_app (goodIn_of _ (by decide +kernel)) ggX3_missingMatch_X3_unbound
theorem dX3_missingMatch_0 : decode cX3_missingMatch 0 = .ok (.aload_n 0, 1) := by decide +kernel
theorem dX3_missingMatch_1 : decode cX3_missingMatch 1 = .ok (.iload_n 1, 1) := by decide +kernel
theorem dX3_missingMatch_2 : decode cX3_missingMatch 2 = .ok (.invokevirtual 125, 3) := by decide +kernel
theorem dX3_missingMatch_5 : decode cX3_missingMatch 5 = .ok (.ifCond .ne 5, 3) := by decide +kernel
theorem dX3_missingMatch_8 : decode cX3_missingMatch 8 = .ok (.iconst 0, 1) := by decide +kernel
theorem dX3_missingMatch_9 : decode cX3_missingMatch 9 = .ok (.ireturn, 1) := by decide +kernel
theorem dX3_missingMatch_10 : decode cX3_missingMatch 10 = .ok (.aload_n 0, 1) := by decide +kernel
theorem dX3_missingMatch_11 : decode cX3_missingMatch 11 = .ok (.iload_n 1, 1) := by decide +kernel
theorem dX3_missingMatch_12 : decode cX3_missingMatch 12 = .ok (.invokevirtual 122, 3) := by decide +kernel
theorem dX3_missingMatch_15 : decode cX3_missingMatch 15 = .ok (.i2l, 1) := by decide +kernel
theorem dX3_missingMatch_16 : decode cX3_missingMatch 16 = .ok (.bipush 100, 2) := by decide +kernel
theorem dX3_missingMatch_18 : decode cX3_missingMatch 18 = .ok (.aload_n 0, 1) := by decide +kernel
theorem dX3_missingMatch_19 : decode cX3_missingMatch 19 = .ok (.getfield 58, 3) := by decide +kernel
theorem dX3_missingMatch_22 : decode cX3_missingMatch 22 = .ok (.isub, 1) := by decide +kernel
theorem dX3_missingMatch_23 : decode cX3_missingMatch 23 = .ok (.i2l, 1) := by decide +kernel
theorem dX3_missingMatch_24 : decode cX3_missingMatch 24 = .ok (.lmul, 1) := by decide +kernel
theorem dX3_missingMatch_25 : decode cX3_missingMatch 25 = .ok (.aload_n 0, 1) := by decide +kernel
theorem dX3_missingMatch_26 : decode cX3_missingMatch 26 = .ok (.getfield 58, 3) := by decide +kernel
theorem dX3_missingMatch_29 : decode cX3_missingMatch 29 = .ok (.i2l, 1) := by decide +kernel
theorem dX3_missingMatch_30 : decode cX3_missingMatch 30 = .ok (.ladd, 1) := by decide +kernel
theorem dX3_missingMatch_31 : decode cX3_missingMatch 31 = .ok (.lconst 1, 1) := by decide +kernel
theorem dX3_missingMatch_32 : decode cX3_missingMatch 32 = .ok (.lsub, 1) := by decide +kernel
theorem dX3_missingMatch_33 : decode cX3_missingMatch 33 = .ok (.aload_n 0, 1) := by decide +kernel
theorem dX3_missingMatch_34 : decode cX3_missingMatch 34 = .ok (.getfield 58, 3) := by decide +kernel
theorem dX3_missingMatch_37 : decode cX3_missingMatch 37 = .ok (.i2l, 1) := by decide +kernel
theorem dX3_missingMatch_38 : decode cX3_missingMatch 38 = .ok (.ldiv, 1) := by decide +kernel
theorem dX3_missingMatch_39 : decode cX3_missingMatch 39 = .ok (.lstore_n 2, 1) := by decide +kernel
theorem dX3_missingMatch_40 : decode cX3_missingMatch 40 = .ok (.lload_n 2, 1) := by decide +kernel
theorem dX3_missingMatch_41 : decode cX3_missingMatch 41 = .ok (.aload_n 0, 1) := by decide +kernel
theorem dX3_missingMatch_42 : decode cX3_missingMatch 42 = .ok (.getfield 111, 3) := by decide +kernel
theorem dX3_missingMatch_45 : decode cX3_missingMatch 45 = .ok (.i2l, 1) := by decide +kernel
theorem dX3_missingMatch_46 : decode cX3_missingMatch 46 = .ok (.lcmp, 1) := by decide +kernel
theorem dX3_missingMatch_47 : decode cX3_missingMatch 47 = .ok (.ifCond .le 14, 3) := by decide +kernel
theorem dX3_missingMatch_50 : decode cX3_missingMatch 50 = .ok (.lload_n 2, 1) := by decide +kernel
theorem dX3_missingMatch_51 : decode cX3_missingMatch 51 = .ok (.aload_n 0, 1) := by decide +kernel
theorem dX3_missingMatch_52 : decode cX3_missingMatch 52 = .ok (.getfield 111, 3) := by decide +kernel
theorem dX3_missingMatch_55 : decode cX3_missingMatch 55 = .ok (.i2l, 1) := by decide +kernel
theorem dX3_missingMatch_56 : decode cX3_missingMatch 56 = .ok (.lsub, 1) := by decide +kernel
theorem dX3_missingMatch_57 : decode cX3_missingMatch 57 = .ok (.l2i, 1) := by decide +kernel
theorem dX3_missingMatch_58 : decode cX3_missingMatch 58 = .ok (.goto 4, 3) := by decide +kernel
theorem dX3_missingMatch_61 : decode cX3_missingMatch 61 = .ok (.iconst 0, 1) := by decide +kernel
theorem dX3_missingMatch_62 : decode cX3_missingMatch 62 = .ok (.ireturn, 1) := by decide +kernel
theorem dX3_paidSum_0 : decode cX3_paidSum 0 = .ok (.iconst 0, 1) := by decide +kernel
theorem dX3_paidSum_1 : decode cX3_paidSum 1 = .ok (.istore_n 1, 1) := by decide +kernel
theorem dX3_paidSum_2 : decode cX3_paidSum 2 = .ok (.iconst 0, 1) := by decide +kernel
theorem dX3_paidSum_3 : decode cX3_paidSum 3 = .ok (.istore_n 2, 1) := by decide +kernel
theorem dX3_paidSum_4 : decode cX3_paidSum 4 = .ok (.iload_n 2, 1) := by decide +kernel
theorem dX3_paidSum_5 : decode cX3_paidSum 5 = .ok (.aload_n 0, 1) := by decide +kernel
theorem dX3_paidSum_6 : decode cX3_paidSum 6 = .ok (.getfield 82, 3) := by decide +kernel
theorem dX3_paidSum_9 : decode cX3_paidSum 9 = .ok (.if_icmp .ge 18, 3) := by decide +kernel
theorem dX3_paidSum_12 : decode cX3_paidSum 12 = .ok (.iload_n 1, 1) := by decide +kernel
theorem dX3_paidSum_13 : decode cX3_paidSum 13 = .ok (.aload_n 0, 1) := by decide +kernel
theorem dX3_paidSum_14 : decode cX3_paidSum 14 = .ok (.getfield 44, 3) := by decide +kernel
theorem dX3_paidSum_17 : decode cX3_paidSum 17 = .ok (.iload_n 2, 1) := by decide +kernel
theorem dX3_paidSum_18 : decode cX3_paidSum 18 = .ok (.iaload, 1) := by decide +kernel
theorem dX3_paidSum_19 : decode cX3_paidSum 19 = .ok (.iadd, 1) := by decide +kernel
theorem dX3_paidSum_20 : decode cX3_paidSum 20 = .ok (.istore_n 1, 1) := by decide +kernel
theorem dX3_paidSum_21 : decode cX3_paidSum 21 = .ok (.iinc 2 1, 3) := by decide +kernel
theorem dX3_paidSum_24 : decode cX3_paidSum 24 = .ok (.goto (-20), 3) := by decide +kernel
theorem dX3_paidSum_27 : decode cX3_paidSum 27 = .ok (.iload_n 1, 1) := by decide +kernel
theorem dX3_paidSum_28 : decode cX3_paidSum 28 = .ok (.ireturn, 1) := by decide +kernel
set_option maxRecDepth 20000 in
theorem ggX3_claim_X3_in : GoodIn wsX3_claim wsX3_in := goodIn_r _ [8] (by decide +kernel) (by decide +kernel)
set_option maxRecDepth 20000 in
theorem gX3_claim_X3_in : GoodIn wsX3_claim (va_wsS RX3 74 yX3_in wsX3_in) := goodIn_app (goodIn_of _ (by decide +kernel)) ggX3_claim_X3_in
set_option maxRecDepth 20000 in
theorem ggX3_claim_X3_earnedTo : GoodIn wsX3_claim wsX3_earnedTo := goodIn_r _ [12, 13, 14, 15, 16, 17, 7, 18, 19, 20, 21, 22, 23, 24, 25, 26, 27, 28, 29, 30, 31, 32, 33, 34, 35, 36, 37, 38, 39, 40, 41, 42, 43, 44, 45, 46, 47, 48, 49, 50, 51, 5, 6, 8, 52, 53, 54, 55, 56, 57, 62, 63, 64, 65, 66, 67, 68, 69, 70, 71, 72, 73, 74, 75, 76, 77, 78, 79, 80, 81, 82, 83, 84, 85] (by decide +kernel) (by decide +kernel)
set_option maxRecDepth 20000 in
theorem gX3_claim_X3_earnedTo : GoodIn wsX3_claim (wsV RX3 128 RX3 yX3_earnedTo wsX3_earnedTo) := goodIn_app (goodIn_of _ (by decide +kernel)) ggX3_claim_X3_earnedTo
set_option maxRecDepth 20000 in
theorem ggX3_claim_X3_paidSum : GoodIn wsX3_claim wsX3_paidSum := goodIn_r _ [61, 2, 4, 62, 63, 64, 65, 66, 67, 68, 69, 70, 71, 72, 73, 74, 75, 76, 77, 78, 79, 80, 81, 82, 83, 84, 85] (by decide +kernel) (by decide +kernel)
set_option maxRecDepth 20000 in
theorem gX3_claim_X3_paidSum : GoodIn wsX3_claim (wsV RX3 134 RX3 yX3_paidSum wsX3_paidSum) := goodIn_app (goodIn_of _ (by decide +kernel)) ggX3_claim_X3_paidSum
theorem dX3_claim_0 : decode cX3_claim 0 = .ok (.aload_n 0, 1) := by decide +kernel
theorem dX3_claim_1 : decode cX3_claim 1 = .ok (.iload_n 1, 1) := by decide +kernel
theorem dX3_claim_2 : decode cX3_claim 2 = .ok (.aload_n 0, 1) := by decide +kernel
theorem dX3_claim_3 : decode cX3_claim 3 = .ok (.getfield 131, 3) := by decide +kernel
theorem dX3_claim_6 : decode cX3_claim 6 = .ok (.sipush 9999, 3) := by decide +kernel
theorem dX3_claim_9 : decode cX3_claim 9 = .ok (.invokestatic 74, 3) := by decide +kernel
theorem dX3_claim_12 : decode cX3_claim 12 = .ok (.ifCond .ne 7, 3) := by decide +kernel
theorem dX3_claim_15 : decode cX3_claim 15 = .ok (.iconst 1, 1) := by decide +kernel
theorem dX3_claim_16 : decode cX3_claim 16 = .ok (.goto 17, 3) := by decide +kernel
theorem dX3_claim_19 : decode cX3_claim 19 = .ok (.aload_n 0, 1) := by decide +kernel
theorem dX3_claim_20 : decode cX3_claim 20 = .ok (.getfield 82, 3) := by decide +kernel
theorem dX3_claim_23 : decode cX3_claim 23 = .ok (.bipush 40, 2) := by decide +kernel
theorem dX3_claim_25 : decode cX3_claim 25 = .ok (.if_icmp .ne 7, 3) := by decide +kernel
theorem dX3_claim_28 : decode cX3_claim 28 = .ok (.iconst 2, 1) := by decide +kernel
theorem dX3_claim_29 : decode cX3_claim 29 = .ok (.goto 4, 3) := by decide +kernel
theorem dX3_claim_32 : decode cX3_claim 32 = .ok (.iconst 0, 1) := by decide +kernel
theorem dX3_claim_33 : decode cX3_claim 33 = .ok (.putfield 68, 3) := by decide +kernel
theorem dX3_claim_36 : decode cX3_claim 36 = .ok (.aload_n 0, 1) := by decide +kernel
theorem dX3_claim_37 : decode cX3_claim 37 = .ok (.getfield 68, 3) := by decide +kernel
theorem dX3_claim_40 : decode cX3_claim 40 = .ok (.ifCond .le 5, 3) := by decide +kernel
theorem dX3_claim_43 : decode cX3_claim 43 = .ok (.iconst 0, 1) := by decide +kernel
theorem dX3_claim_44 : decode cX3_claim 44 = .ok (.ireturn, 1) := by decide +kernel
theorem dX3_claim_45 : decode cX3_claim 45 = .ok (.aload_n 0, 1) := by decide +kernel
theorem dX3_claim_46 : decode cX3_claim 46 = .ok (.iload_n 1, 1) := by decide +kernel
theorem dX3_claim_47 : decode cX3_claim 47 = .ok (.invokevirtual 128, 3) := by decide +kernel
theorem dX3_claim_50 : decode cX3_claim 50 = .ok (.aload_n 0, 1) := by decide +kernel
theorem dX3_claim_51 : decode cX3_claim 51 = .ok (.invokevirtual 134, 3) := by decide +kernel
theorem dX3_claim_54 : decode cX3_claim 54 = .ok (.isub, 1) := by decide +kernel
theorem dX3_claim_55 : decode cX3_claim 55 = .ok (.istore_n 2, 1) := by decide +kernel
theorem dX3_claim_56 : decode cX3_claim 56 = .ok (.aload_n 0, 1) := by decide +kernel
theorem dX3_claim_57 : decode cX3_claim 57 = .ok (.getfield 44, 3) := by decide +kernel
theorem dX3_claim_60 : decode cX3_claim 60 = .ok (.aload_n 0, 1) := by decide +kernel
theorem dX3_claim_61 : decode cX3_claim 61 = .ok (.getfield 82, 3) := by decide +kernel
theorem dX3_claim_64 : decode cX3_claim 64 = .ok (.iload_n 2, 1) := by decide +kernel
theorem dX3_claim_65 : decode cX3_claim 65 = .ok (.iastore, 1) := by decide +kernel
theorem dX3_claim_66 : decode cX3_claim 66 = .ok (.aload_n 0, 1) := by decide +kernel
theorem dX3_claim_67 : decode cX3_claim 67 = .ok (.dup, 1) := by decide +kernel
theorem dX3_claim_68 : decode cX3_claim 68 = .ok (.getfield 82, 3) := by decide +kernel
theorem dX3_claim_71 : decode cX3_claim 71 = .ok (.iconst 1, 1) := by decide +kernel
theorem dX3_claim_72 : decode cX3_claim 72 = .ok (.iadd, 1) := by decide +kernel
theorem dX3_claim_73 : decode cX3_claim 73 = .ok (.putfield 82, 3) := by decide +kernel
theorem dX3_claim_76 : decode cX3_claim 76 = .ok (.aload_n 0, 1) := by decide +kernel
theorem dX3_claim_77 : decode cX3_claim 77 = .ok (.iload_n 1, 1) := by decide +kernel
theorem dX3_claim_78 : decode cX3_claim 78 = .ok (.putfield 131, 3) := by decide +kernel
theorem dX3_claim_81 : decode cX3_claim 81 = .ok (.iload_n 2, 1) := by decide +kernel
theorem dX3_claim_82 : decode cX3_claim 82 = .ok (.ireturn, 1) := by decide +kernel
theorem dX3_claims_0 : decode cX3_claims 0 = .ok (.aload_n 0, 1) := by decide +kernel
theorem dX3_claims_1 : decode cX3_claims 1 = .ok (.iconst 0, 1) := by decide +kernel
theorem dX3_claims_2 : decode cX3_claims 2 = .ok (.putfield 68, 3) := by decide +kernel
theorem dX3_claims_5 : decode cX3_claims 5 = .ok (.aload_n 0, 1) := by decide +kernel
theorem dX3_claims_6 : decode cX3_claims 6 = .ok (.getfield 82, 3) := by decide +kernel
theorem dX3_claims_9 : decode cX3_claims 9 = .ok (.ireturn, 1) := by decide +kernel
set_option maxRecDepth 20000 in
theorem ggX3_paid_X3_in : GoodIn wsX3_paid wsX3_in := goodIn_r _ [7] (by decide +kernel) (by decide +kernel)
set_option maxRecDepth 20000 in
theorem gX3_paid_X3_in : GoodIn wsX3_paid (va_wsS RX3 74 yX3_in wsX3_in) := goodIn_app (goodIn_of _ (by decide +kernel)) ggX3_paid_X3_in
theorem dX3_paid_0 : decode cX3_paid 0 = .ok (.aload_n 0, 1) := by decide +kernel
theorem dX3_paid_1 : decode cX3_paid 1 = .ok (.iload_n 1, 1) := by decide +kernel
theorem dX3_paid_2 : decode cX3_paid 2 = .ok (.iconst 0, 1) := by decide +kernel
theorem dX3_paid_3 : decode cX3_paid 3 = .ok (.aload_n 0, 1) := by decide +kernel
theorem dX3_paid_4 : decode cX3_paid 4 = .ok (.getfield 82, 3) := by decide +kernel
theorem dX3_paid_7 : decode cX3_paid 7 = .ok (.iconst 1, 1) := by decide +kernel
theorem dX3_paid_8 : decode cX3_paid 8 = .ok (.isub, 1) := by decide +kernel
theorem dX3_paid_9 : decode cX3_paid 9 = .ok (.invokestatic 74, 3) := by decide +kernel
theorem dX3_paid_12 : decode cX3_paid 12 = .ok (.ifCond .eq 7, 3) := by decide +kernel
theorem dX3_paid_15 : decode cX3_paid 15 = .ok (.iconst 0, 1) := by decide +kernel
theorem dX3_paid_16 : decode cX3_paid 16 = .ok (.goto 4, 3) := by decide +kernel
theorem dX3_paid_19 : decode cX3_paid 19 = .ok (.iconst 1, 1) := by decide +kernel
theorem dX3_paid_20 : decode cX3_paid 20 = .ok (.putfield 68, 3) := by decide +kernel
theorem dX3_paid_23 : decode cX3_paid 23 = .ok (.aload_n 0, 1) := by decide +kernel
theorem dX3_paid_24 : decode cX3_paid 24 = .ok (.getfield 68, 3) := by decide +kernel
theorem dX3_paid_27 : decode cX3_paid 27 = .ok (.ifCond .ne 12, 3) := by decide +kernel
theorem dX3_paid_30 : decode cX3_paid 30 = .ok (.aload_n 0, 1) := by decide +kernel
theorem dX3_paid_31 : decode cX3_paid 31 = .ok (.getfield 44, 3) := by decide +kernel
theorem dX3_paid_34 : decode cX3_paid 34 = .ok (.iload_n 1, 1) := by decide +kernel
theorem dX3_paid_35 : decode cX3_paid 35 = .ok (.iaload, 1) := by decide +kernel
theorem dX3_paid_36 : decode cX3_paid 36 = .ok (.goto 4, 3) := by decide +kernel
theorem dX3_paid_39 : decode cX3_paid 39 = .ok (.iconst 0, 1) := by decide +kernel
theorem dX3_paid_40 : decode cX3_paid 40 = .ok (.ireturn, 1) := by decide +kernel
set_option maxRecDepth 20000 in
theorem ggX3_unsettled_X3_earnedTo : GoodIn wsX3_unsettled wsX3_earnedTo := goodIn_r _ [8, 9, 10, 11, 12, 13, 7, 14, 15, 16, 17, 18, 19, 20, 21, 22, 23, 24, 25, 26, 27, 28, 29, 30, 31, 32, 33, 34, 35, 36, 37, 38, 39, 40, 41, 42, 43, 44, 45, 46, 47, 48, 49, 50, 51, 52, 53, 54, 55, 56, 62, 63, 64, 65, 66, 67, 68, 69, 70, 71, 72, 73, 74, 75, 76, 77, 78, 79, 80, 81, 82, 83, 84, 85] (by decide +kernel) (by decide +kernel)
set_option maxRecDepth 20000 in
theorem gX3_unsettled_X3_earnedTo : GoodIn wsX3_unsettled (wsV RX3 128 RX3 yX3_earnedTo wsX3_earnedTo) := goodIn_app (goodIn_of _ (by decide +kernel)) ggX3_unsettled_X3_earnedTo
set_option maxRecDepth 20000 in
theorem ggX3_unsettled_X3_paidSum : GoodIn wsX3_unsettled wsX3_paidSum := goodIn_r _ [60, 2, 61, 62, 63, 64, 65, 66, 67, 68, 69, 70, 71, 72, 73, 74, 75, 76, 77, 78, 79, 80, 81, 82, 83, 84, 85] (by decide +kernel) (by decide +kernel)
set_option maxRecDepth 20000 in
theorem gX3_unsettled_X3_paidSum : GoodIn wsX3_unsettled (wsV RX3 134 RX3 yX3_paidSum wsX3_paidSum) := goodIn_app (goodIn_of _ (by decide +kernel)) ggX3_unsettled_X3_paidSum
theorem dX3_unsettled_0 : decode cX3_unsettled 0 = .ok (.aload_n 0, 1) := by decide +kernel
theorem dX3_unsettled_1 : decode cX3_unsettled 1 = .ok (.iconst 0, 1) := by decide +kernel
theorem dX3_unsettled_2 : decode cX3_unsettled 2 = .ok (.putfield 68, 3) := by decide +kernel
theorem dX3_unsettled_5 : decode cX3_unsettled 5 = .ok (.aload_n 0, 1) := by decide +kernel
theorem dX3_unsettled_6 : decode cX3_unsettled 6 = .ok (.getfield 82, 3) := by decide +kernel
theorem dX3_unsettled_9 : decode cX3_unsettled 9 = .ok (.ifCond .ne 7, 3) := by decide +kernel
theorem dX3_unsettled_12 : decode cX3_unsettled 12 = .ok (.iconst 0, 1) := by decide +kernel
theorem dX3_unsettled_13 : decode cX3_unsettled 13 = .ok (.goto 16, 3) := by decide +kernel
theorem dX3_unsettled_16 : decode cX3_unsettled 16 = .ok (.aload_n 0, 1) := by decide +kernel
theorem dX3_unsettled_17 : decode cX3_unsettled 17 = .ok (.aload_n 0, 1) := by decide +kernel
theorem dX3_unsettled_18 : decode cX3_unsettled 18 = .ok (.getfield 131, 3) := by decide +kernel
theorem dX3_unsettled_21 : decode cX3_unsettled 21 = .ok (.invokevirtual 128, 3) := by decide +kernel
theorem dX3_unsettled_24 : decode cX3_unsettled 24 = .ok (.aload_n 0, 1) := by decide +kernel
theorem dX3_unsettled_25 : decode cX3_unsettled 25 = .ok (.invokevirtual 134, 3) := by decide +kernel
theorem dX3_unsettled_28 : decode cX3_unsettled 28 = .ok (.isub, 1) := by decide +kernel
theorem dX3_unsettled_29 : decode cX3_unsettled 29 = .ok (.ireturn, 1) := by decide +kernel
theorem dJ9_max_f86c9_0 : decode cJ9_max_f86c9 0 = .ok (.lload_n 0, 1) := by decide +kernel
theorem dJ9_max_f86c9_1 : decode cJ9_max_f86c9 1 = .ok (.lload_n 2, 1) := by decide +kernel
theorem dJ9_max_f86c9_2 : decode cJ9_max_f86c9 2 = .ok (.lcmp, 1) := by decide +kernel
theorem dJ9_max_f86c9_3 : decode cJ9_max_f86c9 3 = .ok (.ifCond .lt 7, 3) := by decide +kernel
theorem dJ9_max_f86c9_6 : decode cJ9_max_f86c9 6 = .ok (.lload_n 0, 1) := by decide +kernel
theorem dJ9_max_f86c9_7 : decode cJ9_max_f86c9 7 = .ok (.goto 4, 3) := by decide +kernel
theorem dJ9_max_f86c9_10 : decode cJ9_max_f86c9 10 = .ok (.lload_n 2, 1) := by decide +kernel
theorem dJ9_max_f86c9_11 : decode cJ9_max_f86c9 11 = .ok (.lreturn, 1) := by decide +kernel
theorem dJ9_min_7cf53_0 : decode cJ9_min_7cf53 0 = .ok (.iload_n 0, 1) := by decide +kernel
theorem dJ9_min_7cf53_1 : decode cJ9_min_7cf53 1 = .ok (.iload_n 1, 1) := by decide +kernel
theorem dJ9_min_7cf53_2 : decode cJ9_min_7cf53 2 = .ok (.if_icmp .gt 7, 3) := by decide +kernel
theorem dJ9_min_7cf53_5 : decode cJ9_min_7cf53 5 = .ok (.iload_n 0, 1) := by decide +kernel
theorem dJ9_min_7cf53_6 : decode cJ9_min_7cf53 6 = .ok (.goto 4, 3) := by decide +kernel
theorem dJ9_min_7cf53_9 : decode cJ9_min_7cf53 9 = .ok (.iload_n 1, 1) := by decide +kernel
theorem dJ9_min_7cf53_10 : decode cJ9_min_7cf53 10 = .ok (.ireturn, 1) := by decide +kernel
theorem dJ9_min_f86c9_0 : decode cJ9_min_f86c9 0 = .ok (.lload_n 0, 1) := by decide +kernel
theorem dJ9_min_f86c9_1 : decode cJ9_min_f86c9 1 = .ok (.lload_n 2, 1) := by decide +kernel
theorem dJ9_min_f86c9_2 : decode cJ9_min_f86c9 2 = .ok (.lcmp, 1) := by decide +kernel
theorem dJ9_min_f86c9_3 : decode cJ9_min_f86c9 3 = .ok (.ifCond .gt 7, 3) := by decide +kernel
theorem dJ9_min_f86c9_6 : decode cJ9_min_f86c9 6 = .ok (.lload_n 0, 1) := by decide +kernel
theorem dJ9_min_f86c9_7 : decode cJ9_min_f86c9 7 = .ok (.goto 4, 3) := by decide +kernel
theorem dJ9_min_f86c9_10 : decode cJ9_min_f86c9 10 = .ok (.lload_n 2, 1) := by decide +kernel
theorem dJ9_min_f86c9_11 : decode cJ9_min_f86c9 11 = .ok (.lreturn, 1) := by decide +kernel
end
section
set_option maxRecDepth 20000 in
theorem ggL_setGrant_X2_setGrant : GoodIn wsL_setGrant wsX2_setGrant := goodIn_ca (goodIn_ca (goodIn_r _ [7, 8, 9, 10, 11, 12, 13, 14, 15, 16, 17, 6, 18, 19, 20, 21, 22, 23, 24, 25, 26, 27, 28, 29, 30, 31, 32, 33] (by decide +kernel) (by decide +kernel)) (goodIn_sub (fun _ h => List.mem_cons_of_mem _ (List.mem_append_left _ (List.mem_append_right _ h))) (by decide +kernel))) (goodIn_sub (fun _ h => List.mem_cons_of_mem _ (List.mem_append_right _ h)) (by decide +kernel))
set_option maxRecDepth 20000 in
theorem gL_setGrant_X2_setGrant : GoodIn wsL_setGrant (wsV RL 7 RX2 yX2_setGrant wsX2_setGrant) := goodIn_app (goodIn_of _ (by decide +kernel)) ggL_setGrant_X2_setGrant
theorem dL_setGrant_0 : decode cL_setGrant 0 = .ok (.aload_n 0, 1) := by decide +kernel
theorem dL_setGrant_1 : decode cL_setGrant 1 = .ok (.iload_n 1, 1) := by decide +kernel
theorem dL_setGrant_2 : decode cL_setGrant 2 = .ok (.iload_n 2, 1) := by decide +kernel
theorem dL_setGrant_3 : decode cL_setGrant 3 = .ok (.iload_n 3, 1) := by decide +kernel
theorem dL_setGrant_4 : decode cL_setGrant 4 = .ok (.iload 4, 2) := by decide +kernel
theorem dL_setGrant_6 : decode cL_setGrant 6 = .ok (.invokevirtual 7, 3) := by decide +kernel
theorem dL_setGrant_9 : decode cL_setGrant 9 = .ok (.goto 11, 3) := by decide +kernel
theorem dL_setGrant_12 : decode cL_setGrant 12 = .ok (.astore 5, 2) := by decide +kernel
theorem dL_setGrant_14 : decode cL_setGrant 14 = .ok (.iconst 1, 1) := by decide +kernel
theorem dL_setGrant_15 : decode cL_setGrant 15 = .ok (.ireturn, 1) := by decide +kernel
theorem dL_setGrant_16 : decode cL_setGrant 16 = .ok (.astore 5, 2) := by decide +kernel
theorem dL_setGrant_18 : decode cL_setGrant 18 = .ok (.iconst 2, 1) := by decide +kernel
theorem dL_setGrant_19 : decode cL_setGrant 19 = .ok (.ireturn, 1) := by decide +kernel
theorem dL_setGrant_20 : decode cL_setGrant 20 = .ok (.iconst 0, 1) := by decide +kernel
theorem dL_setGrant_21 : decode cL_setGrant 21 = .ok (.ireturn, 1) := by decide +kernel
set_option maxRecDepth 20000 in
theorem ggL_addLine_X2_addLine : GoodIn wsL_addLine wsX2_addLine := goodIn_ca (goodIn_ca (goodIn_r _ [7, 8, 9, 10, 11, 12, 13, 14, 15, 16, 17, 6, 18, 19, 20, 21, 22, 23, 24, 25, 26, 27, 28, 29, 30, 31, 32, 33, 34, 35, 36, 37, 38, 39, 40, 41, 42, 43, 44, 45, 46, 47, 48, 49, 50, 51, 52, 53, 54, 55, 56] (by decide +kernel) (by decide +kernel)) (goodIn_sub (fun _ h => List.mem_cons_of_mem _ (List.mem_append_left _ (List.mem_append_right _ h))) (by decide +kernel))) (goodIn_sub (fun _ h => List.mem_cons_of_mem _ (List.mem_append_right _ h)) (by decide +kernel))
set_option maxRecDepth 20000 in
theorem gL_addLine_X2_addLine : GoodIn wsL_addLine (wsV RL 17 RX2 yX2_addLine wsX2_addLine) := goodIn_app (goodIn_of _ (by decide +kernel)) ggL_addLine_X2_addLine
theorem dL_addLine_0 : decode cL_addLine 0 = .ok (.aload 5, 2) := by decide +kernel
theorem dL_addLine_2 : decode cL_addLine 2 = .ok (.iconst 0, 1) := by decide +kernel
theorem dL_addLine_3 : decode cL_addLine 3 = .ok (.aload_n 0, 1) := by decide +kernel
theorem dL_addLine_4 : decode cL_addLine 4 = .ok (.iload_n 1, 1) := by decide +kernel
theorem dL_addLine_5 : decode cL_addLine 5 = .ok (.iload_n 2, 1) := by decide +kernel
theorem dL_addLine_6 : decode cL_addLine 6 = .ok (.iload_n 3, 1) := by decide +kernel
theorem dL_addLine_7 : decode cL_addLine 7 = .ok (.iload 4, 2) := by decide +kernel
theorem dL_addLine_9 : decode cL_addLine 9 = .ok (.invokevirtual 17, 3) := by decide +kernel
theorem dL_addLine_12 : decode cL_addLine 12 = .ok (.i2l, 1) := by decide +kernel
theorem dL_addLine_13 : decode cL_addLine 13 = .ok (.lastore, 1) := by decide +kernel
theorem dL_addLine_14 : decode cL_addLine 14 = .ok (.goto 11, 3) := by decide +kernel
theorem dL_addLine_17 : decode cL_addLine 17 = .ok (.astore 6, 2) := by decide +kernel
theorem dL_addLine_19 : decode cL_addLine 19 = .ok (.iconst 1, 1) := by decide +kernel
theorem dL_addLine_20 : decode cL_addLine 20 = .ok (.ireturn, 1) := by decide +kernel
theorem dL_addLine_21 : decode cL_addLine 21 = .ok (.astore 6, 2) := by decide +kernel
theorem dL_addLine_23 : decode cL_addLine 23 = .ok (.iconst 2, 1) := by decide +kernel
theorem dL_addLine_24 : decode cL_addLine 24 = .ok (.ireturn, 1) := by decide +kernel
theorem dL_addLine_25 : decode cL_addLine 25 = .ok (.iconst 0, 1) := by decide +kernel
theorem dL_addLine_26 : decode cL_addLine 26 = .ok (.ireturn, 1) := by decide +kernel
set_option maxRecDepth 20000 in
theorem ggL_extend_X2_extend : GoodIn wsL_extend wsX2_extend := goodIn_ca (goodIn_ca (goodIn_r _ [7, 8, 9, 10, 11, 6, 12, 13, 14, 15, 16, 17, 18, 19, 20, 21, 22, 23, 24, 25, 26, 27, 28, 29, 30, 31, 32, 33, 34, 35, 36, 37, 38, 39, 40, 41, 42, 43, 44, 45, 46, 47, 48, 49, 50, 51, 52, 53, 54, 55, 56, 57, 58, 59, 60, 61, 62, 63, 64, 65, 66, 67, 68, 69, 70, 71, 72, 73, 74] (by decide +kernel) (by decide +kernel)) (goodIn_sub (fun _ h => List.mem_cons_of_mem _ (List.mem_append_left _ (List.mem_append_right _ h))) (by decide +kernel))) (goodIn_sub (fun _ h => List.mem_cons_of_mem _ (List.mem_append_right _ h)) (by decide +kernel))
set_option maxRecDepth 20000 in
theorem gL_extend_X2_extend : GoodIn wsL_extend (wsV RL 21 RX2 yX2_extend wsX2_extend) := goodIn_app (goodIn_of _ (by decide +kernel)) ggL_extend_X2_extend
theorem dL_extend_0 : decode cL_extend 0 = .ok (.aload_n 3, 1) := by decide +kernel
theorem dL_extend_1 : decode cL_extend 1 = .ok (.iconst 0, 1) := by decide +kernel
theorem dL_extend_2 : decode cL_extend 2 = .ok (.aload_n 0, 1) := by decide +kernel
theorem dL_extend_3 : decode cL_extend 3 = .ok (.iload_n 1, 1) := by decide +kernel
theorem dL_extend_4 : decode cL_extend 4 = .ok (.iload_n 2, 1) := by decide +kernel
theorem dL_extend_5 : decode cL_extend 5 = .ok (.invokevirtual 21, 3) := by decide +kernel
theorem dL_extend_8 : decode cL_extend 8 = .ok (.i2l, 1) := by decide +kernel
theorem dL_extend_9 : decode cL_extend 9 = .ok (.lastore, 1) := by decide +kernel
theorem dL_extend_10 : decode cL_extend 10 = .ok (.goto 11, 3) := by decide +kernel
theorem dL_extend_13 : decode cL_extend 13 = .ok (.astore 4, 2) := by decide +kernel
theorem dL_extend_15 : decode cL_extend 15 = .ok (.iconst 1, 1) := by decide +kernel
theorem dL_extend_16 : decode cL_extend 16 = .ok (.ireturn, 1) := by decide +kernel
theorem dL_extend_17 : decode cL_extend 17 = .ok (.astore 4, 2) := by decide +kernel
theorem dL_extend_19 : decode cL_extend 19 = .ok (.iconst 2, 1) := by decide +kernel
theorem dL_extend_20 : decode cL_extend 20 = .ok (.ireturn, 1) := by decide +kernel
theorem dL_extend_21 : decode cL_extend 21 = .ok (.iconst 0, 1) := by decide +kernel
theorem dL_extend_22 : decode cL_extend 22 = .ok (.ireturn, 1) := by decide +kernel
set_option maxRecDepth 20000 in
theorem ggL_move_X2_move : GoodIn wsL_move wsX2_move := goodIn_ca (goodIn_ca (goodIn_ca (goodIn_r _ [8, 9, 10, 11, 12, 13, 14, 15, 16, 17, 18, 19, 7, 20, 21, 22, 23, 24, 25, 26, 27, 28, 29, 30, 31, 32, 33, 34, 35, 36, 37, 38, 39, 40, 41, 42, 43, 44, 45, 46, 47, 48, 49, 50, 51, 52, 53, 54, 55, 56, 57, 58, 59, 60, 61, 62, 63, 64, 65, 66, 67, 68, 69, 70, 71, 72, 73, 74, 75, 76, 77, 78, 79, 80, 81] (by decide +kernel) (by decide +kernel)) (goodIn_sub (fun _ h => List.mem_cons_of_mem _ (List.mem_append_left _ (List.mem_append_left _ (List.mem_append_right _ h)))) (by decide +kernel))) (goodIn_sub (fun _ h => List.mem_cons_of_mem _ (List.mem_append_left _ (List.mem_append_right _ h))) (by decide +kernel))) (goodIn_sub (fun _ h => List.mem_cons_of_mem _ (List.mem_append_right _ h)) (by decide +kernel))
set_option maxRecDepth 20000 in
theorem gL_move_X2_move : GoodIn wsL_move (wsV RL 27 RX2 yX2_move wsX2_move) := goodIn_app (goodIn_of _ (by decide +kernel)) ggL_move_X2_move
theorem dL_move_0 : decode cL_move 0 = .ok (.aload 4, 2) := by decide +kernel
theorem dL_move_2 : decode cL_move 2 = .ok (.iconst 0, 1) := by decide +kernel
theorem dL_move_3 : decode cL_move 3 = .ok (.aload_n 0, 1) := by decide +kernel
theorem dL_move_4 : decode cL_move 4 = .ok (.iload_n 1, 1) := by decide +kernel
theorem dL_move_5 : decode cL_move 5 = .ok (.iload_n 2, 1) := by decide +kernel
theorem dL_move_6 : decode cL_move 6 = .ok (.iload_n 3, 1) := by decide +kernel
theorem dL_move_7 : decode cL_move 7 = .ok (.invokevirtual 27, 3) := by decide +kernel
theorem dL_move_10 : decode cL_move 10 = .ok (.i2l, 1) := by decide +kernel
theorem dL_move_11 : decode cL_move 11 = .ok (.lastore, 1) := by decide +kernel
theorem dL_move_12 : decode cL_move 12 = .ok (.goto 15, 3) := by decide +kernel
theorem dL_move_15 : decode cL_move 15 = .ok (.astore 5, 2) := by decide +kernel
theorem dL_move_17 : decode cL_move 17 = .ok (.iconst 1, 1) := by decide +kernel
theorem dL_move_18 : decode cL_move 18 = .ok (.ireturn, 1) := by decide +kernel
theorem dL_move_19 : decode cL_move 19 = .ok (.astore 5, 2) := by decide +kernel
theorem dL_move_21 : decode cL_move 21 = .ok (.iconst 2, 1) := by decide +kernel
theorem dL_move_22 : decode cL_move 22 = .ok (.ireturn, 1) := by decide +kernel
theorem dL_move_23 : decode cL_move 23 = .ok (.astore 5, 2) := by decide +kernel
theorem dL_move_25 : decode cL_move 25 = .ok (.iconst 3, 1) := by decide +kernel
theorem dL_move_26 : decode cL_move 26 = .ok (.ireturn, 1) := by decide +kernel
theorem dL_move_27 : decode cL_move 27 = .ok (.iconst 0, 1) := by decide +kernel
theorem dL_move_28 : decode cL_move 28 = .ok (.ireturn, 1) := by decide +kernel
set_option maxRecDepth 20000 in
theorem ggL_room_X2_room : GoodIn wsL_room wsX2_room := goodIn_ca (goodIn_r _ [6, 7, 8, 9, 5, 10, 11, 12, 13, 14, 15, 16, 17, 18, 19, 20, 21, 22, 23, 24, 25, 26, 27, 28, 29, 30, 31, 32, 33, 34, 35, 36, 37, 38, 39, 40, 41] (by decide +kernel) (by decide +kernel)) (goodIn_sub (fun _ h => List.mem_cons_of_mem _ (List.mem_append_right _ h)) (by decide +kernel))
set_option maxRecDepth 20000 in
theorem gL_room_X2_room : GoodIn wsL_room (wsV RL 31 RX2 yX2_room wsX2_room) := goodIn_app (goodIn_of _ (by decide +kernel)) ggL_room_X2_room
theorem dL_room_0 : decode cL_room 0 = .ok (.aload_n 2, 1) := by decide +kernel
theorem dL_room_1 : decode cL_room 1 = .ok (.iconst 0, 1) := by decide +kernel
theorem dL_room_2 : decode cL_room 2 = .ok (.aload_n 0, 1) := by decide +kernel
theorem dL_room_3 : decode cL_room 3 = .ok (.iload_n 1, 1) := by decide +kernel
theorem dL_room_4 : decode cL_room 4 = .ok (.invokevirtual 31, 3) := by decide +kernel
theorem dL_room_7 : decode cL_room 7 = .ok (.i2l, 1) := by decide +kernel
theorem dL_room_8 : decode cL_room 8 = .ok (.lastore, 1) := by decide +kernel
theorem dL_room_9 : decode cL_room 9 = .ok (.goto 6, 3) := by decide +kernel
theorem dL_room_12 : decode cL_room 12 = .ok (.astore_n 3, 1) := by decide +kernel
theorem dL_room_13 : decode cL_room 13 = .ok (.iconst 1, 1) := by decide +kernel
theorem dL_room_14 : decode cL_room 14 = .ok (.ireturn, 1) := by decide +kernel
theorem dL_room_15 : decode cL_room 15 = .ok (.iconst 0, 1) := by decide +kernel
theorem dL_room_16 : decode cL_room 16 = .ok (.ireturn, 1) := by decide +kernel
set_option maxRecDepth 20000 in
theorem ggL_left_X2_left : GoodIn wsL_left wsX2_left := goodIn_ca (goodIn_r _ [6, 7, 8, 9, 5, 10, 11, 12, 13, 14, 15, 16, 17, 18, 19, 20, 21, 22, 23, 24, 25, 26, 27, 28, 29, 30, 31, 32, 33, 34, 35, 36, 37, 38, 39, 40, 41, 42, 43, 44, 45, 46, 47, 48, 49, 50, 51, 52, 53, 54, 55] (by decide +kernel) (by decide +kernel)) (goodIn_sub (fun _ h => List.mem_cons_of_mem _ (List.mem_append_right _ h)) (by decide +kernel))
set_option maxRecDepth 20000 in
theorem gL_left_X2_left : GoodIn wsL_left (wsV RL 35 RX2 yX2_left wsX2_left) := goodIn_app (goodIn_of _ (by decide +kernel)) ggL_left_X2_left
theorem dL_left_0 : decode cL_left 0 = .ok (.aload_n 2, 1) := by decide +kernel
theorem dL_left_1 : decode cL_left 1 = .ok (.iconst 0, 1) := by decide +kernel
theorem dL_left_2 : decode cL_left 2 = .ok (.aload_n 0, 1) := by decide +kernel
theorem dL_left_3 : decode cL_left 3 = .ok (.iload_n 1, 1) := by decide +kernel
theorem dL_left_4 : decode cL_left 4 = .ok (.invokevirtual 35, 3) := by decide +kernel
theorem dL_left_7 : decode cL_left 7 = .ok (.i2l, 1) := by decide +kernel
theorem dL_left_8 : decode cL_left 8 = .ok (.lastore, 1) := by decide +kernel
theorem dL_left_9 : decode cL_left 9 = .ok (.goto 6, 3) := by decide +kernel
theorem dL_left_12 : decode cL_left 12 = .ok (.astore_n 3, 1) := by decide +kernel
theorem dL_left_13 : decode cL_left 13 = .ok (.iconst 1, 1) := by decide +kernel
theorem dL_left_14 : decode cL_left 14 = .ok (.ireturn, 1) := by decide +kernel
theorem dL_left_15 : decode cL_left 15 = .ok (.iconst 0, 1) := by decide +kernel
theorem dL_left_16 : decode cL_left 16 = .ok (.ireturn, 1) := by decide +kernel
set_option maxRecDepth 20000 in
theorem ggL_spend_X2_spend : GoodIn wsL_spend wsX2_spend := goodIn_ca (goodIn_ca (goodIn_ca (goodIn_r _ [8, 9, 10, 11, 12, 13, 14, 15, 16, 17, 18, 19, 7, 20, 21, 22, 23, 24, 25, 26, 27, 28, 29, 30, 31, 32, 33, 34, 35, 36, 37, 38, 39, 40, 41, 42, 43, 44, 45, 46, 47, 48, 49, 50, 51, 52, 53, 54, 55, 56, 57, 58, 59, 60, 61, 62, 63, 64, 65, 66, 67, 68, 69, 70, 71, 72, 73, 74, 75, 76, 77, 78, 79, 80, 81, 82, 83, 84, 85, 86, 87, 88, 89, 90, 91, 92, 93, 94, 95, 96, 97, 98, 99, 100, 101] (by decide +kernel) (by decide +kernel)) (goodIn_sub (fun _ h => List.mem_cons_of_mem _ (List.mem_append_left _ (List.mem_append_left _ (List.mem_append_right _ h)))) (by decide +kernel))) (goodIn_sub (fun _ h => List.mem_cons_of_mem _ (List.mem_append_left _ (List.mem_append_right _ h))) (by decide +kernel))) (goodIn_sub (fun _ h => List.mem_cons_of_mem _ (List.mem_append_right _ h)) (by decide +kernel))
set_option maxRecDepth 20000 in
theorem gL_spend_X2_spend : GoodIn wsL_spend (wsV RL 38 RX2 yX2_spend wsX2_spend) := goodIn_app (goodIn_of _ (by decide +kernel)) ggL_spend_X2_spend
theorem dL_spend_0 : decode cL_spend 0 = .ok (.aload 4, 2) := by decide +kernel
theorem dL_spend_2 : decode cL_spend 2 = .ok (.iconst 0, 1) := by decide +kernel
theorem dL_spend_3 : decode cL_spend 3 = .ok (.aload_n 0, 1) := by decide +kernel
theorem dL_spend_4 : decode cL_spend 4 = .ok (.iload_n 1, 1) := by decide +kernel
theorem dL_spend_5 : decode cL_spend 5 = .ok (.iload_n 2, 1) := by decide +kernel
theorem dL_spend_6 : decode cL_spend 6 = .ok (.iload_n 3, 1) := by decide +kernel
theorem dL_spend_7 : decode cL_spend 7 = .ok (.invokevirtual 38, 3) := by decide +kernel
theorem dL_spend_10 : decode cL_spend 10 = .ok (.i2l, 1) := by decide +kernel
theorem dL_spend_11 : decode cL_spend 11 = .ok (.lastore, 1) := by decide +kernel
theorem dL_spend_12 : decode cL_spend 12 = .ok (.goto 15, 3) := by decide +kernel
theorem dL_spend_15 : decode cL_spend 15 = .ok (.astore 5, 2) := by decide +kernel
theorem dL_spend_17 : decode cL_spend 17 = .ok (.iconst 1, 1) := by decide +kernel
theorem dL_spend_18 : decode cL_spend 18 = .ok (.ireturn, 1) := by decide +kernel
theorem dL_spend_19 : decode cL_spend 19 = .ok (.astore 5, 2) := by decide +kernel
theorem dL_spend_21 : decode cL_spend 21 = .ok (.iconst 2, 1) := by decide +kernel
theorem dL_spend_22 : decode cL_spend 22 = .ok (.ireturn, 1) := by decide +kernel
theorem dL_spend_23 : decode cL_spend 23 = .ok (.astore 5, 2) := by decide +kernel
theorem dL_spend_25 : decode cL_spend 25 = .ok (.iconst 3, 1) := by decide +kernel
theorem dL_spend_26 : decode cL_spend 26 = .ok (.ireturn, 1) := by decide +kernel
theorem dL_spend_27 : decode cL_spend 27 = .ok (.iconst 0, 1) := by decide +kernel
theorem dL_spend_28 : decode cL_spend 28 = .ok (.ireturn, 1) := by decide +kernel
set_option maxRecDepth 20000 in
theorem ggL_refuse_X2_refuse : GoodIn wsL_refuse wsX2_refuse := goodIn_ca (goodIn_ca (goodIn_r _ [7, 8, 9, 10, 11, 12, 13, 6, 14, 15, 16, 17, 18, 19, 20, 21, 22, 23, 24, 25, 26, 27, 28, 29, 30, 31, 32, 33, 34, 35, 36, 37, 38, 39, 40, 41, 42, 43, 44, 45, 46, 47, 48, 49, 50, 51, 52, 53, 54, 55, 56, 57, 58, 59, 60, 61, 62, 63, 64, 65, 66, 67, 68, 69, 70, 71, 72, 73, 74, 75, 76, 77, 78, 79] (by decide +kernel) (by decide +kernel)) (goodIn_sub (fun _ h => List.mem_cons_of_mem _ (List.mem_append_left _ (List.mem_append_right _ h))) (by decide +kernel))) (goodIn_sub (fun _ h => List.mem_cons_of_mem _ (List.mem_append_right _ h)) (by decide +kernel))
set_option maxRecDepth 20000 in
theorem gL_refuse_X2_refuse : GoodIn wsL_refuse (wsV RL 41 RX2 yX2_refuse wsX2_refuse) := goodIn_app (goodIn_of _ (by decide +kernel)) ggL_refuse_X2_refuse
theorem dL_refuse_0 : decode cL_refuse 0 = .ok (.aload_n 2, 1) := by decide +kernel
theorem dL_refuse_1 : decode cL_refuse 1 = .ok (.iconst 0, 1) := by decide +kernel
theorem dL_refuse_2 : decode cL_refuse 2 = .ok (.aload_n 0, 1) := by decide +kernel
theorem dL_refuse_3 : decode cL_refuse 3 = .ok (.iload_n 1, 1) := by decide +kernel
theorem dL_refuse_4 : decode cL_refuse 4 = .ok (.invokevirtual 41, 3) := by decide +kernel
theorem dL_refuse_7 : decode cL_refuse 7 = .ok (.i2l, 1) := by decide +kernel
theorem dL_refuse_8 : decode cL_refuse 8 = .ok (.lastore, 1) := by decide +kernel
theorem dL_refuse_9 : decode cL_refuse 9 = .ok (.goto 9, 3) := by decide +kernel
theorem dL_refuse_12 : decode cL_refuse 12 = .ok (.astore_n 3, 1) := by decide +kernel
theorem dL_refuse_13 : decode cL_refuse 13 = .ok (.iconst 1, 1) := by decide +kernel
theorem dL_refuse_14 : decode cL_refuse 14 = .ok (.ireturn, 1) := by decide +kernel
theorem dL_refuse_15 : decode cL_refuse 15 = .ok (.astore_n 3, 1) := by decide +kernel
theorem dL_refuse_16 : decode cL_refuse 16 = .ok (.iconst 2, 1) := by decide +kernel
theorem dL_refuse_17 : decode cL_refuse 17 = .ok (.ireturn, 1) := by decide +kernel
theorem dL_refuse_18 : decode cL_refuse 18 = .ok (.iconst 0, 1) := by decide +kernel
theorem dL_refuse_19 : decode cL_refuse 19 = .ok (.ireturn, 1) := by decide +kernel
set_option maxRecDepth 20000 in
theorem ggL_admit_X2_admit : GoodIn wsL_admit wsX2_admit := goodIn_ca (goodIn_ca (goodIn_r _ [7, 8, 9, 10, 11, 12, 13, 6, 14, 15, 16, 17, 18, 19, 20, 21, 22, 23, 24, 25, 26, 27, 28, 29, 30, 31, 32, 33, 34, 35, 36, 37, 38, 39, 40, 41, 42, 43, 44, 45, 46, 47, 48, 49, 50, 51, 52, 53, 54, 55, 56, 57, 58, 59, 60, 61, 62, 63, 64, 65, 66, 67, 68, 69, 70, 71, 72, 73, 74, 75, 76, 77, 78, 79] (by decide +kernel) (by decide +kernel)) (goodIn_sub (fun _ h => List.mem_cons_of_mem _ (List.mem_append_left _ (List.mem_append_right _ h))) (by decide +kernel))) (goodIn_sub (fun _ h => List.mem_cons_of_mem _ (List.mem_append_right _ h)) (by decide +kernel))
set_option maxRecDepth 20000 in
theorem gL_admit_X2_admit : GoodIn wsL_admit (wsV RL 44 RX2 yX2_admit wsX2_admit) := goodIn_app (goodIn_of _ (by decide +kernel)) ggL_admit_X2_admit
theorem dL_admit_0 : decode cL_admit 0 = .ok (.aload_n 2, 1) := by decide +kernel
theorem dL_admit_1 : decode cL_admit 1 = .ok (.iconst 0, 1) := by decide +kernel
theorem dL_admit_2 : decode cL_admit 2 = .ok (.aload_n 0, 1) := by decide +kernel
theorem dL_admit_3 : decode cL_admit 3 = .ok (.iload_n 1, 1) := by decide +kernel
theorem dL_admit_4 : decode cL_admit 4 = .ok (.invokevirtual 44, 3) := by decide +kernel
theorem dL_admit_7 : decode cL_admit 7 = .ok (.i2l, 1) := by decide +kernel
theorem dL_admit_8 : decode cL_admit 8 = .ok (.lastore, 1) := by decide +kernel
theorem dL_admit_9 : decode cL_admit 9 = .ok (.goto 9, 3) := by decide +kernel
theorem dL_admit_12 : decode cL_admit 12 = .ok (.astore_n 3, 1) := by decide +kernel
theorem dL_admit_13 : decode cL_admit 13 = .ok (.iconst 1, 1) := by decide +kernel
theorem dL_admit_14 : decode cL_admit 14 = .ok (.ireturn, 1) := by decide +kernel
theorem dL_admit_15 : decode cL_admit 15 = .ok (.astore_n 3, 1) := by decide +kernel
theorem dL_admit_16 : decode cL_admit 16 = .ok (.iconst 2, 1) := by decide +kernel
theorem dL_admit_17 : decode cL_admit 17 = .ok (.ireturn, 1) := by decide +kernel
theorem dL_admit_18 : decode cL_admit 18 = .ok (.iconst 0, 1) := by decide +kernel
theorem dL_admit_19 : decode cL_admit 19 = .ok (.ireturn, 1) := by decide +kernel
set_option maxRecDepth 20000 in
theorem ggL_match_X2_match : GoodIn wsL_match wsX2_match := goodIn_ca (goodIn_ca (goodIn_r _ [7, 8, 9, 10, 11, 12, 13, 14, 6, 15, 16, 17, 18, 19, 20, 21, 22, 23, 24, 25, 26, 27, 28, 29, 30] (by decide +kernel) (by decide +kernel)) (goodIn_sub (fun _ h => List.mem_cons_of_mem _ (List.mem_append_left _ (List.mem_append_right _ h))) (by decide +kernel))) (goodIn_sub (fun _ h => List.mem_cons_of_mem _ (List.mem_append_right _ h)) (by decide +kernel))
set_option maxRecDepth 20000 in
theorem gL_match_X2_match : GoodIn wsL_match (wsV RL 47 RX2 yX2_match wsX2_match) := goodIn_app (goodIn_of _ (by decide +kernel)) ggL_match_X2_match
theorem dL_match_0 : decode cL_match 0 = .ok (.aload_n 2, 1) := by decide +kernel
theorem dL_match_1 : decode cL_match 1 = .ok (.iconst 0, 1) := by decide +kernel
theorem dL_match_2 : decode cL_match 2 = .ok (.aload_n 0, 1) := by decide +kernel
theorem dL_match_3 : decode cL_match 3 = .ok (.iload_n 1, 1) := by decide +kernel
theorem dL_match_4 : decode cL_match 4 = .ok (.invokevirtual 47, 3) := by decide +kernel
theorem dL_match_7 : decode cL_match 7 = .ok (.i2l, 1) := by decide +kernel
theorem dL_match_8 : decode cL_match 8 = .ok (.lastore, 1) := by decide +kernel
theorem dL_match_9 : decode cL_match 9 = .ok (.goto 9, 3) := by decide +kernel
theorem dL_match_12 : decode cL_match 12 = .ok (.astore_n 3, 1) := by decide +kernel
theorem dL_match_13 : decode cL_match 13 = .ok (.iconst 1, 1) := by decide +kernel
theorem dL_match_14 : decode cL_match 14 = .ok (.ireturn, 1) := by decide +kernel
theorem dL_match_15 : decode cL_match 15 = .ok (.astore_n 3, 1) := by decide +kernel
theorem dL_match_16 : decode cL_match 16 = .ok (.iconst 2, 1) := by decide +kernel
theorem dL_match_17 : decode cL_match 17 = .ok (.ireturn, 1) := by decide +kernel
theorem dL_match_18 : decode cL_match 18 = .ok (.iconst 0, 1) := by decide +kernel
theorem dL_match_19 : decode cL_match 19 = .ok (.ireturn, 1) := by decide +kernel
set_option maxRecDepth 20000 in
theorem ggL_fits_X2_fits : GoodIn wsL_fits wsX2_fits := goodIn_ca (goodIn_r _ [6, 7, 8, 9, 10, 5, 11, 12, 13, 14, 15, 16, 17, 18, 19, 20, 21, 22, 23, 24, 25, 26, 27, 28, 29, 30, 31, 32, 33, 34, 35, 36, 37, 38, 39, 40, 41, 42, 43, 44, 45, 46, 47, 48, 49] (by decide +kernel) (by decide +kernel)) (goodIn_sub (fun _ h => List.mem_cons_of_mem _ (List.mem_append_right _ h)) (by decide +kernel))
set_option maxRecDepth 20000 in
theorem gL_fits_X2_fits : GoodIn wsL_fits (wsV RL 50 RX2 yX2_fits wsX2_fits) := goodIn_app (goodIn_of _ (by decide +kernel)) ggL_fits_X2_fits
theorem dL_fits_0 : decode cL_fits 0 = .ok (.aload_n 2, 1) := by decide +kernel
theorem dL_fits_1 : decode cL_fits 1 = .ok (.iconst 0, 1) := by decide +kernel
theorem dL_fits_2 : decode cL_fits 2 = .ok (.aload_n 0, 1) := by decide +kernel
theorem dL_fits_3 : decode cL_fits 3 = .ok (.iload_n 1, 1) := by decide +kernel
theorem dL_fits_4 : decode cL_fits 4 = .ok (.invokevirtual 50, 3) := by decide +kernel
theorem dL_fits_7 : decode cL_fits 7 = .ok (.ifCond .eq 7, 3) := by decide +kernel
theorem dL_fits_10 : decode cL_fits 10 = .ok (.lconst 1, 1) := by decide +kernel
theorem dL_fits_11 : decode cL_fits 11 = .ok (.goto 4, 3) := by decide +kernel
theorem dL_fits_14 : decode cL_fits 14 = .ok (.lconst 0, 1) := by decide +kernel
theorem dL_fits_15 : decode cL_fits 15 = .ok (.lastore, 1) := by decide +kernel
theorem dL_fits_16 : decode cL_fits 16 = .ok (.goto 6, 3) := by decide +kernel
theorem dL_fits_19 : decode cL_fits 19 = .ok (.astore_n 3, 1) := by decide +kernel
theorem dL_fits_20 : decode cL_fits 20 = .ok (.iconst 1, 1) := by decide +kernel
theorem dL_fits_21 : decode cL_fits 21 = .ok (.ireturn, 1) := by decide +kernel
theorem dL_fits_22 : decode cL_fits 22 = .ok (.iconst 0, 1) := by decide +kernel
theorem dL_fits_23 : decode cL_fits 23 = .ok (.ireturn, 1) := by decide +kernel
set_option maxRecDepth 20000 in
theorem ggL_eligible_X2_eligible : GoodIn wsL_eligible wsX2_eligible := goodIn_ca (goodIn_r _ [6, 7, 8, 9, 10, 5, 11, 12, 13, 14, 15, 16, 17, 18, 19, 20, 21, 22, 23, 24, 25, 26, 27, 28, 29, 30, 31, 32, 33] (by decide +kernel) (by decide +kernel)) (goodIn_sub (fun _ h => List.mem_cons_of_mem _ (List.mem_append_right _ h)) (by decide +kernel))
set_option maxRecDepth 20000 in
theorem gL_eligible_X2_eligible : GoodIn wsL_eligible (wsV RL 54 RX2 yX2_eligible wsX2_eligible) := goodIn_app (goodIn_of _ (by decide +kernel)) ggL_eligible_X2_eligible
theorem dL_eligible_0 : decode cL_eligible 0 = .ok (.aload_n 2, 1) := by decide +kernel
theorem dL_eligible_1 : decode cL_eligible 1 = .ok (.iconst 0, 1) := by decide +kernel
theorem dL_eligible_2 : decode cL_eligible 2 = .ok (.aload_n 0, 1) := by decide +kernel
theorem dL_eligible_3 : decode cL_eligible 3 = .ok (.iload_n 1, 1) := by decide +kernel
theorem dL_eligible_4 : decode cL_eligible 4 = .ok (.invokevirtual 54, 3) := by decide +kernel
theorem dL_eligible_7 : decode cL_eligible 7 = .ok (.i2l, 1) := by decide +kernel
theorem dL_eligible_8 : decode cL_eligible 8 = .ok (.lastore, 1) := by decide +kernel
theorem dL_eligible_9 : decode cL_eligible 9 = .ok (.goto 6, 3) := by decide +kernel
theorem dL_eligible_12 : decode cL_eligible 12 = .ok (.astore_n 3, 1) := by decide +kernel
theorem dL_eligible_13 : decode cL_eligible 13 = .ok (.iconst 1, 1) := by decide +kernel
theorem dL_eligible_14 : decode cL_eligible 14 = .ok (.ireturn, 1) := by decide +kernel
theorem dL_eligible_15 : decode cL_eligible 15 = .ok (.iconst 0, 1) := by decide +kernel
theorem dL_eligible_16 : decode cL_eligible 16 = .ok (.ireturn, 1) := by decide +kernel
set_option maxRecDepth 20000 in
theorem ggL_costs_X2_costs : GoodIn wsL_costs wsX2_costs := goodIn_ca (goodIn_r _ [6, 7, 8, 5, 9, 10, 11, 12, 13, 14, 15, 16, 17, 18, 19, 20, 21, 22, 23, 24, 25, 26, 27, 28, 29, 30, 31, 32, 33, 34, 35, 36, 37, 38, 39, 40, 41, 42, 43, 44, 45, 46, 47, 48, 49, 50, 51, 52, 53, 54, 55, 56, 57, 58, 59] (by decide +kernel) (by decide +kernel)) (goodIn_sub (fun _ h => List.mem_cons_of_mem _ (List.mem_append_right _ h)) (by decide +kernel))
set_option maxRecDepth 20000 in
theorem gL_costs_X2_costs : GoodIn wsL_costs (wsV RL 57 RX2 yX2_costs wsX2_costs) := goodIn_app (goodIn_of _ (by decide +kernel)) ggL_costs_X2_costs
theorem dL_costs_0 : decode cL_costs 0 = .ok (.aload_n 2, 1) := by decide +kernel
theorem dL_costs_1 : decode cL_costs 1 = .ok (.iconst 0, 1) := by decide +kernel
theorem dL_costs_2 : decode cL_costs 2 = .ok (.aload_n 0, 1) := by decide +kernel
theorem dL_costs_3 : decode cL_costs 3 = .ok (.iload_n 1, 1) := by decide +kernel
theorem dL_costs_4 : decode cL_costs 4 = .ok (.invokevirtual 57, 3) := by decide +kernel
theorem dL_costs_7 : decode cL_costs 7 = .ok (.i2l, 1) := by decide +kernel
theorem dL_costs_8 : decode cL_costs 8 = .ok (.lastore, 1) := by decide +kernel
theorem dL_costs_9 : decode cL_costs 9 = .ok (.goto 6, 3) := by decide +kernel
theorem dL_costs_12 : decode cL_costs 12 = .ok (.astore_n 3, 1) := by decide +kernel
theorem dL_costs_13 : decode cL_costs 13 = .ok (.iconst 1, 1) := by decide +kernel
theorem dL_costs_14 : decode cL_costs 14 = .ok (.ireturn, 1) := by decide +kernel
theorem dL_costs_15 : decode cL_costs 15 = .ok (.iconst 0, 1) := by decide +kernel
theorem dL_costs_16 : decode cL_costs 16 = .ok (.ireturn, 1) := by decide +kernel
set_option maxRecDepth 20000 in
theorem ggL_overhead_X2_overhead : GoodIn wsL_overhead wsX2_overhead := goodIn_ca (goodIn_r _ [6, 7, 8, 5, 9, 10, 11, 12, 13, 14, 15, 16, 17, 18, 19, 20, 21, 22, 23, 24, 25, 26, 27, 28, 29, 30, 31, 32, 33, 34, 35, 36, 37, 38, 39, 40, 41, 42, 43, 44, 45, 46, 47, 48, 49, 50, 51, 52, 53, 54, 55, 56, 57, 58, 59, 60, 61, 62, 63, 64, 65, 66] (by decide +kernel) (by decide +kernel)) (goodIn_sub (fun _ h => List.mem_cons_of_mem _ (List.mem_append_right _ h)) (by decide +kernel))
set_option maxRecDepth 20000 in
theorem gL_overhead_X2_overhead : GoodIn wsL_overhead (wsV RL 60 RX2 yX2_overhead wsX2_overhead) := goodIn_app (goodIn_of _ (by decide +kernel)) ggL_overhead_X2_overhead
theorem dL_overhead_0 : decode cL_overhead 0 = .ok (.aload_n 2, 1) := by decide +kernel
theorem dL_overhead_1 : decode cL_overhead 1 = .ok (.iconst 0, 1) := by decide +kernel
theorem dL_overhead_2 : decode cL_overhead 2 = .ok (.aload_n 0, 1) := by decide +kernel
theorem dL_overhead_3 : decode cL_overhead 3 = .ok (.iload_n 1, 1) := by decide +kernel
theorem dL_overhead_4 : decode cL_overhead 4 = .ok (.invokevirtual 60, 3) := by decide +kernel
theorem dL_overhead_7 : decode cL_overhead 7 = .ok (.i2l, 1) := by decide +kernel
theorem dL_overhead_8 : decode cL_overhead 8 = .ok (.lastore, 1) := by decide +kernel
theorem dL_overhead_9 : decode cL_overhead 9 = .ok (.goto 6, 3) := by decide +kernel
theorem dL_overhead_12 : decode cL_overhead 12 = .ok (.astore_n 3, 1) := by decide +kernel
theorem dL_overhead_13 : decode cL_overhead 13 = .ok (.iconst 1, 1) := by decide +kernel
theorem dL_overhead_14 : decode cL_overhead 14 = .ok (.ireturn, 1) := by decide +kernel
theorem dL_overhead_15 : decode cL_overhead 15 = .ok (.iconst 0, 1) := by decide +kernel
theorem dL_overhead_16 : decode cL_overhead 16 = .ok (.ireturn, 1) := by decide +kernel
set_option maxRecDepth 20000 in
theorem ggL_earned_X2_earned : GoodIn wsL_earned wsX2_earned := goodIn_ca (goodIn_r _ [6, 7, 8, 5, 9, 10, 11, 12, 13, 14, 15, 16, 17, 18, 19, 20, 21, 22, 23, 24, 25, 26, 27, 28, 29, 30, 31, 32, 33, 34, 35, 36, 37, 38, 39, 40, 41, 42, 43, 44, 45, 46, 47, 48, 49, 50, 51, 52, 53, 54, 55, 56, 57, 58, 59, 60, 61, 62, 63, 64, 65, 66, 67, 68, 69, 70, 71, 72, 73, 74, 75, 76, 77, 78, 79, 80, 81] (by decide +kernel) (by decide +kernel)) (goodIn_sub (fun _ h => List.mem_cons_of_mem _ (List.mem_append_right _ h)) (by decide +kernel))
set_option maxRecDepth 20000 in
theorem gL_earned_X2_earned : GoodIn wsL_earned (wsV RL 63 RX2 yX2_earned wsX2_earned) := goodIn_app (goodIn_of _ (by decide +kernel)) ggL_earned_X2_earned
theorem dL_earned_0 : decode cL_earned 0 = .ok (.aload_n 2, 1) := by decide +kernel
theorem dL_earned_1 : decode cL_earned 1 = .ok (.iconst 0, 1) := by decide +kernel
theorem dL_earned_2 : decode cL_earned 2 = .ok (.aload_n 0, 1) := by decide +kernel
theorem dL_earned_3 : decode cL_earned 3 = .ok (.iload_n 1, 1) := by decide +kernel
theorem dL_earned_4 : decode cL_earned 4 = .ok (.invokevirtual 63, 3) := by decide +kernel
theorem dL_earned_7 : decode cL_earned 7 = .ok (.i2l, 1) := by decide +kernel
theorem dL_earned_8 : decode cL_earned 8 = .ok (.lastore, 1) := by decide +kernel
theorem dL_earned_9 : decode cL_earned 9 = .ok (.goto 6, 3) := by decide +kernel
theorem dL_earned_12 : decode cL_earned 12 = .ok (.astore_n 3, 1) := by decide +kernel
theorem dL_earned_13 : decode cL_earned 13 = .ok (.iconst 1, 1) := by decide +kernel
theorem dL_earned_14 : decode cL_earned 14 = .ok (.ireturn, 1) := by decide +kernel
theorem dL_earned_15 : decode cL_earned 15 = .ok (.iconst 0, 1) := by decide +kernel
theorem dL_earned_16 : decode cL_earned 16 = .ok (.ireturn, 1) := by decide +kernel
set_option maxRecDepth 20000 in
theorem ggL_missingMatch_X2_missingMatch : GoodIn wsL_missingMatch wsX2_missingMatch := goodIn_ca (goodIn_r _ [6, 7, 8, 9, 10, 11, 12, 13, 5, 14, 15, 16, 17, 18, 19, 20, 21, 22, 23, 24, 25, 26, 27, 28, 29, 30, 31, 32, 33, 34, 35, 36, 37, 38, 39, 40, 41, 42, 43, 44, 45, 46, 47, 48, 49, 50, 51, 52, 53, 54, 55, 56, 57, 58, 59, 60, 61, 62, 63, 64, 65, 66, 67, 68, 69, 70, 71, 72, 73, 74, 75, 76, 77, 78, 79, 80, 81, 82, 83, 84] (by decide +kernel) (by decide +kernel)) (goodIn_sub (fun _ h => List.mem_cons_of_mem _ (List.mem_append_right _ h)) (by decide +kernel))
set_option maxRecDepth 20000 in
theorem gL_missingMatch_X2_missingMatch : GoodIn wsL_missingMatch (wsV RL 66 RX2 yX2_missingMatch wsX2_missingMatch) := goodIn_app (goodIn_of _ (by decide +kernel)) ggL_missingMatch_X2_missingMatch
theorem dL_missingMatch_0 : decode cL_missingMatch 0 = .ok (.aload_n 2, 1) := by decide +kernel
theorem dL_missingMatch_1 : decode cL_missingMatch 1 = .ok (.iconst 0, 1) := by decide +kernel
theorem dL_missingMatch_2 : decode cL_missingMatch 2 = .ok (.aload_n 0, 1) := by decide +kernel
theorem dL_missingMatch_3 : decode cL_missingMatch 3 = .ok (.iload_n 1, 1) := by decide +kernel
theorem dL_missingMatch_4 : decode cL_missingMatch 4 = .ok (.invokevirtual 66, 3) := by decide +kernel
theorem dL_missingMatch_7 : decode cL_missingMatch 7 = .ok (.i2l, 1) := by decide +kernel
theorem dL_missingMatch_8 : decode cL_missingMatch 8 = .ok (.lastore, 1) := by decide +kernel
theorem dL_missingMatch_9 : decode cL_missingMatch 9 = .ok (.goto 6, 3) := by decide +kernel
theorem dL_missingMatch_12 : decode cL_missingMatch 12 = .ok (.astore_n 3, 1) := by decide +kernel
theorem dL_missingMatch_13 : decode cL_missingMatch 13 = .ok (.iconst 1, 1) := by decide +kernel
theorem dL_missingMatch_14 : decode cL_missingMatch 14 = .ok (.ireturn, 1) := by decide +kernel
theorem dL_missingMatch_15 : decode cL_missingMatch 15 = .ok (.iconst 0, 1) := by decide +kernel
theorem dL_missingMatch_16 : decode cL_missingMatch 16 = .ok (.ireturn, 1) := by decide +kernel
set_option maxRecDepth 20000 in
theorem ggL_claim_X2_claim : GoodIn wsL_claim wsX2_claim := goodIn_ca (goodIn_ca (goodIn_r _ [7, 8, 9, 10, 11, 12, 13, 14, 15, 6, 16, 17, 18, 19, 20, 21, 22, 23, 24, 25, 26, 27, 28, 29, 30, 31, 32, 33, 34, 35, 36, 37, 38, 39, 40, 41, 42, 43, 44, 45, 46, 47, 48, 49, 50, 51, 52, 53, 54, 55, 56, 57, 58, 59, 60, 61, 62, 63, 64, 65, 66, 67, 68, 69, 70, 71, 72, 73, 74, 75, 76, 77, 78, 79, 80, 81, 82, 83, 84, 85] (by decide +kernel) (by decide +kernel)) (goodIn_sub (fun _ h => List.mem_cons_of_mem _ (List.mem_append_left _ (List.mem_append_right _ h))) (by decide +kernel))) (goodIn_sub (fun _ h => List.mem_cons_of_mem _ (List.mem_append_right _ h)) (by decide +kernel))
set_option maxRecDepth 20000 in
theorem gL_claim_X2_claim : GoodIn wsL_claim (wsV RL 69 RX2 yX2_claim wsX2_claim) := goodIn_app (goodIn_of _ (by decide +kernel)) ggL_claim_X2_claim
theorem dL_claim_0 : decode cL_claim 0 = .ok (.aload_n 2, 1) := by decide +kernel
theorem dL_claim_1 : decode cL_claim 1 = .ok (.iconst 0, 1) := by decide +kernel
theorem dL_claim_2 : decode cL_claim 2 = .ok (.aload_n 0, 1) := by decide +kernel
theorem dL_claim_3 : decode cL_claim 3 = .ok (.iload_n 1, 1) := by decide +kernel
theorem dL_claim_4 : decode cL_claim 4 = .ok (.invokevirtual 69, 3) := by decide +kernel
theorem dL_claim_7 : decode cL_claim 7 = .ok (.i2l, 1) := by decide +kernel
theorem dL_claim_8 : decode cL_claim 8 = .ok (.lastore, 1) := by decide +kernel
theorem dL_claim_9 : decode cL_claim 9 = .ok (.goto 9, 3) := by decide +kernel
theorem dL_claim_12 : decode cL_claim 12 = .ok (.astore_n 3, 1) := by decide +kernel
theorem dL_claim_13 : decode cL_claim 13 = .ok (.iconst 1, 1) := by decide +kernel
theorem dL_claim_14 : decode cL_claim 14 = .ok (.ireturn, 1) := by decide +kernel
theorem dL_claim_15 : decode cL_claim 15 = .ok (.astore_n 3, 1) := by decide +kernel
theorem dL_claim_16 : decode cL_claim 16 = .ok (.iconst 2, 1) := by decide +kernel
theorem dL_claim_17 : decode cL_claim 17 = .ok (.ireturn, 1) := by decide +kernel
theorem dL_claim_18 : decode cL_claim 18 = .ok (.iconst 0, 1) := by decide +kernel
theorem dL_claim_19 : decode cL_claim 19 = .ok (.ireturn, 1) := by decide +kernel
set_option maxRecDepth 20000 in
theorem ggL_paid_X2_paid : GoodIn wsL_paid wsX2_paid := goodIn_ca (goodIn_r _ [6, 7, 8, 9, 10, 11, 12, 13, 14, 15, 16, 17, 18, 19, 20, 21, 22, 23] (by decide +kernel) (by decide +kernel)) (goodIn_sub (fun _ h => List.mem_cons_of_mem _ (List.mem_append_right _ h)) (by decide +kernel))
set_option maxRecDepth 20000 in
theorem gL_paid_X2_paid : GoodIn wsL_paid (wsV RL 72 RX2 yX2_paid wsX2_paid) := goodIn_app (goodIn_of _ (by decide +kernel)) ggL_paid_X2_paid
theorem dL_paid_0 : decode cL_paid 0 = .ok (.aload_n 2, 1) := by decide +kernel
theorem dL_paid_1 : decode cL_paid 1 = .ok (.iconst 0, 1) := by decide +kernel
theorem dL_paid_2 : decode cL_paid 2 = .ok (.aload_n 0, 1) := by decide +kernel
theorem dL_paid_3 : decode cL_paid 3 = .ok (.iload_n 1, 1) := by decide +kernel
theorem dL_paid_4 : decode cL_paid 4 = .ok (.invokevirtual 72, 3) := by decide +kernel
theorem dL_paid_7 : decode cL_paid 7 = .ok (.i2l, 1) := by decide +kernel
theorem dL_paid_8 : decode cL_paid 8 = .ok (.lastore, 1) := by decide +kernel
theorem dL_paid_9 : decode cL_paid 9 = .ok (.goto 6, 3) := by decide +kernel
theorem dL_paid_12 : decode cL_paid 12 = .ok (.astore_n 3, 1) := by decide +kernel
theorem dL_paid_13 : decode cL_paid 13 = .ok (.iconst 1, 1) := by decide +kernel
theorem dL_paid_14 : decode cL_paid 14 = .ok (.ireturn, 1) := by decide +kernel
theorem dL_paid_15 : decode cL_paid 15 = .ok (.iconst 0, 1) := by decide +kernel
theorem dL_paid_16 : decode cL_paid 16 = .ok (.ireturn, 1) := by decide +kernel
set_option maxRecDepth 20000 in
theorem ggL_law_X2_init : GoodIn wsL_law wsX2_init := goodIn_r _ [9, 10, 11, 12, 13, 14, 15, 16, 17, 18, 19, 20, 21, 22, 23, 24, 25, 26, 27, 28, 29, 30, 478, 479, 480, 481, 482, 483, 484, 485, 486, 487, 488, 489, 490] (by decide +kernel) (by decide +kernel)
set_option maxRecDepth 20000 in
theorem gL_law_X2_init : GoodIn wsL_law (wsX2_init) := ggL_law_X2_init
set_option maxRecDepth 20000 in
theorem ggL_law_X3_init : GoodIn wsL_law wsX3_init := goodIn_r _ [33, 34, 11, 12, 26, 35, 36, 37, 38, 39, 40, 41, 42, 43, 44, 45, 46, 47, 48, 49, 50, 51, 52, 53, 54, 55, 491, 492, 493, 494, 495, 496, 497, 498, 499, 500, 501, 502, 503, 504, 505, 506, 507, 508, 509, 510, 511, 512, 513, 514] (by decide +kernel) (by decide +kernel)
set_option maxRecDepth 20000 in
theorem gL_law_X3_init : GoodIn wsL_law (wsX3_init) := ggL_law_X3_init
set_option maxRecDepth 20000 in
theorem ggL_law_L_setGrant : GoodIn wsL_law wsL_setGrant := goodIn_ca (goodIn_ca (goodIn_r _ [59, 60, 61, 62, 63, 64, 2, 65, 66, 67, 68, 28, 14, 15, 16, 18, 69, 70, 71, 72, 73, 478, 479, 480, 481, 482, 483, 484, 485, 486, 487, 488, 489, 490] (by decide +kernel) (by decide +kernel)) (goodIn_sub (fun _ h => List.mem_append_left _ (List.mem_append_left _ (List.mem_append_right _ h))) (by decide +kernel))) (goodIn_sub (fun _ h => List.mem_append_left _ (List.mem_append_right _ h)) (by decide +kernel))
set_option maxRecDepth 20000 in
theorem gL_law_L_setGrant : GoodIn wsL_law (va_wsS RL 79 yL_setGrant wsL_setGrant) := goodIn_app (goodIn_of _ (by decide +kernel)) ggL_law_L_setGrant
set_option maxRecDepth 20000 in
theorem ggL_law_X3_setGrant : GoodIn wsL_law wsX3_setGrant := goodIn_r _ [77, 78, 79, 80, 51, 52, 53, 55, 81, 82, 5, 83, 491, 492, 493, 494, 495, 496, 497, 498, 499, 500, 501, 502, 503, 504, 505, 506, 507, 508, 509, 510, 511, 512, 513, 514] (by decide +kernel) (by decide +kernel)
set_option maxRecDepth 20000 in
theorem gL_law_X3_setGrant : GoodIn wsL_law (wsV RL 84 RX3 yX3_setGrant wsX3_setGrant) := goodIn_app (goodIn_of _ (by decide +kernel)) ggL_law_X3_setGrant
set_option maxRecDepth 20000 in
theorem ggL_law_X3_thrown : GoodIn wsL_law wsX3_thrown := goodIn_r _ [87, 80, 491, 492, 493, 494, 495, 496, 497, 498, 499, 500, 501, 502, 503, 504, 505, 506, 507, 508, 509, 510, 511, 512, 513, 514] (by decide +kernel) (by decide +kernel)
set_option maxRecDepth 20000 in
theorem gL_law_X3_thrown : GoodIn wsL_law (wsV RL 85 RX3 yX3_thrown wsX3_thrown) := goodIn_app (goodIn_of _ (by decide +kernel)) ggL_law_X3_thrown
set_option maxRecDepth 20000 in
theorem ggL_law_L_addLine : GoodIn wsL_law wsL_addLine := goodIn_ca (goodIn_ca (goodIn_r _ [90, 60, 61, 91, 92, 93, 2, 94, 66, 67, 95, 21, 20, 19, 96, 97, 69, 70, 71, 72, 73, 98, 99, 100, 101, 102, 103, 104, 11, 12, 105, 106, 107, 108, 109, 110, 111, 478, 479, 480, 481, 482, 483, 484, 485, 486, 487, 488, 489, 490, 515, 516, 517, 518, 519, 520, 521] (by decide +kernel) (by decide +kernel)) (goodIn_sub (fun _ h => List.mem_append_left _ (List.mem_append_left _ (List.mem_append_right _ h))) (by decide +kernel))) (goodIn_sub (fun _ h => List.mem_append_left _ (List.mem_append_right _ h)) (by decide +kernel))
set_option maxRecDepth 20000 in
theorem gL_law_L_addLine : GoodIn wsL_law (va_wsS RL 89 yL_addLine wsL_addLine) := goodIn_app (goodIn_of _ (by decide +kernel)) ggL_law_L_addLine
set_option maxRecDepth 20000 in
theorem ggL_law_X3_addLine : GoodIn wsL_law wsX3_addLine := goodIn_r _ [115, 116, 117, 80, 35, 36, 37, 39, 81, 82, 5, 83, 491, 492, 493, 494, 495, 496, 497, 498, 499, 500, 501, 502, 503, 504, 505, 506, 507, 508, 509, 510, 511, 512, 513, 514] (by decide +kernel) (by decide +kernel)
set_option maxRecDepth 20000 in
theorem gL_law_X3_addLine : GoodIn wsL_law (wsV RL 92 RX3 yX3_addLine wsX3_addLine) := goodIn_app (goodIn_of _ (by decide +kernel)) ggL_law_X3_addLine
set_option maxRecDepth 20000 in
theorem ggL_law_L_extend : GoodIn wsL_law wsL_extend := goodIn_ca (goodIn_ca (goodIn_r _ [120, 121, 60, 122, 123, 124, 2, 125, 126, 127, 128, 129, 130, 131, 132, 20, 69, 70, 71, 72, 73, 133, 134, 135, 97, 136, 107, 137, 138, 139, 140, 141, 142, 143, 144, 145, 146, 147, 108, 105, 106, 148, 149, 150, 151, 152, 153, 109, 110, 515, 516, 517, 518, 519, 520, 521, 478, 479, 480, 481, 482, 483, 484, 485, 486, 487, 488, 489, 490, 522, 523, 524, 525, 526, 527] (by decide +kernel) (by decide +kernel)) (goodIn_sub (fun _ h => List.mem_append_right _ h) (by decide +kernel))) (goodIn_sub (fun _ h => List.mem_append_left _ (List.mem_append_right _ h)) (by decide +kernel))
set_option maxRecDepth 20000 in
theorem gL_law_L_extend : GoodIn wsL_law (va_wsS RL 93 yL_extend wsL_extend) := goodIn_app (goodIn_of _ (by decide +kernel)) ggL_law_L_extend
set_option maxRecDepth 20000 in
theorem ggL_law_X3_extend : GoodIn wsL_law wsX3_extend := goodIn_r _ [157, 37, 80, 158, 159, 160, 5, 161, 117, 81, 82, 83, 491, 492, 493, 494, 495, 496, 497, 498, 499, 500, 501, 502, 503, 504, 505, 506, 507, 508, 509, 510, 511, 512, 513, 514] (by decide +kernel) (by decide +kernel)
set_option maxRecDepth 20000 in
theorem gL_law_X3_extend : GoodIn wsL_law (wsV RL 96 RX3 yX3_extend wsX3_extend) := goodIn_app (goodIn_of _ (by decide +kernel)) ggL_law_X3_extend
set_option maxRecDepth 20000 in
theorem ggL_law_L_move : GoodIn wsL_law wsL_move := goodIn_ca (goodIn_ca (goodIn_ca (goodIn_r _ [164, 121, 60, 61, 165, 166, 167, 2, 168, 72, 73, 66, 67, 95, 169, 170, 171, 127, 128, 129, 130, 131, 132, 20, 69, 70, 71, 133, 134, 135, 97, 136, 107, 137, 138, 139, 140, 141, 142, 143, 144, 145, 146, 147, 108, 105, 106, 148, 149, 150, 151, 152, 153, 109, 110, 172, 515, 516, 517, 518, 519, 520, 521, 478, 479, 480, 481, 482, 483, 484, 485, 486, 487, 488, 489, 490, 522, 523, 524, 525, 526, 527] (by decide +kernel) (by decide +kernel)) (goodIn_sub (fun _ h => List.mem_append_left _ (List.mem_append_right _ h)) (by decide +kernel))) (goodIn_sub (fun _ h => List.mem_append_left _ (List.mem_append_left _ (List.mem_append_right _ h))) (by decide +kernel))) (goodIn_sub (fun _ h => List.mem_append_right _ h) (by decide +kernel))
set_option maxRecDepth 20000 in
theorem gL_law_L_move : GoodIn wsL_law (va_wsS RL 97 yL_move wsL_move) := goodIn_app (goodIn_of _ (by decide +kernel)) ggL_law_L_move
set_option maxRecDepth 20000 in
theorem ggL_law_X3_move : GoodIn wsL_law wsX3_move := goodIn_r _ [176, 116, 41, 35, 80, 40, 158, 159, 160, 5, 161, 117, 81, 82, 83, 177, 178, 179, 180, 491, 492, 493, 494, 495, 496, 497, 498, 499, 500, 501, 502, 503, 504, 505, 506, 507, 508, 509, 510, 511, 512, 513, 514] (by decide +kernel) (by decide +kernel)
set_option maxRecDepth 20000 in
theorem gL_law_X3_move : GoodIn wsL_law (wsV RL 100 RX3 yX3_move wsX3_move) := goodIn_app (goodIn_of _ (by decide +kernel)) ggL_law_X3_move
set_option maxRecDepth 20000 in
theorem ggL_law_X2_lines : GoodIn wsL_law wsX2_lines := goodIn_r _ [184, 21, 478, 479, 480, 481, 482, 483, 484, 485, 486, 487, 488, 489, 490] (by decide +kernel) (by decide +kernel)
set_option maxRecDepth 20000 in
theorem gL_law_X2_lines : GoodIn wsL_law (wsV RL 101 RX2 yX2_lines wsX2_lines) := goodIn_app (goodIn_of _ (by decide +kernel)) ggL_law_X2_lines
set_option maxRecDepth 20000 in
theorem ggL_law_X3_lines : GoodIn wsL_law wsX3_lines := goodIn_r _ [188, 80, 117, 491, 492, 493, 494, 495, 496, 497, 498, 499, 500, 501, 502, 503, 504, 505, 506, 507, 508, 509, 510, 511, 512, 513, 514] (by decide +kernel) (by decide +kernel)
set_option maxRecDepth 20000 in
theorem gL_law_X3_lines : GoodIn wsL_law (wsV RL 104 RX3 yX3_lines wsX3_lines) := goodIn_app (goodIn_of _ (by decide +kernel)) ggL_law_X3_lines
set_option maxRecDepth 20000 in
theorem ggL_law_L_room : GoodIn wsL_law wsL_room := goodIn_ca (goodIn_r _ [191, 121, 192, 193, 194, 2, 195, 127, 128, 129, 130, 131, 132, 20, 172, 145, 146, 97, 147, 108, 105, 106, 478, 479, 480, 481, 482, 483, 484, 485, 486, 487, 488, 489, 490, 515, 516, 517, 518, 519, 520, 521] (by decide +kernel) (by decide +kernel)) (goodIn_sub (fun _ h => List.mem_append_right _ h) (by decide +kernel))
set_option maxRecDepth 20000 in
theorem gL_law_L_room : GoodIn wsL_law (va_wsS RL 105 yL_room wsL_room) := goodIn_app (goodIn_of _ (by decide +kernel)) ggL_law_L_room
set_option maxRecDepth 20000 in
theorem ggL_law_X3_room : GoodIn wsL_law wsX3_room := goodIn_r _ [199, 80, 158, 159, 160, 5, 161, 117, 81, 82, 83, 177, 178, 179, 180, 35, 40, 41, 491, 492, 493, 494, 495, 496, 497, 498, 499, 500, 501, 502, 503, 504, 505, 506, 507, 508, 509, 510, 511, 512, 513, 514] (by decide +kernel) (by decide +kernel)
set_option maxRecDepth 20000 in
theorem gL_law_X3_room : GoodIn wsL_law (wsV RL 108 RX3 yX3_room wsX3_room) := goodIn_app (goodIn_of _ (by decide +kernel)) ggL_law_X3_room
set_option maxRecDepth 20000 in
theorem ggL_law_L_left : GoodIn wsL_law wsL_left := goodIn_ca (goodIn_r _ [202, 121, 203, 204, 205, 2, 206, 127, 128, 129, 130, 131, 132, 20, 172, 145, 146, 97, 147, 108, 105, 106, 207, 208, 209, 210, 107, 153, 142, 143, 478, 479, 480, 481, 482, 483, 484, 485, 486, 487, 488, 489, 490, 515, 516, 517, 518, 519, 520, 521, 522, 523, 524, 525, 526, 527] (by decide +kernel) (by decide +kernel)) (goodIn_sub (fun _ h => List.mem_append_right _ h) (by decide +kernel))
set_option maxRecDepth 20000 in
theorem gL_law_L_left : GoodIn wsL_law (va_wsS RL 109 yL_left wsL_left) := goodIn_app (goodIn_of _ (by decide +kernel)) ggL_law_L_left
set_option maxRecDepth 20000 in
theorem ggL_law_X3_left : GoodIn wsL_law wsX3_left := goodIn_r _ [214, 80, 49, 158, 159, 160, 5, 161, 117, 81, 82, 83, 215, 216, 217, 218, 219, 46, 42, 48, 44, 177, 178, 179, 180, 35, 40, 41, 220, 221, 222, 223, 45, 43, 36, 37, 491, 492, 493, 494, 495, 496, 497, 498, 499, 500, 501, 502, 503, 504, 505, 506, 507, 508, 509, 510, 511, 512, 513, 514] (by decide +kernel) (by decide +kernel)
set_option maxRecDepth 20000 in
theorem gL_law_X3_left : GoodIn wsL_law (wsV RL 111 RX3 yX3_left wsX3_left) := goodIn_app (goodIn_of _ (by decide +kernel)) ggL_law_X3_left
set_option maxRecDepth 20000 in
theorem ggL_law_L_spend : GoodIn wsL_law wsL_spend := goodIn_ca (goodIn_ca (goodIn_ca (goodIn_r _ [226, 121, 60, 61, 227, 228, 229, 2, 230, 66, 67, 95, 24, 23, 22, 231, 232, 127, 128, 129, 130, 131, 132, 20, 98, 99, 100, 69, 70, 71, 72, 73, 233, 234, 235, 236, 11, 12, 237, 238, 239, 240, 241, 242, 243, 244, 245, 97, 246, 107, 153, 143, 133, 134, 135, 136, 137, 138, 139, 140, 141, 142, 144, 145, 146, 147, 108, 105, 106, 148, 149, 150, 151, 152, 109, 110, 478, 479, 480, 481, 482, 483, 484, 485, 486, 487, 488, 489, 490, 522, 523, 524, 525, 526, 527, 515, 516, 517, 518, 519, 520, 521] (by decide +kernel) (by decide +kernel)) (goodIn_sub (fun _ h => List.mem_append_left _ (List.mem_append_left _ (List.mem_append_right _ h))) (by decide +kernel))) (goodIn_sub (fun _ h => List.mem_append_right _ h) (by decide +kernel))) (goodIn_sub (fun _ h => List.mem_append_left _ (List.mem_append_right _ h)) (by decide +kernel))
set_option maxRecDepth 20000 in
theorem gL_law_L_spend : GoodIn wsL_law (va_wsS RL 112 yL_spend wsL_spend) := goodIn_app (goodIn_of _ (by decide +kernel)) ggL_law_L_spend
set_option maxRecDepth 20000 in
theorem ggL_law_X3_spend : GoodIn wsL_law wsX3_spend := goodIn_r _ [250, 116, 219, 80, 42, 43, 44, 46, 158, 159, 160, 5, 161, 117, 81, 82, 83, 491, 492, 493, 494, 495, 496, 497, 498, 499, 500, 501, 502, 503, 504, 505, 506, 507, 508, 509, 510, 511, 512, 513, 514] (by decide +kernel) (by decide +kernel)
set_option maxRecDepth 20000 in
theorem gL_law_X3_spend : GoodIn wsL_law (wsV RL 114 RX3 yX3_spend wsX3_spend) := goodIn_app (goodIn_of _ (by decide +kernel)) ggL_law_X3_spend
set_option maxRecDepth 20000 in
theorem ggL_law_L_refuse : GoodIn wsL_law wsL_refuse := goodIn_ca (goodIn_ca (goodIn_r _ [253, 121, 61, 254, 255, 256, 2, 257, 66, 67, 258, 259, 260, 261, 262, 131, 132, 23, 263, 264, 265, 266, 207, 208, 209, 97, 210, 107, 153, 142, 143, 133, 134, 135, 136, 137, 138, 139, 140, 141, 144, 145, 146, 147, 108, 105, 106, 148, 149, 150, 151, 152, 109, 110, 522, 523, 524, 525, 526, 527, 478, 479, 480, 481, 482, 483, 484, 485, 486, 487, 488, 489, 490, 515, 516, 517, 518, 519, 520, 521] (by decide +kernel) (by decide +kernel)) (goodIn_sub (fun _ h => List.mem_append_left _ (List.mem_append_left _ (List.mem_append_right _ h))) (by decide +kernel))) (goodIn_sub (fun _ h => List.mem_append_right _ h) (by decide +kernel))
set_option maxRecDepth 20000 in
theorem gL_law_L_refuse : GoodIn wsL_law (va_wsS RL 115 yL_refuse wsL_refuse) := goodIn_app (goodIn_of _ (by decide +kernel)) ggL_law_L_refuse
set_option maxRecDepth 20000 in
theorem ggL_law_X3_refuse : GoodIn wsL_law wsX3_refuse := goodIn_r _ [270, 271, 272, 273, 5, 274, 45, 80, 275, 276, 277, 278, 219, 81, 82, 83, 279, 280, 281, 282, 48, 215, 216, 217, 218, 117, 49, 46, 42, 44, 177, 178, 179, 180, 35, 40, 41, 220, 221, 222, 223, 43, 36, 37, 491, 492, 493, 494, 495, 496, 497, 498, 499, 500, 501, 502, 503, 504, 505, 506, 507, 508, 509, 510, 511, 512, 513, 514] (by decide +kernel) (by decide +kernel)
set_option maxRecDepth 20000 in
theorem gL_law_X3_refuse : GoodIn wsL_law (wsV RL 117 RX3 yX3_refuse wsX3_refuse) := goodIn_app (goodIn_of _ (by decide +kernel)) ggL_law_X3_refuse
set_option maxRecDepth 20000 in
theorem ggL_law_L_admit : GoodIn wsL_law wsL_admit := goodIn_ca (goodIn_ca (goodIn_r _ [285, 121, 61, 286, 287, 288, 2, 289, 66, 67, 258, 259, 260, 261, 262, 131, 132, 23, 263, 264, 265, 266, 207, 208, 209, 97, 210, 107, 153, 142, 143, 133, 134, 135, 136, 137, 138, 139, 140, 141, 144, 145, 146, 147, 108, 105, 106, 148, 149, 150, 151, 152, 109, 110, 522, 523, 524, 525, 526, 527, 478, 479, 480, 481, 482, 483, 484, 485, 486, 487, 488, 489, 490, 515, 516, 517, 518, 519, 520, 521] (by decide +kernel) (by decide +kernel)) (goodIn_sub (fun _ h => List.mem_append_left _ (List.mem_append_left _ (List.mem_append_right _ h))) (by decide +kernel))) (goodIn_sub (fun _ h => List.mem_append_right _ h) (by decide +kernel))
set_option maxRecDepth 20000 in
theorem gL_law_L_admit : GoodIn wsL_law (va_wsS RL 118 yL_admit wsL_admit) := goodIn_app (goodIn_of _ (by decide +kernel)) ggL_law_L_admit
set_option maxRecDepth 20000 in
theorem ggL_law_X3_admit : GoodIn wsL_law wsX3_admit := goodIn_r _ [293, 271, 272, 273, 5, 274, 45, 80, 275, 276, 277, 278, 219, 81, 82, 83, 279, 280, 281, 282, 48, 215, 216, 217, 218, 117, 49, 46, 42, 44, 177, 178, 179, 180, 35, 40, 41, 220, 221, 222, 223, 43, 36, 37, 491, 492, 493, 494, 495, 496, 497, 498, 499, 500, 501, 502, 503, 504, 505, 506, 507, 508, 509, 510, 511, 512, 513, 514] (by decide +kernel) (by decide +kernel)
set_option maxRecDepth 20000 in
theorem gL_law_X3_admit : GoodIn wsL_law (wsV RL 120 RX3 yX3_admit wsX3_admit) := goodIn_app (goodIn_of _ (by decide +kernel)) ggL_law_X3_admit
set_option maxRecDepth 20000 in
theorem ggL_law_L_match : GoodIn wsL_law wsL_match := goodIn_ca (goodIn_ca (goodIn_r _ [296, 60, 61, 297, 298, 299, 2, 300, 66, 67, 95, 25, 68, 69, 70, 71, 72, 73, 478, 479, 480, 481, 482, 483, 484, 485, 486, 487, 488, 489, 490] (by decide +kernel) (by decide +kernel)) (goodIn_sub (fun _ h => List.mem_append_left _ (List.mem_append_left _ (List.mem_append_right _ h))) (by decide +kernel))) (goodIn_sub (fun _ h => List.mem_append_left _ (List.mem_append_right _ h)) (by decide +kernel))
set_option maxRecDepth 20000 in
theorem gL_law_L_match : GoodIn wsL_law (va_wsS RL 121 yL_match wsL_match) := goodIn_app (goodIn_of _ (by decide +kernel)) ggL_law_L_match
set_option maxRecDepth 20000 in
theorem ggL_law_X3_match : GoodIn wsL_law wsX3_match := goodIn_r _ [304, 116, 305, 78, 80, 81, 82, 5, 83, 491, 492, 493, 494, 495, 496, 497, 498, 499, 500, 501, 502, 503, 504, 505, 506, 507, 508, 509, 510, 511, 512, 513, 514] (by decide +kernel) (by decide +kernel)
set_option maxRecDepth 20000 in
theorem gL_law_X3_match : GoodIn wsL_law (wsV RL 123 RX3 yX3_match wsX3_match) := goodIn_app (goodIn_of _ (by decide +kernel)) ggL_law_X3_match
set_option maxRecDepth 20000 in
theorem ggL_law_X2_vouchers : GoodIn wsL_law wsX2_vouchers := goodIn_r _ [309, 24, 478, 479, 480, 481, 482, 483, 484, 485, 486, 487, 488, 489, 490] (by decide +kernel) (by decide +kernel)
set_option maxRecDepth 20000 in
theorem gL_law_X2_vouchers : GoodIn wsL_law (wsV RL 124 RX2 yX2_vouchers wsX2_vouchers) := goodIn_app (goodIn_of _ (by decide +kernel)) ggL_law_X2_vouchers
set_option maxRecDepth 20000 in
theorem ggL_law_X3_vouchers : GoodIn wsL_law wsX3_vouchers := goodIn_r _ [313, 80, 219, 491, 492, 493, 494, 495, 496, 497, 498, 499, 500, 501, 502, 503, 504, 505, 506, 507, 508, 509, 510, 511, 512, 513, 514] (by decide +kernel) (by decide +kernel)
set_option maxRecDepth 20000 in
theorem gL_law_X3_vouchers : GoodIn wsL_law (wsV RL 127 RX3 yX3_vouchers wsX3_vouchers) := goodIn_app (goodIn_of _ (by decide +kernel)) ggL_law_X3_vouchers
set_option maxRecDepth 20000 in
theorem ggL_law_L_fits : GoodIn wsL_law wsL_fits := goodIn_ca (goodIn_r _ [316, 121, 317, 318, 319, 2, 320, 266, 259, 260, 261, 262, 131, 132, 23, 321, 149, 150, 97, 151, 152, 153, 109, 110, 522, 523, 524, 525, 526, 527, 478, 479, 480, 481, 482, 483, 484, 485, 486, 487, 488, 489, 490, 515, 516, 517, 518, 519, 520, 521] (by decide +kernel) (by decide +kernel)) (goodIn_sub (fun _ h => List.mem_append_right _ h) (by decide +kernel))
set_option maxRecDepth 20000 in
theorem gL_law_L_fits : GoodIn wsL_law (va_wsS RL 128 yL_fits wsL_fits) := goodIn_app (goodIn_of _ (by decide +kernel)) ggL_law_L_fits
set_option maxRecDepth 20000 in
theorem ggL_law_X3_fits : GoodIn wsL_law wsX3_fits := goodIn_r _ [325, 80, 275, 276, 277, 5, 278, 219, 81, 82, 83, 220, 221, 222, 223, 42, 45, 43, 36, 37, 491, 492, 493, 494, 495, 496, 497, 498, 499, 500, 501, 502, 503, 504, 505, 506, 507, 508, 509, 510, 511, 512, 513, 514] (by decide +kernel) (by decide +kernel)
set_option maxRecDepth 20000 in
theorem gL_law_X3_fits : GoodIn wsL_law (wsV RL 130 RX3 yX3_fits wsX3_fits) := goodIn_app (goodIn_of _ (by decide +kernel)) ggL_law_X3_fits
set_option maxRecDepth 20000 in
theorem ggL_law_L_eligible : GoodIn wsL_law wsL_eligible := goodIn_ca (goodIn_r _ [328, 121, 329, 330, 331, 2, 332, 333, 259, 260, 261, 262, 131, 132, 23, 522, 523, 524, 525, 526, 527, 478, 479, 480, 481, 482, 483, 484, 485, 486, 487, 488, 489, 490] (by decide +kernel) (by decide +kernel)) (goodIn_sub (fun _ h => List.mem_append_right _ h) (by decide +kernel))
set_option maxRecDepth 20000 in
theorem gL_law_L_eligible : GoodIn wsL_law (va_wsS RL 131 yL_eligible wsL_eligible) := goodIn_app (goodIn_of _ (by decide +kernel)) ggL_law_L_eligible
set_option maxRecDepth 20000 in
theorem ggL_law_X3_eligible : GoodIn wsL_law wsX3_eligible := goodIn_r _ [337, 80, 48, 275, 276, 277, 5, 278, 219, 81, 82, 83, 215, 216, 217, 218, 117, 49, 46, 42, 44, 177, 178, 179, 180, 35, 40, 41, 220, 221, 222, 223, 45, 43, 36, 37, 491, 492, 493, 494, 495, 496, 497, 498, 499, 500, 501, 502, 503, 504, 505, 506, 507, 508, 509, 510, 511, 512, 513, 514] (by decide +kernel) (by decide +kernel)
set_option maxRecDepth 20000 in
theorem gL_law_X3_eligible : GoodIn wsL_law (wsV RL 133 RX3 yX3_eligible wsX3_eligible) := goodIn_app (goodIn_of _ (by decide +kernel)) ggL_law_X3_eligible
set_option maxRecDepth 20000 in
theorem ggL_law_L_costs : GoodIn wsL_law wsL_costs := goodIn_ca (goodIn_r _ [340, 60, 341, 342, 343, 2, 344, 98, 99, 100, 69, 70, 71, 72, 73, 345, 346, 347, 348, 349, 350, 351, 352, 20, 353, 207, 208, 209, 97, 210, 107, 153, 142, 143, 478, 479, 480, 481, 482, 483, 484, 485, 486, 487, 488, 489, 490, 515, 516, 517, 518, 519, 520, 521, 522, 523, 524, 525, 526, 527] (by decide +kernel) (by decide +kernel)) (goodIn_sub (fun _ h => List.mem_append_left _ (List.mem_append_right _ h)) (by decide +kernel))
set_option maxRecDepth 20000 in
theorem gL_law_L_costs : GoodIn wsL_law (va_wsS RL 134 yL_costs wsL_costs) := goodIn_app (goodIn_of _ (by decide +kernel)) ggL_law_L_costs
set_option maxRecDepth 20000 in
theorem ggL_law_X3_costs : GoodIn wsL_law wsX3_costs := goodIn_r _ [357, 358, 359, 360, 5, 361, 80, 81, 82, 83, 362, 363, 364, 365, 219, 43, 39, 42, 48, 215, 216, 217, 218, 117, 49, 46, 44, 177, 178, 179, 180, 35, 40, 41, 220, 221, 222, 223, 45, 36, 37, 491, 492, 493, 494, 495, 496, 497, 498, 499, 500, 501, 502, 503, 504, 505, 506, 507, 508, 509, 510, 511, 512, 513, 514] (by decide +kernel) (by decide +kernel)
set_option maxRecDepth 20000 in
theorem gL_law_X3_costs : GoodIn wsL_law (wsV RL 136 RX3 yX3_costs wsX3_costs) := goodIn_app (goodIn_of _ (by decide +kernel)) ggL_law_X3_costs
set_option maxRecDepth 20000 in
theorem ggL_law_L_overhead : GoodIn wsL_law wsL_overhead := goodIn_ca (goodIn_r _ [368, 60, 369, 370, 371, 2, 372, 98, 99, 100, 69, 70, 71, 72, 73, 373, 374, 375, 376, 16, 377, 18, 378, 379, 140, 380, 349, 350, 351, 352, 20, 353, 207, 208, 209, 97, 210, 107, 153, 142, 143, 478, 479, 480, 481, 482, 483, 484, 485, 486, 487, 488, 489, 490, 515, 516, 517, 518, 519, 520, 521, 522, 523, 524, 525, 526, 527] (by decide +kernel) (by decide +kernel)) (goodIn_sub (fun _ h => List.mem_append_left _ (List.mem_append_right _ h)) (by decide +kernel))
set_option maxRecDepth 20000 in
theorem gL_law_L_overhead : GoodIn wsL_law (va_wsS RL 137 yL_overhead wsL_overhead) := goodIn_app (goodIn_of _ (by decide +kernel)) ggL_law_L_overhead
set_option maxRecDepth 20000 in
theorem ggL_law_X3_overhead : GoodIn wsL_law wsX3_overhead := goodIn_r _ [384, 358, 359, 360, 5, 361, 80, 81, 82, 83, 385, 386, 387, 388, 53, 389, 55, 362, 363, 364, 365, 219, 43, 39, 42, 48, 215, 216, 217, 218, 117, 49, 46, 44, 177, 178, 179, 180, 35, 40, 41, 220, 221, 222, 223, 45, 36, 37, 491, 492, 493, 494, 495, 496, 497, 498, 499, 500, 501, 502, 503, 504, 505, 506, 507, 508, 509, 510, 511, 512, 513, 514] (by decide +kernel) (by decide +kernel)
set_option maxRecDepth 20000 in
theorem gL_law_X3_overhead : GoodIn wsL_law (wsV RL 139 RX3 yX3_overhead wsX3_overhead) := goodIn_app (goodIn_of _ (by decide +kernel)) ggL_law_X3_overhead
set_option maxRecDepth 20000 in
theorem ggL_law_L_earned : GoodIn wsL_law wsL_earned := goodIn_ca (goodIn_r _ [392, 60, 393, 394, 395, 2, 396, 98, 99, 100, 69, 70, 71, 72, 73, 397, 398, 399, 400, 15, 25, 378, 379, 140, 380, 401, 402, 403, 404, 377, 14, 345, 346, 347, 348, 349, 350, 351, 352, 20, 353, 207, 208, 209, 97, 210, 107, 153, 142, 143, 373, 374, 375, 376, 16, 18, 478, 479, 480, 481, 482, 483, 484, 485, 486, 487, 488, 489, 490, 515, 516, 517, 518, 519, 520, 521, 522, 523, 524, 525, 526, 527] (by decide +kernel) (by decide +kernel)) (goodIn_sub (fun _ h => List.mem_append_left _ (List.mem_append_right _ h)) (by decide +kernel))
set_option maxRecDepth 20000 in
theorem gL_law_L_earned : GoodIn wsL_law (va_wsS RL 140 yL_earned wsL_earned) := goodIn_app (goodIn_of _ (by decide +kernel)) ggL_law_L_earned
set_option maxRecDepth 20000 in
theorem ggL_law_X3_earned : GoodIn wsL_law wsX3_earned := goodIn_r _ [408, 358, 359, 360, 5, 361, 80, 81, 82, 83, 409, 410, 411, 412, 52, 305, 413, 414, 415, 416, 389, 51, 362, 363, 364, 365, 219, 43, 39, 42, 48, 215, 216, 217, 218, 117, 49, 46, 44, 177, 178, 179, 180, 35, 40, 41, 220, 221, 222, 223, 45, 36, 37, 385, 386, 387, 388, 53, 55, 491, 492, 493, 494, 495, 496, 497, 498, 499, 500, 501, 502, 503, 504, 505, 506, 507, 508, 509, 510, 511, 512, 513, 514] (by decide +kernel) (by decide +kernel)
set_option maxRecDepth 20000 in
theorem gL_law_X3_earned : GoodIn wsL_law (wsV RL 142 RX3 yX3_earned wsX3_earned) := goodIn_app (goodIn_of _ (by decide +kernel)) ggL_law_X3_earned
set_option maxRecDepth 20000 in
theorem ggL_law_L_missingMatch : GoodIn wsL_law wsL_missingMatch := goodIn_ca (goodIn_r _ [419, 60, 420, 421, 422, 2, 423, 25, 424, 425, 140, 426, 98, 99, 100, 69, 70, 71, 72, 73, 401, 402, 403, 404, 15, 377, 14, 378, 379, 380, 345, 346, 347, 348, 349, 350, 351, 352, 20, 353, 207, 208, 209, 97, 210, 107, 153, 142, 143, 373, 374, 375, 376, 16, 18, 427, 428, 429, 430, 478, 479, 480, 481, 482, 483, 484, 485, 486, 487, 488, 489, 490, 515, 516, 517, 518, 519, 520, 521, 522, 523, 524, 525, 526, 527] (by decide +kernel) (by decide +kernel)) (goodIn_sub (fun _ h => List.mem_append_left _ (List.mem_append_right _ h)) (by decide +kernel))
set_option maxRecDepth 20000 in
theorem gL_law_L_missingMatch : GoodIn wsL_law (va_wsS RL 143 yL_missingMatch wsL_missingMatch) := goodIn_app (goodIn_of _ (by decide +kernel)) ggL_law_L_missingMatch
set_option maxRecDepth 20000 in
theorem ggL_law_X3_missingMatch : GoodIn wsL_law wsX3_missingMatch := goodIn_r _ [434, 52, 305, 358, 359, 360, 5, 361, 80, 81, 82, 83, 413, 414, 415, 416, 389, 51, 362, 363, 364, 365, 219, 43, 39, 42, 48, 215, 216, 217, 218, 117, 49, 46, 44, 177, 178, 179, 180, 35, 40, 41, 220, 221, 222, 223, 45, 36, 37, 385, 386, 387, 388, 53, 55, 491, 492, 493, 494, 495, 496, 497, 498, 499, 500, 501, 502, 503, 504, 505, 506, 507, 508, 509, 510, 511, 512, 513, 514] (by decide +kernel) (by decide +kernel)
set_option maxRecDepth 20000 in
theorem gL_law_X3_missingMatch : GoodIn wsL_law (wsV RL 145 RX3 yX3_missingMatch wsX3_missingMatch) := goodIn_app (goodIn_of _ (by decide +kernel)) ggL_law_X3_missingMatch
set_option maxRecDepth 20000 in
theorem ggL_law_L_claim : GoodIn wsL_law wsL_claim := goodIn_ca (goodIn_ca (goodIn_r _ [437, 60, 61, 438, 439, 440, 2, 441, 66, 67, 29, 28, 27, 30, 69, 70, 71, 72, 73, 397, 398, 399, 400, 15, 25, 378, 379, 140, 380, 401, 402, 403, 404, 377, 14, 345, 346, 347, 348, 349, 350, 351, 352, 20, 353, 207, 208, 209, 97, 210, 107, 153, 142, 143, 373, 374, 375, 376, 16, 18, 478, 479, 480, 481, 482, 483, 484, 485, 486, 487, 488, 489, 490, 515, 516, 517, 518, 519, 520, 521, 522, 523, 524, 525, 526, 527] (by decide +kernel) (by decide +kernel)) (goodIn_sub (fun _ h => List.mem_append_left _ (List.mem_append_left _ (List.mem_append_right _ h))) (by decide +kernel))) (goodIn_sub (fun _ h => List.mem_append_left _ (List.mem_append_right _ h)) (by decide +kernel))
set_option maxRecDepth 20000 in
theorem gL_law_L_claim : GoodIn wsL_law (va_wsS RL 146 yL_claim wsL_claim) := goodIn_app (goodIn_of _ (by decide +kernel)) ggL_law_L_claim
set_option maxRecDepth 20000 in
theorem ggL_law_X3_claim : GoodIn wsL_law wsX3_claim := goodIn_r _ [445, 446, 79, 80, 47, 81, 82, 5, 83, 409, 410, 411, 412, 52, 305, 413, 414, 415, 416, 389, 51, 362, 363, 364, 365, 219, 43, 39, 42, 48, 215, 216, 217, 218, 117, 49, 46, 44, 177, 178, 179, 180, 35, 40, 41, 220, 221, 222, 223, 45, 36, 37, 385, 386, 387, 388, 53, 55, 447, 448, 449, 450, 491, 492, 493, 494, 495, 496, 497, 498, 499, 500, 501, 502, 503, 504, 505, 506, 507, 508, 509, 510, 511, 512, 513, 514] (by decide +kernel) (by decide +kernel)
set_option maxRecDepth 20000 in
theorem gL_law_X3_claim : GoodIn wsL_law (wsV RL 148 RX3 yX3_claim wsX3_claim) := goodIn_app (goodIn_of _ (by decide +kernel)) ggL_law_X3_claim
set_option maxRecDepth 20000 in
theorem ggL_law_X2_claims : GoodIn wsL_law wsX2_claims := goodIn_r _ [454, 28, 478, 479, 480, 481, 482, 483, 484, 485, 486, 487, 488, 489, 490] (by decide +kernel) (by decide +kernel)
set_option maxRecDepth 20000 in
theorem gL_law_X2_claims : GoodIn wsL_law (wsV RL 149 RX2 yX2_claims wsX2_claims) := goodIn_app (goodIn_of _ (by decide +kernel)) ggL_law_X2_claims
set_option maxRecDepth 20000 in
theorem ggL_law_X3_claims : GoodIn wsL_law wsX3_claims := goodIn_r _ [458, 80, 79, 491, 492, 493, 494, 495, 496, 497, 498, 499, 500, 501, 502, 503, 504, 505, 506, 507, 508, 509, 510, 511, 512, 513, 514] (by decide +kernel) (by decide +kernel)
set_option maxRecDepth 20000 in
theorem gL_law_X3_claims : GoodIn wsL_law (wsV RL 152 RX3 yX3_claims wsX3_claims) := goodIn_app (goodIn_of _ (by decide +kernel)) ggL_law_X3_claims
set_option maxRecDepth 20000 in
theorem ggL_law_L_paid : GoodIn wsL_law wsL_paid := goodIn_ca (goodIn_r _ [461, 121, 462, 463, 464, 2, 465, 131, 132, 28, 27, 478, 479, 480, 481, 482, 483, 484, 485, 486, 487, 488, 489, 490] (by decide +kernel) (by decide +kernel)) (goodIn_sub (fun _ h => List.mem_append_right _ h) (by decide +kernel))
set_option maxRecDepth 20000 in
theorem gL_law_L_paid : GoodIn wsL_law (va_wsS RL 153 yL_paid wsL_paid) := goodIn_app (goodIn_of _ (by decide +kernel)) ggL_law_L_paid
set_option maxRecDepth 20000 in
theorem ggL_law_X3_paid : GoodIn wsL_law wsX3_paid := goodIn_r _ [469, 79, 80, 47, 81, 82, 5, 83, 491, 492, 493, 494, 495, 496, 497, 498, 499, 500, 501, 502, 503, 504, 505, 506, 507, 508, 509, 510, 511, 512, 513, 514] (by decide +kernel) (by decide +kernel)
set_option maxRecDepth 20000 in
theorem gL_law_X3_paid : GoodIn wsL_law (wsV RL 155 RX3 yX3_paid wsX3_paid) := goodIn_app (goodIn_of _ (by decide +kernel)) ggL_law_X3_paid
set_option maxRecDepth 20000 in
theorem ggL_law_X2_unsettled : GoodIn wsL_law wsX2_unsettled := goodIn_r _ [473, 28, 29, 30, 397, 398, 399, 2, 400, 15, 25, 378, 379, 140, 380, 401, 402, 403, 404, 377, 14, 345, 346, 347, 348, 349, 350, 351, 352, 20, 353, 207, 208, 209, 97, 210, 107, 153, 142, 143, 373, 374, 375, 376, 16, 18, 478, 479, 480, 481, 482, 483, 484, 485, 486, 487, 488, 489, 490, 515, 516, 517, 518, 519, 520, 521, 522, 523, 524, 525, 526, 527] (by decide +kernel) (by decide +kernel)
set_option maxRecDepth 20000 in
theorem gL_law_X2_unsettled : GoodIn wsL_law (wsV RL 156 RX2 yX2_unsettled wsX2_unsettled) := goodIn_app (goodIn_of _ (by decide +kernel)) ggL_law_X2_unsettled
set_option maxRecDepth 20000 in
theorem ggL_law_X3_unsettled : GoodIn wsL_law wsX3_unsettled := goodIn_r _ [477, 80, 79, 446, 409, 410, 411, 5, 412, 52, 305, 413, 414, 415, 416, 389, 51, 362, 363, 364, 365, 219, 43, 39, 42, 48, 215, 216, 217, 218, 117, 49, 46, 44, 177, 178, 179, 180, 35, 40, 41, 220, 221, 222, 223, 45, 36, 37, 81, 82, 83, 385, 386, 387, 388, 53, 55, 447, 448, 449, 450, 47, 491, 492, 493, 494, 495, 496, 497, 498, 499, 500, 501, 502, 503, 504, 505, 506, 507, 508, 509, 510, 511, 512, 513, 514] (by decide +kernel) (by decide +kernel)
set_option maxRecDepth 20000 in
theorem gL_law_X3_unsettled : GoodIn wsL_law (wsV RL 159 RX3 yX3_unsettled wsX3_unsettled) := goodIn_app (goodIn_of _ (by decide +kernel)) ggL_law_X3_unsettled
theorem dL_law_0 : decode cL_law 0 = .ok (.new 8, 3) := by decide +kernel
theorem dL_law_3 : decode cL_law 3 = .ok (.dup, 1) := by decide +kernel
theorem dL_law_4 : decode cL_law 4 = .ok (.invokespecial 75, 3) := by decide +kernel
theorem dL_law_7 : decode cL_law 7 = .ok (.astore_n 1, 1) := by decide +kernel
theorem dL_law_8 : decode cL_law 8 = .ok (.new 76, 3) := by decide +kernel
theorem dL_law_11 : decode cL_law 11 = .ok (.dup, 1) := by decide +kernel
theorem dL_law_12 : decode cL_law 12 = .ok (.invokespecial 78, 3) := by decide +kernel
theorem dL_law_15 : decode cL_law 15 = .ok (.astore_n 2, 1) := by decide +kernel
theorem dL_law_16 : decode cL_law 16 = .ok (.iconst 1, 1) := by decide +kernel
theorem dL_law_17 : decode cL_law 17 = .ok (.newarray .long, 2) := by decide +kernel
theorem dL_law_19 : decode cL_law 19 = .ok (.astore_n 3, 1) := by decide +kernel
theorem dL_law_20 : decode cL_law 20 = .ok (.iconst 0, 1) := by decide +kernel
theorem dL_law_21 : decode cL_law 21 = .ok (.istore 4, 2) := by decide +kernel
theorem dL_law_23 : decode cL_law 23 = .ok (.iload 4, 2) := by decide +kernel
theorem dL_law_25 : decode cL_law 25 = .ok (.aload_n 0, 1) := by decide +kernel
theorem dL_law_26 : decode cL_law 26 = .ok (.arraylength, 1) := by decide +kernel
theorem dL_law_27 : decode cL_law 27 = .ok (.iconst 5, 1) := by decide +kernel
theorem dL_law_28 : decode cL_law 28 = .ok (.isub, 1) := by decide +kernel
theorem dL_law_29 : decode cL_law 29 = .ok (.if_icmp .gt 1312, 3) := by decide +kernel
theorem dL_law_32 : decode cL_law 32 = .ok (.aload_n 0, 1) := by decide +kernel
theorem dL_law_33 : decode cL_law 33 = .ok (.iload 4, 2) := by decide +kernel
theorem dL_law_35 : decode cL_law 35 = .ok (.iaload, 1) := by decide +kernel
theorem dL_law_36 : decode cL_law 36 = .ok (.bipush 31, 2) := by decide +kernel
theorem dL_law_38 : decode cL_law 38 = .ok (.iand, 1) := by decide +kernel
theorem dL_law_39 : decode cL_law 39 = .ok (.tableswitch 1296 0 21 #[101, 173, 281, 349, 429, 442, 498, 554, 634, 690, 746, 802, 815, 878, 934, 990, 1046, 1102, 1158, 1214, 1227, 1283], 101) := by decide +kernel
theorem dL_law_140 : decode cL_law 140 = .ok (.aload_n 1, 1) := by decide +kernel
theorem dL_law_141 : decode cL_law 141 = .ok (.aload_n 0, 1) := by decide +kernel
theorem dL_law_142 : decode cL_law 142 = .ok (.iload 4, 2) := by decide +kernel
theorem dL_law_144 : decode cL_law 144 = .ok (.iconst 1, 1) := by decide +kernel
theorem dL_law_145 : decode cL_law 145 = .ok (.iadd, 1) := by decide +kernel
theorem dL_law_146 : decode cL_law 146 = .ok (.iaload, 1) := by decide +kernel
theorem dL_law_147 : decode cL_law 147 = .ok (.aload_n 0, 1) := by decide +kernel
theorem dL_law_148 : decode cL_law 148 = .ok (.iload 4, 2) := by decide +kernel
theorem dL_law_150 : decode cL_law 150 = .ok (.iconst 2, 1) := by decide +kernel
theorem dL_law_151 : decode cL_law 151 = .ok (.iadd, 1) := by decide +kernel
theorem dL_law_152 : decode cL_law 152 = .ok (.iaload, 1) := by decide +kernel
theorem dL_law_153 : decode cL_law 153 = .ok (.aload_n 0, 1) := by decide +kernel
theorem dL_law_154 : decode cL_law 154 = .ok (.iload 4, 2) := by decide +kernel
theorem dL_law_156 : decode cL_law 156 = .ok (.iconst 3, 1) := by decide +kernel
theorem dL_law_157 : decode cL_law 157 = .ok (.iadd, 1) := by decide +kernel
theorem dL_law_158 : decode cL_law 158 = .ok (.iaload, 1) := by decide +kernel
theorem dL_law_159 : decode cL_law 159 = .ok (.aload_n 0, 1) := by decide +kernel
theorem dL_law_160 : decode cL_law 160 = .ok (.iload 4, 2) := by decide +kernel
theorem dL_law_162 : decode cL_law 162 = .ok (.iconst 4, 1) := by decide +kernel
theorem dL_law_163 : decode cL_law 163 = .ok (.iadd, 1) := by decide +kernel
theorem dL_law_164 : decode cL_law 164 = .ok (.iaload, 1) := by decide +kernel
theorem dL_law_165 : decode cL_law 165 = .ok (.invokestatic 79, 3) := by decide +kernel
theorem dL_law_168 : decode cL_law 168 = .ok (.istore 5, 2) := by decide +kernel
theorem dL_law_170 : decode cL_law 170 = .ok (.aload_n 2, 1) := by decide +kernel
theorem dL_law_171 : decode cL_law 171 = .ok (.aload_n 0, 1) := by decide +kernel
theorem dL_law_172 : decode cL_law 172 = .ok (.iload 4, 2) := by decide +kernel
theorem dL_law_174 : decode cL_law 174 = .ok (.iconst 1, 1) := by decide +kernel
theorem dL_law_175 : decode cL_law 175 = .ok (.iadd, 1) := by decide +kernel
theorem dL_law_176 : decode cL_law 176 = .ok (.iaload, 1) := by decide +kernel
theorem dL_law_177 : decode cL_law 177 = .ok (.aload_n 0, 1) := by decide +kernel
theorem dL_law_178 : decode cL_law 178 = .ok (.iload 4, 2) := by decide +kernel
theorem dL_law_180 : decode cL_law 180 = .ok (.iconst 2, 1) := by decide +kernel
theorem dL_law_181 : decode cL_law 181 = .ok (.iadd, 1) := by decide +kernel
theorem dL_law_182 : decode cL_law 182 = .ok (.iaload, 1) := by decide +kernel
theorem dL_law_183 : decode cL_law 183 = .ok (.aload_n 0, 1) := by decide +kernel
theorem dL_law_184 : decode cL_law 184 = .ok (.iload 4, 2) := by decide +kernel
theorem dL_law_186 : decode cL_law 186 = .ok (.iconst 3, 1) := by decide +kernel
theorem dL_law_187 : decode cL_law 187 = .ok (.iadd, 1) := by decide +kernel
theorem dL_law_188 : decode cL_law 188 = .ok (.iaload, 1) := by decide +kernel
theorem dL_law_189 : decode cL_law 189 = .ok (.aload_n 0, 1) := by decide +kernel
theorem dL_law_190 : decode cL_law 190 = .ok (.iload 4, 2) := by decide +kernel
theorem dL_law_192 : decode cL_law 192 = .ok (.iconst 4, 1) := by decide +kernel
theorem dL_law_193 : decode cL_law 193 = .ok (.iadd, 1) := by decide +kernel
theorem dL_law_194 : decode cL_law 194 = .ok (.iaload, 1) := by decide +kernel
theorem dL_law_195 : decode cL_law 195 = .ok (.invokevirtual 84, 3) := by decide +kernel
theorem dL_law_198 : decode cL_law 198 = .ok (.aload_n 2, 1) := by decide +kernel
theorem dL_law_199 : decode cL_law 199 = .ok (.invokevirtual 85, 3) := by decide +kernel
theorem dL_law_202 : decode cL_law 202 = .ok (.iload 5, 2) := by decide +kernel
theorem dL_law_204 : decode cL_law 204 = .ok (.if_icmp .eq 5, 3) := by decide +kernel
theorem dL_law_207 : decode cL_law 207 = .ok (.iconst 0, 1) := by decide +kernel
theorem dL_law_208 : decode cL_law 208 = .ok (.ireturn, 1) := by decide +kernel
theorem dL_law_209 : decode cL_law 209 = .ok (.goto 1126, 3) := by decide +kernel
theorem dL_law_212 : decode cL_law 212 = .ok (.aload_n 1, 1) := by decide +kernel
theorem dL_law_213 : decode cL_law 213 = .ok (.aload_n 0, 1) := by decide +kernel
theorem dL_law_214 : decode cL_law 214 = .ok (.iload 4, 2) := by decide +kernel
theorem dL_law_216 : decode cL_law 216 = .ok (.iconst 1, 1) := by decide +kernel
theorem dL_law_217 : decode cL_law 217 = .ok (.iadd, 1) := by decide +kernel
theorem dL_law_218 : decode cL_law 218 = .ok (.iaload, 1) := by decide +kernel
theorem dL_law_219 : decode cL_law 219 = .ok (.aload_n 0, 1) := by decide +kernel
theorem dL_law_220 : decode cL_law 220 = .ok (.iload 4, 2) := by decide +kernel
theorem dL_law_222 : decode cL_law 222 = .ok (.iconst 2, 1) := by decide +kernel
theorem dL_law_223 : decode cL_law 223 = .ok (.iadd, 1) := by decide +kernel
theorem dL_law_224 : decode cL_law 224 = .ok (.iaload, 1) := by decide +kernel
theorem dL_law_225 : decode cL_law 225 = .ok (.aload_n 0, 1) := by decide +kernel
theorem dL_law_226 : decode cL_law 226 = .ok (.iload 4, 2) := by decide +kernel
theorem dL_law_228 : decode cL_law 228 = .ok (.iconst 3, 1) := by decide +kernel
theorem dL_law_229 : decode cL_law 229 = .ok (.iadd, 1) := by decide +kernel
theorem dL_law_230 : decode cL_law 230 = .ok (.iaload, 1) := by decide +kernel
theorem dL_law_231 : decode cL_law 231 = .ok (.aload_n 0, 1) := by decide +kernel
theorem dL_law_232 : decode cL_law 232 = .ok (.iload 4, 2) := by decide +kernel
theorem dL_law_234 : decode cL_law 234 = .ok (.iconst 4, 1) := by decide +kernel
theorem dL_law_235 : decode cL_law 235 = .ok (.iadd, 1) := by decide +kernel
theorem dL_law_236 : decode cL_law 236 = .ok (.iaload, 1) := by decide +kernel
theorem dL_law_237 : decode cL_law 237 = .ok (.ifCond .eq 7, 3) := by decide +kernel
theorem dL_law_240 : decode cL_law 240 = .ok (.iconst 1, 1) := by decide +kernel
theorem dL_law_241 : decode cL_law 241 = .ok (.goto 4, 3) := by decide +kernel
theorem dL_law_244 : decode cL_law 244 = .ok (.iconst 0, 1) := by decide +kernel
theorem dL_law_245 : decode cL_law 245 = .ok (.aload_n 3, 1) := by decide +kernel
theorem dL_law_246 : decode cL_law 246 = .ok (.invokestatic 89, 3) := by decide +kernel
theorem dL_law_249 : decode cL_law 249 = .ok (.istore 5, 2) := by decide +kernel
theorem dL_law_251 : decode cL_law 251 = .ok (.aload_n 2, 1) := by decide +kernel
theorem dL_law_252 : decode cL_law 252 = .ok (.aload_n 0, 1) := by decide +kernel
theorem dL_law_253 : decode cL_law 253 = .ok (.iload 4, 2) := by decide +kernel
theorem dL_law_255 : decode cL_law 255 = .ok (.iconst 1, 1) := by decide +kernel
theorem dL_law_256 : decode cL_law 256 = .ok (.iadd, 1) := by decide +kernel
theorem dL_law_257 : decode cL_law 257 = .ok (.iaload, 1) := by decide +kernel
theorem dL_law_258 : decode cL_law 258 = .ok (.aload_n 0, 1) := by decide +kernel
theorem dL_law_259 : decode cL_law 259 = .ok (.iload 4, 2) := by decide +kernel
theorem dL_law_261 : decode cL_law 261 = .ok (.iconst 2, 1) := by decide +kernel
theorem dL_law_262 : decode cL_law 262 = .ok (.iadd, 1) := by decide +kernel
theorem dL_law_263 : decode cL_law 263 = .ok (.iaload, 1) := by decide +kernel
theorem dL_law_264 : decode cL_law 264 = .ok (.aload_n 0, 1) := by decide +kernel
theorem dL_law_265 : decode cL_law 265 = .ok (.iload 4, 2) := by decide +kernel
theorem dL_law_267 : decode cL_law 267 = .ok (.iconst 3, 1) := by decide +kernel
theorem dL_law_268 : decode cL_law 268 = .ok (.iadd, 1) := by decide +kernel
theorem dL_law_269 : decode cL_law 269 = .ok (.iaload, 1) := by decide +kernel
theorem dL_law_270 : decode cL_law 270 = .ok (.aload_n 0, 1) := by decide +kernel
theorem dL_law_271 : decode cL_law 271 = .ok (.iload 4, 2) := by decide +kernel
theorem dL_law_273 : decode cL_law 273 = .ok (.iconst 4, 1) := by decide +kernel
theorem dL_law_274 : decode cL_law 274 = .ok (.iadd, 1) := by decide +kernel
theorem dL_law_275 : decode cL_law 275 = .ok (.iaload, 1) := by decide +kernel
theorem dL_law_276 : decode cL_law 276 = .ok (.ifCond .eq 7, 3) := by decide +kernel
theorem dL_law_279 : decode cL_law 279 = .ok (.iconst 1, 1) := by decide +kernel
theorem dL_law_280 : decode cL_law 280 = .ok (.goto 4, 3) := by decide +kernel
theorem dL_law_283 : decode cL_law 283 = .ok (.iconst 0, 1) := by decide +kernel
theorem dL_law_284 : decode cL_law 284 = .ok (.invokevirtual 92, 3) := by decide +kernel
theorem dL_law_287 : decode cL_law 287 = .ok (.istore 6, 2) := by decide +kernel
theorem dL_law_289 : decode cL_law 289 = .ok (.aload_n 2, 1) := by decide +kernel
theorem dL_law_290 : decode cL_law 290 = .ok (.invokevirtual 85, 3) := by decide +kernel
theorem dL_law_293 : decode cL_law 293 = .ok (.iload 5, 2) := by decide +kernel
theorem dL_law_295 : decode cL_law 295 = .ok (.if_icmp .eq 5, 3) := by decide +kernel
theorem dL_law_298 : decode cL_law 298 = .ok (.iconst 0, 1) := by decide +kernel
theorem dL_law_299 : decode cL_law 299 = .ok (.ireturn, 1) := by decide +kernel
theorem dL_law_300 : decode cL_law 300 = .ok (.iload 5, 2) := by decide +kernel
theorem dL_law_302 : decode cL_law 302 = .ok (.ifCond .ne 15, 3) := by decide +kernel
theorem dL_law_305 : decode cL_law 305 = .ok (.aload_n 3, 1) := by decide +kernel
theorem dL_law_306 : decode cL_law 306 = .ok (.iconst 0, 1) := by decide +kernel
theorem dL_law_307 : decode cL_law 307 = .ok (.laload, 1) := by decide +kernel
theorem dL_law_308 : decode cL_law 308 = .ok (.iload 6, 2) := by decide +kernel
theorem dL_law_310 : decode cL_law 310 = .ok (.i2l, 1) := by decide +kernel
theorem dL_law_311 : decode cL_law 311 = .ok (.lcmp, 1) := by decide +kernel
theorem dL_law_312 : decode cL_law 312 = .ok (.ifCond .eq 5, 3) := by decide +kernel
theorem dL_law_315 : decode cL_law 315 = .ok (.iconst 0, 1) := by decide +kernel
theorem dL_law_316 : decode cL_law 316 = .ok (.ireturn, 1) := by decide +kernel
theorem dL_law_317 : decode cL_law 317 = .ok (.goto 1018, 3) := by decide +kernel
theorem dL_law_320 : decode cL_law 320 = .ok (.aload_n 1, 1) := by decide +kernel
theorem dL_law_321 : decode cL_law 321 = .ok (.aload_n 0, 1) := by decide +kernel
theorem dL_law_322 : decode cL_law 322 = .ok (.iload 4, 2) := by decide +kernel
theorem dL_law_324 : decode cL_law 324 = .ok (.iconst 1, 1) := by decide +kernel
theorem dL_law_325 : decode cL_law 325 = .ok (.iadd, 1) := by decide +kernel
theorem dL_law_326 : decode cL_law 326 = .ok (.iaload, 1) := by decide +kernel
theorem dL_law_327 : decode cL_law 327 = .ok (.aload_n 0, 1) := by decide +kernel
theorem dL_law_328 : decode cL_law 328 = .ok (.iload 4, 2) := by decide +kernel
theorem dL_law_330 : decode cL_law 330 = .ok (.iconst 2, 1) := by decide +kernel
theorem dL_law_331 : decode cL_law 331 = .ok (.iadd, 1) := by decide +kernel
theorem dL_law_332 : decode cL_law 332 = .ok (.iaload, 1) := by decide +kernel
theorem dL_law_333 : decode cL_law 333 = .ok (.aload_n 3, 1) := by decide +kernel
theorem dL_law_334 : decode cL_law 334 = .ok (.invokestatic 93, 3) := by decide +kernel
theorem dL_law_337 : decode cL_law 337 = .ok (.istore 5, 2) := by decide +kernel
theorem dL_law_339 : decode cL_law 339 = .ok (.aload_n 2, 1) := by decide +kernel
theorem dL_law_340 : decode cL_law 340 = .ok (.aload_n 0, 1) := by decide +kernel
theorem dL_law_341 : decode cL_law 341 = .ok (.iload 4, 2) := by decide +kernel
theorem dL_law_343 : decode cL_law 343 = .ok (.iconst 1, 1) := by decide +kernel
theorem dL_law_344 : decode cL_law 344 = .ok (.iadd, 1) := by decide +kernel
theorem dL_law_345 : decode cL_law 345 = .ok (.iaload, 1) := by decide +kernel
theorem dL_law_346 : decode cL_law 346 = .ok (.aload_n 0, 1) := by decide +kernel
theorem dL_law_347 : decode cL_law 347 = .ok (.iload 4, 2) := by decide +kernel
theorem dL_law_349 : decode cL_law 349 = .ok (.iconst 2, 1) := by decide +kernel
theorem dL_law_350 : decode cL_law 350 = .ok (.iadd, 1) := by decide +kernel
theorem dL_law_351 : decode cL_law 351 = .ok (.iaload, 1) := by decide +kernel
theorem dL_law_352 : decode cL_law 352 = .ok (.invokevirtual 96, 3) := by decide +kernel
theorem dL_law_355 : decode cL_law 355 = .ok (.istore 6, 2) := by decide +kernel
theorem dL_law_357 : decode cL_law 357 = .ok (.aload_n 2, 1) := by decide +kernel
theorem dL_law_358 : decode cL_law 358 = .ok (.invokevirtual 85, 3) := by decide +kernel
theorem dL_law_361 : decode cL_law 361 = .ok (.iload 5, 2) := by decide +kernel
theorem dL_law_363 : decode cL_law 363 = .ok (.if_icmp .eq 5, 3) := by decide +kernel
theorem dL_law_366 : decode cL_law 366 = .ok (.iconst 0, 1) := by decide +kernel
theorem dL_law_367 : decode cL_law 367 = .ok (.ireturn, 1) := by decide +kernel
theorem dL_law_368 : decode cL_law 368 = .ok (.iload 5, 2) := by decide +kernel
theorem dL_law_370 : decode cL_law 370 = .ok (.ifCond .ne 15, 3) := by decide +kernel
theorem dL_law_373 : decode cL_law 373 = .ok (.aload_n 3, 1) := by decide +kernel
theorem dL_law_374 : decode cL_law 374 = .ok (.iconst 0, 1) := by decide +kernel
theorem dL_law_375 : decode cL_law 375 = .ok (.laload, 1) := by decide +kernel
theorem dL_law_376 : decode cL_law 376 = .ok (.iload 6, 2) := by decide +kernel
theorem dL_law_378 : decode cL_law 378 = .ok (.i2l, 1) := by decide +kernel
theorem dL_law_379 : decode cL_law 379 = .ok (.lcmp, 1) := by decide +kernel
theorem dL_law_380 : decode cL_law 380 = .ok (.ifCond .eq 5, 3) := by decide +kernel
theorem dL_law_383 : decode cL_law 383 = .ok (.iconst 0, 1) := by decide +kernel
theorem dL_law_384 : decode cL_law 384 = .ok (.ireturn, 1) := by decide +kernel
theorem dL_law_385 : decode cL_law 385 = .ok (.goto 950, 3) := by decide +kernel
theorem dL_law_388 : decode cL_law 388 = .ok (.aload_n 1, 1) := by decide +kernel
theorem dL_law_389 : decode cL_law 389 = .ok (.aload_n 0, 1) := by decide +kernel
theorem dL_law_390 : decode cL_law 390 = .ok (.iload 4, 2) := by decide +kernel
theorem dL_law_392 : decode cL_law 392 = .ok (.iconst 1, 1) := by decide +kernel
theorem dL_law_393 : decode cL_law 393 = .ok (.iadd, 1) := by decide +kernel
theorem dL_law_394 : decode cL_law 394 = .ok (.iaload, 1) := by decide +kernel
theorem dL_law_395 : decode cL_law 395 = .ok (.aload_n 0, 1) := by decide +kernel
theorem dL_law_396 : decode cL_law 396 = .ok (.iload 4, 2) := by decide +kernel
theorem dL_law_398 : decode cL_law 398 = .ok (.iconst 2, 1) := by decide +kernel
theorem dL_law_399 : decode cL_law 399 = .ok (.iadd, 1) := by decide +kernel
theorem dL_law_400 : decode cL_law 400 = .ok (.iaload, 1) := by decide +kernel
theorem dL_law_401 : decode cL_law 401 = .ok (.aload_n 0, 1) := by decide +kernel
theorem dL_law_402 : decode cL_law 402 = .ok (.iload 4, 2) := by decide +kernel
theorem dL_law_404 : decode cL_law 404 = .ok (.iconst 3, 1) := by decide +kernel
theorem dL_law_405 : decode cL_law 405 = .ok (.iadd, 1) := by decide +kernel
theorem dL_law_406 : decode cL_law 406 = .ok (.iaload, 1) := by decide +kernel
theorem dL_law_407 : decode cL_law 407 = .ok (.aload_n 3, 1) := by decide +kernel
theorem dL_law_408 : decode cL_law 408 = .ok (.invokestatic 97, 3) := by decide +kernel
theorem dL_law_411 : decode cL_law 411 = .ok (.istore 5, 2) := by decide +kernel
theorem dL_law_413 : decode cL_law 413 = .ok (.aload_n 2, 1) := by decide +kernel
theorem dL_law_414 : decode cL_law 414 = .ok (.aload_n 0, 1) := by decide +kernel
theorem dL_law_415 : decode cL_law 415 = .ok (.iload 4, 2) := by decide +kernel
theorem dL_law_417 : decode cL_law 417 = .ok (.iconst 1, 1) := by decide +kernel
theorem dL_law_418 : decode cL_law 418 = .ok (.iadd, 1) := by decide +kernel
theorem dL_law_419 : decode cL_law 419 = .ok (.iaload, 1) := by decide +kernel
theorem dL_law_420 : decode cL_law 420 = .ok (.aload_n 0, 1) := by decide +kernel
theorem dL_law_421 : decode cL_law 421 = .ok (.iload 4, 2) := by decide +kernel
theorem dL_law_423 : decode cL_law 423 = .ok (.iconst 2, 1) := by decide +kernel
theorem dL_law_424 : decode cL_law 424 = .ok (.iadd, 1) := by decide +kernel
theorem dL_law_425 : decode cL_law 425 = .ok (.iaload, 1) := by decide +kernel
theorem dL_law_426 : decode cL_law 426 = .ok (.aload_n 0, 1) := by decide +kernel
theorem dL_law_427 : decode cL_law 427 = .ok (.iload 4, 2) := by decide +kernel
theorem dL_law_429 : decode cL_law 429 = .ok (.iconst 3, 1) := by decide +kernel
theorem dL_law_430 : decode cL_law 430 = .ok (.iadd, 1) := by decide +kernel
theorem dL_law_431 : decode cL_law 431 = .ok (.iaload, 1) := by decide +kernel
theorem dL_law_432 : decode cL_law 432 = .ok (.invokevirtual 100, 3) := by decide +kernel
theorem dL_law_435 : decode cL_law 435 = .ok (.istore 6, 2) := by decide +kernel
theorem dL_law_437 : decode cL_law 437 = .ok (.aload_n 2, 1) := by decide +kernel
theorem dL_law_438 : decode cL_law 438 = .ok (.invokevirtual 85, 3) := by decide +kernel
theorem dL_law_441 : decode cL_law 441 = .ok (.iload 5, 2) := by decide +kernel
theorem dL_law_443 : decode cL_law 443 = .ok (.if_icmp .eq 5, 3) := by decide +kernel
theorem dL_law_446 : decode cL_law 446 = .ok (.iconst 0, 1) := by decide +kernel
theorem dL_law_447 : decode cL_law 447 = .ok (.ireturn, 1) := by decide +kernel
theorem dL_law_448 : decode cL_law 448 = .ok (.iload 5, 2) := by decide +kernel
theorem dL_law_450 : decode cL_law 450 = .ok (.ifCond .ne 15, 3) := by decide +kernel
theorem dL_law_453 : decode cL_law 453 = .ok (.aload_n 3, 1) := by decide +kernel
theorem dL_law_454 : decode cL_law 454 = .ok (.iconst 0, 1) := by decide +kernel
theorem dL_law_455 : decode cL_law 455 = .ok (.laload, 1) := by decide +kernel
theorem dL_law_456 : decode cL_law 456 = .ok (.iload 6, 2) := by decide +kernel
theorem dL_law_458 : decode cL_law 458 = .ok (.i2l, 1) := by decide +kernel
theorem dL_law_459 : decode cL_law 459 = .ok (.lcmp, 1) := by decide +kernel
theorem dL_law_460 : decode cL_law 460 = .ok (.ifCond .eq 5, 3) := by decide +kernel
theorem dL_law_463 : decode cL_law 463 = .ok (.iconst 0, 1) := by decide +kernel
theorem dL_law_464 : decode cL_law 464 = .ok (.ireturn, 1) := by decide +kernel
theorem dL_law_465 : decode cL_law 465 = .ok (.goto 870, 3) := by decide +kernel
theorem dL_law_468 : decode cL_law 468 = .ok (.aload_n 1, 1) := by decide +kernel
theorem dL_law_469 : decode cL_law 469 = .ok (.invokevirtual 101, 3) := by decide +kernel
theorem dL_law_472 : decode cL_law 472 = .ok (.aload_n 2, 1) := by decide +kernel
theorem dL_law_473 : decode cL_law 473 = .ok (.invokevirtual 104, 3) := by decide +kernel
theorem dL_law_476 : decode cL_law 476 = .ok (.if_icmp .eq 859, 3) := by decide +kernel
theorem dL_law_479 : decode cL_law 479 = .ok (.iconst 0, 1) := by decide +kernel
theorem dL_law_480 : decode cL_law 480 = .ok (.ireturn, 1) := by decide +kernel
theorem dL_law_481 : decode cL_law 481 = .ok (.aload_n 1, 1) := by decide +kernel
theorem dL_law_482 : decode cL_law 482 = .ok (.aload_n 0, 1) := by decide +kernel
theorem dL_law_483 : decode cL_law 483 = .ok (.iload 4, 2) := by decide +kernel
theorem dL_law_485 : decode cL_law 485 = .ok (.iconst 1, 1) := by decide +kernel
theorem dL_law_486 : decode cL_law 486 = .ok (.iadd, 1) := by decide +kernel
theorem dL_law_487 : decode cL_law 487 = .ok (.iaload, 1) := by decide +kernel
theorem dL_law_488 : decode cL_law 488 = .ok (.aload_n 3, 1) := by decide +kernel
theorem dL_law_489 : decode cL_law 489 = .ok (.invokestatic 105, 3) := by decide +kernel
theorem dL_law_492 : decode cL_law 492 = .ok (.istore 5, 2) := by decide +kernel
theorem dL_law_494 : decode cL_law 494 = .ok (.aload_n 2, 1) := by decide +kernel
theorem dL_law_495 : decode cL_law 495 = .ok (.aload_n 0, 1) := by decide +kernel
theorem dL_law_496 : decode cL_law 496 = .ok (.iload 4, 2) := by decide +kernel
theorem dL_law_498 : decode cL_law 498 = .ok (.iconst 1, 1) := by decide +kernel
theorem dL_law_499 : decode cL_law 499 = .ok (.iadd, 1) := by decide +kernel
theorem dL_law_500 : decode cL_law 500 = .ok (.iaload, 1) := by decide +kernel
theorem dL_law_501 : decode cL_law 501 = .ok (.invokevirtual 108, 3) := by decide +kernel
theorem dL_law_504 : decode cL_law 504 = .ok (.istore 6, 2) := by decide +kernel
theorem dL_law_506 : decode cL_law 506 = .ok (.aload_n 2, 1) := by decide +kernel
theorem dL_law_507 : decode cL_law 507 = .ok (.invokevirtual 85, 3) := by decide +kernel
theorem dL_law_510 : decode cL_law 510 = .ok (.iload 5, 2) := by decide +kernel
theorem dL_law_512 : decode cL_law 512 = .ok (.if_icmp .eq 5, 3) := by decide +kernel
theorem dL_law_515 : decode cL_law 515 = .ok (.iconst 0, 1) := by decide +kernel
theorem dL_law_516 : decode cL_law 516 = .ok (.ireturn, 1) := by decide +kernel
theorem dL_law_517 : decode cL_law 517 = .ok (.iload 5, 2) := by decide +kernel
theorem dL_law_519 : decode cL_law 519 = .ok (.ifCond .ne 15, 3) := by decide +kernel
theorem dL_law_522 : decode cL_law 522 = .ok (.aload_n 3, 1) := by decide +kernel
theorem dL_law_523 : decode cL_law 523 = .ok (.iconst 0, 1) := by decide +kernel
theorem dL_law_524 : decode cL_law 524 = .ok (.laload, 1) := by decide +kernel
theorem dL_law_525 : decode cL_law 525 = .ok (.iload 6, 2) := by decide +kernel
theorem dL_law_527 : decode cL_law 527 = .ok (.i2l, 1) := by decide +kernel
theorem dL_law_528 : decode cL_law 528 = .ok (.lcmp, 1) := by decide +kernel
theorem dL_law_529 : decode cL_law 529 = .ok (.ifCond .eq 5, 3) := by decide +kernel
theorem dL_law_532 : decode cL_law 532 = .ok (.iconst 0, 1) := by decide +kernel
theorem dL_law_533 : decode cL_law 533 = .ok (.ireturn, 1) := by decide +kernel
theorem dL_law_534 : decode cL_law 534 = .ok (.goto 801, 3) := by decide +kernel
theorem dL_law_537 : decode cL_law 537 = .ok (.aload_n 1, 1) := by decide +kernel
theorem dL_law_538 : decode cL_law 538 = .ok (.aload_n 0, 1) := by decide +kernel
theorem dL_law_539 : decode cL_law 539 = .ok (.iload 4, 2) := by decide +kernel
theorem dL_law_541 : decode cL_law 541 = .ok (.iconst 1, 1) := by decide +kernel
theorem dL_law_542 : decode cL_law 542 = .ok (.iadd, 1) := by decide +kernel
theorem dL_law_543 : decode cL_law 543 = .ok (.iaload, 1) := by decide +kernel
theorem dL_law_544 : decode cL_law 544 = .ok (.aload_n 3, 1) := by decide +kernel
theorem dL_law_545 : decode cL_law 545 = .ok (.invokestatic 109, 3) := by decide +kernel
theorem dL_law_548 : decode cL_law 548 = .ok (.istore 5, 2) := by decide +kernel
theorem dL_law_550 : decode cL_law 550 = .ok (.aload_n 2, 1) := by decide +kernel
theorem dL_law_551 : decode cL_law 551 = .ok (.aload_n 0, 1) := by decide +kernel
theorem dL_law_552 : decode cL_law 552 = .ok (.iload 4, 2) := by decide +kernel
theorem dL_law_554 : decode cL_law 554 = .ok (.iconst 1, 1) := by decide +kernel
theorem dL_law_555 : decode cL_law 555 = .ok (.iadd, 1) := by decide +kernel
theorem dL_law_556 : decode cL_law 556 = .ok (.iaload, 1) := by decide +kernel
theorem dL_law_557 : decode cL_law 557 = .ok (.invokevirtual 111, 3) := by decide +kernel
theorem dL_law_560 : decode cL_law 560 = .ok (.istore 6, 2) := by decide +kernel
theorem dL_law_562 : decode cL_law 562 = .ok (.aload_n 2, 1) := by decide +kernel
theorem dL_law_563 : decode cL_law 563 = .ok (.invokevirtual 85, 3) := by decide +kernel
theorem dL_law_566 : decode cL_law 566 = .ok (.iload 5, 2) := by decide +kernel
theorem dL_law_568 : decode cL_law 568 = .ok (.if_icmp .eq 5, 3) := by decide +kernel
theorem dL_law_571 : decode cL_law 571 = .ok (.iconst 0, 1) := by decide +kernel
theorem dL_law_572 : decode cL_law 572 = .ok (.ireturn, 1) := by decide +kernel
theorem dL_law_573 : decode cL_law 573 = .ok (.iload 5, 2) := by decide +kernel
theorem dL_law_575 : decode cL_law 575 = .ok (.ifCond .ne 15, 3) := by decide +kernel
theorem dL_law_578 : decode cL_law 578 = .ok (.aload_n 3, 1) := by decide +kernel
theorem dL_law_579 : decode cL_law 579 = .ok (.iconst 0, 1) := by decide +kernel
theorem dL_law_580 : decode cL_law 580 = .ok (.laload, 1) := by decide +kernel
theorem dL_law_581 : decode cL_law 581 = .ok (.iload 6, 2) := by decide +kernel
theorem dL_law_583 : decode cL_law 583 = .ok (.i2l, 1) := by decide +kernel
theorem dL_law_584 : decode cL_law 584 = .ok (.lcmp, 1) := by decide +kernel
theorem dL_law_585 : decode cL_law 585 = .ok (.ifCond .eq 5, 3) := by decide +kernel
theorem dL_law_588 : decode cL_law 588 = .ok (.iconst 0, 1) := by decide +kernel
theorem dL_law_589 : decode cL_law 589 = .ok (.ireturn, 1) := by decide +kernel
theorem dL_law_590 : decode cL_law 590 = .ok (.goto 745, 3) := by decide +kernel
theorem dL_law_593 : decode cL_law 593 = .ok (.aload_n 1, 1) := by decide +kernel
theorem dL_law_594 : decode cL_law 594 = .ok (.aload_n 0, 1) := by decide +kernel
theorem dL_law_595 : decode cL_law 595 = .ok (.iload 4, 2) := by decide +kernel
theorem dL_law_597 : decode cL_law 597 = .ok (.iconst 1, 1) := by decide +kernel
theorem dL_law_598 : decode cL_law 598 = .ok (.iadd, 1) := by decide +kernel
theorem dL_law_599 : decode cL_law 599 = .ok (.iaload, 1) := by decide +kernel
theorem dL_law_600 : decode cL_law 600 = .ok (.aload_n 0, 1) := by decide +kernel
theorem dL_law_601 : decode cL_law 601 = .ok (.iload 4, 2) := by decide +kernel
theorem dL_law_603 : decode cL_law 603 = .ok (.iconst 2, 1) := by decide +kernel
theorem dL_law_604 : decode cL_law 604 = .ok (.iadd, 1) := by decide +kernel
theorem dL_law_605 : decode cL_law 605 = .ok (.iaload, 1) := by decide +kernel
theorem dL_law_606 : decode cL_law 606 = .ok (.aload_n 0, 1) := by decide +kernel
theorem dL_law_607 : decode cL_law 607 = .ok (.iload 4, 2) := by decide +kernel
theorem dL_law_609 : decode cL_law 609 = .ok (.iconst 3, 1) := by decide +kernel
theorem dL_law_610 : decode cL_law 610 = .ok (.iadd, 1) := by decide +kernel
theorem dL_law_611 : decode cL_law 611 = .ok (.iaload, 1) := by decide +kernel
theorem dL_law_612 : decode cL_law 612 = .ok (.aload_n 3, 1) := by decide +kernel
theorem dL_law_613 : decode cL_law 613 = .ok (.invokestatic 112, 3) := by decide +kernel
theorem dL_law_616 : decode cL_law 616 = .ok (.istore 5, 2) := by decide +kernel
theorem dL_law_618 : decode cL_law 618 = .ok (.aload_n 2, 1) := by decide +kernel
theorem dL_law_619 : decode cL_law 619 = .ok (.aload_n 0, 1) := by decide +kernel
theorem dL_law_620 : decode cL_law 620 = .ok (.iload 4, 2) := by decide +kernel
theorem dL_law_622 : decode cL_law 622 = .ok (.iconst 1, 1) := by decide +kernel
theorem dL_law_623 : decode cL_law 623 = .ok (.iadd, 1) := by decide +kernel
theorem dL_law_624 : decode cL_law 624 = .ok (.iaload, 1) := by decide +kernel
theorem dL_law_625 : decode cL_law 625 = .ok (.aload_n 0, 1) := by decide +kernel
theorem dL_law_626 : decode cL_law 626 = .ok (.iload 4, 2) := by decide +kernel
theorem dL_law_628 : decode cL_law 628 = .ok (.iconst 2, 1) := by decide +kernel
theorem dL_law_629 : decode cL_law 629 = .ok (.iadd, 1) := by decide +kernel
theorem dL_law_630 : decode cL_law 630 = .ok (.iaload, 1) := by decide +kernel
theorem dL_law_631 : decode cL_law 631 = .ok (.aload_n 0, 1) := by decide +kernel
theorem dL_law_632 : decode cL_law 632 = .ok (.iload 4, 2) := by decide +kernel
theorem dL_law_634 : decode cL_law 634 = .ok (.iconst 3, 1) := by decide +kernel
theorem dL_law_635 : decode cL_law 635 = .ok (.iadd, 1) := by decide +kernel
theorem dL_law_636 : decode cL_law 636 = .ok (.iaload, 1) := by decide +kernel
theorem dL_law_637 : decode cL_law 637 = .ok (.invokevirtual 114, 3) := by decide +kernel
theorem dL_law_640 : decode cL_law 640 = .ok (.istore 6, 2) := by decide +kernel
theorem dL_law_642 : decode cL_law 642 = .ok (.aload_n 2, 1) := by decide +kernel
theorem dL_law_643 : decode cL_law 643 = .ok (.invokevirtual 85, 3) := by decide +kernel
theorem dL_law_646 : decode cL_law 646 = .ok (.iload 5, 2) := by decide +kernel
theorem dL_law_648 : decode cL_law 648 = .ok (.if_icmp .eq 5, 3) := by decide +kernel
theorem dL_law_651 : decode cL_law 651 = .ok (.iconst 0, 1) := by decide +kernel
theorem dL_law_652 : decode cL_law 652 = .ok (.ireturn, 1) := by decide +kernel
theorem dL_law_653 : decode cL_law 653 = .ok (.iload 5, 2) := by decide +kernel
theorem dL_law_655 : decode cL_law 655 = .ok (.ifCond .ne 15, 3) := by decide +kernel
theorem dL_law_658 : decode cL_law 658 = .ok (.aload_n 3, 1) := by decide +kernel
theorem dL_law_659 : decode cL_law 659 = .ok (.iconst 0, 1) := by decide +kernel
theorem dL_law_660 : decode cL_law 660 = .ok (.laload, 1) := by decide +kernel
theorem dL_law_661 : decode cL_law 661 = .ok (.iload 6, 2) := by decide +kernel
theorem dL_law_663 : decode cL_law 663 = .ok (.i2l, 1) := by decide +kernel
theorem dL_law_664 : decode cL_law 664 = .ok (.lcmp, 1) := by decide +kernel
theorem dL_law_665 : decode cL_law 665 = .ok (.ifCond .eq 5, 3) := by decide +kernel
theorem dL_law_668 : decode cL_law 668 = .ok (.iconst 0, 1) := by decide +kernel
theorem dL_law_669 : decode cL_law 669 = .ok (.ireturn, 1) := by decide +kernel
theorem dL_law_670 : decode cL_law 670 = .ok (.goto 665, 3) := by decide +kernel
theorem dL_law_673 : decode cL_law 673 = .ok (.aload_n 1, 1) := by decide +kernel
theorem dL_law_674 : decode cL_law 674 = .ok (.aload_n 0, 1) := by decide +kernel
theorem dL_law_675 : decode cL_law 675 = .ok (.iload 4, 2) := by decide +kernel
theorem dL_law_677 : decode cL_law 677 = .ok (.iconst 1, 1) := by decide +kernel
theorem dL_law_678 : decode cL_law 678 = .ok (.iadd, 1) := by decide +kernel
theorem dL_law_679 : decode cL_law 679 = .ok (.iaload, 1) := by decide +kernel
theorem dL_law_680 : decode cL_law 680 = .ok (.aload_n 3, 1) := by decide +kernel
theorem dL_law_681 : decode cL_law 681 = .ok (.invokestatic 115, 3) := by decide +kernel
theorem dL_law_684 : decode cL_law 684 = .ok (.istore 5, 2) := by decide +kernel
theorem dL_law_686 : decode cL_law 686 = .ok (.aload_n 2, 1) := by decide +kernel
theorem dL_law_687 : decode cL_law 687 = .ok (.aload_n 0, 1) := by decide +kernel
theorem dL_law_688 : decode cL_law 688 = .ok (.iload 4, 2) := by decide +kernel
theorem dL_law_690 : decode cL_law 690 = .ok (.iconst 1, 1) := by decide +kernel
theorem dL_law_691 : decode cL_law 691 = .ok (.iadd, 1) := by decide +kernel
theorem dL_law_692 : decode cL_law 692 = .ok (.iaload, 1) := by decide +kernel
theorem dL_law_693 : decode cL_law 693 = .ok (.invokevirtual 117, 3) := by decide +kernel
theorem dL_law_696 : decode cL_law 696 = .ok (.istore 6, 2) := by decide +kernel
theorem dL_law_698 : decode cL_law 698 = .ok (.aload_n 2, 1) := by decide +kernel
theorem dL_law_699 : decode cL_law 699 = .ok (.invokevirtual 85, 3) := by decide +kernel
theorem dL_law_702 : decode cL_law 702 = .ok (.iload 5, 2) := by decide +kernel
theorem dL_law_704 : decode cL_law 704 = .ok (.if_icmp .eq 5, 3) := by decide +kernel
theorem dL_law_707 : decode cL_law 707 = .ok (.iconst 0, 1) := by decide +kernel
theorem dL_law_708 : decode cL_law 708 = .ok (.ireturn, 1) := by decide +kernel
theorem dL_law_709 : decode cL_law 709 = .ok (.iload 5, 2) := by decide +kernel
theorem dL_law_711 : decode cL_law 711 = .ok (.ifCond .ne 15, 3) := by decide +kernel
theorem dL_law_714 : decode cL_law 714 = .ok (.aload_n 3, 1) := by decide +kernel
theorem dL_law_715 : decode cL_law 715 = .ok (.iconst 0, 1) := by decide +kernel
theorem dL_law_716 : decode cL_law 716 = .ok (.laload, 1) := by decide +kernel
theorem dL_law_717 : decode cL_law 717 = .ok (.iload 6, 2) := by decide +kernel
theorem dL_law_719 : decode cL_law 719 = .ok (.i2l, 1) := by decide +kernel
theorem dL_law_720 : decode cL_law 720 = .ok (.lcmp, 1) := by decide +kernel
theorem dL_law_721 : decode cL_law 721 = .ok (.ifCond .eq 5, 3) := by decide +kernel
theorem dL_law_724 : decode cL_law 724 = .ok (.iconst 0, 1) := by decide +kernel
theorem dL_law_725 : decode cL_law 725 = .ok (.ireturn, 1) := by decide +kernel
theorem dL_law_726 : decode cL_law 726 = .ok (.goto 609, 3) := by decide +kernel
theorem dL_law_729 : decode cL_law 729 = .ok (.aload_n 1, 1) := by decide +kernel
theorem dL_law_730 : decode cL_law 730 = .ok (.aload_n 0, 1) := by decide +kernel
theorem dL_law_731 : decode cL_law 731 = .ok (.iload 4, 2) := by decide +kernel
theorem dL_law_733 : decode cL_law 733 = .ok (.iconst 1, 1) := by decide +kernel
theorem dL_law_734 : decode cL_law 734 = .ok (.iadd, 1) := by decide +kernel
theorem dL_law_735 : decode cL_law 735 = .ok (.iaload, 1) := by decide +kernel
theorem dL_law_736 : decode cL_law 736 = .ok (.aload_n 3, 1) := by decide +kernel
theorem dL_law_737 : decode cL_law 737 = .ok (.invokestatic 118, 3) := by decide +kernel
theorem dL_law_740 : decode cL_law 740 = .ok (.istore 5, 2) := by decide +kernel
theorem dL_law_742 : decode cL_law 742 = .ok (.aload_n 2, 1) := by decide +kernel
theorem dL_law_743 : decode cL_law 743 = .ok (.aload_n 0, 1) := by decide +kernel
theorem dL_law_744 : decode cL_law 744 = .ok (.iload 4, 2) := by decide +kernel
theorem dL_law_746 : decode cL_law 746 = .ok (.iconst 1, 1) := by decide +kernel
theorem dL_law_747 : decode cL_law 747 = .ok (.iadd, 1) := by decide +kernel
theorem dL_law_748 : decode cL_law 748 = .ok (.iaload, 1) := by decide +kernel
theorem dL_law_749 : decode cL_law 749 = .ok (.invokevirtual 120, 3) := by decide +kernel
theorem dL_law_752 : decode cL_law 752 = .ok (.istore 6, 2) := by decide +kernel
theorem dL_law_754 : decode cL_law 754 = .ok (.aload_n 2, 1) := by decide +kernel
theorem dL_law_755 : decode cL_law 755 = .ok (.invokevirtual 85, 3) := by decide +kernel
theorem dL_law_758 : decode cL_law 758 = .ok (.iload 5, 2) := by decide +kernel
theorem dL_law_760 : decode cL_law 760 = .ok (.if_icmp .eq 5, 3) := by decide +kernel
theorem dL_law_763 : decode cL_law 763 = .ok (.iconst 0, 1) := by decide +kernel
theorem dL_law_764 : decode cL_law 764 = .ok (.ireturn, 1) := by decide +kernel
theorem dL_law_765 : decode cL_law 765 = .ok (.iload 5, 2) := by decide +kernel
theorem dL_law_767 : decode cL_law 767 = .ok (.ifCond .ne 15, 3) := by decide +kernel
theorem dL_law_770 : decode cL_law 770 = .ok (.aload_n 3, 1) := by decide +kernel
theorem dL_law_771 : decode cL_law 771 = .ok (.iconst 0, 1) := by decide +kernel
theorem dL_law_772 : decode cL_law 772 = .ok (.laload, 1) := by decide +kernel
theorem dL_law_773 : decode cL_law 773 = .ok (.iload 6, 2) := by decide +kernel
theorem dL_law_775 : decode cL_law 775 = .ok (.i2l, 1) := by decide +kernel
theorem dL_law_776 : decode cL_law 776 = .ok (.lcmp, 1) := by decide +kernel
theorem dL_law_777 : decode cL_law 777 = .ok (.ifCond .eq 5, 3) := by decide +kernel
theorem dL_law_780 : decode cL_law 780 = .ok (.iconst 0, 1) := by decide +kernel
theorem dL_law_781 : decode cL_law 781 = .ok (.ireturn, 1) := by decide +kernel
theorem dL_law_782 : decode cL_law 782 = .ok (.goto 553, 3) := by decide +kernel
theorem dL_law_785 : decode cL_law 785 = .ok (.aload_n 1, 1) := by decide +kernel
theorem dL_law_786 : decode cL_law 786 = .ok (.aload_n 0, 1) := by decide +kernel
theorem dL_law_787 : decode cL_law 787 = .ok (.iload 4, 2) := by decide +kernel
theorem dL_law_789 : decode cL_law 789 = .ok (.iconst 1, 1) := by decide +kernel
theorem dL_law_790 : decode cL_law 790 = .ok (.iadd, 1) := by decide +kernel
theorem dL_law_791 : decode cL_law 791 = .ok (.iaload, 1) := by decide +kernel
theorem dL_law_792 : decode cL_law 792 = .ok (.aload_n 3, 1) := by decide +kernel
theorem dL_law_793 : decode cL_law 793 = .ok (.invokestatic 121, 3) := by decide +kernel
theorem dL_law_796 : decode cL_law 796 = .ok (.istore 5, 2) := by decide +kernel
theorem dL_law_798 : decode cL_law 798 = .ok (.aload_n 2, 1) := by decide +kernel
theorem dL_law_799 : decode cL_law 799 = .ok (.aload_n 0, 1) := by decide +kernel
theorem dL_law_800 : decode cL_law 800 = .ok (.iload 4, 2) := by decide +kernel
theorem dL_law_802 : decode cL_law 802 = .ok (.iconst 1, 1) := by decide +kernel
theorem dL_law_803 : decode cL_law 803 = .ok (.iadd, 1) := by decide +kernel
theorem dL_law_804 : decode cL_law 804 = .ok (.iaload, 1) := by decide +kernel
theorem dL_law_805 : decode cL_law 805 = .ok (.invokevirtual 123, 3) := by decide +kernel
theorem dL_law_808 : decode cL_law 808 = .ok (.istore 6, 2) := by decide +kernel
theorem dL_law_810 : decode cL_law 810 = .ok (.aload_n 2, 1) := by decide +kernel
theorem dL_law_811 : decode cL_law 811 = .ok (.invokevirtual 85, 3) := by decide +kernel
theorem dL_law_814 : decode cL_law 814 = .ok (.iload 5, 2) := by decide +kernel
theorem dL_law_816 : decode cL_law 816 = .ok (.if_icmp .eq 5, 3) := by decide +kernel
theorem dL_law_819 : decode cL_law 819 = .ok (.iconst 0, 1) := by decide +kernel
theorem dL_law_820 : decode cL_law 820 = .ok (.ireturn, 1) := by decide +kernel
theorem dL_law_821 : decode cL_law 821 = .ok (.iload 5, 2) := by decide +kernel
theorem dL_law_823 : decode cL_law 823 = .ok (.ifCond .ne 15, 3) := by decide +kernel
theorem dL_law_826 : decode cL_law 826 = .ok (.aload_n 3, 1) := by decide +kernel
theorem dL_law_827 : decode cL_law 827 = .ok (.iconst 0, 1) := by decide +kernel
theorem dL_law_828 : decode cL_law 828 = .ok (.laload, 1) := by decide +kernel
theorem dL_law_829 : decode cL_law 829 = .ok (.iload 6, 2) := by decide +kernel
theorem dL_law_831 : decode cL_law 831 = .ok (.i2l, 1) := by decide +kernel
theorem dL_law_832 : decode cL_law 832 = .ok (.lcmp, 1) := by decide +kernel
theorem dL_law_833 : decode cL_law 833 = .ok (.ifCond .eq 5, 3) := by decide +kernel
theorem dL_law_836 : decode cL_law 836 = .ok (.iconst 0, 1) := by decide +kernel
theorem dL_law_837 : decode cL_law 837 = .ok (.ireturn, 1) := by decide +kernel
theorem dL_law_838 : decode cL_law 838 = .ok (.goto 497, 3) := by decide +kernel
theorem dL_law_841 : decode cL_law 841 = .ok (.aload_n 1, 1) := by decide +kernel
theorem dL_law_842 : decode cL_law 842 = .ok (.invokevirtual 124, 3) := by decide +kernel
theorem dL_law_845 : decode cL_law 845 = .ok (.aload_n 2, 1) := by decide +kernel
theorem dL_law_846 : decode cL_law 846 = .ok (.invokevirtual 127, 3) := by decide +kernel
theorem dL_law_849 : decode cL_law 849 = .ok (.if_icmp .eq 486, 3) := by decide +kernel
theorem dL_law_852 : decode cL_law 852 = .ok (.iconst 0, 1) := by decide +kernel
theorem dL_law_853 : decode cL_law 853 = .ok (.ireturn, 1) := by decide +kernel
theorem dL_law_854 : decode cL_law 854 = .ok (.aload_n 1, 1) := by decide +kernel
theorem dL_law_855 : decode cL_law 855 = .ok (.aload_n 0, 1) := by decide +kernel
theorem dL_law_856 : decode cL_law 856 = .ok (.iload 4, 2) := by decide +kernel
theorem dL_law_858 : decode cL_law 858 = .ok (.iconst 1, 1) := by decide +kernel
theorem dL_law_859 : decode cL_law 859 = .ok (.iadd, 1) := by decide +kernel
theorem dL_law_860 : decode cL_law 860 = .ok (.iaload, 1) := by decide +kernel
theorem dL_law_861 : decode cL_law 861 = .ok (.aload_n 3, 1) := by decide +kernel
theorem dL_law_862 : decode cL_law 862 = .ok (.invokestatic 128, 3) := by decide +kernel
theorem dL_law_865 : decode cL_law 865 = .ok (.istore 5, 2) := by decide +kernel
theorem dL_law_867 : decode cL_law 867 = .ok (.aload_n 2, 1) := by decide +kernel
theorem dL_law_868 : decode cL_law 868 = .ok (.aload_n 0, 1) := by decide +kernel
theorem dL_law_869 : decode cL_law 869 = .ok (.iload 4, 2) := by decide +kernel
theorem dL_law_871 : decode cL_law 871 = .ok (.iconst 1, 1) := by decide +kernel
theorem dL_law_872 : decode cL_law 872 = .ok (.iadd, 1) := by decide +kernel
theorem dL_law_873 : decode cL_law 873 = .ok (.iaload, 1) := by decide +kernel
theorem dL_law_874 : decode cL_law 874 = .ok (.invokevirtual 130, 3) := by decide +kernel
theorem dL_law_877 : decode cL_law 877 = .ok (.istore 6, 2) := by decide +kernel
theorem dL_law_879 : decode cL_law 879 = .ok (.aload_n 2, 1) := by decide +kernel
theorem dL_law_880 : decode cL_law 880 = .ok (.invokevirtual 85, 3) := by decide +kernel
theorem dL_law_883 : decode cL_law 883 = .ok (.iload 5, 2) := by decide +kernel
theorem dL_law_885 : decode cL_law 885 = .ok (.if_icmp .eq 5, 3) := by decide +kernel
theorem dL_law_888 : decode cL_law 888 = .ok (.iconst 0, 1) := by decide +kernel
theorem dL_law_889 : decode cL_law 889 = .ok (.ireturn, 1) := by decide +kernel
theorem dL_law_890 : decode cL_law 890 = .ok (.iload 5, 2) := by decide +kernel
theorem dL_law_892 : decode cL_law 892 = .ok (.ifCond .ne 22, 3) := by decide +kernel
theorem dL_law_895 : decode cL_law 895 = .ok (.aload_n 3, 1) := by decide +kernel
theorem dL_law_896 : decode cL_law 896 = .ok (.iconst 0, 1) := by decide +kernel
theorem dL_law_897 : decode cL_law 897 = .ok (.laload, 1) := by decide +kernel
theorem dL_law_898 : decode cL_law 898 = .ok (.iload 6, 2) := by decide +kernel
theorem dL_law_900 : decode cL_law 900 = .ok (.ifCond .eq 7, 3) := by decide +kernel
theorem dL_law_903 : decode cL_law 903 = .ok (.lconst 1, 1) := by decide +kernel
theorem dL_law_904 : decode cL_law 904 = .ok (.goto 4, 3) := by decide +kernel
theorem dL_law_907 : decode cL_law 907 = .ok (.lconst 0, 1) := by decide +kernel
theorem dL_law_908 : decode cL_law 908 = .ok (.lcmp, 1) := by decide +kernel
theorem dL_law_909 : decode cL_law 909 = .ok (.ifCond .eq 5, 3) := by decide +kernel
theorem dL_law_912 : decode cL_law 912 = .ok (.iconst 0, 1) := by decide +kernel
theorem dL_law_913 : decode cL_law 913 = .ok (.ireturn, 1) := by decide +kernel
theorem dL_law_914 : decode cL_law 914 = .ok (.goto 421, 3) := by decide +kernel
theorem dL_law_917 : decode cL_law 917 = .ok (.aload_n 1, 1) := by decide +kernel
theorem dL_law_918 : decode cL_law 918 = .ok (.aload_n 0, 1) := by decide +kernel
theorem dL_law_919 : decode cL_law 919 = .ok (.iload 4, 2) := by decide +kernel
theorem dL_law_921 : decode cL_law 921 = .ok (.iconst 1, 1) := by decide +kernel
theorem dL_law_922 : decode cL_law 922 = .ok (.iadd, 1) := by decide +kernel
theorem dL_law_923 : decode cL_law 923 = .ok (.iaload, 1) := by decide +kernel
theorem dL_law_924 : decode cL_law 924 = .ok (.aload_n 3, 1) := by decide +kernel
theorem dL_law_925 : decode cL_law 925 = .ok (.invokestatic 131, 3) := by decide +kernel
theorem dL_law_928 : decode cL_law 928 = .ok (.istore 5, 2) := by decide +kernel
theorem dL_law_930 : decode cL_law 930 = .ok (.aload_n 2, 1) := by decide +kernel
theorem dL_law_931 : decode cL_law 931 = .ok (.aload_n 0, 1) := by decide +kernel
theorem dL_law_932 : decode cL_law 932 = .ok (.iload 4, 2) := by decide +kernel
theorem dL_law_934 : decode cL_law 934 = .ok (.iconst 1, 1) := by decide +kernel
theorem dL_law_935 : decode cL_law 935 = .ok (.iadd, 1) := by decide +kernel
theorem dL_law_936 : decode cL_law 936 = .ok (.iaload, 1) := by decide +kernel
theorem dL_law_937 : decode cL_law 937 = .ok (.invokevirtual 133, 3) := by decide +kernel
theorem dL_law_940 : decode cL_law 940 = .ok (.istore 6, 2) := by decide +kernel
theorem dL_law_942 : decode cL_law 942 = .ok (.aload_n 2, 1) := by decide +kernel
theorem dL_law_943 : decode cL_law 943 = .ok (.invokevirtual 85, 3) := by decide +kernel
theorem dL_law_946 : decode cL_law 946 = .ok (.iload 5, 2) := by decide +kernel
theorem dL_law_948 : decode cL_law 948 = .ok (.if_icmp .eq 5, 3) := by decide +kernel
theorem dL_law_951 : decode cL_law 951 = .ok (.iconst 0, 1) := by decide +kernel
theorem dL_law_952 : decode cL_law 952 = .ok (.ireturn, 1) := by decide +kernel
theorem dL_law_953 : decode cL_law 953 = .ok (.iload 5, 2) := by decide +kernel
theorem dL_law_955 : decode cL_law 955 = .ok (.ifCond .ne 15, 3) := by decide +kernel
theorem dL_law_958 : decode cL_law 958 = .ok (.aload_n 3, 1) := by decide +kernel
theorem dL_law_959 : decode cL_law 959 = .ok (.iconst 0, 1) := by decide +kernel
theorem dL_law_960 : decode cL_law 960 = .ok (.laload, 1) := by decide +kernel
theorem dL_law_961 : decode cL_law 961 = .ok (.iload 6, 2) := by decide +kernel
theorem dL_law_963 : decode cL_law 963 = .ok (.i2l, 1) := by decide +kernel
theorem dL_law_964 : decode cL_law 964 = .ok (.lcmp, 1) := by decide +kernel
theorem dL_law_965 : decode cL_law 965 = .ok (.ifCond .eq 5, 3) := by decide +kernel
theorem dL_law_968 : decode cL_law 968 = .ok (.iconst 0, 1) := by decide +kernel
theorem dL_law_969 : decode cL_law 969 = .ok (.ireturn, 1) := by decide +kernel
theorem dL_law_970 : decode cL_law 970 = .ok (.goto 365, 3) := by decide +kernel
theorem dL_law_973 : decode cL_law 973 = .ok (.aload_n 1, 1) := by decide +kernel
theorem dL_law_974 : decode cL_law 974 = .ok (.aload_n 0, 1) := by decide +kernel
theorem dL_law_975 : decode cL_law 975 = .ok (.iload 4, 2) := by decide +kernel
theorem dL_law_977 : decode cL_law 977 = .ok (.iconst 1, 1) := by decide +kernel
theorem dL_law_978 : decode cL_law 978 = .ok (.iadd, 1) := by decide +kernel
theorem dL_law_979 : decode cL_law 979 = .ok (.iaload, 1) := by decide +kernel
theorem dL_law_980 : decode cL_law 980 = .ok (.aload_n 3, 1) := by decide +kernel
theorem dL_law_981 : decode cL_law 981 = .ok (.invokestatic 134, 3) := by decide +kernel
theorem dL_law_984 : decode cL_law 984 = .ok (.istore 5, 2) := by decide +kernel
theorem dL_law_986 : decode cL_law 986 = .ok (.aload_n 2, 1) := by decide +kernel
theorem dL_law_987 : decode cL_law 987 = .ok (.aload_n 0, 1) := by decide +kernel
theorem dL_law_988 : decode cL_law 988 = .ok (.iload 4, 2) := by decide +kernel
theorem dL_law_990 : decode cL_law 990 = .ok (.iconst 1, 1) := by decide +kernel
theorem dL_law_991 : decode cL_law 991 = .ok (.iadd, 1) := by decide +kernel
theorem dL_law_992 : decode cL_law 992 = .ok (.iaload, 1) := by decide +kernel
theorem dL_law_993 : decode cL_law 993 = .ok (.invokevirtual 136, 3) := by decide +kernel
theorem dL_law_996 : decode cL_law 996 = .ok (.istore 6, 2) := by decide +kernel
theorem dL_law_998 : decode cL_law 998 = .ok (.aload_n 2, 1) := by decide +kernel
theorem dL_law_999 : decode cL_law 999 = .ok (.invokevirtual 85, 3) := by decide +kernel
theorem dL_law_1002 : decode cL_law 1002 = .ok (.iload 5, 2) := by decide +kernel
theorem dL_law_1004 : decode cL_law 1004 = .ok (.if_icmp .eq 5, 3) := by decide +kernel
theorem dL_law_1007 : decode cL_law 1007 = .ok (.iconst 0, 1) := by decide +kernel
theorem dL_law_1008 : decode cL_law 1008 = .ok (.ireturn, 1) := by decide +kernel
theorem dL_law_1009 : decode cL_law 1009 = .ok (.iload 5, 2) := by decide +kernel
theorem dL_law_1011 : decode cL_law 1011 = .ok (.ifCond .ne 15, 3) := by decide +kernel
theorem dL_law_1014 : decode cL_law 1014 = .ok (.aload_n 3, 1) := by decide +kernel
theorem dL_law_1015 : decode cL_law 1015 = .ok (.iconst 0, 1) := by decide +kernel
theorem dL_law_1016 : decode cL_law 1016 = .ok (.laload, 1) := by decide +kernel
theorem dL_law_1017 : decode cL_law 1017 = .ok (.iload 6, 2) := by decide +kernel
theorem dL_law_1019 : decode cL_law 1019 = .ok (.i2l, 1) := by decide +kernel
theorem dL_law_1020 : decode cL_law 1020 = .ok (.lcmp, 1) := by decide +kernel
theorem dL_law_1021 : decode cL_law 1021 = .ok (.ifCond .eq 5, 3) := by decide +kernel
theorem dL_law_1024 : decode cL_law 1024 = .ok (.iconst 0, 1) := by decide +kernel
theorem dL_law_1025 : decode cL_law 1025 = .ok (.ireturn, 1) := by decide +kernel
theorem dL_law_1026 : decode cL_law 1026 = .ok (.goto 309, 3) := by decide +kernel
theorem dL_law_1029 : decode cL_law 1029 = .ok (.aload_n 1, 1) := by decide +kernel
theorem dL_law_1030 : decode cL_law 1030 = .ok (.aload_n 0, 1) := by decide +kernel
theorem dL_law_1031 : decode cL_law 1031 = .ok (.iload 4, 2) := by decide +kernel
theorem dL_law_1033 : decode cL_law 1033 = .ok (.iconst 1, 1) := by decide +kernel
theorem dL_law_1034 : decode cL_law 1034 = .ok (.iadd, 1) := by decide +kernel
theorem dL_law_1035 : decode cL_law 1035 = .ok (.iaload, 1) := by decide +kernel
theorem dL_law_1036 : decode cL_law 1036 = .ok (.aload_n 3, 1) := by decide +kernel
theorem dL_law_1037 : decode cL_law 1037 = .ok (.invokestatic 137, 3) := by decide +kernel
theorem dL_law_1040 : decode cL_law 1040 = .ok (.istore 5, 2) := by decide +kernel
theorem dL_law_1042 : decode cL_law 1042 = .ok (.aload_n 2, 1) := by decide +kernel
theorem dL_law_1043 : decode cL_law 1043 = .ok (.aload_n 0, 1) := by decide +kernel
theorem dL_law_1044 : decode cL_law 1044 = .ok (.iload 4, 2) := by decide +kernel
theorem dL_law_1046 : decode cL_law 1046 = .ok (.iconst 1, 1) := by decide +kernel
theorem dL_law_1047 : decode cL_law 1047 = .ok (.iadd, 1) := by decide +kernel
theorem dL_law_1048 : decode cL_law 1048 = .ok (.iaload, 1) := by decide +kernel
theorem dL_law_1049 : decode cL_law 1049 = .ok (.invokevirtual 139, 3) := by decide +kernel
theorem dL_law_1052 : decode cL_law 1052 = .ok (.istore 6, 2) := by decide +kernel
theorem dL_law_1054 : decode cL_law 1054 = .ok (.aload_n 2, 1) := by decide +kernel
theorem dL_law_1055 : decode cL_law 1055 = .ok (.invokevirtual 85, 3) := by decide +kernel
theorem dL_law_1058 : decode cL_law 1058 = .ok (.iload 5, 2) := by decide +kernel
theorem dL_law_1060 : decode cL_law 1060 = .ok (.if_icmp .eq 5, 3) := by decide +kernel
theorem dL_law_1063 : decode cL_law 1063 = .ok (.iconst 0, 1) := by decide +kernel
theorem dL_law_1064 : decode cL_law 1064 = .ok (.ireturn, 1) := by decide +kernel
theorem dL_law_1065 : decode cL_law 1065 = .ok (.iload 5, 2) := by decide +kernel
theorem dL_law_1067 : decode cL_law 1067 = .ok (.ifCond .ne 15, 3) := by decide +kernel
theorem dL_law_1070 : decode cL_law 1070 = .ok (.aload_n 3, 1) := by decide +kernel
theorem dL_law_1071 : decode cL_law 1071 = .ok (.iconst 0, 1) := by decide +kernel
theorem dL_law_1072 : decode cL_law 1072 = .ok (.laload, 1) := by decide +kernel
theorem dL_law_1073 : decode cL_law 1073 = .ok (.iload 6, 2) := by decide +kernel
theorem dL_law_1075 : decode cL_law 1075 = .ok (.i2l, 1) := by decide +kernel
theorem dL_law_1076 : decode cL_law 1076 = .ok (.lcmp, 1) := by decide +kernel
theorem dL_law_1077 : decode cL_law 1077 = .ok (.ifCond .eq 5, 3) := by decide +kernel
theorem dL_law_1080 : decode cL_law 1080 = .ok (.iconst 0, 1) := by decide +kernel
theorem dL_law_1081 : decode cL_law 1081 = .ok (.ireturn, 1) := by decide +kernel
theorem dL_law_1082 : decode cL_law 1082 = .ok (.goto 253, 3) := by decide +kernel
theorem dL_law_1085 : decode cL_law 1085 = .ok (.aload_n 1, 1) := by decide +kernel
theorem dL_law_1086 : decode cL_law 1086 = .ok (.aload_n 0, 1) := by decide +kernel
theorem dL_law_1087 : decode cL_law 1087 = .ok (.iload 4, 2) := by decide +kernel
theorem dL_law_1089 : decode cL_law 1089 = .ok (.iconst 1, 1) := by decide +kernel
theorem dL_law_1090 : decode cL_law 1090 = .ok (.iadd, 1) := by decide +kernel
theorem dL_law_1091 : decode cL_law 1091 = .ok (.iaload, 1) := by decide +kernel
theorem dL_law_1092 : decode cL_law 1092 = .ok (.aload_n 3, 1) := by decide +kernel
theorem dL_law_1093 : decode cL_law 1093 = .ok (.invokestatic 140, 3) := by decide +kernel
theorem dL_law_1096 : decode cL_law 1096 = .ok (.istore 5, 2) := by decide +kernel
theorem dL_law_1098 : decode cL_law 1098 = .ok (.aload_n 2, 1) := by decide +kernel
theorem dL_law_1099 : decode cL_law 1099 = .ok (.aload_n 0, 1) := by decide +kernel
theorem dL_law_1100 : decode cL_law 1100 = .ok (.iload 4, 2) := by decide +kernel
theorem dL_law_1102 : decode cL_law 1102 = .ok (.iconst 1, 1) := by decide +kernel
theorem dL_law_1103 : decode cL_law 1103 = .ok (.iadd, 1) := by decide +kernel
theorem dL_law_1104 : decode cL_law 1104 = .ok (.iaload, 1) := by decide +kernel
theorem dL_law_1105 : decode cL_law 1105 = .ok (.invokevirtual 142, 3) := by decide +kernel
theorem dL_law_1108 : decode cL_law 1108 = .ok (.istore 6, 2) := by decide +kernel
theorem dL_law_1110 : decode cL_law 1110 = .ok (.aload_n 2, 1) := by decide +kernel
theorem dL_law_1111 : decode cL_law 1111 = .ok (.invokevirtual 85, 3) := by decide +kernel
theorem dL_law_1114 : decode cL_law 1114 = .ok (.iload 5, 2) := by decide +kernel
theorem dL_law_1116 : decode cL_law 1116 = .ok (.if_icmp .eq 5, 3) := by decide +kernel
theorem dL_law_1119 : decode cL_law 1119 = .ok (.iconst 0, 1) := by decide +kernel
theorem dL_law_1120 : decode cL_law 1120 = .ok (.ireturn, 1) := by decide +kernel
theorem dL_law_1121 : decode cL_law 1121 = .ok (.iload 5, 2) := by decide +kernel
theorem dL_law_1123 : decode cL_law 1123 = .ok (.ifCond .ne 15, 3) := by decide +kernel
theorem dL_law_1126 : decode cL_law 1126 = .ok (.aload_n 3, 1) := by decide +kernel
theorem dL_law_1127 : decode cL_law 1127 = .ok (.iconst 0, 1) := by decide +kernel
theorem dL_law_1128 : decode cL_law 1128 = .ok (.laload, 1) := by decide +kernel
theorem dL_law_1129 : decode cL_law 1129 = .ok (.iload 6, 2) := by decide +kernel
theorem dL_law_1131 : decode cL_law 1131 = .ok (.i2l, 1) := by decide +kernel
theorem dL_law_1132 : decode cL_law 1132 = .ok (.lcmp, 1) := by decide +kernel
theorem dL_law_1133 : decode cL_law 1133 = .ok (.ifCond .eq 5, 3) := by decide +kernel
theorem dL_law_1136 : decode cL_law 1136 = .ok (.iconst 0, 1) := by decide +kernel
theorem dL_law_1137 : decode cL_law 1137 = .ok (.ireturn, 1) := by decide +kernel
theorem dL_law_1138 : decode cL_law 1138 = .ok (.goto 197, 3) := by decide +kernel
theorem dL_law_1141 : decode cL_law 1141 = .ok (.aload_n 1, 1) := by decide +kernel
theorem dL_law_1142 : decode cL_law 1142 = .ok (.aload_n 0, 1) := by decide +kernel
theorem dL_law_1143 : decode cL_law 1143 = .ok (.iload 4, 2) := by decide +kernel
theorem dL_law_1145 : decode cL_law 1145 = .ok (.iconst 1, 1) := by decide +kernel
theorem dL_law_1146 : decode cL_law 1146 = .ok (.iadd, 1) := by decide +kernel
theorem dL_law_1147 : decode cL_law 1147 = .ok (.iaload, 1) := by decide +kernel
theorem dL_law_1148 : decode cL_law 1148 = .ok (.aload_n 3, 1) := by decide +kernel
theorem dL_law_1149 : decode cL_law 1149 = .ok (.invokestatic 143, 3) := by decide +kernel
theorem dL_law_1152 : decode cL_law 1152 = .ok (.istore 5, 2) := by decide +kernel
theorem dL_law_1154 : decode cL_law 1154 = .ok (.aload_n 2, 1) := by decide +kernel
theorem dL_law_1155 : decode cL_law 1155 = .ok (.aload_n 0, 1) := by decide +kernel
theorem dL_law_1156 : decode cL_law 1156 = .ok (.iload 4, 2) := by decide +kernel
theorem dL_law_1158 : decode cL_law 1158 = .ok (.iconst 1, 1) := by decide +kernel
theorem dL_law_1159 : decode cL_law 1159 = .ok (.iadd, 1) := by decide +kernel
theorem dL_law_1160 : decode cL_law 1160 = .ok (.iaload, 1) := by decide +kernel
theorem dL_law_1161 : decode cL_law 1161 = .ok (.invokevirtual 145, 3) := by decide +kernel
theorem dL_law_1164 : decode cL_law 1164 = .ok (.istore 6, 2) := by decide +kernel
theorem dL_law_1166 : decode cL_law 1166 = .ok (.aload_n 2, 1) := by decide +kernel
theorem dL_law_1167 : decode cL_law 1167 = .ok (.invokevirtual 85, 3) := by decide +kernel
theorem dL_law_1170 : decode cL_law 1170 = .ok (.iload 5, 2) := by decide +kernel
theorem dL_law_1172 : decode cL_law 1172 = .ok (.if_icmp .eq 5, 3) := by decide +kernel
theorem dL_law_1175 : decode cL_law 1175 = .ok (.iconst 0, 1) := by decide +kernel
theorem dL_law_1176 : decode cL_law 1176 = .ok (.ireturn, 1) := by decide +kernel
theorem dL_law_1177 : decode cL_law 1177 = .ok (.iload 5, 2) := by decide +kernel
theorem dL_law_1179 : decode cL_law 1179 = .ok (.ifCond .ne 15, 3) := by decide +kernel
theorem dL_law_1182 : decode cL_law 1182 = .ok (.aload_n 3, 1) := by decide +kernel
theorem dL_law_1183 : decode cL_law 1183 = .ok (.iconst 0, 1) := by decide +kernel
theorem dL_law_1184 : decode cL_law 1184 = .ok (.laload, 1) := by decide +kernel
theorem dL_law_1185 : decode cL_law 1185 = .ok (.iload 6, 2) := by decide +kernel
theorem dL_law_1187 : decode cL_law 1187 = .ok (.i2l, 1) := by decide +kernel
theorem dL_law_1188 : decode cL_law 1188 = .ok (.lcmp, 1) := by decide +kernel
theorem dL_law_1189 : decode cL_law 1189 = .ok (.ifCond .eq 5, 3) := by decide +kernel
theorem dL_law_1192 : decode cL_law 1192 = .ok (.iconst 0, 1) := by decide +kernel
theorem dL_law_1193 : decode cL_law 1193 = .ok (.ireturn, 1) := by decide +kernel
theorem dL_law_1194 : decode cL_law 1194 = .ok (.goto 141, 3) := by decide +kernel
theorem dL_law_1197 : decode cL_law 1197 = .ok (.aload_n 1, 1) := by decide +kernel
theorem dL_law_1198 : decode cL_law 1198 = .ok (.aload_n 0, 1) := by decide +kernel
theorem dL_law_1199 : decode cL_law 1199 = .ok (.iload 4, 2) := by decide +kernel
theorem dL_law_1201 : decode cL_law 1201 = .ok (.iconst 1, 1) := by decide +kernel
theorem dL_law_1202 : decode cL_law 1202 = .ok (.iadd, 1) := by decide +kernel
theorem dL_law_1203 : decode cL_law 1203 = .ok (.iaload, 1) := by decide +kernel
theorem dL_law_1204 : decode cL_law 1204 = .ok (.aload_n 3, 1) := by decide +kernel
theorem dL_law_1205 : decode cL_law 1205 = .ok (.invokestatic 146, 3) := by decide +kernel
theorem dL_law_1208 : decode cL_law 1208 = .ok (.istore 5, 2) := by decide +kernel
theorem dL_law_1210 : decode cL_law 1210 = .ok (.aload_n 2, 1) := by decide +kernel
theorem dL_law_1211 : decode cL_law 1211 = .ok (.aload_n 0, 1) := by decide +kernel
theorem dL_law_1212 : decode cL_law 1212 = .ok (.iload 4, 2) := by decide +kernel
theorem dL_law_1214 : decode cL_law 1214 = .ok (.iconst 1, 1) := by decide +kernel
theorem dL_law_1215 : decode cL_law 1215 = .ok (.iadd, 1) := by decide +kernel
theorem dL_law_1216 : decode cL_law 1216 = .ok (.iaload, 1) := by decide +kernel
theorem dL_law_1217 : decode cL_law 1217 = .ok (.invokevirtual 148, 3) := by decide +kernel
theorem dL_law_1220 : decode cL_law 1220 = .ok (.istore 6, 2) := by decide +kernel
theorem dL_law_1222 : decode cL_law 1222 = .ok (.aload_n 2, 1) := by decide +kernel
theorem dL_law_1223 : decode cL_law 1223 = .ok (.invokevirtual 85, 3) := by decide +kernel
theorem dL_law_1226 : decode cL_law 1226 = .ok (.iload 5, 2) := by decide +kernel
theorem dL_law_1228 : decode cL_law 1228 = .ok (.if_icmp .eq 5, 3) := by decide +kernel
theorem dL_law_1231 : decode cL_law 1231 = .ok (.iconst 0, 1) := by decide +kernel
theorem dL_law_1232 : decode cL_law 1232 = .ok (.ireturn, 1) := by decide +kernel
theorem dL_law_1233 : decode cL_law 1233 = .ok (.iload 5, 2) := by decide +kernel
theorem dL_law_1235 : decode cL_law 1235 = .ok (.ifCond .ne 15, 3) := by decide +kernel
theorem dL_law_1238 : decode cL_law 1238 = .ok (.aload_n 3, 1) := by decide +kernel
theorem dL_law_1239 : decode cL_law 1239 = .ok (.iconst 0, 1) := by decide +kernel
theorem dL_law_1240 : decode cL_law 1240 = .ok (.laload, 1) := by decide +kernel
theorem dL_law_1241 : decode cL_law 1241 = .ok (.iload 6, 2) := by decide +kernel
theorem dL_law_1243 : decode cL_law 1243 = .ok (.i2l, 1) := by decide +kernel
theorem dL_law_1244 : decode cL_law 1244 = .ok (.lcmp, 1) := by decide +kernel
theorem dL_law_1245 : decode cL_law 1245 = .ok (.ifCond .eq 5, 3) := by decide +kernel
theorem dL_law_1248 : decode cL_law 1248 = .ok (.iconst 0, 1) := by decide +kernel
theorem dL_law_1249 : decode cL_law 1249 = .ok (.ireturn, 1) := by decide +kernel
theorem dL_law_1250 : decode cL_law 1250 = .ok (.goto 85, 3) := by decide +kernel
theorem dL_law_1253 : decode cL_law 1253 = .ok (.aload_n 1, 1) := by decide +kernel
theorem dL_law_1254 : decode cL_law 1254 = .ok (.invokevirtual 149, 3) := by decide +kernel
theorem dL_law_1257 : decode cL_law 1257 = .ok (.aload_n 2, 1) := by decide +kernel
theorem dL_law_1258 : decode cL_law 1258 = .ok (.invokevirtual 152, 3) := by decide +kernel
theorem dL_law_1261 : decode cL_law 1261 = .ok (.if_icmp .eq 74, 3) := by decide +kernel
theorem dL_law_1264 : decode cL_law 1264 = .ok (.iconst 0, 1) := by decide +kernel
theorem dL_law_1265 : decode cL_law 1265 = .ok (.ireturn, 1) := by decide +kernel
theorem dL_law_1266 : decode cL_law 1266 = .ok (.aload_n 1, 1) := by decide +kernel
theorem dL_law_1267 : decode cL_law 1267 = .ok (.aload_n 0, 1) := by decide +kernel
theorem dL_law_1268 : decode cL_law 1268 = .ok (.iload 4, 2) := by decide +kernel
theorem dL_law_1270 : decode cL_law 1270 = .ok (.iconst 1, 1) := by decide +kernel
theorem dL_law_1271 : decode cL_law 1271 = .ok (.iadd, 1) := by decide +kernel
theorem dL_law_1272 : decode cL_law 1272 = .ok (.iaload, 1) := by decide +kernel
theorem dL_law_1273 : decode cL_law 1273 = .ok (.aload_n 3, 1) := by decide +kernel
theorem dL_law_1274 : decode cL_law 1274 = .ok (.invokestatic 153, 3) := by decide +kernel
theorem dL_law_1277 : decode cL_law 1277 = .ok (.istore 5, 2) := by decide +kernel
theorem dL_law_1279 : decode cL_law 1279 = .ok (.aload_n 2, 1) := by decide +kernel
theorem dL_law_1280 : decode cL_law 1280 = .ok (.aload_n 0, 1) := by decide +kernel
theorem dL_law_1281 : decode cL_law 1281 = .ok (.iload 4, 2) := by decide +kernel
theorem dL_law_1283 : decode cL_law 1283 = .ok (.iconst 1, 1) := by decide +kernel
theorem dL_law_1284 : decode cL_law 1284 = .ok (.iadd, 1) := by decide +kernel
theorem dL_law_1285 : decode cL_law 1285 = .ok (.iaload, 1) := by decide +kernel
theorem dL_law_1286 : decode cL_law 1286 = .ok (.invokevirtual 155, 3) := by decide +kernel
theorem dL_law_1289 : decode cL_law 1289 = .ok (.istore 6, 2) := by decide +kernel
theorem dL_law_1291 : decode cL_law 1291 = .ok (.aload_n 2, 1) := by decide +kernel
theorem dL_law_1292 : decode cL_law 1292 = .ok (.invokevirtual 85, 3) := by decide +kernel
theorem dL_law_1295 : decode cL_law 1295 = .ok (.iload 5, 2) := by decide +kernel
theorem dL_law_1297 : decode cL_law 1297 = .ok (.if_icmp .eq 5, 3) := by decide +kernel
theorem dL_law_1300 : decode cL_law 1300 = .ok (.iconst 0, 1) := by decide +kernel
theorem dL_law_1301 : decode cL_law 1301 = .ok (.ireturn, 1) := by decide +kernel
theorem dL_law_1302 : decode cL_law 1302 = .ok (.iload 5, 2) := by decide +kernel
theorem dL_law_1304 : decode cL_law 1304 = .ok (.ifCond .ne 15, 3) := by decide +kernel
theorem dL_law_1307 : decode cL_law 1307 = .ok (.aload_n 3, 1) := by decide +kernel
theorem dL_law_1308 : decode cL_law 1308 = .ok (.iconst 0, 1) := by decide +kernel
theorem dL_law_1309 : decode cL_law 1309 = .ok (.laload, 1) := by decide +kernel
theorem dL_law_1310 : decode cL_law 1310 = .ok (.iload 6, 2) := by decide +kernel
theorem dL_law_1312 : decode cL_law 1312 = .ok (.i2l, 1) := by decide +kernel
theorem dL_law_1313 : decode cL_law 1313 = .ok (.lcmp, 1) := by decide +kernel
theorem dL_law_1314 : decode cL_law 1314 = .ok (.ifCond .eq 5, 3) := by decide +kernel
theorem dL_law_1317 : decode cL_law 1317 = .ok (.iconst 0, 1) := by decide +kernel
theorem dL_law_1318 : decode cL_law 1318 = .ok (.ireturn, 1) := by decide +kernel
theorem dL_law_1319 : decode cL_law 1319 = .ok (.goto 16, 3) := by decide +kernel
theorem dL_law_1322 : decode cL_law 1322 = .ok (.aload_n 1, 1) := by decide +kernel
theorem dL_law_1323 : decode cL_law 1323 = .ok (.invokevirtual 156, 3) := by decide +kernel
theorem dL_law_1326 : decode cL_law 1326 = .ok (.aload_n 2, 1) := by decide +kernel
theorem dL_law_1327 : decode cL_law 1327 = .ok (.invokevirtual 159, 3) := by decide +kernel
theorem dL_law_1330 : decode cL_law 1330 = .ok (.if_icmp .eq 5, 3) := by decide +kernel
theorem dL_law_1333 : decode cL_law 1333 = .ok (.iconst 0, 1) := by decide +kernel
theorem dL_law_1334 : decode cL_law 1334 = .ok (.ireturn, 1) := by decide +kernel
theorem dL_law_1335 : decode cL_law 1335 = .ok (.iinc 4 5, 3) := by decide +kernel
theorem dL_law_1338 : decode cL_law 1338 = .ok (.goto (-1315), 3) := by decide +kernel
theorem dL_law_1341 : decode cL_law 1341 = .ok (.iconst 1, 1) := by decide +kernel
theorem dL_law_1342 : decode cL_law 1342 = .ok (.ireturn, 1) := by decide +kernel
abbrev vwCl : List vw_C := [(RX0, TX0, 7), (RX1, TX1, 6), (RX2, TX2, 13), (RX3, TX3, 24)]
end
section
/-- the pool's rows: kind 0 a line, else a voucher -/
def gE (K : Nat → Nat) (bud : Nat → Int32) (fsd : Nat → Int32) (las : Nat → Int32) (bas : Nat → Int32) (mvi : Nat → Int32) (mva : Nat → Int32) (ear : Nat → Option Nat) (vln : Nat → Option Nat) (vda : Nat → Int32) (vam : Nat → Int32) (vrf : Nat → Int32) (vel : Nat → Int32) (vnx : Nat → Option Nat) : Nat → va_E := fun a => if K a = 0 then .inr (0, [.int (bud a), .int (fsd a), .int (las a), .int (bas a), .int (mvi a), .int (mva a), va_rf (ear a)]) else .inr (1, [va_rf (vln a), .int (vda a), .int (vam a), .int (vrf a), .int (vel a), va_rf (vnx a)])
theorem gE_0 {K : Nat → Nat} {bud : Nat → Int32} {fsd : Nat → Int32} {las : Nat → Int32} {bas : Nat → Int32} {mvi : Nat → Int32} {mva : Nat → Int32} {ear : Nat → Option Nat} {vln : Nat → Option Nat} {vda : Nat → Int32} {vam : Nat → Int32} {vrf : Nat → Int32} {vel : Nat → Int32} {vnx : Nat → Option Nat} {a : Nat} (h : K a = 0) : gE K bud fsd las bas mvi mva ear vln vda vam vrf vel vnx a = .inr (0, [.int (bud a), .int (fsd a), .int (las a), .int (bas a), .int (mvi a), .int (mva a), va_rf (ear a)]) := if_pos h
theorem gE_1 {K : Nat → Nat} {bud : Nat → Int32} {fsd : Nat → Int32} {las : Nat → Int32} {bas : Nat → Int32} {mvi : Nat → Int32} {mva : Nat → Int32} {ear : Nat → Option Nat} {vln : Nat → Option Nat} {vda : Nat → Int32} {vam : Nat → Int32} {vrf : Nat → Int32} {vel : Nat → Int32} {vnx : Nat → Option Nat} {a : Nat} (h : K a = 1) : gE K bud fsd las bas mvi mva ear vln vda vam vrf vel vnx a = .inr (1, [va_rf (vln a), .int (vda a), .int (vam a), .int (vrf a), .int (vel a), va_rf (vnx a)]) := if_neg (by omega)
theorem gU_bud {K : Nat → Nat} {bud : Nat → Int32} {fsd : Nat → Int32} {las : Nat → Int32} {bas : Nat → Int32} {mvi : Nat → Int32} {mva : Nat → Int32} {ear : Nat → Option Nat} {vln : Nat → Option Nat} {vda : Nat → Int32} {vam : Nat → Int32} {vrf : Nat → Int32} {vel : Nat → Int32} {vnx : Nat → Option Nat} {a : Nat} (h : K a = 0) (v : Int32) : ∀ b, va_up (gE K bud fsd las bas mvi mva ear vln vda vam vrf vel vnx) a (.inr (0, [.int v, .int (fsd a), .int (las a), .int (bas a), .int (mvi a), .int (mva a), va_rf (ear a)])) b = gE K (va_up bud a v) fsd las bas mvi mva ear vln vda vam vrf vel vnx b := by
  intro b
  by_cases hb : b = a
  · subst hb
    rw [va_up_self, gE_0 h, va_up_self]
  · rw [va_up_ne _ _ hb]
    simp only [gE, va_up_ne _ _ hb]
theorem gU_fsd {K : Nat → Nat} {bud : Nat → Int32} {fsd : Nat → Int32} {las : Nat → Int32} {bas : Nat → Int32} {mvi : Nat → Int32} {mva : Nat → Int32} {ear : Nat → Option Nat} {vln : Nat → Option Nat} {vda : Nat → Int32} {vam : Nat → Int32} {vrf : Nat → Int32} {vel : Nat → Int32} {vnx : Nat → Option Nat} {a : Nat} (h : K a = 0) (v : Int32) : ∀ b, va_up (gE K bud fsd las bas mvi mva ear vln vda vam vrf vel vnx) a (.inr (0, [.int (bud a), .int v, .int (las a), .int (bas a), .int (mvi a), .int (mva a), va_rf (ear a)])) b = gE K bud (va_up fsd a v) las bas mvi mva ear vln vda vam vrf vel vnx b := by
  intro b
  by_cases hb : b = a
  · subst hb
    rw [va_up_self, gE_0 h, va_up_self]
  · rw [va_up_ne _ _ hb]
    simp only [gE, va_up_ne _ _ hb]
theorem gU_las {K : Nat → Nat} {bud : Nat → Int32} {fsd : Nat → Int32} {las : Nat → Int32} {bas : Nat → Int32} {mvi : Nat → Int32} {mva : Nat → Int32} {ear : Nat → Option Nat} {vln : Nat → Option Nat} {vda : Nat → Int32} {vam : Nat → Int32} {vrf : Nat → Int32} {vel : Nat → Int32} {vnx : Nat → Option Nat} {a : Nat} (h : K a = 0) (v : Int32) : ∀ b, va_up (gE K bud fsd las bas mvi mva ear vln vda vam vrf vel vnx) a (.inr (0, [.int (bud a), .int (fsd a), .int v, .int (bas a), .int (mvi a), .int (mva a), va_rf (ear a)])) b = gE K bud fsd (va_up las a v) bas mvi mva ear vln vda vam vrf vel vnx b := by
  intro b
  by_cases hb : b = a
  · subst hb
    rw [va_up_self, gE_0 h, va_up_self]
  · rw [va_up_ne _ _ hb]
    simp only [gE, va_up_ne _ _ hb]
theorem gU_bas {K : Nat → Nat} {bud : Nat → Int32} {fsd : Nat → Int32} {las : Nat → Int32} {bas : Nat → Int32} {mvi : Nat → Int32} {mva : Nat → Int32} {ear : Nat → Option Nat} {vln : Nat → Option Nat} {vda : Nat → Int32} {vam : Nat → Int32} {vrf : Nat → Int32} {vel : Nat → Int32} {vnx : Nat → Option Nat} {a : Nat} (h : K a = 0) (v : Int32) : ∀ b, va_up (gE K bud fsd las bas mvi mva ear vln vda vam vrf vel vnx) a (.inr (0, [.int (bud a), .int (fsd a), .int (las a), .int v, .int (mvi a), .int (mva a), va_rf (ear a)])) b = gE K bud fsd las (va_up bas a v) mvi mva ear vln vda vam vrf vel vnx b := by
  intro b
  by_cases hb : b = a
  · subst hb
    rw [va_up_self, gE_0 h, va_up_self]
  · rw [va_up_ne _ _ hb]
    simp only [gE, va_up_ne _ _ hb]
theorem gU_mvi {K : Nat → Nat} {bud : Nat → Int32} {fsd : Nat → Int32} {las : Nat → Int32} {bas : Nat → Int32} {mvi : Nat → Int32} {mva : Nat → Int32} {ear : Nat → Option Nat} {vln : Nat → Option Nat} {vda : Nat → Int32} {vam : Nat → Int32} {vrf : Nat → Int32} {vel : Nat → Int32} {vnx : Nat → Option Nat} {a : Nat} (h : K a = 0) (v : Int32) : ∀ b, va_up (gE K bud fsd las bas mvi mva ear vln vda vam vrf vel vnx) a (.inr (0, [.int (bud a), .int (fsd a), .int (las a), .int (bas a), .int v, .int (mva a), va_rf (ear a)])) b = gE K bud fsd las bas (va_up mvi a v) mva ear vln vda vam vrf vel vnx b := by
  intro b
  by_cases hb : b = a
  · subst hb
    rw [va_up_self, gE_0 h, va_up_self]
  · rw [va_up_ne _ _ hb]
    simp only [gE, va_up_ne _ _ hb]
theorem gU_mva {K : Nat → Nat} {bud : Nat → Int32} {fsd : Nat → Int32} {las : Nat → Int32} {bas : Nat → Int32} {mvi : Nat → Int32} {mva : Nat → Int32} {ear : Nat → Option Nat} {vln : Nat → Option Nat} {vda : Nat → Int32} {vam : Nat → Int32} {vrf : Nat → Int32} {vel : Nat → Int32} {vnx : Nat → Option Nat} {a : Nat} (h : K a = 0) (v : Int32) : ∀ b, va_up (gE K bud fsd las bas mvi mva ear vln vda vam vrf vel vnx) a (.inr (0, [.int (bud a), .int (fsd a), .int (las a), .int (bas a), .int (mvi a), .int v, va_rf (ear a)])) b = gE K bud fsd las bas mvi (va_up mva a v) ear vln vda vam vrf vel vnx b := by
  intro b
  by_cases hb : b = a
  · subst hb
    rw [va_up_self, gE_0 h, va_up_self]
  · rw [va_up_ne _ _ hb]
    simp only [gE, va_up_ne _ _ hb]
theorem gU_ear {K : Nat → Nat} {bud : Nat → Int32} {fsd : Nat → Int32} {las : Nat → Int32} {bas : Nat → Int32} {mvi : Nat → Int32} {mva : Nat → Int32} {ear : Nat → Option Nat} {vln : Nat → Option Nat} {vda : Nat → Int32} {vam : Nat → Int32} {vrf : Nat → Int32} {vel : Nat → Int32} {vnx : Nat → Option Nat} {a : Nat} (h : K a = 0) (v : Option Nat) : ∀ b, va_up (gE K bud fsd las bas mvi mva ear vln vda vam vrf vel vnx) a (.inr (0, [.int (bud a), .int (fsd a), .int (las a), .int (bas a), .int (mvi a), .int (mva a), va_rf v])) b = gE K bud fsd las bas mvi mva (va_up ear a v) vln vda vam vrf vel vnx b := by
  intro b
  by_cases hb : b = a
  · subst hb
    rw [va_up_self, gE_0 h, va_up_self]
  · rw [va_up_ne _ _ hb]
    simp only [gE, va_up_ne _ _ hb]
theorem gU_vln {K : Nat → Nat} {bud : Nat → Int32} {fsd : Nat → Int32} {las : Nat → Int32} {bas : Nat → Int32} {mvi : Nat → Int32} {mva : Nat → Int32} {ear : Nat → Option Nat} {vln : Nat → Option Nat} {vda : Nat → Int32} {vam : Nat → Int32} {vrf : Nat → Int32} {vel : Nat → Int32} {vnx : Nat → Option Nat} {a : Nat} (h : K a = 1) (v : Option Nat) : ∀ b, va_up (gE K bud fsd las bas mvi mva ear vln vda vam vrf vel vnx) a (.inr (1, [va_rf v, .int (vda a), .int (vam a), .int (vrf a), .int (vel a), va_rf (vnx a)])) b = gE K bud fsd las bas mvi mva ear (va_up vln a v) vda vam vrf vel vnx b := by
  intro b
  by_cases hb : b = a
  · subst hb
    rw [va_up_self, gE_1 h, va_up_self]
  · rw [va_up_ne _ _ hb]
    simp only [gE, va_up_ne _ _ hb]
theorem gU_vda {K : Nat → Nat} {bud : Nat → Int32} {fsd : Nat → Int32} {las : Nat → Int32} {bas : Nat → Int32} {mvi : Nat → Int32} {mva : Nat → Int32} {ear : Nat → Option Nat} {vln : Nat → Option Nat} {vda : Nat → Int32} {vam : Nat → Int32} {vrf : Nat → Int32} {vel : Nat → Int32} {vnx : Nat → Option Nat} {a : Nat} (h : K a = 1) (v : Int32) : ∀ b, va_up (gE K bud fsd las bas mvi mva ear vln vda vam vrf vel vnx) a (.inr (1, [va_rf (vln a), .int v, .int (vam a), .int (vrf a), .int (vel a), va_rf (vnx a)])) b = gE K bud fsd las bas mvi mva ear vln (va_up vda a v) vam vrf vel vnx b := by
  intro b
  by_cases hb : b = a
  · subst hb
    rw [va_up_self, gE_1 h, va_up_self]
  · rw [va_up_ne _ _ hb]
    simp only [gE, va_up_ne _ _ hb]
theorem gU_vam {K : Nat → Nat} {bud : Nat → Int32} {fsd : Nat → Int32} {las : Nat → Int32} {bas : Nat → Int32} {mvi : Nat → Int32} {mva : Nat → Int32} {ear : Nat → Option Nat} {vln : Nat → Option Nat} {vda : Nat → Int32} {vam : Nat → Int32} {vrf : Nat → Int32} {vel : Nat → Int32} {vnx : Nat → Option Nat} {a : Nat} (h : K a = 1) (v : Int32) : ∀ b, va_up (gE K bud fsd las bas mvi mva ear vln vda vam vrf vel vnx) a (.inr (1, [va_rf (vln a), .int (vda a), .int v, .int (vrf a), .int (vel a), va_rf (vnx a)])) b = gE K bud fsd las bas mvi mva ear vln vda (va_up vam a v) vrf vel vnx b := by
  intro b
  by_cases hb : b = a
  · subst hb
    rw [va_up_self, gE_1 h, va_up_self]
  · rw [va_up_ne _ _ hb]
    simp only [gE, va_up_ne _ _ hb]
theorem gU_vrf {K : Nat → Nat} {bud : Nat → Int32} {fsd : Nat → Int32} {las : Nat → Int32} {bas : Nat → Int32} {mvi : Nat → Int32} {mva : Nat → Int32} {ear : Nat → Option Nat} {vln : Nat → Option Nat} {vda : Nat → Int32} {vam : Nat → Int32} {vrf : Nat → Int32} {vel : Nat → Int32} {vnx : Nat → Option Nat} {a : Nat} (h : K a = 1) (v : Int32) : ∀ b, va_up (gE K bud fsd las bas mvi mva ear vln vda vam vrf vel vnx) a (.inr (1, [va_rf (vln a), .int (vda a), .int (vam a), .int v, .int (vel a), va_rf (vnx a)])) b = gE K bud fsd las bas mvi mva ear vln vda vam (va_up vrf a v) vel vnx b := by
  intro b
  by_cases hb : b = a
  · subst hb
    rw [va_up_self, gE_1 h, va_up_self]
  · rw [va_up_ne _ _ hb]
    simp only [gE, va_up_ne _ _ hb]
theorem gU_vel {K : Nat → Nat} {bud : Nat → Int32} {fsd : Nat → Int32} {las : Nat → Int32} {bas : Nat → Int32} {mvi : Nat → Int32} {mva : Nat → Int32} {ear : Nat → Option Nat} {vln : Nat → Option Nat} {vda : Nat → Int32} {vam : Nat → Int32} {vrf : Nat → Int32} {vel : Nat → Int32} {vnx : Nat → Option Nat} {a : Nat} (h : K a = 1) (v : Int32) : ∀ b, va_up (gE K bud fsd las bas mvi mva ear vln vda vam vrf vel vnx) a (.inr (1, [va_rf (vln a), .int (vda a), .int (vam a), .int (vrf a), .int v, va_rf (vnx a)])) b = gE K bud fsd las bas mvi mva ear vln vda vam vrf (va_up vel a v) vnx b := by
  intro b
  by_cases hb : b = a
  · subst hb
    rw [va_up_self, gE_1 h, va_up_self]
  · rw [va_up_ne _ _ hb]
    simp only [gE, va_up_ne _ _ hb]
theorem gU_vnx {K : Nat → Nat} {bud : Nat → Int32} {fsd : Nat → Int32} {las : Nat → Int32} {bas : Nat → Int32} {mvi : Nat → Int32} {mva : Nat → Int32} {ear : Nat → Option Nat} {vln : Nat → Option Nat} {vda : Nat → Int32} {vam : Nat → Int32} {vrf : Nat → Int32} {vel : Nat → Int32} {vnx : Nat → Option Nat} {a : Nat} (h : K a = 1) (v : Option Nat) : ∀ b, va_up (gE K bud fsd las bas mvi mva ear vln vda vam vrf vel vnx) a (.inr (1, [va_rf (vln a), .int (vda a), .int (vam a), .int (vrf a), .int (vel a), va_rf v])) b = gE K bud fsd las bas mvi mva ear vln vda vam vrf vel (va_up vnx a v) b := by
  intro b
  by_cases hb : b = a
  · subst hb
    rw [va_up_self, gE_1 h, va_up_self]
  · rw [va_up_ne _ _ hb]
    simp only [gE, va_up_ne _ _ hb]
theorem gN_0 {K : Nat → Nat} {bud : Nat → Int32} {fsd : Nat → Int32} {las : Nat → Int32} {bas : Nat → Int32} {mvi : Nat → Int32} {mva : Nat → Int32} {ear : Nat → Option Nat} {vln : Nat → Option Nat} {vda : Nat → Int32} {vam : Nat → Int32} {vrf : Nat → Int32} {vel : Nat → Int32} {vnx : Nat → Option Nat} {a : Nat} : ∀ b, va_up (gE K bud fsd las bas mvi mva ear vln vda vam vrf vel vnx) a (.inr (0, [.int 0, .int 0, .int 0, .int 0, .int 0, .int 0, .null])) b = gE (va_up K a 0) (va_up bud a 0) (va_up fsd a 0) (va_up las a 0) (va_up bas a 0) (va_up mvi a 0) (va_up mva a 0) (va_up ear a none) vln vda vam vrf vel vnx b := by
  intro b
  by_cases hb : b = a
  · subst hb
    rw [va_up_self, gE_0 (va_up_self K b 0)]
    simp only [va_up_self]
    rfl
  · rw [va_up_ne _ _ hb]
    simp only [gE, va_up_ne _ _ hb]
theorem gN_1 {K : Nat → Nat} {bud : Nat → Int32} {fsd : Nat → Int32} {las : Nat → Int32} {bas : Nat → Int32} {mvi : Nat → Int32} {mva : Nat → Int32} {ear : Nat → Option Nat} {vln : Nat → Option Nat} {vda : Nat → Int32} {vam : Nat → Int32} {vrf : Nat → Int32} {vel : Nat → Int32} {vnx : Nat → Option Nat} {a : Nat} : ∀ b, va_up (gE K bud fsd las bas mvi mva ear vln vda vam vrf vel vnx) a (.inr (1, [.null, .int 0, .int 0, .int 0, .int 0, .null])) b = gE (va_up K a 1) bud fsd las bas mvi mva ear (va_up vln a none) (va_up vda a 0) (va_up vam a 0) (va_up vrf a 0) (va_up vel a 0) (va_up vnx a none) b := by
  intro b
  by_cases hb : b = a
  · subst hb
    rw [va_up_self, gE_1 (va_up_self K b 1)]
    simp only [va_up_self]
    rfl
  · rw [va_up_ne _ _ hb]
    simp only [gE, va_up_ne _ _ hb]
theorem gk_push {D : va_G} {cl : List vw_C} {A : Nat → Prop} {X : va_W} {L : List Nat} {f f' : Nat → va_E} {q : Nat} {e : va_E} {H : Heap} (hP : va_P D cl ((X ++ va_pl L f) ++ [(q, e)]) H) (hD : va_D A ((X ++ va_pl L f) ++ [(q, e)])) (hf : ∀ b, va_up f q e b = f' b) : q ∉ L ∧ va_P D cl (X ++ va_pl (L ++ [q]) f') H ∧ va_D A (X ++ va_pl (L ++ [q]) f') := by
  have hq := va_pl_fresh2 hD
  rw [List.append_assoc, va_pl_push hq, va_pl_congr hf] at hP hD
  exact ⟨hq, hP, hD⟩
section GK
variable {p : Program} {l : Launch} {e : Env} {R : Room} {s : State} {m : MethodId} {args : Array Value} {below : List Frame} {meth : Method} {c : Code} {H : Heap} {locs : List Loc} {cells slots : Nat} {Q : State → Prop}
variable {cc : ByteArray} {pc : Nat} {ls : Array Slot} {rest : List Value} {D : va_G} {tys : List (ClassId × FieldType)} {A : Nat → Prop} {H0 : Heap}
theorem gk_get {X : va_W} {L : List Nat} {f : Nat → va_E} {a : Nat} (hexec : p.tables.exec = Jvm.exec) (hb : c.code = cc) {own ref C : String} {T : u_T} {N ci index : Nat} {Ts : List Cond} (hts : ∀ w ∈ Ts, w.before args s = true) (hin : ∀ w ∈ u_ws C T N, w ∈ Ts) (hown : s.vm.findClass own = some m.cls) (hK : va_K D vwCl tys s) (hP : va_P D vwCl (X ++ va_pl L f) H) (hL : a ∈ L) {fs : List Value} (hfa : f a = .inr (ci, fs)) (hc : vwCl[ci]? = some (C, T, N)) (k : Nat) (hk : k < N)
    (hlink : (Cond.fieldLink own index ref (T k).2.1 (T k).2.2.1).before args s = true) (hsame : ∀ x, s.fieldFound? (T k).1 (T k).2.1 (T k).2.2.1 = some x → s.fieldFound? ref (T k).2.1 (T k).2.2.1 = some x) {v : Value} (hv : fs[k]? = some v) (hdg : decode cc pc = .ok (.getfield index, 3))
    (kk : W p l e R s m args below meth c H locs cells slots Q (F0 m (pc + 3) ls (v :: rest))) : W p l e R s m args below meth c H locs cells slots Q (F0 m pc ls (.ref a :: rest)) := by
  obtain ⟨q, hq⟩ := va_pl_get (X := X) (f := f) hL
  rw [hfa] at hq
  exact va_get (C := C) (T := T) (N := N) (ci := ci) hexec hb hts hin hown hK hP q hq hc k hk hlink hsame hv hdg kk
theorem gk_put {X : va_W} {L : List Nat} {f f' : Nat → va_E} {a : Nat} (hexec : p.tables.exec = Jvm.exec) (hb : c.code = cc) {own ref C : String} {T : u_T} {N ci index : Nat} {Ts : List Cond} (hts : ∀ w ∈ Ts, w.before args s = true) (hin : ∀ w ∈ u_ws C T N, w ∈ Ts) (ty0 : Nat → FieldType) (hty : ∀ k, k < N → parseFieldDescriptor (T k).2.2.1 = some (ty0 k)) (hnm : ∀ a, a < N → ∀ b, b < N → a ≠ b → (T a).2.1 ≠ (T b).2.1) (hown : s.vm.findClass own = some m.cls) (hK : va_K D vwCl tys s) (hP : va_P D vwCl (X ++ va_pl L f) H) (hD : va_D A (X ++ va_pl L f)) (hS0 : va_S A H0 H locs) (hL : a ∈ L) {fs : List Value} (hfa : f a = .inr (ci, fs)) (hc : vwCl[ci]? = some (C, T, N)) (k : Nat) (hk : k < N)
    (hlink : (Cond.fieldLink own index ref (T k).2.1 (T k).2.2.1).before args s = true) (hsame : ∀ x, s.fieldFound? (T k).1 (T k).2.1 (T k).2.2.1 = some x → s.fieldFound? ref (T k).2.1 (T k).2.2.1 = some x) (hfin : (T k).2.2.2 = false) {ty : FieldType} {v : Value} (hd : parseFieldDescriptor (T k).2.2.1 = some ty) (hn : narrow ty v = v) (hfit : fits ty v = true) (hl : k < fs.length)
    (hf : ∀ b, va_up f a (.inr (ci, fs.set k v)) b = f' b) (hdg : decode cc pc = .ok (.putfield index, 3))
    (kk : ∀ (H1 : Heap) (locs1 : List Loc), va_P D vwCl (X ++ va_pl L f') H1 → va_D A (X ++ va_pl L f') → va_S A H0 H1 locs1 → W p l e R s m args below meth c H1 locs1 cells slots Q (F0 m (pc + 3) ls rest)) : W p l e R s m args below meth c H locs cells slots Q (F0 m pc ls (v :: .ref a :: rest)) := by
  obtain ⟨q, hq⟩ := va_pl_get (X := X) (f := f) hL
  have hq2 := hq
  rw [hfa] at hq2
  refine va_put (C := C) (T := T) (N := N) (ci := ci) hexec hb hts hin ty0 hty hnm hown hK hP hD hS0 q hq2 hc k hk hlink hsame hfin hd hn hfit hl hdg (fun H1 locs1 h1 h2 h3 => ?_)
  rw [va_pl_set hD hL hq, va_pl_congr hf] at h1 h2
  exact kk H1 locs1 h1 h2 h3
theorem gk_putF {X : va_W} {L : List Nat} {f f' : Nat → va_E} {a : Nat} (hexec : p.tables.exec = Jvm.exec) (hb : c.code = cc) {own ref C : String} {T : u_T} {N ci index : Nat} {Ts : List Cond} (hts : ∀ w ∈ Ts, w.before args s = true) (hin : ∀ w ∈ u_ws C T N, w ∈ Ts) (ty0 : Nat → FieldType) (hty : ∀ k, k < N → parseFieldDescriptor (T k).2.2.1 = some (ty0 k)) (hnm : ∀ a, a < N → ∀ b, b < N → a ≠ b → (T a).2.1 ≠ (T b).2.1) (hown : s.vm.findClass own = some m.cls) (hK : va_K D vwCl tys s) (hP : va_P D vwCl (X ++ va_pl L f) H) (hD : va_D A (X ++ va_pl L f)) (hS0 : va_S A H0 H locs) (hL : a ∈ L) {fs : List Value} (hfa : f a = .inr (ci, fs)) (hc : vwCl[ci]? = some (C, T, N)) (k : Nat) (hk : k < N)
    (hlink : (Cond.fieldLink own index ref (T k).2.1 (T k).2.2.1).before args s = true) (hsame : ∀ x, s.fieldFound? (T k).1 (T k).2.1 (T k).2.2.1 = some x → s.fieldFound? ref (T k).2.1 (T k).2.2.1 = some x) (hfin : (T k).2.2.2 = true) (hin2 : meth.name = "<init>") (hdecl : (T k).1 = own) {ty : FieldType} {v : Value} (hd : parseFieldDescriptor (T k).2.2.1 = some ty) (hn : narrow ty v = v) (hfit : fits ty v = true) (hl : k < fs.length)
    (hf : ∀ b, va_up f a (.inr (ci, fs.set k v)) b = f' b) (hdg : decode cc pc = .ok (.putfield index, 3))
    (kk : ∀ (H1 : Heap) (locs1 : List Loc), va_P D vwCl (X ++ va_pl L f') H1 → va_D A (X ++ va_pl L f') → va_S A H0 H1 locs1 → W p l e R s m args below meth c H1 locs1 cells slots Q (F0 m (pc + 3) ls rest)) : W p l e R s m args below meth c H locs cells slots Q (F0 m pc ls (v :: .ref a :: rest)) := by
  obtain ⟨q, hq⟩ := va_pl_get (X := X) (f := f) hL
  have hq2 := hq
  rw [hfa] at hq2
  refine va_putF (C := C) (T := T) (N := N) (ci := ci) hexec hb hts hin ty0 hty hnm hown hK hP hD hS0 q hq2 hc k hk hlink hsame hfin hin2 hdecl hd hn hfit hl hdg (fun H1 locs1 h1 h2 h3 => ?_)
  rw [va_pl_set hD hL hq, va_pl_congr hf] at h1 h2
  exact kk H1 locs1 h1 h2 h3
/-- array rows by a natural index -/
theorem gk_iald (hexec : p.tables.exec = Jvm.exec) (hb : c.code = cc) {ws : va_W} {a : Nat} {cl : List vw_C} (hK : va_K D cl tys s) (hP : va_P D cl ws H) (q0 t0 : Nat) {cA : ClassId} {n : Nat} {f : Nat → Int32} (ha : ws[q0]? = some (a, .inl (cA, n, .inl f))) (ht : tys[t0]? = some (cA, .int)) {i : Nat} (hi : i < n) (hn : n < 2 ^ 31) (hdg : decode cc pc = .ok (.iaload, 1))
    (kk : W p l e R s m args below meth c H locs cells slots Q (F0 m (pc + 1) ls (.int (f i) :: rest))) : W p l e R s m args below meth c H locs cells slots Q (F0 m pc ls (.int (nI i) :: .ref a :: rest)) :=
  va_iald hexec hb hK hP q0 t0 ha ht (vp_in_nI hi hn) hdg (by rw [nI_clamp (by omega)]; exact kk)
theorem gk_zald (hexec : p.tables.exec = Jvm.exec) (hb : c.code = cc) {ws : va_W} {a : Nat} {cl : List vw_C} (hK : va_K D cl tys s) (hP : va_P D cl ws H) (q0 t0 : Nat) {cA : ClassId} {n : Nat} {f : Nat → Int32} (ha : ws[q0]? = some (a, .inl (cA, n, .inl f))) (ht : tys[t0]? = some (cA, .boolean)) {i : Nat} (hi : i < n) (hn : n < 2 ^ 31) (hdg : decode cc pc = .ok (.baload, 1))
    (kk : W p l e R s m args below meth c H locs cells slots Q (F0 m (pc + 1) ls (.int (f i) :: rest))) : W p l e R s m args below meth c H locs cells slots Q (F0 m pc ls (.int (nI i) :: .ref a :: rest)) :=
  va_zald hexec hb hK hP q0 t0 ha ht (vp_in_nI hi hn) hdg (by rw [nI_clamp (by omega)]; exact kk)
theorem gk_aldq (hexec : p.tables.exec = Jvm.exec) (hb : c.code = cc) {ws : va_W} {a : Nat} {cl : List vw_C} (hK : va_K D cl tys s) (hP : va_P D cl ws H) (q0 t0 : Nat) {cA : ClassId} {C : String} {n : Nat} {f : Nat → Option Nat} (ha : ws[q0]? = some (a, .inl (cA, n, .inr (.inr (.inr (.inr f)))))) (ht : tys[t0]? = some (cA, .object C)) {i : Nat} (hi : i < n) (hn : n < 2 ^ 31) (hdg : decode cc pc = .ok (.aaload, 1))
    (kk : W p l e R s m args below meth c H locs cells slots Q (F0 m (pc + 1) ls (va_rf (f i) :: rest))) : W p l e R s m args below meth c H locs cells slots Q (F0 m pc ls (.int (nI i) :: .ref a :: rest)) :=
  va_aldq hexec hb hK hP q0 t0 ha ht (vp_in_nI hi hn) hdg (by rw [nI_clamp (by omega)]; exact kk)
theorem gk_iast (hexec : p.tables.exec = Jvm.exec) (hb : c.code = cc) {ws : va_W} {a : Nat} {cl : List vw_C} (hK : va_K D cl tys s) (hP : va_P D cl ws H) (hD : va_D A ws) (hS : va_S A H0 H locs) (q0 t0 : Nat) {cA : ClassId} {n : Nat} {f : Nat → Int32} (ha : ws[q0]? = some (a, .inl (cA, n, .inl f))) (ht : tys[t0]? = some (cA, .int)) {i : Nat} {x : Int32} (hi : i < n) (hn : n < 2 ^ 31) (hdg : decode cc pc = .ok (.iastore, 1))
    (kk : ∀ (H1 : Heap) (locs1 : List Loc), va_P D cl (ws.set q0 (a, .inl (cA, n, .inl (va_up f i x)))) H1 → va_D A (ws.set q0 (a, .inl (cA, n, .inl (va_up f i x)))) → va_S A H0 H1 locs1 → W p l e R s m args below meth c H1 locs1 cells slots Q (F0 m (pc + 1) ls rest)) : W p l e R s m args below meth c H locs cells slots Q (F0 m pc ls (.int x :: .int (nI i) :: .ref a :: rest)) :=
  va_iast hexec hb hK hP hD hS q0 t0 ha ht (vp_in_nI hi hn) hdg (by rw [nI_clamp (by omega)]; exact kk)
theorem gk_zast (hexec : p.tables.exec = Jvm.exec) (hb : c.code = cc) {ws : va_W} {a : Nat} {cl : List vw_C} (hK : va_K D cl tys s) (hP : va_P D cl ws H) (hD : va_D A ws) (hS : va_S A H0 H locs) (q0 t0 : Nat) {cA : ClassId} {n : Nat} {f : Nat → Int32} (ha : ws[q0]? = some (a, .inl (cA, n, .inl f))) (ht : tys[t0]? = some (cA, .boolean)) {i : Nat} {x : Int32} (hi : i < n) (hn : n < 2 ^ 31) (hx9 : x = 0 ∨ x = 1) (hdg : decode cc pc = .ok (.bastore, 1))
    (kk : ∀ (H1 : Heap) (locs1 : List Loc), va_P D cl (ws.set q0 (a, .inl (cA, n, .inl (va_up f i x)))) H1 → va_D A (ws.set q0 (a, .inl (cA, n, .inl (va_up f i x)))) → va_S A H0 H1 locs1 → W p l e R s m args below meth c H1 locs1 cells slots Q (F0 m (pc + 1) ls rest)) : W p l e R s m args below meth c H locs cells slots Q (F0 m pc ls (.int x :: .int (nI i) :: .ref a :: rest)) :=
  va_zast hexec hb hK hP hD hS q0 t0 ha ht (vp_in_nI hi hn) hdg (by rw [nI_clamp (by omega), show vp_nar .boolean x = x by rcases hx9 with rfl | rfl <;> decide]; exact kk)
theorem gk_astq (hexec : p.tables.exec = Jvm.exec) (hb : c.code = cc) {ws : va_W} {a : Nat} {cl : List vw_C} (hK : va_K D cl tys s) (hP : va_P D cl ws H) (hD : va_D A ws) (hS : va_S A H0 H locs) (q0 t0 qk ci : Nat) {cA : ClassId} {r : vw_C} {n v : Nat} {vs : List Value} {f : Nat → Option Nat} (ha : ws[q0]? = some (a, .inl (cA, n, .inr (.inr (.inr (.inr f)))))) (ht : tys[t0]? = some (cA, .object r.1)) (hv : ws[qk]? = some (v, .inr (ci, vs))) (hc : cl[ci]? = some r) {i : Nat} (hi : i < n) (hn : n < 2 ^ 31) (hdg : decode cc pc = .ok (.aastore, 1))
    (kk : ∀ (H1 : Heap) (locs1 : List Loc), va_P D cl (ws.set q0 (a, .inl (cA, n, .inr (.inr (.inr (.inr (va_up f i (some v)))))))) H1 → va_D A (ws.set q0 (a, .inl (cA, n, .inr (.inr (.inr (.inr (va_up f i (some v)))))))) → va_S A H0 H1 locs1 → W p l e R s m args below meth c H1 locs1 cells slots Q (F0 m (pc + 1) ls rest)) : W p l e R s m args below meth c H locs cells slots Q (F0 m pc ls (.ref v :: .int (nI i) :: .ref a :: rest)) :=
  va_astq hexec hb hK hP hD hS q0 t0 qk ci ha ht hv hc (vp_in_nI hi hn) hdg (by rw [nI_clamp (by omega)]; exact kk)
end GK
/-- worlds in another order -/
theorem gk_permP {D : va_G} {cl : List vw_C} {ws ws' : va_W} {H : Heap} (h : va_P D cl ws H) (hp : ws.Perm ws') : va_P D cl ws' H := by
  intro k q hk
  obtain ⟨i, hi⟩ := List.getElem?_of_mem (hp.mem_iff.mpr (List.mem_of_getElem? hk))
  exact h i q hi
theorem gk_Dnd {A : Nat → Prop} {ws : va_W} : va_D A ws ↔ (ws.map (·.1)).Nodup ∧ ∀ q ∈ ws, A q.1 := by
  constructor
  · intro h
    refine ⟨?_, fun q hq => ?_⟩
    · rw [List.nodup_iff_pairwise_ne, List.pairwise_iff_getElem]
      intro i j hi hj hij he
      rw [List.length_map] at hi hj
      rw [List.getElem_map, List.getElem_map] at he
      have := h.1 i j _ _ (List.getElem?_eq_getElem hi) (List.getElem?_eq_getElem hj) he
      omega
    · obtain ⟨i, hi⟩ := List.getElem?_of_mem hq
      exact h.2 i q hi
  · intro h
    refine ⟨fun i j x y hi hj he => ?_, fun k q hk => h.2 q (List.mem_of_getElem? hk)⟩
    obtain ⟨hi1, hi2⟩ := List.getElem?_eq_some_iff.mp hi
    obtain ⟨hj1, hj2⟩ := List.getElem?_eq_some_iff.mp hj
    have h9 := h.1
    rw [List.nodup_iff_pairwise_ne, List.pairwise_iff_getElem] at h9
    rcases Nat.lt_trichotomy i j with z | z | z
    · exact absurd (by rw [List.getElem_map, List.getElem_map, hi2, hj2]; exact he) (h9 i j (by rw [List.length_map]; exact hi1) (by rw [List.length_map]; exact hj1) z)
    · exact z
    · exact absurd (by rw [List.getElem_map, List.getElem_map, hi2, hj2]; exact he.symm) (h9 j i (by rw [List.length_map]; exact hj1) (by rw [List.length_map]; exact hi1) z)
theorem gk_permD {A : Nat → Prop} {ws ws' : va_W} (h : va_D A ws) (hp : ws.Perm ws') : va_D A ws' := by
  rw [gk_Dnd] at h ⊢
  exact ⟨(hp.map (·.1)).nodup_iff.mp h.1, fun q hq => h.2 q (hp.mem_iff.mpr hq)⟩
theorem gk_permA {ws ws' : va_W} {sz : Nat} (hp : ws.Perm ws') {q : Nat} (h : va_A ws sz q) : va_A ws' sz q := by
  rcases h with ⟨k, e, h⟩ | h
  · obtain ⟨i, hi⟩ := List.getElem?_of_mem (hp.mem_iff.mp (List.mem_of_getElem? h))
    exact Or.inl ⟨i, e, hi⟩
  · exact Or.inr h
/-- the whole world goes to a callee -/
theorem gk_all {A : Nat → Prop} {ws : va_W} {H0 H : Heap} {locs : List Loc} (hD : va_D A ws) (hS : va_S A H0 H locs) (hA : ∀ q, H0.size ≤ q → A q) : ∀ q, va_A ws H.size q → A q := by
  intro q h
  rcases h with ⟨k, e, h⟩ | h
  · exact hD.2 k _ h
  · exact hA q (Nat.le_trans hS.1 h)
/-- a method's start and end, the world W -/
abbrev gPre (D : va_G) (tys : List (ClassId × FieldType)) (W : va_W) (sz : Nat) : State → Prop := fun U => U.heap.size = sz ∧ va_P D vwCl W U.heap ∧ va_K D vwCl tys U ∧ va_D (fun _ => True) W
abbrev gPost (D : va_G) (tys : List (ClassId × FieldType)) (A : Nat → Prop) (W : va_W) : State → Prop := fun t => va_P D vwCl W t.heap ∧ va_K D vwCl tys t ∧ va_D A W
theorem gPre_blind {av : List Value} {D : va_G} {tys : List (ClassId × FieldType)} {W : va_W} {sz : Nat} : FrameBlind (va_Pc av (gPre D tys W sz)) := fun a U g mk q => by
  obtain ⟨q0, q1, qP, qK, qD⟩ := q
  exact ⟨q0, q1, qP, va_K.moved (u := U) (U := U.calling g mk a) (Vm.Alike.refl U.vm) qK, qD⟩
theorem gPre_at {D : va_G} {tys : List (ClassId × FieldType)} {W : va_W} {A : Nat → Prop} {s U : State} {H : Heap} (hP : va_P D vwCl W H) (hK : va_K D vwCl tys s) (hD : va_D A W) (hU : U.heap = H) (hW : s.WarmedH U.vm) : gPre D tys W H.size U :=
  ⟨by rw [hU], by rw [hU]; exact hP, va_K.moved hW.alike hK, hD.weaken (fun _ _ _ _ => trivial)⟩
theorem gk_preS {av : List Value} {D : va_G} {tys : List (ClassId × FieldType)} {W : va_W} {A : Nat → Prop} {s : State} {H : Heap} (hP : va_P D vwCl W H) (hK : va_K D vwCl tys s) (hD : va_D A W) : PreS s H (va_Pc av (gPre D tys W H.size)) av :=
  ⟨gPre_blind, fun _ hU hW => ⟨rfl, gPre_at hP hK hD hU hW⟩⟩
theorem gk_preV {av : List Value} {b : Nat} {C : String} {D : va_G} {tys : List (ClassId × FieldType)} {W : va_W} {A : Nat → Prop} {s : State} {H : Heap} (hP : va_P D vwCl W H) (hK : va_K D vwCl tys s) (hD : va_D A W) (hr : ∃ cell : Cell, H[b]? = some cell ∧ cell.vm.isStatics = false ∧ s.vm.findClass C = some cell.cls) : PreV s H C b (va_Pc (.ref b :: av) (gPre D tys W H.size)) av :=
  ⟨gPre_blind, hr, fun _ hU hW => ⟨rfl, gPre_at hP hK hD hU hW⟩⟩
/-- behind a call of the whole world -/
theorem gk_back {D : va_G} {tys : List (ClassId × FieldType)} {W W1 : va_W} {A : Nat → Prop} {t : State} {H H1 : Heap} (hF : ∀ q, va_A W H.size q → A q) (hB : gPost D tys (va_A W H.size) W1 t) (ht : t.heap = H1) : va_P D vwCl W1 H1 ∧ va_D A W1 := by
  obtain ⟨h1, h2, h3⟩ := hB
  rw [ht] at h1
  exact ⟨h1, h3.weaken (fun k q _ h => hF q.1 h)⟩
theorem gk_recv {s : State} {H : Heap} {D : va_G} {X : va_W} {L : List Nat} {f : Nat → va_E} {tys : List (ClassId × FieldType)} {a ci : Nat} {r : vw_C} {fs : List Value} (hK : va_K D vwCl tys s) (hP : va_P D vwCl (X ++ va_pl L f) H) (hL : a ∈ L) (hfa : f a = .inr (ci, fs)) (hc : vwCl[ci]? = some r) : ∃ cell : Cell, H[a]? = some cell ∧ cell.vm.isStatics = false ∧ s.vm.findClass r.1 = some cell.cls := by
  obtain ⟨q, hq⟩ := va_pl_get (X := X) (f := f) hL
  rw [hfa] at hq
  exact va_recv hK hP hc hq
/-- what a throw of the class needs: the two statics of Throwable, the texts, words that the tables alone decide -/
def gTS : List (Nat × String) := [(65, "a claim was made"), (75, "no more lines can be added"), (92, "money is moved to another line"), (101, "at most a tenth of a budget can be moved away"), (114, "no more vouchers can be added"), (131, "the voucher is refused"), (137, "the voucher is not refused"), (139, "all match would be too much"), (175, "no more claims can be made"), (179, "no such claim"), (182, "an argument is out of range"), (184, "no such line"), (186, "no such voucher")]
def gTW : List Cond := (vx_atS RX2 67 "java/lang/IllegalStateException" ["java/lang/RuntimeException", "java/lang/Exception"] ++ vx_atS RX2 94 "java/lang/IllegalArgumentException" ["java/lang/RuntimeException", "java/lang/Exception"] ++ vx_atS RX2 181 "java/lang/IndexOutOfBoundsException" ["java/lang/RuntimeException", "java/lang/Exception"]).filter (fun w => !goodWord w)
def gNg : Cond → Bool
  | .declares _ => true
  | .castable _ _ => true
  | _ => false
theorem gNg_all : ∀ w ∈ gTW, gNg w = true := by decide +kernel
theorem gNg_warm {w : Cond} {s U : State} (hg : gNg w = true) (hW : s.WarmedH U.vm) (h : va_Nw w s) : va_Nw w U := by
  cases w with
  | declares x => exact va_Nw.warmD hW h
  | castable C T => exact va_Nw.warmC hW h
  | _ => cases hg
theorem gNg_tab {w : Cond} (hg : gNg w = true) : w.onTables = true := by
  cases w with
  | declares x => rfl
  | castable C T => rfl
  | _ => cases hg
def gTF (A : Nat → Prop) (U : State) (H : Heap) : Prop := vx_Zq Bundle.tN "UNASSIGNED_STACK" Bundle.steD A U H ∧ vx_Zq Bundle.tN "SUPPRESSED_SENTINEL" Bundle.listD A U H ∧ (∀ w ∈ gTW, va_Nw w U) ∧ ∀ q ∈ gTS, ∃ sa, vk_R RX2 q.1 q.2 sa U
theorem gTF_at {A A' : Nat → Prop} {s U : State} {H : Heap} {locs : List Loc} (h : gTF A s s.heap) (hS : va_S A s.heap H locs) (hF : ∀ q, A' q → A q) (hU : U.heap = H) (hW : s.WarmedH U.vm) : gTF A' U U.heap := by
  obtain ⟨h1, h2, h3, h4⟩ := h
  rw [hU]
  refine ⟨((h1.kept hS.2.1).moved hW.alike).narrow hF, ((h2.kept hS.2.1).moved hW.alike).narrow hF, fun w hw => gNg_warm (gNg_all w hw) hW (h3 w hw), fun q hq => ?_⟩
  obtain ⟨sa, h⟩ := h4 q hq
  exact ⟨sa, vk_R.warm hW h⟩
abbrev gPreT (D : va_G) (tys : List (ClassId × FieldType)) (W : va_W) (sz : Nat) : State → Prop := fun U => gTF (va_A W sz) U U.heap ∧ gPre D tys W sz U
theorem gPreT_blind {av : List Value} {D : va_G} {tys : List (ClassId × FieldType)} {W : va_W} {sz : Nat} : FrameBlind (va_Pc av (gPreT D tys W sz)) := fun a U g mk q => by
  obtain ⟨q0, ⟨t1, t2, t3, t4⟩, q1, qP, qK, qD⟩ := q
  refine ⟨q0, ⟨t1.moved (u := U) (U := U.calling g mk a) (Vm.Alike.refl U.vm), t2.moved (u := U) (U := U.calling g mk a) (Vm.Alike.refl U.vm), fun w hw => va_Nw.same (u := U) (U := U.calling g mk a) (gNg_tab (gNg_all w hw)) rfl (t3 w hw), fun q hq => ?_⟩, q1, qP, va_K.moved (u := U) (U := U.calling g mk a) (Vm.Alike.refl U.vm) qK, qD⟩
  obtain ⟨sa, h⟩ := t4 q hq
  exact ⟨sa, vk_R.same rfl h⟩
theorem gk_preST {av : List Value} {D : va_G} {tys : List (ClassId × FieldType)} {W : va_W} {A : Nat → Prop} {s : State} {H : Heap} {locs : List Loc} (hT : gTF A s s.heap) (hS : va_S A s.heap H locs) (hF : ∀ q, va_A W H.size q → A q) (hP : va_P D vwCl W H) (hK : va_K D vwCl tys s) (hD : va_D A W) : PreS s H (va_Pc av (gPreT D tys W H.size)) av :=
  ⟨gPreT_blind, fun _ hU hW => ⟨rfl, gTF_at hT hS hF hU hW, gPre_at hP hK hD hU hW⟩⟩
theorem gk_preVT {av : List Value} {b : Nat} {C : String} {D : va_G} {tys : List (ClassId × FieldType)} {W : va_W} {A : Nat → Prop} {s : State} {H : Heap} {locs : List Loc} (hT : gTF A s s.heap) (hS : va_S A s.heap H locs) (hF : ∀ q, va_A W H.size q → A q) (hP : va_P D vwCl W H) (hK : va_K D vwCl tys s) (hD : va_D A W) (hr : ∃ cell : Cell, H[b]? = some cell ∧ cell.vm.isStatics = false ∧ s.vm.findClass C = some cell.cls) : PreV s H C b (va_Pc (.ref b :: av) (gPreT D tys W H.size)) av :=
  ⟨gPreT_blind, hr, fun _ hU hW => ⟨rfl, gTF_at hT hS hF hU hW, gPre_at hP hK hD hU hW⟩⟩
/-- the words of a throw: the good ones from the method's list, the others from what a throw needs -/
theorem gk_hat {args : Array Value} {s : State} {A : Nat → Prop} {H : Heap} {L : List Cond} (h1 : ∀ w ∈ L.filter goodWord, w.before args s = true) (hT : gTF A s H) (h2 : ∀ w ∈ L.filter (fun w => !goodWord w), w ∈ gTW) : ∀ w ∈ L, w.before args s = true :=
  vx_hat h1 h2 (fun w hw => va_Nw.use (gNg_tab (gNg_all w hw)) (hT.2.2.1 w hw))
/-- an exception of the class leaves: E by its name, the world as it was -/
abbrev gThr (D : va_G) (tys : List (ClassId × FieldType)) (A : Nat → Prop) (W : va_W) (px : String → Prop) : String → State → State → Prop := vx_X px (fun E u t => E = u ∧ gPost D tys A W t) A
end
section
/-- the chain from o on by nx -/
def gCh (nx : Nat → Option Nat) : Option Nat → List Nat → Prop
  | o, [] => o = none
  | o, a :: w => o = some a ∧ gCh nx (nx a) w
/-- whether a voucher is taken -/
def gAcc (f l rf d : Int32) : Int32 := if rf = 0 then (if d < f then 0 else if l < d then 0 else 1) else 0
/-- what is eligible of one, when rest is left -/
def gEl (f l rf d am rest : Int32) : Int32 := if gAcc f l rf d = 0 then 0 else if rest < am then rest else am
/-- what is eligible of each of a chain -/
def gRk (f l : Int32) (vrf vda vam : Nat → Int32) : List Nat → Int32 → (Nat → Int32) → (Nat → Int32)
  | [], _, el => el
  | a :: w, rest, el => gRk f l vrf vda vam w (rest - gEl f l (vrf a) (vda a) (vam a) rest) (va_up el a (gEl f l (vrf a) (vda a) (vam a) rest))
/-- the sum of a chain's front up to day d -/
def gSu (vel vda : Nat → Int32) (d : Int32) : List Nat → Int32 → Int32
  | [], s => s
  | a :: w, s => if d < vda a then s else gSu vel vda d w (s + vel a)
/-- where a new one goes: behind those of its day and earlier ones -/
def gFr (vda : Nat → Int32) (d : Int32) : List Nat → List Nat
  | [] => []
  | a :: w => if d < vda a then [] else a :: gFr vda d w
def gBk (vda : Nat → Int32) (d : Int32) : List Nat → List Nat
  | [] => []
  | a :: w => if d < vda a then a :: w else gBk vda d w
theorem gFB (vda : Nat → Int32) (d : Int32) : ∀ w, gFr vda d w ++ gBk vda d w = w
  | [] => rfl
  | a :: w => by
    unfold gFr gBk
    by_cases h : d < vda a
    · rw [if_pos h, if_pos h]; rfl
    · rw [if_neg h, if_neg h, List.cons_append, gFB vda d w]
theorem gCh_app {nx : Nat → Option Nat} : ∀ {o : Option Nat} {x y : List Nat}, gCh nx o (x ++ y) ↔ ∃ q, (∀ z, gCh nx q z → gCh nx o (x ++ z)) ∧ gCh nx q y ∧ (x = [] → q = o) ∧ ∀ a, x.getLast? = some a → nx a = q := by
  intro o x
  induction x generalizing o with
  | nil => intro y; exact ⟨fun h => ⟨o, fun z hz => hz, h, fun _ => rfl, fun a h => by simp at h⟩, fun ⟨q, h1, h2, h3, h4⟩ => by rw [h3 rfl] at h2; exact h2⟩
  | cons a x ih =>
    intro y
    constructor
    · rintro ⟨rfl, h⟩
      obtain ⟨q, h1, h2, h3, h4⟩ := ih.mp h
      refine ⟨q, fun z hz => ⟨rfl, h1 z hz⟩, h2, fun h => by simp at h, fun b hb => ?_⟩
      cases x with
      | nil => simp at hb; subst hb; exact (h3 rfl).symm
      | cons c x => rw [List.getLast?_cons_cons] at hb; exact h4 b hb
    · rintro ⟨q, h1, h2, -, -⟩
      exact h1 y h2
/-- a chain doesn't see what is changed off it -/
theorem gCh_congr {nx nx' : Nat → Option Nat} : ∀ {w : List Nat} {o : Option Nat}, gCh nx o w → (∀ a ∈ w, nx' a = nx a) → gCh nx' o w
  | [], _, h, _ => h
  | a :: w, _, h, e => ⟨h.1, by rw [e a List.mem_cons_self]; exact gCh_congr h.2 (fun b hb => e b (List.mem_cons_of_mem _ hb))⟩
theorem gCh_nodup_aux {nx : Nat → Option Nat} : ∀ {w : List Nat} {o : Option Nat}, gCh nx o w → ∀ {w' : List Nat}, gCh nx o w' → w = w'
  | [], o, h, [], _ => rfl
  | [], o, h, a :: w', h' => by obtain ⟨h1, -⟩ := h'; rw [h1] at h; cases h
  | a :: w, o, h, [], h' => by obtain ⟨h1, -⟩ := h; rw [h1] at h'; cases h'
  | a :: w, o, h, b :: w', h' => by
    obtain ⟨h1, h2⟩ := h
    obtain ⟨h3, h4⟩ := h'
    rw [h1] at h3
    cases h3
    rw [gCh_nodup_aux h2 h4]
/-- a chain that ends has no cell twice -/
theorem gCh_suffix {nx : Nat → Option Nat} : ∀ {w : List Nat} {o : Option Nat}, gCh nx o w → ∀ a ∈ w, ∃ x y, w = x ++ a :: y ∧ gCh nx (some a) (a :: y)
  | b :: w, o, h, a, ha => by
    obtain ⟨rfl, h1⟩ := h
    rcases List.mem_cons.mp ha with rfl | ha
    · exact ⟨[], w, rfl, rfl, h1⟩
    · obtain ⟨x, y, rfl, h2⟩ := gCh_suffix h1 a ha
      exact ⟨b :: x, y, rfl, h2⟩
theorem gCh_nodup {nx : Nat → Option Nat} : ∀ {w : List Nat} {o : Option Nat}, gCh nx o w → w.Nodup
  | [], _, _ => List.nodup_nil
  | a :: w, o, h => by
    obtain ⟨rfl, h1⟩ := h
    refine List.nodup_cons.mpr ⟨fun ha => ?_, gCh_nodup h1⟩
    obtain ⟨x, y, hw, h2⟩ := gCh_suffix h1 a ha
    have h3 := gCh_nodup_aux (show gCh nx (some a) (a :: w) from ⟨rfl, h1⟩) h2
    have h4 := congrArg List.length h3
    rw [hw] at h4
    simp at h4
    omega
/-- the chain with v0 put in -/
theorem gPut0 {ear ear' vnx vnx' : Nat → Option Nat} {vda : Nat → Int32} {h0 v0 : Nat} {ch w : List Nat} (e1 : ear' = va_up ear h0 (some v0)) (e2 : vnx' = va_up vnx v0 (ear h0)) (hf : gFr vda (vda v0) ch = []) (hb : gBk vda (vda v0) ch = w) (hch : gCh vnx (ear h0) ch) (hv : v0 ∉ ch) (hc : ch = [] ++ w) : gCh vnx' (ear' h0) (gFr vda (vda v0) ch ++ v0 :: gBk vda (vda v0) ch) ∧ (∀ y, y ∉ v0 :: ch → vnx' y = vnx y) ∧ ∀ y, y ≠ h0 → ear' y = ear y := by
  subst e1 e2
  have hw : ch = w := hc
  subst hw
  rw [hf, hb, List.nil_append]
  refine ⟨⟨va_up_self _ _ _, ?_⟩, fun y hy => va_up_ne _ _ (fun h => hy (by rw [h]; exact List.mem_cons_self)), fun y hy => va_up_ne _ _ hy⟩
  rw [va_up_self]
  exact gCh_congr hch (fun a ha => va_up_ne _ _ (fun h => hv (h ▸ ha)))
theorem gPut1 {ear vnx vnx1 vnx' : Nat → Option Nat} {vda : Nat → Int32} {h0 v0 x : Nat} {ch pr w : List Nat} (e1 : vnx1 = va_up vnx v0 (vnx x)) (e2 : vnx' = va_up vnx1 x (some v0)) (hf : gFr vda (vda v0) ch = pr) (hb : gBk vda (vda v0) ch = w) (hch : gCh vnx (ear h0) ch) (hv : v0 ∉ ch) (hx : pr.getLast? = some x) (hc : ch = pr ++ w) : gCh vnx' (ear h0) (gFr vda (vda v0) ch ++ v0 :: gBk vda (vda v0) ch) ∧ (∀ y, y ∉ v0 :: ch → vnx' y = vnx y) ∧ ∀ y, y ≠ h0 → ear y = ear y := by
  subst e1 e2
  have hxc : x ∈ ch := by rw [hc]; exact List.mem_append_left _ (List.mem_of_getLast? hx)
  have hxv : x ≠ v0 := fun h => hv (h ▸ hxc)
  refine ⟨?_, fun y hy => ?_, fun _ _ => rfl⟩
  · rw [hf, hb]
    rw [hc] at hch hv
    obtain ⟨p9, rfl⟩ : ∃ p9, pr = p9 ++ [x] := by
      rcases List.eq_nil_or_concat pr with rfl | ⟨p9, z, rfl⟩
      · simp at hx
      · have hz : z = x := by simpa using hx
        subst hz
        exact ⟨p9, by simp⟩
    have hnd : ∀ (p : List Nat) (o : Option Nat), gCh vnx o ((p ++ [x]) ++ w) → v0 ∉ ((p ++ [x]) ++ w) → x ∉ p → gCh (va_up (va_up vnx v0 (vnx x)) x (some v0)) o ((p ++ [x]) ++ v0 :: w) ∨ x ∈ w := by
      intro p
      induction p with
      | nil =>
        intro o h1 h2 h3
        obtain ⟨rfl, h1⟩ := h1
        by_cases hxw : x ∈ w
        · exact Or.inr hxw
        · refine Or.inl ⟨rfl, va_up_self _ _ _, ?_⟩
          rw [va_up_ne _ _ (Ne.symm hxv), va_up_self]
          refine gCh_congr h1 (fun a ha => ?_)
          rw [va_up_ne _ _ (fun h => hxw (by rw [← h]; exact ha)), va_up_ne _ _ (fun h => h2 (by rw [← h]; exact List.mem_append_right _ ha))]
      | cons b p ih =>
        intro o h1 h2 h3
        obtain ⟨rfl, h1⟩ := h1
        have hb9 : b ≠ x := fun h => h3 (by rw [h]; exact List.mem_cons_self)
        have hb8 : b ≠ v0 := fun h => h2 (by rw [h]; exact List.mem_cons_self)
        rcases ih (vnx b) h1 (fun h => h2 (List.mem_cons_of_mem _ h)) (fun h => h3 (List.mem_cons_of_mem _ h)) with h | h
        · refine Or.inl ⟨rfl, ?_⟩
          rw [va_up_ne _ _ hb9, va_up_ne _ _ hb8]
          exact h
        · exact Or.inr h
    have hnodup := gCh_nodup hch
    have hx1 : x ∉ p9 := fun h => by
      have := (List.nodup_append.mp (List.nodup_append.mp hnodup).1).2.2 x h x List.mem_cons_self
      exact this rfl
    have hx2 : x ∉ w := fun h => (List.nodup_append.mp hnodup).2.2 x (List.mem_append_right _ List.mem_cons_self) x h rfl
    rcases hnd p9 _ hch hv hx1 with h | h
    · exact h
    · exact absurd h hx2
  · rw [va_up_ne _ _ (fun h => hy (by rw [h]; exact List.mem_cons_of_mem _ hxc)), va_up_ne _ _ (fun h => hy (by rw [h]; exact List.mem_cons_self))]
set_option maxHeartbeats 4000000 in
set_option maxRecDepth 100000 in
theorem kX0_money (l : Launch) (D : va_G) (tys : List (ClassId × FieldType)) (X : va_W) (L : List Nat) (K : Nat → Nat) (bud fsd las bas mvi mva : Nat → Int32) (ear vln : Nat → Option Nat) (vda vam vrf vel : Nat → Int32) (vnx : Nat → Option Nat) (h0 : Nat) (hL0 : h0 ∈ L) (hK0 : K h0 = 0) (sz : Nat) (A : Nat → Prop) (hAe : va_A (X ++ va_pl L (gE K bud fsd las bas mvi mva ear vln vda vam vrf vel vnx)) sz = A) : Met l yX0_money wsX0_money ({ frames := 0, cells := 0, slots := 0, locals := 0 }) (va_Pc [.ref h0] (gPre D tys (X ++ va_pl L (gE K bud fsd las bas mvi mva ear vln vda vam vrf vel vnx)) sz)) (va_Qi (fun (r : Int32) (_ : Unit) => r = bud h0 + mvi h0 - mva h0) (fun (_ : Unit) t => gPost D tys A (X ++ va_pl L (gE K bud fsd las bas mvi mva ear vln vda vam vrf vel vnx)) t) A) 0 0 A := by
  refine Met.ofW (cc := cX0_money) (maxL := 1) (ret := (some .int)) (by decide) rfl ?_
  intro p e s m args below meth c s₁ B hml hv
  obtain ⟨rfl, hsz, hP, hK, hD0⟩ := hv
  have hx := B.exec
  have hb := B.bytes
  have hr := B.returns
  have hts := atoms_spec (ws := wsX0_money) B.pre
  have hown : s.vm.findClass RX0 = some m.cls := findClass_of_methodNamed B.named
  have hlocks := B.notSynchronized
  subst hsz
  have hD := hD0.self (sz := s.heap.size)
  rw [hAe] at hD
  have hA : ∀ q : Nat, s.heap.size ≤ q → A q := fun q h => by rw [← hAe]; exact Or.inr h
  have hS : va_S A s.heap s.heap [] := va_S.rf
  have hP : va_P D vwCl (X ++ va_pl L (gE K bud fsd las bas mvi mva ear vln vda vam vrf vel vnx)) s.heap := hP
  have hi0 : ∀ w ∈ wsX00, w ∈ wsX0_money := fun _ h => List.mem_cons_of_mem _ (List.mem_append_right _ h)
  have hl := lv_entry ([.ref h0]) (n := 1) (Nat.le_of_ble_eq_true rfl)
  rw [lg_entry_eq]
  generalize (lg_sl ([.ref h0]) ++ List.replicate (1 - (lg_sl ([.ref h0])).length) Slot.unset).toArray = ls at hl ⊢
  have hl : lv_has ls 1 [(0, .ref h0)] := hl
  refine lv_aload_n hx hb dX0_money_0 rfl (lv_at hl 0 rfl) ?_
  refine gk_get (C := RX0) (T := TX0) (N := 7) (v := .int (bud h0)) hx hb hts hi0 hown hK hP hL0 (gE_0 hK0) rfl 0 (by decide) (hts (.fieldLink RX0 20 "GrantBook$Line" "budget" "I") (List.mem_of_getElem? (i := 1) rfl)) (fun _ h9 => h9) rfl dX0_money_1 ?_
  refine lv_aload_n hx hb dX0_money_4 rfl (lv_at hl 0 rfl) ?_
  refine gk_get (C := RX0) (T := TX0) (N := 7) (v := .int (mvi h0)) hx hb hts hi0 hown hK hP hL0 (gE_0 hK0) rfl 4 (by decide) (hts (.fieldLink RX0 7 "GrantBook$Line" "movedIn" "I") (List.mem_of_getElem? (i := 2) rfl)) (fun _ h9 => h9) rfl dX0_money_5 ?_
  refine lv_iadd hx hb dX0_money_8 ?_
  refine lv_aload_n hx hb dX0_money_9 rfl (lv_at hl 0 rfl) ?_
  refine gk_get (C := RX0) (T := TX0) (N := 7) (v := .int (mva h0)) hx hb hts hi0 hown hK hP hL0 (gE_0 hK0) rfl 5 (by decide) (hts (.fieldLink RX0 13 "GrantBook$Line" "movedAway" "I") (List.mem_of_getElem? (i := 3) rfl)) (fun _ h9 => h9) rfl dX0_money_10 ?_
  refine lv_isub hx hb dX0_money_13 ?_
  refine W.widen (k := 0) (n := 0) (Nat.le_of_ble_eq_true rfl) (Nat.le_of_ble_eq_true rfl) ?_
  exact W.iret (v := (((bud h0) + (mvi h0)) - (mva h0))) hx hb hr (fun t ht hW => ⟨⟨(((bud h0) + (mvi h0)) - (mva h0)), (), rfl, rfl, by rw [ht]; exact hP, va_K.moved hW.alike hK, hD⟩, hS.F ht⟩) hS.2.2 dX0_money_14
set_option maxHeartbeats 4000000 in
set_option maxRecDepth 100000 in
theorem kX0_accepts (l : Launch) (D : va_G) (tys : List (ClassId × FieldType)) (X : va_W) (L : List Nat) (K : Nat → Nat) (bud fsd las bas mvi mva : Nat → Int32) (ear vln : Nat → Option Nat) (vda vam vrf vel : Nat → Int32) (vnx : Nat → Option Nat) (h0 : Nat) (hL0 : h0 ∈ L) (hK0 : K h0 = 0) (v0 : Nat) (hLv : v0 ∈ L) (hKv : K v0 = 1) (sz : Nat) (A : Nat → Prop) (hAe : va_A (X ++ va_pl L (gE K bud fsd las bas mvi mva ear vln vda vam vrf vel vnx)) sz = A) : Met l yX0_accepts wsX0_accepts ({ frames := 0, cells := 0, slots := 0, locals := 0 }) (va_Pc [.ref h0, .ref v0] (gPre D tys (X ++ va_pl L (gE K bud fsd las bas mvi mva ear vln vda vam vrf vel vnx)) sz)) (va_Qi (fun (r : Int32) (_ : Unit) => r = gAcc (fsd h0) (las h0) (vrf v0) (vda v0)) (fun (_ : Unit) t => gPost D tys A (X ++ va_pl L (gE K bud fsd las bas mvi mva ear vln vda vam vrf vel vnx)) t) A) 0 0 A := by
  refine Met.ofW (cc := cX0_accepts) (maxL := 2) (ret := (some .boolean)) (by decide) rfl ?_
  intro p e s m args below meth c s₁ B hml hv
  obtain ⟨rfl, hsz, hP, hK, hD0⟩ := hv
  have hx := B.exec
  have hb := B.bytes
  have hr := B.returns
  have hts := atoms_spec (ws := wsX0_accepts) B.pre
  have hown : s.vm.findClass RX0 = some m.cls := findClass_of_methodNamed B.named
  have hlocks := B.notSynchronized
  subst hsz
  have hD := hD0.self (sz := s.heap.size)
  rw [hAe] at hD
  have hA : ∀ q : Nat, s.heap.size ≤ q → A q := fun q h => by rw [← hAe]; exact Or.inr h
  have hS : va_S A s.heap s.heap [] := va_S.rf
  have hP : va_P D vwCl (X ++ va_pl L (gE K bud fsd las bas mvi mva ear vln vda vam vrf vel vnx)) s.heap := hP
  have hi0 : ∀ w ∈ wsX00, w ∈ wsX0_accepts := fun _ h => List.mem_cons_of_mem _ (List.mem_append_right _ h)
  have hi1 : ∀ w ∈ wsX10, w ∈ wsX0_accepts := fun _ h => List.mem_cons_of_mem _ (List.mem_append_left _ (List.mem_append_right _ h))
  have hl := lv_entry ([.ref h0, .ref v0]) (n := 2) (Nat.le_of_ble_eq_true rfl)
  rw [lg_entry_eq]
  generalize (lg_sl ([.ref h0, .ref v0]) ++ List.replicate (2 - (lg_sl ([.ref h0, .ref v0])).length) Slot.unset).toArray = ls at hl ⊢
  have hl : lv_has ls 2 [(0, .ref h0), (1, .ref v0)] := hl
  refine lv_aload_n hx hb dX0_accepts_0 rfl (lv_at hl 1 rfl) ?_
  refine gk_get (C := RX1) (T := TX1) (N := 6) (v := .int (vrf v0)) hx hb hts hi1 hown hK hP hLv (gE_1 hKv) rfl 3 (by decide) (hts (.fieldLink RX0 33 "GrantBook$Voucher" "isRefused" "Z") (List.mem_of_getElem? (i := 1) rfl)) (fun _ h9 => h9) rfl dX0_accepts_1 ?_
  refine lv_if_ne (tgt := 33) hx hb dX0_accepts_4 (by decide) (fun c_1 => ?_) (fun c_1 => ?_)
  · refine lv_iconst (v := 0) hx hb dX0_accepts_33 (by decide) ?_
    refine W.widen (k := 0) (n := 0) (Nat.le_of_ble_eq_true rfl) (Nat.le_of_ble_eq_true rfl) ?_
    exact W.zret (v := 0) hx hb hr rfl (fun t ht hW => ⟨⟨0, (), rfl, (by unfold gAcc; rw [if_neg c_1]), by rw [ht]; exact hP, va_K.moved hW.alike hK, hD⟩, hS.F ht⟩) hS.2.2 dX0_accepts_34
  · refine lv_aload_n hx hb dX0_accepts_7 rfl (lv_at hl 1 rfl) ?_
    refine gk_get (C := RX1) (T := TX1) (N := 6) (v := .int (vda v0)) hx hb hts hi1 hown hK hP hLv (gE_1 hKv) rfl 1 (by decide) (hts (.fieldLink RX0 38 "GrantBook$Voucher" "day" "I") (List.mem_of_getElem? (i := 2) rfl)) (fun _ h9 => h9) rfl dX0_accepts_8 ?_
    refine lv_aload_n hx hb dX0_accepts_11 rfl (lv_at hl 0 rfl) ?_
    refine gk_get (C := RX0) (T := TX0) (N := 7) (v := .int (fsd h0)) hx hb hts hi0 hown hK hP hL0 (gE_0 hK0) rfl 1 (by decide) (hts (.fieldLink RX0 23 "GrantBook$Line" "first" "I") (List.mem_of_getElem? (i := 3) rfl)) (fun _ h9 => h9) rfl dX0_accepts_12 ?_
    refine lv_icmp_lt (tgt := 33) hx hb dX0_accepts_15 (by decide) (fun c_2 => ?_) (fun c_2 => ?_)
    · refine lv_iconst (v := 0) hx hb dX0_accepts_33 (by decide) ?_
      refine W.widen (k := 0) (n := 0) (Nat.le_of_ble_eq_true rfl) (Nat.le_of_ble_eq_true rfl) ?_
      exact W.zret (v := 0) hx hb hr rfl (fun t ht hW => ⟨⟨0, (), rfl, (by unfold gAcc; rw [if_pos c_1, if_pos c_2]), by rw [ht]; exact hP, va_K.moved hW.alike hK, hD⟩, hS.F ht⟩) hS.2.2 dX0_accepts_34
    · refine lv_aload_n hx hb dX0_accepts_18 rfl (lv_at hl 1 rfl) ?_
      refine gk_get (C := RX1) (T := TX1) (N := 6) (v := .int (vda v0)) hx hb hts hi1 hown hK hP hLv (gE_1 hKv) rfl 1 (by decide) (hts (.fieldLink RX0 38 "GrantBook$Voucher" "day" "I") (List.mem_of_getElem? (i := 2) rfl)) (fun _ h9 => h9) rfl dX0_accepts_19 ?_
      refine lv_aload_n hx hb dX0_accepts_22 rfl (lv_at hl 0 rfl) ?_
      refine gk_get (C := RX0) (T := TX0) (N := 7) (v := .int (las h0)) hx hb hts hi0 hown hK hP hL0 (gE_0 hK0) rfl 2 (by decide) (hts (.fieldLink RX0 26 "GrantBook$Line" "last" "I") (List.mem_of_getElem? (i := 4) rfl)) (fun _ h9 => h9) rfl dX0_accepts_23 ?_
      refine lv_icmp_gt (tgt := 33) hx hb dX0_accepts_26 (by decide) (fun c_3 => ?_) (fun c_3 => ?_)
      · refine lv_iconst (v := 0) hx hb dX0_accepts_33 (by decide) ?_
        refine W.widen (k := 0) (n := 0) (Nat.le_of_ble_eq_true rfl) (Nat.le_of_ble_eq_true rfl) ?_
        exact W.zret (v := 0) hx hb hr rfl (fun t ht hW => ⟨⟨0, (), rfl, (by unfold gAcc; rw [if_pos c_1, if_neg c_2, if_pos c_3]), by rw [ht]; exact hP, va_K.moved hW.alike hK, hD⟩, hS.F ht⟩) hS.2.2 dX0_accepts_34
      · refine lv_iconst (v := 1) hx hb dX0_accepts_29 (by decide) ?_
        refine lv_goto (tgt := 34) hx hb dX0_accepts_30 (by decide) ?_
        refine W.widen (k := 0) (n := 0) (Nat.le_of_ble_eq_true rfl) (Nat.le_of_ble_eq_true rfl) ?_
        exact W.zret (v := 1) hx hb hr rfl (fun t ht hW => ⟨⟨1, (), rfl, (by unfold gAcc; rw [if_pos c_1, if_neg c_2, if_neg c_3]), by rw [ht]; exact hP, va_K.moved hW.alike hK, hD⟩, hS.F ht⟩) hS.2.2 dX0_accepts_34
set_option maxHeartbeats 4000000 in
set_option maxRecDepth 100000 in
theorem kX0_eligibleUpTo (l : Launch) (D : va_G) (tys : List (ClassId × FieldType)) (X : va_W) (L : List Nat) (K : Nat → Nat) (bud fsd las bas mvi mva : Nat → Int32) (ear vln : Nat → Option Nat) (vda vam vrf vel : Nat → Int32) (vnx : Nat → Option Nat) (h0 : Nat) (hL0 : h0 ∈ L) (hK0 : K h0 = 0) (ch : List Nat) (hch : gCh vnx (ear h0) ch) (hcl : ∀ y ∈ ch, y ∈ L ∧ K y = 1) (d0 : Int32) (sz : Nat) (A : Nat → Prop) (hAe : va_A (X ++ va_pl L (gE K bud fsd las bas mvi mva ear vln vda vam vrf vel vnx)) sz = A) : Met l yX0_eligibleUpTo wsX0_eligibleUpTo ({ frames := 0, cells := 0, slots := 0, locals := 0 }) (va_Pc [.ref h0, .int d0] (gPre D tys (X ++ va_pl L (gE K bud fsd las bas mvi mva ear vln vda vam vrf vel vnx)) sz)) (va_Qi (fun (r : Int32) (_ : Unit) => r = gSu vel vda d0 ch 0) (fun (_ : Unit) t => gPost D tys A (X ++ va_pl L (gE K bud fsd las bas mvi mva ear vln vda vam vrf vel vnx)) t) A) 0 0 A := by
  refine Met.ofW (cc := cX0_eligibleUpTo) (maxL := 4) (ret := (some .int)) (by decide) rfl ?_
  intro p e s m args below meth c s₁ B hml hv
  obtain ⟨rfl, hsz, hP, hK, hD0⟩ := hv
  have hx := B.exec
  have hb := B.bytes
  have hr := B.returns
  have hts := atoms_spec (ws := wsX0_eligibleUpTo) B.pre
  have hown : s.vm.findClass RX0 = some m.cls := findClass_of_methodNamed B.named
  have hlocks := B.notSynchronized
  subst hsz
  have hD := hD0.self (sz := s.heap.size)
  rw [hAe] at hD
  have hA : ∀ q : Nat, s.heap.size ≤ q → A q := fun q h => by rw [← hAe]; exact Or.inr h
  have hS : va_S A s.heap s.heap [] := va_S.rf
  have hP : va_P D vwCl (X ++ va_pl L (gE K bud fsd las bas mvi mva ear vln vda vam vrf vel vnx)) s.heap := hP
  have hi0 : ∀ w ∈ wsX00, w ∈ wsX0_eligibleUpTo := fun _ h => List.mem_cons_of_mem _ (List.mem_append_left _ (List.mem_append_right _ h))
  have hi1 : ∀ w ∈ wsX10, w ∈ wsX0_eligibleUpTo := fun _ h => List.mem_cons_of_mem _ (List.mem_append_right _ h)
  have hl := lv_entry ([.ref h0, .int d0]) (n := 4) (Nat.le_of_ble_eq_true rfl)
  rw [lg_entry_eq]
  generalize (lg_sl ([.ref h0, .int d0]) ++ List.replicate (4 - (lg_sl ([.ref h0, .int d0])).length) Slot.unset).toArray = ls at hl ⊢
  have hl : lv_has ls 4 [(0, .ref h0), (1, .int d0)] := hl
  have loop : ∀ (w : List Nat) (o : Option Nat) (sm : Int32) (H : Heap) (locs : List Loc) (ls : Array Slot), gCh vnx o w → (∀ y ∈ w, y ∈ L ∧ K y = 1) → gSu vel vda d0 w sm = gSu vel vda d0 ch 0 → va_P D vwCl (X ++ va_pl L (gE K bud fsd las bas mvi mva ear vln vda vam vrf vel vnx)) H → va_D A (X ++ va_pl L (gE K bud fsd las bas mvi mva ear vln vda vam vrf vel vnx)) → va_S A s.heap H locs → lv_has ls 4 [(3, va_rf o), (2, .int sm), (0, .ref h0), (1, .int d0)] → W p l e (headSpec wsX0_eligibleUpTo ({ frames := 0, cells := 0, slots := 0, locals := 0 })).room s m ([.ref h0, .int d0] : List Value).toArray below meth c H locs 0 0 (MQ below (va_Qi (fun (r : Int32) (_ : Unit) => r = gSu vel vda d0 ch 0) (fun (_ : Unit) t => gPost D tys A (X ++ va_pl L (gE K bud fsd las bas mvi mva ear vln vda vam vrf vel vnx)) t) A) ([.ref h0, .int d0] : List Value).toArray s 0 0 A) (F0 m 7 ls []) := by
    intro w
    induction w with
    | nil =>
      intro o sm H locs ls ho hw he hP hD hS hl
      obtain rfl : o = none := ho
      have hl : lv_has ls 4 [(3, .null), (2, .int sm), (0, .ref h0), (1, .int d0)] := hl
      refine lv_aload_nN hx hb dX0_eligibleUpTo_7 rfl (lv_at hl 0 rfl) ?_
      refine lv_ifnullN (tgt := 34) hx hb dX0_eligibleUpTo_8 (by decide) ?_
      refine lv_iload_n hx hb dX0_eligibleUpTo_34 rfl (lv_at hl 1 rfl) ?_
      refine W.widen (k := 0) (n := 0) (Nat.le_of_ble_eq_true rfl) (Nat.le_of_ble_eq_true rfl) ?_
      exact W.iret (v := sm) hx hb hr (fun t ht hW => ⟨⟨sm, (), rfl, he, by rw [ht]; exact hP, va_K.moved hW.alike hK, hD⟩, hS.F ht⟩) hS.2.2 dX0_eligibleUpTo_35
    | cons a w ih =>
      intro o sm H locs ls ho hw he hP hD hS hl
      obtain ⟨rfl, ho⟩ := ho
      obtain ⟨hLa, hKa⟩ := hw a List.mem_cons_self
      have hl : lv_has ls 4 [(3, .ref a), (2, .int sm), (0, .ref h0), (1, .int d0)] := hl
      refine lv_aload_n hx hb dX0_eligibleUpTo_7 rfl (lv_at hl 0 rfl) ?_
      refine lv_ifnull hx hb dX0_eligibleUpTo_8 ?_
      refine lv_aload_n hx hb dX0_eligibleUpTo_11 rfl (lv_at hl 0 rfl) ?_
      refine gk_get (C := RX1) (T := TX1) (N := 6) (v := .int (vda a)) hx hb hts hi1 hown hK hP hLa (gE_1 hKa) rfl 1 (by decide) (hts (.fieldLink RX0 38 "GrantBook$Voucher" "day" "I") (List.mem_of_getElem? (i := 2) rfl)) (fun _ h9 => h9) rfl dX0_eligibleUpTo_12 ?_
      refine lv_iload_n hx hb dX0_eligibleUpTo_15 rfl (lv_at hl 3 rfl) ?_
      refine lv_icmp_gt (tgt := 34) hx hb dX0_eligibleUpTo_16 (by decide) (fun c_1 => ?_) (fun c_1 => ?_)
      · refine lv_iload_n hx hb dX0_eligibleUpTo_34 rfl (lv_at hl 1 rfl) ?_
        refine W.widen (k := 0) (n := 0) (Nat.le_of_ble_eq_true rfl) (Nat.le_of_ble_eq_true rfl) ?_
        exact W.iret (v := sm) hx hb hr (fun t ht hW => ⟨⟨sm, (), rfl, (by rw [← he]; show _ = (if d0 < vda a then _ else _); rw [if_pos c_1]), by rw [ht]; exact hP, va_K.moved hW.alike hK, hD⟩, hS.F ht⟩) hS.2.2 dX0_eligibleUpTo_35
      · refine lv_iload_n hx hb dX0_eligibleUpTo_19 rfl (lv_at hl 1 rfl) ?_
        refine lv_aload_n hx hb dX0_eligibleUpTo_20 rfl (lv_at hl 0 rfl) ?_
        refine gk_get (C := RX1) (T := TX1) (N := 6) (v := .int (vel a)) hx hb hts hi1 hown hK hP hLa (gE_1 hKa) rfl 4 (by decide) (hts (.fieldLink RX0 61 "GrantBook$Voucher" "eligible" "I") (List.mem_of_getElem? (i := 3) rfl)) (fun _ h9 => h9) rfl dX0_eligibleUpTo_21 ?_
        refine lv_iadd hx hb dX0_eligibleUpTo_24 ?_
        refine lv_istore_n (lv' := [(2, .int (sm + (vel a))), (3, .ref a), (0, .ref h0), (1, .int d0)]) hx hb dX0_eligibleUpTo_25 rfl hl (by decide) rfl (fun ls hl => ?_)
        refine lv_aload_n hx hb dX0_eligibleUpTo_26 rfl (lv_at hl 1 rfl) ?_
        refine gk_get (C := RX1) (T := TX1) (N := 6) (v := va_rf (vnx a)) hx hb hts hi1 hown hK hP hLa (gE_1 hKa) rfl 5 (by decide) (hts (.fieldLink RX0 41 "GrantBook$Voucher" "next" "LGrantBook$Voucher;") (List.mem_of_getElem? (i := 4) rfl)) (fun _ h9 => h9) rfl dX0_eligibleUpTo_27 ?_
        rcases hq_2 : vnx a with _ | a_2
        · refine lv_astore_nN (lv' := [(3, .null), (2, .int (sm + (vel a))), (0, .ref h0), (1, .int d0)]) hx hb dX0_eligibleUpTo_30 rfl hl (by decide) rfl (fun ls hl => ?_)
          refine lv_goto (tgt := 7) hx hb dX0_eligibleUpTo_31 (by decide) ?_
          exact ih (vnx a) _ _ _ _ ho (fun y hy => hw y (List.mem_cons_of_mem _ hy)) (by rw [← he]; show _ = (if d0 < vda a then _ else _); rw [if_neg c_1]) hP hD hS (by rw [hq_2]; exact lv_sub hl [0, 1, 2, 3] rfl)
        · refine lv_astore_n (lv' := [(3, .ref a_2), (2, .int (sm + (vel a))), (0, .ref h0), (1, .int d0)]) hx hb dX0_eligibleUpTo_30 rfl hl (by decide) rfl (fun ls hl => ?_)
          refine lv_goto (tgt := 7) hx hb dX0_eligibleUpTo_31 (by decide) ?_
          exact ih (vnx a) _ _ _ _ ho (fun y hy => hw y (List.mem_cons_of_mem _ hy)) (by rw [← he]; show _ = (if d0 < vda a then _ else _); rw [if_neg c_1]) hP hD hS (by rw [hq_2]; exact lv_sub hl [0, 1, 2, 3] rfl)
  refine lv_iconst (v := 0) hx hb dX0_eligibleUpTo_0 (by decide) ?_
  refine lv_istore_n (lv' := [(2, .int 0), (0, .ref h0), (1, .int d0)]) hx hb dX0_eligibleUpTo_1 rfl hl (by decide) rfl (fun ls hl => ?_)
  refine lv_aload_n hx hb dX0_eligibleUpTo_2 rfl (lv_at hl 1 rfl) ?_
  refine gk_get (C := RX0) (T := TX0) (N := 7) (v := va_rf (ear h0)) hx hb hts hi0 hown hK hP hL0 (gE_0 hK0) rfl 6 (by decide) (hts (.fieldLink RX0 16 "GrantBook$Line" "earliest" "LGrantBook$Voucher;") (List.mem_of_getElem? (i := 1) rfl)) (fun _ h9 => h9) rfl dX0_eligibleUpTo_3 ?_
  rcases hq_3 : ear h0 with _ | a_3
  · refine lv_astore_nN (lv' := [(3, .null), (2, .int 0), (0, .ref h0), (1, .int d0)]) hx hb dX0_eligibleUpTo_6 rfl hl (by decide) rfl (fun ls hl => ?_)
    exact loop ch (ear h0) 0 _ _ _ hch hcl rfl hP hD hS (by rw [hq_3]; exact lv_sub hl [0, 1, 2, 3] rfl)
  · refine lv_astore_n (lv' := [(3, .ref a_3), (2, .int 0), (0, .ref h0), (1, .int d0)]) hx hb dX0_eligibleUpTo_6 rfl hl (by decide) rfl (fun ls hl => ?_)
    exact loop ch (ear h0) 0 _ _ _ hch hcl rfl hP hD hS (by rw [hq_3]; exact lv_sub hl [0, 1, 2, 3] rfl)
set_option maxHeartbeats 4000000 in
set_option maxRecDepth 100000 in
theorem kX0_reckon (l : Launch) (D : va_G) (tys : List (ClassId × FieldType)) (X : va_W) (L : List Nat) (K : Nat → Nat) (bud fsd las bas mvi mva : Nat → Int32) (ear vln : Nat → Option Nat) (vda vam vrf vel : Nat → Int32) (vnx : Nat → Option Nat) (h0 : Nat) (hL0 : h0 ∈ L) (hK0 : K h0 = 0) (ch : List Nat) (hch : gCh vnx (ear h0) ch) (hcl : ∀ y ∈ ch, y ∈ L ∧ K y = 1) (sz : Nat) (A : Nat → Prop) (hAe : va_A (X ++ va_pl L (gE K bud fsd las bas mvi mva ear vln vda vam vrf vel vnx)) sz = A) : Met l yX0_reckon wsX0_reckon ({ frames := 1, cells := 0, slots := 0, locals := 21 }) (va_Pc [.ref h0] (gPre D tys (X ++ va_pl L (gE K bud fsd las bas mvi mva ear vln vda vam vrf vel vnx)) sz)) (va_Qv (fun (u : Nat → Int32) => u = gRk (fsd h0) (las h0) vrf vda vam ch (bud h0 + mvi h0 - mva h0) vel) (fun (u : Nat → Int32) t => gPost D tys A (X ++ va_pl L (gE K bud fsd las bas mvi mva ear vln vda vam vrf u vnx)) t) A) 0 0 A := by
  refine Met.ofW (cc := cX0_reckon) (maxL := 3) (ret := none) (by decide) rfl ?_
  intro p e s m args below meth c s₁ B hml hv
  obtain ⟨rfl, hsz, hP, hK, hD0⟩ := hv
  have hx := B.exec
  have hb := B.bytes
  have hr := B.returns
  have hts := atoms_spec (ws := wsX0_reckon) B.pre
  have hown : s.vm.findClass RX0 = some m.cls := findClass_of_methodNamed B.named
  have hlocks := B.notSynchronized
  subst hsz
  have hD := hD0.self (sz := s.heap.size)
  rw [hAe] at hD
  have hA : ∀ q : Nat, s.heap.size ≤ q → A q := fun q h => by rw [← hAe]; exact Or.inr h
  have hS : va_S A s.heap s.heap [] := va_S.rf
  have hP : va_P D vwCl (X ++ va_pl L (gE K bud fsd las bas mvi mva ear vln vda vam vrf vel vnx)) s.heap := hP
  have hi0 : ∀ w ∈ wsX00, w ∈ wsX0_reckon := fun _ h => List.mem_cons_of_mem _ (List.mem_append_left _ (List.mem_append_right _ h))
  have hi1 : ∀ w ∈ wsX10, w ∈ wsX0_reckon := fun _ h => List.mem_cons_of_mem _ (List.mem_append_right _ h)
  have hl := lv_entry ([.ref h0]) (n := 3) (Nat.le_of_ble_eq_true rfl)
  rw [lg_entry_eq]
  generalize (lg_sl ([.ref h0]) ++ List.replicate (3 - (lg_sl ([.ref h0])).length) Slot.unset).toArray = ls at hl ⊢
  have hl : lv_has ls 3 [(0, .ref h0)] := hl
  have loop : ∀ (w : List Nat) (o : Option Nat) (rest : Int32) (el : Nat → Int32) (H : Heap) (locs : List Loc) (ls : Array Slot), gCh vnx o w → (∀ y ∈ w, y ∈ L ∧ K y = 1) → gRk (fsd h0) (las h0) vrf vda vam w rest el = gRk (fsd h0) (las h0) vrf vda vam ch (bud h0 + mvi h0 - mva h0) vel → va_P D vwCl (X ++ va_pl L (gE K bud fsd las bas mvi mva ear vln vda vam vrf el vnx)) H → va_D A (X ++ va_pl L (gE K bud fsd las bas mvi mva ear vln vda vam vrf el vnx)) → va_S A s.heap H locs → lv_has ls 3 [(2, va_rf o), (1, .int rest), (0, .ref h0)] → W p l e (headSpec wsX0_reckon ({ frames := 1, cells := 0, slots := 0, locals := 21 })).room s m ([.ref h0] : List Value).toArray below meth c H locs 0 0 (MQ below (va_Qv (fun (u : Nat → Int32) => u = gRk (fsd h0) (las h0) vrf vda vam ch (bud h0 + mvi h0 - mva h0) vel) (fun (u : Nat → Int32) t => gPost D tys A (X ++ va_pl L (gE K bud fsd las bas mvi mva ear vln vda vam vrf u vnx)) t) A) ([.ref h0] : List Value).toArray s 0 0 A) (F0 m 10 ls []) := by
    intro w
    induction w with
    | nil =>
      intro o rest el H locs ls ho hw he hP hD hS hl
      obtain rfl : o = none := ho
      have hl : lv_has ls 3 [(2, .null), (1, .int rest), (0, .ref h0)] := hl
      refine lv_aload_nN hx hb dX0_reckon_10 rfl (lv_at hl 0 rfl) ?_
      refine lv_ifnullN (tgt := 53) hx hb dX0_reckon_11 (by decide) ?_
      refine W.widen (k := 0) (n := 0) (Nat.le_of_ble_eq_true rfl) (Nat.le_of_ble_eq_true rfl) ?_
      exact W.vret hx hb hr (fun t ht hW => ⟨⟨el, rfl, he, by rw [ht]; exact hP, va_K.moved hW.alike hK, hD⟩, hS.F ht⟩) hS.2.2 dX0_reckon_53
    | cons a w ih =>
      intro o rest el H locs ls ho hw he hP hD hS hl
      obtain ⟨rfl, ho⟩ := ho
      obtain ⟨hLa, hKa⟩ := hw a List.mem_cons_self
      have hl : lv_has ls 3 [(2, .ref a), (1, .int rest), (0, .ref h0)] := hl
      refine lv_aload_n hx hb dX0_reckon_10 rfl (lv_at hl 0 rfl) ?_
      refine lv_ifnull hx hb dX0_reckon_11 ?_
      refine lv_aload_n hx hb dX0_reckon_14 rfl (lv_at hl 0 rfl) ?_
      refine lv_aload_n hx hb dX0_reckon_15 rfl (lv_at hl 2 rfl) ?_
      refine lv_aload_n hx hb dX0_reckon_16 rfl (lv_at hl 0 rfl) ?_
      have hF_1 := gk_all hD hS hA
      refine va_calli (va_runV (As := [.ref a]) (rest := [.ref a]) ⟨hx, hb, hml, hown, hts⟩ (kX0_accepts l D tys X L K bud fsd las bas mvi mva ear vln vda vam vrf el vnx h0 hL0 hK0 a hLa hKa H.size _ rfl) (cwV 1 hts gX0_reckon_X0_accepts rfl rfl rfl (by decide +kernel) ⟨(Nat.le_of_ble_eq_true rfl), (Nat.le_of_ble_eq_true rfl)⟩) (gk_preV hP hK hD (gk_recv hK hP hL0 (gE_0 hK0) rfl)) rfl rfl hl.1 rfl (lv_room (Nat.le_of_ble_eq_true rfl)) dX0_reckon_17 ⟨(Nat.le_of_ble_eq_true rfl), (Nat.le_of_ble_eq_true rfl)⟩) hS (fun q _ h => hF_1 q h) hF_1 (fun r_1 u_1 t_1 H locs ht_1 hvm_1 hw_1 hB_1 hz_1 hk_1 hS => ?_)
      obtain ⟨hP, hD⟩ := gk_back hF_1 hB_1 ht_1
      subst hw_1
      refine lv_if_eq (tgt := 34) hx hb dX0_reckon_20 (by decide) (fun c_2 => ?_) (fun c_2 => ?_)
      · refine lv_iconst (v := 0) hx hb dX0_reckon_34 (by decide) ?_
        refine gk_put (f' := (gE K bud fsd las bas mvi mva ear vln vda vam vrf (va_up el a 0) vnx)) (v := .int 0) (ty := .int) (C := RX1) (T := TX1) (N := 6) hx hb hts hi1 tyX1 tyX1_ok nmX1 hown hK hP hD hS hLa (gE_1 hKa) rfl 4 (by decide) (hts (.fieldLink RX0 61 "GrantBook$Voucher" "eligible" "I") (List.mem_of_getElem? (i := 7) rfl)) (fun _ h9 => h9) rfl (by decide +kernel) rfl rfl (Nat.le_of_ble_eq_true rfl) (gU_vel hKa 0) dX0_reckon_35 (fun H locs hP hD hS => ?_)
        obtain ⟨vel_3, evel_3⟩ : ∃ z, z = (va_up el a 0) := ⟨_, rfl⟩
        rw [← evel_3] at hP hD
        refine lv_iload_n hx hb dX0_reckon_38 rfl (lv_at hl 1 rfl) ?_
        refine lv_aload_n hx hb dX0_reckon_39 rfl (lv_at hl 0 rfl) ?_
        refine gk_get (C := RX1) (T := TX1) (N := 6) (v := .int (vel_3 a)) hx hb hts hi1 hown hK hP hLa (gE_1 hKa) rfl 4 (by decide) (hts (.fieldLink RX0 61 "GrantBook$Voucher" "eligible" "I") (List.mem_of_getElem? (i := 7) rfl)) (fun _ h9 => h9) rfl dX0_reckon_40 ?_
        refine lv_isub hx hb dX0_reckon_43 ?_
        refine lv_istore_n (lv' := [(1, .int (rest - (vel_3 a))), (2, .ref a), (0, .ref h0)]) hx hb dX0_reckon_44 rfl hl (by decide) rfl (fun ls hl => ?_)
        refine lv_aload_n hx hb dX0_reckon_45 rfl (lv_at hl 1 rfl) ?_
        refine gk_get (C := RX1) (T := TX1) (N := 6) (v := va_rf (vnx a)) hx hb hts hi1 hown hK hP hLa (gE_1 hKa) rfl 5 (by decide) (hts (.fieldLink RX0 41 "GrantBook$Voucher" "next" "LGrantBook$Voucher;") (List.mem_of_getElem? (i := 8) rfl)) (fun _ h9 => h9) rfl dX0_reckon_46 ?_
        rcases hq_4 : vnx a with _ | a_4
        · refine lv_astore_nN (lv' := [(2, .null), (1, .int (rest - (vel_3 a))), (0, .ref h0)]) hx hb dX0_reckon_49 rfl hl (by decide) rfl (fun ls hl => ?_)
          refine lv_goto (tgt := 10) hx hb dX0_reckon_50 (by decide) ?_
          exact ih (vnx a) (rest - vel_3 a) vel_3 _ _ _ ho (fun y hy => hw y (List.mem_cons_of_mem _ hy)) (by rw [← he, evel_3, va_up_self]; simp only [gRk, gEl, if_pos c_2]) hP hD hS (by rw [hq_4]; exact lv_sub hl [0, 1, 2] rfl)
        · refine lv_astore_n (lv' := [(2, .ref a_4), (1, .int (rest - (vel_3 a))), (0, .ref h0)]) hx hb dX0_reckon_49 rfl hl (by decide) rfl (fun ls hl => ?_)
          refine lv_goto (tgt := 10) hx hb dX0_reckon_50 (by decide) ?_
          exact ih (vnx a) (rest - vel_3 a) vel_3 _ _ _ ho (fun y hy => hw y (List.mem_cons_of_mem _ hy)) (by rw [← he, evel_3, va_up_self]; simp only [gRk, gEl, if_pos c_2]) hP hD hS (by rw [hq_4]; exact lv_sub hl [0, 1, 2] rfl)
      · refine lv_aload_n hx hb dX0_reckon_23 rfl (lv_at hl 0 rfl) ?_
        refine gk_get (C := RX1) (T := TX1) (N := 6) (v := .int (vam a)) hx hb hts hi1 hown hK hP hLa (gE_1 hKa) rfl 2 (by decide) (hts (.fieldLink RX0 52 "GrantBook$Voucher" "amount" "I") (List.mem_of_getElem? (i := 2) rfl)) (fun _ h9 => h9) rfl dX0_reckon_24 ?_
        refine lv_iload_n hx hb dX0_reckon_27 rfl (lv_at hl 1 rfl) ?_
        refine va_mmin hx hb (hml.trans hl.1.symm) hown (hts (.methodLink RX0 55 Lib.Math.min.name) (List.mem_of_getElem? (i := 3) rfl)) (hts (.static Lib.Math.min.name) (List.mem_of_getElem? (i := 4) rfl)) (hts (.initialized "java/lang/Math") (List.mem_of_getElem? (i := 5) rfl)) (hts (.code Lib.Math.min.name Lib.Math.min.code 2 (some .int)) (List.mem_of_getElem? (i := 6) rfl)) (Nat.le_of_ble_eq_true rfl) (Nat.le_of_ble_eq_true rfl) (Nat.le_of_ble_eq_true rfl) (Nat.le_of_ble_eq_true rfl) dX0_reckon_28 ?_
        refine lv_goto (tgt := 35) hx hb dX0_reckon_31 (by decide) ?_
        refine gk_put (f' := (gE K bud fsd las bas mvi mva ear vln vda vam vrf (va_up el a (if rest < (vam a) then rest else (vam a))) vnx)) (v := .int (if rest < (vam a) then rest else (vam a))) (ty := .int) (C := RX1) (T := TX1) (N := 6) hx hb hts hi1 tyX1 tyX1_ok nmX1 hown hK hP hD hS hLa (gE_1 hKa) rfl 4 (by decide) (hts (.fieldLink RX0 61 "GrantBook$Voucher" "eligible" "I") (List.mem_of_getElem? (i := 7) rfl)) (fun _ h9 => h9) rfl (by decide +kernel) rfl rfl (Nat.le_of_ble_eq_true rfl) (gU_vel hKa (if rest < (vam a) then rest else (vam a))) dX0_reckon_35 (fun H locs hP hD hS => ?_)
        obtain ⟨vel_5, evel_5⟩ : ∃ z, z = (va_up el a (if rest < (vam a) then rest else (vam a))) := ⟨_, rfl⟩
        rw [← evel_5] at hP hD
        refine lv_iload_n hx hb dX0_reckon_38 rfl (lv_at hl 1 rfl) ?_
        refine lv_aload_n hx hb dX0_reckon_39 rfl (lv_at hl 0 rfl) ?_
        refine gk_get (C := RX1) (T := TX1) (N := 6) (v := .int (vel_5 a)) hx hb hts hi1 hown hK hP hLa (gE_1 hKa) rfl 4 (by decide) (hts (.fieldLink RX0 61 "GrantBook$Voucher" "eligible" "I") (List.mem_of_getElem? (i := 7) rfl)) (fun _ h9 => h9) rfl dX0_reckon_40 ?_
        refine lv_isub hx hb dX0_reckon_43 ?_
        refine lv_istore_n (lv' := [(1, .int (rest - (vel_5 a))), (2, .ref a), (0, .ref h0)]) hx hb dX0_reckon_44 rfl hl (by decide) rfl (fun ls hl => ?_)
        refine lv_aload_n hx hb dX0_reckon_45 rfl (lv_at hl 1 rfl) ?_
        refine gk_get (C := RX1) (T := TX1) (N := 6) (v := va_rf (vnx a)) hx hb hts hi1 hown hK hP hLa (gE_1 hKa) rfl 5 (by decide) (hts (.fieldLink RX0 41 "GrantBook$Voucher" "next" "LGrantBook$Voucher;") (List.mem_of_getElem? (i := 8) rfl)) (fun _ h9 => h9) rfl dX0_reckon_46 ?_
        rcases hq_6 : vnx a with _ | a_6
        · refine lv_astore_nN (lv' := [(2, .null), (1, .int (rest - (vel_5 a))), (0, .ref h0)]) hx hb dX0_reckon_49 rfl hl (by decide) rfl (fun ls hl => ?_)
          refine lv_goto (tgt := 10) hx hb dX0_reckon_50 (by decide) ?_
          exact ih (vnx a) (rest - vel_5 a) vel_5 _ _ _ ho (fun y hy => hw y (List.mem_cons_of_mem _ hy)) (by rw [← he, evel_5, va_up_self]; simp only [gRk, gEl, if_neg c_2]) hP hD hS (by rw [hq_6]; exact lv_sub hl [0, 1, 2] rfl)
        · refine lv_astore_n (lv' := [(2, .ref a_6), (1, .int (rest - (vel_5 a))), (0, .ref h0)]) hx hb dX0_reckon_49 rfl hl (by decide) rfl (fun ls hl => ?_)
          refine lv_goto (tgt := 10) hx hb dX0_reckon_50 (by decide) ?_
          exact ih (vnx a) (rest - vel_5 a) vel_5 _ _ _ ho (fun y hy => hw y (List.mem_cons_of_mem _ hy)) (by rw [← he, evel_5, va_up_self]; simp only [gRk, gEl, if_neg c_2]) hP hD hS (by rw [hq_6]; exact lv_sub hl [0, 1, 2] rfl)
  refine lv_aload_n hx hb dX0_reckon_0 rfl (lv_at hl 0 rfl) ?_
  have hF_7 := gk_all hD hS hA
  refine va_calli (va_runV (As := []) (rest := []) ⟨hx, hb, hml, hown, hts⟩ (kX0_money l D tys X L K bud fsd las bas mvi mva ear vln vda vam vrf vel vnx h0 hL0 hK0 s.heap.size _ rfl) (cwV 0 hts gX0_reckon_X0_money rfl rfl rfl (by decide +kernel) ⟨(Nat.le_of_ble_eq_true rfl), (Nat.le_of_ble_eq_true rfl)⟩) (gk_preV hP hK hD (gk_recv hK hP hL0 (gE_0 hK0) rfl)) rfl rfl hl.1 rfl (lv_room (Nat.le_of_ble_eq_true rfl)) dX0_reckon_1 ⟨(Nat.le_of_ble_eq_true rfl), (Nat.le_of_ble_eq_true rfl)⟩) hS (fun q _ h => hF_7 q h) hF_7 (fun r_7 u_7 t_7 H locs ht_7 hvm_7 hw_7 hB_7 hz_7 hk_7 hS => ?_)
  obtain ⟨hP, hD⟩ := gk_back hF_7 hB_7 ht_7
  subst hw_7
  refine lv_istore_n (lv' := [(1, .int (bud h0 + mvi h0 - mva h0)), (0, .ref h0)]) hx hb dX0_reckon_4 rfl hl (by decide) rfl (fun ls hl => ?_)
  refine lv_aload_n hx hb dX0_reckon_5 rfl (lv_at hl 1 rfl) ?_
  refine gk_get (C := RX0) (T := TX0) (N := 7) (v := va_rf (ear h0)) hx hb hts hi0 hown hK hP hL0 (gE_0 hK0) rfl 6 (by decide) (hts (.fieldLink RX0 16 "GrantBook$Line" "earliest" "LGrantBook$Voucher;") (List.mem_of_getElem? (i := 1) rfl)) (fun _ h9 => h9) rfl dX0_reckon_6 ?_
  rcases hq_8 : ear h0 with _ | a_8
  · refine lv_astore_nN (lv' := [(2, .null), (1, .int (bud h0 + mvi h0 - mva h0)), (0, .ref h0)]) hx hb dX0_reckon_9 rfl hl (by decide) rfl (fun ls hl => ?_)
    exact loop ch (ear h0) _ vel _ _ _ hch hcl rfl hP hD hS (by rw [hq_8]; exact lv_sub hl [0, 1, 2] rfl)
  · refine lv_astore_n (lv' := [(2, .ref a_8), (1, .int (bud h0 + mvi h0 - mva h0)), (0, .ref h0)]) hx hb dX0_reckon_9 rfl hl (by decide) rfl (fun ls hl => ?_)
    exact loop ch (ear h0) _ vel _ _ _ hch hcl rfl hP hD hS (by rw [hq_8]; exact lv_sub hl [0, 1, 2] rfl)
set_option maxHeartbeats 4000000 in
set_option maxRecDepth 100000 in
theorem kX0_init (l : Launch) (D : va_G) (tys : List (ClassId × FieldType)) (X : va_W) (L : List Nat) (K : Nat → Nat) (bud fsd las bas mvi mva : Nat → Int32) (ear vln : Nat → Option Nat) (vda vam vrf vel : Nat → Int32) (vnx : Nat → Option Nat) (h0 : Nat) (hL0 : h0 ∈ L) (hK0 : K h0 = 0) (b0 f0 l0 z0 : Int32) (hz0 : z0 = 0 ∨ z0 = 1) (sz : Nat) (A : Nat → Prop) (hAe : va_A (X ++ va_pl L (gE K bud fsd las bas mvi mva ear vln vda vam vrf vel vnx)) sz = A) : Met l yX0_init wsX0_init ({ frames := 1, cells := 0, slots := 0, locals := 12 }) (va_Pc [.ref h0, .int b0, .int f0, .int l0, .int z0] (gPre D tys (X ++ va_pl L (gE K bud fsd las bas mvi mva ear vln vda vam vrf vel vnx)) sz)) (va_Qv (fun (u : (Nat → Int32) × (Nat → Int32) × (Nat → Int32) × (Nat → Int32) × (Nat → Int32) × (Nat → Int32) × (Nat → Option Nat)) => u.1 = va_up bud h0 b0 ∧ u.2.1 = va_up fsd h0 f0 ∧ u.2.2.1 = va_up las h0 l0 ∧ u.2.2.2.1 = va_up bas h0 z0 ∧ u.2.2.2.2.1 = va_up mvi h0 0 ∧ u.2.2.2.2.2.1 = va_up mva h0 0 ∧ u.2.2.2.2.2.2 = va_up ear h0 none) (fun (u : (Nat → Int32) × (Nat → Int32) × (Nat → Int32) × (Nat → Int32) × (Nat → Int32) × (Nat → Int32) × (Nat → Option Nat)) t => gPost D tys A (X ++ va_pl L (gE K u.1 u.2.1 u.2.2.1 u.2.2.2.1 u.2.2.2.2.1 u.2.2.2.2.2.1 u.2.2.2.2.2.2 vln vda vam vrf vel vnx)) t) A) 0 0 A := by
  refine Met.ofW (cc := cX0_init) (maxL := 5) (ret := none) (by decide) rfl ?_
  intro p e s m args below meth c s₁ B hml hv
  obtain ⟨rfl, hsz, hP, hK, hD0⟩ := hv
  have hx := B.exec
  have hb := B.bytes
  have hr := B.returns
  have hts := atoms_spec (ws := wsX0_init) B.pre
  have hown : s.vm.findClass RX0 = some m.cls := findClass_of_methodNamed B.named
  have hlocks := B.notSynchronized
  subst hsz
  have hin : meth.name = "<init>" := (name_of_methodNamed B.named B.method).1
  have hD := hD0.self (sz := s.heap.size)
  rw [hAe] at hD
  have hA : ∀ q : Nat, s.heap.size ≤ q → A q := fun q h => by rw [← hAe]; exact Or.inr h
  have hS : va_S A s.heap s.heap [] := va_S.rf
  have hP : va_P D vwCl (X ++ va_pl L (gE K bud fsd las bas mvi mva ear vln vda vam vrf vel vnx)) s.heap := hP
  have hi0 : ∀ w ∈ wsX00, w ∈ wsX0_init := fun _ h => List.mem_cons_of_mem _ (List.mem_append_right _ h)
  have hl := lv_entry ([.ref h0, .int b0, .int f0, .int l0, .int z0]) (n := 5) (Nat.le_of_ble_eq_true rfl)
  rw [lg_entry_eq]
  generalize (lg_sl ([.ref h0, .int b0, .int f0, .int l0, .int z0]) ++ List.replicate (5 - (lg_sl ([.ref h0, .int b0, .int f0, .int l0, .int z0])).length) Slot.unset).toArray = ls at hl ⊢
  have hl : lv_has ls 5 [(0, .ref h0), (1, .int b0), (2, .int f0), (3, .int l0), (4, .int z0)] := hl
  refine lv_aload_n hx hb dX0_init_0 rfl (lv_at hl 0 rfl) ?_
  refine W.objInit hx hb hown (hts (.methodLink RX0 1 objectInit) (List.mem_of_getElem? (i := 1) rfl)) (hts (.instanceMethod objectInit) (List.mem_of_getElem? (i := 2) rfl)) (hts (.code objectInit ⟨#[0xb1]⟩ 1 none) (List.mem_of_getElem? (i := 3) rfl)) rfl (by rw [hml]; exact hl.1) rfl dX0_init_1 (Nat.le_of_ble_eq_true rfl) (Nat.le_of_ble_eq_true rfl) ?_
  refine W.eq (g2 := F0 m 4 ls []) rfl ?_
  refine lv_aload_n hx hb dX0_init_4 rfl (lv_at hl 0 rfl) ?_
  refine lv_iconst (v := 0) hx hb dX0_init_5 (by decide) ?_
  refine gk_put (f' := (gE K bud fsd las bas (va_up mvi h0 0) mva ear vln vda vam vrf vel vnx)) (v := .int 0) (ty := .int) (C := RX0) (T := TX0) (N := 7) hx hb hts hi0 tyX0 tyX0_ok nmX0 hown hK hP hD hS hL0 (gE_0 hK0) rfl 4 (by decide) (hts (.fieldLink RX0 7 "GrantBook$Line" "movedIn" "I") (List.mem_of_getElem? (i := 4) rfl)) (fun _ h9 => h9) rfl (by decide +kernel) rfl rfl (Nat.le_of_ble_eq_true rfl) (gU_mvi hK0 0) dX0_init_6 (fun H locs hP hD hS => ?_)
  obtain ⟨mvi_1, emvi_1⟩ : ∃ z, z = (va_up mvi h0 0) := ⟨_, rfl⟩
  rw [← emvi_1] at hP hD
  refine lv_aload_n hx hb dX0_init_9 rfl (lv_at hl 0 rfl) ?_
  refine lv_iconst (v := 0) hx hb dX0_init_10 (by decide) ?_
  refine gk_put (f' := (gE K bud fsd las bas mvi_1 (va_up mva h0 0) ear vln vda vam vrf vel vnx)) (v := .int 0) (ty := .int) (C := RX0) (T := TX0) (N := 7) hx hb hts hi0 tyX0 tyX0_ok nmX0 hown hK hP hD hS hL0 (gE_0 hK0) rfl 5 (by decide) (hts (.fieldLink RX0 13 "GrantBook$Line" "movedAway" "I") (List.mem_of_getElem? (i := 5) rfl)) (fun _ h9 => h9) rfl (by decide +kernel) rfl rfl (Nat.le_of_ble_eq_true rfl) (gU_mva hK0 0) dX0_init_11 (fun H locs hP hD hS => ?_)
  obtain ⟨mva_2, emva_2⟩ : ∃ z, z = (va_up mva h0 0) := ⟨_, rfl⟩
  rw [← emva_2] at hP hD
  refine lv_aload_n hx hb dX0_init_14 rfl (lv_at hl 0 rfl) ?_
  refine lv_null hx hb dX0_init_15 ?_
  refine gk_put (f' := (gE K bud fsd las bas mvi_1 mva_2 (va_up ear h0 none) vln vda vam vrf vel vnx)) (v := .null) (ty := (.object "GrantBook$Voucher")) (C := RX0) (T := TX0) (N := 7) hx hb hts hi0 tyX0 tyX0_ok nmX0 hown hK hP hD hS hL0 (gE_0 hK0) rfl 6 (by decide) (hts (.fieldLink RX0 16 "GrantBook$Line" "earliest" "LGrantBook$Voucher;") (List.mem_of_getElem? (i := 6) rfl)) (fun _ h9 => h9) rfl (by decide +kernel) rfl rfl (Nat.le_of_ble_eq_true rfl) (gU_ear hK0 none) dX0_init_16 (fun H locs hP hD hS => ?_)
  obtain ⟨ear_3, eear_3⟩ : ∃ z, z = (va_up ear h0 none) := ⟨_, rfl⟩
  rw [← eear_3] at hP hD
  refine lv_aload_n hx hb dX0_init_19 rfl (lv_at hl 0 rfl) ?_
  refine lv_iload_n hx hb dX0_init_20 rfl (lv_at hl 1 rfl) ?_
  refine gk_putF (f' := (gE K (va_up bud h0 b0) fsd las bas mvi_1 mva_2 ear_3 vln vda vam vrf vel vnx)) (v := .int b0) (ty := .int) (C := RX0) (T := TX0) (N := 7) hx hb hts hi0 tyX0 tyX0_ok nmX0 hown hK hP hD hS hL0 (gE_0 hK0) rfl 0 (by decide) (hts (.fieldLink RX0 20 "GrantBook$Line" "budget" "I") (List.mem_of_getElem? (i := 7) rfl)) (fun _ h9 => h9) rfl hin rfl (by decide +kernel) rfl rfl (Nat.le_of_ble_eq_true rfl) (gU_bud hK0 b0) dX0_init_21 (fun H locs hP hD hS => ?_)
  obtain ⟨bud_4, ebud_4⟩ : ∃ z, z = (va_up bud h0 b0) := ⟨_, rfl⟩
  rw [← ebud_4] at hP hD
  refine lv_aload_n hx hb dX0_init_24 rfl (lv_at hl 0 rfl) ?_
  refine lv_iload_n hx hb dX0_init_25 rfl (lv_at hl 2 rfl) ?_
  refine gk_putF (f' := (gE K bud_4 (va_up fsd h0 f0) las bas mvi_1 mva_2 ear_3 vln vda vam vrf vel vnx)) (v := .int f0) (ty := .int) (C := RX0) (T := TX0) (N := 7) hx hb hts hi0 tyX0 tyX0_ok nmX0 hown hK hP hD hS hL0 (gE_0 hK0) rfl 1 (by decide) (hts (.fieldLink RX0 23 "GrantBook$Line" "first" "I") (List.mem_of_getElem? (i := 8) rfl)) (fun _ h9 => h9) rfl hin rfl (by decide +kernel) rfl rfl (Nat.le_of_ble_eq_true rfl) (gU_fsd hK0 f0) dX0_init_26 (fun H locs hP hD hS => ?_)
  obtain ⟨fsd_5, efsd_5⟩ : ∃ z, z = (va_up fsd h0 f0) := ⟨_, rfl⟩
  rw [← efsd_5] at hP hD
  refine lv_aload_n hx hb dX0_init_29 rfl (lv_at hl 0 rfl) ?_
  refine lv_iload_n hx hb dX0_init_30 rfl (lv_at hl 3 rfl) ?_
  refine gk_put (f' := (gE K bud_4 fsd_5 (va_up las h0 l0) bas mvi_1 mva_2 ear_3 vln vda vam vrf vel vnx)) (v := .int l0) (ty := .int) (C := RX0) (T := TX0) (N := 7) hx hb hts hi0 tyX0 tyX0_ok nmX0 hown hK hP hD hS hL0 (gE_0 hK0) rfl 2 (by decide) (hts (.fieldLink RX0 26 "GrantBook$Line" "last" "I") (List.mem_of_getElem? (i := 9) rfl)) (fun _ h9 => h9) rfl (by decide +kernel) rfl rfl (Nat.le_of_ble_eq_true rfl) (gU_las hK0 l0) dX0_init_31 (fun H locs hP hD hS => ?_)
  obtain ⟨las_6, elas_6⟩ : ∃ z, z = (va_up las h0 l0) := ⟨_, rfl⟩
  rw [← elas_6] at hP hD
  refine lv_aload_n hx hb dX0_init_34 rfl (lv_at hl 0 rfl) ?_
  refine lv_iload hx hb dX0_init_35 (lv_at hl 4 rfl) ?_
  refine gk_putF (f' := (gE K bud_4 fsd_5 las_6 (va_up bas h0 z0) mvi_1 mva_2 ear_3 vln vda vam vrf vel vnx)) (v := .int z0) (ty := .boolean) (C := RX0) (T := TX0) (N := 7) hx hb hts hi0 tyX0 tyX0_ok nmX0 hown hK hP hD hS hL0 (gE_0 hK0) rfl 3 (by decide) (hts (.fieldLink RX0 29 "GrantBook$Line" "isInBase" "Z") (List.mem_of_getElem? (i := 10) rfl)) (fun _ h9 => h9) rfl hin rfl (by decide +kernel) (by rcases hz0 with rfl | rfl <;> decide) (by rcases hz0 with rfl | rfl <;> decide) (Nat.le_of_ble_eq_true rfl) (gU_bas hK0 z0) dX0_init_37 (fun H locs hP hD hS => ?_)
  obtain ⟨bas_7, ebas_7⟩ : ∃ z, z = (va_up bas h0 z0) := ⟨_, rfl⟩
  rw [← ebas_7] at hP hD
  refine W.widen (k := 0) (n := 0) (Nat.le_of_ble_eq_true rfl) (Nat.le_of_ble_eq_true rfl) ?_
  exact W.vret hx hb hr (fun t ht hW => ⟨⟨(bud_4, fsd_5, las_6, bas_7, mvi_1, mva_2, ear_3), rfl, ⟨ebud_4, efsd_5, elas_6, ebas_7, emvi_1, emva_2, eear_3⟩, by rw [ht]; exact hP, va_K.moved hW.alike hK, hD⟩, hS.F ht⟩) hS.2.2 dX0_init_40
set_option maxHeartbeats 4000000 in
set_option maxRecDepth 100000 in
theorem kX1_init (l : Launch) (D : va_G) (tys : List (ClassId × FieldType)) (X : va_W) (L : List Nat) (K : Nat → Nat) (bud fsd las bas mvi mva : Nat → Int32) (ear vln : Nat → Option Nat) (vda vam vrf vel : Nat → Int32) (vnx : Nat → Option Nat) (h0 : Nat) (hL0 : h0 ∈ L) (hK0 : K h0 = 1) (la0 : Nat) (d0 a0 : Int32) (sz : Nat) (A : Nat → Prop) (hAe : va_A (X ++ va_pl L (gE K bud fsd las bas mvi mva ear vln vda vam vrf vel vnx)) sz = A) : Met l yX1_init wsX1_init ({ frames := 1, cells := 0, slots := 0, locals := 12 }) (va_Pc [.ref h0, .ref la0, .int d0, .int a0] (gPre D tys (X ++ va_pl L (gE K bud fsd las bas mvi mva ear vln vda vam vrf vel vnx)) sz)) (va_Qv (fun (u : (Nat → Option Nat) × (Nat → Int32) × (Nat → Int32) × (Nat → Int32) × (Nat → Int32) × (Nat → Option Nat)) => u.1 = va_up vln h0 (some la0) ∧ u.2.1 = va_up vda h0 d0 ∧ u.2.2.1 = va_up vam h0 a0 ∧ u.2.2.2.1 = va_up vrf h0 0 ∧ u.2.2.2.2.1 = va_up vel h0 0 ∧ u.2.2.2.2.2 = va_up vnx h0 none) (fun (u : (Nat → Option Nat) × (Nat → Int32) × (Nat → Int32) × (Nat → Int32) × (Nat → Int32) × (Nat → Option Nat)) t => gPost D tys A (X ++ va_pl L (gE K bud fsd las bas mvi mva ear u.1 u.2.1 u.2.2.1 u.2.2.2.1 u.2.2.2.2.1 u.2.2.2.2.2)) t) A) 0 0 A := by
  refine Met.ofW (cc := cX1_init) (maxL := 4) (ret := none) (by decide) rfl ?_
  intro p e s m args below meth c s₁ B hml hv
  obtain ⟨rfl, hsz, hP, hK, hD0⟩ := hv
  have hx := B.exec
  have hb := B.bytes
  have hr := B.returns
  have hts := atoms_spec (ws := wsX1_init) B.pre
  have hown : s.vm.findClass RX1 = some m.cls := findClass_of_methodNamed B.named
  have hlocks := B.notSynchronized
  subst hsz
  have hin : meth.name = "<init>" := (name_of_methodNamed B.named B.method).1
  have hD := hD0.self (sz := s.heap.size)
  rw [hAe] at hD
  have hA : ∀ q : Nat, s.heap.size ≤ q → A q := fun q h => by rw [← hAe]; exact Or.inr h
  have hS : va_S A s.heap s.heap [] := va_S.rf
  have hP : va_P D vwCl (X ++ va_pl L (gE K bud fsd las bas mvi mva ear vln vda vam vrf vel vnx)) s.heap := hP
  have hi1 : ∀ w ∈ wsX10, w ∈ wsX1_init := fun _ h => List.mem_cons_of_mem _ (List.mem_append_right _ h)
  have hl := lv_entry ([.ref h0, .ref la0, .int d0, .int a0]) (n := 4) (Nat.le_of_ble_eq_true rfl)
  rw [lg_entry_eq]
  generalize (lg_sl ([.ref h0, .ref la0, .int d0, .int a0]) ++ List.replicate (4 - (lg_sl ([.ref h0, .ref la0, .int d0, .int a0])).length) Slot.unset).toArray = ls at hl ⊢
  have hl : lv_has ls 4 [(0, .ref h0), (1, .ref la0), (2, .int d0), (3, .int a0)] := hl
  refine lv_aload_n hx hb dX1_init_0 rfl (lv_at hl 0 rfl) ?_
  refine W.objInit hx hb hown (hts (.methodLink RX1 1 objectInit) (List.mem_of_getElem? (i := 1) rfl)) (hts (.instanceMethod objectInit) (List.mem_of_getElem? (i := 2) rfl)) (hts (.code objectInit ⟨#[0xb1]⟩ 1 none) (List.mem_of_getElem? (i := 3) rfl)) rfl (by rw [hml]; exact hl.1) rfl dX1_init_1 (Nat.le_of_ble_eq_true rfl) (Nat.le_of_ble_eq_true rfl) ?_
  refine W.eq (g2 := F0 m 4 ls []) rfl ?_
  refine lv_aload_n hx hb dX1_init_4 rfl (lv_at hl 0 rfl) ?_
  refine lv_iconst (v := 0) hx hb dX1_init_5 (by decide) ?_
  refine gk_put (f' := (gE K bud fsd las bas mvi mva ear vln vda vam (va_up vrf h0 0) vel vnx)) (v := .int 0) (ty := .boolean) (C := RX1) (T := TX1) (N := 6) hx hb hts hi1 tyX1 tyX1_ok nmX1 hown hK hP hD hS hL0 (gE_1 hK0) rfl 3 (by decide) (hts (.fieldLink RX1 7 "GrantBook$Voucher" "isRefused" "Z") (List.mem_of_getElem? (i := 4) rfl)) (fun _ h9 => h9) rfl (by decide +kernel) rfl rfl (Nat.le_of_ble_eq_true rfl) (gU_vrf hK0 0) dX1_init_6 (fun H locs hP hD hS => ?_)
  obtain ⟨vrf_1, evrf_1⟩ : ∃ z, z = (va_up vrf h0 0) := ⟨_, rfl⟩
  rw [← evrf_1] at hP hD
  refine lv_aload_n hx hb dX1_init_9 rfl (lv_at hl 0 rfl) ?_
  refine lv_iconst (v := 0) hx hb dX1_init_10 (by decide) ?_
  refine gk_put (f' := (gE K bud fsd las bas mvi mva ear vln vda vam vrf_1 (va_up vel h0 0) vnx)) (v := .int 0) (ty := .int) (C := RX1) (T := TX1) (N := 6) hx hb hts hi1 tyX1 tyX1_ok nmX1 hown hK hP hD hS hL0 (gE_1 hK0) rfl 4 (by decide) (hts (.fieldLink RX1 13 "GrantBook$Voucher" "eligible" "I") (List.mem_of_getElem? (i := 5) rfl)) (fun _ h9 => h9) rfl (by decide +kernel) rfl rfl (Nat.le_of_ble_eq_true rfl) (gU_vel hK0 0) dX1_init_11 (fun H locs hP hD hS => ?_)
  obtain ⟨vel_2, evel_2⟩ : ∃ z, z = (va_up vel h0 0) := ⟨_, rfl⟩
  rw [← evel_2] at hP hD
  refine lv_aload_n hx hb dX1_init_14 rfl (lv_at hl 0 rfl) ?_
  refine lv_null hx hb dX1_init_15 ?_
  refine gk_put (f' := (gE K bud fsd las bas mvi mva ear vln vda vam vrf_1 vel_2 (va_up vnx h0 none))) (v := .null) (ty := (.object "GrantBook$Voucher")) (C := RX1) (T := TX1) (N := 6) hx hb hts hi1 tyX1 tyX1_ok nmX1 hown hK hP hD hS hL0 (gE_1 hK0) rfl 5 (by decide) (hts (.fieldLink RX1 17 "GrantBook$Voucher" "next" "LGrantBook$Voucher;") (List.mem_of_getElem? (i := 6) rfl)) (fun _ h9 => h9) rfl (by decide +kernel) rfl rfl (Nat.le_of_ble_eq_true rfl) (gU_vnx hK0 none) dX1_init_16 (fun H locs hP hD hS => ?_)
  obtain ⟨vnx_3, evnx_3⟩ : ∃ z, z = (va_up vnx h0 none) := ⟨_, rfl⟩
  rw [← evnx_3] at hP hD
  refine lv_aload_n hx hb dX1_init_19 rfl (lv_at hl 0 rfl) ?_
  refine lv_aload_n hx hb dX1_init_20 rfl (lv_at hl 1 rfl) ?_
  refine gk_putF (f' := (gE K bud fsd las bas mvi mva ear (va_up vln h0 (some la0)) vda vam vrf_1 vel_2 vnx_3)) (v := va_rf (some la0)) (ty := (.object "GrantBook$Line")) (C := RX1) (T := TX1) (N := 6) hx hb hts hi1 tyX1 tyX1_ok nmX1 hown hK hP hD hS hL0 (gE_1 hK0) rfl 0 (by decide) (hts (.fieldLink RX1 21 "GrantBook$Voucher" "line" "LGrantBook$Line;") (List.mem_of_getElem? (i := 7) rfl)) (fun _ h9 => h9) rfl hin rfl (by decide +kernel) rfl rfl (Nat.le_of_ble_eq_true rfl) (gU_vln hK0 (some la0)) dX1_init_21 (fun H locs hP hD hS => ?_)
  obtain ⟨vln_4, evln_4⟩ : ∃ z, z = (va_up vln h0 (some la0)) := ⟨_, rfl⟩
  rw [← evln_4] at hP hD
  refine lv_aload_n hx hb dX1_init_24 rfl (lv_at hl 0 rfl) ?_
  refine lv_iload_n hx hb dX1_init_25 rfl (lv_at hl 2 rfl) ?_
  refine gk_putF (f' := (gE K bud fsd las bas mvi mva ear vln_4 (va_up vda h0 d0) vam vrf_1 vel_2 vnx_3)) (v := .int d0) (ty := .int) (C := RX1) (T := TX1) (N := 6) hx hb hts hi1 tyX1 tyX1_ok nmX1 hown hK hP hD hS hL0 (gE_1 hK0) rfl 1 (by decide) (hts (.fieldLink RX1 25 "GrantBook$Voucher" "day" "I") (List.mem_of_getElem? (i := 8) rfl)) (fun _ h9 => h9) rfl hin rfl (by decide +kernel) rfl rfl (Nat.le_of_ble_eq_true rfl) (gU_vda hK0 d0) dX1_init_26 (fun H locs hP hD hS => ?_)
  obtain ⟨vda_5, evda_5⟩ : ∃ z, z = (va_up vda h0 d0) := ⟨_, rfl⟩
  rw [← evda_5] at hP hD
  refine lv_aload_n hx hb dX1_init_29 rfl (lv_at hl 0 rfl) ?_
  refine lv_iload_n hx hb dX1_init_30 rfl (lv_at hl 3 rfl) ?_
  refine gk_putF (f' := (gE K bud fsd las bas mvi mva ear vln_4 vda_5 (va_up vam h0 a0) vrf_1 vel_2 vnx_3)) (v := .int a0) (ty := .int) (C := RX1) (T := TX1) (N := 6) hx hb hts hi1 tyX1 tyX1_ok nmX1 hown hK hP hD hS hL0 (gE_1 hK0) rfl 2 (by decide) (hts (.fieldLink RX1 28 "GrantBook$Voucher" "amount" "I") (List.mem_of_getElem? (i := 9) rfl)) (fun _ h9 => h9) rfl hin rfl (by decide +kernel) rfl rfl (Nat.le_of_ble_eq_true rfl) (gU_vam hK0 a0) dX1_init_31 (fun H locs hP hD hS => ?_)
  obtain ⟨vam_6, evam_6⟩ : ∃ z, z = (va_up vam h0 a0) := ⟨_, rfl⟩
  rw [← evam_6] at hP hD
  refine W.widen (k := 0) (n := 0) (Nat.le_of_ble_eq_true rfl) (Nat.le_of_ble_eq_true rfl) ?_
  exact W.vret hx hb hr (fun t ht hW => ⟨⟨(vln_4, vda_5, vam_6, vrf_1, vel_2, vnx_3), rfl, ⟨evln_4, evda_5, evam_6, evrf_1, evel_2, evnx_3⟩, by rw [ht]; exact hP, va_K.moved hW.alike hK, hD⟩, hS.F ht⟩) hS.2.2 dX1_init_34
set_option maxHeartbeats 4000000 in
set_option maxRecDepth 100000 in
theorem kX0_putInOrder (l : Launch) (D : va_G) (tys : List (ClassId × FieldType)) (X : va_W) (L : List Nat) (K : Nat → Nat) (bud fsd las bas mvi mva : Nat → Int32) (ear vln : Nat → Option Nat) (vda vam vrf vel : Nat → Int32) (vnx : Nat → Option Nat) (h0 : Nat) (hL0 : h0 ∈ L) (hK0 : K h0 = 0) (v0 : Nat) (hLv : v0 ∈ L) (hKv : K v0 = 1) (ch : List Nat) (hch : gCh vnx (ear h0) ch) (hcl : ∀ y ∈ ch, y ∈ L ∧ K y = 1) (hvc : v0 ∉ ch) (sz : Nat) (A : Nat → Prop) (hAe : va_A (X ++ va_pl L (gE K bud fsd las bas mvi mva ear vln vda vam vrf vel vnx)) sz = A) : Met l yX0_putInOrder wsX0_putInOrder ({ frames := 0, cells := 0, slots := 0, locals := 0 }) (va_Pc [.ref h0, .ref v0] (gPre D tys (X ++ va_pl L (gE K bud fsd las bas mvi mva ear vln vda vam vrf vel vnx)) sz)) (va_Qv (fun (u : (Nat → Option Nat) × (Nat → Option Nat)) => gCh u.2 (u.1 h0) (gFr vda (vda v0) ch ++ v0 :: gBk vda (vda v0) ch) ∧ (∀ y, y ∉ v0 :: ch → u.2 y = vnx y) ∧ ∀ y, y ≠ h0 → u.1 y = ear y) (fun (u : (Nat → Option Nat) × (Nat → Option Nat)) t => gPost D tys A (X ++ va_pl L (gE K bud fsd las bas mvi mva u.1 vln vda vam vrf vel u.2)) t) A) 0 0 A := by
  refine Met.ofW (cc := cX0_putInOrder) (maxL := 4) (ret := none) (by decide) rfl ?_
  intro p e s m args below meth c s₁ B hml hv
  obtain ⟨rfl, hsz, hP, hK, hD0⟩ := hv
  have hx := B.exec
  have hb := B.bytes
  have hr := B.returns
  have hts := atoms_spec (ws := wsX0_putInOrder) B.pre
  have hown : s.vm.findClass RX0 = some m.cls := findClass_of_methodNamed B.named
  have hlocks := B.notSynchronized
  subst hsz
  have hD := hD0.self (sz := s.heap.size)
  rw [hAe] at hD
  have hA : ∀ q : Nat, s.heap.size ≤ q → A q := fun q h => by rw [← hAe]; exact Or.inr h
  have hS : va_S A s.heap s.heap [] := va_S.rf
  have hP : va_P D vwCl (X ++ va_pl L (gE K bud fsd las bas mvi mva ear vln vda vam vrf vel vnx)) s.heap := hP
  have hi0 : ∀ w ∈ wsX00, w ∈ wsX0_putInOrder := fun _ h => List.mem_cons_of_mem _ (List.mem_append_left _ (List.mem_append_right _ h))
  have hi1 : ∀ w ∈ wsX10, w ∈ wsX0_putInOrder := fun _ h => List.mem_cons_of_mem _ (List.mem_append_right _ h)
  have hl := lv_entry ([.ref h0, .ref v0]) (n := 4) (Nat.le_of_ble_eq_true rfl)
  rw [lg_entry_eq]
  generalize (lg_sl ([.ref h0, .ref v0]) ++ List.replicate (4 - (lg_sl ([.ref h0, .ref v0])).length) Slot.unset).toArray = ls at hl ⊢
  have hl : lv_has ls 4 [(0, .ref h0), (1, .ref v0)] := hl
  have loop : ∀ (w : List Nat) (o : Option Nat) (pr : List Nat) (H : Heap) (locs : List Loc) (ls : Array Slot), gCh vnx o w → ch = pr ++ w → gFr vda (vda v0) ch = pr ++ gFr vda (vda v0) w → gBk vda (vda v0) ch = gBk vda (vda v0) w → va_P D vwCl (X ++ va_pl L (gE K bud fsd las bas mvi mva ear vln vda vam vrf vel vnx)) H → va_D A (X ++ va_pl L (gE K bud fsd las bas mvi mva ear vln vda vam vrf vel vnx)) → va_S A s.heap H locs → lv_has ls 4 [(3, va_rf o), (2, va_rf pr.getLast?), (0, .ref h0), (1, .ref v0)] → W p l e (headSpec wsX0_putInOrder ({ frames := 0, cells := 0, slots := 0, locals := 0 })).room s m ([.ref h0, .ref v0] : List Value).toArray below meth c H locs 0 0 (MQ below (va_Qv (fun (u : (Nat → Option Nat) × (Nat → Option Nat)) => gCh u.2 (u.1 h0) (gFr vda (vda v0) ch ++ v0 :: gBk vda (vda v0) ch) ∧ (∀ y, y ∉ v0 :: ch → u.2 y = vnx y) ∧ ∀ y, y ≠ h0 → u.1 y = ear y) (fun (u : (Nat → Option Nat) × (Nat → Option Nat)) t => gPost D tys A (X ++ va_pl L (gE K bud fsd las bas mvi mva u.1 vln vda vam vrf vel u.2)) t) A) ([.ref h0, .ref v0] : List Value).toArray s 0 0 A) (F0 m 7 ls []) := by
    intro w
    induction w with
    | nil =>
      intro o pr H locs ls ho hc hf hb9 hP hD hS hl
      obtain rfl : o = none := ho
      rcases hpr : pr.getLast? with _ | x
      · rw [hpr] at hl
        have hl : lv_has ls 4 [(3, .null), (2, .null), (0, .ref h0), (1, .ref v0)] := hl
        obtain rfl : pr = [] := List.getLast?_eq_none_iff.mp hpr
        refine lv_aload_nN hx hb dX0_putInOrder_7 rfl (lv_at hl 0 rfl) ?_
        refine lv_ifnullN (tgt := 32) hx hb dX0_putInOrder_8 (by decide) ?_
        refine lv_aload_nN hx hb dX0_putInOrder_32 rfl (lv_at hl 1 rfl) ?_
        refine lv_ifnonnullN hx hb dX0_putInOrder_33 ?_
        refine lv_aload_n hx hb dX0_putInOrder_36 rfl (lv_at hl 3 rfl) ?_
        refine lv_aload_n hx hb dX0_putInOrder_37 rfl (lv_at hl 2 rfl) ?_
        refine gk_get (C := RX0) (T := TX0) (N := 7) (v := va_rf (ear h0)) hx hb hts hi0 hown hK hP hL0 (gE_0 hK0) rfl 6 (by decide) (hts (.fieldLink RX0 16 "GrantBook$Line" "earliest" "LGrantBook$Voucher;") (List.mem_of_getElem? (i := 1) rfl)) (fun _ h9 => h9) rfl dX0_putInOrder_38 ?_
        rcases hq_1 : ear h0 with _ | a_1
        · refine gk_put (f' := (gE K bud fsd las bas mvi mva ear vln vda vam vrf vel (va_up vnx v0 none))) (v := .null) (ty := (.object "GrantBook$Voucher")) (C := RX1) (T := TX1) (N := 6) hx hb hts hi1 tyX1 tyX1_ok nmX1 hown hK hP hD hS hLv (gE_1 hKv) rfl 5 (by decide) (hts (.fieldLink RX0 41 "GrantBook$Voucher" "next" "LGrantBook$Voucher;") (List.mem_of_getElem? (i := 3) rfl)) (fun _ h9 => h9) rfl (by decide +kernel) rfl rfl (Nat.le_of_ble_eq_true rfl) (gU_vnx hKv none) dX0_putInOrder_41 (fun H locs hP hD hS => ?_)
          obtain ⟨vnx_2, evnx_2⟩ : ∃ z, z = (va_up vnx v0 none) := ⟨_, rfl⟩
          rw [← evnx_2] at hP hD
          refine lv_aload_n hx hb dX0_putInOrder_44 rfl (lv_at hl 2 rfl) ?_
          refine lv_aload_n hx hb dX0_putInOrder_45 rfl (lv_at hl 3 rfl) ?_
          refine gk_put (f' := (gE K bud fsd las bas mvi mva (va_up ear h0 (some v0)) vln vda vam vrf vel vnx_2)) (v := va_rf (some v0)) (ty := (.object "GrantBook$Voucher")) (C := RX0) (T := TX0) (N := 7) hx hb hts hi0 tyX0 tyX0_ok nmX0 hown hK hP hD hS hL0 (gE_0 hK0) rfl 6 (by decide) (hts (.fieldLink RX0 16 "GrantBook$Line" "earliest" "LGrantBook$Voucher;") (List.mem_of_getElem? (i := 1) rfl)) (fun _ h9 => h9) rfl (by decide +kernel) rfl rfl (Nat.le_of_ble_eq_true rfl) (gU_ear hK0 (some v0)) dX0_putInOrder_46 (fun H locs hP hD hS => ?_)
          obtain ⟨ear_3, eear_3⟩ : ∃ z, z = (va_up ear h0 (some v0)) := ⟨_, rfl⟩
          rw [← eear_3] at hP hD
          refine lv_goto (tgt := 65) hx hb dX0_putInOrder_49 (by decide) ?_
          refine W.widen (k := 0) (n := 0) (Nat.le_of_ble_eq_true rfl) (Nat.le_of_ble_eq_true rfl) ?_
          exact W.vret hx hb hr (fun t ht hW => ⟨⟨(ear_3, vnx_2), rfl, (gPut0 eear_3 (by rw [evnx_2, hq_1]) (by rw [hf]; exact List.append_nil _) (by rw [hb9]; rfl) hch hvc hc), by rw [ht]; exact hP, va_K.moved hW.alike hK, hD⟩, hS.F ht⟩) hS.2.2 dX0_putInOrder_65
        · refine gk_put (f' := (gE K bud fsd las bas mvi mva ear vln vda vam vrf vel (va_up vnx v0 (some a_1)))) (v := va_rf (some a_1)) (ty := (.object "GrantBook$Voucher")) (C := RX1) (T := TX1) (N := 6) hx hb hts hi1 tyX1 tyX1_ok nmX1 hown hK hP hD hS hLv (gE_1 hKv) rfl 5 (by decide) (hts (.fieldLink RX0 41 "GrantBook$Voucher" "next" "LGrantBook$Voucher;") (List.mem_of_getElem? (i := 3) rfl)) (fun _ h9 => h9) rfl (by decide +kernel) rfl rfl (Nat.le_of_ble_eq_true rfl) (gU_vnx hKv (some a_1)) dX0_putInOrder_41 (fun H locs hP hD hS => ?_)
          obtain ⟨vnx_4, evnx_4⟩ : ∃ z, z = (va_up vnx v0 (some a_1)) := ⟨_, rfl⟩
          rw [← evnx_4] at hP hD
          refine lv_aload_n hx hb dX0_putInOrder_44 rfl (lv_at hl 2 rfl) ?_
          refine lv_aload_n hx hb dX0_putInOrder_45 rfl (lv_at hl 3 rfl) ?_
          refine gk_put (f' := (gE K bud fsd las bas mvi mva (va_up ear h0 (some v0)) vln vda vam vrf vel vnx_4)) (v := va_rf (some v0)) (ty := (.object "GrantBook$Voucher")) (C := RX0) (T := TX0) (N := 7) hx hb hts hi0 tyX0 tyX0_ok nmX0 hown hK hP hD hS hL0 (gE_0 hK0) rfl 6 (by decide) (hts (.fieldLink RX0 16 "GrantBook$Line" "earliest" "LGrantBook$Voucher;") (List.mem_of_getElem? (i := 1) rfl)) (fun _ h9 => h9) rfl (by decide +kernel) rfl rfl (Nat.le_of_ble_eq_true rfl) (gU_ear hK0 (some v0)) dX0_putInOrder_46 (fun H locs hP hD hS => ?_)
          obtain ⟨ear_5, eear_5⟩ : ∃ z, z = (va_up ear h0 (some v0)) := ⟨_, rfl⟩
          rw [← eear_5] at hP hD
          refine lv_goto (tgt := 65) hx hb dX0_putInOrder_49 (by decide) ?_
          refine W.widen (k := 0) (n := 0) (Nat.le_of_ble_eq_true rfl) (Nat.le_of_ble_eq_true rfl) ?_
          exact W.vret hx hb hr (fun t ht hW => ⟨⟨(ear_5, vnx_4), rfl, (gPut0 eear_5 (by rw [evnx_4, hq_1]) (by rw [hf]; exact List.append_nil _) (by rw [hb9]; rfl) hch hvc hc), by rw [ht]; exact hP, va_K.moved hW.alike hK, hD⟩, hS.F ht⟩) hS.2.2 dX0_putInOrder_65
      · rw [hpr] at hl
        have hl : lv_has ls 4 [(3, .null), (2, .ref x), (0, .ref h0), (1, .ref v0)] := hl
        have hxp : x ∈ pr := List.mem_of_getLast? hpr
        obtain ⟨hLx, hKx⟩ := hcl x (by rw [hc]; exact List.mem_append_left _ hxp)
        refine lv_aload_nN hx hb dX0_putInOrder_7 rfl (lv_at hl 0 rfl) ?_
        refine lv_ifnullN (tgt := 32) hx hb dX0_putInOrder_8 (by decide) ?_
        refine lv_aload_n hx hb dX0_putInOrder_32 rfl (lv_at hl 1 rfl) ?_
        refine lv_ifnonnull (tgt := 52) hx hb dX0_putInOrder_33 (by decide) ?_
        refine lv_aload_n hx hb dX0_putInOrder_52 rfl (lv_at hl 3 rfl) ?_
        refine lv_aload_n hx hb dX0_putInOrder_53 rfl (lv_at hl 1 rfl) ?_
        refine gk_get (C := RX1) (T := TX1) (N := 6) (v := va_rf (vnx x)) hx hb hts hi1 hown hK hP hLx (gE_1 hKx) rfl 5 (by decide) (hts (.fieldLink RX0 41 "GrantBook$Voucher" "next" "LGrantBook$Voucher;") (List.mem_of_getElem? (i := 3) rfl)) (fun _ h9 => h9) rfl dX0_putInOrder_54 ?_
        rcases hq_6 : vnx x with _ | a_6
        · refine gk_put (f' := (gE K bud fsd las bas mvi mva ear vln vda vam vrf vel (va_up vnx v0 none))) (v := .null) (ty := (.object "GrantBook$Voucher")) (C := RX1) (T := TX1) (N := 6) hx hb hts hi1 tyX1 tyX1_ok nmX1 hown hK hP hD hS hLv (gE_1 hKv) rfl 5 (by decide) (hts (.fieldLink RX0 41 "GrantBook$Voucher" "next" "LGrantBook$Voucher;") (List.mem_of_getElem? (i := 3) rfl)) (fun _ h9 => h9) rfl (by decide +kernel) rfl rfl (Nat.le_of_ble_eq_true rfl) (gU_vnx hKv none) dX0_putInOrder_57 (fun H locs hP hD hS => ?_)
          obtain ⟨vnx_7, evnx_7⟩ : ∃ z, z = (va_up vnx v0 none) := ⟨_, rfl⟩
          rw [← evnx_7] at hP hD
          refine lv_aload_n hx hb dX0_putInOrder_60 rfl (lv_at hl 1 rfl) ?_
          refine lv_aload_n hx hb dX0_putInOrder_61 rfl (lv_at hl 3 rfl) ?_
          refine gk_put (f' := (gE K bud fsd las bas mvi mva ear vln vda vam vrf vel (va_up vnx_7 x (some v0)))) (v := va_rf (some v0)) (ty := (.object "GrantBook$Voucher")) (C := RX1) (T := TX1) (N := 6) hx hb hts hi1 tyX1 tyX1_ok nmX1 hown hK hP hD hS hLx (gE_1 hKx) rfl 5 (by decide) (hts (.fieldLink RX0 41 "GrantBook$Voucher" "next" "LGrantBook$Voucher;") (List.mem_of_getElem? (i := 3) rfl)) (fun _ h9 => h9) rfl (by decide +kernel) rfl rfl (Nat.le_of_ble_eq_true rfl) (gU_vnx hKx (some v0)) dX0_putInOrder_62 (fun H locs hP hD hS => ?_)
          obtain ⟨vnx_8, evnx_8⟩ : ∃ z, z = (va_up vnx_7 x (some v0)) := ⟨_, rfl⟩
          rw [← evnx_8] at hP hD
          refine W.widen (k := 0) (n := 0) (Nat.le_of_ble_eq_true rfl) (Nat.le_of_ble_eq_true rfl) ?_
          exact W.vret hx hb hr (fun t ht hW => ⟨⟨(ear, vnx_8), rfl, (gPut1 (by rw [evnx_7, hq_6]) evnx_8 (by rw [hf]; exact List.append_nil _) (by rw [hb9]; rfl) hch hvc hpr hc), by rw [ht]; exact hP, va_K.moved hW.alike hK, hD⟩, hS.F ht⟩) hS.2.2 dX0_putInOrder_65
        · refine gk_put (f' := (gE K bud fsd las bas mvi mva ear vln vda vam vrf vel (va_up vnx v0 (some a_6)))) (v := va_rf (some a_6)) (ty := (.object "GrantBook$Voucher")) (C := RX1) (T := TX1) (N := 6) hx hb hts hi1 tyX1 tyX1_ok nmX1 hown hK hP hD hS hLv (gE_1 hKv) rfl 5 (by decide) (hts (.fieldLink RX0 41 "GrantBook$Voucher" "next" "LGrantBook$Voucher;") (List.mem_of_getElem? (i := 3) rfl)) (fun _ h9 => h9) rfl (by decide +kernel) rfl rfl (Nat.le_of_ble_eq_true rfl) (gU_vnx hKv (some a_6)) dX0_putInOrder_57 (fun H locs hP hD hS => ?_)
          obtain ⟨vnx_9, evnx_9⟩ : ∃ z, z = (va_up vnx v0 (some a_6)) := ⟨_, rfl⟩
          rw [← evnx_9] at hP hD
          refine lv_aload_n hx hb dX0_putInOrder_60 rfl (lv_at hl 1 rfl) ?_
          refine lv_aload_n hx hb dX0_putInOrder_61 rfl (lv_at hl 3 rfl) ?_
          refine gk_put (f' := (gE K bud fsd las bas mvi mva ear vln vda vam vrf vel (va_up vnx_9 x (some v0)))) (v := va_rf (some v0)) (ty := (.object "GrantBook$Voucher")) (C := RX1) (T := TX1) (N := 6) hx hb hts hi1 tyX1 tyX1_ok nmX1 hown hK hP hD hS hLx (gE_1 hKx) rfl 5 (by decide) (hts (.fieldLink RX0 41 "GrantBook$Voucher" "next" "LGrantBook$Voucher;") (List.mem_of_getElem? (i := 3) rfl)) (fun _ h9 => h9) rfl (by decide +kernel) rfl rfl (Nat.le_of_ble_eq_true rfl) (gU_vnx hKx (some v0)) dX0_putInOrder_62 (fun H locs hP hD hS => ?_)
          obtain ⟨vnx_10, evnx_10⟩ : ∃ z, z = (va_up vnx_9 x (some v0)) := ⟨_, rfl⟩
          rw [← evnx_10] at hP hD
          refine W.widen (k := 0) (n := 0) (Nat.le_of_ble_eq_true rfl) (Nat.le_of_ble_eq_true rfl) ?_
          exact W.vret hx hb hr (fun t ht hW => ⟨⟨(ear, vnx_10), rfl, (gPut1 (by rw [evnx_9, hq_6]) evnx_10 (by rw [hf]; exact List.append_nil _) (by rw [hb9]; rfl) hch hvc hpr hc), by rw [ht]; exact hP, va_K.moved hW.alike hK, hD⟩, hS.F ht⟩) hS.2.2 dX0_putInOrder_65
    | cons a w ih =>
      intro o pr H locs ls ho hc hf hb9 hP hD hS hl
      have hch9 := ho
      obtain ⟨rfl, ho⟩ := ho
      obtain ⟨hLa, hKa⟩ := hcl a (by rw [hc]; exact List.mem_append_right _ List.mem_cons_self)
      have hl : lv_has ls 4 [(3, .ref a), (2, va_rf (pr.getLast?)), (0, .ref h0), (1, .ref v0)] := hl
      refine lv_aload_n hx hb dX0_putInOrder_7 rfl (lv_at hl 0 rfl) ?_
      refine lv_ifnull hx hb dX0_putInOrder_8 ?_
      refine lv_aload_n hx hb dX0_putInOrder_11 rfl (lv_at hl 0 rfl) ?_
      refine gk_get (C := RX1) (T := TX1) (N := 6) (v := .int (vda a)) hx hb hts hi1 hown hK hP hLa (gE_1 hKa) rfl 1 (by decide) (hts (.fieldLink RX0 38 "GrantBook$Voucher" "day" "I") (List.mem_of_getElem? (i := 2) rfl)) (fun _ h9 => h9) rfl dX0_putInOrder_12 ?_
      refine lv_aload_n hx hb dX0_putInOrder_15 rfl (lv_at hl 3 rfl) ?_
      refine gk_get (C := RX1) (T := TX1) (N := 6) (v := .int (vda v0)) hx hb hts hi1 hown hK hP hLv (gE_1 hKv) rfl 1 (by decide) (hts (.fieldLink RX0 38 "GrantBook$Voucher" "day" "I") (List.mem_of_getElem? (i := 2) rfl)) (fun _ h9 => h9) rfl dX0_putInOrder_16 ?_
      refine lv_icmp_gt (tgt := 32) hx hb dX0_putInOrder_19 (by decide) (fun c_11 => ?_) (fun c_11 => ?_)
      · rcases hpr : pr.getLast? with _ | x
        · rw [hpr] at hl
          have hl : lv_has ls 4 [(3, .ref a), (2, .null), (0, .ref h0), (1, .ref v0)] := hl
          obtain rfl : pr = [] := List.getLast?_eq_none_iff.mp hpr
          refine lv_aload_nN hx hb dX0_putInOrder_32 rfl (lv_at hl 1 rfl) ?_
          refine lv_ifnonnullN hx hb dX0_putInOrder_33 ?_
          refine lv_aload_n hx hb dX0_putInOrder_36 rfl (lv_at hl 3 rfl) ?_
          refine lv_aload_n hx hb dX0_putInOrder_37 rfl (lv_at hl 2 rfl) ?_
          refine gk_get (C := RX0) (T := TX0) (N := 7) (v := va_rf (ear h0)) hx hb hts hi0 hown hK hP hL0 (gE_0 hK0) rfl 6 (by decide) (hts (.fieldLink RX0 16 "GrantBook$Line" "earliest" "LGrantBook$Voucher;") (List.mem_of_getElem? (i := 1) rfl)) (fun _ h9 => h9) rfl dX0_putInOrder_38 ?_
          rcases hq_12 : ear h0 with _ | a_12
          · refine gk_put (f' := (gE K bud fsd las bas mvi mva ear vln vda vam vrf vel (va_up vnx v0 none))) (v := .null) (ty := (.object "GrantBook$Voucher")) (C := RX1) (T := TX1) (N := 6) hx hb hts hi1 tyX1 tyX1_ok nmX1 hown hK hP hD hS hLv (gE_1 hKv) rfl 5 (by decide) (hts (.fieldLink RX0 41 "GrantBook$Voucher" "next" "LGrantBook$Voucher;") (List.mem_of_getElem? (i := 3) rfl)) (fun _ h9 => h9) rfl (by decide +kernel) rfl rfl (Nat.le_of_ble_eq_true rfl) (gU_vnx hKv none) dX0_putInOrder_41 (fun H locs hP hD hS => ?_)
            obtain ⟨vnx_13, evnx_13⟩ : ∃ z, z = (va_up vnx v0 none) := ⟨_, rfl⟩
            rw [← evnx_13] at hP hD
            refine lv_aload_n hx hb dX0_putInOrder_44 rfl (lv_at hl 2 rfl) ?_
            refine lv_aload_n hx hb dX0_putInOrder_45 rfl (lv_at hl 3 rfl) ?_
            refine gk_put (f' := (gE K bud fsd las bas mvi mva (va_up ear h0 (some v0)) vln vda vam vrf vel vnx_13)) (v := va_rf (some v0)) (ty := (.object "GrantBook$Voucher")) (C := RX0) (T := TX0) (N := 7) hx hb hts hi0 tyX0 tyX0_ok nmX0 hown hK hP hD hS hL0 (gE_0 hK0) rfl 6 (by decide) (hts (.fieldLink RX0 16 "GrantBook$Line" "earliest" "LGrantBook$Voucher;") (List.mem_of_getElem? (i := 1) rfl)) (fun _ h9 => h9) rfl (by decide +kernel) rfl rfl (Nat.le_of_ble_eq_true rfl) (gU_ear hK0 (some v0)) dX0_putInOrder_46 (fun H locs hP hD hS => ?_)
            obtain ⟨ear_14, eear_14⟩ : ∃ z, z = (va_up ear h0 (some v0)) := ⟨_, rfl⟩
            rw [← eear_14] at hP hD
            refine lv_goto (tgt := 65) hx hb dX0_putInOrder_49 (by decide) ?_
            refine W.widen (k := 0) (n := 0) (Nat.le_of_ble_eq_true rfl) (Nat.le_of_ble_eq_true rfl) ?_
            exact W.vret hx hb hr (fun t ht hW => ⟨⟨(ear_14, vnx_13), rfl, (gPut0 eear_14 (by rw [evnx_13, hq_12]) (by rw [hf]; show [] ++ (if vda v0 < vda a then _ else _) = []; rw [if_pos c_11]; rfl) (by rw [hb9]; show (if vda v0 < vda a then _ else _) = _; rw [if_pos c_11]) hch hvc hc), by rw [ht]; exact hP, va_K.moved hW.alike hK, hD⟩, hS.F ht⟩) hS.2.2 dX0_putInOrder_65
          · refine gk_put (f' := (gE K bud fsd las bas mvi mva ear vln vda vam vrf vel (va_up vnx v0 (some a_12)))) (v := va_rf (some a_12)) (ty := (.object "GrantBook$Voucher")) (C := RX1) (T := TX1) (N := 6) hx hb hts hi1 tyX1 tyX1_ok nmX1 hown hK hP hD hS hLv (gE_1 hKv) rfl 5 (by decide) (hts (.fieldLink RX0 41 "GrantBook$Voucher" "next" "LGrantBook$Voucher;") (List.mem_of_getElem? (i := 3) rfl)) (fun _ h9 => h9) rfl (by decide +kernel) rfl rfl (Nat.le_of_ble_eq_true rfl) (gU_vnx hKv (some a_12)) dX0_putInOrder_41 (fun H locs hP hD hS => ?_)
            obtain ⟨vnx_15, evnx_15⟩ : ∃ z, z = (va_up vnx v0 (some a_12)) := ⟨_, rfl⟩
            rw [← evnx_15] at hP hD
            refine lv_aload_n hx hb dX0_putInOrder_44 rfl (lv_at hl 2 rfl) ?_
            refine lv_aload_n hx hb dX0_putInOrder_45 rfl (lv_at hl 3 rfl) ?_
            refine gk_put (f' := (gE K bud fsd las bas mvi mva (va_up ear h0 (some v0)) vln vda vam vrf vel vnx_15)) (v := va_rf (some v0)) (ty := (.object "GrantBook$Voucher")) (C := RX0) (T := TX0) (N := 7) hx hb hts hi0 tyX0 tyX0_ok nmX0 hown hK hP hD hS hL0 (gE_0 hK0) rfl 6 (by decide) (hts (.fieldLink RX0 16 "GrantBook$Line" "earliest" "LGrantBook$Voucher;") (List.mem_of_getElem? (i := 1) rfl)) (fun _ h9 => h9) rfl (by decide +kernel) rfl rfl (Nat.le_of_ble_eq_true rfl) (gU_ear hK0 (some v0)) dX0_putInOrder_46 (fun H locs hP hD hS => ?_)
            obtain ⟨ear_16, eear_16⟩ : ∃ z, z = (va_up ear h0 (some v0)) := ⟨_, rfl⟩
            rw [← eear_16] at hP hD
            refine lv_goto (tgt := 65) hx hb dX0_putInOrder_49 (by decide) ?_
            refine W.widen (k := 0) (n := 0) (Nat.le_of_ble_eq_true rfl) (Nat.le_of_ble_eq_true rfl) ?_
            exact W.vret hx hb hr (fun t ht hW => ⟨⟨(ear_16, vnx_15), rfl, (gPut0 eear_16 (by rw [evnx_15, hq_12]) (by rw [hf]; show [] ++ (if vda v0 < vda a then _ else _) = []; rw [if_pos c_11]; rfl) (by rw [hb9]; show (if vda v0 < vda a then _ else _) = _; rw [if_pos c_11]) hch hvc hc), by rw [ht]; exact hP, va_K.moved hW.alike hK, hD⟩, hS.F ht⟩) hS.2.2 dX0_putInOrder_65
        · rw [hpr] at hl
          have hl : lv_has ls 4 [(3, .ref a), (2, .ref x), (0, .ref h0), (1, .ref v0)] := hl
          have hxp : x ∈ pr := List.mem_of_getLast? hpr
          obtain ⟨hLx, hKx⟩ := hcl x (by rw [hc]; exact List.mem_append_left _ hxp)
          refine lv_aload_n hx hb dX0_putInOrder_32 rfl (lv_at hl 1 rfl) ?_
          refine lv_ifnonnull (tgt := 52) hx hb dX0_putInOrder_33 (by decide) ?_
          refine lv_aload_n hx hb dX0_putInOrder_52 rfl (lv_at hl 3 rfl) ?_
          refine lv_aload_n hx hb dX0_putInOrder_53 rfl (lv_at hl 1 rfl) ?_
          refine gk_get (C := RX1) (T := TX1) (N := 6) (v := va_rf (vnx x)) hx hb hts hi1 hown hK hP hLx (gE_1 hKx) rfl 5 (by decide) (hts (.fieldLink RX0 41 "GrantBook$Voucher" "next" "LGrantBook$Voucher;") (List.mem_of_getElem? (i := 3) rfl)) (fun _ h9 => h9) rfl dX0_putInOrder_54 ?_
          rcases hq_17 : vnx x with _ | a_17
          · refine gk_put (f' := (gE K bud fsd las bas mvi mva ear vln vda vam vrf vel (va_up vnx v0 none))) (v := .null) (ty := (.object "GrantBook$Voucher")) (C := RX1) (T := TX1) (N := 6) hx hb hts hi1 tyX1 tyX1_ok nmX1 hown hK hP hD hS hLv (gE_1 hKv) rfl 5 (by decide) (hts (.fieldLink RX0 41 "GrantBook$Voucher" "next" "LGrantBook$Voucher;") (List.mem_of_getElem? (i := 3) rfl)) (fun _ h9 => h9) rfl (by decide +kernel) rfl rfl (Nat.le_of_ble_eq_true rfl) (gU_vnx hKv none) dX0_putInOrder_57 (fun H locs hP hD hS => ?_)
            obtain ⟨vnx_18, evnx_18⟩ : ∃ z, z = (va_up vnx v0 none) := ⟨_, rfl⟩
            rw [← evnx_18] at hP hD
            refine lv_aload_n hx hb dX0_putInOrder_60 rfl (lv_at hl 1 rfl) ?_
            refine lv_aload_n hx hb dX0_putInOrder_61 rfl (lv_at hl 3 rfl) ?_
            refine gk_put (f' := (gE K bud fsd las bas mvi mva ear vln vda vam vrf vel (va_up vnx_18 x (some v0)))) (v := va_rf (some v0)) (ty := (.object "GrantBook$Voucher")) (C := RX1) (T := TX1) (N := 6) hx hb hts hi1 tyX1 tyX1_ok nmX1 hown hK hP hD hS hLx (gE_1 hKx) rfl 5 (by decide) (hts (.fieldLink RX0 41 "GrantBook$Voucher" "next" "LGrantBook$Voucher;") (List.mem_of_getElem? (i := 3) rfl)) (fun _ h9 => h9) rfl (by decide +kernel) rfl rfl (Nat.le_of_ble_eq_true rfl) (gU_vnx hKx (some v0)) dX0_putInOrder_62 (fun H locs hP hD hS => ?_)
            obtain ⟨vnx_19, evnx_19⟩ : ∃ z, z = (va_up vnx_18 x (some v0)) := ⟨_, rfl⟩
            rw [← evnx_19] at hP hD
            refine W.widen (k := 0) (n := 0) (Nat.le_of_ble_eq_true rfl) (Nat.le_of_ble_eq_true rfl) ?_
            exact W.vret hx hb hr (fun t ht hW => ⟨⟨(ear, vnx_19), rfl, (gPut1 (by rw [evnx_18, hq_17]) evnx_19 (by rw [hf]; show pr ++ (if vda v0 < vda a then _ else _) = pr; rw [if_pos c_11, List.append_nil]) (by rw [hb9]; show (if vda v0 < vda a then _ else _) = _; rw [if_pos c_11]) hch hvc hpr hc), by rw [ht]; exact hP, va_K.moved hW.alike hK, hD⟩, hS.F ht⟩) hS.2.2 dX0_putInOrder_65
          · refine gk_put (f' := (gE K bud fsd las bas mvi mva ear vln vda vam vrf vel (va_up vnx v0 (some a_17)))) (v := va_rf (some a_17)) (ty := (.object "GrantBook$Voucher")) (C := RX1) (T := TX1) (N := 6) hx hb hts hi1 tyX1 tyX1_ok nmX1 hown hK hP hD hS hLv (gE_1 hKv) rfl 5 (by decide) (hts (.fieldLink RX0 41 "GrantBook$Voucher" "next" "LGrantBook$Voucher;") (List.mem_of_getElem? (i := 3) rfl)) (fun _ h9 => h9) rfl (by decide +kernel) rfl rfl (Nat.le_of_ble_eq_true rfl) (gU_vnx hKv (some a_17)) dX0_putInOrder_57 (fun H locs hP hD hS => ?_)
            obtain ⟨vnx_20, evnx_20⟩ : ∃ z, z = (va_up vnx v0 (some a_17)) := ⟨_, rfl⟩
            rw [← evnx_20] at hP hD
            refine lv_aload_n hx hb dX0_putInOrder_60 rfl (lv_at hl 1 rfl) ?_
            refine lv_aload_n hx hb dX0_putInOrder_61 rfl (lv_at hl 3 rfl) ?_
            refine gk_put (f' := (gE K bud fsd las bas mvi mva ear vln vda vam vrf vel (va_up vnx_20 x (some v0)))) (v := va_rf (some v0)) (ty := (.object "GrantBook$Voucher")) (C := RX1) (T := TX1) (N := 6) hx hb hts hi1 tyX1 tyX1_ok nmX1 hown hK hP hD hS hLx (gE_1 hKx) rfl 5 (by decide) (hts (.fieldLink RX0 41 "GrantBook$Voucher" "next" "LGrantBook$Voucher;") (List.mem_of_getElem? (i := 3) rfl)) (fun _ h9 => h9) rfl (by decide +kernel) rfl rfl (Nat.le_of_ble_eq_true rfl) (gU_vnx hKx (some v0)) dX0_putInOrder_62 (fun H locs hP hD hS => ?_)
            obtain ⟨vnx_21, evnx_21⟩ : ∃ z, z = (va_up vnx_20 x (some v0)) := ⟨_, rfl⟩
            rw [← evnx_21] at hP hD
            refine W.widen (k := 0) (n := 0) (Nat.le_of_ble_eq_true rfl) (Nat.le_of_ble_eq_true rfl) ?_
            exact W.vret hx hb hr (fun t ht hW => ⟨⟨(ear, vnx_21), rfl, (gPut1 (by rw [evnx_20, hq_17]) evnx_21 (by rw [hf]; show pr ++ (if vda v0 < vda a then _ else _) = pr; rw [if_pos c_11, List.append_nil]) (by rw [hb9]; show (if vda v0 < vda a then _ else _) = _; rw [if_pos c_11]) hch hvc hpr hc), by rw [ht]; exact hP, va_K.moved hW.alike hK, hD⟩, hS.F ht⟩) hS.2.2 dX0_putInOrder_65
      · refine lv_aload_n hx hb dX0_putInOrder_22 rfl (lv_at hl 0 rfl) ?_
        refine lv_astore_n (lv' := [(2, .ref a), (3, .ref a), (0, .ref h0), (1, .ref v0)]) hx hb dX0_putInOrder_23 rfl hl (by decide) rfl (fun ls hl => ?_)
        refine lv_aload_n hx hb dX0_putInOrder_24 rfl (lv_at hl 1 rfl) ?_
        refine gk_get (C := RX1) (T := TX1) (N := 6) (v := va_rf (vnx a)) hx hb hts hi1 hown hK hP hLa (gE_1 hKa) rfl 5 (by decide) (hts (.fieldLink RX0 41 "GrantBook$Voucher" "next" "LGrantBook$Voucher;") (List.mem_of_getElem? (i := 3) rfl)) (fun _ h9 => h9) rfl dX0_putInOrder_25 ?_
        rcases hq_22 : vnx a with _ | a_22
        · refine lv_astore_nN (lv' := [(3, .null), (2, .ref a), (0, .ref h0), (1, .ref v0)]) hx hb dX0_putInOrder_28 rfl hl (by decide) rfl (fun ls hl => ?_)
          refine lv_goto (tgt := 7) hx hb dX0_putInOrder_29 (by decide) ?_
          exact ih (vnx a) (pr ++ [a]) _ _ _ ho (by rw [hc, List.append_assoc]; rfl) (by rw [hf]; show pr ++ (if vda v0 < vda a then _ else _) = _; rw [if_neg c_11, List.append_assoc]; rfl) (by rw [hb9]; show (if vda v0 < vda a then _ else _) = _; rw [if_neg c_11]) hP hD hS (by rw [hq_22, List.getLast?_append]; exact lv_sub hl [0, 1, 2, 3] rfl)
        · refine lv_astore_n (lv' := [(3, .ref a_22), (2, .ref a), (0, .ref h0), (1, .ref v0)]) hx hb dX0_putInOrder_28 rfl hl (by decide) rfl (fun ls hl => ?_)
          refine lv_goto (tgt := 7) hx hb dX0_putInOrder_29 (by decide) ?_
          exact ih (vnx a) (pr ++ [a]) _ _ _ ho (by rw [hc, List.append_assoc]; rfl) (by rw [hf]; show pr ++ (if vda v0 < vda a then _ else _) = _; rw [if_neg c_11, List.append_assoc]; rfl) (by rw [hb9]; show (if vda v0 < vda a then _ else _) = _; rw [if_neg c_11]) hP hD hS (by rw [hq_22, List.getLast?_append]; exact lv_sub hl [0, 1, 2, 3] rfl)
  refine lv_null hx hb dX0_putInOrder_0 ?_
  refine lv_astore_nN (lv' := [(2, .null), (0, .ref h0), (1, .ref v0)]) hx hb dX0_putInOrder_1 rfl hl (by decide) rfl (fun ls hl => ?_)
  refine lv_aload_n hx hb dX0_putInOrder_2 rfl (lv_at hl 1 rfl) ?_
  refine gk_get (C := RX0) (T := TX0) (N := 7) (v := va_rf (ear h0)) hx hb hts hi0 hown hK hP hL0 (gE_0 hK0) rfl 6 (by decide) (hts (.fieldLink RX0 16 "GrantBook$Line" "earliest" "LGrantBook$Voucher;") (List.mem_of_getElem? (i := 1) rfl)) (fun _ h9 => h9) rfl dX0_putInOrder_3 ?_
  rcases hq_23 : ear h0 with _ | a_23
  · refine lv_astore_nN (lv' := [(3, .null), (2, .null), (0, .ref h0), (1, .ref v0)]) hx hb dX0_putInOrder_6 rfl hl (by decide) rfl (fun ls hl => ?_)
    exact loop ch (ear h0) [] _ _ _ hch rfl rfl rfl hP hD hS (by rw [hq_23]; exact lv_sub hl [0, 1, 2, 3] rfl)
  · refine lv_astore_n (lv' := [(3, .ref a_23), (2, .null), (0, .ref h0), (1, .ref v0)]) hx hb dX0_putInOrder_6 rfl hl (by decide) rfl (fun ls hl => ?_)
    exact loop ch (ear h0) [] _ _ _ hch rfl rfl rfl hP hD hS (by rw [hq_23]; exact lv_sub hl [0, 1, 2, 3] rfl)
end
section
abbrev gTy (cyI cyZ cyL cyV cyJ : ClassId) : List (ClassId × FieldType) := [(cyI, .int), (cyZ, .boolean), (cyL, .object "GrantBook$Line"), (cyV, .object "GrantBook$Voucher"), (cyJ, .long)]
abbrev gIn (x lo hi : Int32) : Prop := lo ≤ x ∧ x ≤ hi
/-- the row at number k is a -/
def gHas (N : Nat) (f : Nat → Option Nat) (k : Int32) (a : Nat) : Prop := ∃ i, i < N ∧ k = nI i ∧ f i = some a
theorem gHn_lt {N : Nat} (hN : N < 2 ^ 31) {f : Nat → Option Nat} {k : Int32} (h : k < 0) : ¬ ∃ a, gHas N f k a := by
  rintro ⟨a, i, hi, rfl, -⟩
  exact nI_pos (by omega) h
theorem gHn_ge {N : Nat} (hN : N < 2 ^ 31) {f : Nat → Option Nat} {k : Int32} (h : nI N ≤ k) : ¬ ∃ a, gHas N f k a := by
  rintro ⟨a, i, hi, rfl, -⟩
  exact nI_ge hi hN h
theorem gHn_no {N : Nat} (hN : N < 2 ^ 31) {f : Nat → Option Nat} {j : Nat} (hj : j < N) (h : f j = none) : ¬ ∃ a, gHas N f (nI j) a := by
  rintro ⟨a, i, hi, e, h2⟩
  have := (nI_eq (by omega) (by omega)).mp e
  subst this
  rw [h] at h2
  cases h2
theorem gIx {k : Int32} {N : Nat} (hN : N < 2 ^ 31) (h1 : ¬ k < 0) (h2 : ¬ nI N ≤ k) : ∃ i, i < N ∧ k = nI i := by
  obtain ⟨j, hj, rfl⟩ := nI_of h1
  refine ⟨j, ?_, rfl⟩
  rcases Nat.lt_or_ge j N with h | h
  · exact h
  · exact absurd (nI_le h hj) h2
theorem gLt {a N : Nat} (ha : a < 2 ^ 31) (hN : N < 2 ^ 31) (h : nI a < nI N) : a < N := (nI_ltI ha hN).mp h
theorem gNz {x : Int32} (h : ¬ x ≤ 0) : ¬ x.toInt64 = 0 := by
  intro h2
  apply h
  have h3 : x.toInt64.toInt = 0 := by rw [h2]; rfl
  rw [Int32.toInt_toInt64] at h3
  rw [Int32.le_iff_toInt_le, h3]
  decide
/-- what the class holds together -/
def gOK (L : List Nat) (K : Nat → Nat) (lrow vrow ear vln vnx : Nat → Option Nat) (ch : Nat → List Nat) : Prop :=
  (∀ i a, i < 12 → lrow i = some a → a ∈ L ∧ K a = 0) ∧ (∀ i v, i < 100 → vrow i = some v → v ∈ L ∧ K v = 1 ∧ ∃ b, vln v = some b ∧ b ∈ L ∧ K b = 0) ∧ ∀ a, a ∈ L → K a = 0 → gCh vnx (ear a) (ch a) ∧ ∀ v ∈ ch a, v ∈ L ∧ K v = 1
theorem gOK.l {L : List Nat} {K : Nat → Nat} {lrow vrow ear vln vnx : Nat → Option Nat} {ch : Nat → List Nat} (h : gOK L K lrow vrow ear vln vnx ch) {k : Int32} {a : Nat} (h2 : gHas 12 lrow k a) : a ∈ L ∧ K a = 0 := by
  obtain ⟨i, hi, -, h3⟩ := h2
  exact h.1 i a hi h3
theorem gOK.v {L : List Nat} {K : Nat → Nat} {lrow vrow ear vln vnx : Nat → Option Nat} {ch : Nat → List Nat} (h : gOK L K lrow vrow ear vln vnx ch) {k : Int32} {v : Nat} (h2 : gHas 100 vrow k v) : v ∈ L ∧ K v = 1 ∧ ∃ b, vln v = some b ∧ b ∈ L ∧ K b = 0 := by
  obtain ⟨i, hi, -, h3⟩ := h2
  exact h.2.1 i v hi h3
/-- the sum over the lines -/
def gSa (lrow : Nat → Option Nat) (bas vel vda : Nat → Int32) (ch : Nat → List Nat) (d z : Int32) : Nat → Int32
  | 0 => 0
  | i + 1 => match lrow i with
    | none => gSa lrow bas vel vda ch d z i
    | some a => if bas a = 0 ∧ ¬ z = 0 then gSa lrow bas vel vda ch d z i else gSa lrow bas vel vda ch d z i + gSu vel vda d (ch a) 0
def gOv (ora oc x : Int32) : Int32 := (if oc.toInt64 < ora.toInt64 * x.toInt64 / 100 then oc.toInt64 else ora.toInt64 * x.toInt64 / 100).toInt32
def gEb (gs ga a b : Int32) : Int64 := if ga.toInt64 < (a.toInt64 + b.toInt64) * gs.toInt64 / 100 then ga.toInt64 else (a.toInt64 + b.toInt64) * gs.toInt64 / 100
def gEa (gs am : Int32) (e : Int64) : Int32 := if 100 - gs ≤ 0 then e.toInt32 else (if am.toInt64 * gs.toInt64 / (100 - gs).toInt64 < e then am.toInt64 * gs.toInt64 / (100 - gs).toInt64 else e).toInt32
def gLm (gs : Int32) (e : Int64) : Int64 := if gs ≤ 0 then 0 else (e * (100 - gs).toInt64 + gs.toInt64 - 1) / gs.toInt64
def gMm (gs am : Int32) (e : Int64) : Int32 := (if 0 < gLm gs e - am.toInt64 then gLm gs e - am.toInt64 else 0).toInt32
theorem gUp2 {α : Type} (f : Nat → α) (k : Nat) (v w : α) : va_up (va_up f k v) k w = va_up f k w := by
  funext j
  by_cases h : j = k
  · subst h; rw [va_up_self, va_up_self]
  · rw [va_up_ne _ _ h, va_up_ne _ _ h, va_up_ne _ _ h]
theorem gRA_eq {U : State} {c1 c2 : ClassId} {ty : FieldType} (h1 : va_RA U c1 ty) (h2 : va_RA U c2 ty) : c1 = c2 := by
  cases ty with
  | object C =>
    obtain ⟨_, _, _, _, _, h3⟩ := h1
    obtain ⟨_, _, _, _, _, h4⟩ := h2
    rw [h3] at h4
    exact Option.some.inj h4
  | _ =>
    have h3 : U.vm.findClass _ = some c1 := h1
    have h4 : U.vm.findClass _ = some c2 := h2
    rw [h3] at h4
    exact Option.some.inj h4
theorem gAcc_z (f l rf d : Int32) : narrow .boolean (.int (gAcc f l rf d)) = .int (gAcc f l rf d) := by
  unfold gAcc
  by_cases h1 : rf = 0
  · rw [if_pos h1]
    by_cases h2 : d < f
    · rw [if_pos h2]; rfl
    · rw [if_neg h2]
      by_cases h3 : l < d
      · rw [if_pos h3]; rfl
      · rw [if_neg h3]; rfl
  · rw [if_neg h1]; rfl
theorem gPn_lt {nc : Nat} (h : nc ≤ 40) {k : Int32} (c : k < 0) : ¬ ∃ i, i < nc ∧ k = nI i := by
  rintro ⟨i, hi, rfl⟩
  exact nI_pos (by omega) c
theorem gPn_ge {nc : Nat} (h : nc ≤ 40) {k : Int32} (c : nI nc ≤ k) : ¬ ∃ i, i < nc ∧ k = nI i := by
  rintro ⟨i, hi, rfl⟩
  exact nI_ge hi (by omega) c
theorem gPn_40 {nc : Nat} (h : nc ≤ 40) {k : Int32} (c1 : ¬ k < 0) (c2 : ¬ nI nc ≤ k) : k < 40 := by
  obtain ⟨i, hi, rfl⟩ := gIx (N := nc) (by omega) c1 c2
  exact nI_lt (b := 40) (by omega) (by decide)
set_option maxHeartbeats 4000000 in
set_option maxRecDepth 100000 in
theorem kX2_checkRange (l : Launch) (hst : l.stackTraces = false) (D : va_G) (tys : List (ClassId × FieldType)) (Wo : va_W) (v0 lo hi : Int32) (sz : Nat) (A : Nat → Prop) (hAe : va_A (Wo) sz = A) : vx_Met l yX2_checkRange wsX2_checkRange ({ frames := 6, cells := 1, slots := 6, locals := 82 }) (va_Pc [.int v0, .int lo, .int hi] (gPreT D tys (Wo) sz)) (va_Qv (fun (_ : Unit) => gIn v0 lo hi) (fun (_ : Unit) t => gPost D tys A Wo t) A) (gThr D tys A (Wo) (fun E => E = "java/lang/IllegalArgumentException" ∧ ¬ gIn v0 lo hi)) 1 6 A := by
  refine vx_ofW (cc := cX2_checkRange) (maxL := 3) (ret := none) (by decide) rfl ?_
  intro p e s m args below meth c s₁ B hml htb hv
  obtain ⟨rfl, hTF, hsz, hP, hK, hD0⟩ := hv
  have hx := B.exec
  have hb := B.bytes
  have hr := B.returns
  have hts := atoms_spec (ws := wsX2_checkRange) B.pre
  have hown : s.vm.findClass RX2 = some m.cls := findClass_of_methodNamed B.named
  have hlocks := B.notSynchronized
  subst hsz
  have hD := hD0.self (sz := s.heap.size)
  rw [hAe] at hD hTF
  have hA : ∀ q : Nat, s.heap.size ≤ q → A q := fun q h => by rw [← hAe]; exact Or.inr h
  have hS : va_S A s.heap s.heap [] := va_S.rf
  have hP : va_P D vwCl (Wo) s.heap := hP
  have hl := lv_entry ([.int v0, .int lo, .int hi]) (n := 3) (Nat.le_of_ble_eq_true rfl)
  rw [lg_entry_eq]
  generalize (lg_sl ([.int v0, .int lo, .int hi]) ++ List.replicate (3 - (lg_sl ([.int v0, .int lo, .int hi])).length) Slot.unset).toArray = ls at hl ⊢
  have hl : lv_has ls 3 [(0, .int v0), (1, .int lo), (2, .int hi)] := hl
  refine lv_iload_n hx hb dX2_checkRange_0 rfl (lv_at hl 0 rfl) ?_
  refine lv_iload_n hx hb dX2_checkRange_1 rfl (lv_at hl 1 rfl) ?_
  refine lv_icmp_lt (tgt := 10) hx hb dX2_checkRange_2 (by decide) (fun c_1 => ?_) (fun c_1 => ?_)
  · obtain ⟨sa_2, hsa_2⟩ := hTF.2.2.2 (182, "an argument is out of range") (by decide +kernel)
    exact vx_throwS hx hb hst (sa := sa_2) (text := "an argument is out of range") (is := 182) (names := ["java/lang/RuntimeException", "java/lang/Exception"]) hown (by decide +kernel) (by decide +kernel) (hts (.classLink RX2 90 "java/lang/IllegalArgumentException") (List.mem_of_getElem? (i := 1) rfl)) (hts (.initialized "java/lang/IllegalArgumentException") (List.mem_of_getElem? (i := 2) rfl)) hsa_2 (gk_hat (fun w hw => hts w (List.mem_cons_of_mem _ (List.mem_append_right _ hw))) hTF (by decide +kernel)) (by decide +kernel) hTF.1 hTF.2.1 hS (hl.1.trans hml.symm) dX2_checkRange_10 dX2_checkRange_13 dX2_checkRange_14 dX2_checkRange_16 dX2_checkRange_19 (fun x hx9 => (htb x hx9).elim) (Nat.le_of_ble_eq_true rfl) (Nat.le_of_ble_eq_true rfl) (Nat.le_of_ble_eq_true rfl) (Nat.le_of_ble_eq_true rfl) hlocks (fun t hal hsz9 hkp => ⟨"java/lang/IllegalArgumentException", ⟨rfl, fun h => absurd c_1 (Int32.not_lt.mpr h.1)⟩, ⟨rfl, hP.kept (fun k q hk => hkp q.1 (vx_lt hP hk)), va_K.moved hal hK, hD⟩, Nat.le_trans hS.1 hsz9, fun q h1 h2 => (hkp q (Nat.lt_of_lt_of_le h1 hS.1)).trans (hS.2.1 q h1 h2)⟩) hS.2.2 (Nat.le_of_ble_eq_true rfl) (Nat.le_of_ble_eq_true rfl)
  · refine lv_iload_n hx hb dX2_checkRange_5 rfl (lv_at hl 0 rfl) ?_
    refine lv_iload_n hx hb dX2_checkRange_6 rfl (lv_at hl 2 rfl) ?_
    refine lv_icmp_le (tgt := 20) hx hb dX2_checkRange_7 (by decide) (fun c_3 => ?_) (fun c_3 => ?_)
    · refine W.widen (k := 1) (n := 6) (Nat.le_of_ble_eq_true rfl) (Nat.le_of_ble_eq_true rfl) ?_
      refine vx_ret ?_
      exact W.vret hx hb hr (fun t ht hW => ⟨⟨(), rfl, ⟨Int32.not_lt.mp c_1, c_3⟩, by rw [ht]; exact hP, va_K.moved hW.alike hK, hD⟩, hS.F ht⟩) hS.2.2 dX2_checkRange_20
    · obtain ⟨sa_4, hsa_4⟩ := hTF.2.2.2 (182, "an argument is out of range") (by decide +kernel)
      exact vx_throwS hx hb hst (sa := sa_4) (text := "an argument is out of range") (is := 182) (names := ["java/lang/RuntimeException", "java/lang/Exception"]) hown (by decide +kernel) (by decide +kernel) (hts (.classLink RX2 90 "java/lang/IllegalArgumentException") (List.mem_of_getElem? (i := 1) rfl)) (hts (.initialized "java/lang/IllegalArgumentException") (List.mem_of_getElem? (i := 2) rfl)) hsa_4 (gk_hat (fun w hw => hts w (List.mem_cons_of_mem _ (List.mem_append_right _ hw))) hTF (by decide +kernel)) (by decide +kernel) hTF.1 hTF.2.1 hS (hl.1.trans hml.symm) dX2_checkRange_10 dX2_checkRange_13 dX2_checkRange_14 dX2_checkRange_16 dX2_checkRange_19 (fun x hx9 => (htb x hx9).elim) (Nat.le_of_ble_eq_true rfl) (Nat.le_of_ble_eq_true rfl) (Nat.le_of_ble_eq_true rfl) (Nat.le_of_ble_eq_true rfl) hlocks (fun t hal hsz9 hkp => ⟨"java/lang/IllegalArgumentException", ⟨rfl, fun h => c_3 h.2⟩, ⟨rfl, hP.kept (fun k q hk => hkp q.1 (vx_lt hP hk)), va_K.moved hal hK, hD⟩, Nat.le_trans hS.1 hsz9, fun q h1 h2 => (hkp q (Nat.lt_of_lt_of_le h1 hS.1)).trans (hS.2.1 q h1 h2)⟩) hS.2.2 (Nat.le_of_ble_eq_true rfl) (Nat.le_of_ble_eq_true rfl)
set_option maxHeartbeats 4000000 in
set_option maxRecDepth 100000 in
theorem kX2_checkDay (l : Launch) (hst : l.stackTraces = false) (D : va_G) (tys : List (ClassId × FieldType)) (Wo : va_W) (v0 : Int32) (sz : Nat) (A : Nat → Prop) (hAe : va_A (Wo) sz = A) : vx_Met l yX2_checkDay wsX2_checkDay ({ frames := 7, cells := 1, slots := 6, locals := 104 }) (va_Pc [.int v0] (gPreT D tys (Wo) sz)) (va_Qv (fun (_ : Unit) => gIn v0 0 9999) (fun (_ : Unit) t => gPost D tys A Wo t) A) (gThr D tys A (Wo) (fun E => E = "java/lang/IllegalArgumentException" ∧ ¬ gIn v0 0 9999)) 1 6 A := by
  refine vx_ofW (cc := cX2_checkDay) (maxL := 1) (ret := none) (by decide) rfl ?_
  intro p e s m args below meth c s₁ B hml htb hv
  obtain ⟨rfl, hTF, hsz, hP, hK, hD0⟩ := hv
  have hx := B.exec
  have hb := B.bytes
  have hr := B.returns
  have hts := atoms_spec (ws := wsX2_checkDay) B.pre
  have hown : s.vm.findClass RX2 = some m.cls := findClass_of_methodNamed B.named
  have hlocks := B.notSynchronized
  subst hsz
  have hD := hD0.self (sz := s.heap.size)
  rw [hAe] at hD hTF
  have hA : ∀ q : Nat, s.heap.size ≤ q → A q := fun q h => by rw [← hAe]; exact Or.inr h
  have hS : va_S A s.heap s.heap [] := va_S.rf
  have hP : va_P D vwCl (Wo) s.heap := hP
  have hl := lv_entry ([.int v0]) (n := 1) (Nat.le_of_ble_eq_true rfl)
  rw [lg_entry_eq]
  generalize (lg_sl ([.int v0]) ++ List.replicate (1 - (lg_sl ([.int v0])).length) Slot.unset).toArray = ls at hl ⊢
  have hl : lv_has ls 1 [(0, .int v0)] := hl
  refine lv_iload_n hx hb dX2_checkDay_0 rfl (lv_at hl 0 rfl) ?_
  refine lv_iconst (v := 0) hx hb dX2_checkDay_1 (by decide) ?_
  refine lv_sipush (v := 9999) hx hb dX2_checkDay_2 (by decide) ?_
  have hF_1 := gk_all hD hS hA
  refine vx_callv (vx_runS (As := [.int v0, .int 0, .int 9999]) (rest := []) ⟨hx, hb, hml, hown, hts⟩ (kX2_checkRange l hst D tys (Wo) v0 0 9999 s.heap.size _ rfl) (va_cwS 3 hts gX2_checkDay_X2_checkRange rfl rfl rfl (by decide +kernel) ⟨(Nat.le_of_ble_eq_true rfl), (Nat.le_of_ble_eq_true rfl)⟩) (gk_preST hTF hS hF_1 hP hK hD) rfl rfl hl.1 rfl (lv_room (Nat.le_of_ble_eq_true rfl)) dX2_checkDay_5 ⟨(Nat.le_of_ble_eq_true rfl), (Nat.le_of_ble_eq_true rfl)⟩) hS (fun q _ h => hF_1 q h) hF_1 (fun q _ h => hF_1 q h) (fun E_1 ce_1 q_1 u_1 t_1 H locs ht_1 hvm_1 hpx_1 hBX_1 hz_1 hk_1 hS hce_1 hcv_1 hcl_1 => ?_) (fun u_1 t_1 H locs ht_1 hvm_1 hw_1 hB_1 hz_1 hk_1 hS => ?_)
  · obtain ⟨rfl, hB_1⟩ := hBX_1
    obtain ⟨hP, hD⟩ := gk_back hF_1 hB_1 ht_1
    refine vx_out (fun x hx9 => (htb x hx9).elim) hlocks hce_1 hcv_1 hcl_1 (fun t ht hal => ⟨E_1, hpx_1, ⟨rfl, by rw [ht]; exact hP, va_K.moved hal hK, hD⟩, hS.F ht⟩) hS.2.2 (Nat.le_of_ble_eq_true rfl) (Nat.le_of_ble_eq_true rfl)
  · obtain ⟨hP, hD⟩ := gk_back hF_1 hB_1 ht_1
    refine W.widen (k := 1) (n := 6) (Nat.le_of_ble_eq_true rfl) (Nat.le_of_ble_eq_true rfl) ?_
    refine vx_ret ?_
    exact W.vret hx hb hr (fun t ht hW => ⟨⟨(), rfl, hw_1, by rw [ht]; exact hP, va_K.moved hW.alike hK, hD⟩, hS.F ht⟩) hS.2.2 dX2_checkDay_8
set_option maxHeartbeats 4000000 in
set_option maxRecDepth 100000 in
theorem kX2_findLine (l : Launch) (hst : l.stackTraces = false) (D : va_G) (cyI cyZ cyL cyV cyJ : ClassId) (g lr vr py : Nat) (ga gs ora oc : Int32) (lrow vrow : Nat → Option Nat) (nl nv : Nat) (am : Int32) (pay : Nat → Int32) (nc : Nat) (lcd pia : Int32) (Y : va_W) (L : List Nat) (K : Nat → Nat) (bud fsd las bas mvi mva : Nat → Int32) (ear vln : Nat → Option Nat) (vda vam vrf vel : Nat → Int32) (vnx : Nat → Option Nat) (k0 : Int32) (sz : Nat) (A : Nat → Prop) (hAe : va_A (((g, .inr (2, [.int ga, .int gs, .int ora, .int oc, .ref lr, .int (nI nl), .ref vr, .int (nI nv), .int am, .ref py, .int (nI nc), .int lcd, .int pia])) :: (lr, .inl (cyL, 12, .inr (.inr (.inr (.inr lrow))))) :: (vr, .inl (cyV, 100, .inr (.inr (.inr (.inr vrow))))) :: (py, .inl (cyI, 40, .inl pay)) :: Y : va_W) ++ va_pl L (gE K bud fsd las bas mvi mva ear vln vda vam vrf vel vnx)) sz = A) : vx_Met l yX2_findLine wsX2_findLine ({ frames := 6, cells := 1, slots := 6, locals := 82 }) (va_Pc [.ref g, .int k0] (gPreT D (gTy cyI cyZ cyL cyV cyJ) (((g, .inr (2, [.int ga, .int gs, .int ora, .int oc, .ref lr, .int (nI nl), .ref vr, .int (nI nv), .int am, .ref py, .int (nI nc), .int lcd, .int pia])) :: (lr, .inl (cyL, 12, .inr (.inr (.inr (.inr lrow))))) :: (vr, .inl (cyV, 100, .inr (.inr (.inr (.inr vrow))))) :: (py, .inl (cyI, 40, .inl pay)) :: Y : va_W) ++ va_pl L (gE K bud fsd las bas mvi mva ear vln vda vam vrf vel vnx)) sz)) (va_Qq (fun (r : Option Nat) (_ : Unit) => ∃ a, r = some a ∧ gHas 12 lrow k0 a) (fun (_ : Unit) t => gPost D (gTy cyI cyZ cyL cyV cyJ) A (((g, .inr (2, [.int ga, .int gs, .int ora, .int oc, .ref lr, .int (nI nl), .ref vr, .int (nI nv), .int am, .ref py, .int (nI nc), .int lcd, .int pia])) :: (lr, .inl (cyL, 12, .inr (.inr (.inr (.inr lrow))))) :: (vr, .inl (cyV, 100, .inr (.inr (.inr (.inr vrow))))) :: (py, .inl (cyI, 40, .inl pay)) :: Y : va_W) ++ va_pl L (gE K bud fsd las bas mvi mva ear vln vda vam vrf vel vnx)) t) A) (gThr D (gTy cyI cyZ cyL cyV cyJ) A (((g, .inr (2, [.int ga, .int gs, .int ora, .int oc, .ref lr, .int (nI nl), .ref vr, .int (nI nv), .int am, .ref py, .int (nI nc), .int lcd, .int pia])) :: (lr, .inl (cyL, 12, .inr (.inr (.inr (.inr lrow))))) :: (vr, .inl (cyV, 100, .inr (.inr (.inr (.inr vrow))))) :: (py, .inl (cyI, 40, .inl pay)) :: Y : va_W) ++ va_pl L (gE K bud fsd las bas mvi mva ear vln vda vam vrf vel vnx)) (fun E => E = "java/lang/IndexOutOfBoundsException" ∧ ¬ ∃ a, gHas 12 lrow k0 a)) 1 6 A := by
  refine vx_ofW (cc := cX2_findLine) (maxL := 3) (ret := (some (.object "GrantBook$Line"))) (by decide) rfl ?_
  intro p e s m args below meth c s₁ B hml htb hv
  obtain ⟨rfl, hTF, hsz, hP, hK, hD0⟩ := hv
  have hx := B.exec
  have hb := B.bytes
  have hr := B.returns
  have hts := atoms_spec (ws := wsX2_findLine) B.pre
  have hown : s.vm.findClass RX2 = some m.cls := findClass_of_methodNamed B.named
  have hlocks := B.notSynchronized
  subst hsz
  have hD := hD0.self (sz := s.heap.size)
  rw [hAe] at hD hTF
  have hA : ∀ q : Nat, s.heap.size ≤ q → A q := fun q h => by rw [← hAe]; exact Or.inr h
  have hS : va_S A s.heap s.heap [] := va_S.rf
  have hP : va_P D vwCl (((g, .inr (2, [.int ga, .int gs, .int ora, .int oc, .ref lr, .int (nI nl), .ref vr, .int (nI nv), .int am, .ref py, .int (nI nc), .int lcd, .int pia])) :: (lr, .inl (cyL, 12, .inr (.inr (.inr (.inr lrow))))) :: (vr, .inl (cyV, 100, .inr (.inr (.inr (.inr vrow))))) :: (py, .inl (cyI, 40, .inl pay)) :: Y : va_W) ++ va_pl L (gE K bud fsd las bas mvi mva ear vln vda vam vrf vel vnx)) s.heap := hP
  have hi2 : ∀ w ∈ wsX20, w ∈ wsX2_findLine := fun _ h => List.mem_cons_of_mem _ (List.mem_append_left _ (List.mem_append_right _ h))
  have hl := lv_entry ([.ref g, .int k0]) (n := 3) (Nat.le_of_ble_eq_true rfl)
  rw [lg_entry_eq]
  generalize (lg_sl ([.ref g, .int k0]) ++ List.replicate (3 - (lg_sl ([.ref g, .int k0])).length) Slot.unset).toArray = ls at hl ⊢
  have hl : lv_has ls 3 [(0, .ref g), (1, .int k0)] := hl
  refine lv_iload_n hx hb dX2_findLine_0 rfl (lv_at hl 1 rfl) ?_
  refine lv_if_lt (tgt := 22) hx hb dX2_findLine_1 (by decide) (fun c_1 => ?_) (fun c_1 => ?_)
  · refine lv_null hx hb dX2_findLine_22 ?_
    refine lv_astore_nN (lv' := [(2, .null), (0, .ref g), (1, .int k0)]) hx hb dX2_findLine_23 rfl hl (by decide) rfl (fun ls hl => ?_)
    refine lv_aload_nN hx hb dX2_findLine_24 rfl (lv_at hl 0 rfl) ?_
    refine lv_ifnonnullN hx hb dX2_findLine_25 ?_
    obtain ⟨sa_2, hsa_2⟩ := hTF.2.2.2 (184, "no such line") (by decide +kernel)
    exact vx_throwS hx hb hst (sa := sa_2) (text := "no such line") (is := 184) (names := ["java/lang/RuntimeException", "java/lang/Exception"]) hown (by decide +kernel) (by decide +kernel) (hts (.classLink RX2 177 "java/lang/IndexOutOfBoundsException") (List.mem_of_getElem? (i := 1) rfl)) (hts (.initialized "java/lang/IndexOutOfBoundsException") (List.mem_of_getElem? (i := 2) rfl)) hsa_2 (gk_hat (fun w hw => hts w (List.mem_cons_of_mem _ (List.mem_append_right _ hw))) hTF (by decide +kernel)) (by decide +kernel) hTF.1 hTF.2.1 hS (hl.1.trans hml.symm) dX2_findLine_28 dX2_findLine_31 dX2_findLine_32 dX2_findLine_34 dX2_findLine_37 (fun x hx9 => (htb x hx9).elim) (Nat.le_of_ble_eq_true rfl) (Nat.le_of_ble_eq_true rfl) (Nat.le_of_ble_eq_true rfl) (Nat.le_of_ble_eq_true rfl) hlocks (fun t hal hsz9 hkp => ⟨"java/lang/IndexOutOfBoundsException", ⟨rfl, gHn_lt (by decide) c_1⟩, ⟨rfl, hP.kept (fun k q hk => hkp q.1 (vx_lt hP hk)), va_K.moved hal hK, hD⟩, Nat.le_trans hS.1 hsz9, fun q h1 h2 => (hkp q (Nat.lt_of_lt_of_le h1 hS.1)).trans (hS.2.1 q h1 h2)⟩) hS.2.2 (Nat.le_of_ble_eq_true rfl) (Nat.le_of_ble_eq_true rfl)
  · refine lv_iload_n hx hb dX2_findLine_4 rfl (lv_at hl 1 rfl) ?_
    refine lv_aload_n hx hb dX2_findLine_5 rfl (lv_at hl 0 rfl) ?_
    refine va_get (D := D) (ci := 2) (v := .ref lr) (C := RX2) (T := TX2) (N := 13) hx hb hts hi2 hown hK hP 0 rfl rfl 4 (by decide) (hts (.fieldLink RX2 26 "GrantBook" "lineRows" "[LGrantBook$Line;") (List.mem_of_getElem? (i := 3) rfl)) (fun _ h9 => h9) rfl dX2_findLine_6 ?_
    refine va_alen hx hb hK hP 1 2 rfl rfl (v := 12) rfl dX2_findLine_9 ?_
    refine lv_icmp_ge (tgt := 22) hx hb dX2_findLine_10 (by decide) (fun c_3 => ?_) (fun c_3 => ?_)
    · refine lv_null hx hb dX2_findLine_22 ?_
      refine lv_astore_nN (lv' := [(2, .null), (0, .ref g), (1, .int k0)]) hx hb dX2_findLine_23 rfl hl (by decide) rfl (fun ls hl => ?_)
      refine lv_aload_nN hx hb dX2_findLine_24 rfl (lv_at hl 0 rfl) ?_
      refine lv_ifnonnullN hx hb dX2_findLine_25 ?_
      obtain ⟨sa_4, hsa_4⟩ := hTF.2.2.2 (184, "no such line") (by decide +kernel)
      exact vx_throwS hx hb hst (sa := sa_4) (text := "no such line") (is := 184) (names := ["java/lang/RuntimeException", "java/lang/Exception"]) hown (by decide +kernel) (by decide +kernel) (hts (.classLink RX2 177 "java/lang/IndexOutOfBoundsException") (List.mem_of_getElem? (i := 1) rfl)) (hts (.initialized "java/lang/IndexOutOfBoundsException") (List.mem_of_getElem? (i := 2) rfl)) hsa_4 (gk_hat (fun w hw => hts w (List.mem_cons_of_mem _ (List.mem_append_right _ hw))) hTF (by decide +kernel)) (by decide +kernel) hTF.1 hTF.2.1 hS (hl.1.trans hml.symm) dX2_findLine_28 dX2_findLine_31 dX2_findLine_32 dX2_findLine_34 dX2_findLine_37 (fun x hx9 => (htb x hx9).elim) (Nat.le_of_ble_eq_true rfl) (Nat.le_of_ble_eq_true rfl) (Nat.le_of_ble_eq_true rfl) (Nat.le_of_ble_eq_true rfl) hlocks (fun t hal hsz9 hkp => ⟨"java/lang/IndexOutOfBoundsException", ⟨rfl, gHn_ge (N := 12) (by decide) c_3⟩, ⟨rfl, hP.kept (fun k q hk => hkp q.1 (vx_lt hP hk)), va_K.moved hal hK, hD⟩, Nat.le_trans hS.1 hsz9, fun q h1 h2 => (hkp q (Nat.lt_of_lt_of_le h1 hS.1)).trans (hS.2.1 q h1 h2)⟩) hS.2.2 (Nat.le_of_ble_eq_true rfl) (Nat.le_of_ble_eq_true rfl)
    · refine lv_aload_n hx hb dX2_findLine_13 rfl (lv_at hl 0 rfl) ?_
      refine va_get (D := D) (ci := 2) (v := .ref lr) (C := RX2) (T := TX2) (N := 13) hx hb hts hi2 hown hK hP 0 rfl rfl 4 (by decide) (hts (.fieldLink RX2 26 "GrantBook" "lineRows" "[LGrantBook$Line;") (List.mem_of_getElem? (i := 3) rfl)) (fun _ h9 => h9) rfl dX2_findLine_14 ?_
      refine lv_iload_n hx hb dX2_findLine_17 rfl (lv_at hl 1 rfl) ?_
      obtain ⟨i0, hix, rfl⟩ := gIx (N := 12) (by decide) c_1 c_3
      refine gk_aldq (i := i0) hx hb hK hP 1 2 rfl rfl hix (by decide) dX2_findLine_18 ?_
      rcases hq_5 : lrow i0 with _ | a_5
      · refine lv_goto (tgt := 23) hx hb dX2_findLine_19 (by decide) ?_
        refine lv_astore_nN (lv' := [(2, .null), (0, .ref g), (1, .int (nI i0))]) hx hb dX2_findLine_23 rfl hl (by decide) rfl (fun ls hl => ?_)
        refine lv_aload_nN hx hb dX2_findLine_24 rfl (lv_at hl 0 rfl) ?_
        refine lv_ifnonnullN hx hb dX2_findLine_25 ?_
        obtain ⟨sa_6, hsa_6⟩ := hTF.2.2.2 (184, "no such line") (by decide +kernel)
        exact vx_throwS hx hb hst (sa := sa_6) (text := "no such line") (is := 184) (names := ["java/lang/RuntimeException", "java/lang/Exception"]) hown (by decide +kernel) (by decide +kernel) (hts (.classLink RX2 177 "java/lang/IndexOutOfBoundsException") (List.mem_of_getElem? (i := 1) rfl)) (hts (.initialized "java/lang/IndexOutOfBoundsException") (List.mem_of_getElem? (i := 2) rfl)) hsa_6 (gk_hat (fun w hw => hts w (List.mem_cons_of_mem _ (List.mem_append_right _ hw))) hTF (by decide +kernel)) (by decide +kernel) hTF.1 hTF.2.1 hS (hl.1.trans hml.symm) dX2_findLine_28 dX2_findLine_31 dX2_findLine_32 dX2_findLine_34 dX2_findLine_37 (fun x hx9 => (htb x hx9).elim) (Nat.le_of_ble_eq_true rfl) (Nat.le_of_ble_eq_true rfl) (Nat.le_of_ble_eq_true rfl) (Nat.le_of_ble_eq_true rfl) hlocks (fun t hal hsz9 hkp => ⟨"java/lang/IndexOutOfBoundsException", ⟨rfl, gHn_no (by decide) hix hq_5⟩, ⟨rfl, hP.kept (fun k q hk => hkp q.1 (vx_lt hP hk)), va_K.moved hal hK, hD⟩, Nat.le_trans hS.1 hsz9, fun q h1 h2 => (hkp q (Nat.lt_of_lt_of_le h1 hS.1)).trans (hS.2.1 q h1 h2)⟩) hS.2.2 (Nat.le_of_ble_eq_true rfl) (Nat.le_of_ble_eq_true rfl)
      · refine lv_goto (tgt := 23) hx hb dX2_findLine_19 (by decide) ?_
        refine lv_astore_n (lv' := [(2, .ref a_5), (0, .ref g), (1, .int (nI i0))]) hx hb dX2_findLine_23 rfl hl (by decide) rfl (fun ls hl => ?_)
        refine lv_aload_n hx hb dX2_findLine_24 rfl (lv_at hl 0 rfl) ?_
        refine lv_ifnonnull (tgt := 38) hx hb dX2_findLine_25 (by decide) ?_
        refine lv_aload_n hx hb dX2_findLine_38 rfl (lv_at hl 0 rfl) ?_
        refine W.widen (k := 1) (n := 6) (Nat.le_of_ble_eq_true rfl) (Nat.le_of_ble_eq_true rfl) ?_
        refine vx_ret ?_
        exact W.aret (v := .ref a_5) hx hb hr (Or.inl ⟨_, rfl⟩) (Or.inr ⟨_, rfl⟩) (fun t ht hW => ⟨⟨some a_5, (), rfl, ⟨a_5, rfl, i0, hix, rfl, hq_5⟩, by rw [ht]; exact hP, va_K.moved hW.alike hK, hD⟩, hS.F ht⟩) hS.2.2 dX2_findLine_39
set_option maxHeartbeats 4000000 in
set_option maxRecDepth 100000 in
theorem kX2_findVoucher (l : Launch) (hst : l.stackTraces = false) (D : va_G) (cyI cyZ cyL cyV cyJ : ClassId) (g lr vr py : Nat) (ga gs ora oc : Int32) (lrow vrow : Nat → Option Nat) (nl nv : Nat) (am : Int32) (pay : Nat → Int32) (nc : Nat) (lcd pia : Int32) (Y : va_W) (L : List Nat) (K : Nat → Nat) (bud fsd las bas mvi mva : Nat → Int32) (ear vln : Nat → Option Nat) (vda vam vrf vel : Nat → Int32) (vnx : Nat → Option Nat) (k0 : Int32) (sz : Nat) (A : Nat → Prop) (hAe : va_A (((g, .inr (2, [.int ga, .int gs, .int ora, .int oc, .ref lr, .int (nI nl), .ref vr, .int (nI nv), .int am, .ref py, .int (nI nc), .int lcd, .int pia])) :: (lr, .inl (cyL, 12, .inr (.inr (.inr (.inr lrow))))) :: (vr, .inl (cyV, 100, .inr (.inr (.inr (.inr vrow))))) :: (py, .inl (cyI, 40, .inl pay)) :: Y : va_W) ++ va_pl L (gE K bud fsd las bas mvi mva ear vln vda vam vrf vel vnx)) sz = A) : vx_Met l yX2_findVoucher wsX2_findVoucher ({ frames := 6, cells := 1, slots := 6, locals := 82 }) (va_Pc [.ref g, .int k0] (gPreT D (gTy cyI cyZ cyL cyV cyJ) (((g, .inr (2, [.int ga, .int gs, .int ora, .int oc, .ref lr, .int (nI nl), .ref vr, .int (nI nv), .int am, .ref py, .int (nI nc), .int lcd, .int pia])) :: (lr, .inl (cyL, 12, .inr (.inr (.inr (.inr lrow))))) :: (vr, .inl (cyV, 100, .inr (.inr (.inr (.inr vrow))))) :: (py, .inl (cyI, 40, .inl pay)) :: Y : va_W) ++ va_pl L (gE K bud fsd las bas mvi mva ear vln vda vam vrf vel vnx)) sz)) (va_Qq (fun (r : Option Nat) (_ : Unit) => ∃ a, r = some a ∧ gHas 100 vrow k0 a) (fun (_ : Unit) t => gPost D (gTy cyI cyZ cyL cyV cyJ) A (((g, .inr (2, [.int ga, .int gs, .int ora, .int oc, .ref lr, .int (nI nl), .ref vr, .int (nI nv), .int am, .ref py, .int (nI nc), .int lcd, .int pia])) :: (lr, .inl (cyL, 12, .inr (.inr (.inr (.inr lrow))))) :: (vr, .inl (cyV, 100, .inr (.inr (.inr (.inr vrow))))) :: (py, .inl (cyI, 40, .inl pay)) :: Y : va_W) ++ va_pl L (gE K bud fsd las bas mvi mva ear vln vda vam vrf vel vnx)) t) A) (gThr D (gTy cyI cyZ cyL cyV cyJ) A (((g, .inr (2, [.int ga, .int gs, .int ora, .int oc, .ref lr, .int (nI nl), .ref vr, .int (nI nv), .int am, .ref py, .int (nI nc), .int lcd, .int pia])) :: (lr, .inl (cyL, 12, .inr (.inr (.inr (.inr lrow))))) :: (vr, .inl (cyV, 100, .inr (.inr (.inr (.inr vrow))))) :: (py, .inl (cyI, 40, .inl pay)) :: Y : va_W) ++ va_pl L (gE K bud fsd las bas mvi mva ear vln vda vam vrf vel vnx)) (fun E => E = "java/lang/IndexOutOfBoundsException" ∧ ¬ ∃ a, gHas 100 vrow k0 a)) 1 6 A := by
  refine vx_ofW (cc := cX2_findVoucher) (maxL := 3) (ret := (some (.object "GrantBook$Voucher"))) (by decide) rfl ?_
  intro p e s m args below meth c s₁ B hml htb hv
  obtain ⟨rfl, hTF, hsz, hP, hK, hD0⟩ := hv
  have hx := B.exec
  have hb := B.bytes
  have hr := B.returns
  have hts := atoms_spec (ws := wsX2_findVoucher) B.pre
  have hown : s.vm.findClass RX2 = some m.cls := findClass_of_methodNamed B.named
  have hlocks := B.notSynchronized
  subst hsz
  have hD := hD0.self (sz := s.heap.size)
  rw [hAe] at hD hTF
  have hA : ∀ q : Nat, s.heap.size ≤ q → A q := fun q h => by rw [← hAe]; exact Or.inr h
  have hS : va_S A s.heap s.heap [] := va_S.rf
  have hP : va_P D vwCl (((g, .inr (2, [.int ga, .int gs, .int ora, .int oc, .ref lr, .int (nI nl), .ref vr, .int (nI nv), .int am, .ref py, .int (nI nc), .int lcd, .int pia])) :: (lr, .inl (cyL, 12, .inr (.inr (.inr (.inr lrow))))) :: (vr, .inl (cyV, 100, .inr (.inr (.inr (.inr vrow))))) :: (py, .inl (cyI, 40, .inl pay)) :: Y : va_W) ++ va_pl L (gE K bud fsd las bas mvi mva ear vln vda vam vrf vel vnx)) s.heap := hP
  have hi2 : ∀ w ∈ wsX20, w ∈ wsX2_findVoucher := fun _ h => List.mem_cons_of_mem _ (List.mem_append_left _ (List.mem_append_right _ h))
  have hl := lv_entry ([.ref g, .int k0]) (n := 3) (Nat.le_of_ble_eq_true rfl)
  rw [lg_entry_eq]
  generalize (lg_sl ([.ref g, .int k0]) ++ List.replicate (3 - (lg_sl ([.ref g, .int k0])).length) Slot.unset).toArray = ls at hl ⊢
  have hl : lv_has ls 3 [(0, .ref g), (1, .int k0)] := hl
  refine lv_iload_n hx hb dX2_findVoucher_0 rfl (lv_at hl 1 rfl) ?_
  refine lv_if_lt (tgt := 22) hx hb dX2_findVoucher_1 (by decide) (fun c_1 => ?_) (fun c_1 => ?_)
  · refine lv_null hx hb dX2_findVoucher_22 ?_
    refine lv_astore_nN (lv' := [(2, .null), (0, .ref g), (1, .int k0)]) hx hb dX2_findVoucher_23 rfl hl (by decide) rfl (fun ls hl => ?_)
    refine lv_aload_nN hx hb dX2_findVoucher_24 rfl (lv_at hl 0 rfl) ?_
    refine lv_ifnonnullN hx hb dX2_findVoucher_25 ?_
    obtain ⟨sa_2, hsa_2⟩ := hTF.2.2.2 (186, "no such voucher") (by decide +kernel)
    exact vx_throwS hx hb hst (sa := sa_2) (text := "no such voucher") (is := 186) (names := ["java/lang/RuntimeException", "java/lang/Exception"]) hown (by decide +kernel) (by decide +kernel) (hts (.classLink RX2 177 "java/lang/IndexOutOfBoundsException") (List.mem_of_getElem? (i := 1) rfl)) (hts (.initialized "java/lang/IndexOutOfBoundsException") (List.mem_of_getElem? (i := 2) rfl)) hsa_2 (gk_hat (fun w hw => hts w (List.mem_cons_of_mem _ (List.mem_append_right _ hw))) hTF (by decide +kernel)) (by decide +kernel) hTF.1 hTF.2.1 hS (hl.1.trans hml.symm) dX2_findVoucher_28 dX2_findVoucher_31 dX2_findVoucher_32 dX2_findVoucher_34 dX2_findVoucher_37 (fun x hx9 => (htb x hx9).elim) (Nat.le_of_ble_eq_true rfl) (Nat.le_of_ble_eq_true rfl) (Nat.le_of_ble_eq_true rfl) (Nat.le_of_ble_eq_true rfl) hlocks (fun t hal hsz9 hkp => ⟨"java/lang/IndexOutOfBoundsException", ⟨rfl, gHn_lt (by decide) c_1⟩, ⟨rfl, hP.kept (fun k q hk => hkp q.1 (vx_lt hP hk)), va_K.moved hal hK, hD⟩, Nat.le_trans hS.1 hsz9, fun q h1 h2 => (hkp q (Nat.lt_of_lt_of_le h1 hS.1)).trans (hS.2.1 q h1 h2)⟩) hS.2.2 (Nat.le_of_ble_eq_true rfl) (Nat.le_of_ble_eq_true rfl)
  · refine lv_iload_n hx hb dX2_findVoucher_4 rfl (lv_at hl 1 rfl) ?_
    refine lv_aload_n hx hb dX2_findVoucher_5 rfl (lv_at hl 0 rfl) ?_
    refine va_get (D := D) (ci := 2) (v := .ref vr) (C := RX2) (T := TX2) (N := 13) hx hb hts hi2 hown hK hP 0 rfl rfl 6 (by decide) (hts (.fieldLink RX2 35 "GrantBook" "voucherRows" "[LGrantBook$Voucher;") (List.mem_of_getElem? (i := 3) rfl)) (fun _ h9 => h9) rfl dX2_findVoucher_6 ?_
    refine va_alen hx hb hK hP 2 3 rfl rfl (v := 100) rfl dX2_findVoucher_9 ?_
    refine lv_icmp_ge (tgt := 22) hx hb dX2_findVoucher_10 (by decide) (fun c_3 => ?_) (fun c_3 => ?_)
    · refine lv_null hx hb dX2_findVoucher_22 ?_
      refine lv_astore_nN (lv' := [(2, .null), (0, .ref g), (1, .int k0)]) hx hb dX2_findVoucher_23 rfl hl (by decide) rfl (fun ls hl => ?_)
      refine lv_aload_nN hx hb dX2_findVoucher_24 rfl (lv_at hl 0 rfl) ?_
      refine lv_ifnonnullN hx hb dX2_findVoucher_25 ?_
      obtain ⟨sa_4, hsa_4⟩ := hTF.2.2.2 (186, "no such voucher") (by decide +kernel)
      exact vx_throwS hx hb hst (sa := sa_4) (text := "no such voucher") (is := 186) (names := ["java/lang/RuntimeException", "java/lang/Exception"]) hown (by decide +kernel) (by decide +kernel) (hts (.classLink RX2 177 "java/lang/IndexOutOfBoundsException") (List.mem_of_getElem? (i := 1) rfl)) (hts (.initialized "java/lang/IndexOutOfBoundsException") (List.mem_of_getElem? (i := 2) rfl)) hsa_4 (gk_hat (fun w hw => hts w (List.mem_cons_of_mem _ (List.mem_append_right _ hw))) hTF (by decide +kernel)) (by decide +kernel) hTF.1 hTF.2.1 hS (hl.1.trans hml.symm) dX2_findVoucher_28 dX2_findVoucher_31 dX2_findVoucher_32 dX2_findVoucher_34 dX2_findVoucher_37 (fun x hx9 => (htb x hx9).elim) (Nat.le_of_ble_eq_true rfl) (Nat.le_of_ble_eq_true rfl) (Nat.le_of_ble_eq_true rfl) (Nat.le_of_ble_eq_true rfl) hlocks (fun t hal hsz9 hkp => ⟨"java/lang/IndexOutOfBoundsException", ⟨rfl, gHn_ge (N := 100) (by decide) c_3⟩, ⟨rfl, hP.kept (fun k q hk => hkp q.1 (vx_lt hP hk)), va_K.moved hal hK, hD⟩, Nat.le_trans hS.1 hsz9, fun q h1 h2 => (hkp q (Nat.lt_of_lt_of_le h1 hS.1)).trans (hS.2.1 q h1 h2)⟩) hS.2.2 (Nat.le_of_ble_eq_true rfl) (Nat.le_of_ble_eq_true rfl)
    · refine lv_aload_n hx hb dX2_findVoucher_13 rfl (lv_at hl 0 rfl) ?_
      refine va_get (D := D) (ci := 2) (v := .ref vr) (C := RX2) (T := TX2) (N := 13) hx hb hts hi2 hown hK hP 0 rfl rfl 6 (by decide) (hts (.fieldLink RX2 35 "GrantBook" "voucherRows" "[LGrantBook$Voucher;") (List.mem_of_getElem? (i := 3) rfl)) (fun _ h9 => h9) rfl dX2_findVoucher_14 ?_
      refine lv_iload_n hx hb dX2_findVoucher_17 rfl (lv_at hl 1 rfl) ?_
      obtain ⟨i0, hix, rfl⟩ := gIx (N := 100) (by decide) c_1 c_3
      refine gk_aldq (i := i0) hx hb hK hP 2 3 rfl rfl hix (by decide) dX2_findVoucher_18 ?_
      rcases hq_5 : vrow i0 with _ | a_5
      · refine lv_goto (tgt := 23) hx hb dX2_findVoucher_19 (by decide) ?_
        refine lv_astore_nN (lv' := [(2, .null), (0, .ref g), (1, .int (nI i0))]) hx hb dX2_findVoucher_23 rfl hl (by decide) rfl (fun ls hl => ?_)
        refine lv_aload_nN hx hb dX2_findVoucher_24 rfl (lv_at hl 0 rfl) ?_
        refine lv_ifnonnullN hx hb dX2_findVoucher_25 ?_
        obtain ⟨sa_6, hsa_6⟩ := hTF.2.2.2 (186, "no such voucher") (by decide +kernel)
        exact vx_throwS hx hb hst (sa := sa_6) (text := "no such voucher") (is := 186) (names := ["java/lang/RuntimeException", "java/lang/Exception"]) hown (by decide +kernel) (by decide +kernel) (hts (.classLink RX2 177 "java/lang/IndexOutOfBoundsException") (List.mem_of_getElem? (i := 1) rfl)) (hts (.initialized "java/lang/IndexOutOfBoundsException") (List.mem_of_getElem? (i := 2) rfl)) hsa_6 (gk_hat (fun w hw => hts w (List.mem_cons_of_mem _ (List.mem_append_right _ hw))) hTF (by decide +kernel)) (by decide +kernel) hTF.1 hTF.2.1 hS (hl.1.trans hml.symm) dX2_findVoucher_28 dX2_findVoucher_31 dX2_findVoucher_32 dX2_findVoucher_34 dX2_findVoucher_37 (fun x hx9 => (htb x hx9).elim) (Nat.le_of_ble_eq_true rfl) (Nat.le_of_ble_eq_true rfl) (Nat.le_of_ble_eq_true rfl) (Nat.le_of_ble_eq_true rfl) hlocks (fun t hal hsz9 hkp => ⟨"java/lang/IndexOutOfBoundsException", ⟨rfl, gHn_no (by decide) hix hq_5⟩, ⟨rfl, hP.kept (fun k q hk => hkp q.1 (vx_lt hP hk)), va_K.moved hal hK, hD⟩, Nat.le_trans hS.1 hsz9, fun q h1 h2 => (hkp q (Nat.lt_of_lt_of_le h1 hS.1)).trans (hS.2.1 q h1 h2)⟩) hS.2.2 (Nat.le_of_ble_eq_true rfl) (Nat.le_of_ble_eq_true rfl)
      · refine lv_goto (tgt := 23) hx hb dX2_findVoucher_19 (by decide) ?_
        refine lv_astore_n (lv' := [(2, .ref a_5), (0, .ref g), (1, .int (nI i0))]) hx hb dX2_findVoucher_23 rfl hl (by decide) rfl (fun ls hl => ?_)
        refine lv_aload_n hx hb dX2_findVoucher_24 rfl (lv_at hl 0 rfl) ?_
        refine lv_ifnonnull (tgt := 38) hx hb dX2_findVoucher_25 (by decide) ?_
        refine lv_aload_n hx hb dX2_findVoucher_38 rfl (lv_at hl 0 rfl) ?_
        refine W.widen (k := 1) (n := 6) (Nat.le_of_ble_eq_true rfl) (Nat.le_of_ble_eq_true rfl) ?_
        refine vx_ret ?_
        exact W.aret (v := .ref a_5) hx hb hr (Or.inl ⟨_, rfl⟩) (Or.inr ⟨_, rfl⟩) (fun t ht hW => ⟨⟨some a_5, (), rfl, ⟨a_5, rfl, i0, hix, rfl, hq_5⟩, by rw [ht]; exact hP, va_K.moved hW.alike hK, hD⟩, hS.F ht⟩) hS.2.2 dX2_findVoucher_39
set_option maxHeartbeats 4000000 in
set_option maxRecDepth 100000 in
theorem kX2_eligibleMoreWith (l : Launch) (D : va_G) (tys : List (ClassId × FieldType)) (X : va_W) (L : List Nat) (K : Nat → Nat) (bud fsd las bas mvi mva : Nat → Int32) (ear vln : Nat → Option Nat) (vda vam vrf vel : Nat → Int32) (vnx : Nat → Option Nat) (v0 : Nat) (hLv : v0 ∈ L) (hKv : K v0 = 1) (b0 : Nat) (hLb : b0 ∈ L) (hKb : K b0 = 0) (hvl : vln v0 = some b0) (ch : List Nat) (hch : gCh vnx (ear b0) ch) (hcl : ∀ y ∈ ch, y ∈ L ∧ K y = 1) (z0 : Int32) (hz0 : z0 = 0 ∨ z0 = 1) (sz : Nat) (A : Nat → Prop) (hAe : va_A (X ++ va_pl L (gE K bud fsd las bas mvi mva ear vln vda vam vrf vel vnx)) sz = A) : Met l yX2_eligibleMoreWith wsX2_eligibleMoreWith ({ frames := 2, cells := 0, slots := 0, locals := 43 }) (va_Pc [.ref v0, .int z0] (gPre D tys (X ++ va_pl L (gE K bud fsd las bas mvi mva ear vln vda vam vrf vel vnx)) sz)) (va_Qi (fun (r : Int32) (u : Nat → Int32) => r = gSu u vda 9999 ch 0 - gSu vel vda 9999 ch 0 ∧ u = gRk (fsd b0) (las b0) (va_up vrf v0 z0) vda vam ch (bud b0 + mvi b0 - mva b0) vel) (fun (u : Nat → Int32) t => gPost D tys A (X ++ va_pl L (gE K bud fsd las bas mvi mva ear vln vda vam (va_up vrf v0 z0) u vnx)) t) A) 0 0 A := by
  refine Met.ofW (cc := cX2_eligibleMoreWith) (maxL := 4) (ret := (some .int)) (by decide) rfl ?_
  intro p e s m args below meth c s₁ B hml hv
  obtain ⟨rfl, hsz, hP, hK, hD0⟩ := hv
  have hx := B.exec
  have hb := B.bytes
  have hr := B.returns
  have hts := atoms_spec (ws := wsX2_eligibleMoreWith) B.pre
  have hown : s.vm.findClass RX2 = some m.cls := findClass_of_methodNamed B.named
  have hlocks := B.notSynchronized
  subst hsz
  have hD := hD0.self (sz := s.heap.size)
  rw [hAe] at hD
  have hA : ∀ q : Nat, s.heap.size ≤ q → A q := fun q h => by rw [← hAe]; exact Or.inr h
  have hS : va_S A s.heap s.heap [] := va_S.rf
  have hP : va_P D vwCl (X ++ va_pl L (gE K bud fsd las bas mvi mva ear vln vda vam vrf vel vnx)) s.heap := hP
  have hi1 : ∀ w ∈ wsX10, w ∈ wsX2_eligibleMoreWith := fun _ h => List.mem_cons_of_mem _ (List.mem_append_left _ (List.mem_append_right _ h))
  have hl := lv_entry ([.ref v0, .int z0]) (n := 4) (Nat.le_of_ble_eq_true rfl)
  rw [lg_entry_eq]
  generalize (lg_sl ([.ref v0, .int z0]) ++ List.replicate (4 - (lg_sl ([.ref v0, .int z0])).length) Slot.unset).toArray = ls at hl ⊢
  have hl : lv_has ls 4 [(0, .ref v0), (1, .int z0)] := hl
  refine lv_aload_n hx hb dX2_eligibleMoreWith_0 rfl (lv_at hl 0 rfl) ?_
  refine gk_get (C := RX1) (T := TX1) (N := 6) (v := va_rf (vln v0)) hx hb hts hi1 hown hK hP hLv (gE_1 hKv) rfl 0 (by decide) (hts (.fieldLink RX2 141 "GrantBook$Voucher" "line" "LGrantBook$Line;") (List.mem_of_getElem? (i := 1) rfl)) (fun _ h9 => h9) rfl dX2_eligibleMoreWith_1 ?_
  rw [hvl]
  refine lv_astore_n (lv' := [(2, .ref b0), (0, .ref v0), (1, .int z0)]) hx hb dX2_eligibleMoreWith_4 rfl hl (by decide) rfl (fun ls hl => ?_)
  refine lv_aload_n hx hb dX2_eligibleMoreWith_5 rfl (lv_at hl 0 rfl) ?_
  refine lv_sipush (v := 9999) hx hb dX2_eligibleMoreWith_6 (by decide) ?_
  have hF_1 := gk_all hD hS hA
  refine va_calli (va_runV (As := [.int 9999]) (rest := []) ⟨hx, hb, hml, hown, hts⟩ (kX0_eligibleUpTo l D tys X L K bud fsd las bas mvi mva ear vln vda vam vrf vel vnx b0 hLb hKb ch hch hcl 9999 s.heap.size _ rfl) (cwV 1 hts gX2_eligibleMoreWith_X0_eligibleUpTo rfl rfl rfl (by decide +kernel) ⟨(Nat.le_of_ble_eq_true rfl), (Nat.le_of_ble_eq_true rfl)⟩) (gk_preV hP hK hD (gk_recv hK hP hLb (gE_0 hKb) rfl)) rfl rfl hl.1 rfl (lv_room (Nat.le_of_ble_eq_true rfl)) dX2_eligibleMoreWith_9 ⟨(Nat.le_of_ble_eq_true rfl), (Nat.le_of_ble_eq_true rfl)⟩) hS (fun q _ h => hF_1 q h) hF_1 (fun r_1 u_1 t_1 H locs ht_1 hvm_1 hw_1 hB_1 hz_1 hk_1 hS => ?_)
  obtain ⟨hP, hD⟩ := gk_back hF_1 hB_1 ht_1
  subst hw_1
  refine lv_istore_n (lv' := [(3, .int (gSu vel vda 9999 ch 0)), (2, .ref b0), (0, .ref v0), (1, .int z0)]) hx hb dX2_eligibleMoreWith_12 rfl hl (by decide) rfl (fun ls hl => ?_)
  refine lv_aload_n hx hb dX2_eligibleMoreWith_13 rfl (lv_at hl 2 rfl) ?_
  refine lv_iload_n hx hb dX2_eligibleMoreWith_14 rfl (lv_at hl 3 rfl) ?_
  refine gk_put (f' := (gE K bud fsd las bas mvi mva ear vln vda vam (va_up vrf v0 z0) vel vnx)) (v := .int z0) (ty := .boolean) (C := RX1) (T := TX1) (N := 6) hx hb hts hi1 tyX1 tyX1_ok nmX1 hown hK hP hD hS hLv (gE_1 hKv) rfl 3 (by decide) (hts (.fieldLink RX2 127 "GrantBook$Voucher" "isRefused" "Z") (List.mem_of_getElem? (i := 2) rfl)) (fun _ h9 => h9) rfl (by decide +kernel) (by rcases hz0 with rfl | rfl <;> decide) (by rcases hz0 with rfl | rfl <;> decide) (Nat.le_of_ble_eq_true rfl) (gU_vrf hKv z0) dX2_eligibleMoreWith_15 (fun H locs hP hD hS => ?_)
  obtain ⟨vrf_2, evrf_2⟩ : ∃ z, z = (va_up vrf v0 z0) := ⟨_, rfl⟩
  rw [← evrf_2] at hP hD
  refine lv_aload_n hx hb dX2_eligibleMoreWith_18 rfl (lv_at hl 1 rfl) ?_
  have hF_3 := gk_all hD hS hA
  refine va_callv (va_runV (As := []) (rest := []) ⟨hx, hb, hml, hown, hts⟩ (kX0_reckon l D tys X L K bud fsd las bas mvi mva ear vln vda vam vrf_2 vel vnx b0 hLb hKb ch hch hcl H.size _ rfl) (cwV 0 hts gX2_eligibleMoreWith_X0_reckon rfl rfl rfl (by decide +kernel) ⟨(Nat.le_of_ble_eq_true rfl), (Nat.le_of_ble_eq_true rfl)⟩) (gk_preV hP hK hD (gk_recv hK hP hLb (gE_0 hKb) rfl)) rfl rfl hl.1 rfl (lv_room (Nat.le_of_ble_eq_true rfl)) dX2_eligibleMoreWith_19 ⟨(Nat.le_of_ble_eq_true rfl), (Nat.le_of_ble_eq_true rfl)⟩) hS (fun q _ h => hF_3 q h) hF_3 (fun u_3 t_3 H locs ht_3 hvm_3 hw_3 hB_3 hz_3 hk_3 hS => ?_)
  obtain ⟨hP, hD⟩ := gk_back hF_3 hB_3 ht_3
  obtain ⟨vel_3, evel_3⟩ : ∃ z, z = u_3 := ⟨_, rfl⟩
  rw [← evel_3] at hP hD hw_3
  refine lv_aload_n hx hb dX2_eligibleMoreWith_22 rfl (lv_at hl 1 rfl) ?_
  refine lv_sipush (v := 9999) hx hb dX2_eligibleMoreWith_23 (by decide) ?_
  have hF_4 := gk_all hD hS hA
  refine va_calli (va_runV (As := [.int 9999]) (rest := []) ⟨hx, hb, hml, hown, hts⟩ (kX0_eligibleUpTo l D tys X L K bud fsd las bas mvi mva ear vln vda vam vrf_2 vel_3 vnx b0 hLb hKb ch hch hcl 9999 H.size _ rfl) (cwV 1 hts gX2_eligibleMoreWith_X0_eligibleUpTo rfl rfl rfl (by decide +kernel) ⟨(Nat.le_of_ble_eq_true rfl), (Nat.le_of_ble_eq_true rfl)⟩) (gk_preV hP hK hD (gk_recv hK hP hLb (gE_0 hKb) rfl)) rfl rfl hl.1 rfl (lv_room (Nat.le_of_ble_eq_true rfl)) dX2_eligibleMoreWith_26 ⟨(Nat.le_of_ble_eq_true rfl), (Nat.le_of_ble_eq_true rfl)⟩) hS (fun q _ h => hF_4 q h) hF_4 (fun r_4 u_4 t_4 H locs ht_4 hvm_4 hw_4 hB_4 hz_4 hk_4 hS => ?_)
  obtain ⟨hP, hD⟩ := gk_back hF_4 hB_4 ht_4
  subst hw_4
  refine lv_iload_n hx hb dX2_eligibleMoreWith_29 rfl (lv_at hl 0 rfl) ?_
  refine lv_isub hx hb dX2_eligibleMoreWith_30 ?_
  subst evrf_2
  refine W.widen (k := 0) (n := 0) (Nat.le_of_ble_eq_true rfl) (Nat.le_of_ble_eq_true rfl) ?_
  exact W.iret (v := ((gSu vel_3 vda 9999 ch 0) - (gSu vel vda 9999 ch 0))) hx hb hr (fun t ht hW => ⟨⟨((gSu vel_3 vda 9999 ch 0) - (gSu vel vda 9999 ch 0)), vel_3, rfl, ⟨rfl, hw_3⟩, by rw [ht]; exact hP, va_K.moved hW.alike hK, hD⟩, hS.F ht⟩) hS.2.2 dX2_eligibleMoreWith_31
set_option maxHeartbeats 4000000 in
set_option maxRecDepth 100000 in
theorem kX2_eligibleInAll (l : Launch) (D : va_G) (cyI cyZ cyL cyV cyJ : ClassId) (g lr vr py : Nat) (ga gs ora oc : Int32) (lrow vrow : Nat → Option Nat) (nl nv : Nat) (am : Int32) (pay : Nat → Int32) (nc : Nat) (lcd pia : Int32) (Y : va_W) (L : List Nat) (K : Nat → Nat) (bud fsd las bas mvi mva : Nat → Int32) (ear vln : Nat → Option Nat) (vda vam vrf vel : Nat → Int32) (vnx : Nat → Option Nat) (ch : Nat → List Nat) (hOK : gOK L K lrow vrow ear vln vnx ch) (d0 z0 : Int32) (sz : Nat) (A : Nat → Prop) (hAe : va_A (((g, .inr (2, [.int ga, .int gs, .int ora, .int oc, .ref lr, .int (nI nl), .ref vr, .int (nI nv), .int am, .ref py, .int (nI nc), .int lcd, .int pia])) :: (lr, .inl (cyL, 12, .inr (.inr (.inr (.inr lrow))))) :: (vr, .inl (cyV, 100, .inr (.inr (.inr (.inr vrow))))) :: (py, .inl (cyI, 40, .inl pay)) :: Y : va_W) ++ va_pl L (gE K bud fsd las bas mvi mva ear vln vda vam vrf vel vnx)) sz = A) : Met l yX2_eligibleInAll wsX2_eligibleInAll ({ frames := 1, cells := 0, slots := 0, locals := 23 }) (va_Pc [.ref g, .int d0, .int z0] (gPre D (gTy cyI cyZ cyL cyV cyJ) (((g, .inr (2, [.int ga, .int gs, .int ora, .int oc, .ref lr, .int (nI nl), .ref vr, .int (nI nv), .int am, .ref py, .int (nI nc), .int lcd, .int pia])) :: (lr, .inl (cyL, 12, .inr (.inr (.inr (.inr lrow))))) :: (vr, .inl (cyV, 100, .inr (.inr (.inr (.inr vrow))))) :: (py, .inl (cyI, 40, .inl pay)) :: Y : va_W) ++ va_pl L (gE K bud fsd las bas mvi mva ear vln vda vam vrf vel vnx)) sz)) (va_Qi (fun (r : Int32) (_ : Unit) => r = gSa lrow bas vel vda ch d0 z0 12) (fun (_ : Unit) t => gPost D (gTy cyI cyZ cyL cyV cyJ) A (((g, .inr (2, [.int ga, .int gs, .int ora, .int oc, .ref lr, .int (nI nl), .ref vr, .int (nI nv), .int am, .ref py, .int (nI nc), .int lcd, .int pia])) :: (lr, .inl (cyL, 12, .inr (.inr (.inr (.inr lrow))))) :: (vr, .inl (cyV, 100, .inr (.inr (.inr (.inr vrow))))) :: (py, .inl (cyI, 40, .inl pay)) :: Y : va_W) ++ va_pl L (gE K bud fsd las bas mvi mva ear vln vda vam vrf vel vnx)) t) A) 0 0 A := by
  refine Met.ofW (cc := cX2_eligibleInAll) (maxL := 8) (ret := (some .int)) (by decide) rfl ?_
  intro p e s m args below meth c s₁ B hml hv
  obtain ⟨rfl, hsz, hP, hK, hD0⟩ := hv
  have hx := B.exec
  have hb := B.bytes
  have hr := B.returns
  have hts := atoms_spec (ws := wsX2_eligibleInAll) B.pre
  have hown : s.vm.findClass RX2 = some m.cls := findClass_of_methodNamed B.named
  have hlocks := B.notSynchronized
  subst hsz
  have hD := hD0.self (sz := s.heap.size)
  rw [hAe] at hD
  have hA : ∀ q : Nat, s.heap.size ≤ q → A q := fun q h => by rw [← hAe]; exact Or.inr h
  have hS : va_S A s.heap s.heap [] := va_S.rf
  have hP : va_P D vwCl (((g, .inr (2, [.int ga, .int gs, .int ora, .int oc, .ref lr, .int (nI nl), .ref vr, .int (nI nv), .int am, .ref py, .int (nI nc), .int lcd, .int pia])) :: (lr, .inl (cyL, 12, .inr (.inr (.inr (.inr lrow))))) :: (vr, .inl (cyV, 100, .inr (.inr (.inr (.inr vrow))))) :: (py, .inl (cyI, 40, .inl pay)) :: Y : va_W) ++ va_pl L (gE K bud fsd las bas mvi mva ear vln vda vam vrf vel vnx)) s.heap := hP
  have hi0 : ∀ w ∈ wsX00, w ∈ wsX2_eligibleInAll := fun _ h => List.mem_cons_of_mem _ (List.mem_append_left _ (List.mem_append_right _ h))
  have hi2 : ∀ w ∈ wsX20, w ∈ wsX2_eligibleInAll := fun _ h => List.mem_cons_of_mem _ (List.mem_append_left _ (List.mem_append_left _ (List.mem_append_right _ h)))
  have hl := lv_entry ([.ref g, .int d0, .int z0]) (n := 8) (Nat.le_of_ble_eq_true rfl)
  rw [lg_entry_eq]
  generalize (lg_sl ([.ref g, .int d0, .int z0]) ++ List.replicate (8 - (lg_sl ([.ref g, .int d0, .int z0])).length) Slot.unset).toArray = ls at hl ⊢
  have hl : lv_has ls 8 [(0, .ref g), (1, .int d0), (2, .int z0)] := hl
  have loop : ∀ (n i : Nat) (H : Heap) (locs : List Loc) (ls : Array Slot), i ≤ 12 → 13 ≤ i + n → va_P D vwCl (((g, .inr (2, [.int ga, .int gs, .int ora, .int oc, .ref lr, .int (nI nl), .ref vr, .int (nI nv), .int am, .ref py, .int (nI nc), .int lcd, .int pia])) :: (lr, .inl (cyL, 12, .inr (.inr (.inr (.inr lrow))))) :: (vr, .inl (cyV, 100, .inr (.inr (.inr (.inr vrow))))) :: (py, .inl (cyI, 40, .inl pay)) :: Y : va_W) ++ va_pl L (gE K bud fsd las bas mvi mva ear vln vda vam vrf vel vnx)) H → va_D A (((g, .inr (2, [.int ga, .int gs, .int ora, .int oc, .ref lr, .int (nI nl), .ref vr, .int (nI nv), .int am, .ref py, .int (nI nc), .int lcd, .int pia])) :: (lr, .inl (cyL, 12, .inr (.inr (.inr (.inr lrow))))) :: (vr, .inl (cyV, 100, .inr (.inr (.inr (.inr vrow))))) :: (py, .inl (cyI, 40, .inl pay)) :: Y : va_W) ++ va_pl L (gE K bud fsd las bas mvi mva ear vln vda vam vrf vel vnx)) → va_S A s.heap H locs → lv_has ls 8 [(6, .int (nI i)), (5, .int 12), (4, .ref lr), (3, .int (gSa lrow bas vel vda ch d0 z0 i)), (0, .ref g), (1, .int d0), (2, .int z0)] → W p l e (headSpec wsX2_eligibleInAll ({ frames := 1, cells := 0, slots := 0, locals := 23 })).room s m ([.ref g, .int d0, .int z0] : List Value).toArray below meth c H locs 0 0 (MQ below (va_Qi (fun (r : Int32) (_ : Unit) => r = gSa lrow bas vel vda ch d0 z0 12) (fun (_ : Unit) t => gPost D (gTy cyI cyZ cyL cyV cyJ) A (((g, .inr (2, [.int ga, .int gs, .int ora, .int oc, .ref lr, .int (nI nl), .ref vr, .int (nI nv), .int am, .ref py, .int (nI nc), .int lcd, .int pia])) :: (lr, .inl (cyL, 12, .inr (.inr (.inr (.inr lrow))))) :: (vr, .inl (cyV, 100, .inr (.inr (.inr (.inr vrow))))) :: (py, .inl (cyI, 40, .inl pay)) :: Y : va_W) ++ va_pl L (gE K bud fsd las bas mvi mva ear vln vda vam vrf vel vnx)) t) A) ([.ref g, .int d0, .int z0] : List Value).toArray s 0 0 A) (F0 m 16 ls []) := by
    intro n
    induction n with
    | zero => intro i H locs ls h1 h2; exact absurd h2 (by omega)
    | succ n ih =>
      intro i H locs ls h1 h2 hP hD hS hl
      refine lv_iload hx hb dX2_eligibleInAll_16 (lv_at hl 0 rfl) ?_
      refine lv_iload hx hb dX2_eligibleInAll_18 (lv_at hl 1 rfl) ?_
      refine lv_icmp_ge (tgt := 62) hx hb dX2_eligibleInAll_20 (by decide) (fun c_1 => ?_) (fun c_1 => ?_)
      · refine lv_iload_n hx hb dX2_eligibleInAll_62 rfl (lv_at hl 3 rfl) ?_
        refine W.widen (k := 0) (n := 0) (Nat.le_of_ble_eq_true rfl) (Nat.le_of_ble_eq_true rfl) ?_
        exact W.iret (v := (gSa lrow bas vel vda ch d0 z0 i)) hx hb hr (fun t ht hW => ⟨⟨(gSa lrow bas vel vda ch d0 z0 i), (), rfl, (by obtain rfl : i = 12 := Nat.le_antisymm h1 ((nI_leI (a := 12) (by decide) (by omega)).mp c_1); rfl), by rw [ht]; exact hP, va_K.moved hW.alike hK, hD⟩, hS.F ht⟩) hS.2.2 dX2_eligibleInAll_63
      · have hlt : i < 12 := gLt (N := 12) (by omega) (by decide) (Int32.not_le.mp c_1)
        refine lv_aload hx hb dX2_eligibleInAll_23 (lv_at hl 2 rfl) ?_
        refine lv_iload hx hb dX2_eligibleInAll_25 (lv_at hl 0 rfl) ?_
        refine gk_aldq (i := i) hx hb hK hP 1 2 rfl rfl hlt (by decide) dX2_eligibleInAll_27 ?_
        rcases hq_2 : lrow i with _ | a_2
        · refine lv_astoreN (lv' := [(7, .null), (6, .int (nI i)), (5, .int 12), (4, .ref lr), (3, .int (gSa lrow bas vel vda ch d0 z0 i)), (0, .ref g), (1, .int d0), (2, .int z0)]) hx hb dX2_eligibleInAll_28 hl (by decide) rfl (fun ls hl => ?_)
          refine lv_aloadN hx hb dX2_eligibleInAll_30 (lv_at hl 0 rfl) ?_
          refine lv_ifnullN (tgt := 56) hx hb dX2_eligibleInAll_32 (by decide) ?_
          refine lv_iinc (v := nI (i + 1)) (lv' := [(6, .int (nI (i + 1))), (7, .null), (5, .int 12), (4, .ref lr), (3, .int (gSa lrow bas vel vda ch d0 z0 i)), (0, .ref g), (1, .int d0), (2, .int z0)]) hx hb dX2_eligibleInAll_56 hl (k := 1) rfl (by show nI i + 1 = nI (i + 1); exact nI_1 _) (by decide) rfl (fun ls hl => ?_)
          refine lv_goto (tgt := 16) hx hb dX2_eligibleInAll_59 (by decide) ?_
          exact ih (i + 1) _ _ _ (by omega) (by omega) hP hD hS (by rw [(show gSa lrow bas vel vda ch d0 z0 (i + 1) = gSa lrow bas vel vda ch d0 z0 i by rw [gSa, hq_2])]; exact lv_sub hl [0, 2, 3, 4, 5, 6, 7] rfl)
        · obtain ⟨hLa_2, hKa_2⟩ := hOK.1 i a_2 hlt hq_2
          refine lv_astore (lv' := [(7, .ref a_2), (6, .int (nI i)), (5, .int 12), (4, .ref lr), (3, .int (gSa lrow bas vel vda ch d0 z0 i)), (0, .ref g), (1, .int d0), (2, .int z0)]) hx hb dX2_eligibleInAll_28 hl (by decide) rfl (fun ls hl => ?_)
          refine lv_aload hx hb dX2_eligibleInAll_30 (lv_at hl 0 rfl) ?_
          refine lv_ifnull hx hb dX2_eligibleInAll_32 ?_
          refine lv_aload hx hb dX2_eligibleInAll_35 (lv_at hl 0 rfl) ?_
          refine gk_get (C := RX0) (T := TX0) (N := 7) (v := .int (bas a_2)) hx hb hts hi0 hown hK hP hLa_2 (gE_0 hKa_2) rfl 3 (by decide) (hts (.fieldLink RX2 197 "GrantBook$Line" "isInBase" "Z") (List.mem_of_getElem? (i := 2) rfl)) (fun _ h9 => h9) rfl dX2_eligibleInAll_37 ?_
          refine lv_if_ne (tgt := 47) hx hb dX2_eligibleInAll_40 (by decide) (fun c_3 => ?_) (fun c_3 => ?_)
          · refine lv_iload_n hx hb dX2_eligibleInAll_47 rfl (lv_at hl 4 rfl) ?_
            refine lv_aload hx hb dX2_eligibleInAll_48 (lv_at hl 0 rfl) ?_
            refine lv_iload_n hx hb dX2_eligibleInAll_50 rfl (lv_at hl 6 rfl) ?_
            have hF_4 := gk_all hD hS hA
            refine va_calli (va_runV (As := [.int d0]) (rest := [.int (gSa lrow bas vel vda ch d0 z0 i)]) ⟨hx, hb, hml, hown, hts⟩ (kX0_eligibleUpTo l D (gTy cyI cyZ cyL cyV cyJ) ((g, .inr (2, [.int ga, .int gs, .int ora, .int oc, .ref lr, .int (nI nl), .ref vr, .int (nI nv), .int am, .ref py, .int (nI nc), .int lcd, .int pia])) :: (lr, .inl (cyL, 12, .inr (.inr (.inr (.inr lrow))))) :: (vr, .inl (cyV, 100, .inr (.inr (.inr (.inr vrow))))) :: (py, .inl (cyI, 40, .inl pay)) :: Y) L K bud fsd las bas mvi mva ear vln vda vam vrf vel vnx a_2 hLa_2 hKa_2 (ch a_2) (hOK.2.2 a_2 hLa_2 hKa_2).1 (hOK.2.2 a_2 hLa_2 hKa_2).2 d0 H.size _ rfl) (cwV 1 hts gX2_eligibleInAll_X0_eligibleUpTo rfl rfl rfl (by decide +kernel) ⟨(Nat.le_of_ble_eq_true rfl), (Nat.le_of_ble_eq_true rfl)⟩) (gk_preV hP hK hD (gk_recv hK hP hLa_2 (gE_0 hKa_2) rfl)) rfl rfl hl.1 rfl (lv_room (Nat.le_of_ble_eq_true rfl)) dX2_eligibleInAll_51 ⟨(Nat.le_of_ble_eq_true rfl), (Nat.le_of_ble_eq_true rfl)⟩) hS (fun q _ h => hF_4 q h) hF_4 (fun r_4 u_4 t_4 H locs ht_4 hvm_4 hw_4 hB_4 hz_4 hk_4 hS => ?_)
            obtain ⟨hP, hD⟩ := gk_back hF_4 hB_4 ht_4
            subst hw_4
            refine lv_iadd hx hb dX2_eligibleInAll_54 ?_
            refine lv_istore_n (lv' := [(3, .int ((gSa lrow bas vel vda ch d0 z0 i) + (gSu vel vda d0 (ch a_2) 0))), (7, .ref a_2), (6, .int (nI i)), (5, .int 12), (4, .ref lr), (0, .ref g), (1, .int d0), (2, .int z0)]) hx hb dX2_eligibleInAll_55 rfl hl (by decide) rfl (fun ls hl => ?_)
            refine lv_iinc (v := nI (i + 1)) (lv' := [(6, .int (nI (i + 1))), (3, .int ((gSa lrow bas vel vda ch d0 z0 i) + (gSu vel vda d0 (ch a_2) 0))), (7, .ref a_2), (5, .int 12), (4, .ref lr), (0, .ref g), (1, .int d0), (2, .int z0)]) hx hb dX2_eligibleInAll_56 hl (k := 2) rfl (by show nI i + 1 = nI (i + 1); exact nI_1 _) (by decide) rfl (fun ls hl => ?_)
            refine lv_goto (tgt := 16) hx hb dX2_eligibleInAll_59 (by decide) ?_
            exact ih (i + 1) _ _ _ (by omega) (by omega) hP hD hS (by rw [(show gSa lrow bas vel vda ch d0 z0 (i + 1) = gSa lrow bas vel vda ch d0 z0 i + gSu vel vda d0 (ch a_2) 0 by rw [gSa, hq_2]; exact if_neg (fun h => c_3 h.1))]; exact lv_sub hl [0, 3, 4, 1, 5, 6, 7] rfl)
          · refine lv_iload_n hx hb dX2_eligibleInAll_43 rfl (lv_at hl 7 rfl) ?_
            refine lv_if_ne (tgt := 56) hx hb dX2_eligibleInAll_44 (by decide) (fun c_5 => ?_) (fun c_5 => ?_)
            · refine lv_iinc (v := nI (i + 1)) (lv' := [(6, .int (nI (i + 1))), (7, .ref a_2), (5, .int 12), (4, .ref lr), (3, .int (gSa lrow bas vel vda ch d0 z0 i)), (0, .ref g), (1, .int d0), (2, .int z0)]) hx hb dX2_eligibleInAll_56 hl (k := 1) rfl (by show nI i + 1 = nI (i + 1); exact nI_1 _) (by decide) rfl (fun ls hl => ?_)
              refine lv_goto (tgt := 16) hx hb dX2_eligibleInAll_59 (by decide) ?_
              exact ih (i + 1) _ _ _ (by omega) (by omega) hP hD hS (by rw [(show gSa lrow bas vel vda ch d0 z0 (i + 1) = gSa lrow bas vel vda ch d0 z0 i by rw [gSa, hq_2]; exact if_pos ⟨c_3, c_5⟩)]; exact lv_sub hl [0, 2, 3, 4, 5, 6, 7] rfl)
            · refine lv_iload_n hx hb dX2_eligibleInAll_47 rfl (lv_at hl 4 rfl) ?_
              refine lv_aload hx hb dX2_eligibleInAll_48 (lv_at hl 0 rfl) ?_
              refine lv_iload_n hx hb dX2_eligibleInAll_50 rfl (lv_at hl 6 rfl) ?_
              have hF_6 := gk_all hD hS hA
              refine va_calli (va_runV (As := [.int d0]) (rest := [.int (gSa lrow bas vel vda ch d0 z0 i)]) ⟨hx, hb, hml, hown, hts⟩ (kX0_eligibleUpTo l D (gTy cyI cyZ cyL cyV cyJ) ((g, .inr (2, [.int ga, .int gs, .int ora, .int oc, .ref lr, .int (nI nl), .ref vr, .int (nI nv), .int am, .ref py, .int (nI nc), .int lcd, .int pia])) :: (lr, .inl (cyL, 12, .inr (.inr (.inr (.inr lrow))))) :: (vr, .inl (cyV, 100, .inr (.inr (.inr (.inr vrow))))) :: (py, .inl (cyI, 40, .inl pay)) :: Y) L K bud fsd las bas mvi mva ear vln vda vam vrf vel vnx a_2 hLa_2 hKa_2 (ch a_2) (hOK.2.2 a_2 hLa_2 hKa_2).1 (hOK.2.2 a_2 hLa_2 hKa_2).2 d0 H.size _ rfl) (cwV 1 hts gX2_eligibleInAll_X0_eligibleUpTo rfl rfl rfl (by decide +kernel) ⟨(Nat.le_of_ble_eq_true rfl), (Nat.le_of_ble_eq_true rfl)⟩) (gk_preV hP hK hD (gk_recv hK hP hLa_2 (gE_0 hKa_2) rfl)) rfl rfl hl.1 rfl (lv_room (Nat.le_of_ble_eq_true rfl)) dX2_eligibleInAll_51 ⟨(Nat.le_of_ble_eq_true rfl), (Nat.le_of_ble_eq_true rfl)⟩) hS (fun q _ h => hF_6 q h) hF_6 (fun r_6 u_6 t_6 H locs ht_6 hvm_6 hw_6 hB_6 hz_6 hk_6 hS => ?_)
              obtain ⟨hP, hD⟩ := gk_back hF_6 hB_6 ht_6
              subst hw_6
              refine lv_iadd hx hb dX2_eligibleInAll_54 ?_
              refine lv_istore_n (lv' := [(3, .int ((gSa lrow bas vel vda ch d0 z0 i) + (gSu vel vda d0 (ch a_2) 0))), (7, .ref a_2), (6, .int (nI i)), (5, .int 12), (4, .ref lr), (0, .ref g), (1, .int d0), (2, .int z0)]) hx hb dX2_eligibleInAll_55 rfl hl (by decide) rfl (fun ls hl => ?_)
              refine lv_iinc (v := nI (i + 1)) (lv' := [(6, .int (nI (i + 1))), (3, .int ((gSa lrow bas vel vda ch d0 z0 i) + (gSu vel vda d0 (ch a_2) 0))), (7, .ref a_2), (5, .int 12), (4, .ref lr), (0, .ref g), (1, .int d0), (2, .int z0)]) hx hb dX2_eligibleInAll_56 hl (k := 2) rfl (by show nI i + 1 = nI (i + 1); exact nI_1 _) (by decide) rfl (fun ls hl => ?_)
              refine lv_goto (tgt := 16) hx hb dX2_eligibleInAll_59 (by decide) ?_
              exact ih (i + 1) _ _ _ (by omega) (by omega) hP hD hS (by rw [(show gSa lrow bas vel vda ch d0 z0 (i + 1) = gSa lrow bas vel vda ch d0 z0 i + gSu vel vda d0 (ch a_2) 0 by rw [gSa, hq_2]; exact if_neg (fun h => h.2 c_5))]; exact lv_sub hl [0, 3, 4, 1, 5, 6, 7] rfl)
  refine lv_iconst (v := 0) hx hb dX2_eligibleInAll_0 (by decide) ?_
  refine lv_istore_n (lv' := [(3, .int 0), (0, .ref g), (1, .int d0), (2, .int z0)]) hx hb dX2_eligibleInAll_1 rfl hl (by decide) rfl (fun ls hl => ?_)
  refine lv_aload_n hx hb dX2_eligibleInAll_2 rfl (lv_at hl 1 rfl) ?_
  refine va_get (D := D) (ci := 2) (v := .ref lr) (C := RX2) (T := TX2) (N := 13) hx hb hts hi2 hown hK hP 0 rfl rfl 4 (by decide) (hts (.fieldLink RX2 26 "GrantBook" "lineRows" "[LGrantBook$Line;") (List.mem_of_getElem? (i := 1) rfl)) (fun _ h9 => h9) rfl dX2_eligibleInAll_3 ?_
  refine lv_astore (lv' := [(4, .ref lr), (3, .int 0), (0, .ref g), (1, .int d0), (2, .int z0)]) hx hb dX2_eligibleInAll_6 hl (by decide) rfl (fun ls hl => ?_)
  refine lv_aload hx hb dX2_eligibleInAll_8 (lv_at hl 0 rfl) ?_
  refine va_alen hx hb hK hP 1 2 rfl rfl (v := 12) rfl dX2_eligibleInAll_10 ?_
  refine lv_istore (lv' := [(5, .int 12), (4, .ref lr), (3, .int 0), (0, .ref g), (1, .int d0), (2, .int z0)]) hx hb dX2_eligibleInAll_11 hl (by decide) rfl (fun ls hl => ?_)
  refine lv_iconst (v := 0) hx hb dX2_eligibleInAll_13 (by decide) ?_
  refine lv_istore (lv' := [(6, .int 0), (5, .int 12), (4, .ref lr), (3, .int 0), (0, .ref g), (1, .int d0), (2, .int z0)]) hx hb dX2_eligibleInAll_14 hl (by decide) rfl (fun ls hl => ?_)
  exact loop 13 0 _ _ _ (by omega) (by omega) hP hD hS (lv_sub hl [0, 1, 2, 3, 4, 5, 6] rfl)
set_option maxHeartbeats 4000000 in
set_option maxRecDepth 100000 in
theorem kX2_costsUpTo (l : Launch) (D : va_G) (cyI cyZ cyL cyV cyJ : ClassId) (g lr vr py : Nat) (ga gs ora oc : Int32) (lrow vrow : Nat → Option Nat) (nl nv : Nat) (am : Int32) (pay : Nat → Int32) (nc : Nat) (lcd pia : Int32) (Y : va_W) (L : List Nat) (K : Nat → Nat) (bud fsd las bas mvi mva : Nat → Int32) (ear vln : Nat → Option Nat) (vda vam vrf vel : Nat → Int32) (vnx : Nat → Option Nat) (ch : Nat → List Nat) (hOK : gOK L K lrow vrow ear vln vnx ch) (d0 : Int32) (sz : Nat) (A : Nat → Prop) (hAe : va_A (((g, .inr (2, [.int ga, .int gs, .int ora, .int oc, .ref lr, .int (nI nl), .ref vr, .int (nI nv), .int am, .ref py, .int (nI nc), .int lcd, .int pia])) :: (lr, .inl (cyL, 12, .inr (.inr (.inr (.inr lrow))))) :: (vr, .inl (cyV, 100, .inr (.inr (.inr (.inr vrow))))) :: (py, .inl (cyI, 40, .inl pay)) :: Y : va_W) ++ va_pl L (gE K bud fsd las bas mvi mva ear vln vda vam vrf vel vnx)) sz = A) : Met l yX2_costsUpTo wsX2_costsUpTo ({ frames := 2, cells := 0, slots := 0, locals := 50 }) (va_Pc [.ref g, .int d0] (gPre D (gTy cyI cyZ cyL cyV cyJ) (((g, .inr (2, [.int ga, .int gs, .int ora, .int oc, .ref lr, .int (nI nl), .ref vr, .int (nI nv), .int am, .ref py, .int (nI nc), .int lcd, .int pia])) :: (lr, .inl (cyL, 12, .inr (.inr (.inr (.inr lrow))))) :: (vr, .inl (cyV, 100, .inr (.inr (.inr (.inr vrow))))) :: (py, .inl (cyI, 40, .inl pay)) :: Y : va_W) ++ va_pl L (gE K bud fsd las bas mvi mva ear vln vda vam vrf vel vnx)) sz)) (va_Qi (fun (r : Int32) (_ : Unit) => r = (gSa lrow bas vel vda ch d0 0 12)) (fun (_ : Unit) t => gPost D (gTy cyI cyZ cyL cyV cyJ) A (((g, .inr (2, [.int ga, .int gs, .int ora, .int oc, .ref lr, .int (nI nl), .ref vr, .int (nI nv), .int am, .ref py, .int (nI nc), .int lcd, .int pia])) :: (lr, .inl (cyL, 12, .inr (.inr (.inr (.inr lrow))))) :: (vr, .inl (cyV, 100, .inr (.inr (.inr (.inr vrow))))) :: (py, .inl (cyI, 40, .inl pay)) :: Y : va_W) ++ va_pl L (gE K bud fsd las bas mvi mva ear vln vda vam vrf vel vnx)) t) A) 0 0 A := by
  refine Met.ofW (cc := cX2_costsUpTo) (maxL := 2) (ret := (some .int)) (by decide) rfl ?_
  intro p e s m args below meth c s₁ B hml hv
  obtain ⟨rfl, hsz, hP, hK, hD0⟩ := hv
  have hx := B.exec
  have hb := B.bytes
  have hr := B.returns
  have hts := atoms_spec (ws := wsX2_costsUpTo) B.pre
  have hown : s.vm.findClass RX2 = some m.cls := findClass_of_methodNamed B.named
  have hlocks := B.notSynchronized
  subst hsz
  have hD := hD0.self (sz := s.heap.size)
  rw [hAe] at hD
  have hA : ∀ q : Nat, s.heap.size ≤ q → A q := fun q h => by rw [← hAe]; exact Or.inr h
  have hS : va_S A s.heap s.heap [] := va_S.rf
  have hP : va_P D vwCl (((g, .inr (2, [.int ga, .int gs, .int ora, .int oc, .ref lr, .int (nI nl), .ref vr, .int (nI nv), .int am, .ref py, .int (nI nc), .int lcd, .int pia])) :: (lr, .inl (cyL, 12, .inr (.inr (.inr (.inr lrow))))) :: (vr, .inl (cyV, 100, .inr (.inr (.inr (.inr vrow))))) :: (py, .inl (cyI, 40, .inl pay)) :: Y : va_W) ++ va_pl L (gE K bud fsd las bas mvi mva ear vln vda vam vrf vel vnx)) s.heap := hP
  have hl := lv_entry ([.ref g, .int d0]) (n := 2) (Nat.le_of_ble_eq_true rfl)
  rw [lg_entry_eq]
  generalize (lg_sl ([.ref g, .int d0]) ++ List.replicate (2 - (lg_sl ([.ref g, .int d0])).length) Slot.unset).toArray = ls at hl ⊢
  have hl : lv_has ls 2 [(0, .ref g), (1, .int d0)] := hl
  refine lv_aload_n hx hb dX2_costsUpTo_0 rfl (lv_at hl 0 rfl) ?_
  refine lv_iload_n hx hb dX2_costsUpTo_1 rfl (lv_at hl 1 rfl) ?_
  refine lv_iconst (v := 0) hx hb dX2_costsUpTo_2 (by decide) ?_
  have hF_1 := gk_all hD hS hA
  refine va_calli (va_runV (As := [.int d0, .int 0]) (rest := []) ⟨hx, hb, hml, hown, hts⟩ (kX2_eligibleInAll l D cyI cyZ cyL cyV cyJ g lr vr py ga gs ora oc lrow vrow nl nv am pay nc lcd pia Y L K bud fsd las bas mvi mva ear vln vda vam vrf vel vnx ch hOK d0 0 s.heap.size _ rfl) (cwV 2 hts gX2_costsUpTo_X2_eligibleInAll rfl rfl rfl (by decide +kernel) ⟨(Nat.le_of_ble_eq_true rfl), (Nat.le_of_ble_eq_true rfl)⟩) (gk_preV hP hK hD (va_recv hK hP (ci := 2) (q0 := 0) rfl rfl)) rfl rfl hl.1 rfl (lv_room (Nat.le_of_ble_eq_true rfl)) dX2_costsUpTo_3 ⟨(Nat.le_of_ble_eq_true rfl), (Nat.le_of_ble_eq_true rfl)⟩) hS (fun q _ h => hF_1 q h) hF_1 (fun r_1 u_1 t_1 H locs ht_1 hvm_1 hw_1 hB_1 hz_1 hk_1 hS => ?_)
  obtain ⟨hP, hD⟩ := gk_back hF_1 hB_1 ht_1
  subst hw_1
  refine W.widen (k := 0) (n := 0) (Nat.le_of_ble_eq_true rfl) (Nat.le_of_ble_eq_true rfl) ?_
  exact W.iret (v := (gSa lrow bas vel vda ch d0 0 12)) hx hb hr (fun t ht hW => ⟨⟨(gSa lrow bas vel vda ch d0 0 12), (), rfl, rfl, by rw [ht]; exact hP, va_K.moved hW.alike hK, hD⟩, hS.F ht⟩) hS.2.2 dX2_costsUpTo_6
set_option maxHeartbeats 4000000 in
set_option maxRecDepth 100000 in
theorem kX2_overheadUpTo (l : Launch) (D : va_G) (cyI cyZ cyL cyV cyJ : ClassId) (g lr vr py : Nat) (ga gs ora oc : Int32) (lrow vrow : Nat → Option Nat) (nl nv : Nat) (am : Int32) (pay : Nat → Int32) (nc : Nat) (lcd pia : Int32) (Y : va_W) (L : List Nat) (K : Nat → Nat) (bud fsd las bas mvi mva : Nat → Int32) (ear vln : Nat → Option Nat) (vda vam vrf vel : Nat → Int32) (vnx : Nat → Option Nat) (ch : Nat → List Nat) (hOK : gOK L K lrow vrow ear vln vnx ch) (d0 : Int32) (sz : Nat) (A : Nat → Prop) (hAe : va_A (((g, .inr (2, [.int ga, .int gs, .int ora, .int oc, .ref lr, .int (nI nl), .ref vr, .int (nI nv), .int am, .ref py, .int (nI nc), .int lcd, .int pia])) :: (lr, .inl (cyL, 12, .inr (.inr (.inr (.inr lrow))))) :: (vr, .inl (cyV, 100, .inr (.inr (.inr (.inr vrow))))) :: (py, .inl (cyI, 40, .inl pay)) :: Y : va_W) ++ va_pl L (gE K bud fsd las bas mvi mva ear vln vda vam vrf vel vnx)) sz = A) : Met l yX2_overheadUpTo wsX2_overheadUpTo ({ frames := 2, cells := 0, slots := 0, locals := 50 }) (va_Pc [.ref g, .int d0] (gPre D (gTy cyI cyZ cyL cyV cyJ) (((g, .inr (2, [.int ga, .int gs, .int ora, .int oc, .ref lr, .int (nI nl), .ref vr, .int (nI nv), .int am, .ref py, .int (nI nc), .int lcd, .int pia])) :: (lr, .inl (cyL, 12, .inr (.inr (.inr (.inr lrow))))) :: (vr, .inl (cyV, 100, .inr (.inr (.inr (.inr vrow))))) :: (py, .inl (cyI, 40, .inl pay)) :: Y : va_W) ++ va_pl L (gE K bud fsd las bas mvi mva ear vln vda vam vrf vel vnx)) sz)) (va_Qi (fun (r : Int32) (_ : Unit) => r = (gOv ora oc (gSa lrow bas vel vda ch d0 1 12))) (fun (_ : Unit) t => gPost D (gTy cyI cyZ cyL cyV cyJ) A (((g, .inr (2, [.int ga, .int gs, .int ora, .int oc, .ref lr, .int (nI nl), .ref vr, .int (nI nv), .int am, .ref py, .int (nI nc), .int lcd, .int pia])) :: (lr, .inl (cyL, 12, .inr (.inr (.inr (.inr lrow))))) :: (vr, .inl (cyV, 100, .inr (.inr (.inr (.inr vrow))))) :: (py, .inl (cyI, 40, .inl pay)) :: Y : va_W) ++ va_pl L (gE K bud fsd las bas mvi mva ear vln vda vam vrf vel vnx)) t) A) 0 0 A := by
  refine Met.ofW (cc := cX2_overheadUpTo) (maxL := 4) (ret := (some .int)) (by decide) rfl ?_
  intro p e s m args below meth c s₁ B hml hv
  obtain ⟨rfl, hsz, hP, hK, hD0⟩ := hv
  have hx := B.exec
  have hb := B.bytes
  have hr := B.returns
  have hts := atoms_spec (ws := wsX2_overheadUpTo) B.pre
  have hown : s.vm.findClass RX2 = some m.cls := findClass_of_methodNamed B.named
  have hlocks := B.notSynchronized
  subst hsz
  have hD := hD0.self (sz := s.heap.size)
  rw [hAe] at hD
  have hA : ∀ q : Nat, s.heap.size ≤ q → A q := fun q h => by rw [← hAe]; exact Or.inr h
  have hS : va_S A s.heap s.heap [] := va_S.rf
  have hP : va_P D vwCl (((g, .inr (2, [.int ga, .int gs, .int ora, .int oc, .ref lr, .int (nI nl), .ref vr, .int (nI nv), .int am, .ref py, .int (nI nc), .int lcd, .int pia])) :: (lr, .inl (cyL, 12, .inr (.inr (.inr (.inr lrow))))) :: (vr, .inl (cyV, 100, .inr (.inr (.inr (.inr vrow))))) :: (py, .inl (cyI, 40, .inl pay)) :: Y : va_W) ++ va_pl L (gE K bud fsd las bas mvi mva ear vln vda vam vrf vel vnx)) s.heap := hP
  have hi2 : ∀ w ∈ wsX20, w ∈ wsX2_overheadUpTo := fun _ h => List.mem_cons_of_mem _ (List.mem_append_left _ (List.mem_append_left _ (List.mem_append_right _ h)))
  have hl := lv_entry ([.ref g, .int d0]) (n := 4) (Nat.le_of_ble_eq_true rfl)
  rw [lg_entry_eq]
  generalize (lg_sl ([.ref g, .int d0]) ++ List.replicate (4 - (lg_sl ([.ref g, .int d0])).length) Slot.unset).toArray = ls at hl ⊢
  have hl : lv_has ls 4 [(0, .ref g), (1, .int d0)] := hl
  refine lv_aload_n hx hb dX2_overheadUpTo_0 rfl (lv_at hl 0 rfl) ?_
  refine va_get (D := D) (ci := 2) (v := .int ora) (C := RX2) (T := TX2) (N := 13) hx hb hts hi2 hown hK hP 0 rfl rfl 2 (by decide) (hts (.fieldLink RX2 17 "GrantBook" "overheadRate" "I") (List.mem_of_getElem? (i := 1) rfl)) (fun _ h9 => h9) rfl dX2_overheadUpTo_1 ?_
  refine lv_i2l hx hb dX2_overheadUpTo_4 rfl ?_
  refine lv_aload_n hx hb dX2_overheadUpTo_5 rfl (lv_at hl 0 rfl) ?_
  refine lv_iload_n hx hb dX2_overheadUpTo_6 rfl (lv_at hl 1 rfl) ?_
  refine lv_iconst (v := 1) hx hb dX2_overheadUpTo_7 (by decide) ?_
  have hF_1 := gk_all hD hS hA
  refine va_calli (va_runV (As := [.int d0, .int 1]) (rest := [.long ora.toInt64]) ⟨hx, hb, hml, hown, hts⟩ (kX2_eligibleInAll l D cyI cyZ cyL cyV cyJ g lr vr py ga gs ora oc lrow vrow nl nv am pay nc lcd pia Y L K bud fsd las bas mvi mva ear vln vda vam vrf vel vnx ch hOK d0 1 s.heap.size _ rfl) (cwV 2 hts gX2_overheadUpTo_X2_eligibleInAll rfl rfl rfl (by decide +kernel) ⟨(Nat.le_of_ble_eq_true rfl), (Nat.le_of_ble_eq_true rfl)⟩) (gk_preV hP hK hD (va_recv hK hP (ci := 2) (q0 := 0) rfl rfl)) rfl rfl hl.1 rfl (lv_room (Nat.le_of_ble_eq_true rfl)) dX2_overheadUpTo_8 ⟨(Nat.le_of_ble_eq_true rfl), (Nat.le_of_ble_eq_true rfl)⟩) hS (fun q _ h => hF_1 q h) hF_1 (fun r_1 u_1 t_1 H locs ht_1 hvm_1 hw_1 hB_1 hz_1 hk_1 hS => ?_)
  obtain ⟨hP, hD⟩ := gk_back hF_1 hB_1 ht_1
  subst hw_1
  refine lv_i2l hx hb dX2_overheadUpTo_11 rfl ?_
  refine lv_lmul hx hb dX2_overheadUpTo_12 ?_
  refine lv_ldc2 hx hb hown (hts (.constantLong RX2 192 (100)) (List.mem_of_getElem? (i := 2) rfl)) dX2_overheadUpTo_13 ?_
  refine lv_ldiv hx hb dX2_overheadUpTo_16 (by decide) ?_
  refine lv_lstore_n (lv' := [(2, .long ((ora.toInt64 * (gSa lrow bas vel vda ch d0 1 12).toInt64) / 100)), (0, .ref g), (1, .int d0)]) hx hb dX2_overheadUpTo_17 rfl hl (by decide) rfl (fun ls hl => ?_)
  refine lv_lload_n hx hb dX2_overheadUpTo_18 rfl (lv_at hl 0 rfl) ?_
  refine lv_aload_n hx hb dX2_overheadUpTo_19 rfl (lv_at hl 1 rfl) ?_
  refine va_get (D := D) (ci := 2) (v := .int oc) (C := RX2) (T := TX2) (N := 13) hx hb hts hi2 hown hK hP 0 rfl rfl 3 (by decide) (hts (.fieldLink RX2 21 "GrantBook" "overheadCeiling" "I") (List.mem_of_getElem? (i := 3) rfl)) (fun _ h9 => h9) rfl dX2_overheadUpTo_20 ?_
  refine lv_i2l hx hb dX2_overheadUpTo_23 rfl ?_
  refine va_mmin_long hx hb (hml.trans hl.1.symm) hown (hts (.methodLink RX2 194 Lib.MathLoose.min_long.x) (List.mem_of_getElem? (i := 4) rfl)) (hts (.static Lib.MathLoose.min_long.x) (List.mem_of_getElem? (i := 5) rfl)) (hts (.initialized "java/lang/Math") (List.mem_of_getElem? (i := 6) rfl)) (hts (.code Lib.MathLoose.min_long.x Lib.MathLoose.min_long.code 4 (some .long)) (List.mem_of_getElem? (i := 7) rfl)) (Nat.le_of_ble_eq_true rfl) (Nat.le_of_ble_eq_true rfl) (Nat.le_of_ble_eq_true rfl) (Nat.le_of_ble_eq_true rfl) dX2_overheadUpTo_24 ?_
  refine lv_l2i hx hb dX2_overheadUpTo_27 rfl ?_
  refine W.widen (k := 0) (n := 0) (Nat.le_of_ble_eq_true rfl) (Nat.le_of_ble_eq_true rfl) ?_
  exact W.iret (v := (if oc.toInt64 < ((ora.toInt64 * (gSa lrow bas vel vda ch d0 1 12).toInt64) / 100) then oc.toInt64 else ((ora.toInt64 * (gSa lrow bas vel vda ch d0 1 12).toInt64) / 100)).toInt32) hx hb hr (fun t ht hW => ⟨⟨(if oc.toInt64 < ((ora.toInt64 * (gSa lrow bas vel vda ch d0 1 12).toInt64) / 100) then oc.toInt64 else ((ora.toInt64 * (gSa lrow bas vel vda ch d0 1 12).toInt64) / 100)).toInt32, (), rfl, rfl, by rw [ht]; exact hP, va_K.moved hW.alike hK, hD⟩, hS.F ht⟩) hS.2.2 dX2_overheadUpTo_28
set_option maxHeartbeats 4000000 in
set_option maxRecDepth 100000 in
theorem kX2_earnedButForMatch (l : Launch) (D : va_G) (cyI cyZ cyL cyV cyJ : ClassId) (g lr vr py : Nat) (ga gs ora oc : Int32) (lrow vrow : Nat → Option Nat) (nl nv : Nat) (am : Int32) (pay : Nat → Int32) (nc : Nat) (lcd pia : Int32) (Y : va_W) (L : List Nat) (K : Nat → Nat) (bud fsd las bas mvi mva : Nat → Int32) (ear vln : Nat → Option Nat) (vda vam vrf vel : Nat → Int32) (vnx : Nat → Option Nat) (ch : Nat → List Nat) (hOK : gOK L K lrow vrow ear vln vnx ch) (d0 : Int32) (sz : Nat) (A : Nat → Prop) (hAe : va_A (((g, .inr (2, [.int ga, .int gs, .int ora, .int oc, .ref lr, .int (nI nl), .ref vr, .int (nI nv), .int am, .ref py, .int (nI nc), .int lcd, .int pia])) :: (lr, .inl (cyL, 12, .inr (.inr (.inr (.inr lrow))))) :: (vr, .inl (cyV, 100, .inr (.inr (.inr (.inr vrow))))) :: (py, .inl (cyI, 40, .inl pay)) :: Y : va_W) ++ va_pl L (gE K bud fsd las bas mvi mva ear vln vda vam vrf vel vnx)) sz = A) : Met l yX2_earnedButForMatch wsX2_earnedButForMatch ({ frames := 3, cells := 0, slots := 0, locals := 73 }) (va_Pc [.ref g, .int d0] (gPre D (gTy cyI cyZ cyL cyV cyJ) (((g, .inr (2, [.int ga, .int gs, .int ora, .int oc, .ref lr, .int (nI nl), .ref vr, .int (nI nv), .int am, .ref py, .int (nI nc), .int lcd, .int pia])) :: (lr, .inl (cyL, 12, .inr (.inr (.inr (.inr lrow))))) :: (vr, .inl (cyV, 100, .inr (.inr (.inr (.inr vrow))))) :: (py, .inl (cyI, 40, .inl pay)) :: Y : va_W) ++ va_pl L (gE K bud fsd las bas mvi mva ear vln vda vam vrf vel vnx)) sz)) (va_Ql (fun (r : Int64) (_ : Unit) => r = (gEb gs ga (gSa lrow bas vel vda ch d0 0 12) (gOv ora oc (gSa lrow bas vel vda ch d0 1 12)))) (fun (_ : Unit) t => gPost D (gTy cyI cyZ cyL cyV cyJ) A (((g, .inr (2, [.int ga, .int gs, .int ora, .int oc, .ref lr, .int (nI nl), .ref vr, .int (nI nv), .int am, .ref py, .int (nI nc), .int lcd, .int pia])) :: (lr, .inl (cyL, 12, .inr (.inr (.inr (.inr lrow))))) :: (vr, .inl (cyV, 100, .inr (.inr (.inr (.inr vrow))))) :: (py, .inl (cyI, 40, .inl pay)) :: Y : va_W) ++ va_pl L (gE K bud fsd las bas mvi mva ear vln vda vam vrf vel vnx)) t) A) 0 0 A := by
  refine Met.ofW (cc := cX2_earnedButForMatch) (maxL := 4) (ret := (some .long)) (by decide) rfl ?_
  intro p e s m args below meth c s₁ B hml hv
  obtain ⟨rfl, hsz, hP, hK, hD0⟩ := hv
  have hx := B.exec
  have hb := B.bytes
  have hr := B.returns
  have hts := atoms_spec (ws := wsX2_earnedButForMatch) B.pre
  have hown : s.vm.findClass RX2 = some m.cls := findClass_of_methodNamed B.named
  have hlocks := B.notSynchronized
  subst hsz
  have hD := hD0.self (sz := s.heap.size)
  rw [hAe] at hD
  have hA : ∀ q : Nat, s.heap.size ≤ q → A q := fun q h => by rw [← hAe]; exact Or.inr h
  have hS : va_S A s.heap s.heap [] := va_S.rf
  have hP : va_P D vwCl (((g, .inr (2, [.int ga, .int gs, .int ora, .int oc, .ref lr, .int (nI nl), .ref vr, .int (nI nv), .int am, .ref py, .int (nI nc), .int lcd, .int pia])) :: (lr, .inl (cyL, 12, .inr (.inr (.inr (.inr lrow))))) :: (vr, .inl (cyV, 100, .inr (.inr (.inr (.inr vrow))))) :: (py, .inl (cyI, 40, .inl pay)) :: Y : va_W) ++ va_pl L (gE K bud fsd las bas mvi mva ear vln vda vam vrf vel vnx)) s.heap := hP
  have hi2 : ∀ w ∈ wsX20, w ∈ wsX2_earnedButForMatch := fun _ h => List.mem_cons_of_mem _ (List.mem_append_left _ (List.mem_append_left _ (List.mem_append_right _ h)))
  have hl := lv_entry ([.ref g, .int d0]) (n := 4) (Nat.le_of_ble_eq_true rfl)
  rw [lg_entry_eq]
  generalize (lg_sl ([.ref g, .int d0]) ++ List.replicate (4 - (lg_sl ([.ref g, .int d0])).length) Slot.unset).toArray = ls at hl ⊢
  have hl : lv_has ls 4 [(0, .ref g), (1, .int d0)] := hl
  refine lv_aload_n hx hb dX2_earnedButForMatch_0 rfl (lv_at hl 0 rfl) ?_
  refine lv_iload_n hx hb dX2_earnedButForMatch_1 rfl (lv_at hl 1 rfl) ?_
  have hF_1 := gk_all hD hS hA
  refine va_calli (va_runV (As := [.int d0]) (rest := []) ⟨hx, hb, hml, hown, hts⟩ (kX2_costsUpTo l D cyI cyZ cyL cyV cyJ g lr vr py ga gs ora oc lrow vrow nl nv am pay nc lcd pia Y L K bud fsd las bas mvi mva ear vln vda vam vrf vel vnx ch hOK d0 s.heap.size _ rfl) (cwV 1 hts gX2_earnedButForMatch_X2_costsUpTo rfl rfl rfl (by decide +kernel) ⟨(Nat.le_of_ble_eq_true rfl), (Nat.le_of_ble_eq_true rfl)⟩) (gk_preV hP hK hD (va_recv hK hP (ci := 2) (q0 := 0) rfl rfl)) rfl rfl hl.1 rfl (lv_room (Nat.le_of_ble_eq_true rfl)) dX2_earnedButForMatch_2 ⟨(Nat.le_of_ble_eq_true rfl), (Nat.le_of_ble_eq_true rfl)⟩) hS (fun q _ h => hF_1 q h) hF_1 (fun r_1 u_1 t_1 H locs ht_1 hvm_1 hw_1 hB_1 hz_1 hk_1 hS => ?_)
  obtain ⟨hP, hD⟩ := gk_back hF_1 hB_1 ht_1
  subst hw_1
  refine lv_i2l hx hb dX2_earnedButForMatch_5 rfl ?_
  refine lv_aload_n hx hb dX2_earnedButForMatch_6 rfl (lv_at hl 0 rfl) ?_
  refine lv_iload_n hx hb dX2_earnedButForMatch_7 rfl (lv_at hl 1 rfl) ?_
  have hF_2 := gk_all hD hS hA
  refine va_calli (va_runV (As := [.int d0]) (rest := [.long ((gSa lrow bas vel vda ch d0 0 12).toInt64)]) ⟨hx, hb, hml, hown, hts⟩ (kX2_overheadUpTo l D cyI cyZ cyL cyV cyJ g lr vr py ga gs ora oc lrow vrow nl nv am pay nc lcd pia Y L K bud fsd las bas mvi mva ear vln vda vam vrf vel vnx ch hOK d0 H.size _ rfl) (cwV 1 hts gX2_earnedButForMatch_X2_overheadUpTo rfl rfl rfl (by decide +kernel) ⟨(Nat.le_of_ble_eq_true rfl), (Nat.le_of_ble_eq_true rfl)⟩) (gk_preV hP hK hD (va_recv hK hP (ci := 2) (q0 := 0) rfl rfl)) rfl rfl hl.1 rfl (lv_room (Nat.le_of_ble_eq_true rfl)) dX2_earnedButForMatch_8 ⟨(Nat.le_of_ble_eq_true rfl), (Nat.le_of_ble_eq_true rfl)⟩) hS (fun q _ h => hF_2 q h) hF_2 (fun r_2 u_2 t_2 H locs ht_2 hvm_2 hw_2 hB_2 hz_2 hk_2 hS => ?_)
  obtain ⟨hP, hD⟩ := gk_back hF_2 hB_2 ht_2
  subst hw_2
  refine lv_i2l hx hb dX2_earnedButForMatch_11 rfl ?_
  refine lv_ladd hx hb dX2_earnedButForMatch_12 ?_
  refine lv_lstore_n (lv' := [(2, .long ((gSa lrow bas vel vda ch d0 0 12).toInt64 + (gOv ora oc (gSa lrow bas vel vda ch d0 1 12)).toInt64)), (0, .ref g), (1, .int d0)]) hx hb dX2_earnedButForMatch_13 rfl hl (by decide) rfl (fun ls hl => ?_)
  refine lv_lload_n hx hb dX2_earnedButForMatch_14 rfl (lv_at hl 0 rfl) ?_
  refine lv_aload_n hx hb dX2_earnedButForMatch_15 rfl (lv_at hl 1 rfl) ?_
  refine va_get (D := D) (ci := 2) (v := .int gs) (C := RX2) (T := TX2) (N := 13) hx hb hts hi2 hown hK hP 0 rfl rfl 1 (by decide) (hts (.fieldLink RX2 14 "GrantBook" "grantShare" "I") (List.mem_of_getElem? (i := 1) rfl)) (fun _ h9 => h9) rfl dX2_earnedButForMatch_16 ?_
  refine lv_i2l hx hb dX2_earnedButForMatch_19 rfl ?_
  refine lv_lmul hx hb dX2_earnedButForMatch_20 ?_
  refine lv_ldc2 hx hb hown (hts (.constantLong RX2 192 (100)) (List.mem_of_getElem? (i := 2) rfl)) dX2_earnedButForMatch_21 ?_
  refine lv_ldiv hx hb dX2_earnedButForMatch_24 (by decide) ?_
  refine lv_aload_n hx hb dX2_earnedButForMatch_25 rfl (lv_at hl 1 rfl) ?_
  refine va_get (D := D) (ci := 2) (v := .int ga) (C := RX2) (T := TX2) (N := 13) hx hb hts hi2 hown hK hP 0 rfl rfl 0 (by decide) (hts (.fieldLink RX2 8 "GrantBook" "grantAmount" "I") (List.mem_of_getElem? (i := 3) rfl)) (fun _ h9 => h9) rfl dX2_earnedButForMatch_26 ?_
  refine lv_i2l hx hb dX2_earnedButForMatch_29 rfl ?_
  refine va_mmin_long hx hb (hml.trans hl.1.symm) hown (hts (.methodLink RX2 194 Lib.MathLoose.min_long.x) (List.mem_of_getElem? (i := 4) rfl)) (hts (.static Lib.MathLoose.min_long.x) (List.mem_of_getElem? (i := 5) rfl)) (hts (.initialized "java/lang/Math") (List.mem_of_getElem? (i := 6) rfl)) (hts (.code Lib.MathLoose.min_long.x Lib.MathLoose.min_long.code 4 (some .long)) (List.mem_of_getElem? (i := 7) rfl)) (Nat.le_of_ble_eq_true rfl) (Nat.le_of_ble_eq_true rfl) (Nat.le_of_ble_eq_true rfl) (Nat.le_of_ble_eq_true rfl) dX2_earnedButForMatch_30 ?_
  refine W.widen (k := 0) (n := 0) (Nat.le_of_ble_eq_true rfl) (Nat.le_of_ble_eq_true rfl) ?_
  exact W.lret (v := (if ga.toInt64 < ((((gSa lrow bas vel vda ch d0 0 12).toInt64 + (gOv ora oc (gSa lrow bas vel vda ch d0 1 12)).toInt64) * gs.toInt64) / 100) then ga.toInt64 else ((((gSa lrow bas vel vda ch d0 0 12).toInt64 + (gOv ora oc (gSa lrow bas vel vda ch d0 1 12)).toInt64) * gs.toInt64) / 100))) hx hb hr (fun t ht hW => ⟨⟨(if ga.toInt64 < ((((gSa lrow bas vel vda ch d0 0 12).toInt64 + (gOv ora oc (gSa lrow bas vel vda ch d0 1 12)).toInt64) * gs.toInt64) / 100) then ga.toInt64 else ((((gSa lrow bas vel vda ch d0 0 12).toInt64 + (gOv ora oc (gSa lrow bas vel vda ch d0 1 12)).toInt64) * gs.toInt64) / 100)), (), rfl, rfl, by rw [ht]; exact hP, va_K.moved hW.alike hK, hD⟩, hS.F ht⟩) hS.2.2 dX2_earnedButForMatch_33
set_option maxHeartbeats 4000000 in
set_option maxRecDepth 100000 in
theorem kX2_earnedUpTo (l : Launch) (D : va_G) (cyI cyZ cyL cyV cyJ : ClassId) (g lr vr py : Nat) (ga gs ora oc : Int32) (lrow vrow : Nat → Option Nat) (nl nv : Nat) (am : Int32) (pay : Nat → Int32) (nc : Nat) (lcd pia : Int32) (Y : va_W) (L : List Nat) (K : Nat → Nat) (bud fsd las bas mvi mva : Nat → Int32) (ear vln : Nat → Option Nat) (vda vam vrf vel : Nat → Int32) (vnx : Nat → Option Nat) (ch : Nat → List Nat) (hOK : gOK L K lrow vrow ear vln vnx ch) (d0 : Int32) (sz : Nat) (A : Nat → Prop) (hAe : va_A (((g, .inr (2, [.int ga, .int gs, .int ora, .int oc, .ref lr, .int (nI nl), .ref vr, .int (nI nv), .int am, .ref py, .int (nI nc), .int lcd, .int pia])) :: (lr, .inl (cyL, 12, .inr (.inr (.inr (.inr lrow))))) :: (vr, .inl (cyV, 100, .inr (.inr (.inr (.inr vrow))))) :: (py, .inl (cyI, 40, .inl pay)) :: Y : va_W) ++ va_pl L (gE K bud fsd las bas mvi mva ear vln vda vam vrf vel vnx)) sz = A) : Met l yX2_earnedUpTo wsX2_earnedUpTo ({ frames := 4, cells := 0, slots := 0, locals := 96 }) (va_Pc [.ref g, .int d0] (gPre D (gTy cyI cyZ cyL cyV cyJ) (((g, .inr (2, [.int ga, .int gs, .int ora, .int oc, .ref lr, .int (nI nl), .ref vr, .int (nI nv), .int am, .ref py, .int (nI nc), .int lcd, .int pia])) :: (lr, .inl (cyL, 12, .inr (.inr (.inr (.inr lrow))))) :: (vr, .inl (cyV, 100, .inr (.inr (.inr (.inr vrow))))) :: (py, .inl (cyI, 40, .inl pay)) :: Y : va_W) ++ va_pl L (gE K bud fsd las bas mvi mva ear vln vda vam vrf vel vnx)) sz)) (va_Qi (fun (r : Int32) (_ : Unit) => r = (gEa gs am (gEb gs ga (gSa lrow bas vel vda ch d0 0 12) (gOv ora oc (gSa lrow bas vel vda ch d0 1 12))))) (fun (_ : Unit) t => gPost D (gTy cyI cyZ cyL cyV cyJ) A (((g, .inr (2, [.int ga, .int gs, .int ora, .int oc, .ref lr, .int (nI nl), .ref vr, .int (nI nv), .int am, .ref py, .int (nI nc), .int lcd, .int pia])) :: (lr, .inl (cyL, 12, .inr (.inr (.inr (.inr lrow))))) :: (vr, .inl (cyV, 100, .inr (.inr (.inr (.inr vrow))))) :: (py, .inl (cyI, 40, .inl pay)) :: Y : va_W) ++ va_pl L (gE K bud fsd las bas mvi mva ear vln vda vam vrf vel vnx)) t) A) 0 0 A := by
  refine Met.ofW (cc := cX2_earnedUpTo) (maxL := 5) (ret := (some .int)) (by decide) rfl ?_
  intro p e s m args below meth c s₁ B hml hv
  obtain ⟨rfl, hsz, hP, hK, hD0⟩ := hv
  have hx := B.exec
  have hb := B.bytes
  have hr := B.returns
  have hts := atoms_spec (ws := wsX2_earnedUpTo) B.pre
  have hown : s.vm.findClass RX2 = some m.cls := findClass_of_methodNamed B.named
  have hlocks := B.notSynchronized
  subst hsz
  have hD := hD0.self (sz := s.heap.size)
  rw [hAe] at hD
  have hA : ∀ q : Nat, s.heap.size ≤ q → A q := fun q h => by rw [← hAe]; exact Or.inr h
  have hS : va_S A s.heap s.heap [] := va_S.rf
  have hP : va_P D vwCl (((g, .inr (2, [.int ga, .int gs, .int ora, .int oc, .ref lr, .int (nI nl), .ref vr, .int (nI nv), .int am, .ref py, .int (nI nc), .int lcd, .int pia])) :: (lr, .inl (cyL, 12, .inr (.inr (.inr (.inr lrow))))) :: (vr, .inl (cyV, 100, .inr (.inr (.inr (.inr vrow))))) :: (py, .inl (cyI, 40, .inl pay)) :: Y : va_W) ++ va_pl L (gE K bud fsd las bas mvi mva ear vln vda vam vrf vel vnx)) s.heap := hP
  have hi2 : ∀ w ∈ wsX20, w ∈ wsX2_earnedUpTo := fun _ h => List.mem_cons_of_mem _ (List.mem_append_left _ (List.mem_append_left _ (List.mem_append_right _ h)))
  have hl := lv_entry ([.ref g, .int d0]) (n := 5) (Nat.le_of_ble_eq_true rfl)
  rw [lg_entry_eq]
  generalize (lg_sl ([.ref g, .int d0]) ++ List.replicate (5 - (lg_sl ([.ref g, .int d0])).length) Slot.unset).toArray = ls at hl ⊢
  have hl : lv_has ls 5 [(0, .ref g), (1, .int d0)] := hl
  refine lv_aload_n hx hb dX2_earnedUpTo_0 rfl (lv_at hl 0 rfl) ?_
  refine lv_iload_n hx hb dX2_earnedUpTo_1 rfl (lv_at hl 1 rfl) ?_
  have hF_1 := gk_all hD hS hA
  refine va_calll (va_runV (As := [.int d0]) (rest := []) ⟨hx, hb, hml, hown, hts⟩ (kX2_earnedButForMatch l D cyI cyZ cyL cyV cyJ g lr vr py ga gs ora oc lrow vrow nl nv am pay nc lcd pia Y L K bud fsd las bas mvi mva ear vln vda vam vrf vel vnx ch hOK d0 s.heap.size _ rfl) (cwV 1 hts gX2_earnedUpTo_X2_earnedButForMatch rfl rfl rfl (by decide +kernel) ⟨(Nat.le_of_ble_eq_true rfl), (Nat.le_of_ble_eq_true rfl)⟩) (gk_preV hP hK hD (va_recv hK hP (ci := 2) (q0 := 0) rfl rfl)) rfl rfl hl.1 rfl (lv_room (Nat.le_of_ble_eq_true rfl)) dX2_earnedUpTo_2 ⟨(Nat.le_of_ble_eq_true rfl), (Nat.le_of_ble_eq_true rfl)⟩) hS (fun q _ h => hF_1 q h) hF_1 (fun r_1 u_1 t_1 H locs ht_1 hvm_1 hw_1 hB_1 hz_1 hk_1 hS => ?_)
  obtain ⟨hP, hD⟩ := gk_back hF_1 hB_1 ht_1
  subst hw_1
  refine lv_lstore_n (lv' := [(2, .long (gEb gs ga (gSa lrow bas vel vda ch d0 0 12) (gOv ora oc (gSa lrow bas vel vda ch d0 1 12)))), (0, .ref g), (1, .int d0)]) hx hb dX2_earnedUpTo_5 rfl hl (by decide) rfl (fun ls hl => ?_)
  refine lv_bipush (v := 100) hx hb dX2_earnedUpTo_6 (by decide) ?_
  refine lv_aload_n hx hb dX2_earnedUpTo_8 rfl (lv_at hl 1 rfl) ?_
  refine va_get (D := D) (ci := 2) (v := .int gs) (C := RX2) (T := TX2) (N := 13) hx hb hts hi2 hown hK hP 0 rfl rfl 1 (by decide) (hts (.fieldLink RX2 14 "GrantBook" "grantShare" "I") (List.mem_of_getElem? (i := 1) rfl)) (fun _ h9 => h9) rfl dX2_earnedUpTo_9 ?_
  refine lv_isub hx hb dX2_earnedUpTo_12 ?_
  refine lv_istore (lv' := [(4, .int (100 - gs)), (2, .long (gEb gs ga (gSa lrow bas vel vda ch d0 0 12) (gOv ora oc (gSa lrow bas vel vda ch d0 1 12)))), (0, .ref g), (1, .int d0)]) hx hb dX2_earnedUpTo_13 hl (by decide) rfl (fun ls hl => ?_)
  refine lv_iload hx hb dX2_earnedUpTo_15 (lv_at hl 0 rfl) ?_
  refine lv_if_le (tgt := 40) hx hb dX2_earnedUpTo_17 (by decide) (fun c_2 => ?_) (fun c_2 => ?_)
  · refine lv_lload_n hx hb dX2_earnedUpTo_40 rfl (lv_at hl 1 rfl) ?_
    refine lv_l2i hx hb dX2_earnedUpTo_41 rfl ?_
    refine W.widen (k := 0) (n := 0) (Nat.le_of_ble_eq_true rfl) (Nat.le_of_ble_eq_true rfl) ?_
    exact W.iret (v := (gEb gs ga (gSa lrow bas vel vda ch d0 0 12) (gOv ora oc (gSa lrow bas vel vda ch d0 1 12))).toInt32) hx hb hr (fun t ht hW => ⟨⟨(gEb gs ga (gSa lrow bas vel vda ch d0 0 12) (gOv ora oc (gSa lrow bas vel vda ch d0 1 12))).toInt32, (), rfl, (by unfold gEa; rw [if_pos c_2]), by rw [ht]; exact hP, va_K.moved hW.alike hK, hD⟩, hS.F ht⟩) hS.2.2 dX2_earnedUpTo_42
  · refine lv_lload_n hx hb dX2_earnedUpTo_20 rfl (lv_at hl 1 rfl) ?_
    refine lv_aload_n hx hb dX2_earnedUpTo_21 rfl (lv_at hl 2 rfl) ?_
    refine va_get (D := D) (ci := 2) (v := .int am) (C := RX2) (T := TX2) (N := 13) hx hb hts hi2 hown hK hP 0 rfl rfl 8 (by decide) (hts (.fieldLink RX2 42 "GrantBook" "allMatch" "I") (List.mem_of_getElem? (i := 2) rfl)) (fun _ h9 => h9) rfl dX2_earnedUpTo_22 ?_
    refine lv_i2l hx hb dX2_earnedUpTo_25 rfl ?_
    refine lv_aload_n hx hb dX2_earnedUpTo_26 rfl (lv_at hl 2 rfl) ?_
    refine va_get (D := D) (ci := 2) (v := .int gs) (C := RX2) (T := TX2) (N := 13) hx hb hts hi2 hown hK hP 0 rfl rfl 1 (by decide) (hts (.fieldLink RX2 14 "GrantBook" "grantShare" "I") (List.mem_of_getElem? (i := 1) rfl)) (fun _ h9 => h9) rfl dX2_earnedUpTo_27 ?_
    refine lv_i2l hx hb dX2_earnedUpTo_30 rfl ?_
    refine lv_lmul hx hb dX2_earnedUpTo_31 ?_
    refine lv_iload hx hb dX2_earnedUpTo_32 (lv_at hl 0 rfl) ?_
    refine lv_i2l hx hb dX2_earnedUpTo_34 rfl ?_
    refine lv_ldiv hx hb dX2_earnedUpTo_35 (gNz c_2) ?_
    refine va_mmin_long hx hb (hml.trans hl.1.symm) hown (hts (.methodLink RX2 194 Lib.MathLoose.min_long.x) (List.mem_of_getElem? (i := 3) rfl)) (hts (.static Lib.MathLoose.min_long.x) (List.mem_of_getElem? (i := 4) rfl)) (hts (.initialized "java/lang/Math") (List.mem_of_getElem? (i := 5) rfl)) (hts (.code Lib.MathLoose.min_long.x Lib.MathLoose.min_long.code 4 (some .long)) (List.mem_of_getElem? (i := 6) rfl)) (Nat.le_of_ble_eq_true rfl) (Nat.le_of_ble_eq_true rfl) (Nat.le_of_ble_eq_true rfl) (Nat.le_of_ble_eq_true rfl) dX2_earnedUpTo_36 ?_
    refine lv_lstore_n (lv' := [(2, .long (if ((am.toInt64 * gs.toInt64) / (100 - gs).toInt64) < (gEb gs ga (gSa lrow bas vel vda ch d0 0 12) (gOv ora oc (gSa lrow bas vel vda ch d0 1 12))) then ((am.toInt64 * gs.toInt64) / (100 - gs).toInt64) else (gEb gs ga (gSa lrow bas vel vda ch d0 0 12) (gOv ora oc (gSa lrow bas vel vda ch d0 1 12))))), (4, .int (100 - gs)), (0, .ref g), (1, .int d0)]) hx hb dX2_earnedUpTo_39 rfl hl (by decide) rfl (fun ls hl => ?_)
    refine lv_lload_n hx hb dX2_earnedUpTo_40 rfl (lv_at hl 0 rfl) ?_
    refine lv_l2i hx hb dX2_earnedUpTo_41 rfl ?_
    refine W.widen (k := 0) (n := 0) (Nat.le_of_ble_eq_true rfl) (Nat.le_of_ble_eq_true rfl) ?_
    exact W.iret (v := (if ((am.toInt64 * gs.toInt64) / (100 - gs).toInt64) < (gEb gs ga (gSa lrow bas vel vda ch d0 0 12) (gOv ora oc (gSa lrow bas vel vda ch d0 1 12))) then ((am.toInt64 * gs.toInt64) / (100 - gs).toInt64) else (gEb gs ga (gSa lrow bas vel vda ch d0 0 12) (gOv ora oc (gSa lrow bas vel vda ch d0 1 12)))).toInt32) hx hb hr (fun t ht hW => ⟨⟨(if ((am.toInt64 * gs.toInt64) / (100 - gs).toInt64) < (gEb gs ga (gSa lrow bas vel vda ch d0 0 12) (gOv ora oc (gSa lrow bas vel vda ch d0 1 12))) then ((am.toInt64 * gs.toInt64) / (100 - gs).toInt64) else (gEb gs ga (gSa lrow bas vel vda ch d0 0 12) (gOv ora oc (gSa lrow bas vel vda ch d0 1 12)))).toInt32, (), rfl, (by unfold gEa; rw [if_neg c_2]), by rw [ht]; exact hP, va_K.moved hW.alike hK, hD⟩, hS.F ht⟩) hS.2.2 dX2_earnedUpTo_42
set_option maxHeartbeats 4000000 in
set_option maxRecDepth 100000 in
theorem kX2_leastMatchFor (l : Launch) (D : va_G) (cyI cyZ cyL cyV cyJ : ClassId) (g lr vr py : Nat) (ga gs ora oc : Int32) (lrow vrow : Nat → Option Nat) (nl nv : Nat) (am : Int32) (pay : Nat → Int32) (nc : Nat) (lcd pia : Int32) (Y : va_W) (L : List Nat) (K : Nat → Nat) (bud fsd las bas mvi mva : Nat → Int32) (ear vln : Nat → Option Nat) (vda vam vrf vel : Nat → Int32) (vnx : Nat → Option Nat) (ch : Nat → List Nat) (hOK : gOK L K lrow vrow ear vln vnx ch) (e0 : Int64) (sz : Nat) (A : Nat → Prop) (hAe : va_A (((g, .inr (2, [.int ga, .int gs, .int ora, .int oc, .ref lr, .int (nI nl), .ref vr, .int (nI nv), .int am, .ref py, .int (nI nc), .int lcd, .int pia])) :: (lr, .inl (cyL, 12, .inr (.inr (.inr (.inr lrow))))) :: (vr, .inl (cyV, 100, .inr (.inr (.inr (.inr vrow))))) :: (py, .inl (cyI, 40, .inl pay)) :: Y : va_W) ++ va_pl L (gE K bud fsd las bas mvi mva ear vln vda vam vrf vel vnx)) sz = A) : Met l yX2_leastMatchFor wsX2_leastMatchFor ({ frames := 0, cells := 0, slots := 0, locals := 0 }) (va_Pc [.ref g, .long e0] (gPre D (gTy cyI cyZ cyL cyV cyJ) (((g, .inr (2, [.int ga, .int gs, .int ora, .int oc, .ref lr, .int (nI nl), .ref vr, .int (nI nv), .int am, .ref py, .int (nI nc), .int lcd, .int pia])) :: (lr, .inl (cyL, 12, .inr (.inr (.inr (.inr lrow))))) :: (vr, .inl (cyV, 100, .inr (.inr (.inr (.inr vrow))))) :: (py, .inl (cyI, 40, .inl pay)) :: Y : va_W) ++ va_pl L (gE K bud fsd las bas mvi mva ear vln vda vam vrf vel vnx)) sz)) (va_Ql (fun (r : Int64) (_ : Unit) => r = (gLm gs e0)) (fun (_ : Unit) t => gPost D (gTy cyI cyZ cyL cyV cyJ) A (((g, .inr (2, [.int ga, .int gs, .int ora, .int oc, .ref lr, .int (nI nl), .ref vr, .int (nI nv), .int am, .ref py, .int (nI nc), .int lcd, .int pia])) :: (lr, .inl (cyL, 12, .inr (.inr (.inr (.inr lrow))))) :: (vr, .inl (cyV, 100, .inr (.inr (.inr (.inr vrow))))) :: (py, .inl (cyI, 40, .inl pay)) :: Y : va_W) ++ va_pl L (gE K bud fsd las bas mvi mva ear vln vda vam vrf vel vnx)) t) A) 0 0 A := by
  refine Met.ofW (cc := cX2_leastMatchFor) (maxL := 4) (ret := (some .long)) (by decide) rfl ?_
  intro p e s m args below meth c s₁ B hml hv
  obtain ⟨rfl, hsz, hP, hK, hD0⟩ := hv
  have hx := B.exec
  have hb := B.bytes
  have hr := B.returns
  have hts := atoms_spec (ws := wsX2_leastMatchFor) B.pre
  have hown : s.vm.findClass RX2 = some m.cls := findClass_of_methodNamed B.named
  have hlocks := B.notSynchronized
  subst hsz
  have hD := hD0.self (sz := s.heap.size)
  rw [hAe] at hD
  have hA : ∀ q : Nat, s.heap.size ≤ q → A q := fun q h => by rw [← hAe]; exact Or.inr h
  have hS : va_S A s.heap s.heap [] := va_S.rf
  have hP : va_P D vwCl (((g, .inr (2, [.int ga, .int gs, .int ora, .int oc, .ref lr, .int (nI nl), .ref vr, .int (nI nv), .int am, .ref py, .int (nI nc), .int lcd, .int pia])) :: (lr, .inl (cyL, 12, .inr (.inr (.inr (.inr lrow))))) :: (vr, .inl (cyV, 100, .inr (.inr (.inr (.inr vrow))))) :: (py, .inl (cyI, 40, .inl pay)) :: Y : va_W) ++ va_pl L (gE K bud fsd las bas mvi mva ear vln vda vam vrf vel vnx)) s.heap := hP
  have hi2 : ∀ w ∈ wsX20, w ∈ wsX2_leastMatchFor := fun _ h => List.mem_cons_of_mem _ (List.mem_append_right _ h)
  have hl := lv_entry ([.ref g, .long e0]) (n := 4) (Nat.le_of_ble_eq_true rfl)
  rw [lg_entry_eq]
  generalize (lg_sl ([.ref g, .long e0]) ++ List.replicate (4 - (lg_sl ([.ref g, .long e0])).length) Slot.unset).toArray = ls at hl ⊢
  have hl : lv_has ls 4 [(0, .ref g), (1, .long e0)] := hl
  refine lv_bipush (v := 100) hx hb dX2_leastMatchFor_0 (by decide) ?_
  refine lv_aload_n hx hb dX2_leastMatchFor_2 rfl (lv_at hl 0 rfl) ?_
  refine va_get (D := D) (ci := 2) (v := .int gs) (C := RX2) (T := TX2) (N := 13) hx hb hts hi2 hown hK hP 0 rfl rfl 1 (by decide) (hts (.fieldLink RX2 14 "GrantBook" "grantShare" "I") (List.mem_of_getElem? (i := 1) rfl)) (fun _ h9 => h9) rfl dX2_leastMatchFor_3 ?_
  refine lv_isub hx hb dX2_leastMatchFor_6 ?_
  refine lv_istore_n (lv' := [(3, .int (100 - gs)), (0, .ref g), (1, .long e0)]) hx hb dX2_leastMatchFor_7 rfl hl (by decide) rfl (fun ls hl => ?_)
  refine lv_aload_n hx hb dX2_leastMatchFor_8 rfl (lv_at hl 1 rfl) ?_
  refine va_get (D := D) (ci := 2) (v := .int gs) (C := RX2) (T := TX2) (N := 13) hx hb hts hi2 hown hK hP 0 rfl rfl 1 (by decide) (hts (.fieldLink RX2 14 "GrantBook" "grantShare" "I") (List.mem_of_getElem? (i := 1) rfl)) (fun _ h9 => h9) rfl dX2_leastMatchFor_9 ?_
  refine lv_if_le (tgt := 36) hx hb dX2_leastMatchFor_12 (by decide) (fun c_1 => ?_) (fun c_1 => ?_)
  · refine lv_lconst (v := 0) hx hb dX2_leastMatchFor_36 (by decide) ?_
    refine W.widen (k := 0) (n := 0) (Nat.le_of_ble_eq_true rfl) (Nat.le_of_ble_eq_true rfl) ?_
    exact W.lret (v := 0) hx hb hr (fun t ht hW => ⟨⟨0, (), rfl, (by unfold gLm; rw [if_pos c_1]), by rw [ht]; exact hP, va_K.moved hW.alike hK, hD⟩, hS.F ht⟩) hS.2.2 dX2_leastMatchFor_37
  · refine lv_lload_n hx hb dX2_leastMatchFor_15 rfl (lv_at hl 2 rfl) ?_
    refine lv_iload_n hx hb dX2_leastMatchFor_16 rfl (lv_at hl 0 rfl) ?_
    refine lv_i2l hx hb dX2_leastMatchFor_17 rfl ?_
    refine lv_lmul hx hb dX2_leastMatchFor_18 ?_
    refine lv_aload_n hx hb dX2_leastMatchFor_19 rfl (lv_at hl 1 rfl) ?_
    refine va_get (D := D) (ci := 2) (v := .int gs) (C := RX2) (T := TX2) (N := 13) hx hb hts hi2 hown hK hP 0 rfl rfl 1 (by decide) (hts (.fieldLink RX2 14 "GrantBook" "grantShare" "I") (List.mem_of_getElem? (i := 1) rfl)) (fun _ h9 => h9) rfl dX2_leastMatchFor_20 ?_
    refine lv_i2l hx hb dX2_leastMatchFor_23 rfl ?_
    refine lv_ladd hx hb dX2_leastMatchFor_24 ?_
    refine lv_lconst (v := 1) hx hb dX2_leastMatchFor_25 (by decide) ?_
    refine lv_lsub hx hb dX2_leastMatchFor_26 ?_
    refine lv_aload_n hx hb dX2_leastMatchFor_27 rfl (lv_at hl 1 rfl) ?_
    refine va_get (D := D) (ci := 2) (v := .int gs) (C := RX2) (T := TX2) (N := 13) hx hb hts hi2 hown hK hP 0 rfl rfl 1 (by decide) (hts (.fieldLink RX2 14 "GrantBook" "grantShare" "I") (List.mem_of_getElem? (i := 1) rfl)) (fun _ h9 => h9) rfl dX2_leastMatchFor_28 ?_
    refine lv_i2l hx hb dX2_leastMatchFor_31 rfl ?_
    refine lv_ldiv hx hb dX2_leastMatchFor_32 (gNz c_1) ?_
    refine lv_goto (tgt := 37) hx hb dX2_leastMatchFor_33 (by decide) ?_
    refine W.widen (k := 0) (n := 0) (Nat.le_of_ble_eq_true rfl) (Nat.le_of_ble_eq_true rfl) ?_
    exact W.lret (v := ((((e0 * (100 - gs).toInt64) + gs.toInt64) - 1) / gs.toInt64)) hx hb hr (fun t ht hW => ⟨⟨((((e0 * (100 - gs).toInt64) + gs.toInt64) - 1) / gs.toInt64), (), rfl, (by unfold gLm; rw [if_neg c_1]), by rw [ht]; exact hP, va_K.moved hW.alike hK, hD⟩, hS.F ht⟩) hS.2.2 dX2_leastMatchFor_37
end
