section
-- ===== PART A: goes FIRST, ahead of the names: the tables' words, and 'selects' of the private methods out of them =====
/-- a private method of a class that the tables say can be made, by its rows of tables_1 -/
def lw_okq (q : MethodName × Nat) : Prop := (q.1.cls ≠ "java/lang/invoke/MethodHandle" ∧ q.1.cls ≠ "java/lang/invoke/VarHandle") ∧ Cond.instantiable q.1.cls q.2 ∈ tables_1 ∧ Cond.privateMethod q.1 ∈ tables_1 ∧ Cond.instanceMethod q.1 ∈ tables_1
theorem lw_p0 : lw_okq (⟨"StorageCosts$State", "copyFrom", "(LStorageCosts$State;)V"⟩, 3) := ⟨⟨by decide +kernel, by decide +kernel⟩, List.mem_of_getElem? (i := 22) (by decide +kernel), List.mem_of_getElem? (i := 55) (by decide +kernel), List.mem_of_getElem? (i := 56) (by decide +kernel)⟩
theorem lw_p1 : lw_okq (⟨"StorageCosts$State", "forgetCosts", "()V"⟩, 3) := ⟨⟨by decide +kernel, by decide +kernel⟩, List.mem_of_getElem? (i := 22) (by decide +kernel), List.mem_of_getElem? (i := 62) (by decide +kernel), List.mem_of_getElem? (i := 63) (by decide +kernel)⟩
theorem lw_p2 : lw_okq (⟨"StorageCosts$State", "filledPlaces", "()I"⟩, 3) := ⟨⟨by decide +kernel, by decide +kernel⟩, List.mem_of_getElem? (i := 22) (by decide +kernel), List.mem_of_getElem? (i := 67) (by decide +kernel), List.mem_of_getElem? (i := 68) (by decide +kernel)⟩
theorem lw_p3 : lw_okq (⟨"java/lang/Throwable", "fillInStackTrace", "(I)Ljava/lang/Throwable;"⟩, 6) := ⟨⟨by decide +kernel, by decide +kernel⟩, List.mem_of_getElem? (i := 117) (by decide +kernel), List.mem_of_getElem? (i := 115) (by decide +kernel), List.mem_of_getElem? (i := 116) (by decide +kernel)⟩
theorem lw_p4 : lw_okq (⟨"StorageCosts$State", "isMarked", "(II)Z"⟩, 3) := ⟨⟨by decide +kernel, by decide +kernel⟩, List.mem_of_getElem? (i := 22) (by decide +kernel), List.mem_of_getElem? (i := 198) (by decide +kernel), List.mem_of_getElem? (i := 199) (by decide +kernel)⟩
theorem lw_p5 : lw_okq (⟨"StorageCosts$State", "mark", "(II)V"⟩, 3) := ⟨⟨by decide +kernel, by decide +kernel⟩, List.mem_of_getElem? (i := 22) (by decide +kernel), List.mem_of_getElem? (i := 202) (by decide +kernel), List.mem_of_getElem? (i := 203) (by decide +kernel)⟩
theorem lw_p6 : lw_okq (⟨"StorageCosts$State", "markedPlaces", "()I"⟩, 3) := ⟨⟨by decide +kernel, by decide +kernel⟩, List.mem_of_getElem? (i := 22) (by decide +kernel), List.mem_of_getElem? (i := 250) (by decide +kernel), List.mem_of_getElem? (i := 251) (by decide +kernel)⟩
theorem lw_p7 : lw_okq (⟨"StorageCostsModel", "filled", "()I"⟩, 9) := ⟨⟨by decide +kernel, by decide +kernel⟩, List.mem_of_getElem? (i := 261) (by decide +kernel), List.mem_of_getElem? (i := 309) (by decide +kernel), List.mem_of_getElem? (i := 310) (by decide +kernel)⟩
theorem lw_p8 : lw_okq (⟨"StorageCostsModel", "fail", "(I)I"⟩, 9) := ⟨⟨by decide +kernel, by decide +kernel⟩, List.mem_of_getElem? (i := 261) (by decide +kernel), List.mem_of_getElem? (i := 317) (by decide +kernel), List.mem_of_getElem? (i := 318) (by decide +kernel)⟩
theorem lw_p9 : lw_okq (⟨"StorageCostsModel", "out", "(II)Z"⟩, 9) := ⟨⟨by decide +kernel, by decide +kernel⟩, List.mem_of_getElem? (i := 261) (by decide +kernel), List.mem_of_getElem? (i := 329) (by decide +kernel), List.mem_of_getElem? (i := 330) (by decide +kernel)⟩
def lw_privs_1 : List (MethodName × Nat) := [(⟨"StorageCosts$State", "copyFrom", "(LStorageCosts$State;)V"⟩, 3), (⟨"StorageCosts$State", "forgetCosts", "()V"⟩, 3), (⟨"StorageCosts$State", "filledPlaces", "()I"⟩, 3), (⟨"java/lang/Throwable", "fillInStackTrace", "(I)Ljava/lang/Throwable;"⟩, 6), (⟨"StorageCosts$State", "isMarked", "(II)Z"⟩, 3), (⟨"StorageCosts$State", "mark", "(II)V"⟩, 3), (⟨"StorageCosts$State", "markedPlaces", "()I"⟩, 3), (⟨"StorageCostsModel", "filled", "()I"⟩, 9), (⟨"StorageCostsModel", "fail", "(I)I"⟩, 9), (⟨"StorageCostsModel", "out", "(II)Z"⟩, 9)]
theorem lw_r1 : ∀ q ∈ lw_privs_1, lw_okq q := List.forall_mem_cons.mpr ⟨lw_p0, List.forall_mem_cons.mpr ⟨lw_p1, List.forall_mem_cons.mpr ⟨lw_p2, List.forall_mem_cons.mpr ⟨lw_p3, List.forall_mem_cons.mpr ⟨lw_p4, List.forall_mem_cons.mpr ⟨lw_p5, List.forall_mem_cons.mpr ⟨lw_p6, List.forall_mem_cons.mpr ⟨lw_p7, List.forall_mem_cons.mpr ⟨lw_p8, List.forall_mem_cons.mpr ⟨lw_p9, fun _ h => absurd h List.not_mem_nil⟩⟩⟩⟩⟩⟩⟩⟩⟩⟩
def lw_privs : List (MethodName × Nat) := lw_privs_1
def lw_tbl : List Cond := k2_sels lw_privs ++ tables_1
theorem lw_privs_ok : ∀ q ∈ lw_privs, lw_okq q := lw_r1
/-! ===== BEGIN words of one list among another's, by their places ===== -/
theorem goodIn_r {big : List Cond} (ws : List Cond) (ps : List Nat) (hp : ws = ps.filterMap (fun i => big[i]?)) (h : ws.all goodWord = true) : GoodIn big ws := by
  intro w hw
  have h1 := List.all_eq_true.mp h w hw
  rw [hp] at hw
  obtain ⟨i, -, hi⟩ := List.mem_filterMap.mp hw
  have hm : w ∈ big := by first | exact List.mem_of_getElem? hi | exact List.getElem?_mem hi
  exact ⟨hm, good_of_word h1⟩
theorem goodIn_app {big a b : List Cond} (ha : GoodIn big a) (hb : GoodIn big b) : GoodIn big (a ++ b) := fun w h => (List.mem_append.mp h).elim (ha w) (hb w)
theorem goodIn_ca {big a b : List Cond} {c : Cond} (ha : GoodIn big (c :: a)) (hb : GoodIn big b) : GoodIn big (c :: (a ++ b)) := fun w h => (List.mem_cons.mp h).elim (fun e => ha w (List.mem_cons.mpr (Or.inl e))) (fun h => (List.mem_append.mp h).elim (fun h => ha w (List.mem_cons.mpr (Or.inr h))) (hb w))
theorem goodIn_sub {big ws : List Cond} (hm : ∀ w ∈ ws, w ∈ big) (h : ws.all goodWord = true) : GoodIn big ws := fun w hw => ⟨hm w hw, good_of_word (List.all_eq_true.mp h w hw)⟩
/-! ===== END ===== -/

/-! ===== BEGIN exceptions that leave a method, and their catching by the caller (launches without stack traces) ===== -/
section VXA
/-! The laws vx_back, vx_callV, vx_callS, vx_callSW, vx_throw0, vx_throwS follow proofs of the library, with one case more: JvmDerived/Free/Laws.lean (Back.of_free), Shelf42/LK1.lean (callV, callS), Shelf/KitTraced.lean (throwNew0V, throwNewS). -/
/-- where a method has thrown q: the class by its name, the cell, what was written, the world -/
def vx_T (XC : String → State → State → Prop) (st : State) (q : Addr) (t : State) (mc ms : Nat) (free : Addr → Prop) : Prop :=
  ∃ (E : String) (ce : Cell) (L : List Loc), XC E st t ∧ t.heap[q]? = some ce ∧ ce.vm = .none ∧ st.vm.findClass E = some ce.cls ∧ st.WarmedH t.vm ∧ st.sameButNew ({ t with vm := st.vm } : State) L mc ms ∧ ∀ z ∈ L, free z.base
def vx_Q (Qc : Array Value → State → Outcome → State → Prop) (XC : String → State → State → Prop) (mc ms : Nat) (free : Addr → Prop) : Array Value → State → Outcome → State → Prop := fun a st o t =>
  (Qc a st o t ∧ ∃ L, FrameEnd st o t L mc ms ∧ ∀ q ∈ L, free q.base) ∨ ∃ q, o = .threw q ∧ vx_T XC st q t mc ms free
/-- a callee that returns or throws -/
def vx_Met (l : Launch) (y : MethodName) (ws : List Cond) (rm : Room) (Pc : Array Value → State → Prop) (Qc : Array Value → State → Outcome → State → Prop) (XC : String → State → State → Prop) (mc ms : Nat) (free : Addr → Prop) : Prop :=
  MetFree l y (headSpec ws rm) Pc (fun _ _ _ _ _ => True) (vx_Q Qc XC mc ms free)
def vx_Post (XC : String → State → State → Prop) (mc ms : Nat) (free : Addr → Prop) : Pt → Array Value → Addr → Pt → Prop := fun A a q B =>
  ∃ (g : JFrame) (mk : MethodId) (t : State) (L : List Loc) (E : String) (ce : Cell), B.U.heap = t.heap ∧ B.U.vm = t.vm ∧ XC E (A.U.calling g mk a) t ∧ t.heap[q]? = some ce ∧ ce.vm = .none ∧ A.U.vm.findClass E = some ce.cls ∧ B.locs = A.locs ++ L ∧ (∀ z ∈ L, free z.base) ∧ B.cells = A.cells + mc ∧ B.slots = A.slots + ms
def vx_Back (l : Launch) (R : Room) (p : Program) (e : Env) (below : List Frame) (s : State) (sargs : Array Value) (y : MethodName) (len W9 : Nat)
    (Pre : Pt → Array Value → Prop) (Post : Pt → Array Value → Option Value → Pt → Prop) (PostX : Pt → Array Value → Addr → Pt → Prop) : Prop :=
  ∀ (m : MethodId) (meth : Method) (c : Code) (A : Pt) (g : JFrame) (ig : Instr) (mk : MethodId) (a : Array Value),
    Stand p l e R s m sargs below meth c A.U A.locs A.cells A.slots → g.method = m → g.locals.size = c.maxLocals → decode c.code g.pc = .ok (ig, len) →
    2 * g.monitorRoom + (g.stack.map fun v => v.category).sum ≤ W9 → A.U.methodNamed? y = some mk → Pre A a →
    (∃ (v : Option Value) (B : Pt), Stand p l e R s m sargs below meth c B.U B.locs B.cells B.slots ∧ Post A a v B ∧
      Steps p.tables e below (doInvoke e (A.U.setTop g) [] mk a).1 (B.U.setTop { g with pc := g.pc + len, stack := v.toList ++ g.stack })) ∨
    (∃ (q : Addr) (B : Pt), Stand p l e R s m sargs below meth c B.U B.locs B.cells B.slots ∧ PostX A a q B ∧
      Steps p.tables e below (doInvoke e (A.U.setTop g) [] mk a).1 ((B.U.setTop g).pushFrame (.throwing q)))
section Payer
variable {l : Launch} {R : Room} {p : Program} {e : Env} {below : List Frame} {s : State} {sargs : Array Value} {y : MethodName} {len W9 : Nat}
theorem vx_back {ws : List Cond} {rm : Room} {Pc : Array Value → State → Prop} {Qc : Array Value → State → Outcome → State → Prop} {XC : String → State → State → Prop} {mc ms : Nat} {free : Addr → Prop} {bytes : ByteArray} {maxL : Nat} {ret : Option FieldType}
    (hM : vx_Met l y ws rm Pc Qc XC mc ms free) (hblind : FrameBlind Pc) (hrc : rm.cells = mc) (hrs : rm.slots = ms)
    (hframes : rm.frames + 1 ≤ R.frames) (hlocals : W9 + (maxL + 11) + rm.locals ≤ R.locals)
    (hws : ∀ w ∈ ws, ∀ a' U, s.WarmedH U.vm → w.before a' U = true) (hcode : Cond.code y bytes maxL ret ∈ ws) (hinit : ∀ a' U, s.WarmedH U.vm → (Cond.initialized y.cls).before a' U = true) :
    vx_Back l R p e below s sargs y len W9 (PreOf R mc ms Pc) (PostOf Qc mc ms free) (vx_Post XC mc ms free) := by
  intro m meth c A g ig mk a X hg hsize hdg hW hn hp
  have h1 : (headSpec ws rm).pre.before a A.U = true := atoms_intro fun w hw => hws w hw _ _ X.warmed
  have h2 : (Cond.code y bytes maxL ret).before a A.U = true := hws _ hcode _ _ X.warmed
  have h3 : (Cond.initialized y.cls).before a A.U = true := hinit _ _ X.warmed
  have h4 : A.cells + (headSpec ws rm).room.cells ≤ R.cells := by rw [show (headSpec ws rm).room.cells = mc from hrc]; exact hp.1
  have h5 : A.slots + (headSpec ws rm).room.slots ≤ R.slots := by rw [show (headSpec ws rm).room.slots = ms from hrs]; exact hp.2.1
  have hPc : Pc a (A.U.calling g mk a) := hblind _ _ _ _ hp.2.2
  obtain ⟨U, Ls, c0, s0⟩ := A
  dsimp only [Pt.U, Pt.locs, Pt.cells, Pt.slots] at h1 h2 h3 h4 h5 X hn hPc ⊢
  obtain ⟨methY, cY, hmY, hcY, -, hlY, -, -, -, -⟩ := Cond.code_spec hn h2
  obtain ⟨kY, hkY, -⟩ := className_of_methodNamed hn
  have hinitY : kY.init = .initialized := Cond.initialized_spec (findClass_of_methodNamed hn) hkY h3
  have h : At U g.method c below := by rw [hg]; exact X.here
  have hlocals9 : W9 + (maxL + 11) + (headSpec ws rm).room.locals ≤ R.locals := hlocals
  have happ : (headSpec ws rm).appliesLoose y e.platform (U.calling g mk a) = true :=
    Spec.appliesLoose_calling (g := g) h hdg hn hkY hinitY
      (X.room_calling (g := g) (R' := (headSpec ws rm).room) hsize hmY hcY hframes (by rw [hlY]; omega) h4 h5) h1
  obtain ⟨mid, hmid⟩ := h.above
  have hfr : (U.setTop g).frames = (.java g :: mid) ++ below := by rw [State.frames_setTop' g h.top, hmid]; rfl
  obtain ⟨o, s₂, hsteps, -, hend, hq⟩ := Steps.callFree hM p X.admits X.cas X.clock (acts := []) hfr happ hPc trivial
  have hq' : vx_Q Qc XC mc ms free a (U.calling g mk a) o s₂ := hq
  rw [State.frames_setTop' g h.top] at hend
  obtain ⟨g₀, hg0⟩ := Option.isSome_iff_exists.mp h.top
  obtain ⟨r, hr⟩ := State.topJava?_eq_some.mp hg0
  have hr' : (({ U with heap := s₂.heap, slotsUsed := s₂.slotsUsed } : State).setVm s₂.vm).frames = .java g₀ :: r := hr
  rcases hq' with ⟨hqc, L, hfe, hL⟩ | ⟨q, rfl, E, ce, L, hx, hce, hcv, hcl, hW₂, hsm, hL⟩
  · obtain ⟨⟨v, rfl⟩, hW₂, e2, q2, q3, q4, q5, q6⟩ := id hfe
    have e3 : s₂ = ({ (U.calling g mk a).setFrames s₂.frames with heap := s₂.heap, slotsUsed := s₂.slotsUsed } : State).setVm s₂.vm := by
      have : s₂ = ({ s₂ with vm := (U.calling g mk a).vm } : State).setVm s₂.vm := rfl
      rw [e2] at this
      exact this
    obtain ⟨c₂, i₂, len₂, hc₂, hd₂, hf₂⟩ := hend
    have hW' : U.WarmedH s₂.vm := hW₂
    have hcc : c₂ = c := by
      have h1 : s₂.code? g.method = U.code? g.method := by
        rw [State.code?_eq, State.code?_eq, hW'.alike.method?]
      exact Option.some.inj (hc₂.symm.trans (h1.trans h.code))
    subst hcc
    have hlen : len₂ = len := by rw [hdg] at hd₂; cases hd₂; rfl
    subst hlen
    have hs₂ : s₂ = (({ U with heap := s₂.heap, slotsUsed := s₂.slotsUsed } : State).setVm s₂.vm).setTop { g with pc := g.pc + len₂, stack := v.toList ++ g.stack } := by
      refine e3.trans ?_
      rw [hf₂, State.calling_eq h.top, State.setFrames_setFrames, State.setTop_of_frames _ hr', hr]
      rfl
    have hsame : U.sameButNew ({ U with heap := s₂.heap, slotsUsed := s₂.slotsUsed } : State) L mc ms := by
      refine ⟨?_, q2, q3, q4, q5, q6⟩
      obtain ⟨t, ht, -⟩ := State.frames_cons hr
      show ({ U with heap := s₂.heap, slotsUsed := s₂.slotsUsed } : State) = { U.setFrames U.frames with heap := s₂.heap, slotsUsed := s₂.slotsUsed }
      rw [State.setFrames_self ht]
    subst hg
    refine Or.inl ⟨v, ⟨(({ U with heap := s₂.heap, slotsUsed := s₂.slotsUsed } : State).setVm s₂.vm), Ls ++ L, c0 + mc, s0 + ms⟩,
      ⟨X.admits, X.cas, X.clock, X.frames, X.room, X.hears, X.method, X.code, (X.here.setHeapUsed s₂.heap s₂.slotsUsed).setVm hW'.alike, X.tail, State.WarmedH.trans X.warmed hW', X.limits, X.bytes, X.same.trans (hsame.setVm s.vm)⟩,
      ⟨g, mk, s₂, L, rfl, rfl, hqc, rfl, hL, rfl, rfl⟩, ?_⟩
    show Steps p.tables e below _ ((({ U with heap := s₂.heap, slotsUsed := s₂.slotsUsed } : State).setVm s₂.vm).setTop { g with pc := g.pc + len₂, stack := v.toList ++ g.stack })
    rw [← hs₂]
    exact hsteps
  · obtain ⟨e2, q2, q3, q4, q5, q6⟩ := id hsm
    have e3 : s₂ = ({ (U.calling g mk a).setFrames s₂.frames with heap := s₂.heap, slotsUsed := s₂.slotsUsed } : State).setVm s₂.vm := by
      have : s₂ = ({ s₂ with vm := (U.calling g mk a).vm } : State).setVm s₂.vm := rfl
      rw [e2] at this
      exact this
    have hf₂ : s₂.frames = .throwing q :: .java g :: U.frames.tail := hend
    have hW' : U.WarmedH s₂.vm := hW₂
    have hs₂ : s₂ = ((({ U with heap := s₂.heap, slotsUsed := s₂.slotsUsed } : State).setVm s₂.vm).setTop g).pushFrame (.throwing q) := by
      refine e3.trans ?_
      rw [hf₂, State.calling_eq h.top, State.setFrames_setFrames, State.pushFrame, State.frames_setTop _ hr', State.setTop_of_frames _ hr', State.setFrames_setFrames, hr]
      rfl
    have hsame : U.sameButNew ({ U with heap := s₂.heap, slotsUsed := s₂.slotsUsed } : State) L mc ms := by
      refine ⟨?_, q2, q3, q4, q5, q6⟩
      obtain ⟨t, ht, -⟩ := State.frames_cons hr
      show ({ U with heap := s₂.heap, slotsUsed := s₂.slotsUsed } : State) = { U.setFrames U.frames with heap := s₂.heap, slotsUsed := s₂.slotsUsed }
      rw [State.setFrames_self ht]
    subst hg
    refine Or.inr ⟨q, ⟨(({ U with heap := s₂.heap, slotsUsed := s₂.slotsUsed } : State).setVm s₂.vm), Ls ++ L, c0 + mc, s0 + ms⟩,
      ⟨X.admits, X.cas, X.clock, X.frames, X.room, X.hears, X.method, X.code, (X.here.setHeapUsed s₂.heap s₂.slotsUsed).setVm hW'.alike, X.tail, State.WarmedH.trans X.warmed hW', X.limits, X.bytes, X.same.trans (hsame.setVm s.vm)⟩,
      ⟨g, mk, s₂, L, E, ce, rfl, rfl, hx, hce, hcv, hcl, rfl, hL, rfl, rfl⟩, ?_⟩
    show Steps p.tables e below _ (((({ U with heap := s₂.heap, slotsUsed := s₂.slotsUsed } : State).setVm s₂.vm).setTop g).pushFrame (.throwing q))
    rw [← hs₂]
    exact hsteps
end Payer
section Calls
variable {p : Program} {l : Launch} {e : Env} {R : Room} {s : State} {m : MethodId} {args : Array Value} {below : List Frame} {meth : Method} {c : Code} {T : State} {locs : List Loc} {cells slots : Nat}
theorem vx_callV (X : Stand p l e R s m args below meth c T locs cells slots) (hexec : p.tables.exec = Jvm.exec) {own C : String} {index : Nat} {y : MethodName} {bytes : ByteArray} {maxL : Nat} {ret : Option FieldType}
    (hown : s.vm.findClass own = some m.cls) (hlink : (Cond.methodLink own index y).before args s = true) (hinst : (Cond.instanceMethod y).before args s = true) (hsel : (Cond.selects C y y).before args s = true)
    (hcode : (Cond.code y bytes maxL ret).before args s = true) (hy : y.cls ≠ "java/lang/invoke/MethodHandle" ∧ y.cls ≠ "java/lang/invoke/VarHandle")
    {W9 : Nat} {Pre : Pt → Array Value → Prop} {Post : Pt → Array Value → Option Value → Pt → Prop} {PostX : Pt → Array Value → Addr → Pt → Prop} (hK : vx_Back l R p e below s args y 3 W9 Pre Post PostX)
    {b : Addr} {cellB : Cell} (hcell : T.heap[b]? = some cellB) (hobj : cellB.vm.isStatics = false) (hcls : s.vm.findClass C = some cellB.cls)
    {g : JFrame} (hg : g.method = m) (hsize : g.locals.size = c.maxLocals) {argsL rest : List Value} (hlen : ∀ sig, parseMethodDescriptor y.desc = some sig → argsL.length = sig.parameters.length)
    (hstack : g.stack = argsL.reverse ++ .ref b :: rest) (hW : 2 * g.monitorRoom + (rest.map fun v => v.category).sum ≤ W9) (hdg : decode c.code g.pc = .ok (.invokevirtual index, 3))
    (hpre : ∀ vm₁, s.WarmedH vm₁ → Pre ⟨T.setVm vm₁, locs, cells, slots⟩ (Value.ref b :: argsL).toArray) :
    (∃ (v : Option Value) (vm₁ : Vm) (B : Pt), s.WarmedH vm₁ ∧ Stand p l e R s m args below meth c B.U B.locs B.cells B.slots ∧ Post ⟨T.setVm vm₁, locs, cells, slots⟩ (Value.ref b :: argsL).toArray v B ∧
      ∀ target, Steps p.tables e below (B.U.setTop { g with pc := g.pc + 3, stack := v.toList ++ rest }) target → Steps p.tables e below (T.setTop g) target) ∨
    (∃ (q : Addr) (vm₁ : Vm) (B : Pt), s.WarmedH vm₁ ∧ Stand p l e R s m args below meth c B.U B.locs B.cells B.slots ∧ PostX ⟨T.setVm vm₁, locs, cells, slots⟩ (Value.ref b :: argsL).toArray q B ∧
      Steps p.tables e below (T.setTop g) ((B.U.setTop { g with stack := rest }).pushFrame (.throwing q))) := by
  obtain ⟨mk, methM, hnamed, hmethM, hstM, habM⟩ := Cond.instanceMethod_spec hinst
  obtain ⟨methM', cM, hmethM', -, -, -, -, -, -, hsigM⟩ := Cond.code_spec hnamed hcode
  cases hmethM.symm.trans hmethM'
  obtain ⟨c2, r2, m2, q1, q2, q3, q4, kP, hkP, hkPi⟩ := Cond.selects_spec hsel
  cases hcls.symm.trans q1
  cases (State.methodFound?_of_named hnamed hy).symm.trans q2
  cases hnamed.symm.trans q3
  have hselP : selectMethod e.platform s.vm cellB.cls mk = .method mk := by rw [Launch.admits_selectMethod X.admits]; exact q4
  obtain ⟨vm₁, X₁, hstep₁⟩ := X.invokevirtual hexec hown hlink hnamed hmethM hstM hkP hkPi hy (a := b) (cell := cellB) hcell
    (fun z h => by rw [h] at hobj; cases hobj) hselP hmethM habM hkP hkPi (g := g) hg (argsL := argsL) (rest := rest) (hlen _ hsigM) hstack hdg
  rcases hK m meth c ⟨T.setVm vm₁, locs, cells, slots⟩ { g with stack := rest } (.invokevirtual index) mk (Value.ref b :: argsL).toArray X₁ hg hsize hdg hW (X₁.named hnamed) (hpre vm₁ X₁.warmed) with ⟨v, B, X', hpost, hsteps⟩ | ⟨q, B, X', hpost, hsteps⟩
  · exact Or.inl ⟨v, vm₁, B, X₁.warmed, X', hpost, fun target h => hstep₁ _ fun acts => by rw [doInvoke_state]; exact hsteps.trans h⟩
  · exact Or.inr ⟨q, vm₁, B, X₁.warmed, X', hpost, hstep₁ _ fun acts => by rw [doInvoke_state]; exact hsteps⟩
theorem vx_callS (X : Stand p l e R s m args below meth c T locs cells slots) (hexec : p.tables.exec = Jvm.exec) {own : String} {index : Nat} {y : MethodName} {bytes : ByteArray} {maxL : Nat} {ret : Option FieldType}
    (hown : s.vm.findClass own = some m.cls) (hlink : (Cond.methodLink own index y).before args s = true) (hstat : (Cond.static y).before args s = true) (hinit : (Cond.initialized y.cls).before args s = true)
    (hcode : (Cond.code y bytes maxL ret).before args s = true) (hy : y.cls ≠ "java/lang/invoke/MethodHandle" ∧ y.cls ≠ "java/lang/invoke/VarHandle")
    {W9 : Nat} {Pre : Pt → Array Value → Prop} {Post : Pt → Array Value → Option Value → Pt → Prop} {PostX : Pt → Array Value → Addr → Pt → Prop} (hK : vx_Back l R p e below s args y 3 W9 Pre Post PostX)
    {g : JFrame} (hg : g.method = m) (hsize : g.locals.size = c.maxLocals) {argsL rest : List Value} (hlen : ∀ sig, parseMethodDescriptor y.desc = some sig → argsL.length = sig.parameters.length)
    (hstack : g.stack = argsL.reverse ++ rest) (hW : 2 * g.monitorRoom + (rest.map fun v => v.category).sum ≤ W9) (hdg : decode c.code g.pc = .ok (.invokestatic index, 3))
    (hpre : ∀ vm₁, s.WarmedH vm₁ → Pre ⟨T.setVm vm₁, locs, cells, slots⟩ argsL.toArray) :
    (∃ (v : Option Value) (vm₁ : Vm) (B : Pt), s.WarmedH vm₁ ∧ Stand p l e R s m args below meth c B.U B.locs B.cells B.slots ∧ Post ⟨T.setVm vm₁, locs, cells, slots⟩ argsL.toArray v B ∧
      ∀ target, Steps p.tables e below (B.U.setTop { g with pc := g.pc + 3, stack := v.toList ++ rest }) target → Steps p.tables e below (T.setTop g) target) ∨
    (∃ (q : Addr) (vm₁ : Vm) (B : Pt), s.WarmedH vm₁ ∧ Stand p l e R s m args below meth c B.U B.locs B.cells B.slots ∧ PostX ⟨T.setVm vm₁, locs, cells, slots⟩ argsL.toArray q B ∧
      Steps p.tables e below (T.setTop g) ((B.U.setTop { g with stack := rest }).pushFrame (.throwing q))) := by
  obtain ⟨mk, hnamed⟩ := Cond.code_named hcode
  obtain ⟨methM, cM, hmethM, -, -, -, -, -, -, hsigM⟩ := Cond.code_spec hnamed hcode
  have hstatic : methM.isStatic = true := Cond.static_spec hnamed hmethM hstat
  obtain ⟨kP, hkP, -⟩ := className_of_methodNamed hnamed
  have hinitP : kP.init = .initialized := Cond.initialized_spec (findClass_of_methodNamed hnamed) hkP hinit
  obtain ⟨vm₁, X₁, hstep₁⟩ := X.invokestatic hexec hown hlink hnamed hmethM hstatic hkP hinitP hy (g := g) hg (argsL := argsL) (rest := rest) (hlen _ hsigM) hstack hdg
  rcases hK m meth c ⟨T.setVm vm₁, locs, cells, slots⟩ { g with stack := rest } (.invokestatic index) mk argsL.toArray X₁ hg hsize hdg hW (X₁.named hnamed) (hpre vm₁ X₁.warmed) with ⟨v, B, X', hpost, hsteps⟩ | ⟨q, B, X', hpost, hsteps⟩
  · exact Or.inl ⟨v, vm₁, B, X₁.warmed, X', hpost, fun target h => hstep₁ _ fun acts => by rw [doInvoke_state]; exact hsteps.trans h⟩
  · exact Or.inr ⟨q, vm₁, B, X₁.warmed, X', hpost, hstep₁ _ fun acts => by rw [doInvoke_state]; exact hsteps⟩
end Calls
theorem vx_cls {s : State} {T : State} {vm₁ : Vm} {E : String} {k : ClassId} (hW : s.WarmedH vm₁) (h : (T.setVm vm₁).vm.findClass E = some k) : s.vm.findClass E = some k := by
  have h1 : vm₁.findClass E = some k := h
  rw [hW.alike.findClass] at h1
  exact h1
/-- the method's frame g, with q thrown over it -/
def vx_W (p : Program) (l : Launch) (e : Env) (R : Room) (s : State) (m : MethodId) (args : Array Value) (below : List Frame) (meth : Method) (c : Code) (H : Heap) (locs : List Loc) (cells slots : Nat) (Q : State → Prop) (g : JFrame) (q : Addr) : Prop :=
  ∀ T : State, T.heap = H → Stand p l e R s m args below meth c T locs cells slots → ∃ t, Steps p.tables e below ((T.setTop g).pushFrame (.throwing q)) t ∧ Q t
def vx_Run (p : Program) (l : Launch) (e : Env) (R : Room) (s : State) (m : MethodId) (args : Array Value) (below : List Frame) (meth : Method) (c : Code) (H : Heap) (locs : List Loc) (cells slots mc ms : Nat) (g : JFrame) (rest : List Value) (Qa : State → Outcome → State → Prop) (XC : String → State → State → Prop) (free : Addr → Prop) : Prop :=
  ∀ T : State, T.heap = H → Stand p l e R s m args below meth c T locs cells slots →
    (∃ (v : Option Value) (st₀ t T' : State) (L : List Loc), st₀.heap = H ∧ Stand p l e R s m args below meth c T' (locs ++ L) (cells + mc) (slots + ms) ∧ (∀ q ∈ L, free q.base) ∧ T'.heap = t.heap ∧ T'.vm = t.vm ∧ Qa st₀ (.returned v) t ∧
      Goes p e below T g T' { g with pc := g.pc + 3, stack := v.toList ++ rest }) ∨
    (∃ (q : Addr) (st₀ t T' : State) (L : List Loc) (E : String) (ce : Cell), st₀.heap = H ∧ Stand p l e R s m args below meth c T' (locs ++ L) (cells + mc) (slots + ms) ∧ (∀ z ∈ L, free z.base) ∧ T'.heap = t.heap ∧ T'.vm = t.vm ∧ XC E st₀ t ∧ t.heap[q]? = some ce ∧ ce.vm = .none ∧ s.vm.findClass E = some ce.cls ∧
      Steps p.tables e below (T.setTop g) ((T'.setTop { g with stack := rest }).pushFrame (.throwing q)))
def vx_X {S : Type} (px : S → Prop) (B : String → S → State → Prop) (A : Nat → Prop) : String → State → State → Prop := fun E st t => ∃ u : S, px u ∧ B E u t ∧ va_F A st t
section Runs
variable {p : Program} {l : Launch} {e : Env} {R : Room} {s : State} {m : MethodId} {args : Array Value} {below : List Frame} {meth : Method} {c : Code} {H : Heap} {locs : List Loc} {cells slots : Nat}
variable {y : MethodName} {bytes cc : ByteArray} {maxL nL mc ms n index : Nat} {ret : Option FieldType} {ws : List Cond} {rm : Room} {Pc : Array Value → State → Prop} {Qc : Array Value → State → Outcome → State → Prop} {XC : String → State → State → Prop} {free : Addr → Prop} {Ts : List Cond} {own C : String} {b : Addr} {As rest : List Value} {g : JFrame}
theorem vx_callBack (cb : CallB R s args own index y bytes maxL ret ws rm mc ms n) (hM : vx_Met l y ws rm Pc Qc XC mc ms free) (hbl : FrameBlind Pc) : vx_Back l R p e below s args y 3 8 (PreOf R mc ms Pc) (PostOf Qc mc ms free) (vx_Post XC mc ms free) := by
  obtain ⟨hrc, hrs, hfr, hlo, hws, hcw, -, hini, -⟩ := cb
  exact vx_back (bytes := bytes) (maxL := maxL) (ret := ret) hM hbl hrc hrs hfr hlo hws hcw (fun a' U hW => word_at hW (Or.inl (by first | rfl | simp [Cond.onTables, Cond.keeps, Cond.steady])) hini)
theorem vx_runV (S : CallFix p m c cc nL s args Ts own) (hM : vx_Met l y ws rm Pc Qc XC mc ms free) (cw : CallW R s args own C index y bytes maxL ret ws rm mc ms n) (hp : PreV s H C b Pc As)
    (hg : g.method = m) (hn : As.length = n) (hsize : g.locals.size = nL) (hstack : g.stack = As.reverse ++ .ref b :: rest) (hW : 2 * g.monitorRoom + (rest.map fun v => v.category).sum ≤ 8) (hdg : decode cc g.pc = .ok (.invokevirtual index, 3)) (hf : cells + mc ≤ R.cells ∧ slots + ms ≤ R.slots) :
    vx_Run p l e R s m args below meth c H locs cells slots mc ms g rest (Qc (Value.ref b :: As).toArray) XC free := by
  have hK : vx_Back l R p e below s args y 3 8 (PreOf R mc ms Pc) (PostOf Qc mc ms free) (vx_Post XC mc ms free) := vx_callBack cw.1 hM hp.1
  obtain ⟨⟨-, -, -, -, -, -, hcode, -, hy, hlen, hl⟩, hin, hse⟩ := cw
  obtain ⟨hx, hb, hml, ho, -⟩ := S
  obtain ⟨-, ⟨cellB, hcB, hoB, hclB⟩, hPc⟩ := hp
  intro T hT X
  rcases vx_callV X hx (C := C) (bytes := bytes) (maxL := maxL) (ret := ret) ho hl hin hse hcode hy hK (by rw [hT]; exact hcB) hoB hclB hg (hsize.trans hml.symm) (argsL := As) (rest := rest) (fun sig h => hn.trans (hlen sig h)) hstack hW (by rw [hb]; exact hdg)
    (fun vm₁ hW₁ => ⟨hf.1, hf.2, hPc (T.setVm vm₁) hT hW₁⟩) with ⟨v, vm₁, ⟨U', l2, c2, s2⟩, hW₁, X', ⟨g', mk, t, L, e1, e2, hq, h1, hL, h2, h3⟩, st⟩ | ⟨q, vm₁, ⟨U', l2, c2, s2⟩, hW₁, X', ⟨g', mk, t, L, E, ce, e1, e2, hq, hce, hcv, hcl, h1, hL, h2, h3⟩, st⟩
  · dsimp only [Pt.U, Pt.locs, Pt.cells, Pt.slots] at X' e1 e2 h1 h2 h3 st
    subst h1; subst h2; subst h3
    exact Or.inl ⟨v, (T.setVm vm₁).calling g' mk (Value.ref b :: As).toArray, t, U', L, hT, X', hL, e1, e2, hq, st⟩
  · dsimp only [Pt.U, Pt.locs, Pt.cells, Pt.slots] at X' e1 e2 h1 h2 h3 st hcl
    subst h1; subst h2; subst h3
    exact Or.inr ⟨q, (T.setVm vm₁).calling g' mk (Value.ref b :: As).toArray, t, U', L, E, ce, hT, X', hL, e1, e2, hq, hce, hcv, vx_cls hW₁ hcl, st⟩
theorem vx_runS (S : CallFix p m c cc nL s args Ts own) (hM : vx_Met l y ws rm Pc Qc XC mc ms free) (cw : CallB R s args own index y bytes maxL ret ws rm mc ms n ∧ (Cond.static y).before args s = true) (hp : PreS s H Pc As)
    (hg : g.method = m) (hn : As.length = n) (hsize : g.locals.size = nL) (hstack : g.stack = As.reverse ++ rest) (hW : 2 * g.monitorRoom + (rest.map fun v => v.category).sum ≤ 8) (hdg : decode cc g.pc = .ok (.invokestatic index, 3)) (hf : cells + mc ≤ R.cells ∧ slots + ms ≤ R.slots) :
    vx_Run p l e R s m args below meth c H locs cells slots mc ms g rest (Qc As.toArray) XC free := by
  have hK : vx_Back l R p e below s args y 3 8 (PreOf R mc ms Pc) (PostOf Qc mc ms free) (vx_Post XC mc ms free) := vx_callBack cw.1 hM hp.1
  obtain ⟨⟨-, -, -, -, -, -, hcode, hini, hy, hlen, hl⟩, hstt⟩ := cw
  obtain ⟨hx, hb, hml, ho, -⟩ := S
  intro T hT X
  rcases vx_callS X hx (bytes := bytes) (maxL := maxL) (ret := ret) ho hl hstt hini hcode hy hK hg (hsize.trans hml.symm) (argsL := As) (rest := rest) (fun sig h => hn.trans (hlen sig h)) hstack hW (by rw [hb]; exact hdg)
    (fun vm₁ hW₁ => ⟨hf.1, hf.2, hp.2 (T.setVm vm₁) hT hW₁⟩) with ⟨v, vm₁, ⟨U', l2, c2, s2⟩, hW₁, X', ⟨g', mk, t, L, e1, e2, hq, h1, hL, h2, h3⟩, st⟩ | ⟨q, vm₁, ⟨U', l2, c2, s2⟩, hW₁, X', ⟨g', mk, t, L, E, ce, e1, e2, hq, hce, hcv, hcl, h1, hL, h2, h3⟩, st⟩
  · dsimp only [Pt.U, Pt.locs, Pt.cells, Pt.slots] at X' e1 e2 h1 h2 h3 st
    subst h1; subst h2; subst h3
    exact Or.inl ⟨v, (T.setVm vm₁).calling g' mk As.toArray, t, U', L, hT, X', hL, e1, e2, hq, st⟩
  · dsimp only [Pt.U, Pt.locs, Pt.cells, Pt.slots] at X' e1 e2 h1 h2 h3 st hcl
    subst h1; subst h2; subst h3
    exact Or.inr ⟨q, (T.setVm vm₁).calling g' mk As.toArray, t, U', L, E, ce, hT, X', hL, e1, e2, hq, hce, hcv, vx_cls hW₁ hcl, st⟩
end Runs
section Rows
variable {p : Program} {l : Launch} {e : Env} {R : Room} {s : State} {m : MethodId} {args : Array Value} {below : List Frame} {meth : Method} {c : Code} {H : Heap} {locs : List Loc} {cells slots : Nat} {Q : State → Prop}
variable {mc ms : Nat} {free : Addr → Prop} {A0 A1 : Nat → Prop} {H0 : Heap} {a : Array Value} {pc : Nat} {ls : Array Slot} {st0 rest : List Value}
theorem vx_keep {st₀ t T' : State} {L : List Loc} (h0 : st₀.heap = H) (e1 : T'.heap = t.heap) (hS : va_S A0 H0 H locs) (hA : ∀ q, q < H.size → A1 q → A0 q) (hf : ∀ q, free q → A0 q) (hL : ∀ q ∈ L, free q.base) (hF : va_F A1 st₀ t) :
    H.size ≤ T'.heap.size ∧ (∀ q : Nat, q < H.size → ¬ A1 q → T'.heap[q]? = H[q]?) ∧ va_S A0 H0 T'.heap (locs ++ L) := by
  obtain ⟨hz, hk⟩ := hF
  rw [h0] at hz hk
  exact ⟨by rw [e1]; exact hz, fun q h1 h2 => by rw [e1]; exact hk q h1 h2,
    ⟨Nat.le_trans hS.1 (by rw [e1]; exact hz), fun q h1 h2 => by rw [e1, hk q (Nat.lt_of_lt_of_le h1 hS.1) (fun z => h2 (hA q (Nat.lt_of_lt_of_le h1 hS.1) z))]; exact hS.2.1 q h1 h2, fun q hq => by
      rcases List.mem_append.mp hq with h | h
      · exact hS.2.2 q h
      · exact hf _ (hL q h)⟩⟩
theorem vx_calli {S SX : Type} {post : Int32 → S → Prop} {px : SX → Prop} {B : S → State → Prop} {BX : String → SX → State → Prop} {AX : Nat → Prop} (hr : vx_Run p l e R s m args below meth c H locs cells slots mc ms (F0 m pc ls st0) rest (va_Qi post B A1 a) (vx_X px BX AX) free) (hS : va_S A0 H0 H locs) (hA : ∀ q, q < H.size → A1 q → A0 q) (hf : ∀ q, free q → A0 q) (hAX : ∀ q, q < H.size → AX q → A0 q)
    (kx : ∀ (E : String) (ce : Cell) (q9 : Addr) (u : SX) (t : State) (H1 : Heap) (locs1 : List Loc), t.heap = H1 → s.vm.Alike t.vm → px u → BX E u t → H.size ≤ H1.size → (∀ q : Nat, q < H.size → ¬ AX q → H1[q]? = H[q]?) → va_S A0 H0 H1 locs1 → H1[q9]? = some ce → ce.vm = .none → s.vm.findClass E = some ce.cls → vx_W p l e R s m args below meth c H1 locs1 (cells + mc) (slots + ms) Q (F0 m pc ls rest) q9)
    (kk : ∀ (r : Int32) (u : S) (t : State) (H1 : Heap) (locs1 : List Loc), t.heap = H1 → s.vm.Alike t.vm → post r u → B u t → H.size ≤ H1.size → (∀ q : Nat, q < H.size → ¬ A1 q → H1[q]? = H[q]?) → va_S A0 H0 H1 locs1 → W p l e R s m args below meth c H1 locs1 (cells + mc) (slots + ms) Q (F0 m (pc + 3) ls (.int r :: rest))) : W p l e R s m args below meth c H locs cells slots Q (F0 m pc ls st0) := by
  intro T hT X
  rcases hr T hT X with ⟨v, st₀, t, T', L, h0, X', hL, e1, e2, ⟨⟨r, u, hv, hp, hb⟩, hF⟩, st⟩ | ⟨q, st₀, t, T', L, E, ce, h0, X', hL, e1, e2, ⟨u, hp, hb, hF⟩, hce, hcv, hcl, st⟩
  · cases hv
    obtain ⟨k1, k2, k3⟩ := vx_keep h0 e1 hS hA hf hL hF
    obtain ⟨t2, a1, b1⟩ := kk r u t T'.heap (locs ++ L) e1.symm (by rw [← e2]; exact X'.warmed.alike) hp hb k1 k2 k3 T' rfl X'
    exact ⟨t2, st t2 a1, b1⟩
  · obtain ⟨k1, k2, k3⟩ := vx_keep h0 e1 hS hAX hf hL hF
    obtain ⟨t2, a1, b1⟩ := kx E ce q u t T'.heap (locs ++ L) e1.symm (by rw [← e2]; exact X'.warmed.alike) hp hb k1 k2 k3 (by rw [e1]; exact hce) hcv hcl T' rfl X'
    exact ⟨t2, st.trans a1, b1⟩
theorem vx_calll {S SX : Type} {post : Int64 → S → Prop} {px : SX → Prop} {B : S → State → Prop} {BX : String → SX → State → Prop} {AX : Nat → Prop} (hr : vx_Run p l e R s m args below meth c H locs cells slots mc ms (F0 m pc ls st0) rest (va_Ql post B A1 a) (vx_X px BX AX) free) (hS : va_S A0 H0 H locs) (hA : ∀ q, q < H.size → A1 q → A0 q) (hf : ∀ q, free q → A0 q) (hAX : ∀ q, q < H.size → AX q → A0 q)
    (kx : ∀ (E : String) (ce : Cell) (q9 : Addr) (u : SX) (t : State) (H1 : Heap) (locs1 : List Loc), t.heap = H1 → s.vm.Alike t.vm → px u → BX E u t → H.size ≤ H1.size → (∀ q : Nat, q < H.size → ¬ AX q → H1[q]? = H[q]?) → va_S A0 H0 H1 locs1 → H1[q9]? = some ce → ce.vm = .none → s.vm.findClass E = some ce.cls → vx_W p l e R s m args below meth c H1 locs1 (cells + mc) (slots + ms) Q (F0 m pc ls rest) q9)
    (kk : ∀ (r : Int64) (u : S) (t : State) (H1 : Heap) (locs1 : List Loc), t.heap = H1 → s.vm.Alike t.vm → post r u → B u t → H.size ≤ H1.size → (∀ q : Nat, q < H.size → ¬ A1 q → H1[q]? = H[q]?) → va_S A0 H0 H1 locs1 → W p l e R s m args below meth c H1 locs1 (cells + mc) (slots + ms) Q (F0 m (pc + 3) ls (.long r :: rest))) : W p l e R s m args below meth c H locs cells slots Q (F0 m pc ls st0) := by
  intro T hT X
  rcases hr T hT X with ⟨v, st₀, t, T', L, h0, X', hL, e1, e2, ⟨⟨r, u, hv, hp, hb⟩, hF⟩, st⟩ | ⟨q, st₀, t, T', L, E, ce, h0, X', hL, e1, e2, ⟨u, hp, hb, hF⟩, hce, hcv, hcl, st⟩
  · cases hv
    obtain ⟨k1, k2, k3⟩ := vx_keep h0 e1 hS hA hf hL hF
    obtain ⟨t2, a1, b1⟩ := kk r u t T'.heap (locs ++ L) e1.symm (by rw [← e2]; exact X'.warmed.alike) hp hb k1 k2 k3 T' rfl X'
    exact ⟨t2, st t2 a1, b1⟩
  · obtain ⟨k1, k2, k3⟩ := vx_keep h0 e1 hS hAX hf hL hF
    obtain ⟨t2, a1, b1⟩ := kx E ce q u t T'.heap (locs ++ L) e1.symm (by rw [← e2]; exact X'.warmed.alike) hp hb k1 k2 k3 (by rw [e1]; exact hce) hcv hcl T' rfl X'
    exact ⟨t2, st.trans a1, b1⟩
theorem vx_callf {S SX : Type} {post : UInt32 → S → Prop} {px : SX → Prop} {B : S → State → Prop} {BX : String → SX → State → Prop} {AX : Nat → Prop} (hr : vx_Run p l e R s m args below meth c H locs cells slots mc ms (F0 m pc ls st0) rest (va_Qf post B A1 a) (vx_X px BX AX) free) (hS : va_S A0 H0 H locs) (hA : ∀ q, q < H.size → A1 q → A0 q) (hf : ∀ q, free q → A0 q) (hAX : ∀ q, q < H.size → AX q → A0 q)
    (kx : ∀ (E : String) (ce : Cell) (q9 : Addr) (u : SX) (t : State) (H1 : Heap) (locs1 : List Loc), t.heap = H1 → s.vm.Alike t.vm → px u → BX E u t → H.size ≤ H1.size → (∀ q : Nat, q < H.size → ¬ AX q → H1[q]? = H[q]?) → va_S A0 H0 H1 locs1 → H1[q9]? = some ce → ce.vm = .none → s.vm.findClass E = some ce.cls → vx_W p l e R s m args below meth c H1 locs1 (cells + mc) (slots + ms) Q (F0 m pc ls rest) q9)
    (kk : ∀ (r : UInt32) (u : S) (t : State) (H1 : Heap) (locs1 : List Loc), t.heap = H1 → s.vm.Alike t.vm → post r u → B u t → H.size ≤ H1.size → (∀ q : Nat, q < H.size → ¬ A1 q → H1[q]? = H[q]?) → va_S A0 H0 H1 locs1 → W p l e R s m args below meth c H1 locs1 (cells + mc) (slots + ms) Q (F0 m (pc + 3) ls (.float r :: rest))) : W p l e R s m args below meth c H locs cells slots Q (F0 m pc ls st0) := by
  intro T hT X
  rcases hr T hT X with ⟨v, st₀, t, T', L, h0, X', hL, e1, e2, ⟨⟨r, u, hv, hp, hb⟩, hF⟩, st⟩ | ⟨q, st₀, t, T', L, E, ce, h0, X', hL, e1, e2, ⟨u, hp, hb, hF⟩, hce, hcv, hcl, st⟩
  · cases hv
    obtain ⟨k1, k2, k3⟩ := vx_keep h0 e1 hS hA hf hL hF
    obtain ⟨t2, a1, b1⟩ := kk r u t T'.heap (locs ++ L) e1.symm (by rw [← e2]; exact X'.warmed.alike) hp hb k1 k2 k3 T' rfl X'
    exact ⟨t2, st t2 a1, b1⟩
  · obtain ⟨k1, k2, k3⟩ := vx_keep h0 e1 hS hAX hf hL hF
    obtain ⟨t2, a1, b1⟩ := kx E ce q u t T'.heap (locs ++ L) e1.symm (by rw [← e2]; exact X'.warmed.alike) hp hb k1 k2 k3 (by rw [e1]; exact hce) hcv hcl T' rfl X'
    exact ⟨t2, st.trans a1, b1⟩
theorem vx_calld {S SX : Type} {post : UInt64 → S → Prop} {px : SX → Prop} {B : S → State → Prop} {BX : String → SX → State → Prop} {AX : Nat → Prop} (hr : vx_Run p l e R s m args below meth c H locs cells slots mc ms (F0 m pc ls st0) rest (va_Qd post B A1 a) (vx_X px BX AX) free) (hS : va_S A0 H0 H locs) (hA : ∀ q, q < H.size → A1 q → A0 q) (hf : ∀ q, free q → A0 q) (hAX : ∀ q, q < H.size → AX q → A0 q)
    (kx : ∀ (E : String) (ce : Cell) (q9 : Addr) (u : SX) (t : State) (H1 : Heap) (locs1 : List Loc), t.heap = H1 → s.vm.Alike t.vm → px u → BX E u t → H.size ≤ H1.size → (∀ q : Nat, q < H.size → ¬ AX q → H1[q]? = H[q]?) → va_S A0 H0 H1 locs1 → H1[q9]? = some ce → ce.vm = .none → s.vm.findClass E = some ce.cls → vx_W p l e R s m args below meth c H1 locs1 (cells + mc) (slots + ms) Q (F0 m pc ls rest) q9)
    (kk : ∀ (r : UInt64) (u : S) (t : State) (H1 : Heap) (locs1 : List Loc), t.heap = H1 → s.vm.Alike t.vm → post r u → B u t → H.size ≤ H1.size → (∀ q : Nat, q < H.size → ¬ A1 q → H1[q]? = H[q]?) → va_S A0 H0 H1 locs1 → W p l e R s m args below meth c H1 locs1 (cells + mc) (slots + ms) Q (F0 m (pc + 3) ls (.double r :: rest))) : W p l e R s m args below meth c H locs cells slots Q (F0 m pc ls st0) := by
  intro T hT X
  rcases hr T hT X with ⟨v, st₀, t, T', L, h0, X', hL, e1, e2, ⟨⟨r, u, hv, hp, hb⟩, hF⟩, st⟩ | ⟨q, st₀, t, T', L, E, ce, h0, X', hL, e1, e2, ⟨u, hp, hb, hF⟩, hce, hcv, hcl, st⟩
  · cases hv
    obtain ⟨k1, k2, k3⟩ := vx_keep h0 e1 hS hA hf hL hF
    obtain ⟨t2, a1, b1⟩ := kk r u t T'.heap (locs ++ L) e1.symm (by rw [← e2]; exact X'.warmed.alike) hp hb k1 k2 k3 T' rfl X'
    exact ⟨t2, st t2 a1, b1⟩
  · obtain ⟨k1, k2, k3⟩ := vx_keep h0 e1 hS hAX hf hL hF
    obtain ⟨t2, a1, b1⟩ := kx E ce q u t T'.heap (locs ++ L) e1.symm (by rw [← e2]; exact X'.warmed.alike) hp hb k1 k2 k3 (by rw [e1]; exact hce) hcv hcl T' rfl X'
    exact ⟨t2, st.trans a1, b1⟩
theorem vx_callv {S SX : Type} {post : S → Prop} {px : SX → Prop} {B : S → State → Prop} {BX : String → SX → State → Prop} {AX : Nat → Prop} (hr : vx_Run p l e R s m args below meth c H locs cells slots mc ms (F0 m pc ls st0) rest (va_Qv post B A1 a) (vx_X px BX AX) free) (hS : va_S A0 H0 H locs) (hA : ∀ q, q < H.size → A1 q → A0 q) (hf : ∀ q, free q → A0 q) (hAX : ∀ q, q < H.size → AX q → A0 q)
    (kx : ∀ (E : String) (ce : Cell) (q9 : Addr) (u : SX) (t : State) (H1 : Heap) (locs1 : List Loc), t.heap = H1 → s.vm.Alike t.vm → px u → BX E u t → H.size ≤ H1.size → (∀ q : Nat, q < H.size → ¬ AX q → H1[q]? = H[q]?) → va_S A0 H0 H1 locs1 → H1[q9]? = some ce → ce.vm = .none → s.vm.findClass E = some ce.cls → vx_W p l e R s m args below meth c H1 locs1 (cells + mc) (slots + ms) Q (F0 m pc ls rest) q9)
    (kk : ∀ (u : S) (t : State) (H1 : Heap) (locs1 : List Loc), t.heap = H1 → s.vm.Alike t.vm → post u → B u t → H.size ≤ H1.size → (∀ q : Nat, q < H.size → ¬ A1 q → H1[q]? = H[q]?) → va_S A0 H0 H1 locs1 → W p l e R s m args below meth c H1 locs1 (cells + mc) (slots + ms) Q (F0 m (pc + 3) ls (rest))) : W p l e R s m args below meth c H locs cells slots Q (F0 m pc ls st0) := by
  intro T hT X
  rcases hr T hT X with ⟨v, st₀, t, T', L, h0, X', hL, e1, e2, ⟨⟨u, hv, hp, hb⟩, hF⟩, st⟩ | ⟨q, st₀, t, T', L, E, ce, h0, X', hL, e1, e2, ⟨u, hp, hb, hF⟩, hce, hcv, hcl, st⟩
  · cases hv
    obtain ⟨k1, k2, k3⟩ := vx_keep h0 e1 hS hA hf hL hF
    obtain ⟨t2, a1, b1⟩ := kk u t T'.heap (locs ++ L) e1.symm (by rw [← e2]; exact X'.warmed.alike) hp hb k1 k2 k3 T' rfl X'
    exact ⟨t2, st t2 a1, b1⟩
  · obtain ⟨k1, k2, k3⟩ := vx_keep h0 e1 hS hAX hf hL hF
    obtain ⟨t2, a1, b1⟩ := kx E ce q u t T'.heap (locs ++ L) e1.symm (by rw [← e2]; exact X'.warmed.alike) hp hb k1 k2 k3 (by rw [e1]; exact hce) hcv hcl T' rfl X'
    exact ⟨t2, st.trans a1, b1⟩
/-- one row of a table that covers the place and names a linked type: it takes the thrown thing or lets it pass, and the link is noted -/
theorem ct_row {Q9 : Handler → Pre} {E : CtlPost} {e : Env} {d : Bool} {acts : List Action} {S : State} {f : JFrame} {a : Addr} {x : ExceptionTableEntry} {t : List ExceptionTableEntry} {k : ClassId} {cell : Cell} (hx : covers x f.pc = true) (h0 : x.catchType ≠ 0)
    (hl : S.vm.ClassLinks e.platform f.method.cls x.catchType k) (hcell : S.heap[a]? = some cell) (hobj : ∀ z, cell.vm ≠ .statics z) (hk : ∃ z, S.vm.classes[cell.cls]? = some z) (hc : ∃ z, S.vm.classes[k]? = some z) :
    (S.vm.assignable cell.cls k = true → (wp (findHandler.go f a (x :: t)) Q9 E e d acts S ↔ Q9 (.found x.handlerPc) d acts (S.setVm (S.vm.noted f.method.cls x.catchType (.cls k))))) ∧
    (S.vm.assignable cell.cls k = false → (wp (findHandler.go f a (x :: t)) Q9 E e d acts S ↔ wp (findHandler.go f a t) Q9 E e d acts (S.setVm (S.vm.noted f.method.cls x.catchType (.cls k))))) := by
  simp only [covers] at hx
  obtain ⟨ha, ht⟩ := (resolveClass_links e.toSetting hl).op (op := VmOp.resolveClass f.method.cls x.catchType) rfl
  have hal : S.vm.Alike (S.vm.noted f.method.cls x.catchType (.cls k)) := (Vm.Alike.refl S.vm).noted _ _ _
  obtain ⟨z1, hz1⟩ := hk
  obtain ⟨z2, hz2⟩ := hc
  obtain ⟨z1', hz1', -⟩ := hal.2.2 _ _ hz1
  obtain ⟨z2', hz2', -⟩ := hal.2.2 _ _ hz2
  have hsame : (S.vm.noted f.method.cls x.catchType (.cls k)).assignable cell.cls k = S.vm.assignable cell.cls k := hal.assignable ..
  refine ⟨fun hq => ?_, fun hq => ?_⟩
  · rw [hq] at hsame
    simp [findHandler.go, hx, h0, ha, ht, hcell, hobj, hz1', hz2', hsame, VmOp.dirties, VmOp.acts]
  · rw [hq] at hsame
    simp [findHandler.go, hx, h0, ha, ht, hcell, hobj, hz1', hz2', hsame, VmOp.dirties, VmOp.acts]
/-- the search for a handler: rows that don't take the thrown thing, then one that does -/
theorem ct_find {e : Env} {f : JFrame} {a : Addr} {cell : Cell} {x : ExceptionTableEntry} {suf : List ExceptionTableEntry} {kx : ClassId} (hobj : ∀ z, cell.vm ≠ .statics z) (hk0 : ∃ z, s.vm.classes[cell.cls]? = some z) (hx : covers x f.pc = true) (h0 : x.catchType ≠ 0)
    (hl : s.vm.ClassLinks e.platform f.method.cls x.catchType kx) (hfit : s.vm.assignable cell.cls kx = true) :
    ∀ (pre : List ExceptionTableEntry) (S : State), s.WarmedH S.vm → S.heap[a]? = some cell → (∀ z ∈ pre, covers z f.pc = false ∨ (z.catchType ≠ 0 ∧ ∃ k, s.vm.ClassLinks e.platform f.method.cls z.catchType k ∧ s.vm.assignable cell.cls k = false)) →
      ∃ vm', s.WarmedH vm' ∧ ∀ (Q9 : Handler → Pre) (E : CtlPost) (d : Bool) (acts : List Action), wp (findHandler.go f a (pre ++ x :: suf)) Q9 E e d acts S ↔ Q9 (.found x.handlerPc) d acts (S.setVm vm') := by
  obtain ⟨z0, hz0⟩ := hk0
  intro pre
  induction pre with
  | nil =>
    intro S hW hcell _
    obtain ⟨z0', hz0', -⟩ := hW.alike.2.2 _ _ hz0
    obtain ⟨_, _, _, kt, hd, _, _, _, _, hkt, _, hopn⟩ := hl.here
    obtain ⟨kt', hkt', -⟩ := hW.alike.2.2 _ _ hkt
    exact ⟨_, hW.noted hd hopn (State.rightAt_cls hl), fun Q9 E d acts => (ct_row hx h0 (hW.classLinks hl) hcell hobj ⟨z0', hz0'⟩ ⟨kt', hkt'⟩).1 (by rw [hW.alike.assignable]; exact hfit)⟩
  | cons y ys ih =>
    intro S hW hcell hpass
    have hys := fun z hz => hpass z (List.mem_cons_of_mem y hz)
    cases hcov : covers y f.pc with
    | false =>
      obtain ⟨vm', hW', hq⟩ := ih S hW hcell hys
      exact ⟨vm', hW', fun Q9 E d acts => by rw [List.cons_append, W.findHandler_go_skip hcov]; exact hq Q9 E d acts⟩
    | true =>
      rcases hpass y (List.mem_cons_self ..) with h | ⟨hy0, k, hyl, hno⟩
      · rw [h] at hcov; cases hcov
      · obtain ⟨z0', hz0', -⟩ := hW.alike.2.2 _ _ hz0
        obtain ⟨_, _, _, kt, hd, _, _, _, _, hkt, _, hopn⟩ := hyl.here
        obtain ⟨kt', hkt', -⟩ := hW.alike.2.2 _ _ hkt
        obtain ⟨vm', hW', hq⟩ := ih (S.setVm (S.vm.noted f.method.cls y.catchType (.cls k))) (hW.noted hd hopn (State.rightAt_cls hyl)) hcell hys
        exact ⟨vm', hW', fun Q9 E d acts => by
          rw [List.cons_append, (ct_row hcov hy0 (hW.classLinks hyl) hcell hobj ⟨z0', hz0'⟩ ⟨kt', hkt'⟩).2 (by rw [hW.alike.assignable]; exact hno)]
          exact hq Q9 E d acts⟩
/-- the step that finds a handler in the method's own table -/
theorem ct_step {tb : Tables} {e : Env} {S target : State} {g : JFrame} {c : Code} {below : List Frame} {a : Addr} (h : At S g.method c below) {hp : Nat} {vm' : Vm}
    (hfind : ∀ (Q9 : Handler → Pre) (E : CtlPost) (d : Bool) (acts : List Action), wp (findHandler g a) Q9 E e d acts ((S.setTop g).pushFrame (.throwing a)) ↔ Q9 (.found hp) d acts (((S.setTop g).pushFrame (.throwing a)).setVm vm'))
    (hrest : Steps tb e below ((S.setVm vm').setTop { g with pc := hp, stack := [.ref a] }) target) : Steps tb e below ((S.setTop g).pushFrame (.throwing a)) target := by
  have hsv : ∀ (u : State) (F G : List Frame), ((u.setFrames F).setVm vm').setFrames G = (u.setVm vm').setFrames G := by
    intro u F G
    rw [show (u.setFrames F).setVm vm' = (u.setVm vm').setFrames F from rfl, State.setFrames_setFrames]
  have hres : ∀ r : List Frame, (stepThrowing e ((S.setTop g).pushFrame (.throwing a)) a (.java g :: r)).Is ((((S.setTop g).pushFrame (.throwing a)).setVm vm').setFrames (.java { g with pc := hp, stack := [.ref a] } :: r)) [] := by
    intro r
    simp only [stepThrowing, searchFrame, vmDo]
    generalize hr : Sem.go _ e false [] _ = res
    obtain ⟨as, rfl, ha⟩ := Sem.eq_ok_of hr (a := Handler.found hp) (s' := ((S.setTop g).pushFrame (.throwing a)).setVm vm') (acts' := []) (by simp [hfind _ _ _ _])
    exact ⟨rfl, ha⟩
  obtain ⟨hgo, hw⟩ := h.throwing a
  refine Steps.head hgo hw ?_
  rw [stepThread_throwing (frames_entered h.top _), (hres _).1]
  obtain ⟨g₀, hg⟩ := Option.isSome_iff_exists.mp h.top
  obtain ⟨r, hr⟩ := State.topJava?_eq_some.mp hg
  have hr' : (S.setVm vm').frames = .java g₀ :: r := hr
  rw [State.setTop_of_frames _ hr'] at hrest
  rw [hr, List.tail_cons, State.pushFrame, hsv, State.setTop_of_frames _ hr, hsv]
  exact hrest
/-- caught by the row x of this method's table; the rows ahead don't take it -/
theorem ct_catch {own name : String} {E : String} {ce : Cell} {q : Addr} (hown : s.vm.findClass own = some m.cls) (pre : List ExceptionTableEntry) (x : ExceptionTableEntry) (suf : List ExceptionTableEntry) (hsplit : c.exceptionTable.toList = pre ++ x :: suf)
    (hpass : ∀ z ∈ pre, covers z pc = false ∨ (z.catchType ≠ 0 ∧ ∃ nm : String, (Cond.classLink own z.catchType nm).before args s = true ∧ va_Nc E nm s)) (hx : covers x pc = true) (h0 : x.catchType ≠ 0)
    (hlink : (Cond.classLink own x.catchType name).before args s = true) (hcast : (Cond.castable E name).before args s = true) (hcell : H[q]? = some ce) (hv : ce.vm = .none) (hcl : s.vm.findClass E = some ce.cls)
    (kk : W p l e R s m args below meth c H locs cells slots Q (F0 m x.handlerPc ls [.ref q])) : vx_W p l e R s m args below meth c H locs cells slots Q (F0 m pc ls rest) q := by
  intro T hT X
  have hpl : e.platform.magicAccessors = ({} : Platform).magicAccessors := by rw [X.admits.platform]
  obtain ⟨c3, c4, hc3, hc4, hasg⟩ := Cond.castable_spec hcast
  cases Option.some.inj (hc3.symm.trans hcl)
  obtain ⟨c5, hc5, hcl5⟩ := Cond.classLink_spec hown hlink e.platform hpl
  cases Option.some.inj (hc4.symm.trans hc5)
  obtain ⟨vm', hW', hq⟩ := ct_find (e := e) (f := F0 m pc ls rest) (a := q) (cell := ce) (x := x) (suf := suf) (kx := c4) (fun z h => by rw [hv] at h; cases h) (by obtain ⟨k9, h9, -⟩ := Vm.findClass_spec hcl; exact ⟨k9, h9⟩) hx h0 hcl5 hasg pre ((T.setTop (F0 m pc ls rest)).pushFrame (.throwing q)) X.warmed (by show T.heap[q]? = _; rw [hT]; exact hcell)
    (fun z hz => by
      rcases hpass z hz with h | ⟨hz0, nm, hl1, hn1⟩
      · exact Or.inl h
      · obtain ⟨c6, hc6, hcl6⟩ := Cond.classLink_spec hown hl1 e.platform hpl
        obtain ⟨a8, b8, h1, h2, h3⟩ := hn1
        cases Option.some.inj (h1.symm.trans hcl)
        cases Option.some.inj (h2.symm.trans hc6)
        exact Or.inr ⟨hz0, _, hcl6, h3⟩)
  obtain ⟨t, a1, b1⟩ := kk (T.setVm vm') hT (X.noted hW')
  refine ⟨t, ?_, b1⟩
  refine ct_step (g := F0 m pc ls rest) X.here (fun Q9 E d acts => ?_) a1
  rw [W.findHandler_eq (show ((T.setTop (F0 m pc ls rest)).pushFrame (.throwing q)).vm.method? m = some meth from X.method') X.code, hsplit]
  exact hq Q9 E d acts
end Rows
section Ends
variable {p : Program} {l : Launch} {e : Env} {R : Room} {s : State} {m : MethodId} {args : Array Value} {below : List Frame} {meth : Method} {c : Code} {H : Heap} {locs : List Loc} {cells slots : Nat} {Q : State → Prop}
variable {mc ms : Nat} {free : Addr → Prop} {A0 A1 : Nat → Prop} {H0 : Heap} {a : Array Value} {ls : Array Slot} {st0 rest : List Value}
variable {Qc : Array Value → State → Outcome → State → Prop} {XC : String → State → State → Prop}
/-- what a body that may throw owes at its end -/
def vx_MQ (below : List Frame) (Qc : Array Value → State → Outcome → State → Prop) (XC : String → State → State → Prop) (a : Array Value) (s : State) (mc ms : Nat) (free : Addr → Prop) : State → Prop := fun t =>
  ∃ o, t.status = .running ∧ Ended t below o ∧ vx_Q Qc XC mc ms free a s o t
theorem vx_ret {g : JFrame} {mc ms : Nat} (k : W p l e R s m args below meth c H locs cells slots (MQ below Qc args s mc ms free) g) : W p l e R s m args below meth c H locs cells slots (vx_MQ below Qc XC args s mc ms free) g := by
  intro T hT X
  obtain ⟨t, a1, o, b1, b2, b3, b4⟩ := k T hT X
  exact ⟨t, a1, o, b1, b2, Or.inl ⟨b3, b4⟩⟩
/-- not caught here: it goes on to the caller -/
theorem vx_widen {g : JFrame} {q : Addr} {k n : Nat} (h1 : cells ≤ k) (h2 : slots ≤ n) (kk : vx_W p l e R s m args below meth c H locs k n Q g q) : vx_W p l e R s m args below meth c H locs cells slots Q g q := fun T hT X => kk T hT (stand_widen X h1 h2)
theorem vx_out {pc : Nat} {E : String} {ce : Cell} {q : Addr} {mc ms : Nat} (hout : ∀ x ∈ c.exceptionTable.toList, covers x pc = false) (hlocks : meth.locks = false) (hcell : H[q]? = some ce) (hv : ce.vm = .none) (hcl : s.vm.findClass E = some ce.cls)
    (hx : ∀ t : State, t.heap = H → s.vm.Alike t.vm → XC E s t) (hf : ∀ z ∈ locs, free z.base) (hc : cells ≤ mc) (hs : slots ≤ ms) :
    vx_W p l e R s m args below meth c H locs cells slots (vx_MQ below Qc XC args s mc ms free) (F0 m pc ls rest) q := by
  intro T hT X
  obtain ⟨st1, hrun, hend, hW, hsm⟩ := X.leaveThrown q (g := F0 m pc ls rest) rfl rfl rfl hout hlocks
  have hcell9 : (T.setFrames (.throwing q :: below)).heap[q]? = some ce := by
    show T.heap[q]? = some ce
    rw [hT]; exact hcell
  exact ⟨_, st1, .threw q, hrun, hend, Or.inr ⟨q, rfl, E, ce, locs, hx _ hT hW.alike, hcell9, hv, hcl, hW, hsm.mono hc hs, hf⟩⟩
theorem vx_frame {U : State} {k n : Nat} (h : s.sameButNew ({ U with vm := s.vm } : State) locs k n) : s.heap.size ≤ U.heap.size ∧ ∀ q : Nat, q < s.heap.size → (∀ z ∈ locs, z.base ≠ q) → U.heap[q]? = s.heap[q]? := by
  obtain ⟨-, h2, -, -, -, h6⟩ := h
  refine ⟨h2, fun q hq hz => ?_⟩
  obtain ⟨c9, e1, e2, e3, e4⟩ := h6 q _ (Array.getElem?_eq_getElem hq)
  have hs : c9.slots = (s.heap[q]).slots := Array.ext_getElem? fun i => e4 i fun hm => hz _ hm rfl
  have h9 : c9 = s.heap[q] := by
    rw [hs] at e2
    exact e2
  have e5 : U.heap[q]? = some c9 := e1
  rw [e5, h9, Array.getElem?_eq_getElem hq]
/-- the words of a throw but the four that speak of the heap -/
def vx_no (w : Cond) : Bool := decide (w ≠ .isRef (.static Bundle.tN "UNASSIGNED_STACK" Bundle.steD)) && decide (w ≠ .isRef (.static Bundle.tN "SUPPRESSED_SENTINEL" Bundle.listD)) && decide (w ≠ .laysStatic Bundle.tN "UNASSIGNED_STACK" Bundle.steD) && decide (w ≠ .laysStatic Bundle.tN "SUPPRESSED_SENTINEL" Bundle.listD)
def vx_at0 (own : String) (ic : Nat) (X : String) (names : List String) : List Cond := (Bundle.ownAtoms0 own ic X names).filter vx_no
def vx_atS (own : String) (ic : Nat) (X : String) (names : List String) : List Cond := (Bundle.ownAtoms own ic X names).filter vx_no
/-- a word that the tables alone decide, or a good one -/
def vx_ot (w : Cond) : Bool := w.onTables || goodWord w
theorem vx_ot_at {args a' : Array Value} {s U : State} {w : Cond} (hW : s.WarmedH U.vm) (hvm : s.vm = U.vm) (hg : vx_ot w = true) (h : w.before args s = true) : w.before a' U = true := by
  simp only [vx_ot, Bool.or_eq_true] at hg
  rcases hg with hg | hg
  · exact va_tabs hg hvm h
  · exact word_at hW (good_of_word hg) h
/-- a list's words: the good ones out of the method's own list, the others by premises of their own -/
theorem vx_hat {args : Array Value} {s : State} {L B : List Cond} (h1 : ∀ w ∈ L.filter goodWord, w.before args s = true) (h2 : ∀ w ∈ L.filter (fun w => !goodWord w), w ∈ B) (h3 : ∀ w ∈ B, w.before args s = true) : ∀ w ∈ L, w.before args s = true := by
  intro w hw
  by_cases g : goodWord w = true
  · exact h1 w (List.mem_filter.mpr ⟨hw, g⟩)
  · refine h3 w (h2 w (List.mem_filter.mpr ⟨hw, ?_⟩))
    show (!goodWord w) = true
    cases hgw : goodWord w
    · rfl
    · exact absurd hgw g
theorem vx_c {args : Array Value} {s : State} {w : Cond} {B : List Cond} (h : w.before args s = true) (t : ∀ w ∈ B, w.before args s = true) : ∀ w' ∈ w :: B, w'.before args s = true := fun w' h' => (List.mem_cons.mp h').elim (fun e => by rw [e]; exact h) (t w')
theorem vx_n {args : Array Value} {s : State} : ∀ w ∈ ([] : List Cond), w.before args s = true := fun _ h => nomatch h
theorem vx_own {args : Array Value} {s : State} {L : List Cond} (h1 : ∀ w ∈ L.filter vx_no, w.before args s = true)
    (hU : (Cond.isRef (.static Bundle.tN "UNASSIGNED_STACK" Bundle.steD)).before args s = true) (hN : (Cond.isRef (.static Bundle.tN "SUPPRESSED_SENTINEL" Bundle.listD)).before args s = true)
    (lU : (Cond.laysStatic Bundle.tN "UNASSIGNED_STACK" Bundle.steD).before args s = true) (lN : (Cond.laysStatic Bundle.tN "SUPPRESSED_SENTINEL" Bundle.listD).before args s = true) : ∀ w ∈ L, w.before args s = true := by
  intro w hw
  by_cases e1 : w = .isRef (.static Bundle.tN "UNASSIGNED_STACK" Bundle.steD)
  · rw [e1]; exact hU
  · by_cases e2 : w = .isRef (.static Bundle.tN "SUPPRESSED_SENTINEL" Bundle.listD)
    · rw [e2]; exact hN
    · by_cases e3 : w = .laysStatic Bundle.tN "UNASSIGNED_STACK" Bundle.steD
      · rw [e3]; exact lU
      · by_cases e4 : w = .laysStatic Bundle.tN "SUPPRESSED_SENTINEL" Bundle.listD
        · rw [e4]; exact lN
        · exact h1 w (List.mem_filter.mpr ⟨hw, by unfold vx_no; rw [decide_eq_true e1, decide_eq_true e2, decide_eq_true e3, decide_eq_true e4]; rfl⟩)
/-- where a static field lies, its class's statics cell in H -/
def vx_L (C n d : String) (A : Nat → Prop) (U : State) (H : Heap) : Prop := ∃ (c : ClassId) (k : Class) (i : Nat) (f : Field) (a : Nat) (cell : Cell), U.vm.findClass C = some c ∧ U.fieldFound? C n d = some (c, k, i, f) ∧ f.isStatic = true ∧ k.statics = some a ∧ H[a]? = some cell ∧ cell.vm.isStatics = true ∧ cell.cls = c ∧ f.slot < cell.slots.size ∧ k.staticTypes[f.slot]? = some f.type ∧ ¬ A a
theorem vx_L.moved {C n d : String} {A : Nat → Prop} {u U : State} {H : Heap} (hvm : u.vm.Alike U.vm) (h : vx_L C n d A u H) : vx_L C n d A U H := by
  obtain ⟨c, k, i, f, a, cell, h1, h2, h3, h4, h5, h6, h7, h8, h9, h10⟩ := h
  obtain ⟨k', hi', he⟩ := State.fieldFound?_setVm hvm h2
  exact ⟨c, k', i, f, a, cell, by rw [hvm.findClass]; exact h1, hi', h3, by rw [he]; exact h4, h5, h6, h7, h8, by rw [he]; exact h9, h10⟩
theorem vx_L.kept {C n d : String} {A : Nat → Prop} {U : State} {H H1 : Heap} (h : vx_L C n d A U H) (hq : ∀ a : Nat, a < H.size → ¬ A a → H1[a]? = H[a]?) : vx_L C n d A U H1 := by
  obtain ⟨c, k, i, f, a, cell, h1, h2, h3, h4, h5, h6, h7, h8, h9, h10⟩ := h
  exact ⟨c, k, i, f, a, cell, h1, h2, h3, h4, by rw [hq a (Array.getElem?_eq_some_iff.mp h5).1 h10]; exact h5, h6, h7, h8, h9, h10⟩
theorem vx_L.narrow {C n d : String} {A B : Nat → Prop} {U : State} {H : Heap} (h : vx_L C n d A U H) (hAB : ∀ q, B q → A q) : vx_L C n d B U H := by
  obtain ⟨c, k, i, f, a, cell, h1, h2, h3, h4, h5, h6, h7, h8, h9, h10⟩ := h
  exact ⟨c, k, i, f, a, cell, h1, h2, h3, h4, h5, h6, h7, h8, h9, fun z => h10 (hAB _ z)⟩
theorem vx_L.word {C n d : String} {A : Nat → Prop} {s : State} {args : Array Value} (h : vx_L C n d A s s.heap) : (Cond.laysStatic C n d).before args s = true := by
  obtain ⟨c, k, i, f, a, cell, h1, h2, h3, h4, h5, h6, h7, h8, h9, -⟩ := h
  show (Cond.laysStatic C n d).holds args s none s [] = true
  exact Cond.laysStatic_of h1 h2 h3 h4 h5 h6 h7 h8 h9
/-- .. and what it holds: null or some reference -/
def vx_Zq (C n d : String) (A : Nat → Prop) (U : State) (H : Heap) : Prop := va_Zq C n d A U H ∧ vx_L C n d A U H
theorem vx_Zq.moved {C n d : String} {A : Nat → Prop} {u U : State} {H : Heap} (hvm : u.vm.Alike U.vm) (h : vx_Zq C n d A u H) : vx_Zq C n d A U H := ⟨va_Zq.moved hvm h.1, vx_L.moved hvm h.2⟩
theorem vx_Zq.kept {C n d : String} {A : Nat → Prop} {U : State} {H H1 : Heap} (h : vx_Zq C n d A U H) (hq : ∀ a : Nat, a < H.size → ¬ A a → H1[a]? = H[a]?) : vx_Zq C n d A U H1 := ⟨va_Zq.kept h.1 hq, vx_L.kept h.2 hq⟩
theorem vx_Zq.narrow {C n d : String} {A B : Nat → Prop} {U : State} {H : Heap} (h : vx_Zq C n d A U H) (hAB : ∀ q, B q → A q) : vx_Zq C n d B U H := ⟨va_Zq.narrow h.1 hAB, vx_L.narrow h.2 hAB⟩
theorem vx_Zqof {args : Array Value} {s : State} {C n d : String} {A : Nat → Prop} (hl : (Cond.laysStatic C n d).before args s = true) (hini : (Cond.initialized C).before args s = true) (h : (Cond.isRef (.static C n d)).before args s = true) (hA : ∀ a : Nat, a < s.heap.size → ¬ A a) : vx_Zq C n d A s s.heap := by
  refine ⟨va_Zqof hl hini h hA, ?_⟩
  obtain ⟨c, k, i, f, a, cell, h1, h2, h3, h4, h5, h6, h7, h8, h9⟩ := Cond.laysStatic_spec hl
  exact ⟨c, k, i, f, a, cell, h1, h2, h3, h4, h5, h6, h7, h8, h9, hA a (Array.getElem?_eq_some_iff.mp h5).1⟩
theorem vx_isRef {C n d : String} {v : Value} {A : Nat → Prop} {s : State} {args : Array Value} (h : va_Z C n d v A s s.heap) (hv : v.isRef = true) : (Cond.isRef (.static C n d)).before args s = true := by
  obtain ⟨cf, kf, fi, f, a, cell, h1, h2, h3, h4, h5, h6, h7, -⟩ := h
  have he : (Term.static C n d).eval args s none [] s = some v := by
    simp [Term.eval, State.fieldNamed?, h1, h2, h4, h5, h6, h7]
  simp only [Cond.before, Cond.holds, Cond.value, he]
  cases v <;> simp_all [Value.isRef]
theorem vx_isRefq {C n d : String} {A : Nat → Prop} {s : State} {args : Array Value} (h : va_Zq C n d A s s.heap) : (Cond.isRef (.static C n d)).before args s = true := by
  rcases h with h | ⟨t, h⟩
  · exact vx_isRef h rfl
  · exact vx_isRef h rfl
/-- the same frame, seen from here: as if the method were called anew in this heap -/
theorem vx_rebase {T : State} (X : Stand p l e R s m args below meth c T locs cells slots) {R' : Room} (hf : R'.frames ≤ R.frames) (hl : R'.locals ≤ R.locals) (hc : cells + R'.cells ≤ R.cells) (hs : slots + R'.slots ≤ R.slots) :
    Stand p l e R' ((T.setVm s.vm).setFrames (.invoking m args :: below)) m args below meth c T [] 0 0 := by
  have htop : (T.setVm s.vm).topJava?.isSome := X.here.top
  have hF : ((T.setVm s.vm).setFrames (.invoking m args :: below)).frames = .invoking m args :: below := State.frames_setFrames _ (State.cur_lt_of_top htop)
  obtain ⟨g₀, hg0⟩ := Option.isSome_iff_exists.mp htop
  obtain ⟨r, hr⟩ := State.topJava?_eq_some.mp hg0
  have hl9 : e.platform.stackLimits (T.setVm s.vm).me = e.platform.stackLimits s.me := X.limits
  have hb9 : (T.setVm s.vm).me.stackBytes = s.me.stackBytes := X.bytes
  refine ⟨X.admits, X.cas, X.clock, hF, ?_, X.hears, X.method, X.code, X.here, X.tail, X.warmed, ?_, ?_, ?_⟩
  · have h := X.room
    have hU : ((T.setVm s.vm).setFrames (.invoking m args :: below)).localsInUse = s.localsInUse := by
      rw [State.localsInUse_invoking hF (meth := meth) (c := c) X.method X.code, State.localsInUse_invoking X.frames X.method X.code]
    simp only [State.hasRoom, Bool.and_eq_true, decide_eq_true_eq] at h ⊢
    obtain ⟨⟨⟨⟨h1, h2, h3, h4, h5, h6⟩, h7⟩, h8⟩, h9⟩ := h
    rw [X.frames, List.length_cons] at h2 h3
    have q1 := X.heapSize
    have q2 := X.used
    simp only [hF, hU, List.length_cons, State.stackLimits_setFrames, State.stackBytes_setFrames, hl9, hb9]
    refine ⟨⟨⟨⟨by omega, by omega, by omega, by omega, by omega, h6⟩, ?_⟩, ?_⟩, X.book⟩
    · show T.heap.size + R'.cells ≤ e.platform.maxCells
      omega
    · show T.slotsUsed + R'.slots ≤ e.platform.maxSlots
      omega
  · rw [State.stackLimits_setFrames]; rfl
  · rw [State.stackBytes_setFrames]; rfl
  · refine ⟨?_, Nat.le_refl _, Nat.le_refl _, ?_, ?_, fun a c9 h9 => ⟨c9, h9, rfl, rfl, fun _ _ => rfl⟩⟩
    · obtain ⟨t, ht, -⟩ := State.frames_cons hr
      show T.setVm s.vm = { ((T.setVm s.vm).setFrames (.invoking m args :: below)).setFrames (T.setVm s.vm).frames with heap := T.heap, slotsUsed := T.slotsUsed }
      rw [State.setFrames_setFrames, State.setFrames_self ht]
      rfl
    · show T.slotsUsed = T.slotsUsed + ((T.heap.toList.drop T.heap.size).map (·.slots.size)).sum
      rw [List.drop_eq_nil_of_le (Nat.le_of_eq Array.length_toList)]
      rfl
    · show ((T.heap.toList.drop T.heap.size).map (·.slots.size)).sum ≤ 0
      rw [List.drop_eq_nil_of_le (Nat.le_of_eq Array.length_toList)]
      exact Nat.le_refl _
/-- 'throw new E()': new; dup; invokespecial; athrow -/
theorem vx_throw0 {cc : ByteArray} {pc : Nat} (hexec : p.tables.exec = Jvm.exec) (hb : c.code = cc) (hl : l.stackTraces = false) {own cls : String} {names : List String} {ik ic mc ms : Nat} {A : Nat → Prop}
    (hown : s.vm.findClass own = some m.cls) (hcls : Bundle.fit cls = true) (hnames : ∀ n ∈ names, Bundle.fit n = true)
    (hk : (Cond.classLink own ik cls).before args s = true) (hini : (Cond.initialized cls).before args s = true) (hat : ∀ w ∈ vx_at0 own ic cls names, w.before args s = true)
    (hgood : ∀ w ∈ Cond.classLink own ik cls :: Cond.initialized cls :: vx_at0 own ic cls names, vx_ot w = true)
    (hU : vx_Zq Bundle.tN "UNASSIGNED_STACK" Bundle.steD A s s.heap) (hN : vx_Zq Bundle.tN "SUPPRESSED_SENTINEL" Bundle.listD A s s.heap) (hS : va_S A s.heap H locs) (hsize : ls.size = c.maxLocals)
    (d0 : decode cc pc = .ok (.new ik, 3)) (d3 : decode cc (pc + 3) = .ok (.dup, 1)) (d4 : decode cc (pc + 4) = .ok (.invokespecial ic, 3)) (d7 : decode cc (pc + 7) = .ok (.athrow, 1))
    (hout : ∀ x ∈ c.exceptionTable.toList, covers x (pc + 7) = false)
    (hRframes : names.length + 3 < R.frames) (hRlocals : (rest.map fun v => v.category).sum + (13 * (names.length + 1) + 42) ≤ R.locals) (hRcells : cells + 1 ≤ R.cells) (hRslots : slots + 6 ≤ R.slots) (hlocks : meth.locks = false)
    (hx : ∀ t : State, s.vm.Alike t.vm → H.size ≤ t.heap.size → (∀ q : Nat, q < H.size → t.heap[q]? = H[q]?) → XC cls s t)
    (hf : ∀ z ∈ locs, free z.base) (hc : cells + 1 ≤ mc) (hs : slots + 6 ≤ ms) :
    W p l e R s m args below meth c H locs cells slots (vx_MQ below Qc XC args s mc ms free) (F0 m pc ls rest) := by
  intro T hT X
  have htr : e.platform.stackTraces = false := (show e.platform.stackTraces = l.stackTraces by rw [X.admits.platform]).trans hl
  have Y := vx_rebase X (R' := { frames := R.frames, locals := R.locals, cells := 1, slots := 6 }) (Nat.le_refl _) (Nat.le_refl _) hRcells hRslots
  obtain ⟨s', hA⟩ : ∃ z, z = (T.setVm s.vm).setFrames (.invoking m args :: below) := ⟨_, rfl⟩
  rw [← hA] at Y
  have hvm : s'.vm = s.vm := by rw [hA]; rfl
  have hhp : s'.heap = H := by rw [hA]; exact hT
  have hW0 : s.WarmedH s'.vm := by rw [hvm]; exact State.WarmedH.refl s
  have hat' : ∀ w ∈ vx_at0 own ic cls names, w.before args s' = true := fun w hw => vx_ot_at hW0 hvm.symm (hgood w (List.mem_cons_of_mem _ (List.mem_cons_of_mem _ hw))) (hat w hw)
  have hk' : (Cond.classLink own ik cls).before args s' = true := vx_ot_at hW0 hvm.symm (hgood _ List.mem_cons_self) hk
  have hini' : (Cond.initialized cls).before args s' = true := vx_ot_at hW0 hvm.symm (hgood _ (List.mem_cons_of_mem _ List.mem_cons_self)) hini
  have hU' : vx_Zq Bundle.tN "UNASSIGNED_STACK" Bundle.steD A s' s'.heap := by rw [hhp]; exact vx_Zq.moved hW0.alike (hU.kept hS.2.1)
  have hN' : vx_Zq Bundle.tN "SUPPRESSED_SENTINEL" Bundle.listD A s' s'.heap := by rw [hhp]; exact vx_Zq.moved hW0.alike (hN.kept hS.2.1)
  have h : ∀ w ∈ Bundle.ownAtoms0 own ic cls names, w.before args s' = true := vx_own hat' (vx_isRefq hU'.1) (vx_isRefq hN'.1) hU'.2.word hN'.2.word
  have hown' : s'.vm.findClass own = some m.cls := by rw [hvm]; exact hown
  have hins : (Cond.instantiable cls 6).before args s' = true := h _ (by simp [Bundle.ownAtoms0])
  obtain ⟨vm₁, cX, kX, hfX, hkX, -, -, X₁, st1⟩ := Y.newCold hexec (own := own) (C := cls) (index := ik) (n := 6) hown' hk' hins hini'
    (g := F0 m pc ls rest) rfl (by rw [hb]; exact d0) (Nat.le_refl _) (Nat.le_refl _)
  generalize hT1 : (T.setVm vm₁).pushCell { cls := cX, slots := kX.instanceTypes.map defaultValue, vm := .none } = T1 at X₁ st1
  have hcat : (Value.ref T.heap.size).category = 1 := rfl
  have hcellA : T1.heap[T.heap.size]? = some (freshCell cX kX) := by rw [← hT1]; exact State.heap_pushCell_size _ _
  have d3' : decode c.code (pc + 3) = .ok (.dup, 1) := by rw [hb]; exact d3
  obtain ⟨U, hsteps, hrun, hend, hW, hsame, ce, hce, hO⟩ := X₁.ctorThrow0 hexec htr (own := own) (cls := cls) (names := names) (ic := ic) hown' hcls hnames h (fun x hx => nomatch hx) hfX hkX hcellA (by rw [hhp, hT]; exact Nat.le_refl _)
    (g := { method := m, pc := pc + 4, locals := ls, stack := .ref T.heap.size :: .ref T.heap.size :: rest, locked := none }) rfl hsize rfl rfl (rest := rest) rfl
    (by rw [hb]; exact d4) (by rw [hb]; exact d7) hout hRframes (by simp only [List.map_cons, List.sum_cons, hcat]; omega) hlocks
  obtain ⟨f1, f2⟩ := vx_frame hsame
  rw [hhp] at f1 f2
  have hWs : s.WarmedH U.vm := State.WarmedH.trans hW0 hW
  have hcl : s.vm.findClass cls = some ce.cls := by
    have h9 := hO.cls
    rw [hvm] at h9
    exact h9
  have hall : s.sameButNew ({ U with vm := s.vm } : State) locs mc ms := by
    subst hA
    obtain ⟨e1, e2⟩ := hsame
    rw [State.setFrames_setFrames] at e1
    have h2 : (T.setVm s.vm).sameButNew ({ U with vm := s.vm } : State) [] (0 + 1) (0 + 6) := ⟨e1, e2⟩
    have h3 := X.same.trans h2
    rw [List.append_nil] at h3
    exact h3.mono hc hs
  refine ⟨U, ?_, .threw T.heap.size, hrun, hend, Or.inr ⟨T.heap.size, rfl, cls, ce, locs, hx U hWs.alike f1 (fun q hq => f2 q hq (fun z hz => nomatch hz)), hce, hO.vm, hcl, hWs, hall, hf⟩⟩
  refine st1 _ ?_
  show Steps p.tables e below (T1.setTop { method := m, pc := pc + 3, locals := ls, stack := .ref T.heap.size :: rest, locked := none }) _
  jvm_step X₁.here [X₁.here.top, hexec, d3', Value.category]
  exact hsteps
/-- 'throw new E("text")': new; dup; ldc; invokespecial; athrow -/
theorem vx_throwS {cc : ByteArray} {pc : Nat} (hexec : p.tables.exec = Jvm.exec) (hb : c.code = cc) (hl : l.stackTraces = false) {own cls text : String} {names : List String} {ik is ic mc ms sa : Nat} {A : Nat → Prop}
    (hown : s.vm.findClass own = some m.cls) (hcls : Bundle.fit cls = true) (hnames : ∀ n ∈ names, Bundle.fit n = true)
    (hk : (Cond.classLink own ik cls).before args s = true) (hini : (Cond.initialized cls).before args s = true) (hstr : vk_R own is text sa s) (hat : ∀ w ∈ vx_atS own ic cls names, w.before args s = true)
    (hgood : ∀ w ∈ Cond.classLink own ik cls :: Cond.initialized cls :: vx_atS own ic cls names, vx_ot w = true)
    (hU : vx_Zq Bundle.tN "UNASSIGNED_STACK" Bundle.steD A s s.heap) (hN : vx_Zq Bundle.tN "SUPPRESSED_SENTINEL" Bundle.listD A s s.heap) (hS : va_S A s.heap H locs) (hsize : ls.size = c.maxLocals)
    (d0 : decode cc pc = .ok (.new ik, 3)) (d3 : decode cc (pc + 3) = .ok (.dup, 1)) (d4 : decode cc (pc + 4) = .ok (.ldc is, 2)) (d6 : decode cc (pc + 6) = .ok (.invokespecial ic, 3)) (d9 : decode cc (pc + 9) = .ok (.athrow, 1))
    (hout : ∀ x ∈ c.exceptionTable.toList, covers x (pc + 9) = false)
    (hRframes : names.length + 3 < R.frames) (hRlocals : (rest.map fun v => v.category).sum + (13 * (names.length + 1) + 43) ≤ R.locals) (hRcells : cells + 1 ≤ R.cells) (hRslots : slots + 6 ≤ R.slots) (hlocks : meth.locks = false)
    (hx : ∀ t : State, s.vm.Alike t.vm → H.size ≤ t.heap.size → (∀ q : Nat, q < H.size → t.heap[q]? = H[q]?) → XC cls s t)
    (hf : ∀ z ∈ locs, free z.base) (hc : cells + 1 ≤ mc) (hs : slots + 6 ≤ ms) :
    W p l e R s m args below meth c H locs cells slots (vx_MQ below Qc XC args s mc ms free) (F0 m pc ls rest) := by
  intro T hT X
  have htr : e.platform.stackTraces = false := (show e.platform.stackTraces = l.stackTraces by rw [X.admits.platform]).trans hl
  have Y := vx_rebase X (R' := { frames := R.frames, locals := R.locals, cells := 1, slots := 6 }) (Nat.le_refl _) (Nat.le_refl _) hRcells hRslots
  obtain ⟨s', hA⟩ : ∃ z, z = (T.setVm s.vm).setFrames (.invoking m args :: below) := ⟨_, rfl⟩
  rw [← hA] at Y
  have hvm : s'.vm = s.vm := by rw [hA]; rfl
  have hhp : s'.heap = H := by rw [hA]; exact hT
  have hW0 : s.WarmedH s'.vm := by rw [hvm]; exact State.WarmedH.refl s
  have hat' : ∀ w ∈ vx_atS own ic cls names, w.before args s' = true := fun w hw => vx_ot_at hW0 hvm.symm (hgood w (List.mem_cons_of_mem _ (List.mem_cons_of_mem _ hw))) (hat w hw)
  have hk' : (Cond.classLink own ik cls).before args s' = true := vx_ot_at hW0 hvm.symm (hgood _ List.mem_cons_self) hk
  have hini' : (Cond.initialized cls).before args s' = true := vx_ot_at hW0 hvm.symm (hgood _ (List.mem_cons_of_mem _ List.mem_cons_self)) hini
  have hU' : vx_Zq Bundle.tN "UNASSIGNED_STACK" Bundle.steD A s' s'.heap := by rw [hhp]; exact vx_Zq.moved hW0.alike (hU.kept hS.2.1)
  have hN' : vx_Zq Bundle.tN "SUPPRESSED_SENTINEL" Bundle.listD A s' s'.heap := by rw [hhp]; exact vx_Zq.moved hW0.alike (hN.kept hS.2.1)
  have h : ∀ w ∈ Bundle.ownAtoms own ic cls names, w.before args s' = true := vx_own hat' (vx_isRefq hU'.1) (vx_isRefq hN'.1) hU'.2.word hN'.2.word
  have hown' : s'.vm.findClass own = some m.cls := by rw [hvm]; exact hown
  have hins : (Cond.instantiable cls 6).before args s' = true := h _ (by simp [Bundle.ownAtoms])
  obtain ⟨vm₁, cX, kX, hfX, hkX, -, -, X₁, st1⟩ := Y.newCold hexec (own := own) (C := cls) (index := ik) (n := 6) hown' hk' hins hini'
    (g := F0 m pc ls rest) rfl (by rw [hb]; exact d0) (Nat.le_refl _) (Nat.le_refl _)
  generalize hT1 : (T.setVm vm₁).pushCell { cls := cX, slots := kX.instanceTypes.map defaultValue, vm := .none } = T1 at X₁ st1
  have hcat : (Value.ref T.heap.size).category = 1 := rfl
  have hcellA : T1.heap[T.heap.size]? = some (freshCell cX kX) := by rw [← hT1]; exact State.heap_pushCell_size _ _
  have d3' : decode c.code (pc + 3) = .ok (.dup, 1) := by rw [hb]; exact d3
  have d4' : decode c.code (pc + 4) = .ok (.ldc is, 2) := by rw [hb]; exact d4
  have hstr' : vk_R own is text sa s' := vk_R.warm hW0 hstr
  obtain ⟨U, hsteps, hrun, hend, hW, hsame, ce, hce, hO⟩ := X₁.ctorThrowS hexec htr (own := own) (cls := cls) (names := names) (ic := ic) hown' hcls hnames h (fun x hx => nomatch hx) hfX hkX hcellA (by rw [hhp, hT]; exact Nat.le_refl _) (msg := .ref sa) rfl
    (g := { method := m, pc := pc + 6, locals := ls, stack := .ref sa :: .ref T.heap.size :: .ref T.heap.size :: rest, locked := none }) rfl hsize rfl rfl (rest := rest) rfl
    (by rw [hb]; exact d6) (by rw [hb]; exact d9) hout hRframes (by simp only [List.map_cons, List.sum_cons, hcat]; omega) hlocks
  obtain ⟨f1, f2⟩ := vx_frame hsame
  rw [hhp] at f1 f2
  have hWs : s.WarmedH U.vm := State.WarmedH.trans hW0 hW
  have hcl : s.vm.findClass cls = some ce.cls := by
    have h9 := hO.cls
    rw [hvm] at h9
    exact h9
  have hall : s.sameButNew ({ U with vm := s.vm } : State) locs mc ms := by
    subst hA
    obtain ⟨e1, e2⟩ := hsame
    rw [State.setFrames_setFrames] at e1
    have h2 : (T.setVm s.vm).sameButNew ({ U with vm := s.vm } : State) [] (0 + 1) (0 + 6) := ⟨e1, e2⟩
    have h3 := X.same.trans h2
    rw [List.append_nil] at h3
    exact h3.mono hc hs
  refine ⟨U, ?_, .threw T.heap.size, hrun, hend, Or.inr ⟨T.heap.size, rfl, cls, ce, locs, hx U hWs.alike f1 (fun q hq => f2 q hq (fun z hz => nomatch hz)), hce, hO.vm, hcl, hWs, hall, hf⟩⟩
  refine st1 _ ?_
  show Steps p.tables e below (T1.setTop { method := m, pc := pc + 3, locals := ls, stack := .ref T.heap.size :: rest, locked := none }) _
  jvm_step X₁.here [X₁.here.top, hexec, d3', Value.category]
  exact X₁.ldcString hexec (own := own) (text := text) (index := is) (a := sa) hown' hstr'.1 hstr'.2
    (g := { method := m, pc := pc + 4, locals := ls, stack := .ref T.heap.size :: .ref T.heap.size :: rest, locked := none }) rfl d4' _ hsteps
/-- 'throw new E("text")', the text by a wide index -/
theorem vx_throwSW {cc : ByteArray} {pc : Nat} (hexec : p.tables.exec = Jvm.exec) (hb : c.code = cc) (hl : l.stackTraces = false) {own cls text : String} {names : List String} {ik is ic mc ms sa : Nat} {A : Nat → Prop}
    (hown : s.vm.findClass own = some m.cls) (hcls : Bundle.fit cls = true) (hnames : ∀ n ∈ names, Bundle.fit n = true)
    (hk : (Cond.classLink own ik cls).before args s = true) (hini : (Cond.initialized cls).before args s = true) (hstr : vk_R own is text sa s) (hat : ∀ w ∈ vx_atS own ic cls names, w.before args s = true)
    (hgood : ∀ w ∈ Cond.classLink own ik cls :: Cond.initialized cls :: vx_atS own ic cls names, vx_ot w = true)
    (hU : vx_Zq Bundle.tN "UNASSIGNED_STACK" Bundle.steD A s s.heap) (hN : vx_Zq Bundle.tN "SUPPRESSED_SENTINEL" Bundle.listD A s s.heap) (hS : va_S A s.heap H locs) (hsize : ls.size = c.maxLocals)
    (d0 : decode cc pc = .ok (.new ik, 3)) (d3 : decode cc (pc + 3) = .ok (.dup, 1)) (d4 : decode cc (pc + 4) = .ok (.ldc_w is, 3)) (d7 : decode cc (pc + 7) = .ok (.invokespecial ic, 3)) (d10 : decode cc (pc + 10) = .ok (.athrow, 1))
    (hout : ∀ x ∈ c.exceptionTable.toList, covers x (pc + 10) = false)
    (hRframes : names.length + 3 < R.frames) (hRlocals : (rest.map fun v => v.category).sum + (13 * (names.length + 1) + 43) ≤ R.locals) (hRcells : cells + 1 ≤ R.cells) (hRslots : slots + 6 ≤ R.slots) (hlocks : meth.locks = false)
    (hx : ∀ t : State, s.vm.Alike t.vm → H.size ≤ t.heap.size → (∀ q : Nat, q < H.size → t.heap[q]? = H[q]?) → XC cls s t)
    (hf : ∀ z ∈ locs, free z.base) (hc : cells + 1 ≤ mc) (hs : slots + 6 ≤ ms) :
    W p l e R s m args below meth c H locs cells slots (vx_MQ below Qc XC args s mc ms free) (F0 m pc ls rest) := by
  intro T hT X
  have htr : e.platform.stackTraces = false := (show e.platform.stackTraces = l.stackTraces by rw [X.admits.platform]).trans hl
  have Y := vx_rebase X (R' := { frames := R.frames, locals := R.locals, cells := 1, slots := 6 }) (Nat.le_refl _) (Nat.le_refl _) hRcells hRslots
  obtain ⟨s', hA⟩ : ∃ z, z = (T.setVm s.vm).setFrames (.invoking m args :: below) := ⟨_, rfl⟩
  rw [← hA] at Y
  have hvm : s'.vm = s.vm := by rw [hA]; rfl
  have hhp : s'.heap = H := by rw [hA]; exact hT
  have hW0 : s.WarmedH s'.vm := by rw [hvm]; exact State.WarmedH.refl s
  have hat' : ∀ w ∈ vx_atS own ic cls names, w.before args s' = true := fun w hw => vx_ot_at hW0 hvm.symm (hgood w (List.mem_cons_of_mem _ (List.mem_cons_of_mem _ hw))) (hat w hw)
  have hk' : (Cond.classLink own ik cls).before args s' = true := vx_ot_at hW0 hvm.symm (hgood _ List.mem_cons_self) hk
  have hini' : (Cond.initialized cls).before args s' = true := vx_ot_at hW0 hvm.symm (hgood _ (List.mem_cons_of_mem _ List.mem_cons_self)) hini
  have hU' : vx_Zq Bundle.tN "UNASSIGNED_STACK" Bundle.steD A s' s'.heap := by rw [hhp]; exact vx_Zq.moved hW0.alike (hU.kept hS.2.1)
  have hN' : vx_Zq Bundle.tN "SUPPRESSED_SENTINEL" Bundle.listD A s' s'.heap := by rw [hhp]; exact vx_Zq.moved hW0.alike (hN.kept hS.2.1)
  have h : ∀ w ∈ Bundle.ownAtoms own ic cls names, w.before args s' = true := vx_own hat' (vx_isRefq hU'.1) (vx_isRefq hN'.1) hU'.2.word hN'.2.word
  have hown' : s'.vm.findClass own = some m.cls := by rw [hvm]; exact hown
  have hins : (Cond.instantiable cls 6).before args s' = true := h _ (by simp [Bundle.ownAtoms])
  obtain ⟨vm₁, cX, kX, hfX, hkX, -, -, X₁, st1⟩ := Y.newCold hexec (own := own) (C := cls) (index := ik) (n := 6) hown' hk' hins hini'
    (g := F0 m pc ls rest) rfl (by rw [hb]; exact d0) (Nat.le_refl _) (Nat.le_refl _)
  generalize hT1 : (T.setVm vm₁).pushCell { cls := cX, slots := kX.instanceTypes.map defaultValue, vm := .none } = T1 at X₁ st1
  have hcat : (Value.ref T.heap.size).category = 1 := rfl
  have hcellA : T1.heap[T.heap.size]? = some (freshCell cX kX) := by rw [← hT1]; exact State.heap_pushCell_size _ _
  have d3' : decode c.code (pc + 3) = .ok (.dup, 1) := by rw [hb]; exact d3
  have d4' : decode c.code (pc + 4) = .ok (.ldc_w is, 3) := by rw [hb]; exact d4
  have hstr' : vk_R own is text sa s' := vk_R.warm hW0 hstr
  obtain ⟨U, hsteps, hrun, hend, hW, hsame, ce, hce, hO⟩ := X₁.ctorThrowS hexec htr (own := own) (cls := cls) (names := names) (ic := ic) hown' hcls hnames h (fun x hx => nomatch hx) hfX hkX hcellA (by rw [hhp, hT]; exact Nat.le_refl _) (msg := .ref sa) rfl
    (g := { method := m, pc := pc + 7, locals := ls, stack := .ref sa :: .ref T.heap.size :: .ref T.heap.size :: rest, locked := none }) rfl hsize rfl rfl (rest := rest) rfl
    (by rw [hb]; exact d7) (by rw [hb]; exact d10) hout hRframes (by simp only [List.map_cons, List.sum_cons, hcat]; omega) hlocks
  obtain ⟨f1, f2⟩ := vx_frame hsame
  rw [hhp] at f1 f2
  have hWs : s.WarmedH U.vm := State.WarmedH.trans hW0 hW
  have hcl : s.vm.findClass cls = some ce.cls := by
    have h9 := hO.cls
    rw [hvm] at h9
    exact h9
  have hall : s.sameButNew ({ U with vm := s.vm } : State) locs mc ms := by
    subst hA
    obtain ⟨e1, e2⟩ := hsame
    rw [State.setFrames_setFrames] at e1
    have h2 : (T.setVm s.vm).sameButNew ({ U with vm := s.vm } : State) [] (0 + 1) (0 + 6) := ⟨e1, e2⟩
    have h3 := X.same.trans h2
    rw [List.append_nil] at h3
    exact h3.mono hc hs
  refine ⟨U, ?_, .threw T.heap.size, hrun, hend, Or.inr ⟨T.heap.size, rfl, cls, ce, locs, hx U hWs.alike f1 (fun q hq => f2 q hq (fun z hz => nomatch hz)), hce, hO.vm, hcl, hWs, hall, hf⟩⟩
  refine st1 _ ?_
  show Steps p.tables e below (T1.setTop { method := m, pc := pc + 3, locals := ls, stack := .ref T.heap.size :: rest, locked := none }) _
  jvm_step X₁.here [X₁.here.top, hexec, d3', Value.category]
  exact X₁.ldcStringW hexec (own := own) (text := text) (index := is) (a := sa) hown' hstr'.1 hstr'.2
    (g := { method := m, pc := pc + 4, locals := ls, stack := .ref T.heap.size :: .ref T.heap.size :: rest, locked := none }) rfl d4' _ hsteps
end Ends
section Bodies
variable {l : Launch}
theorem vx_ofW {y : MethodName} {ws ws' : List Cond} {rm : Room} {Pc : Array Value → State → Prop} {Qc : Array Value → State → Outcome → State → Prop} {XC : String → State → State → Prop} {mc ms : Nat} {free : Addr → Prop} {cc : ByteArray} {maxL : Nat} {ret : Option FieldType}
    (hy : plainName y.cls = true) (hw : ws = Cond.code y cc maxL ret :: ws')
    (body : ∀ p e s m args below meth c s₁, BodyLoose p l y (headSpec ws rm) cc maxL ret e s m args below meth c s₁ → c.maxLocals = maxL → (∀ x ∈ c.exceptionTable.toList, False) → Pc args s →
      W p l e (headSpec ws rm).room s m args below meth c s.heap [] 0 0 (vx_MQ below Qc XC args s mc ms free) (entryFrame m args maxL)) : vx_Met l y ws rm Pc Qc XC mc ms free := by
  refine MetFree.of_bodyS (code := cc) (maxLocals := maxL) (ret := ret) hy ?_ ?_
  · intro args s m h hn
    obtain ⟨meth, c, h1, h2, h3, h4, h5, h6, -, -⟩ := Cond.code_spec hn (atoms_spec (ws := ws) h _ (by rw [hw]; exact List.mem_cons_self))
    exact ⟨meth, c, h1, h2, h3, h4, h5, h6⟩
  · intro p e s m args below meth c s₁ B hml hP _
    have hh0 : s₁.heap = s.heap := by rw [B.state]; rfl
    have ht : ∀ x ∈ c.exceptionTable.toList, False := by
      obtain ⟨meth9, c9, h1, h2, -, -, -, -, h7, -⟩ := Cond.code_spec B.named (atoms_spec (ws := ws) B.pre _ (by rw [hw]; exact List.mem_cons_self))
      cases Option.some.inj (h1.symm.trans B.method)
      cases Option.some.inj (h2.symm.trans (Stand.of_body B).code)
      intro x hx
      rw [Array.isEmpty_iff.mp h7] at hx
      cases hx
    obtain ⟨t, a1, o, b1, b2, b3⟩ := body p e s m args below meth c s₁ B hml ht hP s₁ hh0 (Stand.of_body B)
    exact ⟨t, o, a1, b1, b2, b3⟩
/-- the table of a body with handlers -/
theorem vx_table {p : Program} {x y : MethodName} {S : Spec} {cc bytes : ByteArray} {maxL maxL' : Nat} {ret ret' : Option FieldType} {e : Env} {s s₁ : State} {m : MethodId} {args : Array Value} {below : List Frame} {meth : Method} {c : Code} {hh : List (Nat × Nat × Nat × Nat)}
    (B : BodyLoose p l y S cc maxL ret e s m args below meth c s₁) (h : (Cond.codeWith y bytes maxL' ret' hh).before args s = true) : c.exceptionTable.toList = tableOf hh := by
  obtain ⟨m9, meth9, c9, hn9, h1, h2, -, -, h6, -⟩ := Cond.codeWith_spec h
  cases Option.some.inj (hn9.symm.trans B.named)
  cases Option.some.inj (h1.symm.trans B.method)
  cases Option.some.inj (h2.symm.trans (Stand.of_body B).code)
  rw [← h6, table_eq]
end Bodies
end VXA
/-! ===== END ===== -/
/-! ===== BEGIN a static call of a method with an exception table ===== -/
section VXS
variable {p : Program} {l : Launch} {e : Env} {R : Room} {s : State} {m : MethodId} {args : Array Value} {below : List Frame} {meth : Method} {c : Code} {T : State} {H : Heap} {locs : List Loc} {cells slots : Nat}
abbrev vx_CSW (R : Room) (s : State) (args : Array Value) (own : String) (index : Nat) (y : MethodName) (bytes : ByteArray) (maxL : Nat) (ret : Option FieldType) (hh : List (Nat × Nat × Nat × Nat)) (ws : List Cond) (rm : Room) (mc ms n : Nat) : Prop :=
  (rm.cells = mc ∧ rm.slots = ms ∧ rm.frames + 1 ≤ R.frames ∧ 8 + (maxL + 11) + rm.locals ≤ R.locals ∧ (∀ w ∈ ws, ∀ (a' : Array Value) (U : State), s.WarmedH U.vm → w.before a' U = true) ∧ Cond.codeWith y bytes maxL ret hh ∈ ws) ∧
  (Cond.codeWith y bytes maxL ret hh).before args s = true ∧ (Cond.initialized y.cls).before args s = true ∧ (y.cls ≠ "java/lang/invoke/MethodHandle" ∧ y.cls ≠ "java/lang/invoke/VarHandle") ∧
  (∀ sig, parseMethodDescriptor y.desc = some sig → n = sig.parameters.length) ∧ (Cond.methodLink own index y).before args s = true ∧ (Cond.static y).before args s = true
theorem vx_cwSW {own : String} {index maxL mc ms : Nat} {y : MethodName} {bytes : ByteArray} {ret : Option FieldType} {hh : List (Nat × Nat × Nat × Nat)} {Ts ws ws' : List Cond} {rm : Room} (n : Nat) (ht : ∀ w ∈ Ts, w.before args s = true) (hT : GoodIn Ts (va_wsS own index y ws)) (hw : ws = Cond.codeWith y bytes maxL ret hh :: ws') (hrc : rm.cells = mc) (hrs : rm.slots = ms)
    (hd : y.cls ≠ "java/lang/invoke/MethodHandle" ∧ y.cls ≠ "java/lang/invoke/VarHandle" ∧ (parseMethodDescriptor y.desc).map (fun d => d.parameters.length) = some n) (hR : rm.frames + 1 ≤ R.frames ∧ 8 + (maxL + 11) + rm.locals ≤ R.locals) :
    vx_CSW R s args own index y bytes maxL ret hh ws rm mc ms n := by
  have ok : ∀ w ∈ va_wsS own index y ws, w.before args s = true := fun w h => ht w (hT w h).1
  have hG : GoodIn Ts ws := fun w h => hT w (by unfold va_wsS; exact List.mem_append_right _ h)
  have hc : Cond.codeWith y bytes maxL ret hh ∈ ws := by rw [hw]; exact List.mem_cons_self
  refine ⟨⟨hrc, hrs, hR.1, hR.2, pay_in ht hG, hc⟩, ht _ (hG _ hc).1, ok _ (by simp [va_wsS]), ⟨hd.1, hd.2.1⟩, fun sig h => ?_, ok _ (by simp [va_wsS]), ok _ (by simp [va_wsS])⟩
  have h2 := hd.2.2
  rw [h] at h2
  exact (Option.some.inj h2).symm
theorem vx_callSW (X : Stand p l e R s m args below meth c T locs cells slots) (hexec : p.tables.exec = Jvm.exec) {own : String} {index : Nat} {y : MethodName} {bytes : ByteArray} {maxL : Nat} {ret : Option FieldType} {hh : List (Nat × Nat × Nat × Nat)}
    (hown : s.vm.findClass own = some m.cls) (hlink : (Cond.methodLink own index y).before args s = true) (hstat : (Cond.static y).before args s = true) (hinit : (Cond.initialized y.cls).before args s = true)
    (hcode : (Cond.codeWith y bytes maxL ret hh).before args s = true) (hy : y.cls ≠ "java/lang/invoke/MethodHandle" ∧ y.cls ≠ "java/lang/invoke/VarHandle")
    {W9 : Nat} {Pre : Pt → Array Value → Prop} {Post : Pt → Array Value → Option Value → Pt → Prop} (hK : Back l R p e below s args y 3 W9 Pre Post)
    {g : JFrame} (hg : g.method = m) (hsize : g.locals.size = c.maxLocals) {argsL rest : List Value} (hlen : ∀ sig, parseMethodDescriptor y.desc = some sig → argsL.length = sig.parameters.length)
    (hstack : g.stack = argsL.reverse ++ rest) (hW : 2 * g.monitorRoom + (rest.map fun v => v.category).sum ≤ W9) (hdg : decode c.code g.pc = .ok (.invokestatic index, 3))
    (hpre : ∀ vm₁, s.WarmedH vm₁ → Pre ⟨T.setVm vm₁, locs, cells, slots⟩ argsL.toArray) :
    ∃ (v : Option Value) (vm₁ : Vm) (B : Pt), s.WarmedH vm₁ ∧ Stand p l e R s m args below meth c B.U B.locs B.cells B.slots ∧ Post ⟨T.setVm vm₁, locs, cells, slots⟩ argsL.toArray v B ∧
      ∀ target, Steps p.tables e below (B.U.setTop { g with pc := g.pc + 3, stack := v.toList ++ rest }) target → Steps p.tables e below (T.setTop g) target := by
  obtain ⟨mk, methM, cM, hnamed, hmethM, -, -, -, -, -, -, hsigM⟩ := Cond.codeWith_spec hcode
  have hstatic : methM.isStatic = true := Cond.static_spec hnamed hmethM hstat
  obtain ⟨kP, hkP, -⟩ := className_of_methodNamed hnamed
  have hinitP : kP.init = .initialized := Cond.initialized_spec (findClass_of_methodNamed hnamed) hkP hinit
  obtain ⟨vm₁, X₁, hstep₁⟩ := X.invokestatic hexec hown hlink hnamed hmethM hstatic hkP hinitP hy (g := g) hg (argsL := argsL) (rest := rest) (hlen _ hsigM) hstack hdg
  obtain ⟨v, B, X', hpost, hsteps⟩ := hK m meth c ⟨T.setVm vm₁, locs, cells, slots⟩ { g with stack := rest } (.invokestatic index) mk argsL.toArray X₁ hg hsize hdg hW (X₁.named hnamed) (hpre vm₁ X₁.warmed)
  exact ⟨v, vm₁, B, X₁.warmed, X', hpost, fun target h => hstep₁ _ fun acts => by rw [doInvoke_state]; exact hsteps.trans h⟩
theorem vx_runSW {y : MethodName} {bytes cc : ByteArray} {maxL nL mc ms n index : Nat} {ret : Option FieldType} {hh : List (Nat × Nat × Nat × Nat)} {ws : List Cond} {rm : Room} {Pc : Array Value → State → Prop} {Qc : Array Value → State → Outcome → State → Prop} {free : Addr → Prop} {Ts : List Cond} {own : String} {As rest : List Value} {g : JFrame}
    (S : CallFix p m c cc nL s args Ts own) (hM : Met l y ws rm Pc Qc mc ms free) (cw : vx_CSW R s args own index y bytes maxL ret hh ws rm mc ms n) (hp : PreS s H Pc As)
    (hg : g.method = m) (hn : As.length = n) (hsize : g.locals.size = nL) (hstack : g.stack = As.reverse ++ rest) (hW : 2 * g.monitorRoom + (rest.map fun v => v.category).sum ≤ 8) (hdg : decode cc g.pc = .ok (.invokestatic index, 3)) (hf : cells + mc ≤ R.cells ∧ slots + ms ≤ R.slots) :
    va_Run p l e R s m args below meth c H locs cells slots mc ms g rest (Qc As.toArray) (free) := by
  obtain ⟨⟨hrc, hrs, hfr, hlo, hws, hcw⟩, hcode, hini, hy, hlen, hl, hstt⟩ := cw
  have hK : Back l R p e below s args y 3 8 (PreOf R mc ms Pc) (PostOf Qc mc ms free) := va_backW (hh := hh) (bytes := bytes) (maxL := maxL) (ret := ret) hM hp.1 hrc hrs hfr hlo hws hcw (fun a' U hW => word_at hW (Or.inl (by first | rfl | simp [Cond.onTables, Cond.keeps, Cond.steady])) hini)
  obtain ⟨hx, hb, hml, ho, -⟩ := S
  intro T hT X
  obtain ⟨v, vm₁, ⟨U', l2, c2, s2⟩, hW₁, X', ⟨g', mk, t, L, e1, e2, hq, h1, hL, h2, h3⟩, st⟩ := vx_callSW X hx (hh := hh) (bytes := bytes) (maxL := maxL) (ret := ret) ho hl hstt hini hcode hy hK hg (hsize.trans hml.symm) (argsL := As) (rest := rest) (fun sig h => hn.trans (hlen sig h)) hstack hW (by rw [hb]; exact hdg)
    (fun vm₁ hW₁ => ⟨hf.1, hf.2, hp.2 (T.setVm vm₁) hT hW₁⟩)
  dsimp only [Pt.U, Pt.locs, Pt.cells, Pt.slots] at X' e1 e2 h1 h2 h3 st
  subst h1; subst h2; subst h3
  exact ⟨v, (T.setVm vm₁).calling g' mk As.toArray, t, U', L, hT, X', hL, e1, e2, hq, st⟩
/-- a thing of a world lies in the heap -/
theorem vx_lt {D : va_G} {cl : List vw_C} {ws : va_W} {H1 : Heap} (h : va_P D cl ws H1) {k : Nat} {q : Nat × va_E} (hk : ws[k]? = some q) : q.1 < H1.size := (h k q hk).lt
end VXS
/-! ===== END ===== -/
/-! ===== BEGIN methods with a table of their own: called by a name, returning or throwing ===== -/
section VXH
/-! vx_backW, vx_callVX, vx_callSX, vx_callVW, vx_runVW, vx_runVX, vx_runSX, vx_ofWH follow the same proofs as their sisters above (Free/Laws.lean, Shelf42/LK1.lean); vx_outP calls Shelf42/NT130.lean (outThrough). -/
section
variable {l : Launch} {R : Room} {p : Program} {e : Env} {below : List Frame} {s : State} {sargs : Array Value} {y : MethodName} {len W9 : Nat}
theorem vx_backW {ws : List Cond} {rm : Room} {Pc : Array Value → State → Prop} {Qc : Array Value → State → Outcome → State → Prop} {XC : String → State → State → Prop} {mc ms : Nat} {free : Addr → Prop} {bytes : ByteArray} {maxL : Nat} {ret : Option FieldType} {hh : List (Nat × Nat × Nat × Nat)}
    (hM : vx_Met l y ws rm Pc Qc XC mc ms free) (hblind : FrameBlind Pc) (hrc : rm.cells = mc) (hrs : rm.slots = ms)
    (hframes : rm.frames + 1 ≤ R.frames) (hlocals : W9 + (maxL + 11) + rm.locals ≤ R.locals)
    (hws : ∀ w ∈ ws, ∀ a' U, s.WarmedH U.vm → w.before a' U = true) (hcode : Cond.codeWith y bytes maxL ret hh ∈ ws) (hinit : ∀ a' U, s.WarmedH U.vm → (Cond.initialized y.cls).before a' U = true) :
    vx_Back l R p e below s sargs y len W9 (PreOf R mc ms Pc) (PostOf Qc mc ms free) (vx_Post XC mc ms free) := by
  intro m meth c A g ig mk a X hg hsize hdg hW hn hp
  have h1 : (headSpec ws rm).pre.before a A.U = true := atoms_intro fun w hw => hws w hw _ _ X.warmed
  have h2 : (Cond.codeWith y bytes maxL ret hh).before a A.U = true := hws _ hcode _ _ X.warmed
  have h3 : (Cond.initialized y.cls).before a A.U = true := hinit _ _ X.warmed
  have h4 : A.cells + (headSpec ws rm).room.cells ≤ R.cells := by rw [show (headSpec ws rm).room.cells = mc from hrc]; exact hp.1
  have h5 : A.slots + (headSpec ws rm).room.slots ≤ R.slots := by rw [show (headSpec ws rm).room.slots = ms from hrs]; exact hp.2.1
  have hPc : Pc a (A.U.calling g mk a) := hblind _ _ _ _ hp.2.2
  obtain ⟨U, Ls, c0, s0⟩ := A
  dsimp only [Pt.U, Pt.locs, Pt.cells, Pt.slots] at h1 h2 h3 h4 h5 X hn hPc ⊢
  obtain ⟨m9, methY, cY, hn9, hmY, hcY, -, hlY, -⟩ := Cond.codeWith_spec h2
  cases Option.some.inj (hn9.symm.trans hn)
  obtain ⟨kY, hkY, -⟩ := className_of_methodNamed hn
  have hinitY : kY.init = .initialized := Cond.initialized_spec (findClass_of_methodNamed hn) hkY h3
  have h : At U g.method c below := by rw [hg]; exact X.here
  have hlocals9 : W9 + (maxL + 11) + (headSpec ws rm).room.locals ≤ R.locals := hlocals
  have happ : (headSpec ws rm).appliesLoose y e.platform (U.calling g mk a) = true :=
    Spec.appliesLoose_calling (g := g) h hdg hn hkY hinitY
      (X.room_calling (g := g) (R' := (headSpec ws rm).room) hsize hmY hcY hframes (by rw [hlY]; omega) h4 h5) h1
  obtain ⟨mid, hmid⟩ := h.above
  have hfr : (U.setTop g).frames = (.java g :: mid) ++ below := by rw [State.frames_setTop' g h.top, hmid]; rfl
  obtain ⟨o, s₂, hsteps, -, hend, hq⟩ := Steps.callFree hM p X.admits X.cas X.clock (acts := []) hfr happ hPc trivial
  have hq' : vx_Q Qc XC mc ms free a (U.calling g mk a) o s₂ := hq
  rw [State.frames_setTop' g h.top] at hend
  obtain ⟨g₀, hg0⟩ := Option.isSome_iff_exists.mp h.top
  obtain ⟨r, hr⟩ := State.topJava?_eq_some.mp hg0
  have hr' : (({ U with heap := s₂.heap, slotsUsed := s₂.slotsUsed } : State).setVm s₂.vm).frames = .java g₀ :: r := hr
  rcases hq' with ⟨hqc, L, hfe, hL⟩ | ⟨q, rfl, E, ce, L, hx, hce, hcv, hcl, hW₂, hsm, hL⟩
  · obtain ⟨⟨v, rfl⟩, hW₂, e2, q2, q3, q4, q5, q6⟩ := id hfe
    have e3 : s₂ = ({ (U.calling g mk a).setFrames s₂.frames with heap := s₂.heap, slotsUsed := s₂.slotsUsed } : State).setVm s₂.vm := by
      have : s₂ = ({ s₂ with vm := (U.calling g mk a).vm } : State).setVm s₂.vm := rfl
      rw [e2] at this
      exact this
    obtain ⟨c₂, i₂, len₂, hc₂, hd₂, hf₂⟩ := hend
    have hW' : U.WarmedH s₂.vm := hW₂
    have hcc : c₂ = c := by
      have h1 : s₂.code? g.method = U.code? g.method := by
        rw [State.code?_eq, State.code?_eq, hW'.alike.method?]
      exact Option.some.inj (hc₂.symm.trans (h1.trans h.code))
    subst hcc
    have hlen : len₂ = len := by rw [hdg] at hd₂; cases hd₂; rfl
    subst hlen
    have hs₂ : s₂ = (({ U with heap := s₂.heap, slotsUsed := s₂.slotsUsed } : State).setVm s₂.vm).setTop { g with pc := g.pc + len₂, stack := v.toList ++ g.stack } := by
      refine e3.trans ?_
      rw [hf₂, State.calling_eq h.top, State.setFrames_setFrames, State.setTop_of_frames _ hr', hr]
      rfl
    have hsame : U.sameButNew ({ U with heap := s₂.heap, slotsUsed := s₂.slotsUsed } : State) L mc ms := by
      refine ⟨?_, q2, q3, q4, q5, q6⟩
      obtain ⟨t, ht, -⟩ := State.frames_cons hr
      show ({ U with heap := s₂.heap, slotsUsed := s₂.slotsUsed } : State) = { U.setFrames U.frames with heap := s₂.heap, slotsUsed := s₂.slotsUsed }
      rw [State.setFrames_self ht]
    subst hg
    refine Or.inl ⟨v, ⟨(({ U with heap := s₂.heap, slotsUsed := s₂.slotsUsed } : State).setVm s₂.vm), Ls ++ L, c0 + mc, s0 + ms⟩,
      ⟨X.admits, X.cas, X.clock, X.frames, X.room, X.hears, X.method, X.code, (X.here.setHeapUsed s₂.heap s₂.slotsUsed).setVm hW'.alike, X.tail, State.WarmedH.trans X.warmed hW', X.limits, X.bytes, X.same.trans (hsame.setVm s.vm)⟩,
      ⟨g, mk, s₂, L, rfl, rfl, hqc, rfl, hL, rfl, rfl⟩, ?_⟩
    show Steps p.tables e below _ ((({ U with heap := s₂.heap, slotsUsed := s₂.slotsUsed } : State).setVm s₂.vm).setTop { g with pc := g.pc + len₂, stack := v.toList ++ g.stack })
    rw [← hs₂]
    exact hsteps
  · obtain ⟨e2, q2, q3, q4, q5, q6⟩ := id hsm
    have e3 : s₂ = ({ (U.calling g mk a).setFrames s₂.frames with heap := s₂.heap, slotsUsed := s₂.slotsUsed } : State).setVm s₂.vm := by
      have : s₂ = ({ s₂ with vm := (U.calling g mk a).vm } : State).setVm s₂.vm := rfl
      rw [e2] at this
      exact this
    have hf₂ : s₂.frames = .throwing q :: .java g :: U.frames.tail := hend
    have hW' : U.WarmedH s₂.vm := hW₂
    have hs₂ : s₂ = ((({ U with heap := s₂.heap, slotsUsed := s₂.slotsUsed } : State).setVm s₂.vm).setTop g).pushFrame (.throwing q) := by
      refine e3.trans ?_
      rw [hf₂, State.calling_eq h.top, State.setFrames_setFrames, State.pushFrame, State.frames_setTop _ hr', State.setTop_of_frames _ hr', State.setFrames_setFrames, hr]
      rfl
    have hsame : U.sameButNew ({ U with heap := s₂.heap, slotsUsed := s₂.slotsUsed } : State) L mc ms := by
      refine ⟨?_, q2, q3, q4, q5, q6⟩
      obtain ⟨t, ht, -⟩ := State.frames_cons hr
      show ({ U with heap := s₂.heap, slotsUsed := s₂.slotsUsed } : State) = { U.setFrames U.frames with heap := s₂.heap, slotsUsed := s₂.slotsUsed }
      rw [State.setFrames_self ht]
    subst hg
    refine Or.inr ⟨q, ⟨(({ U with heap := s₂.heap, slotsUsed := s₂.slotsUsed } : State).setVm s₂.vm), Ls ++ L, c0 + mc, s0 + ms⟩,
      ⟨X.admits, X.cas, X.clock, X.frames, X.room, X.hears, X.method, X.code, (X.here.setHeapUsed s₂.heap s₂.slotsUsed).setVm hW'.alike, X.tail, State.WarmedH.trans X.warmed hW', X.limits, X.bytes, X.same.trans (hsame.setVm s.vm)⟩,
      ⟨g, mk, s₂, L, E, ce, rfl, rfl, hx, hce, hcv, hcl, rfl, hL, rfl, rfl⟩, ?_⟩
    show Steps p.tables e below _ (((({ U with heap := s₂.heap, slotsUsed := s₂.slotsUsed } : State).setVm s₂.vm).setTop g).pushFrame (.throwing q))
    rw [← hs₂]
    exact hsteps
end
variable {p : Program} {l : Launch} {e : Env} {R : Room} {s : State} {m : MethodId} {args : Array Value} {below : List Frame} {meth : Method} {c : Code} {T : State} {H : Heap} {locs : List Loc} {cells slots : Nat}
theorem vx_callVX (X : Stand p l e R s m args below meth c T locs cells slots) (hexec : p.tables.exec = Jvm.exec) {own C : String} {index : Nat} {y : MethodName} {bytes : ByteArray} {maxL : Nat} {ret : Option FieldType} {hh : List (Nat × Nat × Nat × Nat)}
    (hown : s.vm.findClass own = some m.cls) (hlink : (Cond.methodLink own index y).before args s = true) (hinst : (Cond.instanceMethod y).before args s = true) (hsel : (Cond.selects C y y).before args s = true)
    (hcode : (Cond.codeWith y bytes maxL ret hh).before args s = true) (hy : y.cls ≠ "java/lang/invoke/MethodHandle" ∧ y.cls ≠ "java/lang/invoke/VarHandle")
    {W9 : Nat} {Pre : Pt → Array Value → Prop} {Post : Pt → Array Value → Option Value → Pt → Prop} {PostX : Pt → Array Value → Addr → Pt → Prop} (hK : vx_Back l R p e below s args y 3 W9 Pre Post PostX)
    {b : Addr} {cellB : Cell} (hcell : T.heap[b]? = some cellB) (hobj : cellB.vm.isStatics = false) (hcls : s.vm.findClass C = some cellB.cls)
    {g : JFrame} (hg : g.method = m) (hsize : g.locals.size = c.maxLocals) {argsL rest : List Value} (hlen : ∀ sig, parseMethodDescriptor y.desc = some sig → argsL.length = sig.parameters.length)
    (hstack : g.stack = argsL.reverse ++ .ref b :: rest) (hW : 2 * g.monitorRoom + (rest.map fun v => v.category).sum ≤ W9) (hdg : decode c.code g.pc = .ok (.invokevirtual index, 3))
    (hpre : ∀ vm₁, s.WarmedH vm₁ → Pre ⟨T.setVm vm₁, locs, cells, slots⟩ (Value.ref b :: argsL).toArray) :
    (∃ (v : Option Value) (vm₁ : Vm) (B : Pt), s.WarmedH vm₁ ∧ Stand p l e R s m args below meth c B.U B.locs B.cells B.slots ∧ Post ⟨T.setVm vm₁, locs, cells, slots⟩ (Value.ref b :: argsL).toArray v B ∧
      ∀ target, Steps p.tables e below (B.U.setTop { g with pc := g.pc + 3, stack := v.toList ++ rest }) target → Steps p.tables e below (T.setTop g) target) ∨
    (∃ (q : Addr) (vm₁ : Vm) (B : Pt), s.WarmedH vm₁ ∧ Stand p l e R s m args below meth c B.U B.locs B.cells B.slots ∧ PostX ⟨T.setVm vm₁, locs, cells, slots⟩ (Value.ref b :: argsL).toArray q B ∧
      Steps p.tables e below (T.setTop g) ((B.U.setTop { g with stack := rest }).pushFrame (.throwing q))) := by
  obtain ⟨mk, methM, hnamed, hmethM, hstM, habM⟩ := Cond.instanceMethod_spec hinst
  obtain ⟨m8, methM', cM, hn8, hmethM', -, -, -, -, -, -, hsigM⟩ := Cond.codeWith_spec hcode
  cases Option.some.inj (hn8.symm.trans hnamed)
  cases hmethM.symm.trans hmethM'
  obtain ⟨c2, r2, m2, q1, q2, q3, q4, kP, hkP, hkPi⟩ := Cond.selects_spec hsel
  cases hcls.symm.trans q1
  cases (State.methodFound?_of_named hnamed hy).symm.trans q2
  cases hnamed.symm.trans q3
  have hselP : selectMethod e.platform s.vm cellB.cls mk = .method mk := by rw [Launch.admits_selectMethod X.admits]; exact q4
  obtain ⟨vm₁, X₁, hstep₁⟩ := X.invokevirtual hexec hown hlink hnamed hmethM hstM hkP hkPi hy (a := b) (cell := cellB) hcell
    (fun z h => by rw [h] at hobj; cases hobj) hselP hmethM habM hkP hkPi (g := g) hg (argsL := argsL) (rest := rest) (hlen _ hsigM) hstack hdg
  rcases hK m meth c ⟨T.setVm vm₁, locs, cells, slots⟩ { g with stack := rest } (.invokevirtual index) mk (Value.ref b :: argsL).toArray X₁ hg hsize hdg hW (X₁.named hnamed) (hpre vm₁ X₁.warmed) with ⟨v, B, X', hpost, hsteps⟩ | ⟨q, B, X', hpost, hsteps⟩
  · exact Or.inl ⟨v, vm₁, B, X₁.warmed, X', hpost, fun target h => hstep₁ _ fun acts => by rw [doInvoke_state]; exact hsteps.trans h⟩
  · exact Or.inr ⟨q, vm₁, B, X₁.warmed, X', hpost, hstep₁ _ fun acts => by rw [doInvoke_state]; exact hsteps⟩
theorem vx_callSX (X : Stand p l e R s m args below meth c T locs cells slots) (hexec : p.tables.exec = Jvm.exec) {own : String} {index : Nat} {y : MethodName} {bytes : ByteArray} {maxL : Nat} {ret : Option FieldType} {hh : List (Nat × Nat × Nat × Nat)}
    (hown : s.vm.findClass own = some m.cls) (hlink : (Cond.methodLink own index y).before args s = true) (hstat : (Cond.static y).before args s = true) (hinit : (Cond.initialized y.cls).before args s = true)
    (hcode : (Cond.codeWith y bytes maxL ret hh).before args s = true) (hy : y.cls ≠ "java/lang/invoke/MethodHandle" ∧ y.cls ≠ "java/lang/invoke/VarHandle")
    {W9 : Nat} {Pre : Pt → Array Value → Prop} {Post : Pt → Array Value → Option Value → Pt → Prop} {PostX : Pt → Array Value → Addr → Pt → Prop} (hK : vx_Back l R p e below s args y 3 W9 Pre Post PostX)
    {g : JFrame} (hg : g.method = m) (hsize : g.locals.size = c.maxLocals) {argsL rest : List Value} (hlen : ∀ sig, parseMethodDescriptor y.desc = some sig → argsL.length = sig.parameters.length)
    (hstack : g.stack = argsL.reverse ++ rest) (hW : 2 * g.monitorRoom + (rest.map fun v => v.category).sum ≤ W9) (hdg : decode c.code g.pc = .ok (.invokestatic index, 3))
    (hpre : ∀ vm₁, s.WarmedH vm₁ → Pre ⟨T.setVm vm₁, locs, cells, slots⟩ argsL.toArray) :
    (∃ (v : Option Value) (vm₁ : Vm) (B : Pt), s.WarmedH vm₁ ∧ Stand p l e R s m args below meth c B.U B.locs B.cells B.slots ∧ Post ⟨T.setVm vm₁, locs, cells, slots⟩ argsL.toArray v B ∧
      ∀ target, Steps p.tables e below (B.U.setTop { g with pc := g.pc + 3, stack := v.toList ++ rest }) target → Steps p.tables e below (T.setTop g) target) ∨
    (∃ (q : Addr) (vm₁ : Vm) (B : Pt), s.WarmedH vm₁ ∧ Stand p l e R s m args below meth c B.U B.locs B.cells B.slots ∧ PostX ⟨T.setVm vm₁, locs, cells, slots⟩ argsL.toArray q B ∧
      Steps p.tables e below (T.setTop g) ((B.U.setTop { g with stack := rest }).pushFrame (.throwing q))) := by
  obtain ⟨mk, methM, cM, hnamed, hmethM, -, -, -, -, -, -, hsigM⟩ := Cond.codeWith_spec hcode
  have hstatic : methM.isStatic = true := Cond.static_spec hnamed hmethM hstat
  obtain ⟨kP, hkP, -⟩ := className_of_methodNamed hnamed
  have hinitP : kP.init = .initialized := Cond.initialized_spec (findClass_of_methodNamed hnamed) hkP hinit
  obtain ⟨vm₁, X₁, hstep₁⟩ := X.invokestatic hexec hown hlink hnamed hmethM hstatic hkP hinitP hy (g := g) hg (argsL := argsL) (rest := rest) (hlen _ hsigM) hstack hdg
  rcases hK m meth c ⟨T.setVm vm₁, locs, cells, slots⟩ { g with stack := rest } (.invokestatic index) mk argsL.toArray X₁ hg hsize hdg hW (X₁.named hnamed) (hpre vm₁ X₁.warmed) with ⟨v, B, X', hpost, hsteps⟩ | ⟨q, B, X', hpost, hsteps⟩
  · exact Or.inl ⟨v, vm₁, B, X₁.warmed, X', hpost, fun target h => hstep₁ _ fun acts => by rw [doInvoke_state]; exact hsteps.trans h⟩
  · exact Or.inr ⟨q, vm₁, B, X₁.warmed, X', hpost, hstep₁ _ fun acts => by rw [doInvoke_state]; exact hsteps⟩
theorem vx_callVW (X : Stand p l e R s m args below meth c T locs cells slots) (hexec : p.tables.exec = Jvm.exec) {own C : String} {index : Nat} {y : MethodName} {bytes : ByteArray} {maxL : Nat} {ret : Option FieldType} {hh : List (Nat × Nat × Nat × Nat)}
    (hown : s.vm.findClass own = some m.cls) (hlink : (Cond.methodLink own index y).before args s = true) (hinst : (Cond.instanceMethod y).before args s = true) (hsel : (Cond.selects C y y).before args s = true)
    (hcode : (Cond.codeWith y bytes maxL ret hh).before args s = true) (hy : y.cls ≠ "java/lang/invoke/MethodHandle" ∧ y.cls ≠ "java/lang/invoke/VarHandle")
    {W9 : Nat} {Pre : Pt → Array Value → Prop} {Post : Pt → Array Value → Option Value → Pt → Prop} (hK : Back l R p e below s args y 3 W9 Pre Post)
    {b : Addr} {cellB : Cell} (hcell : T.heap[b]? = some cellB) (hobj : cellB.vm.isStatics = false) (hcls : s.vm.findClass C = some cellB.cls)
    {g : JFrame} (hg : g.method = m) (hsize : g.locals.size = c.maxLocals) {argsL rest : List Value} (hlen : ∀ sig, parseMethodDescriptor y.desc = some sig → argsL.length = sig.parameters.length)
    (hstack : g.stack = argsL.reverse ++ .ref b :: rest) (hW : 2 * g.monitorRoom + (rest.map fun v => v.category).sum ≤ W9) (hdg : decode c.code g.pc = .ok (.invokevirtual index, 3))
    (hpre : ∀ vm₁, s.WarmedH vm₁ → Pre ⟨T.setVm vm₁, locs, cells, slots⟩ (Value.ref b :: argsL).toArray) :
    ∃ (v : Option Value) (vm₁ : Vm) (B : Pt), s.WarmedH vm₁ ∧ Stand p l e R s m args below meth c B.U B.locs B.cells B.slots ∧ Post ⟨T.setVm vm₁, locs, cells, slots⟩ (Value.ref b :: argsL).toArray v B ∧
      ∀ target, Steps p.tables e below (B.U.setTop { g with pc := g.pc + 3, stack := v.toList ++ rest }) target → Steps p.tables e below (T.setTop g) target := by
  obtain ⟨mk, methM, hnamed, hmethM, hstM, habM⟩ := Cond.instanceMethod_spec hinst
  obtain ⟨m8, methM', cM, hn8, hmethM', -, -, -, -, -, -, hsigM⟩ := Cond.codeWith_spec hcode
  cases Option.some.inj (hn8.symm.trans hnamed)
  cases hmethM.symm.trans hmethM'
  obtain ⟨c2, r2, m2, q1, q2, q3, q4, kP, hkP, hkPi⟩ := Cond.selects_spec hsel
  cases hcls.symm.trans q1
  cases (State.methodFound?_of_named hnamed hy).symm.trans q2
  cases hnamed.symm.trans q3
  have hselP : selectMethod e.platform s.vm cellB.cls mk = .method mk := by rw [Launch.admits_selectMethod X.admits]; exact q4
  obtain ⟨vm₁, X₁, hstep₁⟩ := X.invokevirtual hexec hown hlink hnamed hmethM hstM hkP hkPi hy (a := b) (cell := cellB) hcell
    (fun z h => by rw [h] at hobj; cases hobj) hselP hmethM habM hkP hkPi (g := g) hg (argsL := argsL) (rest := rest) (hlen _ hsigM) hstack hdg
  obtain ⟨v, B, X', hpost, hsteps⟩ := hK m meth c ⟨T.setVm vm₁, locs, cells, slots⟩ { g with stack := rest } (.invokevirtual index) mk (Value.ref b :: argsL).toArray X₁ hg hsize hdg hW (X₁.named hnamed) (hpre vm₁ X₁.warmed)
  exact ⟨v, vm₁, B, X₁.warmed, X', hpost, fun target h => hstep₁ _ fun acts => by rw [doInvoke_state]; exact hsteps.trans h⟩
abbrev vx_CVW (R : Room) (s : State) (args : Array Value) (own C : String) (index : Nat) (y : MethodName) (bytes : ByteArray) (maxL : Nat) (ret : Option FieldType) (hh : List (Nat × Nat × Nat × Nat)) (ws : List Cond) (rm : Room) (mc ms n : Nat) : Prop :=
  (rm.cells = mc ∧ rm.slots = ms ∧ rm.frames + 1 ≤ R.frames ∧ 8 + (maxL + 11) + rm.locals ≤ R.locals ∧ (∀ w ∈ ws, ∀ (a' : Array Value) (U : State), s.WarmedH U.vm → w.before a' U = true) ∧ Cond.codeWith y bytes maxL ret hh ∈ ws) ∧
  (Cond.codeWith y bytes maxL ret hh).before args s = true ∧ (Cond.initialized y.cls).before args s = true ∧ (y.cls ≠ "java/lang/invoke/MethodHandle" ∧ y.cls ≠ "java/lang/invoke/VarHandle") ∧
  (∀ sig, parseMethodDescriptor y.desc = some sig → n = sig.parameters.length) ∧ (Cond.methodLink own index y).before args s = true ∧ (Cond.instanceMethod y).before args s = true ∧ (Cond.selects C y y).before args s = true
theorem vx_cwVW {own C : String} {index maxL mc ms : Nat} {y : MethodName} {bytes : ByteArray} {ret : Option FieldType} {hh : List (Nat × Nat × Nat × Nat)} {Ts ws ws' : List Cond} {rm : Room} (n : Nat) (ht : ∀ w ∈ Ts, w.before args s = true) (hT : GoodIn Ts (wsV own index C y ws)) (hw : ws = Cond.codeWith y bytes maxL ret hh :: ws') (hrc : rm.cells = mc) (hrs : rm.slots = ms)
    (hd : y.cls = C ∧ y.cls ≠ "java/lang/invoke/MethodHandle" ∧ y.cls ≠ "java/lang/invoke/VarHandle" ∧ (parseMethodDescriptor y.desc).map (fun d => d.parameters.length) = some n) (hR : rm.frames + 1 ≤ R.frames ∧ 8 + (maxL + 11) + rm.locals ≤ R.locals) :
    vx_CVW R s args own C index y bytes maxL ret hh ws rm mc ms n := by
  obtain ⟨hC, hd⟩ := hd
  subst hC
  have ok : ∀ w ∈ wsV own index y.cls y ws, w.before args s = true := fun w h => ht w (hT w h).1
  have hG : GoodIn Ts ws := fun w h => hT w (by unfold wsV; exact List.mem_append_right _ h)
  have hc : Cond.codeWith y bytes maxL ret hh ∈ ws := by rw [hw]; exact List.mem_cons_self
  refine ⟨⟨hrc, hrs, hR.1, hR.2, pay_in ht hG, hc⟩, ht _ (hG _ hc).1, ok _ (by simp [wsV]), ⟨hd.1, hd.2.1⟩, fun sig h => ?_, ok _ (by simp [wsV]), ok _ (by simp [wsV]), ok _ (by simp [wsV])⟩
  have h2 := hd.2.2
  rw [h] at h2
  exact (Option.some.inj h2).symm
theorem vx_runVW {y : MethodName} {bytes cc : ByteArray} {maxL nL mc ms n index : Nat} {ret : Option FieldType} {hh : List (Nat × Nat × Nat × Nat)} {ws : List Cond} {rm : Room} {Pc : Array Value → State → Prop} {Qc : Array Value → State → Outcome → State → Prop} {free : Addr → Prop} {Ts : List Cond} {own C : String} {b : Addr} {As rest : List Value} {g : JFrame}
    (S : CallFix p m c cc nL s args Ts own) (hM : Met l y ws rm Pc Qc mc ms free) (cw : vx_CVW R s args own C index y bytes maxL ret hh ws rm mc ms n) (hp : PreV s H C b Pc As)
    (hg : g.method = m) (hn : As.length = n) (hsize : g.locals.size = nL) (hstack : g.stack = As.reverse ++ .ref b :: rest) (hW : 2 * g.monitorRoom + (rest.map fun v => v.category).sum ≤ 8) (hdg : decode cc g.pc = .ok (.invokevirtual index, 3)) (hf : cells + mc ≤ R.cells ∧ slots + ms ≤ R.slots) :
    va_Run p l e R s m args below meth c H locs cells slots mc ms g rest (Qc (Value.ref b :: As).toArray) free := by
  obtain ⟨⟨hrc, hrs, hfr, hlo, hws, hcw⟩, hcode, hini, hy, hlen, hl, hin, hse⟩ := cw
  have hK : Back l R p e below s args y 3 8 (PreOf R mc ms Pc) (PostOf Qc mc ms free) := va_backW (hh := hh) (bytes := bytes) (maxL := maxL) (ret := ret) hM hp.1 hrc hrs hfr hlo hws hcw (fun a' U hW => word_at hW (Or.inl (by first | rfl | simp [Cond.onTables, Cond.keeps, Cond.steady])) hini)
  obtain ⟨hx, hb, hml, ho, -⟩ := S
  obtain ⟨-, ⟨cellB, hcB, hoB, hclB⟩, hPc⟩ := hp
  intro T hT X
  obtain ⟨v, vm₁, ⟨U', l2, c2, s2⟩, hW₁, X', ⟨g', mk, t, L, e1, e2, hq, h1, hL, h2, h3⟩, st⟩ := vx_callVW X hx (C := C) (hh := hh) (bytes := bytes) (maxL := maxL) (ret := ret) ho hl hin hse hcode hy hK (by rw [hT]; exact hcB) hoB hclB hg (hsize.trans hml.symm) (argsL := As) (rest := rest) (fun sig h => hn.trans (hlen sig h)) hstack hW (by rw [hb]; exact hdg)
    (fun vm₁ hW₁ => ⟨hf.1, hf.2, hPc (T.setVm vm₁) hT hW₁⟩)
  dsimp only [Pt.U, Pt.locs, Pt.cells, Pt.slots] at X' e1 e2 h1 h2 h3 st
  subst h1; subst h2; subst h3
  exact ⟨v, (T.setVm vm₁).calling g' mk (Value.ref b :: As).toArray, t, U', L, hT, X', hL, e1, e2, hq, st⟩
section
variable {y : MethodName} {bytes cc : ByteArray} {maxL nL mc ms n index : Nat} {ret : Option FieldType} {ws : List Cond} {rm : Room} {Pc : Array Value → State → Prop} {Qc : Array Value → State → Outcome → State → Prop} {XC : String → State → State → Prop} {free : Addr → Prop} {Ts : List Cond} {own C : String} {b : Addr} {As rest : List Value} {g : JFrame}
theorem vx_runVX {hh : List (Nat × Nat × Nat × Nat)} (S : CallFix p m c cc nL s args Ts own) (hM : vx_Met l y ws rm Pc Qc XC mc ms free) (cw : vx_CVW R s args own C index y bytes maxL ret hh ws rm mc ms n) (hp : PreV s H C b Pc As)
    (hg : g.method = m) (hn : As.length = n) (hsize : g.locals.size = nL) (hstack : g.stack = As.reverse ++ .ref b :: rest) (hW : 2 * g.monitorRoom + (rest.map fun v => v.category).sum ≤ 8) (hdg : decode cc g.pc = .ok (.invokevirtual index, 3)) (hf : cells + mc ≤ R.cells ∧ slots + ms ≤ R.slots) :
    vx_Run p l e R s m args below meth c H locs cells slots mc ms g rest (Qc (Value.ref b :: As).toArray) XC free := by
  obtain ⟨⟨hrc, hrs, hfr, hlo, hws, hcw⟩, hcode, hini, hy, hlen, hl, hin, hse⟩ := cw
  have hK : vx_Back l R p e below s args y 3 8 (PreOf R mc ms Pc) (PostOf Qc mc ms free) (vx_Post XC mc ms free) := vx_backW (hh := hh) (bytes := bytes) (maxL := maxL) (ret := ret) hM hp.1 hrc hrs hfr hlo hws hcw (fun a' U hW => word_at hW (Or.inl (by first | rfl | simp [Cond.onTables, Cond.keeps, Cond.steady])) hini)
  obtain ⟨hx, hb, hml, ho, -⟩ := S
  obtain ⟨-, ⟨cellB, hcB, hoB, hclB⟩, hPc⟩ := hp
  intro T hT X
  rcases vx_callVX X hx (C := C) (hh := hh) (bytes := bytes) (maxL := maxL) (ret := ret) ho hl hin hse hcode hy hK (by rw [hT]; exact hcB) hoB hclB hg (hsize.trans hml.symm) (argsL := As) (rest := rest) (fun sig h => hn.trans (hlen sig h)) hstack hW (by rw [hb]; exact hdg)
    (fun vm₁ hW₁ => ⟨hf.1, hf.2, hPc (T.setVm vm₁) hT hW₁⟩) with ⟨v, vm₁, ⟨U', l2, c2, s2⟩, hW₁, X', ⟨g', mk, t, L, e1, e2, hq, h1, hL, h2, h3⟩, st⟩ | ⟨q, vm₁, ⟨U', l2, c2, s2⟩, hW₁, X', ⟨g', mk, t, L, E, ce, e1, e2, hq, hce, hcv, hcl, h1, hL, h2, h3⟩, st⟩
  · dsimp only [Pt.U, Pt.locs, Pt.cells, Pt.slots] at X' e1 e2 h1 h2 h3 st
    subst h1; subst h2; subst h3
    exact Or.inl ⟨v, (T.setVm vm₁).calling g' mk (Value.ref b :: As).toArray, t, U', L, hT, X', hL, e1, e2, hq, st⟩
  · dsimp only [Pt.U, Pt.locs, Pt.cells, Pt.slots] at X' e1 e2 h1 h2 h3 st hcl
    subst h1; subst h2; subst h3
    exact Or.inr ⟨q, (T.setVm vm₁).calling g' mk (Value.ref b :: As).toArray, t, U', L, E, ce, hT, X', hL, e1, e2, hq, hce, hcv, vx_cls hW₁ hcl, st⟩
theorem vx_runSX {hh : List (Nat × Nat × Nat × Nat)} (S : CallFix p m c cc nL s args Ts own) (hM : vx_Met l y ws rm Pc Qc XC mc ms free) (cw : vx_CSW R s args own index y bytes maxL ret hh ws rm mc ms n) (hp : PreS s H Pc As)
    (hg : g.method = m) (hn : As.length = n) (hsize : g.locals.size = nL) (hstack : g.stack = As.reverse ++ rest) (hW : 2 * g.monitorRoom + (rest.map fun v => v.category).sum ≤ 8) (hdg : decode cc g.pc = .ok (.invokestatic index, 3)) (hf : cells + mc ≤ R.cells ∧ slots + ms ≤ R.slots) :
    vx_Run p l e R s m args below meth c H locs cells slots mc ms g rest (Qc As.toArray) XC free := by
  obtain ⟨⟨hrc, hrs, hfr, hlo, hws, hcw⟩, hcode, hini, hy, hlen, hl, hstt⟩ := cw
  have hK : vx_Back l R p e below s args y 3 8 (PreOf R mc ms Pc) (PostOf Qc mc ms free) (vx_Post XC mc ms free) := vx_backW (hh := hh) (bytes := bytes) (maxL := maxL) (ret := ret) hM hp.1 hrc hrs hfr hlo hws hcw (fun a' U hW => word_at hW (Or.inl (by first | rfl | simp [Cond.onTables, Cond.keeps, Cond.steady])) hini)
  obtain ⟨hx, hb, hml, ho, -⟩ := S
  intro T hT X
  rcases vx_callSX X hx (hh := hh) (bytes := bytes) (maxL := maxL) (ret := ret) ho hl hstt hini hcode hy hK hg (hsize.trans hml.symm) (argsL := As) (rest := rest) (fun sig h => hn.trans (hlen sig h)) hstack hW (by rw [hb]; exact hdg)
    (fun vm₁ hW₁ => ⟨hf.1, hf.2, hp.2 (T.setVm vm₁) hT hW₁⟩) with ⟨v, vm₁, ⟨U', l2, c2, s2⟩, hW₁, X', ⟨g', mk, t, L, e1, e2, hq, h1, hL, h2, h3⟩, st⟩ | ⟨q, vm₁, ⟨U', l2, c2, s2⟩, hW₁, X', ⟨g', mk, t, L, E, ce, e1, e2, hq, hce, hcv, hcl, h1, hL, h2, h3⟩, st⟩
  · dsimp only [Pt.U, Pt.locs, Pt.cells, Pt.slots] at X' e1 e2 h1 h2 h3 st
    subst h1; subst h2; subst h3
    exact Or.inl ⟨v, (T.setVm vm₁).calling g' mk As.toArray, t, U', L, hT, X', hL, e1, e2, hq, st⟩
  · dsimp only [Pt.U, Pt.locs, Pt.cells, Pt.slots] at X' e1 e2 h1 h2 h3 st hcl
    subst h1; subst h2; subst h3
    exact Or.inr ⟨q, (T.setVm vm₁).calling g' mk As.toArray, t, U', L, E, ce, hT, X', hL, e1, e2, hq, hce, hcv, vx_cls hW₁ hcl, st⟩
end
end VXH
theorem vx_ofWH {l : Launch} {y : MethodName} {ws ws' : List Cond} {rm : Room} {Pc : Array Value → State → Prop} {Qc : Array Value → State → Outcome → State → Prop} {XC : String → State → State → Prop} {mc ms : Nat} {free : Addr → Prop} {cc : ByteArray} {maxL : Nat} {ret : Option FieldType} {hh : List (Nat × Nat × Nat × Nat)}
    (hy : plainName y.cls = true) (hw : ws = Cond.codeWith y cc maxL ret hh :: ws')
    (body : ∀ p e s m args below meth c s₁, BodyLoose p l y (headSpec ws rm) cc maxL ret e s m args below meth c s₁ → c.maxLocals = maxL → Pc args s →
      W p l e (headSpec ws rm).room s m args below meth c s.heap [] 0 0 (vx_MQ below Qc XC args s mc ms free) (entryFrame m args maxL)) : vx_Met l y ws rm Pc Qc XC mc ms free := by
  refine MetFree.of_bodyS (code := cc) (maxLocals := maxL) (ret := ret) hy ?_ ?_
  · intro args s m h hn
    obtain ⟨m9, meth, c, hn9, h1, h2, h3, h4, -, h5, h6, -⟩ := Cond.codeWith_spec (atoms_spec (ws := ws) h _ (by rw [hw]; exact List.mem_cons_self))
    cases hn.symm.trans hn9
    exact ⟨meth, c, h1, h2, h3, h4, h5, h6⟩
  · intro p e s m args below meth c s₁ B hml hP _
    have hh0 : s₁.heap = s.heap := by rw [B.state]; rfl
    obtain ⟨t, a1, o, b1, b2, b3⟩ := body p e s m args below meth c s₁ B hml hP s₁ hh0 (Stand.of_body B)
    exact ⟨t, o, a1, b1, b2, b3⟩
/-! ===== END ===== -/
end
section
/-! names: types, methods, instructions, words -/
def RS : String := "StorageCosts$State"
def RX : String := "StorageCosts"
def RM : String := "StorageCostsModel"
def RL : String := "StorageCostsLaw"
def RJ : String := "java/lang/Long"
def TS : u_T := fun k => match k with
  | 0 => ("StorageCosts$State", "values", "[J", true)
  | 1 => ("StorageCosts$State", "marks", "[J", true)
  | _ => ("StorageCosts$State", "refund", "I", false)
def tS : Nat → FieldType := fun k => match k with
  | 0 => .array .long
  | 1 => .array .long
  | _ => .int
theorem nmS : ∀ a, a < 3 → ∀ b, b < 3 → a ≠ b → (TS a).2.1 ≠ (TS b).2.1 := by decide +kernel
theorem tyS : ∀ k, k < 3 → parseFieldDescriptor (TS k).2.2.1 = some (tS k) := by decide +kernel
def TX : u_T := fun k => match k with
  | 0 => ("StorageCosts", "firsts", "[J", true)
  | 1 => ("StorageCosts", "states", "[LStorageCosts$State;", true)
  | _ => ("StorageCosts", "depth", "I", false)
def tX : Nat → FieldType := fun k => match k with
  | 0 => .array .long
  | 1 => .array (.object "StorageCosts$State")
  | _ => .int
theorem nmX : ∀ a, a < 3 → ∀ b, b < 3 → a ≠ b → (TX a).2.1 ≠ (TX b).2.1 := by decide +kernel
theorem tyX : ∀ k, k < 3 → parseFieldDescriptor (TX k).2.2.1 = some (tX k) := by decide +kernel
def TM : u_T := fun k => match k with
  | 0 => ("StorageCostsModel", "failed", "I", false)
  | 1 => ("StorageCostsModel", "kept", "[[J", true)
  | 2 => ("StorageCostsModel", "keptTouched", "[[Z", true)
  | 3 => ("StorageCostsModel", "keptRefund", "[I", true)
  | 4 => ("StorageCostsModel", "now", "[J", true)
  | 5 => ("StorageCostsModel", "firsts", "[J", true)
  | 6 => ("StorageCostsModel", "touched", "[Z", true)
  | 7 => ("StorageCostsModel", "refund", "I", false)
  | _ => ("StorageCostsModel", "depth", "I", false)
def tM : Nat → FieldType := fun k => match k with
  | 0 => .int
  | 1 => .array (.array .long)
  | 2 => .array (.array .boolean)
  | 3 => .array .int
  | 4 => .array .long
  | 5 => .array .long
  | 6 => .array .boolean
  | 7 => .int
  | _ => .int
theorem nmM : ∀ a, a < 9 → ∀ b, b < 9 → a ≠ b → (TM a).2.1 ≠ (TM b).2.1 := by decide +kernel
theorem tyM : ∀ k, k < 9 → parseFieldDescriptor (TM k).2.2.1 = some (tM k) := by decide +kernel
abbrev wCl : List vw_C := [(RS, TS, 3), (RX, TX, 3), (RM, TM, 9)]
abbrev b_X_init : ByteArray := prog_1_method_1_code
def y_X_init : MethodName := ⟨RX, "<init>", "()V"⟩
abbrev w_X_init : Cond := .code y_X_init b_X_init 2 (none)
abbrev b_S_init : ByteArray := prog_2_method_1_code
def y_S_init : MethodName := ⟨RS, "<init>", "()V"⟩
abbrev w_S_init : Cond := .code y_S_init b_S_init 1 (none)
abbrev b_X_begin : ByteArray := prog_1_method_2_code
def y_X_begin : MethodName := ⟨RX, "begin", "()I"⟩
abbrev w_X_begin : Cond := .code y_X_begin b_X_begin 2 (some .int)
abbrev b_S_copyFrom : ByteArray := prog_2_method_2_code
def y_S_copyFrom : MethodName := ⟨RS, "copyFrom", "(LStorageCosts$State;)V"⟩
abbrev w_S_copyFrom : Cond := .code y_S_copyFrom b_S_copyFrom 2 (none)
abbrev b_S_forgetCosts : ByteArray := prog_2_method_3_code
def y_S_forgetCosts : MethodName := ⟨RS, "forgetCosts", "()V"⟩
abbrev w_S_forgetCosts : Cond := .code y_S_forgetCosts b_S_forgetCosts 2 (none)
abbrev b_S_filledPlaces : ByteArray := prog_2_method_7_code
def y_S_filledPlaces : MethodName := ⟨RS, "filledPlaces", "()I"⟩
abbrev w_S_filledPlaces : Cond := .code y_S_filledPlaces b_S_filledPlaces 3 (some .int)
abbrev b_L_open : ByteArray := method_3_code
def y_L_open : MethodName := ⟨RL, "open", "(LStorageCosts;[J)I"⟩
abbrev w_L_open : Cond := .codeWith y_L_open b_L_open 3 (some .int) [(0, 8, 11, 13)]
abbrev b_X_open : ByteArray := prog_1_method_3_code
def y_X_open : MethodName := ⟨RX, "open", "()I"⟩
abbrev w_X_open : Cond := .code y_X_open b_X_open 1 (some .int)
abbrev b_L_close : ByteArray := method_4_code
def y_L_close : MethodName := ⟨RL, "close", "(LStorageCosts;Z[J)I"⟩
abbrev w_L_close : Cond := .codeWith y_L_close b_L_close 4 (some .int) [(0, 9, 12, 19)]
abbrev b_X_close : ByteArray := prog_1_method_4_code
def y_X_close : MethodName := ⟨RX, "close", "(Z)I"⟩
abbrev w_X_close : Cond := .code y_X_close b_X_close 2 (some .int)
abbrev b_L_load : ByteArray := method_5_code
def y_L_load : MethodName := ⟨RL, "load", "(LStorageCosts;II[J)I"⟩
abbrev w_L_load : Cond := .codeWith y_L_load b_L_load 5 (some .int) [(0, 10, 13, 25)]
abbrev b_X_load : ByteArray := prog_1_method_5_code
def y_X_load : MethodName := ⟨RX, "load", "(II)I"⟩
abbrev w_X_load : Cond := .code y_X_load b_X_load 5 (some .int)
abbrev b_X_checkPlace : ByteArray := prog_1_method_10_code
def y_X_checkPlace : MethodName := ⟨RX, "checkPlace", "(II)V"⟩
abbrev w_X_checkPlace : Cond := .code y_X_checkPlace b_X_checkPlace 2 (none)
abbrev b_S_isMarked : ByteArray := prog_2_method_4_code
def y_S_isMarked : MethodName := ⟨RS, "isMarked", "(II)Z"⟩
abbrev w_S_isMarked : Cond := .code y_S_isMarked b_S_isMarked 3 (some .boolean)
abbrev b_S_mark : ByteArray := prog_2_method_5_code
def y_S_mark : MethodName := ⟨RS, "mark", "(II)V"⟩
abbrev w_S_mark : Cond := .code y_S_mark b_S_mark 3 (none)
abbrev b_L_store : ByteArray := method_6_code
def y_L_store : MethodName := ⟨RL, "store", "(LStorageCosts;IIJI[J)I"⟩
abbrev w_L_store : Cond := .codeWith y_L_store b_L_store 8 (some .int) [(0, 14, 17, 25), (0, 14, 21, 19)]
abbrev b_X_store : ByteArray := prog_1_method_6_code
def y_X_store : MethodName := ⟨RX, "store", "(IIJI)I"⟩
abbrev w_X_store : Cond := .code y_X_store b_X_store 13 (some .int)
abbrev b_X_cellOf : ByteArray := prog_1_method_11_code
def y_X_cellOf : MethodName := ⟨RX, "cellOf", "(II)I"⟩
abbrev w_X_cellOf : Cond := .code y_X_cellOf b_X_cellOf 2 (some .int)
abbrev b_X_writeCost : ByteArray := prog_1_method_12_code
def y_X_writeCost : MethodName := ⟨RX, "writeCost", "(JJJ)I"⟩
abbrev w_X_writeCost : Cond := .code y_X_writeCost b_X_writeCost 6 (some .int)
abbrev b_X_refundChange : ByteArray := prog_1_method_13_code
def y_X_refundChange : MethodName := ⟨RX, "refundChange", "(JJJ)I"⟩
abbrev w_X_refundChange : Cond := .code y_X_refundChange b_X_refundChange 6 (some .int)
abbrev b_X_clearingChange : ByteArray := prog_1_method_14_code
def y_X_clearingChange : MethodName := ⟨RX, "clearingChange", "(JJJ)I"⟩
abbrev w_X_clearingChange : Cond := .code y_X_clearingChange b_X_clearingChange 6 (some .int)
abbrev b_X_restoringChange : ByteArray := prog_1_method_15_code
def y_X_restoringChange : MethodName := ⟨RX, "restoringChange", "(JJ)I"⟩
abbrev w_X_restoringChange : Cond := .code y_X_restoringChange b_X_restoringChange 4 (some .int)
abbrev b_L_held : ByteArray := method_7_code
def y_L_held : MethodName := ⟨RL, "held", "(LStorageCosts;IIZ[J)I"⟩
abbrev w_L_held : Cond := .codeWith y_L_held b_L_held 6 (some .int) [(0, 11, 14, 25)]
abbrev b_X_held : ByteArray := prog_1_method_7_code
def y_X_held : MethodName := ⟨RX, "held", "(IIZ)J"⟩
abbrev w_X_held : Cond := .code y_X_held b_X_held 5 (some .long)
abbrev b_L_touched : ByteArray := method_8_code
def y_L_touched : MethodName := ⟨RL, "touched", "(LStorageCosts;II[J)I"⟩
abbrev w_L_touched : Cond := .codeWith y_L_touched b_L_touched 5 (some .int) [(0, 17, 20, 25)]
abbrev b_X_touched : ByteArray := prog_1_method_8_code
def y_X_touched : MethodName := ⟨RX, "touched", "(II)Z"⟩
abbrev w_X_touched : Cond := .code y_X_touched b_X_touched 3 (some .boolean)
abbrev b_L_count : ByteArray := method_9_code
def y_L_count : MethodName := ⟨RL, "count", "(LStorageCosts;I[J)I"⟩
abbrev w_L_count : Cond := .codeWith y_L_count b_L_count 4 (some .int) [(0, 9, 12, 25)]
abbrev b_X_count : ByteArray := prog_1_method_9_code
def y_X_count : MethodName := ⟨RX, "count", "(I)I"⟩
abbrev w_X_count : Cond := .code y_X_count b_X_count 3 (some .int)
abbrev b_S_markedPlaces : ByteArray := prog_2_method_6_code
def y_S_markedPlaces : MethodName := ⟨RS, "markedPlaces", "()I"⟩
abbrev w_S_markedPlaces : Cond := .code y_S_markedPlaces b_S_markedPlaces 3 (some .int)
abbrev b_J_bitCount : ByteArray := prog_9_method_50_code
def y_J_bitCount : MethodName := ⟨RJ, "bitCount", "(J)I"⟩
abbrev w_J_bitCount : Cond := .code y_J_bitCount b_J_bitCount 2 (some .int)
abbrev b_M_init : ByteArray := prog_4_method_1_code
def y_M_init : MethodName := ⟨RM, "<init>", "()V"⟩
abbrev w_M_init : Cond := .code y_M_init b_M_init 1 (none)
abbrev b_M_thrown : ByteArray := prog_4_method_2_code
def y_M_thrown : MethodName := ⟨RM, "thrown", "()I"⟩
abbrev w_M_thrown : Cond := .code y_M_thrown b_M_thrown 1 (some .int)
abbrev b_M_begin : ByteArray := prog_4_method_5_code
def y_M_begin : MethodName := ⟨RM, "begin", "()I"⟩
abbrev w_M_begin : Cond := .code y_M_begin b_M_begin 2 (some .int)
abbrev b_M_filled : ByteArray := prog_4_method_4_code
def y_M_filled : MethodName := ⟨RM, "filled", "()I"⟩
abbrev w_M_filled : Cond := .code y_M_filled b_M_filled 3 (some .int)
abbrev b_M_open : ByteArray := prog_4_method_6_code
def y_M_open : MethodName := ⟨RM, "open", "()I"⟩
abbrev w_M_open : Cond := .code y_M_open b_M_open 2 (some .int)
abbrev b_M_fail : ByteArray := prog_4_method_3_code
def y_M_fail : MethodName := ⟨RM, "fail", "(I)I"⟩
abbrev w_M_fail : Cond := .code y_M_fail b_M_fail 2 (some .int)
abbrev b_M_close : ByteArray := prog_4_method_7_code
def y_M_close : MethodName := ⟨RM, "close", "(Z)I"⟩
abbrev w_M_close : Cond := .code y_M_close b_M_close 3 (some .int)
abbrev b_M_load : ByteArray := prog_4_method_9_code
def y_M_load : MethodName := ⟨RM, "load", "(II)I"⟩
abbrev w_M_load : Cond := .code y_M_load b_M_load 4 (some .int)
abbrev b_M_out : ByteArray := prog_4_method_8_code
def y_M_out : MethodName := ⟨RM, "out", "(II)Z"⟩
abbrev w_M_out : Cond := .code y_M_out b_M_out 3 (some .boolean)
abbrev b_M_store : ByteArray := prog_4_method_10_code
def y_M_store : MethodName := ⟨RM, "store", "(IIJI)I"⟩
abbrev w_M_store : Cond := .code y_M_store b_M_store 13 (some .int)
abbrev b_M_held : ByteArray := prog_4_method_11_code
def y_M_held : MethodName := ⟨RM, "held", "(IIZ)J"⟩
abbrev w_M_held : Cond := .code y_M_held b_M_held 4 (some .long)
abbrev b_M_touched : ByteArray := prog_4_method_12_code
def y_M_touched : MethodName := ⟨RM, "touched", "(II)Z"⟩
abbrev w_M_touched : Cond := .code y_M_touched b_M_touched 3 (some .boolean)
abbrev b_M_count : ByteArray := prog_4_method_13_code
def y_M_count : MethodName := ⟨RM, "count", "(I)I"⟩
abbrev w_M_count : Cond := .code y_M_count b_M_count 4 (some .int)
abbrev b_L_law : ByteArray := code
def y_L_law : MethodName := ⟨RL, "law", "([I)Z"⟩
/-- the words that all methods share: those of the tables that go on holding -/
def TB : List Cond := lw_tbl.filter goodWord
theorem TB_in {args : Array Value} {s : State} (h : ∀ w ∈ lw_tbl, w.before args s = true) : ∀ w ∈ TB, w.before args s = true := fun w hw => h w (List.mem_filter.mp hw).1
theorem TB_good : GoodIn TB TB := fun w hw => ⟨hw, good_of_word (List.mem_filter.mp hw).2⟩
theorem TB_goodL : GoodIn lw_tbl TB := fun w hw => ⟨(List.mem_filter.mp hw).1, good_of_word (List.mem_filter.mp hw).2⟩
theorem TB_c {c : Cond} (h : c ∈ TB) : GoodIn TB (c :: TB) := fun w hw => (List.mem_cons.mp hw).elim (fun e => by rw [e]; exact TB_good c h) (TB_good w)
theorem TB_g {a b c d : Cond} {ws : List Cond} (ha : a ∈ TB) (hb : b ∈ TB) (hc : c ∈ TB) (hd : d ∈ TB) (h : GoodIn TB ws) : GoodIn TB ([a, b, c, d] ++ ws) := fun w hw => (List.mem_append.mp hw).elim (fun hw => TB_good w (by
  simp only [List.mem_cons, List.not_mem_nil, or_false] at hw
  rcases hw with e | e | e | e <;> rw [e] <;> assumption)) (h w)
theorem TB_g3 {a b c : Cond} {ws : List Cond} (ha : a ∈ TB) (hb : b ∈ TB) (hc : c ∈ TB) (h : GoodIn TB ws) : GoodIn TB ([a, b, c] ++ ws) := fun w hw => (List.mem_append.mp hw).elim (fun hw => TB_good w (by
  simp only [List.mem_cons, List.not_mem_nil, or_false] at hw
  rcases hw with e | e | e <;> rw [e] <;> assumption)) (h w)
theorem kc_X_init : w_X_init ∈ TB := by decide +kernel
theorem kc_S_init : w_S_init ∈ TB := by decide +kernel
theorem kc_X_begin : w_X_begin ∈ TB := by decide +kernel
theorem kc_S_copyFrom : w_S_copyFrom ∈ TB := by decide +kernel
theorem kc_S_forgetCosts : w_S_forgetCosts ∈ TB := by decide +kernel
theorem kc_S_filledPlaces : w_S_filledPlaces ∈ TB := by decide +kernel
theorem kc_L_open : w_L_open ∈ TB := by decide +kernel
theorem kc_X_open : w_X_open ∈ TB := by decide +kernel
theorem kc_L_close : w_L_close ∈ TB := by decide +kernel
theorem kc_X_close : w_X_close ∈ TB := by decide +kernel
theorem kc_L_load : w_L_load ∈ TB := by decide +kernel
theorem kc_X_load : w_X_load ∈ TB := by decide +kernel
theorem kc_X_checkPlace : w_X_checkPlace ∈ TB := by decide +kernel
theorem kc_S_isMarked : w_S_isMarked ∈ TB := by decide +kernel
theorem kc_S_mark : w_S_mark ∈ TB := by decide +kernel
theorem kc_L_store : w_L_store ∈ TB := by decide +kernel
theorem kc_X_store : w_X_store ∈ TB := by decide +kernel
theorem kc_X_cellOf : w_X_cellOf ∈ TB := by decide +kernel
theorem kc_X_writeCost : w_X_writeCost ∈ TB := by decide +kernel
theorem kc_X_refundChange : w_X_refundChange ∈ TB := by decide +kernel
theorem kc_X_clearingChange : w_X_clearingChange ∈ TB := by decide +kernel
theorem kc_X_restoringChange : w_X_restoringChange ∈ TB := by decide +kernel
theorem kc_L_held : w_L_held ∈ TB := by decide +kernel
theorem kc_X_held : w_X_held ∈ TB := by decide +kernel
theorem kc_L_touched : w_L_touched ∈ TB := by decide +kernel
theorem kc_X_touched : w_X_touched ∈ TB := by decide +kernel
theorem kc_L_count : w_L_count ∈ TB := by decide +kernel
theorem kc_X_count : w_X_count ∈ TB := by decide +kernel
theorem kc_S_markedPlaces : w_S_markedPlaces ∈ TB := by decide +kernel
theorem kc_J_bitCount : w_J_bitCount ∈ TB := by decide +kernel
theorem kc_M_init : w_M_init ∈ TB := by decide +kernel
theorem kc_M_thrown : w_M_thrown ∈ TB := by decide +kernel
theorem kc_M_begin : w_M_begin ∈ TB := by decide +kernel
theorem kc_M_filled : w_M_filled ∈ TB := by decide +kernel
theorem kc_M_open : w_M_open ∈ TB := by decide +kernel
theorem kc_M_fail : w_M_fail ∈ TB := by decide +kernel
theorem kc_M_close : w_M_close ∈ TB := by decide +kernel
theorem kc_M_load : w_M_load ∈ TB := by decide +kernel
theorem kc_M_out : w_M_out ∈ TB := by decide +kernel
theorem kc_M_store : w_M_store ∈ TB := by decide +kernel
theorem kc_M_held : w_M_held ∈ TB := by decide +kernel
theorem kc_M_touched : w_M_touched ∈ TB := by decide +kernel
theorem kc_M_count : w_M_count ∈ TB := by decide +kernel
theorem kz_L : Cond.initialized RL ∈ TB := by decide +kernel
theorem kz_X : Cond.initialized RX ∈ TB := by decide +kernel
theorem kz_S : Cond.initialized RS ∈ TB := by decide +kernel
theorem kz_M : Cond.initialized RM ∈ TB := by decide +kernel
theorem kz_System : Cond.initialized "java/lang/System" ∈ TB := by decide +kernel
theorem kz_Throwable : Cond.initialized "java/lang/Throwable" ∈ TB := by decide +kernel
theorem kz_Exception : Cond.initialized "java/lang/Exception" ∈ TB := by decide +kernel
theorem kz_RuntimeException : Cond.initialized "java/lang/RuntimeException" ∈ TB := by decide +kernel
theorem kz_IndexOutOfBoundsException : Cond.initialized "java/lang/IndexOutOfBoundsException" ∈ TB := by decide +kernel
theorem kz_IllegalStateException : Cond.initialized "java/lang/IllegalStateException" ∈ TB := by decide +kernel
theorem kz_IllegalArgumentException : Cond.initialized "java/lang/IllegalArgumentException" ∈ TB := by decide +kernel
theorem kz_J : Cond.initialized RJ ∈ TB := by decide +kernel
theorem kk_L_8 : Cond.classLink RL 8 RX ∈ TB := by decide +kernel
theorem ka_X : Cond.instantiable RX 3 ∈ TB := by decide +kernel
theorem kl_L_43 : Cond.methodLink RL 43 y_X_init ∈ TB := by decide +kernel
theorem ki_X_init : Cond.instanceMethod y_X_init ∈ TB := by decide +kernel
theorem kl_X_3 : Cond.methodLink RX 3 objectInit ∈ TB := by decide +kernel
theorem ki_objectInit : Cond.instanceMethod objectInit ∈ TB := by decide +kernel
theorem kk_X_13 : Cond.classLink RX 13 RS ∈ TB := by decide +kernel
theorem ka_S : Cond.instantiable RS 3 ∈ TB := by decide +kernel
theorem ki_S_init : Cond.instanceMethod y_S_init ∈ TB := by decide +kernel
theorem kl_S_3 : Cond.methodLink RS 3 objectInit ∈ TB := by decide +kernel
theorem kf_S_9 : Cond.fieldLink RS 9 RS "values" "[J" ∈ TB := by decide +kernel
theorem kf_S_15 : Cond.fieldLink RS 15 RS "marks" "[J" ∈ TB := by decide +kernel
theorem kf_S_18 : Cond.fieldLink RS 18 RS "refund" "I" ∈ TB := by decide +kernel
theorem kr_long : Cond.arrayClass .long ∈ TB := by decide +kernel
theorem kf_X_9 : Cond.fieldLink RX 9 RX "firsts" "[J" ∈ TB := by decide +kernel
theorem kf_X_15 : Cond.fieldLink RX 15 RX "states" "[LStorageCosts$State;" ∈ TB := by decide +kernel
theorem kf_X_19 : Cond.fieldLink RX 19 RX "depth" "I" ∈ TB := by decide +kernel
theorem kl_L_47 : Cond.methodLink RL 47 y_X_begin ∈ TB := by decide +kernel
theorem ki_X_begin : Cond.instanceMethod y_X_begin ∈ TB := by decide +kernel
theorem ki_S_copyFrom : Cond.instanceMethod y_S_copyFrom ∈ TB := by decide +kernel
theorem kl_S_22 : Cond.methodLink RS 22 arraycopyName ∈ TB := by decide +kernel
theorem kt_arraycopyName : Cond.static arraycopyName ∈ TB := by decide +kernel
theorem kn_arraycopyName : Cond.native arraycopyName ∈ TB := by decide +kernel
theorem ki_S_forgetCosts : Cond.instanceMethod y_S_forgetCosts ∈ TB := by decide +kernel
theorem kl_X_34 : Cond.methodLink RX 34 arraycopyName ∈ TB := by decide +kernel
theorem ki_S_filledPlaces : Cond.instanceMethod y_S_filledPlaces ∈ TB := by decide +kernel
theorem kl_L_51 : Cond.methodLink RL 51 y_L_open ∈ TB := by decide +kernel
theorem kt_L_open : Cond.static y_L_open ∈ TB := by decide +kernel
theorem kk_L_13 : Cond.classLink RL 13 "java/lang/IndexOutOfBoundsException" ∈ TB := by decide +kernel
theorem kl_L_7 : Cond.methodLink RL 7 y_X_open ∈ TB := by decide +kernel
theorem ki_X_open : Cond.instanceMethod y_X_open ∈ TB := by decide +kernel
theorem kk_X_44 : Cond.classLink RX 44 "java/lang/IndexOutOfBoundsException" ∈ TB := by decide +kernel
theorem kr_byte : Cond.arrayClass .byte ∈ TB := by decide +kernel
theorem kl_L_60 : Cond.methodLink RL 60 y_L_close ∈ TB := by decide +kernel
theorem kt_L_close : Cond.static y_L_close ∈ TB := by decide +kernel
theorem kk_L_19 : Cond.classLink RL 19 "java/lang/IllegalStateException" ∈ TB := by decide +kernel
theorem kl_L_15 : Cond.methodLink RL 15 y_X_close ∈ TB := by decide +kernel
theorem ki_X_close : Cond.instanceMethod y_X_close ∈ TB := by decide +kernel
theorem kk_X_51 : Cond.classLink RX 51 "java/lang/IllegalStateException" ∈ TB := by decide +kernel
theorem kl_L_64 : Cond.methodLink RL 64 y_L_load ∈ TB := by decide +kernel
theorem kt_L_load : Cond.static y_L_load ∈ TB := by decide +kernel
theorem kk_L_25 : Cond.classLink RL 25 "java/lang/IllegalArgumentException" ∈ TB := by decide +kernel
theorem kl_L_21 : Cond.methodLink RL 21 y_X_load ∈ TB := by decide +kernel
theorem ki_X_load : Cond.instanceMethod y_X_load ∈ TB := by decide +kernel
theorem kl_X_56 : Cond.methodLink RX 56 y_X_checkPlace ∈ TB := by decide +kernel
theorem kt_X_checkPlace : Cond.static y_X_checkPlace ∈ TB := by decide +kernel
theorem kk_X_86 : Cond.classLink RX 86 "java/lang/IllegalArgumentException" ∈ TB := by decide +kernel
theorem ki_S_isMarked : Cond.instanceMethod y_S_isMarked ∈ TB := by decide +kernel
theorem ki_S_mark : Cond.instanceMethod y_S_mark ∈ TB := by decide +kernel
theorem kl_L_70 : Cond.methodLink RL 70 y_L_store ∈ TB := by decide +kernel
theorem kt_L_store : Cond.static y_L_store ∈ TB := by decide +kernel
theorem kl_L_27 : Cond.methodLink RL 27 y_X_store ∈ TB := by decide +kernel
theorem ki_X_store : Cond.instanceMethod y_X_store ∈ TB := by decide +kernel
theorem kl_X_67 : Cond.methodLink RX 67 y_X_cellOf ∈ TB := by decide +kernel
theorem kt_X_cellOf : Cond.static y_X_cellOf ∈ TB := by decide +kernel
theorem kl_X_71 : Cond.methodLink RX 71 y_X_writeCost ∈ TB := by decide +kernel
theorem kt_X_writeCost : Cond.static y_X_writeCost ∈ TB := by decide +kernel
theorem kl_X_80 : Cond.methodLink RX 80 y_X_refundChange ∈ TB := by decide +kernel
theorem kt_X_refundChange : Cond.static y_X_refundChange ∈ TB := by decide +kernel
theorem kl_X_93 : Cond.methodLink RX 93 y_X_clearingChange ∈ TB := by decide +kernel
theorem kt_X_clearingChange : Cond.static y_X_clearingChange ∈ TB := by decide +kernel
theorem kl_X_96 : Cond.methodLink RX 96 y_X_restoringChange ∈ TB := by decide +kernel
theorem kt_X_restoringChange : Cond.static y_X_restoringChange ∈ TB := by decide +kernel
theorem kl_L_74 : Cond.methodLink RL 74 y_L_held ∈ TB := by decide +kernel
theorem kt_L_held : Cond.static y_L_held ∈ TB := by decide +kernel
theorem kl_L_31 : Cond.methodLink RL 31 y_X_held ∈ TB := by decide +kernel
theorem ki_X_held : Cond.instanceMethod y_X_held ∈ TB := by decide +kernel
theorem kl_L_78 : Cond.methodLink RL 78 y_L_touched ∈ TB := by decide +kernel
theorem kt_L_touched : Cond.static y_L_touched ∈ TB := by decide +kernel
theorem kl_L_35 : Cond.methodLink RL 35 y_X_touched ∈ TB := by decide +kernel
theorem ki_X_touched : Cond.instanceMethod y_X_touched ∈ TB := by decide +kernel
theorem kl_L_81 : Cond.methodLink RL 81 y_L_count ∈ TB := by decide +kernel
theorem kt_L_count : Cond.static y_L_count ∈ TB := by decide +kernel
theorem kl_L_39 : Cond.methodLink RL 39 y_X_count ∈ TB := by decide +kernel
theorem ki_X_count : Cond.instanceMethod y_X_count ∈ TB := by decide +kernel
theorem ki_S_markedPlaces : Cond.instanceMethod y_S_markedPlaces ∈ TB := by decide +kernel
theorem kl_S_28 : Cond.methodLink RS 28 y_J_bitCount ∈ TB := by decide +kernel
theorem kt_J_bitCount : Cond.static y_J_bitCount ∈ TB := by decide +kernel
theorem kd_J_314 : Cond.constantLong RJ 314 6148914691236517205 ∈ TB := by decide +kernel
theorem kd_J_316 : Cond.constantLong RJ 316 3689348814741910323 ∈ TB := by decide +kernel
theorem kd_J_318 : Cond.constantLong RJ 318 1085102592571150095 ∈ TB := by decide +kernel
theorem kk_L_44 : Cond.classLink RL 44 RM ∈ TB := by decide +kernel
theorem ka_M : Cond.instantiable RM 9 ∈ TB := by decide +kernel
theorem kl_L_46 : Cond.methodLink RL 46 y_M_init ∈ TB := by decide +kernel
theorem ki_M_init : Cond.instanceMethod y_M_init ∈ TB := by decide +kernel
theorem kl_M_1 : Cond.methodLink RM 1 objectInit ∈ TB := by decide +kernel
theorem kk_M_7 : Cond.classLink RM 7 "[[J" ∈ TB := by decide +kernel
theorem kk_M_14 : Cond.classLink RM 14 "[[Z" ∈ TB := by decide +kernel
theorem kf_M_34 : Cond.fieldLink RM 34 RM "failed" "I" ∈ TB := by decide +kernel
theorem kf_M_9 : Cond.fieldLink RM 9 RM "kept" "[[J" ∈ TB := by decide +kernel
theorem kf_M_16 : Cond.fieldLink RM 16 RM "keptTouched" "[[Z" ∈ TB := by decide +kernel
theorem kf_M_19 : Cond.fieldLink RM 19 RM "keptRefund" "[I" ∈ TB := by decide +kernel
theorem kf_M_23 : Cond.fieldLink RM 23 RM "now" "[J" ∈ TB := by decide +kernel
theorem kf_M_27 : Cond.fieldLink RM 27 RM "firsts" "[J" ∈ TB := by decide +kernel
theorem kf_M_30 : Cond.fieldLink RM 30 RM "touched" "[Z" ∈ TB := by decide +kernel
theorem kf_M_38 : Cond.fieldLink RM 38 RM "refund" "I" ∈ TB := by decide +kernel
theorem kf_M_41 : Cond.fieldLink RM 41 RM "depth" "I" ∈ TB := by decide +kernel
theorem kr_boolean : Cond.arrayClass .boolean ∈ TB := by decide +kernel
theorem kr_int : Cond.arrayClass .int ∈ TB := by decide +kernel
theorem kl_L_57 : Cond.methodLink RL 57 y_M_thrown ∈ TB := by decide +kernel
theorem ki_M_thrown : Cond.instanceMethod y_M_thrown ∈ TB := by decide +kernel
theorem kl_L_50 : Cond.methodLink RL 50 y_M_begin ∈ TB := by decide +kernel
theorem ki_M_begin : Cond.instanceMethod y_M_begin ∈ TB := by decide +kernel
theorem kl_M_44 : Cond.methodLink RM 44 y_M_filled ∈ TB := by decide +kernel
theorem ki_M_filled : Cond.instanceMethod y_M_filled ∈ TB := by decide +kernel
theorem kl_L_56 : Cond.methodLink RL 56 y_M_open ∈ TB := by decide +kernel
theorem ki_M_open : Cond.instanceMethod y_M_open ∈ TB := by decide +kernel
theorem kl_M_48 : Cond.methodLink RM 48 y_M_fail ∈ TB := by decide +kernel
theorem ki_M_fail : Cond.instanceMethod y_M_fail ∈ TB := by decide +kernel
theorem kl_L_63 : Cond.methodLink RL 63 y_M_close ∈ TB := by decide +kernel
theorem ki_M_close : Cond.instanceMethod y_M_close ∈ TB := by decide +kernel
theorem kl_L_67 : Cond.methodLink RL 67 y_M_load ∈ TB := by decide +kernel
theorem ki_M_load : Cond.instanceMethod y_M_load ∈ TB := by decide +kernel
theorem kl_M_52 : Cond.methodLink RM 52 y_M_out ∈ TB := by decide +kernel
theorem ki_M_out : Cond.instanceMethod y_M_out ∈ TB := by decide +kernel
theorem kl_L_73 : Cond.methodLink RL 73 y_M_store ∈ TB := by decide +kernel
theorem ki_M_store : Cond.instanceMethod y_M_store ∈ TB := by decide +kernel
theorem kl_L_77 : Cond.methodLink RL 77 y_M_held ∈ TB := by decide +kernel
theorem ki_M_held : Cond.instanceMethod y_M_held ∈ TB := by decide +kernel
theorem kl_L_80 : Cond.methodLink RL 80 y_M_touched ∈ TB := by decide +kernel
theorem ki_M_touched : Cond.instanceMethod y_M_touched ∈ TB := by decide +kernel
theorem kl_L_84 : Cond.methodLink RL 84 y_M_count ∈ TB := by decide +kernel
theorem ki_M_count : Cond.instanceMethod y_M_count ∈ TB := by decide +kernel
theorem kd_L_68 : Cond.constantLong RL 68 4294967295 ∈ TB := by decide +kernel
theorem ks_M_begin : Cond.selects RM y_M_begin y_M_begin ∈ TB := by decide +kernel
theorem ks_M_close : Cond.selects RM y_M_close y_M_close ∈ TB := by decide +kernel
theorem ks_M_count : Cond.selects RM y_M_count y_M_count ∈ TB := by decide +kernel
theorem ks_M_fail : Cond.selects RM y_M_fail y_M_fail ∈ TB := by decide +kernel
theorem ks_M_filled : Cond.selects RM y_M_filled y_M_filled ∈ TB := by decide +kernel
theorem ks_M_held : Cond.selects RM y_M_held y_M_held ∈ TB := by decide +kernel
theorem ks_M_load : Cond.selects RM y_M_load y_M_load ∈ TB := by decide +kernel
theorem ks_M_open : Cond.selects RM y_M_open y_M_open ∈ TB := by decide +kernel
theorem ks_M_out : Cond.selects RM y_M_out y_M_out ∈ TB := by decide +kernel
theorem ks_M_store : Cond.selects RM y_M_store y_M_store ∈ TB := by decide +kernel
theorem ks_M_thrown : Cond.selects RM y_M_thrown y_M_thrown ∈ TB := by decide +kernel
theorem ks_M_touched : Cond.selects RM y_M_touched y_M_touched ∈ TB := by decide +kernel
theorem ks_S_copyFrom : Cond.selects RS y_S_copyFrom y_S_copyFrom ∈ TB := by decide +kernel
theorem ks_S_filledPlaces : Cond.selects RS y_S_filledPlaces y_S_filledPlaces ∈ TB := by decide +kernel
theorem ks_S_forgetCosts : Cond.selects RS y_S_forgetCosts y_S_forgetCosts ∈ TB := by decide +kernel
theorem ks_S_isMarked : Cond.selects RS y_S_isMarked y_S_isMarked ∈ TB := by decide +kernel
theorem ks_S_mark : Cond.selects RS y_S_mark y_S_mark ∈ TB := by decide +kernel
theorem ks_S_markedPlaces : Cond.selects RS y_S_markedPlaces y_S_markedPlaces ∈ TB := by decide +kernel
theorem ks_X_begin : Cond.selects RX y_X_begin y_X_begin ∈ TB := by decide +kernel
theorem ks_X_close : Cond.selects RX y_X_close y_X_close ∈ TB := by decide +kernel
theorem ks_X_count : Cond.selects RX y_X_count y_X_count ∈ TB := by decide +kernel
theorem ks_X_held : Cond.selects RX y_X_held y_X_held ∈ TB := by decide +kernel
theorem ks_X_load : Cond.selects RX y_X_load y_X_load ∈ TB := by decide +kernel
theorem ks_X_open : Cond.selects RX y_X_open y_X_open ∈ TB := by decide +kernel
theorem ks_X_store : Cond.selects RX y_X_store y_X_store ∈ TB := by decide +kernel
theorem ks_X_touched : Cond.selects RX y_X_touched y_X_touched ∈ TB := by decide +kernel
theorem kin_S : ∀ w ∈ u_ws RS TS 3, w ∈ TB := by decide +kernel
theorem kin_X : ∀ w ∈ u_ws RX TX 3, w ∈ TB := by decide +kernel
theorem kin_M : ∀ w ∈ u_ws RM TM 9, w ∈ TB := by decide +kernel
/-- links between nest mates: they hold by the tables, and go on holding -/
def NB : List Cond := [Cond.methodLinkNest RX 23 y_S_init RX, Cond.fieldLinkNest RX 31 RS "values" "[J" RX, Cond.fieldLinkNest RX 77 RS "refund" "I" RX, Cond.methodLinkNest RX 24 y_S_copyFrom RX, Cond.methodLinkNest RX 28 y_S_forgetCosts RX, Cond.methodLinkNest RX 40 y_S_filledPlaces RX, Cond.methodLinkNest RX 60 y_S_isMarked RX, Cond.methodLinkNest RX 64 y_S_mark RX, Cond.methodLinkNest RX 83 y_S_markedPlaces RX, Cond.castable "java/lang/IndexOutOfBoundsException" "java/lang/IndexOutOfBoundsException", Cond.castable "java/lang/IllegalStateException" "java/lang/IllegalStateException", Cond.castable "java/lang/IllegalArgumentException" "java/lang/IllegalArgumentException", Cond.declares ⟨"java/lang/RuntimeException", "<init>", "(Ljava/lang/String;)V"⟩, Cond.declares ⟨"java/lang/Exception", "<init>", "(Ljava/lang/String;)V"⟩, Cond.declares ⟨"java/lang/Throwable", "<init>", "(Ljava/lang/String;)V"⟩]
theorem nl_X_23 : Cond.methodLinkNest RX 23 y_S_init RX ∈ NB := by decide +kernel
theorem nf_X_31 : Cond.fieldLinkNest RX 31 RS "values" "[J" RX ∈ NB := by decide +kernel
theorem nf_X_77 : Cond.fieldLinkNest RX 77 RS "refund" "I" RX ∈ NB := by decide +kernel
theorem nl_X_24 : Cond.methodLinkNest RX 24 y_S_copyFrom RX ∈ NB := by decide +kernel
theorem nl_X_28 : Cond.methodLinkNest RX 28 y_S_forgetCosts RX ∈ NB := by decide +kernel
theorem nl_X_40 : Cond.methodLinkNest RX 40 y_S_filledPlaces RX ∈ NB := by decide +kernel
theorem nl_X_60 : Cond.methodLinkNest RX 60 y_S_isMarked RX ∈ NB := by decide +kernel
theorem nl_X_64 : Cond.methodLinkNest RX 64 y_S_mark RX ∈ NB := by decide +kernel
theorem nl_X_83 : Cond.methodLinkNest RX 83 y_S_markedPlaces RX ∈ NB := by decide +kernel
theorem nv_IndexOutOfBoundsException : Cond.castable "java/lang/IndexOutOfBoundsException" "java/lang/IndexOutOfBoundsException" ∈ NB := by decide +kernel
theorem nv_IllegalStateException : Cond.castable "java/lang/IllegalStateException" "java/lang/IllegalStateException" ∈ NB := by decide +kernel
theorem nv_IllegalArgumentException : Cond.castable "java/lang/IllegalArgumentException" "java/lang/IllegalArgumentException" ∈ NB := by decide +kernel
theorem nd_RuntimeException : Cond.declares ⟨"java/lang/RuntimeException", "<init>", "(Ljava/lang/String;)V"⟩ ∈ NB := by decide +kernel
theorem nd_Exception : Cond.declares ⟨"java/lang/Exception", "<init>", "(Ljava/lang/String;)V"⟩ ∈ NB := by decide +kernel
theorem nd_Throwable : Cond.declares ⟨"java/lang/Throwable", "<init>", "(Ljava/lang/String;)V"⟩ ∈ NB := by decide +kernel
theorem NB_tbl : ∀ w ∈ NB, w ∈ lw_tbl := by decide +kernel
theorem NB_on : ∀ w ∈ NB, w.onTables = true := by decide +kernel
abbrev EIOOB : String := "java/lang/IndexOutOfBoundsException"
theorem kx_IOOB : ∀ w ∈ vx_atS RX 48 EIOOB ["java/lang/RuntimeException", "java/lang/Exception"], w ∈ TB ++ NB := by decide +kernel
theorem kg_IOOB : ∀ w ∈ vx_atS RX 48 EIOOB ["java/lang/RuntimeException", "java/lang/Exception"], vx_ot w = true := by decide +kernel
abbrev EISE : String := "java/lang/IllegalStateException"
theorem kx_ISE : ∀ w ∈ vx_atS RX 55 EISE ["java/lang/RuntimeException", "java/lang/Exception"], w ∈ TB ++ NB := by decide +kernel
theorem kg_ISE : ∀ w ∈ vx_atS RX 55 EISE ["java/lang/RuntimeException", "java/lang/Exception"], vx_ot w = true := by decide +kernel
abbrev EIAE : String := "java/lang/IllegalArgumentException"
theorem kx_IAE : ∀ w ∈ vx_atS RX 90 EIAE ["java/lang/RuntimeException", "java/lang/Exception"], w ∈ TB ++ NB := by decide +kernel
theorem kg_IAE : ∀ w ∈ vx_atS RX 90 EIAE ["java/lang/RuntimeException", "java/lang/Exception"], vx_ot w = true := by decide +kernel
end
section
/-! counting the bits of a long, as the JDK does it: in words of eight digits to the base 256 -/
theorem pz_and {w a b X Y : Nat} (ha : a < 2 ^ w) (hb : b < 2 ^ w) : (2 ^ w * X + a) &&& (2 ^ w * Y + b) = 2 ^ w * (X &&& Y) + (a &&& b) := by
  apply Nat.eq_of_testBit_eq
  intro i
  rw [Nat.testBit_and, Nat.testBit_two_pow_mul_add _ ha, Nat.testBit_two_pow_mul_add _ hb, Nat.testBit_two_pow_mul_add _ (Nat.and_lt_two_pow _ hb)]
  split <;> rw [Nat.testBit_and]
theorem pz_shr {w s a b X Y : Nat} (hs : s ≤ w) (ha : a < 2 ^ w) (hb : b < 2 ^ (w - s)) : ((2 ^ w * X + a) >>> s) &&& (2 ^ w * Y + b) = 2 ^ w * ((X >>> s) &&& Y) + ((a >>> s) &&& b) := by
  have hb' : b < 2 ^ w := Nat.lt_of_lt_of_le hb (Nat.pow_le_pow_right (by decide) (Nat.sub_le w s))
  apply Nat.eq_of_testBit_eq
  intro i
  rw [Nat.testBit_and, Nat.testBit_shiftRight, Nat.testBit_two_pow_mul_add _ ha, Nat.testBit_two_pow_mul_add _ hb', Nat.testBit_two_pow_mul_add _ (Nat.and_lt_two_pow _ hb')]
  by_cases h1 : i < w
  · rw [if_pos h1, if_pos h1, Nat.testBit_and, Nat.testBit_shiftRight]
    by_cases h2 : s + i < w
    · rw [if_pos h2]
    · have h3 : b.testBit i = false := Nat.testBit_lt_two_pow (Nat.lt_of_lt_of_le hb (Nat.pow_le_pow_right (by decide) (by omega)))
      rw [h3, Bool.and_false, Bool.and_false]
  · rw [if_neg h1, if_neg h1, if_neg (by omega), Nat.testBit_and, Nat.testBit_shiftRight, show s + i - w = s + (i - w) by omega]
def pz_d : List Nat → Nat
  | [] => 0
  | b :: l => 2 ^ 8 * pz_d l + b
theorem pz_dand (m : Nat) (hm : m < 2 ^ 8) : ∀ l : List Nat, (∀ b ∈ l, b < 2 ^ 8) → pz_d l &&& pz_d (l.map (fun _ => m)) = pz_d (l.map (fun b => b &&& m))
  | [], _ => by simp [pz_d]
  | b :: l, h => by
    show (2 ^ 8 * pz_d l + b) &&& (2 ^ 8 * pz_d (l.map (fun _ => m)) + m) = 2 ^ 8 * pz_d (l.map (fun b => b &&& m)) + (b &&& m)
    rw [pz_and (h b List.mem_cons_self) hm, pz_dand m hm l (fun b hb => h b (List.mem_cons_of_mem _ hb))]
theorem pz_dshr (s m : Nat) (hs : s ≤ 8) (hm : m < 2 ^ (8 - s)) : ∀ l : List Nat, (∀ b ∈ l, b < 2 ^ 8) → (pz_d l >>> s) &&& pz_d (l.map (fun _ => m)) = pz_d (l.map (fun b => (b >>> s) &&& m))
  | [], _ => Nat.and_zero _
  | b :: l, h => by
    show ((2 ^ 8 * pz_d l + b) >>> s) &&& (2 ^ 8 * pz_d (l.map (fun _ => m)) + m) = 2 ^ 8 * pz_d (l.map (fun b => (b >>> s) &&& m)) + ((b >>> s) &&& m)
    rw [pz_shr hs (h b List.mem_cons_self) hm, pz_dshr s m hs hm l (fun b hb => h b (List.mem_cons_of_mem _ hb))]
theorem pz_dsub (f : Nat → Nat) : ∀ l : List Nat, (∀ b ∈ l, f b ≤ b) → pz_d l - pz_d (l.map f) = pz_d (l.map (fun b => b - f b)) ∧ pz_d (l.map f) ≤ pz_d l
  | [], _ => ⟨rfl, Nat.le_refl _⟩
  | b :: l, h => by
    obtain ⟨h1, h2⟩ := pz_dsub f l (fun b hb => h b (List.mem_cons_of_mem _ hb))
    have h3 := h b List.mem_cons_self
    show (2 ^ 8 * pz_d l + b) - (2 ^ 8 * pz_d (l.map f) + f b) = 2 ^ 8 * pz_d (l.map (fun b => b - f b)) + (b - f b) ∧ 2 ^ 8 * pz_d (l.map f) + f b ≤ 2 ^ 8 * pz_d l + b
    rw [← h1]
    omega
theorem pz_dadd (f g : Nat → Nat) : ∀ l : List Nat, pz_d (l.map f) + pz_d (l.map g) = pz_d (l.map (fun b => f b + g b))
  | [] => rfl
  | b :: l => by
    have h1 := pz_dadd f g l
    show (2 ^ 8 * pz_d (l.map f) + f b) + (2 ^ 8 * pz_d (l.map g) + g b) = 2 ^ 8 * pz_d (l.map (fun b => f b + g b)) + (f b + g b)
    rw [← h1]
    omega
def pz_k1 (b : Nat) : Nat := b - ((b >>> 1) &&& 85)
def pz_k2 (c : Nat) : Nat := (c &&& 51) + ((c >>> 2) &&& 51)
def pz_k3 (c : Nat) : Nat := c % 16 + c / 16
def pz_b (b : Nat) : Nat := b % 2 + b / 2 % 2 + b / 4 % 2 + b / 8 % 2 + b / 16 % 2 + b / 32 % 2 + b / 64 % 2 + b / 128 % 2
theorem pz_byte : ∀ b, b < 256 → ((b >>> 1) &&& 85) ≤ b ∧ pz_k1 b < 256 ∧ pz_k2 (pz_k1 b) % 16 ≤ 4 ∧ pz_k2 (pz_k1 b) / 16 ≤ 4 ∧ pz_k3 (pz_k2 (pz_k1 b)) = pz_b b ∧ pz_b b ≤ 8 := by decide +kernel
theorem pz_12 (l : List Nat) (hl : l.length = 8) (h : ∀ b ∈ l, b < 256) (v : Nat) (hv : v = pz_d l - ((pz_d l >>> 1) &&& 6148914691236517205)) :
    ((pz_d l >>> 1) &&& 6148914691236517205) ≤ pz_d l ∧ (v &&& 3689348814741910323) + ((v >>> 2) &&& 3689348814741910323) = pz_d (l.map (fun b => pz_k2 (pz_k1 b))) := by
  have m1 : (6148914691236517205 : Nat) = pz_d (l.map (fun _ => 85)) := by
    rw [List.map_const', hl]; rfl
  have e1 := pz_dshr 1 85 (by decide) (by decide) l h
  rw [m1, e1] at hv ⊢
  obtain ⟨s1, s2⟩ := pz_dsub (fun b => (b >>> 1) &&& 85) l (fun b hb => (pz_byte b (h b hb)).1)
  refine ⟨s2, ?_⟩
  rw [s1] at hv
  have hv : v = pz_d (l.map pz_k1) := hv
  have h2 : ∀ b ∈ l.map pz_k1, b < 2 ^ 8 := by
    intro b hb
    obtain ⟨a, ha, rfl⟩ := List.mem_map.mp hb
    exact (pz_byte a (h a ha)).2.1
  have m2 : (3689348814741910323 : Nat) = pz_d ((l.map pz_k1).map (fun _ => 51)) := by
    rw [List.map_const', List.length_map, hl]; rfl
  rw [hv, m2, pz_dshr 2 51 (by decide) (by decide) _ h2, pz_dand 51 (by decide) _ h2, pz_dadd, List.map_map]
  rfl
theorem pz_3 {c0 c1 c2 c3 c4 c5 c6 c7 : Nat} (h : ∀ c ∈ [c0, c1, c2, c3, c4, c5, c6, c7], c % 16 ≤ 4 ∧ c / 16 ≤ 4) (v : Nat) (hv : v = pz_d [c0, c1, c2, c3, c4, c5, c6, c7]) :
    (v + (v >>> 4)) &&& 1085102592571150095 = pz_d ([c0, c1, c2, c3, c4, c5, c6, c7].map pz_k3) := by
  have q0 := h c0 (by simp)
  have q1 := h c1 (by simp)
  have q2 := h c2 (by simp)
  have q3 := h c3 (by simp)
  have q4 := h c4 (by simp)
  have q5 := h c5 (by simp)
  have q6 := h c6 (by simp)
  have q7 := h c7 (by simp)
  have e : v + (v >>> 4) = pz_d [c0 + c0 / 16 + 16 * (c1 % 16), c1 + c1 / 16 + 16 * (c2 % 16), c2 + c2 / 16 + 16 * (c3 % 16), c3 + c3 / 16 + 16 * (c4 % 16), c4 + c4 / 16 + 16 * (c5 % 16), c5 + c5 / 16 + 16 * (c6 % 16), c6 + c6 / 16 + 16 * (c7 % 16), c7 + c7 / 16] := by
    rw [hv, Nat.shiftRight_eq_div_pow]
    simp only [pz_d]
    omega
  rw [e]
  have m : (1085102592571150095 : Nat) = pz_d ([c0 + c0 / 16 + 16 * (c1 % 16), c1 + c1 / 16 + 16 * (c2 % 16), c2 + c2 / 16 + 16 * (c3 % 16), c3 + c3 / 16 + 16 * (c4 % 16), c4 + c4 / 16 + 16 * (c5 % 16), c5 + c5 / 16 + 16 * (c6 % 16), c6 + c6 / 16 + 16 * (c7 % 16), c7 + c7 / 16].map (fun _ => 15)) := by simp [pz_d]
  rw [m, pz_dand 15 (by decide) _ (by
    intro b hb
    simp only [List.mem_cons, List.not_mem_nil, or_false] at hb
    omega)]
  have k : ∀ a : Nat, a &&& 15 = a % 16 := fun a => Nat.and_two_pow_sub_one_eq_mod a 4
  have z : ∀ c x : Nat, c % 16 ≤ 4 ∧ c / 16 ≤ 4 → (c + c / 16 + 16 * x) % 16 = c % 16 + c / 16 := by
    intro c x h
    omega
  have z7 : ∀ c : Nat, c % 16 ≤ 4 ∧ c / 16 ≤ 4 → (c + c / 16) % 16 = c % 16 + c / 16 := by
    intro c h
    omega
  simp only [List.map_cons, List.map_nil, k, pz_k3]
  rw [z c0 _ q0, z c1 _ q1, z c2 _ q2, z c3 _ q3, z c4 _ q4, z c5 _ q5, z c6 _ q6, z7 c7 q7]
theorem pz_456 {d0 d1 d2 d3 d4 d5 d6 d7 : Nat} (h : ∀ d ∈ [d0, d1, d2, d3, d4, d5, d6, d7], d ≤ 8) (v3 v4 v5 : Nat) (h3 : v3 = pz_d [d0, d1, d2, d3, d4, d5, d6, d7]) (h4 : v4 = v3 + v3 / 256) (h5 : v5 = v4 + v4 / 65536) :
    v5 + v5 / 4294967296 < 2 ^ 64 ∧ (v5 + v5 / 4294967296) % 128 = d0 + d1 + d2 + d3 + d4 + d5 + d6 + d7 := by
  have q0 := h d0 (by simp)
  have q1 := h d1 (by simp)
  have q2 := h d2 (by simp)
  have q3 := h d3 (by simp)
  have q4 := h d4 (by simp)
  have q5 := h d5 (by simp)
  have q6 := h d6 (by simp)
  have q7 := h d7 (by simp)
  have e4 : v4 = pz_d [d0 + d1, d1 + d2, d2 + d3, d3 + d4, d4 + d5, d5 + d6, d6 + d7, d7] := by
    rw [h4, h3]
    simp only [pz_d]
    omega
  have e5 : v5 = pz_d [d0 + d1 + d2 + d3, d1 + d2 + d3 + d4, d2 + d3 + d4 + d5, d3 + d4 + d5 + d6, d4 + d5 + d6 + d7, d5 + d6 + d7, d6 + d7, d7] := by
    rw [h5, e4]
    simp only [pz_d]
    omega
  have e6 : v5 / 4294967296 = pz_d [d4 + d5 + d6 + d7, d5 + d6 + d7, d6 + d7, d7] := by
    rw [e5]
    simp only [pz_d]
    omega
  rw [e6, e5]
  simp only [pz_d]
  omega
/-- how many of the first n bits of x are 1 -/
def pz_n (x : Nat) : Nat → Nat
  | 0 => 0
  | n + 1 => pz_n x n + x / 2 ^ n % 2
theorem pz_bits (x y k : Nat) (h : x / 256 ^ k = y) : pz_n x (8 * k + 8) = pz_n x (8 * k) + pz_b (y % 256) := by
  have hp : ∀ i, x / 2 ^ (8 * k + i) = y / 2 ^ i := by
    intro i
    rw [← h, Nat.div_div_eq_div_mul, Nat.pow_add, Nat.pow_mul]
  have hp0 := hp 0
  rw [Nat.add_zero] at hp0
  have r0 : y % 256 % 2 = y / 2 ^ 0 % 2 := by omega
  have r1 : y % 256 / 2 % 2 = y / 2 ^ 1 % 2 := by omega
  have r2 : y % 256 / 4 % 2 = y / 2 ^ 2 % 2 := by omega
  have r3 : y % 256 / 8 % 2 = y / 2 ^ 3 % 2 := by omega
  have r4 : y % 256 / 16 % 2 = y / 2 ^ 4 % 2 := by omega
  have r5 : y % 256 / 32 % 2 = y / 2 ^ 5 % 2 := by omega
  have r6 : y % 256 / 64 % 2 = y / 2 ^ 6 % 2 := by omega
  have r7 : y % 256 / 128 % 2 = y / 2 ^ 7 % 2 := by omega
  unfold pz_b
  rw [r0, r1, r2, r3, r4, r5, r6, r7]
  show pz_n x (8 * k) + x / 2 ^ (8 * k) % 2 + x / 2 ^ (8 * k + 1) % 2 + x / 2 ^ (8 * k + 2) % 2 + x / 2 ^ (8 * k + 3) % 2 + x / 2 ^ (8 * k + 4) % 2 + x / 2 ^ (8 * k + 5) % 2 + x / 2 ^ (8 * k + 6) % 2 + x / 2 ^ (8 * k + 7) % 2 = _
  rw [hp0, hp 1, hp 2, hp 3, hp 4, hp 5, hp 6, hp 7]
  simp only [Nat.add_assoc]
theorem pz_all {x v1 v2 v3 v4 v5 : Nat} (hx : x < 2 ^ 64) (h1 : v1 = x - ((x / 2) &&& 6148914691236517205)) (h2 : v2 = (v1 &&& 3689348814741910323) + ((v1 / 4) &&& 3689348814741910323)) (h3 : v3 = (v2 + v2 / 16) &&& 1085102592571150095) (h4 : v4 = v3 + v3 / 256) (h5 : v5 = v4 + v4 / 65536) :
    ((x / 2) &&& 6148914691236517205) ≤ x ∧ v5 + v5 / 4294967296 < 2 ^ 64 ∧ (v5 + v5 / 4294967296) % 128 = pz_n x 64 := by
  have dd : ∀ a b : Nat, x / a / b = x / (a * b) := fun a b => Nat.div_div_eq_div_mul x a b
  obtain ⟨y1, e1⟩ : ∃ y, y = x / 256 := ⟨_, rfl⟩
  obtain ⟨y2, e2⟩ : ∃ y, y = y1 / 256 := ⟨_, rfl⟩
  obtain ⟨y3, e3⟩ : ∃ y, y = y2 / 256 := ⟨_, rfl⟩
  obtain ⟨y4, e4⟩ : ∃ y, y = y3 / 256 := ⟨_, rfl⟩
  obtain ⟨y5, e5⟩ : ∃ y, y = y4 / 256 := ⟨_, rfl⟩
  obtain ⟨y6, e6⟩ : ∃ y, y = y5 / 256 := ⟨_, rfl⟩
  obtain ⟨y7, e7⟩ : ∃ y, y = y6 / 256 := ⟨_, rfl⟩
  have q0 := pz_bits x x 0 (by simp)
  have q1 := pz_bits x y1 1 e1.symm
  have q2 := pz_bits x y2 2 (by rw [e2, e1, dd])
  have q3 := pz_bits x y3 3 (by rw [e3, e2, e1, dd, dd])
  have q4 := pz_bits x y4 4 (by rw [e4, e3, e2, e1, dd, dd, dd])
  have q5 := pz_bits x y5 5 (by rw [e5, e4, e3, e2, e1, dd, dd, dd, dd])
  have q6 := pz_bits x y6 6 (by rw [e6, e5, e4, e3, e2, e1, dd, dd, dd, dd, dd])
  have q7 := pz_bits x y7 7 (by rw [e7, e6, e5, e4, e3, e2, e1, dd, dd, dd, dd, dd, dd])
  have m0 := Nat.div_add_mod x 256
  have m1 := Nat.div_add_mod y1 256
  have m2 := Nat.div_add_mod y2 256
  have m3 := Nat.div_add_mod y3 256
  have m4 := Nat.div_add_mod y4 256
  have m5 := Nat.div_add_mod y5 256
  have m6 := Nat.div_add_mod y6 256
  rw [← e1] at m0
  rw [← e2] at m1
  rw [← e3] at m2
  rw [← e4] at m3
  rw [← e5] at m4
  rw [← e6] at m5
  rw [← e7] at m6
  have c0 := Nat.mod_lt x (show 0 < 256 by decide)
  have c1 := Nat.mod_lt y1 (show 0 < 256 by decide)
  have c2 := Nat.mod_lt y2 (show 0 < 256 by decide)
  have c3 := Nat.mod_lt y3 (show 0 < 256 by decide)
  have c4 := Nat.mod_lt y4 (show 0 < 256 by decide)
  have c5 := Nat.mod_lt y5 (show 0 < 256 by decide)
  have c6 := Nat.mod_lt y6 (show 0 < 256 by decide)
  clear e1 e2 e3 e4 e5 e6 e7 dd
  generalize x % 256 = b0 at *
  generalize y1 % 256 = b1 at *
  generalize y2 % 256 = b2 at *
  generalize y3 % 256 = b3 at *
  generalize y4 % 256 = b4 at *
  generalize y5 % 256 = b5 at *
  generalize y6 % 256 = b6 at *
  have c7 : y7 < 256 := by omega
  rw [Nat.mod_eq_of_lt c7] at q7
  have ex : x = pz_d [b0, b1, b2, b3, b4, b5, b6, y7] := by
    simp only [pz_d]
    omega
  have g0 := pz_byte b0 c0
  have g1 := pz_byte b1 c1
  have g2 := pz_byte b2 c2
  have g3 := pz_byte b3 c3
  have g4 := pz_byte b4 c4
  have g5 := pz_byte b5 c5
  have g6 := pz_byte b6 c6
  have g7 := pz_byte y7 c7
  have hl : ∀ b ∈ [b0, b1, b2, b3, b4, b5, b6, y7], b < 256 := by
    intro b hb
    simp only [List.mem_cons, List.not_mem_nil, or_false] at hb
    rcases hb with rfl | rfl | rfl | rfl | rfl | rfl | rfl | rfl <;> assumption
  obtain ⟨p1, p2⟩ := pz_12 [b0, b1, b2, b3, b4, b5, b6, y7] rfl hl v1 (by rw [← ex, Nat.shiftRight_eq_div_pow]; exact h1)
  rw [← ex, Nat.shiftRight_eq_div_pow] at p1
  rw [Nat.shiftRight_eq_div_pow] at p2
  have p2 : v2 = pz_d [pz_k2 (pz_k1 b0), pz_k2 (pz_k1 b1), pz_k2 (pz_k1 b2), pz_k2 (pz_k1 b3), pz_k2 (pz_k1 b4), pz_k2 (pz_k1 b5), pz_k2 (pz_k1 b6), pz_k2 (pz_k1 y7)] := h2.trans p2
  have p3 := pz_3 (fun c hc => by
    simp only [List.mem_cons, List.not_mem_nil, or_false] at hc
    rcases hc with rfl | rfl | rfl | rfl | rfl | rfl | rfl | rfl
    · exact ⟨g0.2.2.1, g0.2.2.2.1⟩
    · exact ⟨g1.2.2.1, g1.2.2.2.1⟩
    · exact ⟨g2.2.2.1, g2.2.2.2.1⟩
    · exact ⟨g3.2.2.1, g3.2.2.2.1⟩
    · exact ⟨g4.2.2.1, g4.2.2.2.1⟩
    · exact ⟨g5.2.2.1, g5.2.2.2.1⟩
    · exact ⟨g6.2.2.1, g6.2.2.2.1⟩
    · exact ⟨g7.2.2.1, g7.2.2.2.1⟩) v2 p2
  rw [Nat.shiftRight_eq_div_pow] at p3
  have p3 : v3 = pz_d [pz_b b0, pz_b b1, pz_b b2, pz_b b3, pz_b b4, pz_b b5, pz_b b6, pz_b y7] := by
    refine h3.trans (p3.trans ?_)
    simp only [List.map_cons, List.map_nil]
    rw [g0.2.2.2.2.1, g1.2.2.2.2.1, g2.2.2.2.2.1, g3.2.2.2.2.1, g4.2.2.2.2.1, g5.2.2.2.2.1, g6.2.2.2.2.1, g7.2.2.2.2.1]
  have f0 := g0.2.2.2.2.2
  have f1 := g1.2.2.2.2.2
  have f2 := g2.2.2.2.2.2
  have f3 := g3.2.2.2.2.2
  have f4 := g4.2.2.2.2.2
  have f5 := g5.2.2.2.2.2
  have f6 := g6.2.2.2.2.2
  have f7 := g7.2.2.2.2.2
  obtain ⟨p4, p5⟩ := pz_456 (fun d hd => by
    simp only [List.mem_cons, List.not_mem_nil, or_false] at hd
    rcases hd with rfl | rfl | rfl | rfl | rfl | rfl | rfl | rfl <;> assumption) v3 v4 v5 p3 h4 h5
  refine ⟨p1, p4, p5.trans ?_⟩
  simp only [Nat.mul_zero, Nat.zero_add, Nat.reduceMul, Nat.reduceAdd] at q0 q1 q2 q3 q4 q5 q6 q7
  have q9 : pz_n x 0 = 0 := rfl
  rw [q7, q6, q5, q4, q3, q2, q1, q0, q9]
  omega
end
section
theorem d_X_init_0 : decode b_X_init 0 = .ok (.aload_n 0, 1) := by decide +kernel
theorem d_X_init_1 : decode b_X_init 1 = .ok (.invokespecial 3, 3) := by decide +kernel
theorem d_X_init_4 : decode b_X_init 4 = .ok (.aload_n 0, 1) := by decide +kernel
theorem d_X_init_5 : decode b_X_init 5 = .ok (.sipush 256, 3) := by decide +kernel
theorem d_X_init_8 : decode b_X_init 8 = .ok (.newarray .long, 2) := by decide +kernel
theorem d_X_init_10 : decode b_X_init 10 = .ok (.putfield 9, 3) := by decide +kernel
theorem d_X_init_13 : decode b_X_init 13 = .ok (.aload_n 0, 1) := by decide +kernel
theorem d_X_init_14 : decode b_X_init 14 = .ok (.bipush 31, 2) := by decide +kernel
theorem d_X_init_16 : decode b_X_init 16 = .ok (.anewarray 13, 3) := by decide +kernel
theorem d_X_init_19 : decode b_X_init 19 = .ok (.putfield 15, 3) := by decide +kernel
theorem d_X_init_22 : decode b_X_init 22 = .ok (.aload_n 0, 1) := by decide +kernel
theorem d_X_init_23 : decode b_X_init 23 = .ok (.iconst 0, 1) := by decide +kernel
theorem d_X_init_24 : decode b_X_init 24 = .ok (.putfield 19, 3) := by decide +kernel
theorem d_X_init_27 : decode b_X_init 27 = .ok (.iconst 0, 1) := by decide +kernel
theorem d_X_init_28 : decode b_X_init 28 = .ok (.istore_n 1, 1) := by decide +kernel
theorem d_X_init_29 : decode b_X_init 29 = .ok (.iload_n 1, 1) := by decide +kernel
theorem d_X_init_30 : decode b_X_init 30 = .ok (.aload_n 0, 1) := by decide +kernel
theorem d_X_init_31 : decode b_X_init 31 = .ok (.getfield 15, 3) := by decide +kernel
theorem d_X_init_34 : decode b_X_init 34 = .ok (.arraylength, 1) := by decide +kernel
theorem d_X_init_35 : decode b_X_init 35 = .ok (.if_icmp .ge 22, 3) := by decide +kernel
theorem d_X_init_38 : decode b_X_init 38 = .ok (.aload_n 0, 1) := by decide +kernel
theorem d_X_init_39 : decode b_X_init 39 = .ok (.getfield 15, 3) := by decide +kernel
theorem d_X_init_42 : decode b_X_init 42 = .ok (.iload_n 1, 1) := by decide +kernel
theorem d_X_init_43 : decode b_X_init 43 = .ok (.new 13, 3) := by decide +kernel
theorem d_X_init_46 : decode b_X_init 46 = .ok (.dup, 1) := by decide +kernel
theorem d_X_init_47 : decode b_X_init 47 = .ok (.invokespecial 23, 3) := by decide +kernel
theorem d_X_init_50 : decode b_X_init 50 = .ok (.aastore, 1) := by decide +kernel
theorem d_X_init_51 : decode b_X_init 51 = .ok (.iinc 1 1, 3) := by decide +kernel
theorem d_X_init_54 : decode b_X_init 54 = .ok (.goto (-25), 3) := by decide +kernel
theorem d_X_init_57 : decode b_X_init 57 = .ok (.return_, 1) := by decide +kernel
theorem d_S_init_0 : decode b_S_init 0 = .ok (.aload_n 0, 1) := by decide +kernel
theorem d_S_init_1 : decode b_S_init 1 = .ok (.invokespecial 3, 3) := by decide +kernel
theorem d_S_init_4 : decode b_S_init 4 = .ok (.aload_n 0, 1) := by decide +kernel
theorem d_S_init_5 : decode b_S_init 5 = .ok (.sipush 256, 3) := by decide +kernel
theorem d_S_init_8 : decode b_S_init 8 = .ok (.newarray .long, 2) := by decide +kernel
theorem d_S_init_10 : decode b_S_init 10 = .ok (.putfield 9, 3) := by decide +kernel
theorem d_S_init_13 : decode b_S_init 13 = .ok (.aload_n 0, 1) := by decide +kernel
theorem d_S_init_14 : decode b_S_init 14 = .ok (.iconst 4, 1) := by decide +kernel
theorem d_S_init_15 : decode b_S_init 15 = .ok (.newarray .long, 2) := by decide +kernel
theorem d_S_init_17 : decode b_S_init 17 = .ok (.putfield 15, 3) := by decide +kernel
theorem d_S_init_20 : decode b_S_init 20 = .ok (.aload_n 0, 1) := by decide +kernel
theorem d_S_init_21 : decode b_S_init 21 = .ok (.iconst 0, 1) := by decide +kernel
theorem d_S_init_22 : decode b_S_init 22 = .ok (.putfield 18, 3) := by decide +kernel
theorem d_S_init_25 : decode b_S_init 25 = .ok (.return_, 1) := by decide +kernel
theorem d_X_begin_0 : decode b_X_begin 0 = .ok (.aload_n 0, 1) := by decide +kernel
theorem d_X_begin_1 : decode b_X_begin 1 = .ok (.getfield 15, 3) := by decide +kernel
theorem d_X_begin_4 : decode b_X_begin 4 = .ok (.iconst 0, 1) := by decide +kernel
theorem d_X_begin_5 : decode b_X_begin 5 = .ok (.aaload, 1) := by decide +kernel
theorem d_X_begin_6 : decode b_X_begin 6 = .ok (.astore_n 1, 1) := by decide +kernel
theorem d_X_begin_7 : decode b_X_begin 7 = .ok (.aload_n 0, 1) := by decide +kernel
theorem d_X_begin_8 : decode b_X_begin 8 = .ok (.getfield 19, 3) := by decide +kernel
theorem d_X_begin_11 : decode b_X_begin 11 = .ok (.ifCond .le 16, 3) := by decide +kernel
theorem d_X_begin_14 : decode b_X_begin 14 = .ok (.aload_n 1, 1) := by decide +kernel
theorem d_X_begin_15 : decode b_X_begin 15 = .ok (.aload_n 0, 1) := by decide +kernel
theorem d_X_begin_16 : decode b_X_begin 16 = .ok (.getfield 15, 3) := by decide +kernel
theorem d_X_begin_19 : decode b_X_begin 19 = .ok (.aload_n 0, 1) := by decide +kernel
theorem d_X_begin_20 : decode b_X_begin 20 = .ok (.getfield 19, 3) := by decide +kernel
theorem d_X_begin_23 : decode b_X_begin 23 = .ok (.aaload, 1) := by decide +kernel
theorem d_X_begin_24 : decode b_X_begin 24 = .ok (.invokevirtual 24, 3) := by decide +kernel
theorem d_X_begin_27 : decode b_X_begin 27 = .ok (.aload_n 0, 1) := by decide +kernel
theorem d_X_begin_28 : decode b_X_begin 28 = .ok (.iconst 0, 1) := by decide +kernel
theorem d_X_begin_29 : decode b_X_begin 29 = .ok (.putfield 19, 3) := by decide +kernel
theorem d_X_begin_32 : decode b_X_begin 32 = .ok (.aload_n 1, 1) := by decide +kernel
theorem d_X_begin_33 : decode b_X_begin 33 = .ok (.invokevirtual 28, 3) := by decide +kernel
theorem d_X_begin_36 : decode b_X_begin 36 = .ok (.aload_n 1, 1) := by decide +kernel
theorem d_X_begin_37 : decode b_X_begin 37 = .ok (.getfield 31, 3) := by decide +kernel
theorem d_X_begin_40 : decode b_X_begin 40 = .ok (.iconst 0, 1) := by decide +kernel
theorem d_X_begin_41 : decode b_X_begin 41 = .ok (.aload_n 0, 1) := by decide +kernel
theorem d_X_begin_42 : decode b_X_begin 42 = .ok (.getfield 9, 3) := by decide +kernel
theorem d_X_begin_45 : decode b_X_begin 45 = .ok (.iconst 0, 1) := by decide +kernel
theorem d_X_begin_46 : decode b_X_begin 46 = .ok (.sipush 256, 3) := by decide +kernel
theorem d_X_begin_49 : decode b_X_begin 49 = .ok (.invokestatic 34, 3) := by decide +kernel
theorem d_X_begin_52 : decode b_X_begin 52 = .ok (.aload_n 1, 1) := by decide +kernel
theorem d_X_begin_53 : decode b_X_begin 53 = .ok (.invokevirtual 40, 3) := by decide +kernel
theorem d_X_begin_56 : decode b_X_begin 56 = .ok (.ireturn, 1) := by decide +kernel
theorem d_S_copyFrom_0 : decode b_S_copyFrom 0 = .ok (.aload_n 1, 1) := by decide +kernel
theorem d_S_copyFrom_1 : decode b_S_copyFrom 1 = .ok (.getfield 9, 3) := by decide +kernel
theorem d_S_copyFrom_4 : decode b_S_copyFrom 4 = .ok (.iconst 0, 1) := by decide +kernel
theorem d_S_copyFrom_5 : decode b_S_copyFrom 5 = .ok (.aload_n 0, 1) := by decide +kernel
theorem d_S_copyFrom_6 : decode b_S_copyFrom 6 = .ok (.getfield 9, 3) := by decide +kernel
theorem d_S_copyFrom_9 : decode b_S_copyFrom 9 = .ok (.iconst 0, 1) := by decide +kernel
theorem d_S_copyFrom_10 : decode b_S_copyFrom 10 = .ok (.sipush 256, 3) := by decide +kernel
theorem d_S_copyFrom_13 : decode b_S_copyFrom 13 = .ok (.invokestatic 22, 3) := by decide +kernel
theorem d_S_copyFrom_16 : decode b_S_copyFrom 16 = .ok (.aload_n 1, 1) := by decide +kernel
theorem d_S_copyFrom_17 : decode b_S_copyFrom 17 = .ok (.getfield 15, 3) := by decide +kernel
theorem d_S_copyFrom_20 : decode b_S_copyFrom 20 = .ok (.iconst 0, 1) := by decide +kernel
theorem d_S_copyFrom_21 : decode b_S_copyFrom 21 = .ok (.aload_n 0, 1) := by decide +kernel
theorem d_S_copyFrom_22 : decode b_S_copyFrom 22 = .ok (.getfield 15, 3) := by decide +kernel
theorem d_S_copyFrom_25 : decode b_S_copyFrom 25 = .ok (.iconst 0, 1) := by decide +kernel
theorem d_S_copyFrom_26 : decode b_S_copyFrom 26 = .ok (.iconst 4, 1) := by decide +kernel
theorem d_S_copyFrom_27 : decode b_S_copyFrom 27 = .ok (.invokestatic 22, 3) := by decide +kernel
theorem d_S_copyFrom_30 : decode b_S_copyFrom 30 = .ok (.aload_n 0, 1) := by decide +kernel
theorem d_S_copyFrom_31 : decode b_S_copyFrom 31 = .ok (.aload_n 1, 1) := by decide +kernel
theorem d_S_copyFrom_32 : decode b_S_copyFrom 32 = .ok (.getfield 18, 3) := by decide +kernel
theorem d_S_copyFrom_35 : decode b_S_copyFrom 35 = .ok (.putfield 18, 3) := by decide +kernel
theorem d_S_copyFrom_38 : decode b_S_copyFrom 38 = .ok (.return_, 1) := by decide +kernel
theorem d_S_forgetCosts_0 : decode b_S_forgetCosts 0 = .ok (.iconst 0, 1) := by decide +kernel
theorem d_S_forgetCosts_1 : decode b_S_forgetCosts 1 = .ok (.istore_n 1, 1) := by decide +kernel
theorem d_S_forgetCosts_2 : decode b_S_forgetCosts 2 = .ok (.iload_n 1, 1) := by decide +kernel
theorem d_S_forgetCosts_3 : decode b_S_forgetCosts 3 = .ok (.iconst 4, 1) := by decide +kernel
theorem d_S_forgetCosts_4 : decode b_S_forgetCosts 4 = .ok (.if_icmp .ge 16, 3) := by decide +kernel
theorem d_S_forgetCosts_7 : decode b_S_forgetCosts 7 = .ok (.aload_n 0, 1) := by decide +kernel
theorem d_S_forgetCosts_8 : decode b_S_forgetCosts 8 = .ok (.getfield 15, 3) := by decide +kernel
theorem d_S_forgetCosts_11 : decode b_S_forgetCosts 11 = .ok (.iload_n 1, 1) := by decide +kernel
theorem d_S_forgetCosts_12 : decode b_S_forgetCosts 12 = .ok (.lconst 0, 1) := by decide +kernel
theorem d_S_forgetCosts_13 : decode b_S_forgetCosts 13 = .ok (.lastore, 1) := by decide +kernel
theorem d_S_forgetCosts_14 : decode b_S_forgetCosts 14 = .ok (.iinc 1 1, 3) := by decide +kernel
theorem d_S_forgetCosts_17 : decode b_S_forgetCosts 17 = .ok (.goto (-15), 3) := by decide +kernel
theorem d_S_forgetCosts_20 : decode b_S_forgetCosts 20 = .ok (.aload_n 0, 1) := by decide +kernel
theorem d_S_forgetCosts_21 : decode b_S_forgetCosts 21 = .ok (.iconst 0, 1) := by decide +kernel
theorem d_S_forgetCosts_22 : decode b_S_forgetCosts 22 = .ok (.putfield 18, 3) := by decide +kernel
theorem d_S_forgetCosts_25 : decode b_S_forgetCosts 25 = .ok (.return_, 1) := by decide +kernel
theorem d_S_filledPlaces_0 : decode b_S_filledPlaces 0 = .ok (.iconst 0, 1) := by decide +kernel
theorem d_S_filledPlaces_1 : decode b_S_filledPlaces 1 = .ok (.istore_n 1, 1) := by decide +kernel
theorem d_S_filledPlaces_2 : decode b_S_filledPlaces 2 = .ok (.iconst 0, 1) := by decide +kernel
theorem d_S_filledPlaces_3 : decode b_S_filledPlaces 3 = .ok (.istore_n 2, 1) := by decide +kernel
theorem d_S_filledPlaces_4 : decode b_S_filledPlaces 4 = .ok (.iload_n 2, 1) := by decide +kernel
theorem d_S_filledPlaces_5 : decode b_S_filledPlaces 5 = .ok (.sipush 256, 3) := by decide +kernel
theorem d_S_filledPlaces_8 : decode b_S_filledPlaces 8 = .ok (.if_icmp .ge 23, 3) := by decide +kernel
theorem d_S_filledPlaces_11 : decode b_S_filledPlaces 11 = .ok (.aload_n 0, 1) := by decide +kernel
theorem d_S_filledPlaces_12 : decode b_S_filledPlaces 12 = .ok (.getfield 9, 3) := by decide +kernel
theorem d_S_filledPlaces_15 : decode b_S_filledPlaces 15 = .ok (.iload_n 2, 1) := by decide +kernel
theorem d_S_filledPlaces_16 : decode b_S_filledPlaces 16 = .ok (.laload, 1) := by decide +kernel
theorem d_S_filledPlaces_17 : decode b_S_filledPlaces 17 = .ok (.lconst 0, 1) := by decide +kernel
theorem d_S_filledPlaces_18 : decode b_S_filledPlaces 18 = .ok (.lcmp, 1) := by decide +kernel
theorem d_S_filledPlaces_19 : decode b_S_filledPlaces 19 = .ok (.ifCond .eq 6, 3) := by decide +kernel
theorem d_S_filledPlaces_22 : decode b_S_filledPlaces 22 = .ok (.iinc 1 1, 3) := by decide +kernel
theorem d_S_filledPlaces_25 : decode b_S_filledPlaces 25 = .ok (.iinc 2 1, 3) := by decide +kernel
theorem d_S_filledPlaces_28 : decode b_S_filledPlaces 28 = .ok (.goto (-24), 3) := by decide +kernel
theorem d_S_filledPlaces_31 : decode b_S_filledPlaces 31 = .ok (.iload_n 1, 1) := by decide +kernel
theorem d_S_filledPlaces_32 : decode b_S_filledPlaces 32 = .ok (.ireturn, 1) := by decide +kernel
theorem d_X_open_0 : decode b_X_open 0 = .ok (.aload_n 0, 1) := by decide +kernel
theorem d_X_open_1 : decode b_X_open 1 = .ok (.getfield 19, 3) := by decide +kernel
theorem d_X_open_4 : decode b_X_open 4 = .ok (.bipush 30, 2) := by decide +kernel
theorem d_X_open_6 : decode b_X_open 6 = .ok (.if_icmp .lt 13, 3) := by decide +kernel
theorem d_X_open_9 : decode b_X_open 9 = .ok (.new 44, 3) := by decide +kernel
theorem d_X_open_12 : decode b_X_open 12 = .ok (.dup, 1) := by decide +kernel
theorem d_X_open_13 : decode b_X_open 13 = .ok (.ldc 46, 2) := by decide +kernel
theorem d_X_open_15 : decode b_X_open 15 = .ok (.invokespecial 48, 3) := by decide +kernel
theorem d_X_open_18 : decode b_X_open 18 = .ok (.athrow, 1) := by decide +kernel
theorem d_X_open_19 : decode b_X_open 19 = .ok (.aload_n 0, 1) := by decide +kernel
theorem d_X_open_20 : decode b_X_open 20 = .ok (.getfield 15, 3) := by decide +kernel
theorem d_X_open_23 : decode b_X_open 23 = .ok (.aload_n 0, 1) := by decide +kernel
theorem d_X_open_24 : decode b_X_open 24 = .ok (.getfield 19, 3) := by decide +kernel
theorem d_X_open_27 : decode b_X_open 27 = .ok (.iconst 1, 1) := by decide +kernel
theorem d_X_open_28 : decode b_X_open 28 = .ok (.iadd, 1) := by decide +kernel
theorem d_X_open_29 : decode b_X_open 29 = .ok (.aaload, 1) := by decide +kernel
theorem d_X_open_30 : decode b_X_open 30 = .ok (.aload_n 0, 1) := by decide +kernel
theorem d_X_open_31 : decode b_X_open 31 = .ok (.getfield 15, 3) := by decide +kernel
theorem d_X_open_34 : decode b_X_open 34 = .ok (.aload_n 0, 1) := by decide +kernel
theorem d_X_open_35 : decode b_X_open 35 = .ok (.getfield 19, 3) := by decide +kernel
theorem d_X_open_38 : decode b_X_open 38 = .ok (.aaload, 1) := by decide +kernel
theorem d_X_open_39 : decode b_X_open 39 = .ok (.invokevirtual 24, 3) := by decide +kernel
theorem d_X_open_42 : decode b_X_open 42 = .ok (.aload_n 0, 1) := by decide +kernel
theorem d_X_open_43 : decode b_X_open 43 = .ok (.dup, 1) := by decide +kernel
theorem d_X_open_44 : decode b_X_open 44 = .ok (.getfield 19, 3) := by decide +kernel
theorem d_X_open_47 : decode b_X_open 47 = .ok (.iconst 1, 1) := by decide +kernel
theorem d_X_open_48 : decode b_X_open 48 = .ok (.iadd, 1) := by decide +kernel
theorem d_X_open_49 : decode b_X_open 49 = .ok (.putfield 19, 3) := by decide +kernel
theorem d_X_open_52 : decode b_X_open 52 = .ok (.aload_n 0, 1) := by decide +kernel
theorem d_X_open_53 : decode b_X_open 53 = .ok (.getfield 19, 3) := by decide +kernel
theorem d_X_open_56 : decode b_X_open 56 = .ok (.ireturn, 1) := by decide +kernel
theorem d_X_close_0 : decode b_X_close 0 = .ok (.aload_n 0, 1) := by decide +kernel
theorem d_X_close_1 : decode b_X_close 1 = .ok (.getfield 19, 3) := by decide +kernel
theorem d_X_close_4 : decode b_X_close 4 = .ok (.ifCond .gt 13, 3) := by decide +kernel
theorem d_X_close_7 : decode b_X_close 7 = .ok (.new 51, 3) := by decide +kernel
theorem d_X_close_10 : decode b_X_close 10 = .ok (.dup, 1) := by decide +kernel
theorem d_X_close_11 : decode b_X_close 11 = .ok (.ldc 53, 2) := by decide +kernel
theorem d_X_close_13 : decode b_X_close 13 = .ok (.invokespecial 55, 3) := by decide +kernel
theorem d_X_close_16 : decode b_X_close 16 = .ok (.athrow, 1) := by decide +kernel
theorem d_X_close_17 : decode b_X_close 17 = .ok (.iload_n 1, 1) := by decide +kernel
theorem d_X_close_18 : decode b_X_close 18 = .ok (.ifCond .eq 26, 3) := by decide +kernel
theorem d_X_close_21 : decode b_X_close 21 = .ok (.aload_n 0, 1) := by decide +kernel
theorem d_X_close_22 : decode b_X_close 22 = .ok (.getfield 15, 3) := by decide +kernel
theorem d_X_close_25 : decode b_X_close 25 = .ok (.aload_n 0, 1) := by decide +kernel
theorem d_X_close_26 : decode b_X_close 26 = .ok (.getfield 19, 3) := by decide +kernel
theorem d_X_close_29 : decode b_X_close 29 = .ok (.iconst 1, 1) := by decide +kernel
theorem d_X_close_30 : decode b_X_close 30 = .ok (.isub, 1) := by decide +kernel
theorem d_X_close_31 : decode b_X_close 31 = .ok (.aaload, 1) := by decide +kernel
theorem d_X_close_32 : decode b_X_close 32 = .ok (.aload_n 0, 1) := by decide +kernel
theorem d_X_close_33 : decode b_X_close 33 = .ok (.getfield 15, 3) := by decide +kernel
theorem d_X_close_36 : decode b_X_close 36 = .ok (.aload_n 0, 1) := by decide +kernel
theorem d_X_close_37 : decode b_X_close 37 = .ok (.getfield 19, 3) := by decide +kernel
theorem d_X_close_40 : decode b_X_close 40 = .ok (.aaload, 1) := by decide +kernel
theorem d_X_close_41 : decode b_X_close 41 = .ok (.invokevirtual 24, 3) := by decide +kernel
theorem d_X_close_44 : decode b_X_close 44 = .ok (.aload_n 0, 1) := by decide +kernel
theorem d_X_close_45 : decode b_X_close 45 = .ok (.dup, 1) := by decide +kernel
theorem d_X_close_46 : decode b_X_close 46 = .ok (.getfield 19, 3) := by decide +kernel
theorem d_X_close_49 : decode b_X_close 49 = .ok (.iconst 1, 1) := by decide +kernel
theorem d_X_close_50 : decode b_X_close 50 = .ok (.isub, 1) := by decide +kernel
theorem d_X_close_51 : decode b_X_close 51 = .ok (.putfield 19, 3) := by decide +kernel
theorem d_X_close_54 : decode b_X_close 54 = .ok (.aload_n 0, 1) := by decide +kernel
theorem d_X_close_55 : decode b_X_close 55 = .ok (.getfield 19, 3) := by decide +kernel
theorem d_X_close_58 : decode b_X_close 58 = .ok (.ireturn, 1) := by decide +kernel
theorem d_X_load_0 : decode b_X_load 0 = .ok (.iload_n 1, 1) := by decide +kernel
theorem d_X_load_1 : decode b_X_load 1 = .ok (.iload_n 2, 1) := by decide +kernel
theorem d_X_load_2 : decode b_X_load 2 = .ok (.invokestatic 56, 3) := by decide +kernel
theorem d_X_load_5 : decode b_X_load 5 = .ok (.aload_n 0, 1) := by decide +kernel
theorem d_X_load_6 : decode b_X_load 6 = .ok (.getfield 15, 3) := by decide +kernel
theorem d_X_load_9 : decode b_X_load 9 = .ok (.aload_n 0, 1) := by decide +kernel
theorem d_X_load_10 : decode b_X_load 10 = .ok (.getfield 19, 3) := by decide +kernel
theorem d_X_load_13 : decode b_X_load 13 = .ok (.aaload, 1) := by decide +kernel
theorem d_X_load_14 : decode b_X_load 14 = .ok (.astore_n 3, 1) := by decide +kernel
theorem d_X_load_15 : decode b_X_load 15 = .ok (.aload_n 3, 1) := by decide +kernel
theorem d_X_load_16 : decode b_X_load 16 = .ok (.iload_n 1, 1) := by decide +kernel
theorem d_X_load_17 : decode b_X_load 17 = .ok (.iload_n 2, 1) := by decide +kernel
theorem d_X_load_18 : decode b_X_load 18 = .ok (.invokevirtual 60, 3) := by decide +kernel
theorem d_X_load_21 : decode b_X_load 21 = .ok (.ifCond .eq 8, 3) := by decide +kernel
theorem d_X_load_24 : decode b_X_load 24 = .ok (.bipush 100, 2) := by decide +kernel
theorem d_X_load_26 : decode b_X_load 26 = .ok (.goto 6, 3) := by decide +kernel
theorem d_X_load_29 : decode b_X_load 29 = .ok (.sipush 2100, 3) := by decide +kernel
theorem d_X_load_32 : decode b_X_load 32 = .ok (.istore 4, 2) := by decide +kernel
theorem d_X_load_34 : decode b_X_load 34 = .ok (.aload_n 3, 1) := by decide +kernel
theorem d_X_load_35 : decode b_X_load 35 = .ok (.iload_n 1, 1) := by decide +kernel
theorem d_X_load_36 : decode b_X_load 36 = .ok (.iload_n 2, 1) := by decide +kernel
theorem d_X_load_37 : decode b_X_load 37 = .ok (.invokevirtual 64, 3) := by decide +kernel
theorem d_X_load_40 : decode b_X_load 40 = .ok (.iload 4, 2) := by decide +kernel
theorem d_X_load_42 : decode b_X_load 42 = .ok (.ireturn, 1) := by decide +kernel
theorem d_X_checkPlace_0 : decode b_X_checkPlace 0 = .ok (.iload_n 0, 1) := by decide +kernel
theorem d_X_checkPlace_1 : decode b_X_checkPlace 1 = .ok (.ifCond .lt 18, 3) := by decide +kernel
theorem d_X_checkPlace_4 : decode b_X_checkPlace 4 = .ok (.iload_n 0, 1) := by decide +kernel
theorem d_X_checkPlace_5 : decode b_X_checkPlace 5 = .ok (.iconst 4, 1) := by decide +kernel
theorem d_X_checkPlace_6 : decode b_X_checkPlace 6 = .ok (.if_icmp .ge 13, 3) := by decide +kernel
theorem d_X_checkPlace_9 : decode b_X_checkPlace 9 = .ok (.iload_n 1, 1) := by decide +kernel
theorem d_X_checkPlace_10 : decode b_X_checkPlace 10 = .ok (.ifCond .lt 9, 3) := by decide +kernel
theorem d_X_checkPlace_13 : decode b_X_checkPlace 13 = .ok (.iload_n 1, 1) := by decide +kernel
theorem d_X_checkPlace_14 : decode b_X_checkPlace 14 = .ok (.bipush 64, 2) := by decide +kernel
theorem d_X_checkPlace_16 : decode b_X_checkPlace 16 = .ok (.if_icmp .lt 13, 3) := by decide +kernel
theorem d_X_checkPlace_19 : decode b_X_checkPlace 19 = .ok (.new 86, 3) := by decide +kernel
theorem d_X_checkPlace_22 : decode b_X_checkPlace 22 = .ok (.dup, 1) := by decide +kernel
theorem d_X_checkPlace_23 : decode b_X_checkPlace 23 = .ok (.ldc 91, 2) := by decide +kernel
theorem d_X_checkPlace_25 : decode b_X_checkPlace 25 = .ok (.invokespecial 90, 3) := by decide +kernel
theorem d_X_checkPlace_28 : decode b_X_checkPlace 28 = .ok (.athrow, 1) := by decide +kernel
theorem d_X_checkPlace_29 : decode b_X_checkPlace 29 = .ok (.return_, 1) := by decide +kernel
theorem d_S_isMarked_0 : decode b_S_isMarked 0 = .ok (.aload_n 0, 1) := by decide +kernel
theorem d_S_isMarked_1 : decode b_S_isMarked 1 = .ok (.getfield 15, 3) := by decide +kernel
theorem d_S_isMarked_4 : decode b_S_isMarked 4 = .ok (.iload_n 1, 1) := by decide +kernel
theorem d_S_isMarked_5 : decode b_S_isMarked 5 = .ok (.laload, 1) := by decide +kernel
theorem d_S_isMarked_6 : decode b_S_isMarked 6 = .ok (.iload_n 2, 1) := by decide +kernel
theorem d_S_isMarked_7 : decode b_S_isMarked 7 = .ok (.lushr, 1) := by decide +kernel
theorem d_S_isMarked_8 : decode b_S_isMarked 8 = .ok (.lconst 1, 1) := by decide +kernel
theorem d_S_isMarked_9 : decode b_S_isMarked 9 = .ok (.land, 1) := by decide +kernel
theorem d_S_isMarked_10 : decode b_S_isMarked 10 = .ok (.lconst 0, 1) := by decide +kernel
theorem d_S_isMarked_11 : decode b_S_isMarked 11 = .ok (.lcmp, 1) := by decide +kernel
theorem d_S_isMarked_12 : decode b_S_isMarked 12 = .ok (.ifCond .eq 7, 3) := by decide +kernel
theorem d_S_isMarked_15 : decode b_S_isMarked 15 = .ok (.iconst 1, 1) := by decide +kernel
theorem d_S_isMarked_16 : decode b_S_isMarked 16 = .ok (.goto 4, 3) := by decide +kernel
theorem d_S_isMarked_19 : decode b_S_isMarked 19 = .ok (.iconst 0, 1) := by decide +kernel
theorem d_S_isMarked_20 : decode b_S_isMarked 20 = .ok (.ireturn, 1) := by decide +kernel
theorem d_S_mark_0 : decode b_S_mark 0 = .ok (.aload_n 0, 1) := by decide +kernel
theorem d_S_mark_1 : decode b_S_mark 1 = .ok (.getfield 15, 3) := by decide +kernel
theorem d_S_mark_4 : decode b_S_mark 4 = .ok (.iload_n 1, 1) := by decide +kernel
theorem d_S_mark_5 : decode b_S_mark 5 = .ok (.dup2, 1) := by decide +kernel
theorem d_S_mark_6 : decode b_S_mark 6 = .ok (.laload, 1) := by decide +kernel
theorem d_S_mark_7 : decode b_S_mark 7 = .ok (.lconst 1, 1) := by decide +kernel
theorem d_S_mark_8 : decode b_S_mark 8 = .ok (.iload_n 2, 1) := by decide +kernel
theorem d_S_mark_9 : decode b_S_mark 9 = .ok (.lshl, 1) := by decide +kernel
theorem d_S_mark_10 : decode b_S_mark 10 = .ok (.lor, 1) := by decide +kernel
theorem d_S_mark_11 : decode b_S_mark 11 = .ok (.lastore, 1) := by decide +kernel
theorem d_S_mark_12 : decode b_S_mark 12 = .ok (.return_, 1) := by decide +kernel
theorem d_X_store_0 : decode b_X_store 0 = .ok (.iload_n 1, 1) := by decide +kernel
theorem d_X_store_1 : decode b_X_store 1 = .ok (.iload_n 2, 1) := by decide +kernel
theorem d_X_store_2 : decode b_X_store 2 = .ok (.invokestatic 56, 3) := by decide +kernel
theorem d_X_store_5 : decode b_X_store 5 = .ok (.aload_n 0, 1) := by decide +kernel
theorem d_X_store_6 : decode b_X_store 6 = .ok (.getfield 15, 3) := by decide +kernel
theorem d_X_store_9 : decode b_X_store 9 = .ok (.aload_n 0, 1) := by decide +kernel
theorem d_X_store_10 : decode b_X_store 10 = .ok (.getfield 19, 3) := by decide +kernel
theorem d_X_store_13 : decode b_X_store 13 = .ok (.aaload, 1) := by decide +kernel
theorem d_X_store_14 : decode b_X_store 14 = .ok (.astore 6, 2) := by decide +kernel
theorem d_X_store_16 : decode b_X_store 16 = .ok (.iload_n 1, 1) := by decide +kernel
theorem d_X_store_17 : decode b_X_store 17 = .ok (.iload_n 2, 1) := by decide +kernel
theorem d_X_store_18 : decode b_X_store 18 = .ok (.invokestatic 67, 3) := by decide +kernel
theorem d_X_store_21 : decode b_X_store 21 = .ok (.istore 7, 2) := by decide +kernel
theorem d_X_store_23 : decode b_X_store 23 = .ok (.aload_n 0, 1) := by decide +kernel
theorem d_X_store_24 : decode b_X_store 24 = .ok (.getfield 9, 3) := by decide +kernel
theorem d_X_store_27 : decode b_X_store 27 = .ok (.iload 7, 2) := by decide +kernel
theorem d_X_store_29 : decode b_X_store 29 = .ok (.laload, 1) := by decide +kernel
theorem d_X_store_30 : decode b_X_store 30 = .ok (.lstore 8, 2) := by decide +kernel
theorem d_X_store_32 : decode b_X_store 32 = .ok (.aload 6, 2) := by decide +kernel
theorem d_X_store_34 : decode b_X_store 34 = .ok (.getfield 31, 3) := by decide +kernel
theorem d_X_store_37 : decode b_X_store 37 = .ok (.iload 7, 2) := by decide +kernel
theorem d_X_store_39 : decode b_X_store 39 = .ok (.laload, 1) := by decide +kernel
theorem d_X_store_40 : decode b_X_store 40 = .ok (.lstore 10, 2) := by decide +kernel
theorem d_X_store_42 : decode b_X_store 42 = .ok (.lload 8, 2) := by decide +kernel
theorem d_X_store_44 : decode b_X_store 44 = .ok (.lload 10, 2) := by decide +kernel
theorem d_X_store_46 : decode b_X_store 46 = .ok (.lload_n 3, 1) := by decide +kernel
theorem d_X_store_47 : decode b_X_store 47 = .ok (.invokestatic 71, 3) := by decide +kernel
theorem d_X_store_50 : decode b_X_store 50 = .ok (.istore 12, 2) := by decide +kernel
theorem d_X_store_52 : decode b_X_store 52 = .ok (.aload 6, 2) := by decide +kernel
theorem d_X_store_54 : decode b_X_store 54 = .ok (.iload_n 1, 1) := by decide +kernel
theorem d_X_store_55 : decode b_X_store 55 = .ok (.iload_n 2, 1) := by decide +kernel
theorem d_X_store_56 : decode b_X_store 56 = .ok (.invokevirtual 60, 3) := by decide +kernel
theorem d_X_store_59 : decode b_X_store 59 = .ok (.ifCond .ne 9, 3) := by decide +kernel
theorem d_X_store_62 : decode b_X_store 62 = .ok (.iinc 12 2100, 6) := by decide +kernel
theorem d_X_store_68 : decode b_X_store 68 = .ok (.iload 5, 2) := by decide +kernel
theorem d_X_store_70 : decode b_X_store 70 = .ok (.sipush 2300, 3) := by decide +kernel
theorem d_X_store_73 : decode b_X_store 73 = .ok (.if_icmp .le 10, 3) := by decide +kernel
theorem d_X_store_76 : decode b_X_store 76 = .ok (.iload 12, 2) := by decide +kernel
theorem d_X_store_78 : decode b_X_store 78 = .ok (.iload 5, 2) := by decide +kernel
theorem d_X_store_80 : decode b_X_store 80 = .ok (.if_icmp .le 13, 3) := by decide +kernel
theorem d_X_store_83 : decode b_X_store 83 = .ok (.new 51, 3) := by decide +kernel
theorem d_X_store_86 : decode b_X_store 86 = .ok (.dup, 1) := by decide +kernel
theorem d_X_store_87 : decode b_X_store 87 = .ok (.ldc 75, 2) := by decide +kernel
theorem d_X_store_89 : decode b_X_store 89 = .ok (.invokespecial 55, 3) := by decide +kernel
theorem d_X_store_92 : decode b_X_store 92 = .ok (.athrow, 1) := by decide +kernel
theorem d_X_store_93 : decode b_X_store 93 = .ok (.aload 6, 2) := by decide +kernel
theorem d_X_store_95 : decode b_X_store 95 = .ok (.iload_n 1, 1) := by decide +kernel
theorem d_X_store_96 : decode b_X_store 96 = .ok (.iload_n 2, 1) := by decide +kernel
theorem d_X_store_97 : decode b_X_store 97 = .ok (.invokevirtual 64, 3) := by decide +kernel
theorem d_X_store_100 : decode b_X_store 100 = .ok (.aload 6, 2) := by decide +kernel
theorem d_X_store_102 : decode b_X_store 102 = .ok (.dup, 1) := by decide +kernel
theorem d_X_store_103 : decode b_X_store 103 = .ok (.getfield 77, 3) := by decide +kernel
theorem d_X_store_106 : decode b_X_store 106 = .ok (.lload 8, 2) := by decide +kernel
theorem d_X_store_108 : decode b_X_store 108 = .ok (.lload 10, 2) := by decide +kernel
theorem d_X_store_110 : decode b_X_store 110 = .ok (.lload_n 3, 1) := by decide +kernel
theorem d_X_store_111 : decode b_X_store 111 = .ok (.invokestatic 80, 3) := by decide +kernel
theorem d_X_store_114 : decode b_X_store 114 = .ok (.iadd, 1) := by decide +kernel
theorem d_X_store_115 : decode b_X_store 115 = .ok (.putfield 77, 3) := by decide +kernel
theorem d_X_store_118 : decode b_X_store 118 = .ok (.aload 6, 2) := by decide +kernel
theorem d_X_store_120 : decode b_X_store 120 = .ok (.getfield 31, 3) := by decide +kernel
theorem d_X_store_123 : decode b_X_store 123 = .ok (.iload 7, 2) := by decide +kernel
theorem d_X_store_125 : decode b_X_store 125 = .ok (.lload_n 3, 1) := by decide +kernel
theorem d_X_store_126 : decode b_X_store 126 = .ok (.lastore, 1) := by decide +kernel
theorem d_X_store_127 : decode b_X_store 127 = .ok (.iload 12, 2) := by decide +kernel
theorem d_X_store_129 : decode b_X_store 129 = .ok (.ireturn, 1) := by decide +kernel
theorem d_X_cellOf_0 : decode b_X_cellOf 0 = .ok (.iload_n 0, 1) := by decide +kernel
theorem d_X_cellOf_1 : decode b_X_cellOf 1 = .ok (.bipush 64, 2) := by decide +kernel
theorem d_X_cellOf_3 : decode b_X_cellOf 3 = .ok (.imul, 1) := by decide +kernel
theorem d_X_cellOf_4 : decode b_X_cellOf 4 = .ok (.iload_n 1, 1) := by decide +kernel
theorem d_X_cellOf_5 : decode b_X_cellOf 5 = .ok (.iadd, 1) := by decide +kernel
theorem d_X_cellOf_6 : decode b_X_cellOf 6 = .ok (.ireturn, 1) := by decide +kernel
theorem d_X_writeCost_0 : decode b_X_writeCost 0 = .ok (.lload 4, 2) := by decide +kernel
theorem d_X_writeCost_2 : decode b_X_writeCost 2 = .ok (.lload_n 2, 1) := by decide +kernel
theorem d_X_writeCost_3 : decode b_X_writeCost 3 = .ok (.lcmp, 1) := by decide +kernel
theorem d_X_writeCost_4 : decode b_X_writeCost 4 = .ok (.ifCond .eq 9, 3) := by decide +kernel
theorem d_X_writeCost_7 : decode b_X_writeCost 7 = .ok (.lload_n 0, 1) := by decide +kernel
theorem d_X_writeCost_8 : decode b_X_writeCost 8 = .ok (.lload_n 2, 1) := by decide +kernel
theorem d_X_writeCost_9 : decode b_X_writeCost 9 = .ok (.lcmp, 1) := by decide +kernel
theorem d_X_writeCost_10 : decode b_X_writeCost 10 = .ok (.ifCond .eq 6, 3) := by decide +kernel
theorem d_X_writeCost_13 : decode b_X_writeCost 13 = .ok (.bipush 100, 2) := by decide +kernel
theorem d_X_writeCost_15 : decode b_X_writeCost 15 = .ok (.ireturn, 1) := by decide +kernel
theorem d_X_writeCost_16 : decode b_X_writeCost 16 = .ok (.lload_n 0, 1) := by decide +kernel
theorem d_X_writeCost_17 : decode b_X_writeCost 17 = .ok (.lconst 0, 1) := by decide +kernel
theorem d_X_writeCost_18 : decode b_X_writeCost 18 = .ok (.lcmp, 1) := by decide +kernel
theorem d_X_writeCost_19 : decode b_X_writeCost 19 = .ok (.ifCond .ne 9, 3) := by decide +kernel
theorem d_X_writeCost_22 : decode b_X_writeCost 22 = .ok (.sipush 20000, 3) := by decide +kernel
theorem d_X_writeCost_25 : decode b_X_writeCost 25 = .ok (.goto 6, 3) := by decide +kernel
theorem d_X_writeCost_28 : decode b_X_writeCost 28 = .ok (.sipush 2900, 3) := by decide +kernel
theorem d_X_writeCost_31 : decode b_X_writeCost 31 = .ok (.ireturn, 1) := by decide +kernel
theorem d_X_refundChange_0 : decode b_X_refundChange 0 = .ok (.lload 4, 2) := by decide +kernel
theorem d_X_refundChange_2 : decode b_X_refundChange 2 = .ok (.lload_n 2, 1) := by decide +kernel
theorem d_X_refundChange_3 : decode b_X_refundChange 3 = .ok (.lcmp, 1) := by decide +kernel
theorem d_X_refundChange_4 : decode b_X_refundChange 4 = .ok (.ifCond .ne 5, 3) := by decide +kernel
theorem d_X_refundChange_7 : decode b_X_refundChange 7 = .ok (.iconst 0, 1) := by decide +kernel
theorem d_X_refundChange_8 : decode b_X_refundChange 8 = .ok (.ireturn, 1) := by decide +kernel
theorem d_X_refundChange_9 : decode b_X_refundChange 9 = .ok (.lload_n 0, 1) := by decide +kernel
theorem d_X_refundChange_10 : decode b_X_refundChange 10 = .ok (.lload_n 2, 1) := by decide +kernel
theorem d_X_refundChange_11 : decode b_X_refundChange 11 = .ok (.lcmp, 1) := by decide +kernel
theorem d_X_refundChange_12 : decode b_X_refundChange 12 = .ok (.ifCond .ne 18, 3) := by decide +kernel
theorem d_X_refundChange_15 : decode b_X_refundChange 15 = .ok (.lload 4, 2) := by decide +kernel
theorem d_X_refundChange_17 : decode b_X_refundChange 17 = .ok (.lconst 0, 1) := by decide +kernel
theorem d_X_refundChange_18 : decode b_X_refundChange 18 = .ok (.lcmp, 1) := by decide +kernel
theorem d_X_refundChange_19 : decode b_X_refundChange 19 = .ok (.ifCond .ne 9, 3) := by decide +kernel
theorem d_X_refundChange_22 : decode b_X_refundChange 22 = .ok (.sipush 15000, 3) := by decide +kernel
theorem d_X_refundChange_25 : decode b_X_refundChange 25 = .ok (.goto 4, 3) := by decide +kernel
theorem d_X_refundChange_28 : decode b_X_refundChange 28 = .ok (.iconst 0, 1) := by decide +kernel
theorem d_X_refundChange_29 : decode b_X_refundChange 29 = .ok (.ireturn, 1) := by decide +kernel
theorem d_X_refundChange_30 : decode b_X_refundChange 30 = .ok (.lload_n 0, 1) := by decide +kernel
theorem d_X_refundChange_31 : decode b_X_refundChange 31 = .ok (.lload_n 2, 1) := by decide +kernel
theorem d_X_refundChange_32 : decode b_X_refundChange 32 = .ok (.lload 4, 2) := by decide +kernel
theorem d_X_refundChange_34 : decode b_X_refundChange 34 = .ok (.invokestatic 93, 3) := by decide +kernel
theorem d_X_refundChange_37 : decode b_X_refundChange 37 = .ok (.lload_n 0, 1) := by decide +kernel
theorem d_X_refundChange_38 : decode b_X_refundChange 38 = .ok (.lload 4, 2) := by decide +kernel
theorem d_X_refundChange_40 : decode b_X_refundChange 40 = .ok (.invokestatic 96, 3) := by decide +kernel
theorem d_X_refundChange_43 : decode b_X_refundChange 43 = .ok (.iadd, 1) := by decide +kernel
theorem d_X_refundChange_44 : decode b_X_refundChange 44 = .ok (.ireturn, 1) := by decide +kernel
theorem d_X_clearingChange_0 : decode b_X_clearingChange 0 = .ok (.lload_n 0, 1) := by decide +kernel
theorem d_X_clearingChange_1 : decode b_X_clearingChange 1 = .ok (.lconst 0, 1) := by decide +kernel
theorem d_X_clearingChange_2 : decode b_X_clearingChange 2 = .ok (.lcmp, 1) := by decide +kernel
theorem d_X_clearingChange_3 : decode b_X_clearingChange 3 = .ok (.ifCond .ne 5, 3) := by decide +kernel
theorem d_X_clearingChange_6 : decode b_X_clearingChange 6 = .ok (.iconst 0, 1) := by decide +kernel
theorem d_X_clearingChange_7 : decode b_X_clearingChange 7 = .ok (.ireturn, 1) := by decide +kernel
theorem d_X_clearingChange_8 : decode b_X_clearingChange 8 = .ok (.lload_n 2, 1) := by decide +kernel
theorem d_X_clearingChange_9 : decode b_X_clearingChange 9 = .ok (.lconst 0, 1) := by decide +kernel
theorem d_X_clearingChange_10 : decode b_X_clearingChange 10 = .ok (.lcmp, 1) := by decide +kernel
theorem d_X_clearingChange_11 : decode b_X_clearingChange 11 = .ok (.ifCond .ne 7, 3) := by decide +kernel
theorem d_X_clearingChange_14 : decode b_X_clearingChange 14 = .ok (.sipush (-15000), 3) := by decide +kernel
theorem d_X_clearingChange_17 : decode b_X_clearingChange 17 = .ok (.ireturn, 1) := by decide +kernel
theorem d_X_clearingChange_18 : decode b_X_clearingChange 18 = .ok (.lload 4, 2) := by decide +kernel
theorem d_X_clearingChange_20 : decode b_X_clearingChange 20 = .ok (.lconst 0, 1) := by decide +kernel
theorem d_X_clearingChange_21 : decode b_X_clearingChange 21 = .ok (.lcmp, 1) := by decide +kernel
theorem d_X_clearingChange_22 : decode b_X_clearingChange 22 = .ok (.ifCond .ne 9, 3) := by decide +kernel
theorem d_X_clearingChange_25 : decode b_X_clearingChange 25 = .ok (.sipush 15000, 3) := by decide +kernel
theorem d_X_clearingChange_28 : decode b_X_clearingChange 28 = .ok (.goto 4, 3) := by decide +kernel
theorem d_X_clearingChange_31 : decode b_X_clearingChange 31 = .ok (.iconst 0, 1) := by decide +kernel
theorem d_X_clearingChange_32 : decode b_X_clearingChange 32 = .ok (.ireturn, 1) := by decide +kernel
theorem d_X_restoringChange_0 : decode b_X_restoringChange 0 = .ok (.lload_n 0, 1) := by decide +kernel
theorem d_X_restoringChange_1 : decode b_X_restoringChange 1 = .ok (.lload_n 2, 1) := by decide +kernel
theorem d_X_restoringChange_2 : decode b_X_restoringChange 2 = .ok (.lcmp, 1) := by decide +kernel
theorem d_X_restoringChange_3 : decode b_X_restoringChange 3 = .ok (.ifCond .eq 5, 3) := by decide +kernel
theorem d_X_restoringChange_6 : decode b_X_restoringChange 6 = .ok (.iconst 0, 1) := by decide +kernel
theorem d_X_restoringChange_7 : decode b_X_restoringChange 7 = .ok (.ireturn, 1) := by decide +kernel
theorem d_X_restoringChange_8 : decode b_X_restoringChange 8 = .ok (.lload_n 0, 1) := by decide +kernel
theorem d_X_restoringChange_9 : decode b_X_restoringChange 9 = .ok (.lconst 0, 1) := by decide +kernel
theorem d_X_restoringChange_10 : decode b_X_restoringChange 10 = .ok (.lcmp, 1) := by decide +kernel
theorem d_X_restoringChange_11 : decode b_X_restoringChange 11 = .ok (.ifCond .ne 9, 3) := by decide +kernel
theorem d_X_restoringChange_14 : decode b_X_restoringChange 14 = .ok (.sipush 19900, 3) := by decide +kernel
theorem d_X_restoringChange_17 : decode b_X_restoringChange 17 = .ok (.goto 6, 3) := by decide +kernel
theorem d_X_restoringChange_20 : decode b_X_restoringChange 20 = .ok (.sipush 2800, 3) := by decide +kernel
theorem d_X_restoringChange_23 : decode b_X_restoringChange 23 = .ok (.ireturn, 1) := by decide +kernel
theorem d_X_held_0 : decode b_X_held 0 = .ok (.iload_n 1, 1) := by decide +kernel
theorem d_X_held_1 : decode b_X_held 1 = .ok (.iload_n 2, 1) := by decide +kernel
theorem d_X_held_2 : decode b_X_held 2 = .ok (.invokestatic 56, 3) := by decide +kernel
theorem d_X_held_5 : decode b_X_held 5 = .ok (.iload_n 1, 1) := by decide +kernel
theorem d_X_held_6 : decode b_X_held 6 = .ok (.iload_n 2, 1) := by decide +kernel
theorem d_X_held_7 : decode b_X_held 7 = .ok (.invokestatic 67, 3) := by decide +kernel
theorem d_X_held_10 : decode b_X_held 10 = .ok (.istore 4, 2) := by decide +kernel
theorem d_X_held_12 : decode b_X_held 12 = .ok (.iload_n 3, 1) := by decide +kernel
theorem d_X_held_13 : decode b_X_held 13 = .ok (.ifCond .eq 13, 3) := by decide +kernel
theorem d_X_held_16 : decode b_X_held 16 = .ok (.aload_n 0, 1) := by decide +kernel
theorem d_X_held_17 : decode b_X_held 17 = .ok (.getfield 9, 3) := by decide +kernel
theorem d_X_held_20 : decode b_X_held 20 = .ok (.iload 4, 2) := by decide +kernel
theorem d_X_held_22 : decode b_X_held 22 = .ok (.laload, 1) := by decide +kernel
theorem d_X_held_23 : decode b_X_held 23 = .ok (.goto 18, 3) := by decide +kernel
theorem d_X_held_26 : decode b_X_held 26 = .ok (.aload_n 0, 1) := by decide +kernel
theorem d_X_held_27 : decode b_X_held 27 = .ok (.getfield 15, 3) := by decide +kernel
theorem d_X_held_30 : decode b_X_held 30 = .ok (.aload_n 0, 1) := by decide +kernel
theorem d_X_held_31 : decode b_X_held 31 = .ok (.getfield 19, 3) := by decide +kernel
theorem d_X_held_34 : decode b_X_held 34 = .ok (.aaload, 1) := by decide +kernel
theorem d_X_held_35 : decode b_X_held 35 = .ok (.getfield 31, 3) := by decide +kernel
theorem d_X_held_38 : decode b_X_held 38 = .ok (.iload 4, 2) := by decide +kernel
theorem d_X_held_40 : decode b_X_held 40 = .ok (.laload, 1) := by decide +kernel
theorem d_X_held_41 : decode b_X_held 41 = .ok (.lreturn, 1) := by decide +kernel
theorem d_X_touched_0 : decode b_X_touched 0 = .ok (.iload_n 1, 1) := by decide +kernel
theorem d_X_touched_1 : decode b_X_touched 1 = .ok (.iload_n 2, 1) := by decide +kernel
theorem d_X_touched_2 : decode b_X_touched 2 = .ok (.invokestatic 56, 3) := by decide +kernel
theorem d_X_touched_5 : decode b_X_touched 5 = .ok (.aload_n 0, 1) := by decide +kernel
theorem d_X_touched_6 : decode b_X_touched 6 = .ok (.getfield 15, 3) := by decide +kernel
theorem d_X_touched_9 : decode b_X_touched 9 = .ok (.aload_n 0, 1) := by decide +kernel
theorem d_X_touched_10 : decode b_X_touched 10 = .ok (.getfield 19, 3) := by decide +kernel
theorem d_X_touched_13 : decode b_X_touched 13 = .ok (.aaload, 1) := by decide +kernel
theorem d_X_touched_14 : decode b_X_touched 14 = .ok (.iload_n 1, 1) := by decide +kernel
theorem d_X_touched_15 : decode b_X_touched 15 = .ok (.iload_n 2, 1) := by decide +kernel
theorem d_X_touched_16 : decode b_X_touched 16 = .ok (.invokevirtual 60, 3) := by decide +kernel
theorem d_X_touched_19 : decode b_X_touched 19 = .ok (.ireturn, 1) := by decide +kernel
theorem d_X_count_0 : decode b_X_count 0 = .ok (.aload_n 0, 1) := by decide +kernel
theorem d_X_count_1 : decode b_X_count 1 = .ok (.getfield 15, 3) := by decide +kernel
theorem d_X_count_4 : decode b_X_count 4 = .ok (.aload_n 0, 1) := by decide +kernel
theorem d_X_count_5 : decode b_X_count 5 = .ok (.getfield 19, 3) := by decide +kernel
theorem d_X_count_8 : decode b_X_count 8 = .ok (.aaload, 1) := by decide +kernel
theorem d_X_count_9 : decode b_X_count 9 = .ok (.astore_n 2, 1) := by decide +kernel
theorem d_X_count_10 : decode b_X_count 10 = .ok (.iload_n 1, 1) := by decide +kernel
theorem d_X_count_11 : decode b_X_count 11 = .ok (.tableswitch 49 0 3 #[29, 34, 39, 44], 29) := by decide +kernel
theorem d_X_count_40 : decode b_X_count 40 = .ok (.aload_n 2, 1) := by decide +kernel
theorem d_X_count_41 : decode b_X_count 41 = .ok (.getfield 77, 3) := by decide +kernel
theorem d_X_count_44 : decode b_X_count 44 = .ok (.ireturn, 1) := by decide +kernel
theorem d_X_count_45 : decode b_X_count 45 = .ok (.aload_n 2, 1) := by decide +kernel
theorem d_X_count_46 : decode b_X_count 46 = .ok (.invokevirtual 83, 3) := by decide +kernel
theorem d_X_count_49 : decode b_X_count 49 = .ok (.ireturn, 1) := by decide +kernel
theorem d_X_count_50 : decode b_X_count 50 = .ok (.aload_n 0, 1) := by decide +kernel
theorem d_X_count_51 : decode b_X_count 51 = .ok (.getfield 19, 3) := by decide +kernel
theorem d_X_count_54 : decode b_X_count 54 = .ok (.ireturn, 1) := by decide +kernel
theorem d_X_count_55 : decode b_X_count 55 = .ok (.aload_n 2, 1) := by decide +kernel
theorem d_X_count_56 : decode b_X_count 56 = .ok (.invokevirtual 40, 3) := by decide +kernel
theorem d_X_count_59 : decode b_X_count 59 = .ok (.ireturn, 1) := by decide +kernel
theorem d_X_count_60 : decode b_X_count 60 = .ok (.new 86, 3) := by decide +kernel
theorem d_X_count_63 : decode b_X_count 63 = .ok (.dup, 1) := by decide +kernel
theorem d_X_count_64 : decode b_X_count 64 = .ok (.ldc 88, 2) := by decide +kernel
theorem d_X_count_66 : decode b_X_count 66 = .ok (.invokespecial 90, 3) := by decide +kernel
theorem d_X_count_69 : decode b_X_count 69 = .ok (.athrow, 1) := by decide +kernel
theorem d_S_markedPlaces_0 : decode b_S_markedPlaces 0 = .ok (.iconst 0, 1) := by decide +kernel
theorem d_S_markedPlaces_1 : decode b_S_markedPlaces 1 = .ok (.istore_n 1, 1) := by decide +kernel
theorem d_S_markedPlaces_2 : decode b_S_markedPlaces 2 = .ok (.iconst 0, 1) := by decide +kernel
theorem d_S_markedPlaces_3 : decode b_S_markedPlaces 3 = .ok (.istore_n 2, 1) := by decide +kernel
theorem d_S_markedPlaces_4 : decode b_S_markedPlaces 4 = .ok (.iload_n 2, 1) := by decide +kernel
theorem d_S_markedPlaces_5 : decode b_S_markedPlaces 5 = .ok (.iconst 4, 1) := by decide +kernel
theorem d_S_markedPlaces_6 : decode b_S_markedPlaces 6 = .ok (.if_icmp .ge 21, 3) := by decide +kernel
theorem d_S_markedPlaces_9 : decode b_S_markedPlaces 9 = .ok (.iload_n 1, 1) := by decide +kernel
theorem d_S_markedPlaces_10 : decode b_S_markedPlaces 10 = .ok (.aload_n 0, 1) := by decide +kernel
theorem d_S_markedPlaces_11 : decode b_S_markedPlaces 11 = .ok (.getfield 15, 3) := by decide +kernel
theorem d_S_markedPlaces_14 : decode b_S_markedPlaces 14 = .ok (.iload_n 2, 1) := by decide +kernel
theorem d_S_markedPlaces_15 : decode b_S_markedPlaces 15 = .ok (.laload, 1) := by decide +kernel
theorem d_S_markedPlaces_16 : decode b_S_markedPlaces 16 = .ok (.invokestatic 28, 3) := by decide +kernel
theorem d_S_markedPlaces_19 : decode b_S_markedPlaces 19 = .ok (.iadd, 1) := by decide +kernel
theorem d_S_markedPlaces_20 : decode b_S_markedPlaces 20 = .ok (.istore_n 1, 1) := by decide +kernel
theorem d_S_markedPlaces_21 : decode b_S_markedPlaces 21 = .ok (.iinc 2 1, 3) := by decide +kernel
theorem d_S_markedPlaces_24 : decode b_S_markedPlaces 24 = .ok (.goto (-20), 3) := by decide +kernel
theorem d_S_markedPlaces_27 : decode b_S_markedPlaces 27 = .ok (.iload_n 1, 1) := by decide +kernel
theorem d_S_markedPlaces_28 : decode b_S_markedPlaces 28 = .ok (.ireturn, 1) := by decide +kernel
theorem d_J_bitCount_0 : decode b_J_bitCount 0 = .ok (.lload_n 0, 1) := by decide +kernel
theorem d_J_bitCount_1 : decode b_J_bitCount 1 = .ok (.lload_n 0, 1) := by decide +kernel
theorem d_J_bitCount_2 : decode b_J_bitCount 2 = .ok (.iconst 1, 1) := by decide +kernel
theorem d_J_bitCount_3 : decode b_J_bitCount 3 = .ok (.lushr, 1) := by decide +kernel
theorem d_J_bitCount_4 : decode b_J_bitCount 4 = .ok (.ldc2_w 314, 3) := by decide +kernel
theorem d_J_bitCount_7 : decode b_J_bitCount 7 = .ok (.land, 1) := by decide +kernel
theorem d_J_bitCount_8 : decode b_J_bitCount 8 = .ok (.lsub, 1) := by decide +kernel
theorem d_J_bitCount_9 : decode b_J_bitCount 9 = .ok (.lstore_n 0, 1) := by decide +kernel
theorem d_J_bitCount_10 : decode b_J_bitCount 10 = .ok (.lload_n 0, 1) := by decide +kernel
theorem d_J_bitCount_11 : decode b_J_bitCount 11 = .ok (.ldc2_w 316, 3) := by decide +kernel
theorem d_J_bitCount_14 : decode b_J_bitCount 14 = .ok (.land, 1) := by decide +kernel
theorem d_J_bitCount_15 : decode b_J_bitCount 15 = .ok (.lload_n 0, 1) := by decide +kernel
theorem d_J_bitCount_16 : decode b_J_bitCount 16 = .ok (.iconst 2, 1) := by decide +kernel
theorem d_J_bitCount_17 : decode b_J_bitCount 17 = .ok (.lushr, 1) := by decide +kernel
theorem d_J_bitCount_18 : decode b_J_bitCount 18 = .ok (.ldc2_w 316, 3) := by decide +kernel
theorem d_J_bitCount_21 : decode b_J_bitCount 21 = .ok (.land, 1) := by decide +kernel
theorem d_J_bitCount_22 : decode b_J_bitCount 22 = .ok (.ladd, 1) := by decide +kernel
theorem d_J_bitCount_23 : decode b_J_bitCount 23 = .ok (.lstore_n 0, 1) := by decide +kernel
theorem d_J_bitCount_24 : decode b_J_bitCount 24 = .ok (.lload_n 0, 1) := by decide +kernel
theorem d_J_bitCount_25 : decode b_J_bitCount 25 = .ok (.lload_n 0, 1) := by decide +kernel
theorem d_J_bitCount_26 : decode b_J_bitCount 26 = .ok (.iconst 4, 1) := by decide +kernel
theorem d_J_bitCount_27 : decode b_J_bitCount 27 = .ok (.lushr, 1) := by decide +kernel
theorem d_J_bitCount_28 : decode b_J_bitCount 28 = .ok (.ladd, 1) := by decide +kernel
theorem d_J_bitCount_29 : decode b_J_bitCount 29 = .ok (.ldc2_w 318, 3) := by decide +kernel
theorem d_J_bitCount_32 : decode b_J_bitCount 32 = .ok (.land, 1) := by decide +kernel
theorem d_J_bitCount_33 : decode b_J_bitCount 33 = .ok (.lstore_n 0, 1) := by decide +kernel
theorem d_J_bitCount_34 : decode b_J_bitCount 34 = .ok (.lload_n 0, 1) := by decide +kernel
theorem d_J_bitCount_35 : decode b_J_bitCount 35 = .ok (.lload_n 0, 1) := by decide +kernel
theorem d_J_bitCount_36 : decode b_J_bitCount 36 = .ok (.bipush 8, 2) := by decide +kernel
theorem d_J_bitCount_38 : decode b_J_bitCount 38 = .ok (.lushr, 1) := by decide +kernel
theorem d_J_bitCount_39 : decode b_J_bitCount 39 = .ok (.ladd, 1) := by decide +kernel
theorem d_J_bitCount_40 : decode b_J_bitCount 40 = .ok (.lstore_n 0, 1) := by decide +kernel
theorem d_J_bitCount_41 : decode b_J_bitCount 41 = .ok (.lload_n 0, 1) := by decide +kernel
theorem d_J_bitCount_42 : decode b_J_bitCount 42 = .ok (.lload_n 0, 1) := by decide +kernel
theorem d_J_bitCount_43 : decode b_J_bitCount 43 = .ok (.bipush 16, 2) := by decide +kernel
theorem d_J_bitCount_45 : decode b_J_bitCount 45 = .ok (.lushr, 1) := by decide +kernel
theorem d_J_bitCount_46 : decode b_J_bitCount 46 = .ok (.ladd, 1) := by decide +kernel
theorem d_J_bitCount_47 : decode b_J_bitCount 47 = .ok (.lstore_n 0, 1) := by decide +kernel
theorem d_J_bitCount_48 : decode b_J_bitCount 48 = .ok (.lload_n 0, 1) := by decide +kernel
theorem d_J_bitCount_49 : decode b_J_bitCount 49 = .ok (.lload_n 0, 1) := by decide +kernel
theorem d_J_bitCount_50 : decode b_J_bitCount 50 = .ok (.bipush 32, 2) := by decide +kernel
theorem d_J_bitCount_52 : decode b_J_bitCount 52 = .ok (.lushr, 1) := by decide +kernel
theorem d_J_bitCount_53 : decode b_J_bitCount 53 = .ok (.ladd, 1) := by decide +kernel
theorem d_J_bitCount_54 : decode b_J_bitCount 54 = .ok (.lstore_n 0, 1) := by decide +kernel
theorem d_J_bitCount_55 : decode b_J_bitCount 55 = .ok (.lload_n 0, 1) := by decide +kernel
theorem d_J_bitCount_56 : decode b_J_bitCount 56 = .ok (.l2i, 1) := by decide +kernel
theorem d_J_bitCount_57 : decode b_J_bitCount 57 = .ok (.bipush 127, 2) := by decide +kernel
theorem d_J_bitCount_59 : decode b_J_bitCount 59 = .ok (.iand, 1) := by decide +kernel
theorem d_J_bitCount_60 : decode b_J_bitCount 60 = .ok (.ireturn, 1) := by decide +kernel
end
section
theorem d_M_init_0 : decode b_M_init 0 = .ok (.aload_n 0, 1) := by decide +kernel
theorem d_M_init_1 : decode b_M_init 1 = .ok (.invokespecial 1, 3) := by decide +kernel
theorem d_M_init_4 : decode b_M_init 4 = .ok (.aload_n 0, 1) := by decide +kernel
theorem d_M_init_5 : decode b_M_init 5 = .ok (.bipush 31, 2) := by decide +kernel
theorem d_M_init_7 : decode b_M_init 7 = .ok (.sipush 256, 3) := by decide +kernel
theorem d_M_init_10 : decode b_M_init 10 = .ok (.multianewarray 7 2, 4) := by decide +kernel
theorem d_M_init_14 : decode b_M_init 14 = .ok (.putfield 9, 3) := by decide +kernel
theorem d_M_init_17 : decode b_M_init 17 = .ok (.aload_n 0, 1) := by decide +kernel
theorem d_M_init_18 : decode b_M_init 18 = .ok (.bipush 31, 2) := by decide +kernel
theorem d_M_init_20 : decode b_M_init 20 = .ok (.sipush 256, 3) := by decide +kernel
theorem d_M_init_23 : decode b_M_init 23 = .ok (.multianewarray 14 2, 4) := by decide +kernel
theorem d_M_init_27 : decode b_M_init 27 = .ok (.putfield 16, 3) := by decide +kernel
theorem d_M_init_30 : decode b_M_init 30 = .ok (.aload_n 0, 1) := by decide +kernel
theorem d_M_init_31 : decode b_M_init 31 = .ok (.bipush 31, 2) := by decide +kernel
theorem d_M_init_33 : decode b_M_init 33 = .ok (.newarray .int, 2) := by decide +kernel
theorem d_M_init_35 : decode b_M_init 35 = .ok (.putfield 19, 3) := by decide +kernel
theorem d_M_init_38 : decode b_M_init 38 = .ok (.aload_n 0, 1) := by decide +kernel
theorem d_M_init_39 : decode b_M_init 39 = .ok (.sipush 256, 3) := by decide +kernel
theorem d_M_init_42 : decode b_M_init 42 = .ok (.newarray .long, 2) := by decide +kernel
theorem d_M_init_44 : decode b_M_init 44 = .ok (.putfield 23, 3) := by decide +kernel
theorem d_M_init_47 : decode b_M_init 47 = .ok (.aload_n 0, 1) := by decide +kernel
theorem d_M_init_48 : decode b_M_init 48 = .ok (.sipush 256, 3) := by decide +kernel
theorem d_M_init_51 : decode b_M_init 51 = .ok (.newarray .long, 2) := by decide +kernel
theorem d_M_init_53 : decode b_M_init 53 = .ok (.putfield 27, 3) := by decide +kernel
theorem d_M_init_56 : decode b_M_init 56 = .ok (.aload_n 0, 1) := by decide +kernel
theorem d_M_init_57 : decode b_M_init 57 = .ok (.sipush 256, 3) := by decide +kernel
theorem d_M_init_60 : decode b_M_init 60 = .ok (.newarray .boolean, 2) := by decide +kernel
theorem d_M_init_62 : decode b_M_init 62 = .ok (.putfield 30, 3) := by decide +kernel
theorem d_M_init_65 : decode b_M_init 65 = .ok (.return_, 1) := by decide +kernel
theorem d_M_thrown_0 : decode b_M_thrown 0 = .ok (.aload_n 0, 1) := by decide +kernel
theorem d_M_thrown_1 : decode b_M_thrown 1 = .ok (.getfield 34, 3) := by decide +kernel
theorem d_M_thrown_4 : decode b_M_thrown 4 = .ok (.ireturn, 1) := by decide +kernel
theorem d_M_begin_0 : decode b_M_begin 0 = .ok (.aload_n 0, 1) := by decide +kernel
theorem d_M_begin_1 : decode b_M_begin 1 = .ok (.iconst 0, 1) := by decide +kernel
theorem d_M_begin_2 : decode b_M_begin 2 = .ok (.putfield 34, 3) := by decide +kernel
theorem d_M_begin_5 : decode b_M_begin 5 = .ok (.iconst 0, 1) := by decide +kernel
theorem d_M_begin_6 : decode b_M_begin 6 = .ok (.istore_n 1, 1) := by decide +kernel
theorem d_M_begin_7 : decode b_M_begin 7 = .ok (.iload_n 1, 1) := by decide +kernel
theorem d_M_begin_8 : decode b_M_begin 8 = .ok (.sipush 256, 3) := by decide +kernel
theorem d_M_begin_11 : decode b_M_begin 11 = .ok (.if_icmp .ge 28, 3) := by decide +kernel
theorem d_M_begin_14 : decode b_M_begin 14 = .ok (.aload_n 0, 1) := by decide +kernel
theorem d_M_begin_15 : decode b_M_begin 15 = .ok (.getfield 27, 3) := by decide +kernel
theorem d_M_begin_18 : decode b_M_begin 18 = .ok (.iload_n 1, 1) := by decide +kernel
theorem d_M_begin_19 : decode b_M_begin 19 = .ok (.aload_n 0, 1) := by decide +kernel
theorem d_M_begin_20 : decode b_M_begin 20 = .ok (.getfield 23, 3) := by decide +kernel
theorem d_M_begin_23 : decode b_M_begin 23 = .ok (.iload_n 1, 1) := by decide +kernel
theorem d_M_begin_24 : decode b_M_begin 24 = .ok (.laload, 1) := by decide +kernel
theorem d_M_begin_25 : decode b_M_begin 25 = .ok (.lastore, 1) := by decide +kernel
theorem d_M_begin_26 : decode b_M_begin 26 = .ok (.aload_n 0, 1) := by decide +kernel
theorem d_M_begin_27 : decode b_M_begin 27 = .ok (.getfield 30, 3) := by decide +kernel
theorem d_M_begin_30 : decode b_M_begin 30 = .ok (.iload_n 1, 1) := by decide +kernel
theorem d_M_begin_31 : decode b_M_begin 31 = .ok (.iconst 0, 1) := by decide +kernel
theorem d_M_begin_32 : decode b_M_begin 32 = .ok (.bastore, 1) := by decide +kernel
theorem d_M_begin_33 : decode b_M_begin 33 = .ok (.iinc 1 1, 3) := by decide +kernel
theorem d_M_begin_36 : decode b_M_begin 36 = .ok (.goto (-29), 3) := by decide +kernel
theorem d_M_begin_39 : decode b_M_begin 39 = .ok (.aload_n 0, 1) := by decide +kernel
theorem d_M_begin_40 : decode b_M_begin 40 = .ok (.iconst 0, 1) := by decide +kernel
theorem d_M_begin_41 : decode b_M_begin 41 = .ok (.putfield 38, 3) := by decide +kernel
theorem d_M_begin_44 : decode b_M_begin 44 = .ok (.aload_n 0, 1) := by decide +kernel
theorem d_M_begin_45 : decode b_M_begin 45 = .ok (.iconst 0, 1) := by decide +kernel
theorem d_M_begin_46 : decode b_M_begin 46 = .ok (.putfield 41, 3) := by decide +kernel
theorem d_M_begin_49 : decode b_M_begin 49 = .ok (.aload_n 0, 1) := by decide +kernel
theorem d_M_begin_50 : decode b_M_begin 50 = .ok (.invokevirtual 44, 3) := by decide +kernel
theorem d_M_begin_53 : decode b_M_begin 53 = .ok (.ireturn, 1) := by decide +kernel
theorem d_M_filled_0 : decode b_M_filled 0 = .ok (.iconst 0, 1) := by decide +kernel
theorem d_M_filled_1 : decode b_M_filled 1 = .ok (.istore_n 1, 1) := by decide +kernel
theorem d_M_filled_2 : decode b_M_filled 2 = .ok (.iconst 0, 1) := by decide +kernel
theorem d_M_filled_3 : decode b_M_filled 3 = .ok (.istore_n 2, 1) := by decide +kernel
theorem d_M_filled_4 : decode b_M_filled 4 = .ok (.iload_n 2, 1) := by decide +kernel
theorem d_M_filled_5 : decode b_M_filled 5 = .ok (.sipush 256, 3) := by decide +kernel
theorem d_M_filled_8 : decode b_M_filled 8 = .ok (.if_icmp .ge 28, 3) := by decide +kernel
theorem d_M_filled_11 : decode b_M_filled 11 = .ok (.iload_n 1, 1) := by decide +kernel
theorem d_M_filled_12 : decode b_M_filled 12 = .ok (.aload_n 0, 1) := by decide +kernel
theorem d_M_filled_13 : decode b_M_filled 13 = .ok (.getfield 23, 3) := by decide +kernel
theorem d_M_filled_16 : decode b_M_filled 16 = .ok (.iload_n 2, 1) := by decide +kernel
theorem d_M_filled_17 : decode b_M_filled 17 = .ok (.laload, 1) := by decide +kernel
theorem d_M_filled_18 : decode b_M_filled 18 = .ok (.lconst 0, 1) := by decide +kernel
theorem d_M_filled_19 : decode b_M_filled 19 = .ok (.lcmp, 1) := by decide +kernel
theorem d_M_filled_20 : decode b_M_filled 20 = .ok (.ifCond .eq 7, 3) := by decide +kernel
theorem d_M_filled_23 : decode b_M_filled 23 = .ok (.iconst 1, 1) := by decide +kernel
theorem d_M_filled_24 : decode b_M_filled 24 = .ok (.goto 4, 3) := by decide +kernel
theorem d_M_filled_27 : decode b_M_filled 27 = .ok (.iconst 0, 1) := by decide +kernel
theorem d_M_filled_28 : decode b_M_filled 28 = .ok (.iadd, 1) := by decide +kernel
theorem d_M_filled_29 : decode b_M_filled 29 = .ok (.istore_n 1, 1) := by decide +kernel
theorem d_M_filled_30 : decode b_M_filled 30 = .ok (.iinc 2 1, 3) := by decide +kernel
theorem d_M_filled_33 : decode b_M_filled 33 = .ok (.goto (-29), 3) := by decide +kernel
theorem d_M_filled_36 : decode b_M_filled 36 = .ok (.iload_n 1, 1) := by decide +kernel
theorem d_M_filled_37 : decode b_M_filled 37 = .ok (.ireturn, 1) := by decide +kernel
theorem d_M_open_0 : decode b_M_open 0 = .ok (.aload_n 0, 1) := by decide +kernel
theorem d_M_open_1 : decode b_M_open 1 = .ok (.iconst 0, 1) := by decide +kernel
theorem d_M_open_2 : decode b_M_open 2 = .ok (.putfield 34, 3) := by decide +kernel
theorem d_M_open_5 : decode b_M_open 5 = .ok (.aload_n 0, 1) := by decide +kernel
theorem d_M_open_6 : decode b_M_open 6 = .ok (.getfield 41, 3) := by decide +kernel
theorem d_M_open_9 : decode b_M_open 9 = .ok (.bipush 30, 2) := by decide +kernel
theorem d_M_open_11 : decode b_M_open 11 = .ok (.if_icmp .ne 9, 3) := by decide +kernel
theorem d_M_open_14 : decode b_M_open 14 = .ok (.aload_n 0, 1) := by decide +kernel
theorem d_M_open_15 : decode b_M_open 15 = .ok (.iconst 1, 1) := by decide +kernel
theorem d_M_open_16 : decode b_M_open 16 = .ok (.invokevirtual 48, 3) := by decide +kernel
theorem d_M_open_19 : decode b_M_open 19 = .ok (.ireturn, 1) := by decide +kernel
theorem d_M_open_20 : decode b_M_open 20 = .ok (.aload_n 0, 1) := by decide +kernel
theorem d_M_open_21 : decode b_M_open 21 = .ok (.dup, 1) := by decide +kernel
theorem d_M_open_22 : decode b_M_open 22 = .ok (.getfield 41, 3) := by decide +kernel
theorem d_M_open_25 : decode b_M_open 25 = .ok (.iconst 1, 1) := by decide +kernel
theorem d_M_open_26 : decode b_M_open 26 = .ok (.iadd, 1) := by decide +kernel
theorem d_M_open_27 : decode b_M_open 27 = .ok (.putfield 41, 3) := by decide +kernel
theorem d_M_open_30 : decode b_M_open 30 = .ok (.iconst 0, 1) := by decide +kernel
theorem d_M_open_31 : decode b_M_open 31 = .ok (.istore_n 1, 1) := by decide +kernel
theorem d_M_open_32 : decode b_M_open 32 = .ok (.iload_n 1, 1) := by decide +kernel
theorem d_M_open_33 : decode b_M_open 33 = .ok (.sipush 256, 3) := by decide +kernel
theorem d_M_open_36 : decode b_M_open 36 = .ok (.if_icmp .ge 43, 3) := by decide +kernel
theorem d_M_open_39 : decode b_M_open 39 = .ok (.aload_n 0, 1) := by decide +kernel
theorem d_M_open_40 : decode b_M_open 40 = .ok (.getfield 9, 3) := by decide +kernel
theorem d_M_open_43 : decode b_M_open 43 = .ok (.aload_n 0, 1) := by decide +kernel
theorem d_M_open_44 : decode b_M_open 44 = .ok (.getfield 41, 3) := by decide +kernel
theorem d_M_open_47 : decode b_M_open 47 = .ok (.aaload, 1) := by decide +kernel
theorem d_M_open_48 : decode b_M_open 48 = .ok (.iload_n 1, 1) := by decide +kernel
theorem d_M_open_49 : decode b_M_open 49 = .ok (.aload_n 0, 1) := by decide +kernel
theorem d_M_open_50 : decode b_M_open 50 = .ok (.getfield 23, 3) := by decide +kernel
theorem d_M_open_53 : decode b_M_open 53 = .ok (.iload_n 1, 1) := by decide +kernel
theorem d_M_open_54 : decode b_M_open 54 = .ok (.laload, 1) := by decide +kernel
theorem d_M_open_55 : decode b_M_open 55 = .ok (.lastore, 1) := by decide +kernel
theorem d_M_open_56 : decode b_M_open 56 = .ok (.aload_n 0, 1) := by decide +kernel
theorem d_M_open_57 : decode b_M_open 57 = .ok (.getfield 16, 3) := by decide +kernel
theorem d_M_open_60 : decode b_M_open 60 = .ok (.aload_n 0, 1) := by decide +kernel
theorem d_M_open_61 : decode b_M_open 61 = .ok (.getfield 41, 3) := by decide +kernel
theorem d_M_open_64 : decode b_M_open 64 = .ok (.aaload, 1) := by decide +kernel
theorem d_M_open_65 : decode b_M_open 65 = .ok (.iload_n 1, 1) := by decide +kernel
theorem d_M_open_66 : decode b_M_open 66 = .ok (.aload_n 0, 1) := by decide +kernel
theorem d_M_open_67 : decode b_M_open 67 = .ok (.getfield 30, 3) := by decide +kernel
theorem d_M_open_70 : decode b_M_open 70 = .ok (.iload_n 1, 1) := by decide +kernel
theorem d_M_open_71 : decode b_M_open 71 = .ok (.baload, 1) := by decide +kernel
theorem d_M_open_72 : decode b_M_open 72 = .ok (.bastore, 1) := by decide +kernel
theorem d_M_open_73 : decode b_M_open 73 = .ok (.iinc 1 1, 3) := by decide +kernel
theorem d_M_open_76 : decode b_M_open 76 = .ok (.goto (-44), 3) := by decide +kernel
theorem d_M_open_79 : decode b_M_open 79 = .ok (.aload_n 0, 1) := by decide +kernel
theorem d_M_open_80 : decode b_M_open 80 = .ok (.getfield 19, 3) := by decide +kernel
theorem d_M_open_83 : decode b_M_open 83 = .ok (.aload_n 0, 1) := by decide +kernel
theorem d_M_open_84 : decode b_M_open 84 = .ok (.getfield 41, 3) := by decide +kernel
theorem d_M_open_87 : decode b_M_open 87 = .ok (.aload_n 0, 1) := by decide +kernel
theorem d_M_open_88 : decode b_M_open 88 = .ok (.getfield 38, 3) := by decide +kernel
theorem d_M_open_91 : decode b_M_open 91 = .ok (.iastore, 1) := by decide +kernel
theorem d_M_open_92 : decode b_M_open 92 = .ok (.aload_n 0, 1) := by decide +kernel
theorem d_M_open_93 : decode b_M_open 93 = .ok (.getfield 41, 3) := by decide +kernel
theorem d_M_open_96 : decode b_M_open 96 = .ok (.ireturn, 1) := by decide +kernel
theorem d_M_fail_0 : decode b_M_fail 0 = .ok (.aload_n 0, 1) := by decide +kernel
theorem d_M_fail_1 : decode b_M_fail 1 = .ok (.iload_n 1, 1) := by decide +kernel
theorem d_M_fail_2 : decode b_M_fail 2 = .ok (.putfield 34, 3) := by decide +kernel
theorem d_M_fail_5 : decode b_M_fail 5 = .ok (.iconst 0, 1) := by decide +kernel
theorem d_M_fail_6 : decode b_M_fail 6 = .ok (.ireturn, 1) := by decide +kernel
theorem d_M_close_0 : decode b_M_close 0 = .ok (.aload_n 0, 1) := by decide +kernel
theorem d_M_close_1 : decode b_M_close 1 = .ok (.iconst 0, 1) := by decide +kernel
theorem d_M_close_2 : decode b_M_close 2 = .ok (.putfield 34, 3) := by decide +kernel
theorem d_M_close_5 : decode b_M_close 5 = .ok (.aload_n 0, 1) := by decide +kernel
theorem d_M_close_6 : decode b_M_close 6 = .ok (.getfield 41, 3) := by decide +kernel
theorem d_M_close_9 : decode b_M_close 9 = .ok (.ifCond .ne 9, 3) := by decide +kernel
theorem d_M_close_12 : decode b_M_close 12 = .ok (.aload_n 0, 1) := by decide +kernel
theorem d_M_close_13 : decode b_M_close 13 = .ok (.iconst 1, 1) := by decide +kernel
theorem d_M_close_14 : decode b_M_close 14 = .ok (.invokevirtual 48, 3) := by decide +kernel
theorem d_M_close_17 : decode b_M_close 17 = .ok (.ireturn, 1) := by decide +kernel
theorem d_M_close_18 : decode b_M_close 18 = .ok (.iload_n 1, 1) := by decide +kernel
theorem d_M_close_19 : decode b_M_close 19 = .ok (.ifCond .ne 65, 3) := by decide +kernel
theorem d_M_close_22 : decode b_M_close 22 = .ok (.iconst 0, 1) := by decide +kernel
theorem d_M_close_23 : decode b_M_close 23 = .ok (.istore_n 2, 1) := by decide +kernel
theorem d_M_close_24 : decode b_M_close 24 = .ok (.iload_n 2, 1) := by decide +kernel
theorem d_M_close_25 : decode b_M_close 25 = .ok (.sipush 256, 3) := by decide +kernel
theorem d_M_close_28 : decode b_M_close 28 = .ok (.if_icmp .ge 43, 3) := by decide +kernel
theorem d_M_close_31 : decode b_M_close 31 = .ok (.aload_n 0, 1) := by decide +kernel
theorem d_M_close_32 : decode b_M_close 32 = .ok (.getfield 23, 3) := by decide +kernel
theorem d_M_close_35 : decode b_M_close 35 = .ok (.iload_n 2, 1) := by decide +kernel
theorem d_M_close_36 : decode b_M_close 36 = .ok (.aload_n 0, 1) := by decide +kernel
theorem d_M_close_37 : decode b_M_close 37 = .ok (.getfield 9, 3) := by decide +kernel
theorem d_M_close_40 : decode b_M_close 40 = .ok (.aload_n 0, 1) := by decide +kernel
theorem d_M_close_41 : decode b_M_close 41 = .ok (.getfield 41, 3) := by decide +kernel
theorem d_M_close_44 : decode b_M_close 44 = .ok (.aaload, 1) := by decide +kernel
theorem d_M_close_45 : decode b_M_close 45 = .ok (.iload_n 2, 1) := by decide +kernel
theorem d_M_close_46 : decode b_M_close 46 = .ok (.laload, 1) := by decide +kernel
theorem d_M_close_47 : decode b_M_close 47 = .ok (.lastore, 1) := by decide +kernel
theorem d_M_close_48 : decode b_M_close 48 = .ok (.aload_n 0, 1) := by decide +kernel
theorem d_M_close_49 : decode b_M_close 49 = .ok (.getfield 30, 3) := by decide +kernel
theorem d_M_close_52 : decode b_M_close 52 = .ok (.iload_n 2, 1) := by decide +kernel
theorem d_M_close_53 : decode b_M_close 53 = .ok (.aload_n 0, 1) := by decide +kernel
theorem d_M_close_54 : decode b_M_close 54 = .ok (.getfield 16, 3) := by decide +kernel
theorem d_M_close_57 : decode b_M_close 57 = .ok (.aload_n 0, 1) := by decide +kernel
theorem d_M_close_58 : decode b_M_close 58 = .ok (.getfield 41, 3) := by decide +kernel
theorem d_M_close_61 : decode b_M_close 61 = .ok (.aaload, 1) := by decide +kernel
theorem d_M_close_62 : decode b_M_close 62 = .ok (.iload_n 2, 1) := by decide +kernel
theorem d_M_close_63 : decode b_M_close 63 = .ok (.baload, 1) := by decide +kernel
theorem d_M_close_64 : decode b_M_close 64 = .ok (.bastore, 1) := by decide +kernel
theorem d_M_close_65 : decode b_M_close 65 = .ok (.iinc 2 1, 3) := by decide +kernel
theorem d_M_close_68 : decode b_M_close 68 = .ok (.goto (-44), 3) := by decide +kernel
theorem d_M_close_71 : decode b_M_close 71 = .ok (.aload_n 0, 1) := by decide +kernel
theorem d_M_close_72 : decode b_M_close 72 = .ok (.aload_n 0, 1) := by decide +kernel
theorem d_M_close_73 : decode b_M_close 73 = .ok (.getfield 19, 3) := by decide +kernel
theorem d_M_close_76 : decode b_M_close 76 = .ok (.aload_n 0, 1) := by decide +kernel
theorem d_M_close_77 : decode b_M_close 77 = .ok (.getfield 41, 3) := by decide +kernel
theorem d_M_close_80 : decode b_M_close 80 = .ok (.iaload, 1) := by decide +kernel
theorem d_M_close_81 : decode b_M_close 81 = .ok (.putfield 38, 3) := by decide +kernel
theorem d_M_close_84 : decode b_M_close 84 = .ok (.aload_n 0, 1) := by decide +kernel
theorem d_M_close_85 : decode b_M_close 85 = .ok (.dup, 1) := by decide +kernel
theorem d_M_close_86 : decode b_M_close 86 = .ok (.getfield 41, 3) := by decide +kernel
theorem d_M_close_89 : decode b_M_close 89 = .ok (.iconst 1, 1) := by decide +kernel
theorem d_M_close_90 : decode b_M_close 90 = .ok (.isub, 1) := by decide +kernel
theorem d_M_close_91 : decode b_M_close 91 = .ok (.putfield 41, 3) := by decide +kernel
theorem d_M_close_94 : decode b_M_close 94 = .ok (.aload_n 0, 1) := by decide +kernel
theorem d_M_close_95 : decode b_M_close 95 = .ok (.getfield 41, 3) := by decide +kernel
theorem d_M_close_98 : decode b_M_close 98 = .ok (.ireturn, 1) := by decide +kernel
theorem d_M_load_0 : decode b_M_load 0 = .ok (.aload_n 0, 1) := by decide +kernel
theorem d_M_load_1 : decode b_M_load 1 = .ok (.iconst 0, 1) := by decide +kernel
theorem d_M_load_2 : decode b_M_load 2 = .ok (.putfield 34, 3) := by decide +kernel
theorem d_M_load_5 : decode b_M_load 5 = .ok (.aload_n 0, 1) := by decide +kernel
theorem d_M_load_6 : decode b_M_load 6 = .ok (.iload_n 1, 1) := by decide +kernel
theorem d_M_load_7 : decode b_M_load 7 = .ok (.iload_n 2, 1) := by decide +kernel
theorem d_M_load_8 : decode b_M_load 8 = .ok (.invokevirtual 52, 3) := by decide +kernel
theorem d_M_load_11 : decode b_M_load 11 = .ok (.ifCond .eq 9, 3) := by decide +kernel
theorem d_M_load_14 : decode b_M_load 14 = .ok (.aload_n 0, 1) := by decide +kernel
theorem d_M_load_15 : decode b_M_load 15 = .ok (.iconst 1, 1) := by decide +kernel
theorem d_M_load_16 : decode b_M_load 16 = .ok (.invokevirtual 48, 3) := by decide +kernel
theorem d_M_load_19 : decode b_M_load 19 = .ok (.ireturn, 1) := by decide +kernel
theorem d_M_load_20 : decode b_M_load 20 = .ok (.aload_n 0, 1) := by decide +kernel
theorem d_M_load_21 : decode b_M_load 21 = .ok (.getfield 30, 3) := by decide +kernel
theorem d_M_load_24 : decode b_M_load 24 = .ok (.bipush 64, 2) := by decide +kernel
theorem d_M_load_26 : decode b_M_load 26 = .ok (.iload_n 1, 1) := by decide +kernel
theorem d_M_load_27 : decode b_M_load 27 = .ok (.imul, 1) := by decide +kernel
theorem d_M_load_28 : decode b_M_load 28 = .ok (.iload_n 2, 1) := by decide +kernel
theorem d_M_load_29 : decode b_M_load 29 = .ok (.iadd, 1) := by decide +kernel
theorem d_M_load_30 : decode b_M_load 30 = .ok (.baload, 1) := by decide +kernel
theorem d_M_load_31 : decode b_M_load 31 = .ok (.ifCond .eq 8, 3) := by decide +kernel
theorem d_M_load_34 : decode b_M_load 34 = .ok (.bipush 100, 2) := by decide +kernel
theorem d_M_load_36 : decode b_M_load 36 = .ok (.goto 6, 3) := by decide +kernel
theorem d_M_load_39 : decode b_M_load 39 = .ok (.sipush 2100, 3) := by decide +kernel
theorem d_M_load_42 : decode b_M_load 42 = .ok (.istore_n 3, 1) := by decide +kernel
theorem d_M_load_43 : decode b_M_load 43 = .ok (.aload_n 0, 1) := by decide +kernel
theorem d_M_load_44 : decode b_M_load 44 = .ok (.getfield 30, 3) := by decide +kernel
theorem d_M_load_47 : decode b_M_load 47 = .ok (.bipush 64, 2) := by decide +kernel
theorem d_M_load_49 : decode b_M_load 49 = .ok (.iload_n 1, 1) := by decide +kernel
theorem d_M_load_50 : decode b_M_load 50 = .ok (.imul, 1) := by decide +kernel
theorem d_M_load_51 : decode b_M_load 51 = .ok (.iload_n 2, 1) := by decide +kernel
theorem d_M_load_52 : decode b_M_load 52 = .ok (.iadd, 1) := by decide +kernel
theorem d_M_load_53 : decode b_M_load 53 = .ok (.iconst 1, 1) := by decide +kernel
theorem d_M_load_54 : decode b_M_load 54 = .ok (.bastore, 1) := by decide +kernel
theorem d_M_load_55 : decode b_M_load 55 = .ok (.iload_n 3, 1) := by decide +kernel
theorem d_M_load_56 : decode b_M_load 56 = .ok (.ireturn, 1) := by decide +kernel
theorem d_M_out_0 : decode b_M_out 0 = .ok (.iload_n 1, 1) := by decide +kernel
theorem d_M_out_1 : decode b_M_out 1 = .ok (.ifCond .lt 18, 3) := by decide +kernel
theorem d_M_out_4 : decode b_M_out 4 = .ok (.iload_n 1, 1) := by decide +kernel
theorem d_M_out_5 : decode b_M_out 5 = .ok (.iconst 3, 1) := by decide +kernel
theorem d_M_out_6 : decode b_M_out 6 = .ok (.if_icmp .gt 13, 3) := by decide +kernel
theorem d_M_out_9 : decode b_M_out 9 = .ok (.iload_n 2, 1) := by decide +kernel
theorem d_M_out_10 : decode b_M_out 10 = .ok (.ifCond .lt 9, 3) := by decide +kernel
theorem d_M_out_13 : decode b_M_out 13 = .ok (.iload_n 2, 1) := by decide +kernel
theorem d_M_out_14 : decode b_M_out 14 = .ok (.bipush 63, 2) := by decide +kernel
theorem d_M_out_16 : decode b_M_out 16 = .ok (.if_icmp .le 7, 3) := by decide +kernel
theorem d_M_out_19 : decode b_M_out 19 = .ok (.iconst 1, 1) := by decide +kernel
theorem d_M_out_20 : decode b_M_out 20 = .ok (.goto 4, 3) := by decide +kernel
theorem d_M_out_23 : decode b_M_out 23 = .ok (.iconst 0, 1) := by decide +kernel
theorem d_M_out_24 : decode b_M_out 24 = .ok (.ireturn, 1) := by decide +kernel
theorem d_M_store_0 : decode b_M_store 0 = .ok (.aload_n 0, 1) := by decide +kernel
theorem d_M_store_1 : decode b_M_store 1 = .ok (.iconst 0, 1) := by decide +kernel
theorem d_M_store_2 : decode b_M_store 2 = .ok (.putfield 34, 3) := by decide +kernel
theorem d_M_store_5 : decode b_M_store 5 = .ok (.aload_n 0, 1) := by decide +kernel
theorem d_M_store_6 : decode b_M_store 6 = .ok (.iload_n 1, 1) := by decide +kernel
theorem d_M_store_7 : decode b_M_store 7 = .ok (.iload_n 2, 1) := by decide +kernel
theorem d_M_store_8 : decode b_M_store 8 = .ok (.invokevirtual 52, 3) := by decide +kernel
theorem d_M_store_11 : decode b_M_store 11 = .ok (.ifCond .eq 9, 3) := by decide +kernel
theorem d_M_store_14 : decode b_M_store 14 = .ok (.aload_n 0, 1) := by decide +kernel
theorem d_M_store_15 : decode b_M_store 15 = .ok (.iconst 1, 1) := by decide +kernel
theorem d_M_store_16 : decode b_M_store 16 = .ok (.invokevirtual 48, 3) := by decide +kernel
theorem d_M_store_19 : decode b_M_store 19 = .ok (.ireturn, 1) := by decide +kernel
theorem d_M_store_20 : decode b_M_store 20 = .ok (.bipush 64, 2) := by decide +kernel
theorem d_M_store_22 : decode b_M_store 22 = .ok (.iload_n 1, 1) := by decide +kernel
theorem d_M_store_23 : decode b_M_store 23 = .ok (.imul, 1) := by decide +kernel
theorem d_M_store_24 : decode b_M_store 24 = .ok (.iload_n 2, 1) := by decide +kernel
theorem d_M_store_25 : decode b_M_store 25 = .ok (.iadd, 1) := by decide +kernel
theorem d_M_store_26 : decode b_M_store 26 = .ok (.istore 6, 2) := by decide +kernel
theorem d_M_store_28 : decode b_M_store 28 = .ok (.aload_n 0, 1) := by decide +kernel
theorem d_M_store_29 : decode b_M_store 29 = .ok (.getfield 30, 3) := by decide +kernel
theorem d_M_store_32 : decode b_M_store 32 = .ok (.iload 6, 2) := by decide +kernel
theorem d_M_store_34 : decode b_M_store 34 = .ok (.baload, 1) := by decide +kernel
theorem d_M_store_35 : decode b_M_store 35 = .ok (.ifCond .eq 7, 3) := by decide +kernel
theorem d_M_store_38 : decode b_M_store 38 = .ok (.iconst 0, 1) := by decide +kernel
theorem d_M_store_39 : decode b_M_store 39 = .ok (.goto 6, 3) := by decide +kernel
theorem d_M_store_42 : decode b_M_store 42 = .ok (.sipush 2100, 3) := by decide +kernel
theorem d_M_store_45 : decode b_M_store 45 = .ok (.istore 7, 2) := by decide +kernel
theorem d_M_store_47 : decode b_M_store 47 = .ok (.iconst 0, 1) := by decide +kernel
theorem d_M_store_48 : decode b_M_store 48 = .ok (.istore 8, 2) := by decide +kernel
theorem d_M_store_50 : decode b_M_store 50 = .ok (.aload_n 0, 1) := by decide +kernel
theorem d_M_store_51 : decode b_M_store 51 = .ok (.getfield 27, 3) := by decide +kernel
theorem d_M_store_54 : decode b_M_store 54 = .ok (.iload 6, 2) := by decide +kernel
theorem d_M_store_56 : decode b_M_store 56 = .ok (.laload, 1) := by decide +kernel
theorem d_M_store_57 : decode b_M_store 57 = .ok (.lstore 9, 2) := by decide +kernel
theorem d_M_store_59 : decode b_M_store 59 = .ok (.aload_n 0, 1) := by decide +kernel
theorem d_M_store_60 : decode b_M_store 60 = .ok (.getfield 23, 3) := by decide +kernel
theorem d_M_store_63 : decode b_M_store 63 = .ok (.iload 6, 2) := by decide +kernel
theorem d_M_store_65 : decode b_M_store 65 = .ok (.laload, 1) := by decide +kernel
theorem d_M_store_66 : decode b_M_store 66 = .ok (.lstore 11, 2) := by decide +kernel
theorem d_M_store_68 : decode b_M_store 68 = .ok (.lload_n 3, 1) := by decide +kernel
theorem d_M_store_69 : decode b_M_store 69 = .ok (.lload 11, 2) := by decide +kernel
theorem d_M_store_71 : decode b_M_store 71 = .ok (.lcmp, 1) := by decide +kernel
theorem d_M_store_72 : decode b_M_store 72 = .ok (.ifCond .ne 9, 3) := by decide +kernel
theorem d_M_store_75 : decode b_M_store 75 = .ok (.iinc 7 100, 3) := by decide +kernel
theorem d_M_store_78 : decode b_M_store 78 = .ok (.goto 123, 3) := by decide +kernel
theorem d_M_store_81 : decode b_M_store 81 = .ok (.lload 9, 2) := by decide +kernel
theorem d_M_store_83 : decode b_M_store 83 = .ok (.lload 11, 2) := by decide +kernel
theorem d_M_store_85 : decode b_M_store 85 = .ok (.lcmp, 1) := by decide +kernel
theorem d_M_store_86 : decode b_M_store 86 = .ok (.ifCond .ne 45, 3) := by decide +kernel
theorem d_M_store_89 : decode b_M_store 89 = .ok (.iload 7, 2) := by decide +kernel
theorem d_M_store_91 : decode b_M_store 91 = .ok (.lload 9, 2) := by decide +kernel
theorem d_M_store_93 : decode b_M_store 93 = .ok (.lconst 0, 1) := by decide +kernel
theorem d_M_store_94 : decode b_M_store 94 = .ok (.lcmp, 1) := by decide +kernel
theorem d_M_store_95 : decode b_M_store 95 = .ok (.ifCond .ne 9, 3) := by decide +kernel
theorem d_M_store_98 : decode b_M_store 98 = .ok (.sipush 20000, 3) := by decide +kernel
theorem d_M_store_101 : decode b_M_store 101 = .ok (.goto 6, 3) := by decide +kernel
theorem d_M_store_104 : decode b_M_store 104 = .ok (.sipush 2900, 3) := by decide +kernel
theorem d_M_store_107 : decode b_M_store 107 = .ok (.iadd, 1) := by decide +kernel
theorem d_M_store_108 : decode b_M_store 108 = .ok (.istore 7, 2) := by decide +kernel
theorem d_M_store_110 : decode b_M_store 110 = .ok (.lload 9, 2) := by decide +kernel
theorem d_M_store_112 : decode b_M_store 112 = .ok (.lconst 0, 1) := by decide +kernel
theorem d_M_store_113 : decode b_M_store 113 = .ok (.lcmp, 1) := by decide +kernel
theorem d_M_store_114 : decode b_M_store 114 = .ok (.ifCond .eq 87, 3) := by decide +kernel
theorem d_M_store_117 : decode b_M_store 117 = .ok (.lload_n 3, 1) := by decide +kernel
theorem d_M_store_118 : decode b_M_store 118 = .ok (.lconst 0, 1) := by decide +kernel
theorem d_M_store_119 : decode b_M_store 119 = .ok (.lcmp, 1) := by decide +kernel
theorem d_M_store_120 : decode b_M_store 120 = .ok (.ifCond .ne 81, 3) := by decide +kernel
theorem d_M_store_123 : decode b_M_store 123 = .ok (.sipush 15000, 3) := by decide +kernel
theorem d_M_store_126 : decode b_M_store 126 = .ok (.istore 8, 2) := by decide +kernel
theorem d_M_store_128 : decode b_M_store 128 = .ok (.goto 73, 3) := by decide +kernel
theorem d_M_store_131 : decode b_M_store 131 = .ok (.iinc 7 100, 3) := by decide +kernel
theorem d_M_store_134 : decode b_M_store 134 = .ok (.lload 9, 2) := by decide +kernel
theorem d_M_store_136 : decode b_M_store 136 = .ok (.lconst 0, 1) := by decide +kernel
theorem d_M_store_137 : decode b_M_store 137 = .ok (.lcmp, 1) := by decide +kernel
theorem d_M_store_138 : decode b_M_store 138 = .ok (.ifCond .eq 16, 3) := by decide +kernel
theorem d_M_store_141 : decode b_M_store 141 = .ok (.lload 11, 2) := by decide +kernel
theorem d_M_store_143 : decode b_M_store 143 = .ok (.lconst 0, 1) := by decide +kernel
theorem d_M_store_144 : decode b_M_store 144 = .ok (.lcmp, 1) := by decide +kernel
theorem d_M_store_145 : decode b_M_store 145 = .ok (.ifCond .ne 9, 3) := by decide +kernel
theorem d_M_store_148 : decode b_M_store 148 = .ok (.iinc 8 (-15000), 6) := by decide +kernel
theorem d_M_store_154 : decode b_M_store 154 = .ok (.lload 9, 2) := by decide +kernel
theorem d_M_store_156 : decode b_M_store 156 = .ok (.lconst 0, 1) := by decide +kernel
theorem d_M_store_157 : decode b_M_store 157 = .ok (.lcmp, 1) := by decide +kernel
theorem d_M_store_158 : decode b_M_store 158 = .ok (.ifCond .eq 15, 3) := by decide +kernel
theorem d_M_store_161 : decode b_M_store 161 = .ok (.lload_n 3, 1) := by decide +kernel
theorem d_M_store_162 : decode b_M_store 162 = .ok (.lconst 0, 1) := by decide +kernel
theorem d_M_store_163 : decode b_M_store 163 = .ok (.lcmp, 1) := by decide +kernel
theorem d_M_store_164 : decode b_M_store 164 = .ok (.ifCond .ne 9, 3) := by decide +kernel
theorem d_M_store_167 : decode b_M_store 167 = .ok (.iinc 8 15000, 6) := by decide +kernel
theorem d_M_store_173 : decode b_M_store 173 = .ok (.lload 9, 2) := by decide +kernel
theorem d_M_store_175 : decode b_M_store 175 = .ok (.lload_n 3, 1) := by decide +kernel
theorem d_M_store_176 : decode b_M_store 176 = .ok (.lcmp, 1) := by decide +kernel
theorem d_M_store_177 : decode b_M_store 177 = .ok (.ifCond .ne 24, 3) := by decide +kernel
theorem d_M_store_180 : decode b_M_store 180 = .ok (.iload 8, 2) := by decide +kernel
theorem d_M_store_182 : decode b_M_store 182 = .ok (.lload 9, 2) := by decide +kernel
theorem d_M_store_184 : decode b_M_store 184 = .ok (.lconst 0, 1) := by decide +kernel
theorem d_M_store_185 : decode b_M_store 185 = .ok (.lcmp, 1) := by decide +kernel
theorem d_M_store_186 : decode b_M_store 186 = .ok (.ifCond .ne 9, 3) := by decide +kernel
theorem d_M_store_189 : decode b_M_store 189 = .ok (.sipush 19900, 3) := by decide +kernel
theorem d_M_store_192 : decode b_M_store 192 = .ok (.goto 6, 3) := by decide +kernel
theorem d_M_store_195 : decode b_M_store 195 = .ok (.sipush 2800, 3) := by decide +kernel
theorem d_M_store_198 : decode b_M_store 198 = .ok (.iadd, 1) := by decide +kernel
theorem d_M_store_199 : decode b_M_store 199 = .ok (.istore 8, 2) := by decide +kernel
theorem d_M_store_201 : decode b_M_store 201 = .ok (.iload 5, 2) := by decide +kernel
theorem d_M_store_203 : decode b_M_store 203 = .ok (.sipush 2300, 3) := by decide +kernel
theorem d_M_store_206 : decode b_M_store 206 = .ok (.if_icmp .le 10, 3) := by decide +kernel
theorem d_M_store_209 : decode b_M_store 209 = .ok (.iload 7, 2) := by decide +kernel
theorem d_M_store_211 : decode b_M_store 211 = .ok (.iload 5, 2) := by decide +kernel
theorem d_M_store_213 : decode b_M_store 213 = .ok (.if_icmp .le 9, 3) := by decide +kernel
theorem d_M_store_216 : decode b_M_store 216 = .ok (.aload_n 0, 1) := by decide +kernel
theorem d_M_store_217 : decode b_M_store 217 = .ok (.iconst 2, 1) := by decide +kernel
theorem d_M_store_218 : decode b_M_store 218 = .ok (.invokevirtual 48, 3) := by decide +kernel
theorem d_M_store_221 : decode b_M_store 221 = .ok (.ireturn, 1) := by decide +kernel
theorem d_M_store_222 : decode b_M_store 222 = .ok (.aload_n 0, 1) := by decide +kernel
theorem d_M_store_223 : decode b_M_store 223 = .ok (.getfield 30, 3) := by decide +kernel
theorem d_M_store_226 : decode b_M_store 226 = .ok (.iload 6, 2) := by decide +kernel
theorem d_M_store_228 : decode b_M_store 228 = .ok (.iconst 1, 1) := by decide +kernel
theorem d_M_store_229 : decode b_M_store 229 = .ok (.bastore, 1) := by decide +kernel
theorem d_M_store_230 : decode b_M_store 230 = .ok (.aload_n 0, 1) := by decide +kernel
theorem d_M_store_231 : decode b_M_store 231 = .ok (.getfield 23, 3) := by decide +kernel
theorem d_M_store_234 : decode b_M_store 234 = .ok (.iload 6, 2) := by decide +kernel
theorem d_M_store_236 : decode b_M_store 236 = .ok (.lload_n 3, 1) := by decide +kernel
theorem d_M_store_237 : decode b_M_store 237 = .ok (.lastore, 1) := by decide +kernel
theorem d_M_store_238 : decode b_M_store 238 = .ok (.aload_n 0, 1) := by decide +kernel
theorem d_M_store_239 : decode b_M_store 239 = .ok (.dup, 1) := by decide +kernel
theorem d_M_store_240 : decode b_M_store 240 = .ok (.getfield 38, 3) := by decide +kernel
theorem d_M_store_243 : decode b_M_store 243 = .ok (.iload 8, 2) := by decide +kernel
theorem d_M_store_245 : decode b_M_store 245 = .ok (.iadd, 1) := by decide +kernel
theorem d_M_store_246 : decode b_M_store 246 = .ok (.putfield 38, 3) := by decide +kernel
theorem d_M_store_249 : decode b_M_store 249 = .ok (.iload 7, 2) := by decide +kernel
theorem d_M_store_251 : decode b_M_store 251 = .ok (.ireturn, 1) := by decide +kernel
theorem d_M_held_0 : decode b_M_held 0 = .ok (.aload_n 0, 1) := by decide +kernel
theorem d_M_held_1 : decode b_M_held 1 = .ok (.iconst 0, 1) := by decide +kernel
theorem d_M_held_2 : decode b_M_held 2 = .ok (.putfield 34, 3) := by decide +kernel
theorem d_M_held_5 : decode b_M_held 5 = .ok (.aload_n 0, 1) := by decide +kernel
theorem d_M_held_6 : decode b_M_held 6 = .ok (.iload_n 1, 1) := by decide +kernel
theorem d_M_held_7 : decode b_M_held 7 = .ok (.iload_n 2, 1) := by decide +kernel
theorem d_M_held_8 : decode b_M_held 8 = .ok (.invokevirtual 52, 3) := by decide +kernel
theorem d_M_held_11 : decode b_M_held 11 = .ok (.ifCond .eq 10, 3) := by decide +kernel
theorem d_M_held_14 : decode b_M_held 14 = .ok (.aload_n 0, 1) := by decide +kernel
theorem d_M_held_15 : decode b_M_held 15 = .ok (.iconst 1, 1) := by decide +kernel
theorem d_M_held_16 : decode b_M_held 16 = .ok (.invokevirtual 48, 3) := by decide +kernel
theorem d_M_held_19 : decode b_M_held 19 = .ok (.i2l, 1) := by decide +kernel
theorem d_M_held_20 : decode b_M_held 20 = .ok (.lreturn, 1) := by decide +kernel
theorem d_M_held_21 : decode b_M_held 21 = .ok (.iload_n 3, 1) := by decide +kernel
theorem d_M_held_22 : decode b_M_held 22 = .ok (.ifCond .eq 17, 3) := by decide +kernel
theorem d_M_held_25 : decode b_M_held 25 = .ok (.aload_n 0, 1) := by decide +kernel
theorem d_M_held_26 : decode b_M_held 26 = .ok (.getfield 27, 3) := by decide +kernel
theorem d_M_held_29 : decode b_M_held 29 = .ok (.bipush 64, 2) := by decide +kernel
theorem d_M_held_31 : decode b_M_held 31 = .ok (.iload_n 1, 1) := by decide +kernel
theorem d_M_held_32 : decode b_M_held 32 = .ok (.imul, 1) := by decide +kernel
theorem d_M_held_33 : decode b_M_held 33 = .ok (.iload_n 2, 1) := by decide +kernel
theorem d_M_held_34 : decode b_M_held 34 = .ok (.iadd, 1) := by decide +kernel
theorem d_M_held_35 : decode b_M_held 35 = .ok (.laload, 1) := by decide +kernel
theorem d_M_held_36 : decode b_M_held 36 = .ok (.goto 14, 3) := by decide +kernel
theorem d_M_held_39 : decode b_M_held 39 = .ok (.aload_n 0, 1) := by decide +kernel
theorem d_M_held_40 : decode b_M_held 40 = .ok (.getfield 23, 3) := by decide +kernel
theorem d_M_held_43 : decode b_M_held 43 = .ok (.bipush 64, 2) := by decide +kernel
theorem d_M_held_45 : decode b_M_held 45 = .ok (.iload_n 1, 1) := by decide +kernel
theorem d_M_held_46 : decode b_M_held 46 = .ok (.imul, 1) := by decide +kernel
theorem d_M_held_47 : decode b_M_held 47 = .ok (.iload_n 2, 1) := by decide +kernel
theorem d_M_held_48 : decode b_M_held 48 = .ok (.iadd, 1) := by decide +kernel
theorem d_M_held_49 : decode b_M_held 49 = .ok (.laload, 1) := by decide +kernel
theorem d_M_held_50 : decode b_M_held 50 = .ok (.lreturn, 1) := by decide +kernel
theorem d_M_touched_0 : decode b_M_touched 0 = .ok (.aload_n 0, 1) := by decide +kernel
theorem d_M_touched_1 : decode b_M_touched 1 = .ok (.iconst 0, 1) := by decide +kernel
theorem d_M_touched_2 : decode b_M_touched 2 = .ok (.putfield 34, 3) := by decide +kernel
theorem d_M_touched_5 : decode b_M_touched 5 = .ok (.aload_n 0, 1) := by decide +kernel
theorem d_M_touched_6 : decode b_M_touched 6 = .ok (.iload_n 1, 1) := by decide +kernel
theorem d_M_touched_7 : decode b_M_touched 7 = .ok (.iload_n 2, 1) := by decide +kernel
theorem d_M_touched_8 : decode b_M_touched 8 = .ok (.invokevirtual 52, 3) := by decide +kernel
theorem d_M_touched_11 : decode b_M_touched 11 = .ok (.ifCond .eq 19, 3) := by decide +kernel
theorem d_M_touched_14 : decode b_M_touched 14 = .ok (.aload_n 0, 1) := by decide +kernel
theorem d_M_touched_15 : decode b_M_touched 15 = .ok (.iconst 1, 1) := by decide +kernel
theorem d_M_touched_16 : decode b_M_touched 16 = .ok (.invokevirtual 48, 3) := by decide +kernel
theorem d_M_touched_19 : decode b_M_touched 19 = .ok (.ifCond .le 7, 3) := by decide +kernel
theorem d_M_touched_22 : decode b_M_touched 22 = .ok (.iconst 1, 1) := by decide +kernel
theorem d_M_touched_23 : decode b_M_touched 23 = .ok (.goto 18, 3) := by decide +kernel
theorem d_M_touched_26 : decode b_M_touched 26 = .ok (.iconst 0, 1) := by decide +kernel
theorem d_M_touched_27 : decode b_M_touched 27 = .ok (.goto 14, 3) := by decide +kernel
theorem d_M_touched_30 : decode b_M_touched 30 = .ok (.aload_n 0, 1) := by decide +kernel
theorem d_M_touched_31 : decode b_M_touched 31 = .ok (.getfield 30, 3) := by decide +kernel
theorem d_M_touched_34 : decode b_M_touched 34 = .ok (.bipush 64, 2) := by decide +kernel
theorem d_M_touched_36 : decode b_M_touched 36 = .ok (.iload_n 1, 1) := by decide +kernel
theorem d_M_touched_37 : decode b_M_touched 37 = .ok (.imul, 1) := by decide +kernel
theorem d_M_touched_38 : decode b_M_touched 38 = .ok (.iload_n 2, 1) := by decide +kernel
theorem d_M_touched_39 : decode b_M_touched 39 = .ok (.iadd, 1) := by decide +kernel
theorem d_M_touched_40 : decode b_M_touched 40 = .ok (.baload, 1) := by decide +kernel
theorem d_M_touched_41 : decode b_M_touched 41 = .ok (.ireturn, 1) := by decide +kernel
theorem d_M_count_0 : decode b_M_count 0 = .ok (.aload_n 0, 1) := by decide +kernel
theorem d_M_count_1 : decode b_M_count 1 = .ok (.iconst 0, 1) := by decide +kernel
theorem d_M_count_2 : decode b_M_count 2 = .ok (.putfield 34, 3) := by decide +kernel
theorem d_M_count_5 : decode b_M_count 5 = .ok (.iload_n 1, 1) := by decide +kernel
theorem d_M_count_6 : decode b_M_count 6 = .ok (.ifCond .lt 8, 3) := by decide +kernel
theorem d_M_count_9 : decode b_M_count 9 = .ok (.iload_n 1, 1) := by decide +kernel
theorem d_M_count_10 : decode b_M_count 10 = .ok (.iconst 3, 1) := by decide +kernel
theorem d_M_count_11 : decode b_M_count 11 = .ok (.if_icmp .le 9, 3) := by decide +kernel
theorem d_M_count_14 : decode b_M_count 14 = .ok (.aload_n 0, 1) := by decide +kernel
theorem d_M_count_15 : decode b_M_count 15 = .ok (.iconst 1, 1) := by decide +kernel
theorem d_M_count_16 : decode b_M_count 16 = .ok (.invokevirtual 48, 3) := by decide +kernel
theorem d_M_count_19 : decode b_M_count 19 = .ok (.ireturn, 1) := by decide +kernel
theorem d_M_count_20 : decode b_M_count 20 = .ok (.iconst 0, 1) := by decide +kernel
theorem d_M_count_21 : decode b_M_count 21 = .ok (.istore_n 2, 1) := by decide +kernel
theorem d_M_count_22 : decode b_M_count 22 = .ok (.iconst 0, 1) := by decide +kernel
theorem d_M_count_23 : decode b_M_count 23 = .ok (.istore_n 3, 1) := by decide +kernel
theorem d_M_count_24 : decode b_M_count 24 = .ok (.iload_n 3, 1) := by decide +kernel
theorem d_M_count_25 : decode b_M_count 25 = .ok (.sipush 256, 3) := by decide +kernel
theorem d_M_count_28 : decode b_M_count 28 = .ok (.if_icmp .ge 26, 3) := by decide +kernel
theorem d_M_count_31 : decode b_M_count 31 = .ok (.iload_n 2, 1) := by decide +kernel
theorem d_M_count_32 : decode b_M_count 32 = .ok (.aload_n 0, 1) := by decide +kernel
theorem d_M_count_33 : decode b_M_count 33 = .ok (.getfield 30, 3) := by decide +kernel
theorem d_M_count_36 : decode b_M_count 36 = .ok (.iload_n 3, 1) := by decide +kernel
theorem d_M_count_37 : decode b_M_count 37 = .ok (.baload, 1) := by decide +kernel
theorem d_M_count_38 : decode b_M_count 38 = .ok (.ifCond .eq 7, 3) := by decide +kernel
theorem d_M_count_41 : decode b_M_count 41 = .ok (.iconst 1, 1) := by decide +kernel
theorem d_M_count_42 : decode b_M_count 42 = .ok (.goto 4, 3) := by decide +kernel
theorem d_M_count_45 : decode b_M_count 45 = .ok (.iconst 0, 1) := by decide +kernel
theorem d_M_count_46 : decode b_M_count 46 = .ok (.iadd, 1) := by decide +kernel
theorem d_M_count_47 : decode b_M_count 47 = .ok (.istore_n 2, 1) := by decide +kernel
theorem d_M_count_48 : decode b_M_count 48 = .ok (.iinc 3 1, 3) := by decide +kernel
theorem d_M_count_51 : decode b_M_count 51 = .ok (.goto (-27), 3) := by decide +kernel
theorem d_M_count_54 : decode b_M_count 54 = .ok (.iload_n 1, 1) := by decide +kernel
theorem d_M_count_55 : decode b_M_count 55 = .ok (.ifCond .ne 10, 3) := by decide +kernel
theorem d_M_count_58 : decode b_M_count 58 = .ok (.aload_n 0, 1) := by decide +kernel
theorem d_M_count_59 : decode b_M_count 59 = .ok (.getfield 38, 3) := by decide +kernel
theorem d_M_count_62 : decode b_M_count 62 = .ok (.goto 28, 3) := by decide +kernel
theorem d_M_count_65 : decode b_M_count 65 = .ok (.iload_n 1, 1) := by decide +kernel
theorem d_M_count_66 : decode b_M_count 66 = .ok (.iconst 1, 1) := by decide +kernel
theorem d_M_count_67 : decode b_M_count 67 = .ok (.if_icmp .ne 7, 3) := by decide +kernel
theorem d_M_count_70 : decode b_M_count 70 = .ok (.iload_n 2, 1) := by decide +kernel
theorem d_M_count_71 : decode b_M_count 71 = .ok (.goto 19, 3) := by decide +kernel
theorem d_M_count_74 : decode b_M_count 74 = .ok (.iload_n 1, 1) := by decide +kernel
theorem d_M_count_75 : decode b_M_count 75 = .ok (.iconst 2, 1) := by decide +kernel
theorem d_M_count_76 : decode b_M_count 76 = .ok (.if_icmp .ne 10, 3) := by decide +kernel
theorem d_M_count_79 : decode b_M_count 79 = .ok (.aload_n 0, 1) := by decide +kernel
theorem d_M_count_80 : decode b_M_count 80 = .ok (.getfield 41, 3) := by decide +kernel
theorem d_M_count_83 : decode b_M_count 83 = .ok (.goto 7, 3) := by decide +kernel
theorem d_M_count_86 : decode b_M_count 86 = .ok (.aload_n 0, 1) := by decide +kernel
theorem d_M_count_87 : decode b_M_count 87 = .ok (.invokevirtual 44, 3) := by decide +kernel
theorem d_M_count_90 : decode b_M_count 90 = .ok (.ireturn, 1) := by decide +kernel
end
section
theorem d_L_open_0 : decode b_L_open 0 = .ok (.aload_n 1, 1) := by decide +kernel
theorem d_L_open_1 : decode b_L_open 1 = .ok (.iconst 0, 1) := by decide +kernel
theorem d_L_open_2 : decode b_L_open 2 = .ok (.aload_n 0, 1) := by decide +kernel
theorem d_L_open_3 : decode b_L_open 3 = .ok (.invokevirtual 7, 3) := by decide +kernel
theorem d_L_open_6 : decode b_L_open 6 = .ok (.i2l, 1) := by decide +kernel
theorem d_L_open_7 : decode b_L_open 7 = .ok (.lastore, 1) := by decide +kernel
theorem d_L_open_8 : decode b_L_open 8 = .ok (.goto 6, 3) := by decide +kernel
theorem d_L_open_11 : decode b_L_open 11 = .ok (.astore_n 2, 1) := by decide +kernel
theorem d_L_open_12 : decode b_L_open 12 = .ok (.iconst 1, 1) := by decide +kernel
theorem d_L_open_13 : decode b_L_open 13 = .ok (.ireturn, 1) := by decide +kernel
theorem d_L_open_14 : decode b_L_open 14 = .ok (.iconst 0, 1) := by decide +kernel
theorem d_L_open_15 : decode b_L_open 15 = .ok (.ireturn, 1) := by decide +kernel
theorem d_L_close_0 : decode b_L_close 0 = .ok (.aload_n 2, 1) := by decide +kernel
theorem d_L_close_1 : decode b_L_close 1 = .ok (.iconst 0, 1) := by decide +kernel
theorem d_L_close_2 : decode b_L_close 2 = .ok (.aload_n 0, 1) := by decide +kernel
theorem d_L_close_3 : decode b_L_close 3 = .ok (.iload_n 1, 1) := by decide +kernel
theorem d_L_close_4 : decode b_L_close 4 = .ok (.invokevirtual 15, 3) := by decide +kernel
theorem d_L_close_7 : decode b_L_close 7 = .ok (.i2l, 1) := by decide +kernel
theorem d_L_close_8 : decode b_L_close 8 = .ok (.lastore, 1) := by decide +kernel
theorem d_L_close_9 : decode b_L_close 9 = .ok (.goto 6, 3) := by decide +kernel
theorem d_L_close_12 : decode b_L_close 12 = .ok (.astore_n 3, 1) := by decide +kernel
theorem d_L_close_13 : decode b_L_close 13 = .ok (.iconst 1, 1) := by decide +kernel
theorem d_L_close_14 : decode b_L_close 14 = .ok (.ireturn, 1) := by decide +kernel
theorem d_L_close_15 : decode b_L_close 15 = .ok (.iconst 0, 1) := by decide +kernel
theorem d_L_close_16 : decode b_L_close 16 = .ok (.ireturn, 1) := by decide +kernel
theorem d_L_load_0 : decode b_L_load 0 = .ok (.aload_n 3, 1) := by decide +kernel
theorem d_L_load_1 : decode b_L_load 1 = .ok (.iconst 0, 1) := by decide +kernel
theorem d_L_load_2 : decode b_L_load 2 = .ok (.aload_n 0, 1) := by decide +kernel
theorem d_L_load_3 : decode b_L_load 3 = .ok (.iload_n 1, 1) := by decide +kernel
theorem d_L_load_4 : decode b_L_load 4 = .ok (.iload_n 2, 1) := by decide +kernel
theorem d_L_load_5 : decode b_L_load 5 = .ok (.invokevirtual 21, 3) := by decide +kernel
theorem d_L_load_8 : decode b_L_load 8 = .ok (.i2l, 1) := by decide +kernel
theorem d_L_load_9 : decode b_L_load 9 = .ok (.lastore, 1) := by decide +kernel
theorem d_L_load_10 : decode b_L_load 10 = .ok (.goto 7, 3) := by decide +kernel
theorem d_L_load_13 : decode b_L_load 13 = .ok (.astore 4, 2) := by decide +kernel
theorem d_L_load_15 : decode b_L_load 15 = .ok (.iconst 1, 1) := by decide +kernel
theorem d_L_load_16 : decode b_L_load 16 = .ok (.ireturn, 1) := by decide +kernel
theorem d_L_load_17 : decode b_L_load 17 = .ok (.iconst 0, 1) := by decide +kernel
theorem d_L_load_18 : decode b_L_load 18 = .ok (.ireturn, 1) := by decide +kernel
theorem d_L_store_0 : decode b_L_store 0 = .ok (.aload 6, 2) := by decide +kernel
theorem d_L_store_2 : decode b_L_store 2 = .ok (.iconst 0, 1) := by decide +kernel
theorem d_L_store_3 : decode b_L_store 3 = .ok (.aload_n 0, 1) := by decide +kernel
theorem d_L_store_4 : decode b_L_store 4 = .ok (.iload_n 1, 1) := by decide +kernel
theorem d_L_store_5 : decode b_L_store 5 = .ok (.iload_n 2, 1) := by decide +kernel
theorem d_L_store_6 : decode b_L_store 6 = .ok (.lload_n 3, 1) := by decide +kernel
theorem d_L_store_7 : decode b_L_store 7 = .ok (.iload 5, 2) := by decide +kernel
theorem d_L_store_9 : decode b_L_store 9 = .ok (.invokevirtual 27, 3) := by decide +kernel
theorem d_L_store_12 : decode b_L_store 12 = .ok (.i2l, 1) := by decide +kernel
theorem d_L_store_13 : decode b_L_store 13 = .ok (.lastore, 1) := by decide +kernel
theorem d_L_store_14 : decode b_L_store 14 = .ok (.goto 11, 3) := by decide +kernel
theorem d_L_store_17 : decode b_L_store 17 = .ok (.astore 7, 2) := by decide +kernel
theorem d_L_store_19 : decode b_L_store 19 = .ok (.iconst 1, 1) := by decide +kernel
theorem d_L_store_20 : decode b_L_store 20 = .ok (.ireturn, 1) := by decide +kernel
theorem d_L_store_21 : decode b_L_store 21 = .ok (.astore 7, 2) := by decide +kernel
theorem d_L_store_23 : decode b_L_store 23 = .ok (.iconst 2, 1) := by decide +kernel
theorem d_L_store_24 : decode b_L_store 24 = .ok (.ireturn, 1) := by decide +kernel
theorem d_L_store_25 : decode b_L_store 25 = .ok (.iconst 0, 1) := by decide +kernel
theorem d_L_store_26 : decode b_L_store 26 = .ok (.ireturn, 1) := by decide +kernel
theorem d_L_held_0 : decode b_L_held 0 = .ok (.aload 4, 2) := by decide +kernel
theorem d_L_held_2 : decode b_L_held 2 = .ok (.iconst 0, 1) := by decide +kernel
theorem d_L_held_3 : decode b_L_held 3 = .ok (.aload_n 0, 1) := by decide +kernel
theorem d_L_held_4 : decode b_L_held 4 = .ok (.iload_n 1, 1) := by decide +kernel
theorem d_L_held_5 : decode b_L_held 5 = .ok (.iload_n 2, 1) := by decide +kernel
theorem d_L_held_6 : decode b_L_held 6 = .ok (.iload_n 3, 1) := by decide +kernel
theorem d_L_held_7 : decode b_L_held 7 = .ok (.invokevirtual 31, 3) := by decide +kernel
theorem d_L_held_10 : decode b_L_held 10 = .ok (.lastore, 1) := by decide +kernel
theorem d_L_held_11 : decode b_L_held 11 = .ok (.goto 7, 3) := by decide +kernel
theorem d_L_held_14 : decode b_L_held 14 = .ok (.astore 5, 2) := by decide +kernel
theorem d_L_held_16 : decode b_L_held 16 = .ok (.iconst 1, 1) := by decide +kernel
theorem d_L_held_17 : decode b_L_held 17 = .ok (.ireturn, 1) := by decide +kernel
theorem d_L_held_18 : decode b_L_held 18 = .ok (.iconst 0, 1) := by decide +kernel
theorem d_L_held_19 : decode b_L_held 19 = .ok (.ireturn, 1) := by decide +kernel
theorem d_L_touched_0 : decode b_L_touched 0 = .ok (.aload_n 3, 1) := by decide +kernel
theorem d_L_touched_1 : decode b_L_touched 1 = .ok (.iconst 0, 1) := by decide +kernel
theorem d_L_touched_2 : decode b_L_touched 2 = .ok (.aload_n 0, 1) := by decide +kernel
theorem d_L_touched_3 : decode b_L_touched 3 = .ok (.iload_n 1, 1) := by decide +kernel
theorem d_L_touched_4 : decode b_L_touched 4 = .ok (.iload_n 2, 1) := by decide +kernel
theorem d_L_touched_5 : decode b_L_touched 5 = .ok (.invokevirtual 35, 3) := by decide +kernel
theorem d_L_touched_8 : decode b_L_touched 8 = .ok (.ifCond .eq 7, 3) := by decide +kernel
theorem d_L_touched_11 : decode b_L_touched 11 = .ok (.lconst 1, 1) := by decide +kernel
theorem d_L_touched_12 : decode b_L_touched 12 = .ok (.goto 4, 3) := by decide +kernel
theorem d_L_touched_15 : decode b_L_touched 15 = .ok (.lconst 0, 1) := by decide +kernel
theorem d_L_touched_16 : decode b_L_touched 16 = .ok (.lastore, 1) := by decide +kernel
theorem d_L_touched_17 : decode b_L_touched 17 = .ok (.goto 7, 3) := by decide +kernel
theorem d_L_touched_20 : decode b_L_touched 20 = .ok (.astore 4, 2) := by decide +kernel
theorem d_L_touched_22 : decode b_L_touched 22 = .ok (.iconst 1, 1) := by decide +kernel
theorem d_L_touched_23 : decode b_L_touched 23 = .ok (.ireturn, 1) := by decide +kernel
theorem d_L_touched_24 : decode b_L_touched 24 = .ok (.iconst 0, 1) := by decide +kernel
theorem d_L_touched_25 : decode b_L_touched 25 = .ok (.ireturn, 1) := by decide +kernel
theorem d_L_count_0 : decode b_L_count 0 = .ok (.aload_n 2, 1) := by decide +kernel
theorem d_L_count_1 : decode b_L_count 1 = .ok (.iconst 0, 1) := by decide +kernel
theorem d_L_count_2 : decode b_L_count 2 = .ok (.aload_n 0, 1) := by decide +kernel
theorem d_L_count_3 : decode b_L_count 3 = .ok (.iload_n 1, 1) := by decide +kernel
theorem d_L_count_4 : decode b_L_count 4 = .ok (.invokevirtual 39, 3) := by decide +kernel
theorem d_L_count_7 : decode b_L_count 7 = .ok (.i2l, 1) := by decide +kernel
theorem d_L_count_8 : decode b_L_count 8 = .ok (.lastore, 1) := by decide +kernel
theorem d_L_count_9 : decode b_L_count 9 = .ok (.goto 6, 3) := by decide +kernel
theorem d_L_count_12 : decode b_L_count 12 = .ok (.astore_n 3, 1) := by decide +kernel
theorem d_L_count_13 : decode b_L_count 13 = .ok (.iconst 1, 1) := by decide +kernel
theorem d_L_count_14 : decode b_L_count 14 = .ok (.ireturn, 1) := by decide +kernel
theorem d_L_count_15 : decode b_L_count 15 = .ok (.iconst 0, 1) := by decide +kernel
theorem d_L_count_16 : decode b_L_count 16 = .ok (.ireturn, 1) := by decide +kernel
theorem d_L_law_0 : decode b_L_law 0 = .ok (.new 8, 3) := by decide +kernel
theorem d_L_law_3 : decode b_L_law 3 = .ok (.dup, 1) := by decide +kernel
theorem d_L_law_4 : decode b_L_law 4 = .ok (.invokespecial 43, 3) := by decide +kernel
theorem d_L_law_7 : decode b_L_law 7 = .ok (.astore_n 1, 1) := by decide +kernel
theorem d_L_law_8 : decode b_L_law 8 = .ok (.new 44, 3) := by decide +kernel
theorem d_L_law_11 : decode b_L_law 11 = .ok (.dup, 1) := by decide +kernel
theorem d_L_law_12 : decode b_L_law 12 = .ok (.invokespecial 46, 3) := by decide +kernel
theorem d_L_law_15 : decode b_L_law 15 = .ok (.astore_n 2, 1) := by decide +kernel
theorem d_L_law_16 : decode b_L_law 16 = .ok (.iconst 1, 1) := by decide +kernel
theorem d_L_law_17 : decode b_L_law 17 = .ok (.newarray .long, 2) := by decide +kernel
theorem d_L_law_19 : decode b_L_law 19 = .ok (.astore_n 3, 1) := by decide +kernel
theorem d_L_law_20 : decode b_L_law 20 = .ok (.iconst 0, 1) := by decide +kernel
theorem d_L_law_21 : decode b_L_law 21 = .ok (.istore 4, 2) := by decide +kernel
theorem d_L_law_23 : decode b_L_law 23 = .ok (.iload 4, 2) := by decide +kernel
theorem d_L_law_25 : decode b_L_law 25 = .ok (.aload_n 0, 1) := by decide +kernel
theorem d_L_law_26 : decode b_L_law 26 = .ok (.arraylength, 1) := by decide +kernel
theorem d_L_law_27 : decode b_L_law 27 = .ok (.bipush 6, 2) := by decide +kernel
theorem d_L_law_29 : decode b_L_law 29 = .ok (.isub, 1) := by decide +kernel
theorem d_L_law_30 : decode b_L_law 30 = .ok (.if_icmp .gt 611, 3) := by decide +kernel
theorem d_L_law_33 : decode b_L_law 33 = .ok (.aload_n 0, 1) := by decide +kernel
theorem d_L_law_34 : decode b_L_law 34 = .ok (.iload 4, 2) := by decide +kernel
theorem d_L_law_36 : decode b_L_law 36 = .ok (.iaload, 1) := by decide +kernel
theorem d_L_law_37 : decode b_L_law 37 = .ok (.bipush 7, 2) := by decide +kernel
theorem d_L_law_39 : decode b_L_law 39 = .ok (.iand, 1) := by decide +kernel
theorem d_L_law_40 : decode b_L_law 40 = .ok (.tableswitch 595 0 7 #[48, 61, 105, 177, 245, 369, 464, 539], 48) := by decide +kernel
theorem d_L_law_88 : decode b_L_law 88 = .ok (.aload_n 1, 1) := by decide +kernel
theorem d_L_law_89 : decode b_L_law 89 = .ok (.invokevirtual 47, 3) := by decide +kernel
theorem d_L_law_92 : decode b_L_law 92 = .ok (.aload_n 2, 1) := by decide +kernel
theorem d_L_law_93 : decode b_L_law 93 = .ok (.invokevirtual 50, 3) := by decide +kernel
theorem d_L_law_96 : decode b_L_law 96 = .ok (.if_icmp .eq 539, 3) := by decide +kernel
theorem d_L_law_99 : decode b_L_law 99 = .ok (.iconst 0, 1) := by decide +kernel
theorem d_L_law_100 : decode b_L_law 100 = .ok (.ireturn, 1) := by decide +kernel
theorem d_L_law_101 : decode b_L_law 101 = .ok (.aload_n 1, 1) := by decide +kernel
theorem d_L_law_102 : decode b_L_law 102 = .ok (.aload_n 3, 1) := by decide +kernel
theorem d_L_law_103 : decode b_L_law 103 = .ok (.invokestatic 51, 3) := by decide +kernel
theorem d_L_law_106 : decode b_L_law 106 = .ok (.istore 5, 2) := by decide +kernel
theorem d_L_law_108 : decode b_L_law 108 = .ok (.aload_n 2, 1) := by decide +kernel
theorem d_L_law_109 : decode b_L_law 109 = .ok (.invokevirtual 56, 3) := by decide +kernel
theorem d_L_law_112 : decode b_L_law 112 = .ok (.istore 6, 2) := by decide +kernel
theorem d_L_law_114 : decode b_L_law 114 = .ok (.aload_n 2, 1) := by decide +kernel
theorem d_L_law_115 : decode b_L_law 115 = .ok (.invokevirtual 57, 3) := by decide +kernel
theorem d_L_law_118 : decode b_L_law 118 = .ok (.iload 5, 2) := by decide +kernel
theorem d_L_law_120 : decode b_L_law 120 = .ok (.if_icmp .eq 5, 3) := by decide +kernel
theorem d_L_law_123 : decode b_L_law 123 = .ok (.iconst 0, 1) := by decide +kernel
theorem d_L_law_124 : decode b_L_law 124 = .ok (.ireturn, 1) := by decide +kernel
theorem d_L_law_125 : decode b_L_law 125 = .ok (.iload 5, 2) := by decide +kernel
theorem d_L_law_127 : decode b_L_law 127 = .ok (.ifCond .ne 15, 3) := by decide +kernel
theorem d_L_law_130 : decode b_L_law 130 = .ok (.aload_n 3, 1) := by decide +kernel
theorem d_L_law_131 : decode b_L_law 131 = .ok (.iconst 0, 1) := by decide +kernel
theorem d_L_law_132 : decode b_L_law 132 = .ok (.laload, 1) := by decide +kernel
theorem d_L_law_133 : decode b_L_law 133 = .ok (.iload 6, 2) := by decide +kernel
theorem d_L_law_135 : decode b_L_law 135 = .ok (.i2l, 1) := by decide +kernel
theorem d_L_law_136 : decode b_L_law 136 = .ok (.lcmp, 1) := by decide +kernel
theorem d_L_law_137 : decode b_L_law 137 = .ok (.ifCond .eq 5, 3) := by decide +kernel
theorem d_L_law_140 : decode b_L_law 140 = .ok (.iconst 0, 1) := by decide +kernel
theorem d_L_law_141 : decode b_L_law 141 = .ok (.ireturn, 1) := by decide +kernel
theorem d_L_law_142 : decode b_L_law 142 = .ok (.goto 493, 3) := by decide +kernel
theorem d_L_law_145 : decode b_L_law 145 = .ok (.aload_n 1, 1) := by decide +kernel
theorem d_L_law_146 : decode b_L_law 146 = .ok (.aload_n 0, 1) := by decide +kernel
theorem d_L_law_147 : decode b_L_law 147 = .ok (.iload 4, 2) := by decide +kernel
theorem d_L_law_149 : decode b_L_law 149 = .ok (.iconst 1, 1) := by decide +kernel
theorem d_L_law_150 : decode b_L_law 150 = .ok (.iadd, 1) := by decide +kernel
theorem d_L_law_151 : decode b_L_law 151 = .ok (.iaload, 1) := by decide +kernel
theorem d_L_law_152 : decode b_L_law 152 = .ok (.ifCond .eq 7, 3) := by decide +kernel
theorem d_L_law_155 : decode b_L_law 155 = .ok (.iconst 1, 1) := by decide +kernel
theorem d_L_law_156 : decode b_L_law 156 = .ok (.goto 4, 3) := by decide +kernel
theorem d_L_law_159 : decode b_L_law 159 = .ok (.iconst 0, 1) := by decide +kernel
theorem d_L_law_160 : decode b_L_law 160 = .ok (.aload_n 3, 1) := by decide +kernel
theorem d_L_law_161 : decode b_L_law 161 = .ok (.invokestatic 60, 3) := by decide +kernel
theorem d_L_law_164 : decode b_L_law 164 = .ok (.istore 5, 2) := by decide +kernel
theorem d_L_law_166 : decode b_L_law 166 = .ok (.aload_n 2, 1) := by decide +kernel
theorem d_L_law_167 : decode b_L_law 167 = .ok (.aload_n 0, 1) := by decide +kernel
theorem d_L_law_168 : decode b_L_law 168 = .ok (.iload 4, 2) := by decide +kernel
theorem d_L_law_170 : decode b_L_law 170 = .ok (.iconst 1, 1) := by decide +kernel
theorem d_L_law_171 : decode b_L_law 171 = .ok (.iadd, 1) := by decide +kernel
theorem d_L_law_172 : decode b_L_law 172 = .ok (.iaload, 1) := by decide +kernel
theorem d_L_law_173 : decode b_L_law 173 = .ok (.ifCond .eq 7, 3) := by decide +kernel
theorem d_L_law_176 : decode b_L_law 176 = .ok (.iconst 1, 1) := by decide +kernel
theorem d_L_law_177 : decode b_L_law 177 = .ok (.goto 4, 3) := by decide +kernel
theorem d_L_law_180 : decode b_L_law 180 = .ok (.iconst 0, 1) := by decide +kernel
theorem d_L_law_181 : decode b_L_law 181 = .ok (.invokevirtual 63, 3) := by decide +kernel
theorem d_L_law_184 : decode b_L_law 184 = .ok (.istore 6, 2) := by decide +kernel
theorem d_L_law_186 : decode b_L_law 186 = .ok (.aload_n 2, 1) := by decide +kernel
theorem d_L_law_187 : decode b_L_law 187 = .ok (.invokevirtual 57, 3) := by decide +kernel
theorem d_L_law_190 : decode b_L_law 190 = .ok (.iload 5, 2) := by decide +kernel
theorem d_L_law_192 : decode b_L_law 192 = .ok (.if_icmp .eq 5, 3) := by decide +kernel
theorem d_L_law_195 : decode b_L_law 195 = .ok (.iconst 0, 1) := by decide +kernel
theorem d_L_law_196 : decode b_L_law 196 = .ok (.ireturn, 1) := by decide +kernel
theorem d_L_law_197 : decode b_L_law 197 = .ok (.iload 5, 2) := by decide +kernel
theorem d_L_law_199 : decode b_L_law 199 = .ok (.ifCond .ne 15, 3) := by decide +kernel
theorem d_L_law_202 : decode b_L_law 202 = .ok (.aload_n 3, 1) := by decide +kernel
theorem d_L_law_203 : decode b_L_law 203 = .ok (.iconst 0, 1) := by decide +kernel
theorem d_L_law_204 : decode b_L_law 204 = .ok (.laload, 1) := by decide +kernel
theorem d_L_law_205 : decode b_L_law 205 = .ok (.iload 6, 2) := by decide +kernel
theorem d_L_law_207 : decode b_L_law 207 = .ok (.i2l, 1) := by decide +kernel
theorem d_L_law_208 : decode b_L_law 208 = .ok (.lcmp, 1) := by decide +kernel
theorem d_L_law_209 : decode b_L_law 209 = .ok (.ifCond .eq 5, 3) := by decide +kernel
theorem d_L_law_212 : decode b_L_law 212 = .ok (.iconst 0, 1) := by decide +kernel
theorem d_L_law_213 : decode b_L_law 213 = .ok (.ireturn, 1) := by decide +kernel
theorem d_L_law_214 : decode b_L_law 214 = .ok (.goto 421, 3) := by decide +kernel
theorem d_L_law_217 : decode b_L_law 217 = .ok (.aload_n 1, 1) := by decide +kernel
theorem d_L_law_218 : decode b_L_law 218 = .ok (.aload_n 0, 1) := by decide +kernel
theorem d_L_law_219 : decode b_L_law 219 = .ok (.iload 4, 2) := by decide +kernel
theorem d_L_law_221 : decode b_L_law 221 = .ok (.iconst 1, 1) := by decide +kernel
theorem d_L_law_222 : decode b_L_law 222 = .ok (.iadd, 1) := by decide +kernel
theorem d_L_law_223 : decode b_L_law 223 = .ok (.iaload, 1) := by decide +kernel
theorem d_L_law_224 : decode b_L_law 224 = .ok (.aload_n 0, 1) := by decide +kernel
theorem d_L_law_225 : decode b_L_law 225 = .ok (.iload 4, 2) := by decide +kernel
theorem d_L_law_227 : decode b_L_law 227 = .ok (.iconst 2, 1) := by decide +kernel
theorem d_L_law_228 : decode b_L_law 228 = .ok (.iadd, 1) := by decide +kernel
theorem d_L_law_229 : decode b_L_law 229 = .ok (.iaload, 1) := by decide +kernel
theorem d_L_law_230 : decode b_L_law 230 = .ok (.aload_n 3, 1) := by decide +kernel
theorem d_L_law_231 : decode b_L_law 231 = .ok (.invokestatic 64, 3) := by decide +kernel
theorem d_L_law_234 : decode b_L_law 234 = .ok (.istore 5, 2) := by decide +kernel
theorem d_L_law_236 : decode b_L_law 236 = .ok (.aload_n 2, 1) := by decide +kernel
theorem d_L_law_237 : decode b_L_law 237 = .ok (.aload_n 0, 1) := by decide +kernel
theorem d_L_law_238 : decode b_L_law 238 = .ok (.iload 4, 2) := by decide +kernel
theorem d_L_law_240 : decode b_L_law 240 = .ok (.iconst 1, 1) := by decide +kernel
theorem d_L_law_241 : decode b_L_law 241 = .ok (.iadd, 1) := by decide +kernel
theorem d_L_law_242 : decode b_L_law 242 = .ok (.iaload, 1) := by decide +kernel
theorem d_L_law_243 : decode b_L_law 243 = .ok (.aload_n 0, 1) := by decide +kernel
theorem d_L_law_244 : decode b_L_law 244 = .ok (.iload 4, 2) := by decide +kernel
theorem d_L_law_246 : decode b_L_law 246 = .ok (.iconst 2, 1) := by decide +kernel
theorem d_L_law_247 : decode b_L_law 247 = .ok (.iadd, 1) := by decide +kernel
theorem d_L_law_248 : decode b_L_law 248 = .ok (.iaload, 1) := by decide +kernel
theorem d_L_law_249 : decode b_L_law 249 = .ok (.invokevirtual 67, 3) := by decide +kernel
theorem d_L_law_252 : decode b_L_law 252 = .ok (.istore 6, 2) := by decide +kernel
theorem d_L_law_254 : decode b_L_law 254 = .ok (.aload_n 2, 1) := by decide +kernel
theorem d_L_law_255 : decode b_L_law 255 = .ok (.invokevirtual 57, 3) := by decide +kernel
theorem d_L_law_258 : decode b_L_law 258 = .ok (.iload 5, 2) := by decide +kernel
theorem d_L_law_260 : decode b_L_law 260 = .ok (.if_icmp .eq 5, 3) := by decide +kernel
theorem d_L_law_263 : decode b_L_law 263 = .ok (.iconst 0, 1) := by decide +kernel
theorem d_L_law_264 : decode b_L_law 264 = .ok (.ireturn, 1) := by decide +kernel
theorem d_L_law_265 : decode b_L_law 265 = .ok (.iload 5, 2) := by decide +kernel
theorem d_L_law_267 : decode b_L_law 267 = .ok (.ifCond .ne 15, 3) := by decide +kernel
theorem d_L_law_270 : decode b_L_law 270 = .ok (.aload_n 3, 1) := by decide +kernel
theorem d_L_law_271 : decode b_L_law 271 = .ok (.iconst 0, 1) := by decide +kernel
theorem d_L_law_272 : decode b_L_law 272 = .ok (.laload, 1) := by decide +kernel
theorem d_L_law_273 : decode b_L_law 273 = .ok (.iload 6, 2) := by decide +kernel
theorem d_L_law_275 : decode b_L_law 275 = .ok (.i2l, 1) := by decide +kernel
theorem d_L_law_276 : decode b_L_law 276 = .ok (.lcmp, 1) := by decide +kernel
theorem d_L_law_277 : decode b_L_law 277 = .ok (.ifCond .eq 5, 3) := by decide +kernel
theorem d_L_law_280 : decode b_L_law 280 = .ok (.iconst 0, 1) := by decide +kernel
theorem d_L_law_281 : decode b_L_law 281 = .ok (.ireturn, 1) := by decide +kernel
theorem d_L_law_282 : decode b_L_law 282 = .ok (.goto 353, 3) := by decide +kernel
theorem d_L_law_285 : decode b_L_law 285 = .ok (.aload_n 1, 1) := by decide +kernel
theorem d_L_law_286 : decode b_L_law 286 = .ok (.aload_n 0, 1) := by decide +kernel
theorem d_L_law_287 : decode b_L_law 287 = .ok (.iload 4, 2) := by decide +kernel
theorem d_L_law_289 : decode b_L_law 289 = .ok (.iconst 1, 1) := by decide +kernel
theorem d_L_law_290 : decode b_L_law 290 = .ok (.iadd, 1) := by decide +kernel
theorem d_L_law_291 : decode b_L_law 291 = .ok (.iaload, 1) := by decide +kernel
theorem d_L_law_292 : decode b_L_law 292 = .ok (.aload_n 0, 1) := by decide +kernel
theorem d_L_law_293 : decode b_L_law 293 = .ok (.iload 4, 2) := by decide +kernel
theorem d_L_law_295 : decode b_L_law 295 = .ok (.iconst 2, 1) := by decide +kernel
theorem d_L_law_296 : decode b_L_law 296 = .ok (.iadd, 1) := by decide +kernel
theorem d_L_law_297 : decode b_L_law 297 = .ok (.iaload, 1) := by decide +kernel
theorem d_L_law_298 : decode b_L_law 298 = .ok (.aload_n 0, 1) := by decide +kernel
theorem d_L_law_299 : decode b_L_law 299 = .ok (.iload 4, 2) := by decide +kernel
theorem d_L_law_301 : decode b_L_law 301 = .ok (.iconst 3, 1) := by decide +kernel
theorem d_L_law_302 : decode b_L_law 302 = .ok (.iadd, 1) := by decide +kernel
theorem d_L_law_303 : decode b_L_law 303 = .ok (.iaload, 1) := by decide +kernel
theorem d_L_law_304 : decode b_L_law 304 = .ok (.i2l, 1) := by decide +kernel
theorem d_L_law_305 : decode b_L_law 305 = .ok (.bipush 32, 2) := by decide +kernel
theorem d_L_law_307 : decode b_L_law 307 = .ok (.lshl, 1) := by decide +kernel
theorem d_L_law_308 : decode b_L_law 308 = .ok (.aload_n 0, 1) := by decide +kernel
theorem d_L_law_309 : decode b_L_law 309 = .ok (.iload 4, 2) := by decide +kernel
theorem d_L_law_311 : decode b_L_law 311 = .ok (.iconst 4, 1) := by decide +kernel
theorem d_L_law_312 : decode b_L_law 312 = .ok (.iadd, 1) := by decide +kernel
theorem d_L_law_313 : decode b_L_law 313 = .ok (.iaload, 1) := by decide +kernel
theorem d_L_law_314 : decode b_L_law 314 = .ok (.i2l, 1) := by decide +kernel
theorem d_L_law_315 : decode b_L_law 315 = .ok (.ldc2_w 68, 3) := by decide +kernel
theorem d_L_law_318 : decode b_L_law 318 = .ok (.land, 1) := by decide +kernel
theorem d_L_law_319 : decode b_L_law 319 = .ok (.lor, 1) := by decide +kernel
theorem d_L_law_320 : decode b_L_law 320 = .ok (.aload_n 0, 1) := by decide +kernel
theorem d_L_law_321 : decode b_L_law 321 = .ok (.iload 4, 2) := by decide +kernel
theorem d_L_law_323 : decode b_L_law 323 = .ok (.iconst 5, 1) := by decide +kernel
theorem d_L_law_324 : decode b_L_law 324 = .ok (.iadd, 1) := by decide +kernel
theorem d_L_law_325 : decode b_L_law 325 = .ok (.iaload, 1) := by decide +kernel
theorem d_L_law_326 : decode b_L_law 326 = .ok (.aload_n 3, 1) := by decide +kernel
theorem d_L_law_327 : decode b_L_law 327 = .ok (.invokestatic 70, 3) := by decide +kernel
theorem d_L_law_330 : decode b_L_law 330 = .ok (.istore 5, 2) := by decide +kernel
theorem d_L_law_332 : decode b_L_law 332 = .ok (.aload_n 2, 1) := by decide +kernel
theorem d_L_law_333 : decode b_L_law 333 = .ok (.aload_n 0, 1) := by decide +kernel
theorem d_L_law_334 : decode b_L_law 334 = .ok (.iload 4, 2) := by decide +kernel
theorem d_L_law_336 : decode b_L_law 336 = .ok (.iconst 1, 1) := by decide +kernel
theorem d_L_law_337 : decode b_L_law 337 = .ok (.iadd, 1) := by decide +kernel
theorem d_L_law_338 : decode b_L_law 338 = .ok (.iaload, 1) := by decide +kernel
theorem d_L_law_339 : decode b_L_law 339 = .ok (.aload_n 0, 1) := by decide +kernel
theorem d_L_law_340 : decode b_L_law 340 = .ok (.iload 4, 2) := by decide +kernel
theorem d_L_law_342 : decode b_L_law 342 = .ok (.iconst 2, 1) := by decide +kernel
theorem d_L_law_343 : decode b_L_law 343 = .ok (.iadd, 1) := by decide +kernel
theorem d_L_law_344 : decode b_L_law 344 = .ok (.iaload, 1) := by decide +kernel
theorem d_L_law_345 : decode b_L_law 345 = .ok (.aload_n 0, 1) := by decide +kernel
theorem d_L_law_346 : decode b_L_law 346 = .ok (.iload 4, 2) := by decide +kernel
theorem d_L_law_348 : decode b_L_law 348 = .ok (.iconst 3, 1) := by decide +kernel
theorem d_L_law_349 : decode b_L_law 349 = .ok (.iadd, 1) := by decide +kernel
theorem d_L_law_350 : decode b_L_law 350 = .ok (.iaload, 1) := by decide +kernel
theorem d_L_law_351 : decode b_L_law 351 = .ok (.i2l, 1) := by decide +kernel
theorem d_L_law_352 : decode b_L_law 352 = .ok (.bipush 32, 2) := by decide +kernel
theorem d_L_law_354 : decode b_L_law 354 = .ok (.lshl, 1) := by decide +kernel
theorem d_L_law_355 : decode b_L_law 355 = .ok (.aload_n 0, 1) := by decide +kernel
theorem d_L_law_356 : decode b_L_law 356 = .ok (.iload 4, 2) := by decide +kernel
theorem d_L_law_358 : decode b_L_law 358 = .ok (.iconst 4, 1) := by decide +kernel
theorem d_L_law_359 : decode b_L_law 359 = .ok (.iadd, 1) := by decide +kernel
theorem d_L_law_360 : decode b_L_law 360 = .ok (.iaload, 1) := by decide +kernel
theorem d_L_law_361 : decode b_L_law 361 = .ok (.i2l, 1) := by decide +kernel
theorem d_L_law_362 : decode b_L_law 362 = .ok (.ldc2_w 68, 3) := by decide +kernel
theorem d_L_law_365 : decode b_L_law 365 = .ok (.land, 1) := by decide +kernel
theorem d_L_law_366 : decode b_L_law 366 = .ok (.lor, 1) := by decide +kernel
theorem d_L_law_367 : decode b_L_law 367 = .ok (.aload_n 0, 1) := by decide +kernel
theorem d_L_law_368 : decode b_L_law 368 = .ok (.iload 4, 2) := by decide +kernel
theorem d_L_law_370 : decode b_L_law 370 = .ok (.iconst 5, 1) := by decide +kernel
theorem d_L_law_371 : decode b_L_law 371 = .ok (.iadd, 1) := by decide +kernel
theorem d_L_law_372 : decode b_L_law 372 = .ok (.iaload, 1) := by decide +kernel
theorem d_L_law_373 : decode b_L_law 373 = .ok (.invokevirtual 73, 3) := by decide +kernel
theorem d_L_law_376 : decode b_L_law 376 = .ok (.istore 6, 2) := by decide +kernel
theorem d_L_law_378 : decode b_L_law 378 = .ok (.aload_n 2, 1) := by decide +kernel
theorem d_L_law_379 : decode b_L_law 379 = .ok (.invokevirtual 57, 3) := by decide +kernel
theorem d_L_law_382 : decode b_L_law 382 = .ok (.iload 5, 2) := by decide +kernel
theorem d_L_law_384 : decode b_L_law 384 = .ok (.if_icmp .eq 5, 3) := by decide +kernel
theorem d_L_law_387 : decode b_L_law 387 = .ok (.iconst 0, 1) := by decide +kernel
theorem d_L_law_388 : decode b_L_law 388 = .ok (.ireturn, 1) := by decide +kernel
theorem d_L_law_389 : decode b_L_law 389 = .ok (.iload 5, 2) := by decide +kernel
theorem d_L_law_391 : decode b_L_law 391 = .ok (.ifCond .ne 15, 3) := by decide +kernel
theorem d_L_law_394 : decode b_L_law 394 = .ok (.aload_n 3, 1) := by decide +kernel
theorem d_L_law_395 : decode b_L_law 395 = .ok (.iconst 0, 1) := by decide +kernel
theorem d_L_law_396 : decode b_L_law 396 = .ok (.laload, 1) := by decide +kernel
theorem d_L_law_397 : decode b_L_law 397 = .ok (.iload 6, 2) := by decide +kernel
theorem d_L_law_399 : decode b_L_law 399 = .ok (.i2l, 1) := by decide +kernel
theorem d_L_law_400 : decode b_L_law 400 = .ok (.lcmp, 1) := by decide +kernel
theorem d_L_law_401 : decode b_L_law 401 = .ok (.ifCond .eq 5, 3) := by decide +kernel
theorem d_L_law_404 : decode b_L_law 404 = .ok (.iconst 0, 1) := by decide +kernel
theorem d_L_law_405 : decode b_L_law 405 = .ok (.ireturn, 1) := by decide +kernel
theorem d_L_law_406 : decode b_L_law 406 = .ok (.goto 229, 3) := by decide +kernel
theorem d_L_law_409 : decode b_L_law 409 = .ok (.aload_n 1, 1) := by decide +kernel
theorem d_L_law_410 : decode b_L_law 410 = .ok (.aload_n 0, 1) := by decide +kernel
theorem d_L_law_411 : decode b_L_law 411 = .ok (.iload 4, 2) := by decide +kernel
theorem d_L_law_413 : decode b_L_law 413 = .ok (.iconst 1, 1) := by decide +kernel
theorem d_L_law_414 : decode b_L_law 414 = .ok (.iadd, 1) := by decide +kernel
theorem d_L_law_415 : decode b_L_law 415 = .ok (.iaload, 1) := by decide +kernel
theorem d_L_law_416 : decode b_L_law 416 = .ok (.aload_n 0, 1) := by decide +kernel
theorem d_L_law_417 : decode b_L_law 417 = .ok (.iload 4, 2) := by decide +kernel
theorem d_L_law_419 : decode b_L_law 419 = .ok (.iconst 2, 1) := by decide +kernel
theorem d_L_law_420 : decode b_L_law 420 = .ok (.iadd, 1) := by decide +kernel
theorem d_L_law_421 : decode b_L_law 421 = .ok (.iaload, 1) := by decide +kernel
theorem d_L_law_422 : decode b_L_law 422 = .ok (.aload_n 0, 1) := by decide +kernel
theorem d_L_law_423 : decode b_L_law 423 = .ok (.iload 4, 2) := by decide +kernel
theorem d_L_law_425 : decode b_L_law 425 = .ok (.iconst 3, 1) := by decide +kernel
theorem d_L_law_426 : decode b_L_law 426 = .ok (.iadd, 1) := by decide +kernel
theorem d_L_law_427 : decode b_L_law 427 = .ok (.iaload, 1) := by decide +kernel
theorem d_L_law_428 : decode b_L_law 428 = .ok (.ifCond .eq 7, 3) := by decide +kernel
theorem d_L_law_431 : decode b_L_law 431 = .ok (.iconst 1, 1) := by decide +kernel
theorem d_L_law_432 : decode b_L_law 432 = .ok (.goto 4, 3) := by decide +kernel
theorem d_L_law_435 : decode b_L_law 435 = .ok (.iconst 0, 1) := by decide +kernel
theorem d_L_law_436 : decode b_L_law 436 = .ok (.aload_n 3, 1) := by decide +kernel
theorem d_L_law_437 : decode b_L_law 437 = .ok (.invokestatic 74, 3) := by decide +kernel
theorem d_L_law_440 : decode b_L_law 440 = .ok (.istore 5, 2) := by decide +kernel
theorem d_L_law_442 : decode b_L_law 442 = .ok (.aload_n 2, 1) := by decide +kernel
theorem d_L_law_443 : decode b_L_law 443 = .ok (.aload_n 0, 1) := by decide +kernel
theorem d_L_law_444 : decode b_L_law 444 = .ok (.iload 4, 2) := by decide +kernel
theorem d_L_law_446 : decode b_L_law 446 = .ok (.iconst 1, 1) := by decide +kernel
theorem d_L_law_447 : decode b_L_law 447 = .ok (.iadd, 1) := by decide +kernel
theorem d_L_law_448 : decode b_L_law 448 = .ok (.iaload, 1) := by decide +kernel
theorem d_L_law_449 : decode b_L_law 449 = .ok (.aload_n 0, 1) := by decide +kernel
theorem d_L_law_450 : decode b_L_law 450 = .ok (.iload 4, 2) := by decide +kernel
theorem d_L_law_452 : decode b_L_law 452 = .ok (.iconst 2, 1) := by decide +kernel
theorem d_L_law_453 : decode b_L_law 453 = .ok (.iadd, 1) := by decide +kernel
theorem d_L_law_454 : decode b_L_law 454 = .ok (.iaload, 1) := by decide +kernel
theorem d_L_law_455 : decode b_L_law 455 = .ok (.aload_n 0, 1) := by decide +kernel
theorem d_L_law_456 : decode b_L_law 456 = .ok (.iload 4, 2) := by decide +kernel
theorem d_L_law_458 : decode b_L_law 458 = .ok (.iconst 3, 1) := by decide +kernel
theorem d_L_law_459 : decode b_L_law 459 = .ok (.iadd, 1) := by decide +kernel
theorem d_L_law_460 : decode b_L_law 460 = .ok (.iaload, 1) := by decide +kernel
theorem d_L_law_461 : decode b_L_law 461 = .ok (.ifCond .eq 7, 3) := by decide +kernel
theorem d_L_law_464 : decode b_L_law 464 = .ok (.iconst 1, 1) := by decide +kernel
theorem d_L_law_465 : decode b_L_law 465 = .ok (.goto 4, 3) := by decide +kernel
theorem d_L_law_468 : decode b_L_law 468 = .ok (.iconst 0, 1) := by decide +kernel
theorem d_L_law_469 : decode b_L_law 469 = .ok (.invokevirtual 77, 3) := by decide +kernel
theorem d_L_law_472 : decode b_L_law 472 = .ok (.lstore 6, 2) := by decide +kernel
theorem d_L_law_474 : decode b_L_law 474 = .ok (.aload_n 2, 1) := by decide +kernel
theorem d_L_law_475 : decode b_L_law 475 = .ok (.invokevirtual 57, 3) := by decide +kernel
theorem d_L_law_478 : decode b_L_law 478 = .ok (.iload 5, 2) := by decide +kernel
theorem d_L_law_480 : decode b_L_law 480 = .ok (.if_icmp .eq 5, 3) := by decide +kernel
theorem d_L_law_483 : decode b_L_law 483 = .ok (.iconst 0, 1) := by decide +kernel
theorem d_L_law_484 : decode b_L_law 484 = .ok (.ireturn, 1) := by decide +kernel
theorem d_L_law_485 : decode b_L_law 485 = .ok (.iload 5, 2) := by decide +kernel
theorem d_L_law_487 : decode b_L_law 487 = .ok (.ifCond .ne 14, 3) := by decide +kernel
theorem d_L_law_490 : decode b_L_law 490 = .ok (.aload_n 3, 1) := by decide +kernel
theorem d_L_law_491 : decode b_L_law 491 = .ok (.iconst 0, 1) := by decide +kernel
theorem d_L_law_492 : decode b_L_law 492 = .ok (.laload, 1) := by decide +kernel
theorem d_L_law_493 : decode b_L_law 493 = .ok (.lload 6, 2) := by decide +kernel
theorem d_L_law_495 : decode b_L_law 495 = .ok (.lcmp, 1) := by decide +kernel
theorem d_L_law_496 : decode b_L_law 496 = .ok (.ifCond .eq 5, 3) := by decide +kernel
theorem d_L_law_499 : decode b_L_law 499 = .ok (.iconst 0, 1) := by decide +kernel
theorem d_L_law_500 : decode b_L_law 500 = .ok (.ireturn, 1) := by decide +kernel
theorem d_L_law_501 : decode b_L_law 501 = .ok (.goto 134, 3) := by decide +kernel
theorem d_L_law_504 : decode b_L_law 504 = .ok (.aload_n 1, 1) := by decide +kernel
theorem d_L_law_505 : decode b_L_law 505 = .ok (.aload_n 0, 1) := by decide +kernel
theorem d_L_law_506 : decode b_L_law 506 = .ok (.iload 4, 2) := by decide +kernel
theorem d_L_law_508 : decode b_L_law 508 = .ok (.iconst 1, 1) := by decide +kernel
theorem d_L_law_509 : decode b_L_law 509 = .ok (.iadd, 1) := by decide +kernel
theorem d_L_law_510 : decode b_L_law 510 = .ok (.iaload, 1) := by decide +kernel
theorem d_L_law_511 : decode b_L_law 511 = .ok (.aload_n 0, 1) := by decide +kernel
theorem d_L_law_512 : decode b_L_law 512 = .ok (.iload 4, 2) := by decide +kernel
theorem d_L_law_514 : decode b_L_law 514 = .ok (.iconst 2, 1) := by decide +kernel
theorem d_L_law_515 : decode b_L_law 515 = .ok (.iadd, 1) := by decide +kernel
theorem d_L_law_516 : decode b_L_law 516 = .ok (.iaload, 1) := by decide +kernel
theorem d_L_law_517 : decode b_L_law 517 = .ok (.aload_n 3, 1) := by decide +kernel
theorem d_L_law_518 : decode b_L_law 518 = .ok (.invokestatic 78, 3) := by decide +kernel
theorem d_L_law_521 : decode b_L_law 521 = .ok (.istore 5, 2) := by decide +kernel
theorem d_L_law_523 : decode b_L_law 523 = .ok (.aload_n 2, 1) := by decide +kernel
theorem d_L_law_524 : decode b_L_law 524 = .ok (.aload_n 0, 1) := by decide +kernel
theorem d_L_law_525 : decode b_L_law 525 = .ok (.iload 4, 2) := by decide +kernel
theorem d_L_law_527 : decode b_L_law 527 = .ok (.iconst 1, 1) := by decide +kernel
theorem d_L_law_528 : decode b_L_law 528 = .ok (.iadd, 1) := by decide +kernel
theorem d_L_law_529 : decode b_L_law 529 = .ok (.iaload, 1) := by decide +kernel
theorem d_L_law_530 : decode b_L_law 530 = .ok (.aload_n 0, 1) := by decide +kernel
theorem d_L_law_531 : decode b_L_law 531 = .ok (.iload 4, 2) := by decide +kernel
theorem d_L_law_533 : decode b_L_law 533 = .ok (.iconst 2, 1) := by decide +kernel
theorem d_L_law_534 : decode b_L_law 534 = .ok (.iadd, 1) := by decide +kernel
theorem d_L_law_535 : decode b_L_law 535 = .ok (.iaload, 1) := by decide +kernel
theorem d_L_law_536 : decode b_L_law 536 = .ok (.invokevirtual 80, 3) := by decide +kernel
theorem d_L_law_539 : decode b_L_law 539 = .ok (.istore 6, 2) := by decide +kernel
theorem d_L_law_541 : decode b_L_law 541 = .ok (.aload_n 2, 1) := by decide +kernel
theorem d_L_law_542 : decode b_L_law 542 = .ok (.invokevirtual 57, 3) := by decide +kernel
theorem d_L_law_545 : decode b_L_law 545 = .ok (.iload 5, 2) := by decide +kernel
theorem d_L_law_547 : decode b_L_law 547 = .ok (.if_icmp .eq 5, 3) := by decide +kernel
theorem d_L_law_550 : decode b_L_law 550 = .ok (.iconst 0, 1) := by decide +kernel
theorem d_L_law_551 : decode b_L_law 551 = .ok (.ireturn, 1) := by decide +kernel
theorem d_L_law_552 : decode b_L_law 552 = .ok (.iload 5, 2) := by decide +kernel
theorem d_L_law_554 : decode b_L_law 554 = .ok (.ifCond .ne 22, 3) := by decide +kernel
theorem d_L_law_557 : decode b_L_law 557 = .ok (.aload_n 3, 1) := by decide +kernel
theorem d_L_law_558 : decode b_L_law 558 = .ok (.iconst 0, 1) := by decide +kernel
theorem d_L_law_559 : decode b_L_law 559 = .ok (.laload, 1) := by decide +kernel
theorem d_L_law_560 : decode b_L_law 560 = .ok (.iload 6, 2) := by decide +kernel
theorem d_L_law_562 : decode b_L_law 562 = .ok (.ifCond .eq 7, 3) := by decide +kernel
theorem d_L_law_565 : decode b_L_law 565 = .ok (.lconst 1, 1) := by decide +kernel
theorem d_L_law_566 : decode b_L_law 566 = .ok (.goto 4, 3) := by decide +kernel
theorem d_L_law_569 : decode b_L_law 569 = .ok (.lconst 0, 1) := by decide +kernel
theorem d_L_law_570 : decode b_L_law 570 = .ok (.lcmp, 1) := by decide +kernel
theorem d_L_law_571 : decode b_L_law 571 = .ok (.ifCond .eq 5, 3) := by decide +kernel
theorem d_L_law_574 : decode b_L_law 574 = .ok (.iconst 0, 1) := by decide +kernel
theorem d_L_law_575 : decode b_L_law 575 = .ok (.ireturn, 1) := by decide +kernel
theorem d_L_law_576 : decode b_L_law 576 = .ok (.goto 59, 3) := by decide +kernel
theorem d_L_law_579 : decode b_L_law 579 = .ok (.aload_n 1, 1) := by decide +kernel
theorem d_L_law_580 : decode b_L_law 580 = .ok (.aload_n 0, 1) := by decide +kernel
theorem d_L_law_581 : decode b_L_law 581 = .ok (.iload 4, 2) := by decide +kernel
theorem d_L_law_583 : decode b_L_law 583 = .ok (.iconst 1, 1) := by decide +kernel
theorem d_L_law_584 : decode b_L_law 584 = .ok (.iadd, 1) := by decide +kernel
theorem d_L_law_585 : decode b_L_law 585 = .ok (.iaload, 1) := by decide +kernel
theorem d_L_law_586 : decode b_L_law 586 = .ok (.aload_n 3, 1) := by decide +kernel
theorem d_L_law_587 : decode b_L_law 587 = .ok (.invokestatic 81, 3) := by decide +kernel
theorem d_L_law_590 : decode b_L_law 590 = .ok (.istore 5, 2) := by decide +kernel
theorem d_L_law_592 : decode b_L_law 592 = .ok (.aload_n 2, 1) := by decide +kernel
theorem d_L_law_593 : decode b_L_law 593 = .ok (.aload_n 0, 1) := by decide +kernel
theorem d_L_law_594 : decode b_L_law 594 = .ok (.iload 4, 2) := by decide +kernel
theorem d_L_law_596 : decode b_L_law 596 = .ok (.iconst 1, 1) := by decide +kernel
theorem d_L_law_597 : decode b_L_law 597 = .ok (.iadd, 1) := by decide +kernel
theorem d_L_law_598 : decode b_L_law 598 = .ok (.iaload, 1) := by decide +kernel
theorem d_L_law_599 : decode b_L_law 599 = .ok (.invokevirtual 84, 3) := by decide +kernel
theorem d_L_law_602 : decode b_L_law 602 = .ok (.istore 6, 2) := by decide +kernel
theorem d_L_law_604 : decode b_L_law 604 = .ok (.aload_n 2, 1) := by decide +kernel
theorem d_L_law_605 : decode b_L_law 605 = .ok (.invokevirtual 57, 3) := by decide +kernel
theorem d_L_law_608 : decode b_L_law 608 = .ok (.iload 5, 2) := by decide +kernel
theorem d_L_law_610 : decode b_L_law 610 = .ok (.if_icmp .eq 5, 3) := by decide +kernel
theorem d_L_law_613 : decode b_L_law 613 = .ok (.iconst 0, 1) := by decide +kernel
theorem d_L_law_614 : decode b_L_law 614 = .ok (.ireturn, 1) := by decide +kernel
theorem d_L_law_615 : decode b_L_law 615 = .ok (.iload 5, 2) := by decide +kernel
theorem d_L_law_617 : decode b_L_law 617 = .ok (.ifCond .ne 15, 3) := by decide +kernel
theorem d_L_law_620 : decode b_L_law 620 = .ok (.aload_n 3, 1) := by decide +kernel
theorem d_L_law_621 : decode b_L_law 621 = .ok (.iconst 0, 1) := by decide +kernel
theorem d_L_law_622 : decode b_L_law 622 = .ok (.laload, 1) := by decide +kernel
theorem d_L_law_623 : decode b_L_law 623 = .ok (.iload 6, 2) := by decide +kernel
theorem d_L_law_625 : decode b_L_law 625 = .ok (.i2l, 1) := by decide +kernel
theorem d_L_law_626 : decode b_L_law 626 = .ok (.lcmp, 1) := by decide +kernel
theorem d_L_law_627 : decode b_L_law 627 = .ok (.ifCond .eq 5, 3) := by decide +kernel
theorem d_L_law_630 : decode b_L_law 630 = .ok (.iconst 0, 1) := by decide +kernel
theorem d_L_law_631 : decode b_L_law 631 = .ok (.ireturn, 1) := by decide +kernel
theorem d_L_law_632 : decode b_L_law 632 = .ok (.goto 3, 3) := by decide +kernel
theorem d_L_law_635 : decode b_L_law 635 = .ok (.iinc 4 6, 3) := by decide +kernel
theorem d_L_law_638 : decode b_L_law 638 = .ok (.goto (-615), 3) := by decide +kernel
theorem d_L_law_641 : decode b_L_law 641 = .ok (.iconst 1, 1) := by decide +kernel
theorem d_L_law_642 : decode b_L_law 642 = .ok (.ireturn, 1) := by decide +kernel
end
section
/-! what a state is: the cells of the class's object, of the reference's object; the surroundings; how they move -/
/-- a stretch of cells -/
def rg (n : Nat) (f : Nat → Nat × va_E) : va_W := (List.range n).map f
theorem rg_len (n : Nat) (f : Nat → Nat × va_E) : (rg n f).length = n := by simp [rg]
theorem rg_at {n : Nat} (f : Nat → Nat × va_E) {i : Nat} (h : i < n) : (rg n f)[i]? = some (f i) := by simp [rg, h]
theorem rg_set {n : Nat} {f : Nat → Nat × va_E} {i : Nat} {q : Nat × va_E} (g : Nat → Nat × va_E) (hg : ∀ j, g j = if j = i then q else f j) : (rg n f).set i q = rg n g := by
  apply List.ext_getElem?
  intro j
  by_cases hj : j = i
  · subst hj
    by_cases hl : j < n
    · rw [List.getElem?_set_self (by rw [rg_len]; exact hl), rg_at g hl, hg, if_pos rfl]
    · rw [List.getElem?_eq_none (by rw [List.length_set, rg_len]; omega), List.getElem?_eq_none (by rw [rg_len]; omega)]
  · rw [List.getElem?_set_ne (Ne.symm hj)]
    by_cases hl : j < n
    · rw [rg_at f hl, rg_at g hl, hg, if_neg hj]
    · rw [List.getElem?_eq_none (by rw [rg_len]; omega), List.getElem?_eq_none (by rw [rg_len]; omega)]
/-- the object of the class, its firsts, its states, and of each state the object, the values, the marks -/
abbrev WX (k : Nat → ClassId) (a : Nat → Nat) (d : Int32) (F : Nat → Int64) (V M : Nat → Nat → Int64) (R : Nat → Int32) : va_W :=
  (a 0, .inr (1, [.ref (a 1), .ref (a 2), .int d])) :: (a 1, .inl (k 0, 256, .inr (.inl F))) :: (a 2, .inl (k 1, 31, .inr (.inr (.inr (.inr (fun i => some (a (3 + i)))))))) ::
  (rg 31 (fun i => (a (3 + i), .inr (0, [.ref (a (34 + i)), .ref (a (65 + i)), .int (R i)]))) ++ (rg 31 (fun i => (a (34 + i), .inl (k 0, 256, .inr (.inl (V i))))) ++ rg 31 (fun i => (a (65 + i), .inl (k 0, 4, .inr (.inl (M i)))))))
theorem wx_s {k : Nat → ClassId} {a : Nat → Nat} {d : Int32} {F : Nat → Int64} {V M : Nat → Nat → Int64} {R : Nat → Int32} {i : Nat} (h : i < 31) : (WX k a d F V M R)[i + 3]? = some (a (3 + i), .inr (0, [.ref (a (34 + i)), .ref (a (65 + i)), .int (R i)])) := by
  show (rg 31 _ ++ _)[i]? = _
  rw [List.getElem?_append_left (by rw [rg_len]; exact h), rg_at _ h]
theorem wx_v {k : Nat → ClassId} {a : Nat → Nat} {d : Int32} {F : Nat → Int64} {V M : Nat → Nat → Int64} {R : Nat → Int32} {i : Nat} (h : i < 31) : (WX k a d F V M R)[i + 34]? = some (a (34 + i), .inl (k 0, 256, .inr (.inl (V i)))) := by
  show (rg 31 _ ++ (rg 31 _ ++ _))[i + 31]? = _
  rw [List.getElem?_append_right (by rw [rg_len]; omega), rg_len, Nat.add_sub_cancel, List.getElem?_append_left (by rw [rg_len]; exact h), rg_at _ h]
theorem wx_m {k : Nat → ClassId} {a : Nat → Nat} {d : Int32} {F : Nat → Int64} {V M : Nat → Nat → Int64} {R : Nat → Int32} {i : Nat} (h : i < 31) : (WX k a d F V M R)[i + 65]? = some (a (65 + i), .inl (k 0, 4, .inr (.inl (M i)))) := by
  show (rg 31 (fun i => (a (3 + i), .inr (0, [.ref (a (34 + i)), .ref (a (65 + i)), .int (R i)]))) ++ (rg 31 (fun i => (a (34 + i), .inl (k 0, 256, .inr (.inl (V i))))) ++ rg 31 (fun i => (a (65 + i), .inl (k 0, 4, .inr (.inl (M i)))))))[i + 62]? = _
  rw [List.getElem?_append_right (by rw [rg_len]; omega), rg_len, show i + 62 - 31 = i + 31 by omega, List.getElem?_append_right (by rw [rg_len]; omega), rg_len, Nat.add_sub_cancel, rg_at _ h]
theorem wx_setR {k : Nat → ClassId} {a : Nat → Nat} {d : Int32} {F : Nat → Int64} {V M : Nat → Nat → Int64} {R : Nat → Int32} {i : Nat} {r : Int32} (h : i < 31) : (WX k a d F V M R).set (i + 3) (a (3 + i), .inr (0, [.ref (a (34 + i)), .ref (a (65 + i)), .int r])) = WX k a d F V M (va_up R i r) := by
  show _ :: _ :: _ :: (rg 31 _ ++ _).set i _ = _
  rw [List.set_append_left _ _ (by rw [rg_len]; exact h), rg_set (fun j => (a (3 + j), .inr (0, [.ref (a (34 + j)), .ref (a (65 + j)), .int (va_up R i r j)]))) (fun j => by by_cases q : j = i <;> simp [va_up, q])]
theorem wx_setV {k : Nat → ClassId} {a : Nat → Nat} {d : Int32} {F : Nat → Int64} {V M : Nat → Nat → Int64} {R : Nat → Int32} {i : Nat} {f : Nat → Int64} (h : i < 31) : (WX k a d F V M R).set (i + 34) (a (34 + i), .inl (k 0, 256, .inr (.inl f))) = WX k a d F (va_up V i f) M R := by
  show _ :: _ :: _ :: (rg 31 _ ++ (rg 31 _ ++ _)).set (i + 31) _ = _
  rw [List.set_append_right _ _ (by rw [rg_len]; omega), rg_len, Nat.add_sub_cancel, List.set_append_left _ _ (by rw [rg_len]; exact h), rg_set (fun j => (a (34 + j), .inl (k 0, 256, .inr (.inl (va_up V i f j))))) (fun j => by by_cases q : j = i <;> simp [va_up, q])]
theorem wx_setM {k : Nat → ClassId} {a : Nat → Nat} {d : Int32} {F : Nat → Int64} {V M : Nat → Nat → Int64} {R : Nat → Int32} {i : Nat} {f : Nat → Int64} (h : i < 31) : (WX k a d F V M R).set (i + 65) (a (65 + i), .inl (k 0, 4, .inr (.inl f))) = WX k a d F V (va_up M i f) R := by
  show _ :: _ :: _ :: (rg 31 _ ++ (rg 31 _ ++ rg 31 _)).set (i + 62) _ = _
  rw [List.set_append_right _ _ (by rw [rg_len]; omega), rg_len, show i + 62 - 31 = i + 31 by omega, List.set_append_right _ _ (by rw [rg_len]; omega), rg_len, Nat.add_sub_cancel, rg_set (fun j => (a (65 + j), .inl (k 0, 4, .inr (.inl (va_up M i f j))))) (fun j => by by_cases q : j = i <;> simp [va_up, q])]
/-- the reference's object, its arrays, the rows of its two arrays of rows -/
abbrev WM (k : Nat → ClassId) (b : Nat → Nat) (f r d : Int32) (N F : Nat → Int64) (U KR : Nat → Int32) (K : Nat → Nat → Int64) (KT : Nat → Nat → Int32) : va_W :=
  (b 0, .inr (2, [.int f, .ref (b 1), .ref (b 2), .ref (b 3), .ref (b 4), .ref (b 5), .ref (b 6), .int r, .int d])) :: (b 1, .inl (k 2, 31, .inr (.inr (.inr (.inr (fun i => some (b (7 + i)))))))) :: (b 2, .inl (k 3, 31, .inr (.inr (.inr (.inr (fun i => some (b (38 + i)))))))) ::
  (b 3, .inl (k 4, 31, .inl KR)) :: (b 4, .inl (k 0, 256, .inr (.inl N))) :: (b 5, .inl (k 0, 256, .inr (.inl F))) :: (b 6, .inl (k 5, 256, .inl U)) ::
  (rg 31 (fun i => (b (7 + i), .inl (k 0, 256, .inr (.inl (K i))))) ++ rg 31 (fun i => (b (38 + i), .inl (k 5, 256, .inl (KT i)))))
theorem wm_k {k : Nat → ClassId} {b : Nat → Nat} {f r d : Int32} {N F : Nat → Int64} {U KR : Nat → Int32} {K : Nat → Nat → Int64} {KT : Nat → Nat → Int32} {i : Nat} (h : i < 31) : (WM k b f r d N F U KR K KT)[i + 7]? = some (b (7 + i), .inl (k 0, 256, .inr (.inl (K i)))) := by
  show (rg 31 _ ++ _)[i]? = _
  rw [List.getElem?_append_left (by rw [rg_len]; exact h), rg_at _ h]
theorem wm_t {k : Nat → ClassId} {b : Nat → Nat} {f r d : Int32} {N F : Nat → Int64} {U KR : Nat → Int32} {K : Nat → Nat → Int64} {KT : Nat → Nat → Int32} {i : Nat} (h : i < 31) : (WM k b f r d N F U KR K KT)[i + 38]? = some (b (38 + i), .inl (k 5, 256, .inl (KT i))) := by
  show (rg 31 _ ++ rg 31 _)[i + 31]? = _
  rw [List.getElem?_append_right (by rw [rg_len]; omega), rg_len, Nat.add_sub_cancel, rg_at _ h]
theorem wm_setK {k : Nat → ClassId} {b : Nat → Nat} {f r d : Int32} {N F : Nat → Int64} {U KR : Nat → Int32} {K : Nat → Nat → Int64} {KT : Nat → Nat → Int32} {i : Nat} {g : Nat → Int64} (h : i < 31) : (WM k b f r d N F U KR K KT).set (i + 7) (b (7 + i), .inl (k 0, 256, .inr (.inl g))) = WM k b f r d N F U KR (va_up K i g) KT := by
  show _ :: _ :: _ :: _ :: _ :: _ :: _ :: (rg 31 _ ++ _).set i _ = _
  rw [List.set_append_left _ _ (by rw [rg_len]; exact h), rg_set (fun j => (b (7 + j), .inl (k 0, 256, .inr (.inl (va_up K i g j))))) (fun j => by by_cases q : j = i <;> simp [va_up, q])]
theorem wm_setT {k : Nat → ClassId} {b : Nat → Nat} {f r d : Int32} {N F : Nat → Int64} {U KR : Nat → Int32} {K : Nat → Nat → Int64} {KT : Nat → Nat → Int32} {i : Nat} {g : Nat → Int32} (h : i < 31) : (WM k b f r d N F U KR K KT).set (i + 38) (b (38 + i), .inl (k 5, 256, .inl g)) = WM k b f r d N F U KR K (va_up KT i g) := by
  show _ :: _ :: _ :: _ :: _ :: _ :: _ :: (rg 31 _ ++ rg 31 _).set (i + 31) _ = _
  rw [List.set_append_right _ _ (by rw [rg_len]; omega), rg_len, Nat.add_sub_cancel, rg_set (fun j => (b (38 + j), .inl (k 5, 256, .inl (va_up KT i g j)))) (fun j => by by_cases q : j = i <;> simp [va_up, q])]
/-- worlds at the same places -/
theorem va_D.ad {A : Nat → Prop} {ws ws' : va_W} (h : va_D A ws) (e : ws'.map Prod.fst = ws.map Prod.fst) : va_D A ws' := by
  have key : ∀ (i : Nat) (q : Nat × va_E), ws'[i]? = some q → ∃ q0, ws[i]? = some q0 ∧ q0.1 = q.1 := by
    intro i q hq
    have h1 : (ws'.map Prod.fst)[i]? = some q.1 := by rw [List.getElem?_map, hq]; rfl
    rw [e, List.getElem?_map] at h1
    cases h2 : ws[i]? with
    | none => rw [h2] at h1; cases h1
    | some q0 => rw [h2] at h1; exact ⟨q0, rfl, Option.some.inj h1⟩
  refine ⟨fun i j x y hi hj hxy => ?_, fun i q hq => ?_⟩
  · obtain ⟨x0, h1, h2⟩ := key i x hi
    obtain ⟨y0, h3, h4⟩ := key j y hj
    exact h.1 i j x0 y0 h1 h3 (h2.trans (hxy.trans h4.symm))
  · obtain ⟨q0, h1, h2⟩ := key i q hq
    rw [← h2]
    exact h.2 i q0 h1
theorem wx_ad {k : Nat → ClassId} {a : Nat → Nat} {d d' : Int32} {F F' : Nat → Int64} {V M V' M' : Nat → Nat → Int64} {R R' : Nat → Int32} : (WX k a d F V M R).map Prod.fst = (WX k a d' F' V' M' R').map Prod.fst := by
  simp only [List.map_cons, List.map_append, rg, List.map_map]
  rfl
theorem wm_ad {k : Nat → ClassId} {b : Nat → Nat} {f r d f' r' d' : Int32} {N F N' F' : Nat → Int64} {U KR U' KR' : Nat → Int32} {K K' : Nat → Nat → Int64} {KT KT' : Nat → Nat → Int32} : (WM k b f r d N F U KR K KT).map Prod.fst = (WM k b f' r' d' N' F' U' KR' K' KT').map Prod.fst := by
  simp only [List.map_cons, List.map_append, rg, List.map_map]
  rfl
/-- a world within a larger one: cut out, and put back at the same places -/
theorem cut_P {D : va_G} {cl : List vw_C} {a w b : va_W} {H : Heap} (h : va_P D cl (a ++ (w ++ b)) H) : va_P D cl w H := fun k q hk => by
  have hl := (List.getElem?_eq_some_iff.mp hk).1
  refine h (a.length + k) q ?_
  rw [List.getElem?_append_right (by omega), Nat.add_sub_cancel_left, List.getElem?_append_left hl]
  exact hk
theorem cut_D {A : Nat → Prop} {a w b : va_W} (h : va_D A (a ++ (w ++ b))) : va_D A w := by
  have key : ∀ (k : Nat) (q : Nat × va_E), w[k]? = some q → (a ++ (w ++ b))[a.length + k]? = some q := fun k q hk => by
    have hl := (List.getElem?_eq_some_iff.mp hk).1
    rw [List.getElem?_append_right (by omega), Nat.add_sub_cancel_left, List.getElem?_append_left hl]
    exact hk
  exact ⟨fun i j x y hi hj hxy => by have := h.1 _ _ x y (key i x hi) (key j y hj) hxy; omega, fun k q hk => h.2 _ q (key k q hk)⟩
theorem cut_F {A0 : Nat → Prop} {w : va_W} {H0 H : Heap} {locs : List Loc} (hD : va_D A0 w) (hS : va_S A0 H0 H locs) (hA : ∀ q, H0.size ≤ q → A0 q) : ∀ q, va_A w H.size q → A0 q := by
  intro q h
  rcases h with ⟨k, e, h⟩ | h
  · exact hD.2 k (q, e) h
  · exact hA q (Nat.le_trans hS.1 h)
theorem cut_J {A0 : Nat → Prop} {D : va_G} {cl : List vw_C} {a w b w1 : va_W} {H H1 : Heap} (hP : va_P D cl (a ++ (w ++ b)) H) (hD : va_D A0 (a ++ (w ++ b))) (hk : ∀ q : Nat, q < H.size → ¬ va_A w H.size q → H1[q]? = H[q]?) (hP1 : va_P D cl w1 H1) (e : w1.map Prod.fst = w.map Prod.fst) :
    va_P D cl (a ++ (w1 ++ b)) H1 ∧ va_D A0 (a ++ (w1 ++ b)) := by
  have hlen : w1.length = w.length := by
    have := congrArg List.length e
    simpa using this
  have hin : ∀ (i : Nat) (q : Nat × va_E), w[i]? = some q → (a ++ (w ++ b))[a.length + i]? = some q := fun k q hk => by
    have hl := (List.getElem?_eq_some_iff.mp hk).1
    rw [List.getElem?_append_right (by omega), Nat.add_sub_cancel_left, List.getElem?_append_left hl]
    exact hk
  have keep : ∀ (i : Nat) (q : Nat × va_E), (i < a.length ∨ a.length + w.length ≤ i) → (a ++ (w ++ b))[i]? = some q → va_at D cl q H1 := by
    intro i q hi hq
    have hat := hP i q hq
    refine hat.kept (hk q.1 hat.lt (fun hA => ?_))
    rcases hA with ⟨j, x, hj⟩ | hA
    · have hjl := (List.getElem?_eq_some_iff.mp hj).1
      have := hD.1 i (a.length + j) q (q.1, x) hq (hin j _ hj) rfl
      omega
    · have := hat.lt
      omega
  refine ⟨fun i q hq => ?_, hD.ad (by simp only [List.map_append, e])⟩
  by_cases h1 : i < a.length
  · rw [List.getElem?_append_left h1] at hq
    exact keep i q (Or.inl h1) (by rw [List.getElem?_append_left h1]; exact hq)
  · rw [List.getElem?_append_right (by omega)] at hq
    by_cases h2 : i - a.length < w1.length
    · rw [List.getElem?_append_left h2] at hq
      exact hP1 _ q hq
    · rw [List.getElem?_append_right (by omega)] at hq
      refine keep i q (Or.inr (by omega)) ?_
      rw [List.getElem?_append_right (by omega), List.getElem?_append_right (by omega), ← hlen]
      exact hq
/-- the surroundings: links between nest mates, texts, the two statics of Throwable -/
theorem NB_warm {s U : State} (hW : s.WarmedH U.vm) : ∀ w ∈ NB, va_Nw w s → va_Nw w U := by
  intro w hw h
  simp only [NB, List.mem_cons, List.not_mem_nil, or_false] at hw
  rcases hw with rfl | rfl | rfl | rfl | rfl | rfl | rfl | rfl | rfl | rfl | rfl | rfl | rfl | rfl | rfl <;> first | exact va_Nw.warmM hW h | exact va_Nw.warmF hW h | exact va_Nw.warmC hW h | exact va_Nw.warmD hW h
def EV (A : Nat → Prop) (U : State) : Prop := (∀ w ∈ NB, va_Nw w U) ∧ (∃ q, vk_R RX 46 "too many messages are open" q U) ∧ (∃ q, vk_R RX 53 "no message is open" q U) ∧ (∃ q, vk_R RX 75 "not enough gas" q U) ∧ (∃ q, vk_R RX 88 "what is not 0 to 3" q U) ∧ (∃ q, vk_R RX 91 "no such owner or place" q U) ∧
  vx_Zq Bundle.tN "UNASSIGNED_STACK" Bundle.steD A U U.heap ∧ vx_Zq Bundle.tN "SUPPRESSED_SENTINEL" Bundle.listD A U U.heap ∧ va_Nc EISE EIAE U
theorem EV.moved {A B : Nat → Prop} {s U : State} (h : EV A s) (hW : s.WarmedH U.vm) (hk : ∀ q : Nat, q < s.heap.size → ¬ A q → U.heap[q]? = s.heap[q]?) (hAB : ∀ q, B q → A q) : EV B U := by
  obtain ⟨h1, ⟨q2, h2⟩, ⟨q3, h3⟩, ⟨q4, h4⟩, ⟨q5, h5⟩, ⟨q6, h6⟩, h7, h8, h9⟩ := h
  exact ⟨fun w hw => NB_warm hW w hw (h1 w hw), ⟨q2, h2.warm hW⟩, ⟨q3, h3.warm hW⟩, ⟨q4, h4.warm hW⟩, ⟨q5, h5.warm hW⟩, ⟨q6, h6.warm hW⟩, ((h7.moved hW.alike).kept hk).narrow hAB, ((h8.moved hW.alike).kept hk).narrow hAB, h9.moved hW.alike⟩
abbrev tyL (k : Nat → ClassId) : List (ClassId × FieldType) := [(k 0, .long), (k 1, .object RS), (k 2, .array .long), (k 3, .array .boolean), (k 4, .int), (k 5, .boolean)]
/-- where a method begins: its world, the tables, the surroundings -/
def PW (D : va_G) (k : Nat → ClassId) (ws : va_W) (sz : Nat) (U : State) : Prop := U.heap.size = sz ∧ va_P D wCl ws U.heap ∧ va_K D wCl (tyL k) U ∧ va_D (fun _ => True) ws ∧ EV (va_A ws sz) U
theorem PW.bl {D : va_G} {k : Nat → ClassId} {ws : va_W} {sz : Nat} {av : List Value} : FrameBlind (va_Pc av (PW D k ws sz)) := by
  intro a U g mk q
  obtain ⟨q0, q1, qP, qK, qD, qE⟩ := q
  exact ⟨q0, q1, qP, va_K.moved (u := U) (U := U.calling g mk a) (Vm.Alike.refl U.vm) qK, qD, qE.moved (State.WarmedH.refl U) (fun _ _ _ => rfl) (fun _ h => h)⟩
theorem PW.go {D : va_G} {k : Nat → ClassId} {A : Nat → Prop} {ws : va_W} {H : Heap} {locs : List Loc} {s U : State} (hK : va_K D wCl (tyL k) s) (hP : va_P D wCl ws H) (hD : va_D A ws) (hS : va_S A s.heap H locs) (hA : ∀ q, s.heap.size ≤ q → A q) (hE : EV A s) (hU : U.heap = H) (hW : s.WarmedH U.vm) : PW D k ws H.size U :=
  ⟨by rw [hU], by rw [hU]; exact hP, va_K.moved hW.alike hK, hD.weaken (fun _ _ _ _ => trivial), hE.moved hW (fun q h1 h2 => by rw [hU]; exact hS.2.1 q h1 h2) (cut_F hD hS hA)⟩
end
section
theorem ts_bit {w : Int64} {s : UInt64} {j : Nat} (hj : j < 64) (hs : s.toNat = j) : ((w.toUInt64 >>> s).toInt64 &&& 1) = 0 ↔ w.toBitVec.getLsbD j = false := by
  have e : (w.toUInt64 >>> s).toInt64.toBitVec = w.toBitVec >>> j := by
    apply BitVec.eq_of_toNat_eq
    show (w.toUInt64 >>> s).toNat = _
    rw [UInt64.toNat_shiftRight, hs, Nat.mod_eq_of_lt hj, BitVec.toNat_ushiftRight]
    rfl
  rw [← Int64.toBitVec_inj, Int64.toBitVec_and, e]
  show w.toBitVec >>> j &&& 1#64 = 0#64 ↔ _
  constructor
  · intro h
    have t := congrArg (fun x => x.getLsbD 0) h
    simpa using t
  · intro h
    apply BitVec.eq_of_getLsbD_eq
    intro i hi
    cases i with
    | zero => simp [h]
    | succ i => simp
theorem ts_or {w m : Int64} {j : Nat} (hj : j < 64) (hm : m.toBitVec = BitVec.twoPow 64 j) : (w ||| m) = w ↔ w.toBitVec.getLsbD j = true := by
  rw [← Int64.toBitVec_inj, Int64.toBitVec_or, hm]
  constructor
  · intro h
    have t := congrArg (fun x => x.getLsbD j) h
    simp only [BitVec.getLsbD_or, BitVec.getLsbD_twoPow] at t
    simpa [hj] using t.symm
  · intro h
    apply BitVec.eq_of_getLsbD_eq
    intro i hi
    rw [BitVec.getLsbD_or, BitVec.getLsbD_twoPow]
    by_cases e : j = i
    · subst e; rw [h, Bool.true_or]
    · simp [e]
theorem wb_tb (n : Nat) : (lN n).toBitVec = BitVec.ofNat 64 n := rfl
theorem wb_inj {a b : Int64} (h : a.toBitVec = b.toBitVec) : a = b := Int64.toBitVec_inj.mp h
theorem wb_tn {n : Nat} (h : n < 2 ^ 64) : (lN n).toBitVec.toNat = n := by rw [wb_tb, BitVec.toNat_ofNat, Nat.mod_eq_of_lt h]
theorem wb_of (x : Int64) : ∃ n, n < 2 ^ 64 ∧ x = lN n := ⟨x.toBitVec.toNat, x.toBitVec.isLt, wb_inj (by rw [wb_tb]; simp)⟩
theorem wb_of32 (x : Int32) : ∃ n, n < 2 ^ 32 ∧ x = nI n := ⟨x.toBitVec.toNat, x.toBitVec.isLt, Int32.toBitVec_inj.mp (by show _ = BitVec.ofNat 32 _; simp)⟩
theorem wb_c : ∀ k, k < 64 → ((nI k).toInt64 &&& 63) = lN k := by decide +kernel
theorem wb_cu : ∀ k, k < 64 → ((nI k).toInt64.toUInt64 &&& Int64.toUInt64 63) = UInt64.ofNat k := by decide +kernel
theorem wb_sm : ∀ k, k < 64 → (BitVec.ofNat 64 k).smod 64 = BitVec.ofNat 64 k := by decide +kernel
theorem wb_pw {a b : Nat} (h : a ≤ b) : 2 ^ b = 2 ^ a * 2 ^ (b - a) := by rw [← Nat.pow_add]; congr 1; omega
theorem wb_lt2 {a b : Nat} (h : a < b) : 2 ^ a < 2 ^ b := Nat.pow_lt_pow_right (by decide) h
theorem wb_mod (n : Nat) : lN n = lN (n % 2 ^ 64) := wb_inj (by rw [wb_tb, wb_tb]; apply BitVec.eq_of_toNat_eq; rw [BitVec.toNat_ofNat, BitVec.toNat_ofNat, Nat.mod_mod])
theorem wb_shr {n k : Nat} (hn : n < 2 ^ 64) (hk : k < 64) : ((lN n).toUInt64 >>> ((nI k).toInt64.toUInt64 &&& Int64.toUInt64 63)).toInt64 = lN (n / 2 ^ k) := by
  rw [wb_cu k hk]
  apply wb_inj
  apply BitVec.eq_of_toNat_eq
  show ((lN n).toUInt64 >>> UInt64.ofNat k).toNat = (BitVec.ofNat 64 _).toNat
  have h1 : (UInt64.ofNat k).toNat = k := by
    show (BitVec.ofNat 64 k).toNat = k
    rw [BitVec.toNat_ofNat, Nat.mod_eq_of_lt (by omega)]
  have h2 : (lN n).toUInt64.toNat = n := wb_tn hn
  rw [UInt64.toNat_shiftRight, h1, h2, Nat.mod_eq_of_lt hk, Nat.shiftRight_eq_div_pow, BitVec.toNat_ofNat, Nat.mod_eq_of_lt (Nat.lt_of_le_of_lt (Nat.div_le_self _ _) hn)]
theorem wb_shl (n : Nat) {k : Nat} (hk : k < 64) : lN n <<< ((nI k).toInt64 &&& 63) = lN (n * 2 ^ k) := by
  rw [wb_c k hk]
  apply wb_inj
  rw [Int64.toBitVec_shiftLeft, wb_tb, wb_tb, wb_tb, wb_sm k hk]
  apply BitVec.eq_of_toNat_eq
  rw [BitVec.shiftLeft_eq', BitVec.toNat_shiftLeft, BitVec.toNat_ofNat, BitVec.toNat_ofNat, BitVec.toNat_ofNat, Nat.mod_eq_of_lt (show k < 2 ^ 64 by omega), Nat.shiftLeft_eq, Nat.mul_mod, Nat.mod_mod, ← Nat.mul_mod]
theorem wb_and {a b : Nat} (ha : a < 2 ^ 64) (hb : b < 2 ^ 64) : lN a &&& lN b = lN (a &&& b) := by
  apply wb_inj
  rw [Int64.toBitVec_and, wb_tb, wb_tb, wb_tb]
  apply BitVec.eq_of_toNat_eq
  rw [BitVec.toNat_and, BitVec.toNat_ofNat, BitVec.toNat_ofNat, BitVec.toNat_ofNat, Nat.mod_eq_of_lt ha, Nat.mod_eq_of_lt hb, Nat.mod_eq_of_lt (Nat.and_lt_two_pow _ hb)]
theorem wb_or {a b : Nat} (ha : a < 2 ^ 64) (hb : b < 2 ^ 64) : lN a ||| lN b = lN (a ||| b) := by
  apply wb_inj
  rw [Int64.toBitVec_or, wb_tb, wb_tb, wb_tb]
  apply BitVec.eq_of_toNat_eq
  rw [BitVec.toNat_or, BitVec.toNat_ofNat, BitVec.toNat_ofNat, BitVec.toNat_ofNat, Nat.mod_eq_of_lt ha, Nat.mod_eq_of_lt hb, Nat.mod_eq_of_lt (Nat.or_lt_two_pow ha hb)]
theorem wb_mask {n k : Nat} (hn : n < 2 ^ 64) (hk : k < 64) : lN n &&& lN (2 ^ k - 1) = lN (n % 2 ^ k) := by
  rw [wb_and hn (by have := wb_lt2 hk; omega), Nat.and_two_pow_sub_one_eq_mod]
theorem wb_a1 {n : Nat} (hn : n < 2 ^ 64) : lN n &&& 1 = lN (n % 2) := wb_mask (k := 1) hn (by decide)
theorem wb_bit {n k : Nat} (hn : n < 2 ^ 64) (hk : k < 64) : ((lN n).toUInt64 >>> ((nI k).toInt64.toUInt64 &&& Int64.toUInt64 63)).toInt64 &&& 1 = lN (n / 2 ^ k % 2) := by
  rw [wb_shr hn hk, wb_a1 (Nat.lt_of_le_of_lt (Nat.div_le_self _ _) hn)]
/-! pure methods -/
def fWC (o c b : Int64) : Int32 := if b = c then 100 else if o = c then (if o = 0 then 20000 else 2900) else 100
def fCC (o c b : Int64) : Int32 := if o = 0 then 0 else if c = 0 then -15000 else if b = 0 then 15000 else 0
def fRS (o b : Int64) : Int32 := if o = b then (if o = 0 then 19900 else 2800) else 0
def fRC (o c b : Int64) : Int32 := if b = c then 0 else if o = c then (if b = 0 then 15000 else 0) else fCC o c b + fRS o b
abbrev rA0 : Room := { frames := 0, cells := 0, slots := 0, locals := 0 }
abbrev rA1 : Room := { frames := 1, cells := 0, slots := 0, locals := 60 }

set_option maxHeartbeats 4000000 in
set_option maxRecDepth 100000 in
theorem m_X_cellOf (l : Launch) (o1 : Int32) (p1 : Int32) : Met l y_X_cellOf (w_X_cellOf :: TB) rA0 (fun v _ => v = ([.int o1, .int p1] : List Value).toArray) (vp_Si (fun r => r = o1 * 64 + p1)) 0 0 (fun _ => False) := by
  refine Met.ofW (cc := b_X_cellOf) (maxL := 2) (ret := some .int) (by decide) rfl ?_
  intro p e s m args below meth c s₁ B hml hv
  subst hv
  have hx := B.exec
  have hb := B.bytes
  have hr := B.returns
  have hts0 := atoms_spec (ws := w_X_cellOf :: TB) B.pre
  have hts := fun w (hw : w ∈ TB) => hts0 w (List.mem_cons_of_mem _ hw)
  have hown : s.vm.findClass RX = some m.cls := findClass_of_methodNamed B.named
  have hlocks := B.notSynchronized
  have hl := lv_entry ([.int o1, .int p1]) (n := 2) (Nat.le_of_ble_eq_true rfl)
  rw [lg_entry_eq]
  generalize (lg_sl ([.int o1, .int p1]) ++ List.replicate (2 - (lg_sl ([.int o1, .int p1])).length) Slot.unset).toArray = ls at hl ⊢
  have hl : lv_has ls 2 [(0, .int o1), (1, .int p1)] := hl
  refine lv_iload_n hx hb d_X_cellOf_0 rfl (lv_at hl 0 rfl) ?_
  refine lv_bipush (v := 64) hx hb d_X_cellOf_1 (by decide) ?_
  refine lv_imul hx hb d_X_cellOf_3 ?_
  refine lv_iload_n hx hb d_X_cellOf_4 rfl (lv_at hl 1 rfl) ?_
  refine lv_iadd hx hb d_X_cellOf_5 ?_
  exact W.iret (v := ((o1) * (64)) + (p1)) hx hb hr (fun t ht hW => ⟨_, rfl, rfl, ht⟩) (fun _ h => absurd h List.not_mem_nil) d_X_cellOf_6
set_option maxHeartbeats 4000000 in
set_option maxRecDepth 100000 in
theorem m_X_writeCost (l : Launch) (x1 : Int64) (x2 : Int64) (x3 : Int64) : Met l y_X_writeCost (w_X_writeCost :: TB) rA0 (fun v _ => v = ([.long x1, .long x2, .long x3] : List Value).toArray) (vp_Si (fun r => r = fWC x1 x2 x3)) 0 0 (fun _ => False) := by
  refine Met.ofW (cc := b_X_writeCost) (maxL := 6) (ret := some .int) (by decide) rfl ?_
  intro p e s m args below meth c s₁ B hml hv
  subst hv
  have hx := B.exec
  have hb := B.bytes
  have hr := B.returns
  have hts0 := atoms_spec (ws := w_X_writeCost :: TB) B.pre
  have hts := fun w (hw : w ∈ TB) => hts0 w (List.mem_cons_of_mem _ hw)
  have hown : s.vm.findClass RX = some m.cls := findClass_of_methodNamed B.named
  have hlocks := B.notSynchronized
  have hl := lv_entry ([.long x1, .long x2, .long x3]) (n := 6) (Nat.le_of_ble_eq_true rfl)
  rw [lg_entry_eq]
  generalize (lg_sl ([.long x1, .long x2, .long x3]) ++ List.replicate (6 - (lg_sl ([.long x1, .long x2, .long x3])).length) Slot.unset).toArray = ls at hl ⊢
  have hl : lv_has ls 6 [(0, .long x1), (2, .long x2), (4, .long x3)] := hl
  refine lv_lload hx hb d_X_writeCost_0 (lv_at hl 2 rfl) ?_
  refine lv_lload_n hx hb d_X_writeCost_2 rfl (lv_at hl 1 rfl) ?_
  refine W.lcmp hx hb d_X_writeCost_3 ?_
  refine lv_if_eq (tgt := 13) hx hb d_X_writeCost_4 (by decide) (fun c_4 => ?_) (fun c_4 => ?_)
  · have c_4 : x3 = x2 := (lg_cmp_eq _ _).mp c_4
    refine lv_bipush (v := 100) hx hb d_X_writeCost_13 (by decide) ?_
    exact W.iret (v := 100) hx hb hr (fun t ht hW => ⟨_, rfl, by (first | unfold fWC | unfold fCC | unfold fRS); (repeat' split) <;> first | rfl | contradiction, ht⟩) (fun _ h => absurd h List.not_mem_nil) d_X_writeCost_15
  · have c_4 : ¬ x3 = x2 := fun q => c_4 ((lg_cmp_eq _ _).mpr q)
    refine lv_lload_n hx hb d_X_writeCost_7 rfl (lv_at hl 0 rfl) ?_
    refine lv_lload_n hx hb d_X_writeCost_8 rfl (lv_at hl 1 rfl) ?_
    refine W.lcmp hx hb d_X_writeCost_9 ?_
    refine lv_if_eq (tgt := 16) hx hb d_X_writeCost_10 (by decide) (fun c_10 => ?_) (fun c_10 => ?_)
    · have c_10 : x1 = x2 := (lg_cmp_eq _ _).mp c_10
      refine lv_lload_n hx hb d_X_writeCost_16 rfl (lv_at hl 0 rfl) ?_
      refine lv_lconst (v := 0) hx hb d_X_writeCost_17 (by decide) ?_
      refine W.lcmp hx hb d_X_writeCost_18 ?_
      refine lv_if_ne (tgt := 28) hx hb d_X_writeCost_19 (by decide) (fun c_19 => ?_) (fun c_19 => ?_)
      · have c_19 : ¬ x1 = 0 := fun q => c_19 ((lg_cmp_eq _ _).mpr q)
        refine lv_sipush (v := 2900) hx hb d_X_writeCost_28 (by decide) ?_
        exact W.iret (v := 2900) hx hb hr (fun t ht hW => ⟨_, rfl, by (first | unfold fWC | unfold fCC | unfold fRS); (repeat' split) <;> first | rfl | contradiction, ht⟩) (fun _ h => absurd h List.not_mem_nil) d_X_writeCost_31
      · have c_19 : x1 = 0 := (lg_cmp_eq _ _).mp c_19
        refine lv_sipush (v := 20000) hx hb d_X_writeCost_22 (by decide) ?_
        refine lv_goto (tgt := 31) hx hb d_X_writeCost_25 (by decide) ?_
        exact W.iret (v := 20000) hx hb hr (fun t ht hW => ⟨_, rfl, by (first | unfold fWC | unfold fCC | unfold fRS); (repeat' split) <;> first | rfl | contradiction, ht⟩) (fun _ h => absurd h List.not_mem_nil) d_X_writeCost_31
    · have c_10 : ¬ x1 = x2 := fun q => c_10 ((lg_cmp_eq _ _).mpr q)
      refine lv_bipush (v := 100) hx hb d_X_writeCost_13 (by decide) ?_
      exact W.iret (v := 100) hx hb hr (fun t ht hW => ⟨_, rfl, by (first | unfold fWC | unfold fCC | unfold fRS); (repeat' split) <;> first | rfl | contradiction, ht⟩) (fun _ h => absurd h List.not_mem_nil) d_X_writeCost_15
set_option maxHeartbeats 4000000 in
set_option maxRecDepth 100000 in
theorem m_X_clearingChange (l : Launch) (x1 : Int64) (x2 : Int64) (x3 : Int64) : Met l y_X_clearingChange (w_X_clearingChange :: TB) rA0 (fun v _ => v = ([.long x1, .long x2, .long x3] : List Value).toArray) (vp_Si (fun r => r = fCC x1 x2 x3)) 0 0 (fun _ => False) := by
  refine Met.ofW (cc := b_X_clearingChange) (maxL := 6) (ret := some .int) (by decide) rfl ?_
  intro p e s m args below meth c s₁ B hml hv
  subst hv
  have hx := B.exec
  have hb := B.bytes
  have hr := B.returns
  have hts0 := atoms_spec (ws := w_X_clearingChange :: TB) B.pre
  have hts := fun w (hw : w ∈ TB) => hts0 w (List.mem_cons_of_mem _ hw)
  have hown : s.vm.findClass RX = some m.cls := findClass_of_methodNamed B.named
  have hlocks := B.notSynchronized
  have hl := lv_entry ([.long x1, .long x2, .long x3]) (n := 6) (Nat.le_of_ble_eq_true rfl)
  rw [lg_entry_eq]
  generalize (lg_sl ([.long x1, .long x2, .long x3]) ++ List.replicate (6 - (lg_sl ([.long x1, .long x2, .long x3])).length) Slot.unset).toArray = ls at hl ⊢
  have hl : lv_has ls 6 [(0, .long x1), (2, .long x2), (4, .long x3)] := hl
  refine lv_lload_n hx hb d_X_clearingChange_0 rfl (lv_at hl 0 rfl) ?_
  refine lv_lconst (v := 0) hx hb d_X_clearingChange_1 (by decide) ?_
  refine W.lcmp hx hb d_X_clearingChange_2 ?_
  refine lv_if_ne (tgt := 8) hx hb d_X_clearingChange_3 (by decide) (fun c_3 => ?_) (fun c_3 => ?_)
  · have c_3 : ¬ x1 = 0 := fun q => c_3 ((lg_cmp_eq _ _).mpr q)
    refine lv_lload_n hx hb d_X_clearingChange_8 rfl (lv_at hl 1 rfl) ?_
    refine lv_lconst (v := 0) hx hb d_X_clearingChange_9 (by decide) ?_
    refine W.lcmp hx hb d_X_clearingChange_10 ?_
    refine lv_if_ne (tgt := 18) hx hb d_X_clearingChange_11 (by decide) (fun c_11 => ?_) (fun c_11 => ?_)
    · have c_11 : ¬ x2 = 0 := fun q => c_11 ((lg_cmp_eq _ _).mpr q)
      refine lv_lload hx hb d_X_clearingChange_18 (lv_at hl 2 rfl) ?_
      refine lv_lconst (v := 0) hx hb d_X_clearingChange_20 (by decide) ?_
      refine W.lcmp hx hb d_X_clearingChange_21 ?_
      refine lv_if_ne (tgt := 31) hx hb d_X_clearingChange_22 (by decide) (fun c_22 => ?_) (fun c_22 => ?_)
      · have c_22 : ¬ x3 = 0 := fun q => c_22 ((lg_cmp_eq _ _).mpr q)
        refine lv_iconst (v := 0) hx hb d_X_clearingChange_31 (by decide) ?_
        exact W.iret (v := 0) hx hb hr (fun t ht hW => ⟨_, rfl, by (first | unfold fWC | unfold fCC | unfold fRS); (repeat' split) <;> first | rfl | contradiction, ht⟩) (fun _ h => absurd h List.not_mem_nil) d_X_clearingChange_32
      · have c_22 : x3 = 0 := (lg_cmp_eq _ _).mp c_22
        refine lv_sipush (v := 15000) hx hb d_X_clearingChange_25 (by decide) ?_
        refine lv_goto (tgt := 32) hx hb d_X_clearingChange_28 (by decide) ?_
        exact W.iret (v := 15000) hx hb hr (fun t ht hW => ⟨_, rfl, by (first | unfold fWC | unfold fCC | unfold fRS); (repeat' split) <;> first | rfl | contradiction, ht⟩) (fun _ h => absurd h List.not_mem_nil) d_X_clearingChange_32
    · have c_11 : x2 = 0 := (lg_cmp_eq _ _).mp c_11
      refine lv_sipush (v := (-15000)) hx hb d_X_clearingChange_14 (by decide) ?_
      exact W.iret (v := (-15000)) hx hb hr (fun t ht hW => ⟨_, rfl, by (first | unfold fWC | unfold fCC | unfold fRS); (repeat' split) <;> first | rfl | contradiction, ht⟩) (fun _ h => absurd h List.not_mem_nil) d_X_clearingChange_17
  · have c_3 : x1 = 0 := (lg_cmp_eq _ _).mp c_3
    refine lv_iconst (v := 0) hx hb d_X_clearingChange_6 (by decide) ?_
    exact W.iret (v := 0) hx hb hr (fun t ht hW => ⟨_, rfl, by (first | unfold fWC | unfold fCC | unfold fRS); (repeat' split) <;> first | rfl | contradiction, ht⟩) (fun _ h => absurd h List.not_mem_nil) d_X_clearingChange_7
set_option maxHeartbeats 4000000 in
set_option maxRecDepth 100000 in
theorem m_X_restoringChange (l : Launch) (x1 : Int64) (x3 : Int64) : Met l y_X_restoringChange (w_X_restoringChange :: TB) rA0 (fun v _ => v = ([.long x1, .long x3] : List Value).toArray) (vp_Si (fun r => r = fRS x1 x3)) 0 0 (fun _ => False) := by
  refine Met.ofW (cc := b_X_restoringChange) (maxL := 4) (ret := some .int) (by decide) rfl ?_
  intro p e s m args below meth c s₁ B hml hv
  subst hv
  have hx := B.exec
  have hb := B.bytes
  have hr := B.returns
  have hts0 := atoms_spec (ws := w_X_restoringChange :: TB) B.pre
  have hts := fun w (hw : w ∈ TB) => hts0 w (List.mem_cons_of_mem _ hw)
  have hown : s.vm.findClass RX = some m.cls := findClass_of_methodNamed B.named
  have hlocks := B.notSynchronized
  have hl := lv_entry ([.long x1, .long x3]) (n := 4) (Nat.le_of_ble_eq_true rfl)
  rw [lg_entry_eq]
  generalize (lg_sl ([.long x1, .long x3]) ++ List.replicate (4 - (lg_sl ([.long x1, .long x3])).length) Slot.unset).toArray = ls at hl ⊢
  have hl : lv_has ls 4 [(0, .long x1), (2, .long x3)] := hl
  refine lv_lload_n hx hb d_X_restoringChange_0 rfl (lv_at hl 0 rfl) ?_
  refine lv_lload_n hx hb d_X_restoringChange_1 rfl (lv_at hl 1 rfl) ?_
  refine W.lcmp hx hb d_X_restoringChange_2 ?_
  refine lv_if_eq (tgt := 8) hx hb d_X_restoringChange_3 (by decide) (fun c_3 => ?_) (fun c_3 => ?_)
  · have c_3 : x1 = x3 := (lg_cmp_eq _ _).mp c_3
    refine lv_lload_n hx hb d_X_restoringChange_8 rfl (lv_at hl 0 rfl) ?_
    refine lv_lconst (v := 0) hx hb d_X_restoringChange_9 (by decide) ?_
    refine W.lcmp hx hb d_X_restoringChange_10 ?_
    refine lv_if_ne (tgt := 20) hx hb d_X_restoringChange_11 (by decide) (fun c_11 => ?_) (fun c_11 => ?_)
    · have c_11 : ¬ x1 = 0 := fun q => c_11 ((lg_cmp_eq _ _).mpr q)
      refine lv_sipush (v := 2800) hx hb d_X_restoringChange_20 (by decide) ?_
      exact W.iret (v := 2800) hx hb hr (fun t ht hW => ⟨_, rfl, by (first | unfold fWC | unfold fCC | unfold fRS); (repeat' split) <;> first | rfl | contradiction, ht⟩) (fun _ h => absurd h List.not_mem_nil) d_X_restoringChange_23
    · have c_11 : x1 = 0 := (lg_cmp_eq _ _).mp c_11
      refine lv_sipush (v := 19900) hx hb d_X_restoringChange_14 (by decide) ?_
      refine lv_goto (tgt := 23) hx hb d_X_restoringChange_17 (by decide) ?_
      exact W.iret (v := 19900) hx hb hr (fun t ht hW => ⟨_, rfl, by (first | unfold fWC | unfold fCC | unfold fRS); (repeat' split) <;> first | rfl | contradiction, ht⟩) (fun _ h => absurd h List.not_mem_nil) d_X_restoringChange_23
  · have c_3 : ¬ x1 = x3 := fun q => c_3 ((lg_cmp_eq _ _).mpr q)
    refine lv_iconst (v := 0) hx hb d_X_restoringChange_6 (by decide) ?_
    exact W.iret (v := 0) hx hb hr (fun t ht hW => ⟨_, rfl, by (first | unfold fWC | unfold fCC | unfold fRS); (repeat' split) <;> first | rfl | contradiction, ht⟩) (fun _ h => absurd h List.not_mem_nil) d_X_restoringChange_7
set_option maxHeartbeats 4000000 in
set_option maxRecDepth 100000 in
theorem m_X_refundChange (l : Launch) (x1 : Int64) (x2 : Int64) (x3 : Int64) : Met l y_X_refundChange (w_X_refundChange :: TB) rA1 (fun v _ => v = ([.long x1, .long x2, .long x3] : List Value).toArray) (vp_Si (fun r => r = fRC x1 x2 x3)) 0 0 (fun _ => False) := by
  refine Met.ofW (cc := b_X_refundChange) (maxL := 6) (ret := some .int) (by decide) rfl ?_
  intro p e s m args below meth c s₁ B hml hv
  subst hv
  have hx := B.exec
  have hb := B.bytes
  have hr := B.returns
  have hts0 := atoms_spec (ws := w_X_refundChange :: TB) B.pre
  have hts := fun w (hw : w ∈ TB) => hts0 w (List.mem_cons_of_mem _ hw)
  have hown : s.vm.findClass RX = some m.cls := findClass_of_methodNamed B.named
  have hlocks := B.notSynchronized
  have hl := lv_entry ([.long x1, .long x2, .long x3]) (n := 6) (Nat.le_of_ble_eq_true rfl)
  rw [lg_entry_eq]
  generalize (lg_sl ([.long x1, .long x2, .long x3]) ++ List.replicate (6 - (lg_sl ([.long x1, .long x2, .long x3])).length) Slot.unset).toArray = ls at hl ⊢
  have hl : lv_has ls 6 [(0, .long x1), (2, .long x2), (4, .long x3)] := hl
  refine lv_lload hx hb d_X_refundChange_0 (lv_at hl 2 rfl) ?_
  refine lv_lload_n hx hb d_X_refundChange_2 rfl (lv_at hl 1 rfl) ?_
  refine W.lcmp hx hb d_X_refundChange_3 ?_
  refine lv_if_ne (tgt := 9) hx hb d_X_refundChange_4 (by decide) (fun c_4 => ?_) (fun c_4 => ?_)
  · have c_4 : ¬ x3 = x2 := fun q => c_4 ((lg_cmp_eq _ _).mpr q)
    refine lv_lload_n hx hb d_X_refundChange_9 rfl (lv_at hl 0 rfl) ?_
    refine lv_lload_n hx hb d_X_refundChange_10 rfl (lv_at hl 1 rfl) ?_
    refine W.lcmp hx hb d_X_refundChange_11 ?_
    refine lv_if_ne (tgt := 30) hx hb d_X_refundChange_12 (by decide) (fun c_12 => ?_) (fun c_12 => ?_)
    · have c_12 : ¬ x1 = x2 := fun q => c_12 ((lg_cmp_eq _ _).mpr q)
      refine lv_lload_n hx hb d_X_refundChange_30 rfl (lv_at hl 0 rfl) ?_
      refine lv_lload_n hx hb d_X_refundChange_31 rfl (lv_at hl 1 rfl) ?_
      refine lv_lload hx hb d_X_refundChange_32 (lv_at hl 2 rfl) ?_
      refine vp_callSi (W.runS (As := [.long x1, .long x2, .long x3]) (rest := []) ⟨hx, hb, hml, hown, hts⟩ (m_X_clearingChange l x1 x2 x3) (va_cwS 3 hts (TB_g3 kl_X_93 kt_X_clearingChange kz_X (TB_c kc_X_clearingChange)) rfl rfl rfl (by decide +kernel) ⟨Nat.le_of_ble_eq_true rfl, Nat.le_of_ble_eq_true rfl⟩) preEq rfl rfl hl.1 rfl (lv_room (Nat.le_of_ble_eq_true rfl)) d_X_refundChange_34 ⟨Nat.zero_le _, Nat.zero_le _⟩) (fun r1 hr1 => ?_)
      refine lv_lload_n hx hb d_X_refundChange_37 rfl (lv_at hl 0 rfl) ?_
      refine lv_lload hx hb d_X_refundChange_38 (lv_at hl 2 rfl) ?_
      refine vp_callSi (W.runS (As := [.long x1, .long x3]) (rest := [.int r1]) ⟨hx, hb, hml, hown, hts⟩ (m_X_restoringChange l x1 x3) (va_cwS 2 hts (TB_g3 kl_X_96 kt_X_restoringChange kz_X (TB_c kc_X_restoringChange)) rfl rfl rfl (by decide +kernel) ⟨Nat.le_of_ble_eq_true rfl, Nat.le_of_ble_eq_true rfl⟩) preEq rfl rfl hl.1 rfl (lv_room (Nat.le_of_ble_eq_true rfl)) d_X_refundChange_40 ⟨Nat.zero_le _, Nat.zero_le _⟩) (fun r2 hr2 => ?_)
      refine lv_iadd hx hb d_X_refundChange_43 ?_
      exact W.iret (v := (r1) + (r2)) hx hb hr (fun t ht hW => ⟨_, rfl, by unfold fRC; (repeat' split) <;> first | rfl | contradiction | rw [hr1, hr2], ht⟩) (fun _ h => absurd h List.not_mem_nil) d_X_refundChange_44
    · have c_12 : x1 = x2 := (lg_cmp_eq _ _).mp c_12
      refine lv_lload hx hb d_X_refundChange_15 (lv_at hl 2 rfl) ?_
      refine lv_lconst (v := 0) hx hb d_X_refundChange_17 (by decide) ?_
      refine W.lcmp hx hb d_X_refundChange_18 ?_
      refine lv_if_ne (tgt := 28) hx hb d_X_refundChange_19 (by decide) (fun c_19 => ?_) (fun c_19 => ?_)
      · have c_19 : ¬ x3 = 0 := fun q => c_19 ((lg_cmp_eq _ _).mpr q)
        refine lv_iconst (v := 0) hx hb d_X_refundChange_28 (by decide) ?_
        exact W.iret (v := 0) hx hb hr (fun t ht hW => ⟨_, rfl, by unfold fRC; (repeat' split) <;> first | rfl | contradiction | rw [hr1, hr2], ht⟩) (fun _ h => absurd h List.not_mem_nil) d_X_refundChange_29
      · have c_19 : x3 = 0 := (lg_cmp_eq _ _).mp c_19
        refine lv_sipush (v := 15000) hx hb d_X_refundChange_22 (by decide) ?_
        refine lv_goto (tgt := 29) hx hb d_X_refundChange_25 (by decide) ?_
        exact W.iret (v := 15000) hx hb hr (fun t ht hW => ⟨_, rfl, by unfold fRC; (repeat' split) <;> first | rfl | contradiction | rw [hr1, hr2], ht⟩) (fun _ h => absurd h List.not_mem_nil) d_X_refundChange_29
  · have c_4 : x3 = x2 := (lg_cmp_eq _ _).mp c_4
    refine lv_iconst (v := 0) hx hb d_X_refundChange_7 (by decide) ?_
    exact W.iret (v := 0) hx hb hr (fun t ht hW => ⟨_, rfl, by unfold fRC; (repeat' split) <;> first | rfl | contradiction | rw [hr1, hr2], ht⟩) (fun _ h => absurd h List.not_mem_nil) d_X_refundChange_8
theorem bc_shr {n : Nat} (hn : n < 2 ^ 64) {k : Nat} (hk : k < 64) {y : Int32} (hy : y = nI k := by rfl) : ((lN n).toUInt64 >>> (y.toInt64.toUInt64 &&& Int64.toUInt64 63)).toInt64 = lN (n / 2 ^ k) := by
  rw [hy]; exact wb_shr hn hk
theorem bc_and {a b : Nat} (ha : a < 2 ^ 64) (hb : b < 2 ^ 64) {y : Int64} (hy : y = lN b := by rfl) : lN a &&& y = lN (a &&& b) := by
  rw [hy]; exact wb_and ha hb
theorem bc_end {v n : Nat} (h1 : v < 2 ^ 64) (h2 : v % 128 = n) : (lN v).toInt32 &&& 127 = nI n := by
  rw [lN_i, pk_and (nI v) 7 (by decide)]
  have e : (nI v).toBitVec.toNat = v % 2 ^ 32 := by
    show (BitVec.ofNat 32 v).toNat = _
    rw [BitVec.toNat_ofNat]
  rw [e, ← h2]
  congr 1
  omega
set_option maxHeartbeats 4000000 in
set_option maxRecDepth 100000 in
theorem m_J_bitCount (l : Launch) (n : Nat) (hn : n < 2 ^ 64) : Met l y_J_bitCount (w_J_bitCount :: TB) rA0 (fun v _ => v = ([.long (lN n)] : List Value).toArray) (vp_Si (fun r => r = nI (pz_n n 64))) 0 0 (fun _ => False) := by
  refine Met.ofW (cc := b_J_bitCount) (maxL := 2) (ret := some .int) (by decide) rfl ?_
  intro p e s m args below meth c s₁ B hml hv
  subst hv
  have hx := B.exec
  have hb := B.bytes
  have hr := B.returns
  have hts0 := atoms_spec (ws := w_J_bitCount :: TB) B.pre
  have hts := fun w (hw : w ∈ TB) => hts0 w (List.mem_cons_of_mem _ hw)
  have hown : s.vm.findClass RJ = some m.cls := findClass_of_methodNamed B.named
  have hlocks := B.notSynchronized
  have hl := lv_entry ([.long (lN n)]) (n := 2) (Nat.le_of_ble_eq_true rfl)
  rw [lg_entry_eq]
  generalize (lg_sl ([.long (lN n)]) ++ List.replicate (2 - (lg_sl ([.long (lN n)])).length) Slot.unset).toArray = ls at hl ⊢
  have hl : lv_has ls 2 [(0, .long (lN n))] := hl
  obtain ⟨v1, h1⟩ : ∃ v, v = n - ((n / 2) &&& 6148914691236517205) := ⟨_, rfl⟩
  obtain ⟨v2, h2⟩ : ∃ v, v = (v1 &&& 3689348814741910323) + ((v1 / 4) &&& 3689348814741910323) := ⟨_, rfl⟩
  obtain ⟨v3, h3⟩ : ∃ v, v = (v2 + v2 / 16) &&& 1085102592571150095 := ⟨_, rfl⟩
  obtain ⟨v4, h4⟩ : ∃ v, v = v3 + v3 / 256 := ⟨_, rfl⟩
  obtain ⟨v5, h5⟩ : ∃ v, v = v4 + v4 / 65536 := ⟨_, rfl⟩
  obtain ⟨q1, q2, q3⟩ := pz_all hn h1 h2 h3 h4 h5
  have b1 : v1 < 2 ^ 64 := by omega
  have b3 : v3 < 2 ^ 64 := by rw [h3]; exact Nat.lt_of_le_of_lt Nat.and_le_right (by decide)
  have b2x : v2 ≤ 7378697629483820646 := by
    have z1 : v1 &&& 3689348814741910323 ≤ 3689348814741910323 := Nat.and_le_right
    have z2 : (v1 / 4) &&& 3689348814741910323 ≤ 3689348814741910323 := Nat.and_le_right
    omega
  have b2 : v2 < 2 ^ 64 := by omega
  have b5 : v5 < 2 ^ 64 := by omega
  have b4 : v4 < 2 ^ 64 := by omega
  refine lv_lload_n hx hb d_J_bitCount_0 rfl (lv_at hl 0 rfl) ?_
  refine lv_lload_n hx hb d_J_bitCount_1 rfl (lv_at hl 0 rfl) ?_
  refine lv_iconst (v := 1) hx hb d_J_bitCount_2 (by decide) ?_
  refine lv_lushr hx hb d_J_bitCount_3 rfl ?_
  refine lv_ldc2 hx hb hown (hts _ kd_J_314) d_J_bitCount_4 ?_
  refine lv_land hx hb d_J_bitCount_7 ?_
  refine lv_lsub hx hb d_J_bitCount_8 ?_
  refine lv_topl (fun s1 es1 => ?_)
  have es : s1 = lN v1 := by rw [es1, bc_shr hn (k := 1) (by decide), bc_and (b := 6148914691236517205) (by omega) (by decide), lN_sub q1, h1]
  subst es
  refine lv_lstore_n (lv' := [(0, .long (lN v1))]) hx hb d_J_bitCount_9 rfl hl (by decide) rfl (fun ls hl => ?_)
  refine lv_lload_n hx hb d_J_bitCount_10 rfl (lv_at hl 0 rfl) ?_
  refine lv_ldc2 hx hb hown (hts _ kd_J_316) d_J_bitCount_11 ?_
  refine lv_land hx hb d_J_bitCount_14 ?_
  refine lv_lload_n hx hb d_J_bitCount_15 rfl (lv_at hl 0 rfl) ?_
  refine lv_iconst (v := 2) hx hb d_J_bitCount_16 (by decide) ?_
  refine lv_lushr hx hb d_J_bitCount_17 rfl ?_
  refine lv_ldc2 hx hb hown (hts _ kd_J_316) d_J_bitCount_18 ?_
  refine lv_land hx hb d_J_bitCount_21 ?_
  refine lv_ladd hx hb d_J_bitCount_22 ?_
  refine lv_topl (fun s2 es2 => ?_)
  have es : s2 = lN v2 := by rw [es2, bc_shr b1 (k := 2) (by decide), bc_and (b := 3689348814741910323) b1 (by decide), bc_and (b := 3689348814741910323) (by omega) (by decide), lN_add, h2]
  subst es
  refine lv_lstore_n (lv' := [(0, .long (lN v2))]) hx hb d_J_bitCount_23 rfl hl (by decide) rfl (fun ls hl => ?_)
  refine lv_lload_n hx hb d_J_bitCount_24 rfl (lv_at hl 0 rfl) ?_
  refine lv_lload_n hx hb d_J_bitCount_25 rfl (lv_at hl 0 rfl) ?_
  refine lv_iconst (v := 4) hx hb d_J_bitCount_26 (by decide) ?_
  refine lv_lushr hx hb d_J_bitCount_27 rfl ?_
  refine lv_ladd hx hb d_J_bitCount_28 ?_
  refine lv_ldc2 hx hb hown (hts _ kd_J_318) d_J_bitCount_29 ?_
  refine lv_land hx hb d_J_bitCount_32 ?_
  refine lv_topl (fun s3 es3 => ?_)
  have es : s3 = lN v3 := by rw [es3, bc_shr b2 (k := 4) (by decide), lN_add, bc_and (b := 1085102592571150095) (by omega) (by decide), h3]
  subst es
  refine lv_lstore_n (lv' := [(0, .long (lN v3))]) hx hb d_J_bitCount_33 rfl hl (by decide) rfl (fun ls hl => ?_)
  refine lv_lload_n hx hb d_J_bitCount_34 rfl (lv_at hl 0 rfl) ?_
  refine lv_lload_n hx hb d_J_bitCount_35 rfl (lv_at hl 0 rfl) ?_
  refine lv_bipush (v := 8) hx hb d_J_bitCount_36 (by decide) ?_
  refine lv_lushr hx hb d_J_bitCount_38 rfl ?_
  refine lv_ladd hx hb d_J_bitCount_39 ?_
  refine lv_topl (fun s4 es4 => ?_)
  have es : s4 = lN v4 := by rw [es4, bc_shr b3 (k := 8) (by decide), lN_add, h4]
  subst es
  refine lv_lstore_n (lv' := [(0, .long (lN v4))]) hx hb d_J_bitCount_40 rfl hl (by decide) rfl (fun ls hl => ?_)
  refine lv_lload_n hx hb d_J_bitCount_41 rfl (lv_at hl 0 rfl) ?_
  refine lv_lload_n hx hb d_J_bitCount_42 rfl (lv_at hl 0 rfl) ?_
  refine lv_bipush (v := 16) hx hb d_J_bitCount_43 (by decide) ?_
  refine lv_lushr hx hb d_J_bitCount_45 rfl ?_
  refine lv_ladd hx hb d_J_bitCount_46 ?_
  refine lv_topl (fun s5 es5 => ?_)
  have es : s5 = lN v5 := by rw [es5, bc_shr b4 (k := 16) (by decide), lN_add, h5]
  subst es
  refine lv_lstore_n (lv' := [(0, .long (lN v5))]) hx hb d_J_bitCount_47 rfl hl (by decide) rfl (fun ls hl => ?_)
  refine lv_lload_n hx hb d_J_bitCount_48 rfl (lv_at hl 0 rfl) ?_
  refine lv_lload_n hx hb d_J_bitCount_49 rfl (lv_at hl 0 rfl) ?_
  refine lv_bipush (v := 32) hx hb d_J_bitCount_50 (by decide) ?_
  refine lv_lushr hx hb d_J_bitCount_52 rfl ?_
  refine lv_ladd hx hb d_J_bitCount_53 ?_
  refine lv_topl (fun s6 es6 => ?_)
  have es : s6 = lN (v5 + v5 / 4294967296) := by rw [es6, bc_shr b5 (k := 32) (by decide), lN_add]
  subst es
  refine lv_lstore_n (lv' := [(0, .long (lN (v5 + v5 / 4294967296)))]) hx hb d_J_bitCount_54 rfl hl (by decide) rfl (fun ls hl => ?_)
  refine lv_lload_n hx hb d_J_bitCount_55 rfl (lv_at hl 0 rfl) ?_
  refine lv_l2i hx hb d_J_bitCount_56 rfl ?_
  refine lv_bipush (v := 127) hx hb d_J_bitCount_57 (by decide) ?_
  refine lv_iand hx hb d_J_bitCount_59 ?_
  exact W.iret (v := (((lN (v5 + v5 / 4294967296)) : Int64).toInt32) &&& (127)) hx hb hr (fun t ht hW => ⟨_, rfl, bc_end q2 q3, ht⟩) (fun _ h => absurd h List.not_mem_nil) d_J_bitCount_60
end
section
/-! the methods of one state -/
/-- bit p of x -/
def tb (x : Int64) (p : Nat) : Bool := x.toBitVec.getLsbD p
def tbs (x : Int64) (p : Nat) : Int64 := x ||| ((1 : Int64) <<< ((nI p).toInt64 &&& 63))
theorem tb_iff (x : Int64) {p : Nat} (hp : p < 64) : ((x.toUInt64 >>> ((nI p).toInt64.toUInt64 &&& Int64.toUInt64 63)).toInt64 &&& 1) = 0 ↔ tb x p = false :=
  ts_bit hp (by rw [wb_cu p hp]; exact (UInt64.toNat_ofNat_of_lt (by show p < 18446744073709551616; omega)))
theorem tb_set (x : Int64) {p q : Nat} (hp : p < 64) (hq : q < 64) : tb (tbs x p) q = (tb x q || decide (q = p)) := by
  have h1 : ((1 : Int64) <<< ((nI p).toInt64 &&& 63)) = lN (1 * 2 ^ p) := wb_shl 1 hp
  unfold tb tbs
  rw [h1, Int64.toBitVec_or, BitVec.getLsbD_or, Nat.one_mul, wb_tb]
  congr 1
  rw [BitVec.getLsbD_ofNat, Nat.testBit_two_pow, decide_eq_true hq, Bool.true_and]
  by_cases h : p = q
  · rw [decide_eq_true h, decide_eq_true h.symm]
  · rw [decide_eq_false h, decide_eq_false (fun q => h q.symm)]
theorem atP {D : va_G} {ws : va_W} {H : Heap} {t : State} (h : va_P D wCl ws H) (ht : t.heap = H) : va_P D wCl ws t.heap := by rw [ht]; exact h
/-- how many of the first n are not 0 -/
def cnt (f : Nat → Int64) : Nat → Nat
  | 0 => 0
  | n + 1 => cnt f n + (if f n = 0 then 0 else 1)
/-- how many bits the first n words have -/
def bsum (f : Nat → Int64) : Nat → Nat
  | 0 => 0
  | n + 1 => bsum f n + pz_n (f n).toBitVec.toNat 64

theorem up_id {α : Type} (f : Nat → α) (i : Nat) : va_up f i (f i) = f := by
  funext j
  by_cases h : j = i <;> simp [va_up, h]
set_option maxHeartbeats 4000000 in
set_option maxRecDepth 100000 in
/-- whether the place is marked -/
theorem m_S_isMarked (l : Launch) (D : va_G) (k : Nat → ClassId) (a : Nat → Nat) (d : Int32) (F : Nat → Int64) (V M : Nat → Nat → Int64) (R : Nat → Int32) (i : Nat) (hi : i < 31) (u v : Nat) (hu : u < 4) (hv : v < 64) (sz : Nat) : Met l y_S_isMarked (w_S_isMarked :: TB) rA1 (va_Pc [.ref (a (3 + i)), .int (nI u), .int (nI v)] (PW D k (WX k a d F V M R) sz)) (vp_Si (fun r => r = if tb (M i u) v then 1 else 0)) 0 0 (fun _ => False) := by
  refine Met.ofW (cc := b_S_isMarked) (maxL := 3) (ret := some .boolean) (by decide) rfl ?_
  intro p e s m args below meth c s₁ B hml hv
  obtain ⟨rfl, hsz, hP, hK, hD0, hE⟩ := hv
  have hx := B.exec
  have hb := B.bytes
  have hr := B.returns
  have hts0 := atoms_spec (ws := w_S_isMarked :: TB) B.pre
  have hts := fun w (hw : w ∈ TB) => hts0 w (List.mem_cons_of_mem _ hw)
  have hown : s.vm.findClass RS = some m.cls := findClass_of_methodNamed B.named
  have hlocks := B.notSynchronized
  subst hsz
  have hD := hD0.self (sz := s.heap.size)
  generalize hAe : va_A (WX k a d F V M R) s.heap.size = A at *
  have hA : ∀ q : Nat, s.heap.size ≤ q → A q := fun q h => by rw [← hAe]; exact Or.inr h
  have hS : va_S A s.heap s.heap [] := va_S.rf
  have hl := lv_entry ([.ref (a (3 + i)), .int (nI u), .int (nI v)]) (n := 3) (Nat.le_of_ble_eq_true rfl)
  rw [lg_entry_eq]
  generalize (lg_sl ([.ref (a (3 + i)), .int (nI u), .int (nI v)]) ++ List.replicate (3 - (lg_sl ([.ref (a (3 + i)), .int (nI u), .int (nI v)])).length) Slot.unset).toArray = ls at hl ⊢
  have hl : lv_has ls 3 [(0, .ref (a (3 + i))), (1, .int (nI u)), (2, .int (nI v))] := hl
  refine lv_aload_n hx hb d_S_isMarked_0 rfl (lv_at hl 0 rfl) ?_
  refine va_get (D := D) (ci := 0) (v := .ref (a (65 + i))) (C := RS) (T := TS) (N := 3) hx hb hts kin_S hown hK hP (i + 3) (wx_s hi) rfl 1 (by decide) (hts _ kf_S_15) (fun _ h9 => h9) rfl d_S_isMarked_1 ?_
  refine lv_iload_n hx hb d_S_isMarked_4 rfl (lv_at hl 1 rfl) ?_
  refine va_lald hx hb hK hP (i + 65) 0 (wx_m hi) rfl (vp_in_nI hu (by decide)) d_S_isMarked_5 ?_
  rw [nI_clamp (show u < 2 ^ 31 by omega)]
  refine lv_iload_n hx hb d_S_isMarked_6 rfl (lv_at hl 2 rfl) ?_
  refine lv_lushr hx hb d_S_isMarked_7 rfl ?_
  refine lv_lconst (v := 1) hx hb d_S_isMarked_8 (by decide) ?_
  refine lv_land hx hb d_S_isMarked_9 ?_
  refine lv_lconst (v := 0) hx hb d_S_isMarked_10 (by decide) ?_
  refine W.lcmp hx hb d_S_isMarked_11 ?_
  refine lv_if_eq (tgt := 19) hx hb d_S_isMarked_12 (by decide) (fun c_12 => ?_) (fun c_12 => ?_)
  · have c_12 : ((((M i u) : Int64).toUInt64 >>> (((nI v) : Int32).toInt64.toUInt64 &&& Int64.toUInt64 63)).toInt64) &&& (1) = 0 := (lg_cmp_eq _ _).mp c_12
    refine lv_iconst (v := 0) hx hb d_S_isMarked_19 (by decide) ?_
    exact W.zret (v := 0) hx hb hr rfl (fun t ht hW => ⟨_, rfl, by rw [(tb_iff _ hv).mp c_12]; rfl, ht⟩) (fun _ h => absurd h List.not_mem_nil) d_S_isMarked_20
  · have c_12 : ¬ ((((M i u) : Int64).toUInt64 >>> (((nI v) : Int32).toInt64.toUInt64 &&& Int64.toUInt64 63)).toInt64) &&& (1) = 0 := fun q => c_12 ((lg_cmp_eq _ _).mpr q)
    refine lv_iconst (v := 1) hx hb d_S_isMarked_15 (by decide) ?_
    refine lv_goto (tgt := 20) hx hb d_S_isMarked_16 (by decide) ?_
    exact W.zret (v := 1) hx hb hr rfl (fun t ht hW => ⟨_, rfl, by rw [if_pos (by cases h : tb (M i u) v with | true => rfl | false => exact absurd ((tb_iff _ hv).mpr h) c_12)], ht⟩) (fun _ h => absurd h List.not_mem_nil) d_S_isMarked_20
set_option maxHeartbeats 4000000 in
set_option maxRecDepth 100000 in
/-- the place is marked -/
theorem m_S_mark (l : Launch) (D : va_G) (k : Nat → ClassId) (a : Nat → Nat) (d : Int32) (F : Nat → Int64) (V M : Nat → Nat → Int64) (R : Nat → Int32) (i : Nat) (hi : i < 31) (u v : Nat) (hu : u < 4) (hv : v < 64) (sz : Nat) : Met l y_S_mark (w_S_mark :: TB) rA1 (va_Pc [.ref (a (3 + i)), .int (nI u), .int (nI v)] (PW D k (WX k a d F V M R) sz)) (va_Qv (fun M2 : Nat → Nat → Int64 => M2 = va_up M i (vp_updL (M i) u (tbs (M i u) v))) (fun M2 t => va_P D wCl (WX k a d F V M2 R) t.heap) (va_A (WX k a d F V M R) sz)) 0 0 (va_A (WX k a d F V M R) sz) := by
  refine Met.ofW (cc := b_S_mark) (maxL := 3) (ret := none) (by decide) rfl ?_
  intro p e s m args below meth c s₁ B hml hv
  obtain ⟨rfl, hsz, hP, hK, hD0, hE⟩ := hv
  have hx := B.exec
  have hb := B.bytes
  have hr := B.returns
  have hts0 := atoms_spec (ws := w_S_mark :: TB) B.pre
  have hts := fun w (hw : w ∈ TB) => hts0 w (List.mem_cons_of_mem _ hw)
  have hown : s.vm.findClass RS = some m.cls := findClass_of_methodNamed B.named
  have hlocks := B.notSynchronized
  subst hsz
  have hD := hD0.self (sz := s.heap.size)
  generalize hAe : va_A (WX k a d F V M R) s.heap.size = A at *
  have hA : ∀ q : Nat, s.heap.size ≤ q → A q := fun q h => by rw [← hAe]; exact Or.inr h
  have hS : va_S A s.heap s.heap [] := va_S.rf
  have hl := lv_entry ([.ref (a (3 + i)), .int (nI u), .int (nI v)]) (n := 3) (Nat.le_of_ble_eq_true rfl)
  rw [lg_entry_eq]
  generalize (lg_sl ([.ref (a (3 + i)), .int (nI u), .int (nI v)]) ++ List.replicate (3 - (lg_sl ([.ref (a (3 + i)), .int (nI u), .int (nI v)])).length) Slot.unset).toArray = ls at hl ⊢
  have hl : lv_has ls 3 [(0, .ref (a (3 + i))), (1, .int (nI u)), (2, .int (nI v))] := hl
  refine lv_aload_n hx hb d_S_mark_0 rfl (lv_at hl 0 rfl) ?_
  refine va_get (D := D) (ci := 0) (v := .ref (a (65 + i))) (C := RS) (T := TS) (N := 3) hx hb hts kin_S hown hK hP (i + 3) (wx_s hi) rfl 1 (by decide) (hts _ kf_S_15) (fun _ h9 => h9) rfl d_S_mark_1 ?_
  refine lv_iload_n hx hb d_S_mark_4 rfl (lv_at hl 1 rfl) ?_
  refine lv_dup2_11 hx hb d_S_mark_5 rfl rfl ?_
  refine va_lald hx hb hK hP (i + 65) 0 (wx_m hi) rfl (vp_in_nI hu (by decide)) d_S_mark_6 ?_
  refine lv_lconst (v := 1) hx hb d_S_mark_7 (by decide) ?_
  refine lv_iload_n hx hb d_S_mark_8 rfl (lv_at hl 2 rfl) ?_
  refine lv_lshl hx hb d_S_mark_9 rfl ?_
  refine lv_lor hx hb d_S_mark_10 ?_
  refine va_last hx hb hK hP hD hS (i + 65) 0 (wx_m hi) rfl (vp_in_nI hu (by decide)) d_S_mark_11 (fun H locs hP hD hS => ?_)
  have hP := (congrArg (fun w => va_P D wCl w H) (wx_setM hi)).mp hP
  have hD := (congrArg (fun w => va_D A w) (wx_setM hi)).mp hD
  have hP : va_P D wCl (WX k a d F V (va_up M i (vp_updL (M i) ((nI u).toNatClampNeg) ((M i (nI u).toNatClampNeg) ||| ((1) <<< (((nI v) : Int32).toInt64 &&& 63))))) R) H := hP
  have hD : va_D A (WX k a d F V (va_up M i (vp_updL (M i) ((nI u).toNatClampNeg) ((M i (nI u).toNatClampNeg) ||| ((1) <<< (((nI v) : Int32).toInt64 &&& 63))))) R) := hD
  rw [nI_clamp (show u < 2 ^ 31 by omega)] at hP
  exact W.vret hx hb hr (fun t ht hW => ⟨⟨va_up M i (vp_updL (M i) u (tbs (M i u) v)), rfl, rfl, atP hP ht⟩, hS.F ht⟩) hS.2.2 d_S_mark_12
set_option maxHeartbeats 4000000 in
set_option maxRecDepth 100000 in
theorem m_S_filledPlaces (l : Launch) (D : va_G) (k : Nat → ClassId) (a : Nat → Nat) (d : Int32) (F : Nat → Int64) (V M : Nat → Nat → Int64) (R : Nat → Int32) (i : Nat) (hi : i < 31) (sz : Nat) : Met l y_S_filledPlaces (w_S_filledPlaces :: TB) rA1 (va_Pc [.ref (a (3 + i))] (PW D k (WX k a d F V M R) sz)) (vp_Si (fun r => r = nI (cnt (V i) 256))) 0 0 (fun _ => False) := by
  refine Met.ofW (cc := b_S_filledPlaces) (maxL := 3) (ret := some .int) (by decide) rfl ?_
  intro p e s m args below meth c s₁ B hml hv
  obtain ⟨rfl, hsz, hP, hK, hD0, hE⟩ := hv
  have hx := B.exec
  have hb := B.bytes
  have hr := B.returns
  have hts0 := atoms_spec (ws := w_S_filledPlaces :: TB) B.pre
  have hts := fun w (hw : w ∈ TB) => hts0 w (List.mem_cons_of_mem _ hw)
  have hown : s.vm.findClass RS = some m.cls := findClass_of_methodNamed B.named
  have hlocks := B.notSynchronized
  subst hsz
  have hD := hD0.self (sz := s.heap.size)
  generalize hAe : va_A (WX k a d F V M R) s.heap.size = A at *
  have hA : ∀ q : Nat, s.heap.size ≤ q → A q := fun q h => by rw [← hAe]; exact Or.inr h
  have hS : va_S A s.heap s.heap [] := va_S.rf
  have hl := lv_entry ([.ref (a (3 + i))]) (n := 3) (Nat.le_of_ble_eq_true rfl)
  rw [lg_entry_eq]
  generalize (lg_sl ([.ref (a (3 + i))]) ++ List.replicate (3 - (lg_sl ([.ref (a (3 + i))])).length) Slot.unset).toArray = ls at hl ⊢
  have hl : lv_has ls 3 [(0, .ref (a (3 + i)))] := hl
  refine lv_iconst (v := 0) hx hb d_S_filledPlaces_0 (by decide) ?_
  refine lv_istore_n (lv' := [(1, .int 0), (0, .ref (a (3 + i)))]) hx hb d_S_filledPlaces_1 rfl hl (by decide) rfl (fun ls hl => ?_)
  refine lv_iconst (v := 0) hx hb d_S_filledPlaces_2 (by decide) ?_
  refine lv_istore_n (lv' := [(2, .int 0), (1, .int 0), (0, .ref (a (3 + i)))]) hx hb d_S_filledPlaces_3 rfl hl (by decide) rfl (fun ls hl => ?_)
  generalize hRR : (headSpec (w_S_filledPlaces :: TB) rA1).room = RR
  generalize hQQ : MQ below (vp_Si (fun r => r = nI (cnt (V i) 256))) [.ref (a (3 + i))].toArray s 0 0 (fun _ => False) = QQ
  have loop : ∀ (n j : Nat), j ≤ 256 → 257 ≤ j + n → ∀ (ls : Array Slot), lv_has ls 3 [(1, .int (nI (cnt (V i) j))), (2, .int (nI j)), (0, .ref (a (3 + i)))] → W p l e RR s m [.ref (a (3 + i))].toArray below meth c s.heap [] 0 0 QQ (F0 m 4 ls []) := by
    intro n
    induction n with
    | zero =>
      intro j h1 h2
      exact absurd h2 (by omega)
    | succ n ih =>
      intro j hj hjn ls hl
      refine lv_iload_n hx hb d_S_filledPlaces_4 rfl (lv_at hl 1 rfl) ?_
      refine lv_sipush (v := 256) hx hb d_S_filledPlaces_5 (by decide) ?_
      refine lv_icmp_ge (tgt := 31) hx hb d_S_filledPlaces_8 (by decide) (fun c_8 => ?_) (fun c_8 => ?_)
      · have hj : j = 256 := by
          rcases Nat.lt_or_ge j 256 with q | q
          · exact absurd c_8 (nI_ge q (by decide))
          · omega
        subst hj
        refine lv_iload_n hx hb d_S_filledPlaces_31 rfl (lv_at hl 0 rfl) ?_
        subst hQQ
        exact W.iret (v := nI (cnt (V i) 256)) hx hb hr (fun t ht hW => ⟨_, rfl, rfl, ht⟩) (fun _ h => absurd h List.not_mem_nil) d_S_filledPlaces_32
      · have hlt : j < 256 := by
          rcases Nat.lt_or_ge j 256 with q | q
          · exact q
          · exact absurd (nI_le q (by omega)) c_8
        refine lv_aload_n hx hb d_S_filledPlaces_11 rfl (lv_at hl 2 rfl) ?_
        refine va_get (D := D) (ci := 0) (v := .ref (a (34 + i))) (C := RS) (T := TS) (N := 3) hx hb hts kin_S hown hK hP (i + 3) (wx_s hi) rfl 0 (by decide) (hts _ kf_S_9) (fun _ h9 => h9) rfl d_S_filledPlaces_12 ?_
        refine lv_iload_n hx hb d_S_filledPlaces_15 rfl (lv_at hl 1 rfl) ?_
        refine va_lald hx hb hK hP (i + 34) 0 (wx_v hi) rfl (vp_in_nI hlt (by decide)) d_S_filledPlaces_16 ?_
        rw [nI_clamp (show j < 2 ^ 31 by omega)]
        refine lv_lconst (v := 0) hx hb d_S_filledPlaces_17 (by decide) ?_
        refine W.lcmp hx hb d_S_filledPlaces_18 ?_
        refine lv_if_eq (tgt := 25) hx hb d_S_filledPlaces_19 (by decide) (fun c_19 => ?_) (fun c_19 => ?_)
        · have c_19 : V i j = 0 := (lg_cmp_eq _ _).mp c_19
          refine lv_iinc (v := (nI j) + 1) (lv' := [(2, .int ((nI j) + 1)), (1, .int (nI (cnt (V i) j))), (0, .ref (a (3 + i)))]) hx hb d_S_filledPlaces_25 hl (k := 1) rfl rfl (by decide) rfl (fun ls hl => ?_)
          refine lv_goto (tgt := 4) hx hb d_S_filledPlaces_28 (by decide) ?_
          refine ih (j + 1) hlt (by omega) ls ?_
          have e1 := show nI (cnt (V i) j) = nI (cnt (V i) (j + 1)) by simp only [cnt, if_pos c_19, Nat.add_zero]
          rw [← e1, ← nI_1 j]
          exact lv_sub hl [1, 0, 2] rfl
        · have c_19 : ¬ V i j = 0 := fun q => c_19 ((lg_cmp_eq _ _).mpr q)
          refine lv_iinc (v := (nI (cnt (V i) j)) + 1) (lv' := [(1, .int ((nI (cnt (V i) j)) + 1)), (2, .int (nI j)), (0, .ref (a (3 + i)))]) hx hb d_S_filledPlaces_22 hl (k := 0) rfl rfl (by decide) rfl (fun ls hl => ?_)
          refine lv_iinc (v := (nI j) + 1) (lv' := [(2, .int ((nI j) + 1)), (1, .int ((nI (cnt (V i) j)) + 1)), (0, .ref (a (3 + i)))]) hx hb d_S_filledPlaces_25 hl (k := 1) rfl rfl (by decide) rfl (fun ls hl => ?_)
          refine lv_goto (tgt := 4) hx hb d_S_filledPlaces_28 (by decide) ?_
          refine ih (j + 1) hlt (by omega) ls ?_
          have e1 := show nI (cnt (V i) j) + 1 = nI (cnt (V i) (j + 1)) by simp only [cnt, if_neg c_19]; exact nI_1 _
          rw [← e1, ← nI_1 j]
          exact lv_sub hl [1, 0, 2] rfl
  exact loop 257 0 (by omega) (by omega) ls (lv_sub hl [1, 0, 2] rfl)
set_option maxHeartbeats 4000000 in
set_option maxRecDepth 100000 in
theorem m_S_markedPlaces (l : Launch) (D : va_G) (k : Nat → ClassId) (a : Nat → Nat) (d : Int32) (F : Nat → Int64) (V M : Nat → Nat → Int64) (R : Nat → Int32) (i : Nat) (hi : i < 31) (sz : Nat) : Met l y_S_markedPlaces (w_S_markedPlaces :: TB) rA1 (va_Pc [.ref (a (3 + i))] (PW D k (WX k a d F V M R) sz)) (vp_Si (fun r => r = nI (bsum (M i) 4))) 0 0 (fun _ => False) := by
  refine Met.ofW (cc := b_S_markedPlaces) (maxL := 3) (ret := some .int) (by decide) rfl ?_
  intro p e s m args below meth c s₁ B hml hv
  obtain ⟨rfl, hsz, hP, hK, hD0, hE⟩ := hv
  have hx := B.exec
  have hb := B.bytes
  have hr := B.returns
  have hts0 := atoms_spec (ws := w_S_markedPlaces :: TB) B.pre
  have hts := fun w (hw : w ∈ TB) => hts0 w (List.mem_cons_of_mem _ hw)
  have hown : s.vm.findClass RS = some m.cls := findClass_of_methodNamed B.named
  have hlocks := B.notSynchronized
  subst hsz
  have hD := hD0.self (sz := s.heap.size)
  generalize hAe : va_A (WX k a d F V M R) s.heap.size = A at *
  have hA : ∀ q : Nat, s.heap.size ≤ q → A q := fun q h => by rw [← hAe]; exact Or.inr h
  have hS : va_S A s.heap s.heap [] := va_S.rf
  have hl := lv_entry ([.ref (a (3 + i))]) (n := 3) (Nat.le_of_ble_eq_true rfl)
  rw [lg_entry_eq]
  generalize (lg_sl ([.ref (a (3 + i))]) ++ List.replicate (3 - (lg_sl ([.ref (a (3 + i))])).length) Slot.unset).toArray = ls at hl ⊢
  have hl : lv_has ls 3 [(0, .ref (a (3 + i)))] := hl
  refine lv_iconst (v := 0) hx hb d_S_markedPlaces_0 (by decide) ?_
  refine lv_istore_n (lv' := [(1, .int 0), (0, .ref (a (3 + i)))]) hx hb d_S_markedPlaces_1 rfl hl (by decide) rfl (fun ls hl => ?_)
  refine lv_iconst (v := 0) hx hb d_S_markedPlaces_2 (by decide) ?_
  refine lv_istore_n (lv' := [(2, .int 0), (1, .int 0), (0, .ref (a (3 + i)))]) hx hb d_S_markedPlaces_3 rfl hl (by decide) rfl (fun ls hl => ?_)
  generalize hRR : (headSpec (w_S_markedPlaces :: TB) rA1).room = RR
  generalize hQQ : MQ below (vp_Si (fun r => r = nI (bsum (M i) 4))) [.ref (a (3 + i))].toArray s 0 0 (fun _ => False) = QQ
  have loop : ∀ (n j : Nat), j ≤ 4 → 5 ≤ j + n → ∀ (ls : Array Slot), lv_has ls 3 [(1, .int (nI (bsum (M i) j))), (2, .int (nI j)), (0, .ref (a (3 + i)))] → W p l e RR s m [.ref (a (3 + i))].toArray below meth c s.heap [] 0 0 QQ (F0 m 4 ls []) := by
    intro n
    induction n with
    | zero =>
      intro j h1 h2
      exact absurd h2 (by omega)
    | succ n ih =>
      intro j hj hjn ls hl
      refine lv_iload_n hx hb d_S_markedPlaces_4 rfl (lv_at hl 1 rfl) ?_
      refine lv_iconst (v := 4) hx hb d_S_markedPlaces_5 (by decide) ?_
      refine lv_icmp_ge (tgt := 27) hx hb d_S_markedPlaces_6 (by decide) (fun c_6 => ?_) (fun c_6 => ?_)
      · have hj : j = 4 := by
          rcases Nat.lt_or_ge j 4 with q | q
          · exact absurd c_6 (nI_ge q (by decide))
          · omega
        subst hj
        refine lv_iload_n hx hb d_S_markedPlaces_27 rfl (lv_at hl 0 rfl) ?_
        subst hQQ
        exact W.iret (v := nI (bsum (M i) 4)) hx hb hr (fun t ht hW => ⟨_, rfl, rfl, ht⟩) (fun _ h => absurd h List.not_mem_nil) d_S_markedPlaces_28
      · have hlt : j < 4 := by
          rcases Nat.lt_or_ge j 4 with q | q
          · exact q
          · exact absurd (nI_le q (by omega)) c_6
        refine lv_iload_n hx hb d_S_markedPlaces_9 rfl (lv_at hl 0 rfl) ?_
        refine lv_aload_n hx hb d_S_markedPlaces_10 rfl (lv_at hl 2 rfl) ?_
        refine va_get (D := D) (ci := 0) (v := .ref (a (65 + i))) (C := RS) (T := TS) (N := 3) hx hb hts kin_S hown hK hP (i + 3) (wx_s hi) rfl 1 (by decide) (hts _ kf_S_15) (fun _ h9 => h9) rfl d_S_markedPlaces_11 ?_
        refine lv_iload_n hx hb d_S_markedPlaces_14 rfl (lv_at hl 1 rfl) ?_
        refine va_lald hx hb hK hP (i + 65) 0 (wx_m hi) rfl (vp_in_nI hlt (by decide)) d_S_markedPlaces_15 ?_
        rw [nI_clamp (show j < 2 ^ 31 by omega)]
        obtain ⟨x, hx64, ex⟩ := wb_of (M i j)
        rw [ex]
        refine vp_callSi (W.runS (As := [.long (lN x)]) (rest := [.int (nI (bsum (M i) j))]) ⟨hx, hb, hml, hown, hts⟩ (m_J_bitCount l x hx64) (va_cwS 1 hts (TB_g3 kl_S_28 kt_J_bitCount kz_J (TB_c kc_J_bitCount)) rfl rfl rfl (by decide +kernel) (by rw [← hRR]; exact ⟨Nat.le_of_ble_eq_true rfl, Nat.le_of_ble_eq_true rfl⟩)) preEq rfl rfl hl.1 rfl (lv_room (Nat.le_of_ble_eq_true rfl)) d_S_markedPlaces_16 ⟨Nat.zero_le _, Nat.zero_le _⟩) (fun r1 hr1 => ?_)
        refine lv_iadd hx hb d_S_markedPlaces_19 ?_
        refine lv_istore_n (lv' := [(1, .int ((nI (bsum (M i) j)) + (r1))), (2, .int (nI j)), (0, .ref (a (3 + i)))]) hx hb d_S_markedPlaces_20 rfl hl (by decide) rfl (fun ls hl => ?_)
        refine lv_iinc (v := (nI j) + 1) (lv' := [(2, .int ((nI j) + 1)), (1, .int ((nI (bsum (M i) j)) + (r1))), (0, .ref (a (3 + i)))]) hx hb d_S_markedPlaces_21 hl (k := 1) rfl rfl (by decide) rfl (fun ls hl => ?_)
        refine lv_goto (tgt := 4) hx hb d_S_markedPlaces_24 (by decide) ?_
        refine ih (j + 1) hlt (by omega) ls ?_
        have e1 : nI (bsum (M i) j) + r1 = nI (bsum (M i) (j + 1)) := by
          rw [hr1, nI_add]
          show _ = nI (bsum (M i) j + pz_n (M i j).toBitVec.toNat 64)
          rw [ex, wb_tn hx64]
        rw [← e1, ← nI_1 j]
        exact lv_sub hl [1, 0, 2] rfl
  exact loop 5 0 (by omega) (by omega) ls (lv_sub hl [1, 0, 2] rfl)
set_option maxHeartbeats 4000000 in
set_option maxRecDepth 100000 in
/-- all is as in the other state -/
theorem m_S_copyFrom (l : Launch) (D : va_G) (k : Nat → ClassId) (a : Nat → Nat) (d : Int32) (F : Nat → Int64) (V M : Nat → Nat → Int64) (R : Nat → Int32) (i : Nat) (hi : i < 31) (j : Nat) (hj : j < 31) (sz : Nat) : Met l y_S_copyFrom (w_S_copyFrom :: TB) rA1 (va_Pc [.ref (a (3 + i)), .ref (a (3 + j))] (PW D k (WX k a d F V M R) sz)) (va_Qv (fun u : (Nat → Nat → Int64) × (Nat → Nat → Int64) × (Nat → Int32) => u.1 = va_up V i (va_cpy (V j) (V i) 0 0 256) ∧ u.2.1 = va_up M i (va_cpy (M j) (M i) 0 0 4) ∧ u.2.2 = va_up R i (R j)) (fun u t => va_P D wCl (WX k a d F u.1 u.2.1 u.2.2) t.heap) (va_A (WX k a d F V M R) sz)) 0 0 (va_A (WX k a d F V M R) sz) := by
  refine Met.ofW (cc := b_S_copyFrom) (maxL := 2) (ret := none) (by decide) rfl ?_
  intro p e s m args below meth c s₁ B hml hv
  obtain ⟨rfl, hsz, hP, hK, hD0, hE⟩ := hv
  have hx := B.exec
  have hb := B.bytes
  have hr := B.returns
  have hts0 := atoms_spec (ws := w_S_copyFrom :: TB) B.pre
  have hts := fun w (hw : w ∈ TB) => hts0 w (List.mem_cons_of_mem _ hw)
  have hown : s.vm.findClass RS = some m.cls := findClass_of_methodNamed B.named
  have hlocks := B.notSynchronized
  subst hsz
  have hD := hD0.self (sz := s.heap.size)
  generalize hAe : va_A (WX k a d F V M R) s.heap.size = A at *
  have hA : ∀ q : Nat, s.heap.size ≤ q → A q := fun q h => by rw [← hAe]; exact Or.inr h
  have hS : va_S A s.heap s.heap [] := va_S.rf
  have hl := lv_entry ([.ref (a (3 + i)), .ref (a (3 + j))]) (n := 2) (Nat.le_of_ble_eq_true rfl)
  rw [lg_entry_eq]
  generalize (lg_sl ([.ref (a (3 + i)), .ref (a (3 + j))]) ++ List.replicate (2 - (lg_sl ([.ref (a (3 + i)), .ref (a (3 + j))])).length) Slot.unset).toArray = ls at hl ⊢
  have hl : lv_has ls 2 [(0, .ref (a (3 + i))), (1, .ref (a (3 + j)))] := hl
  refine lv_aload_n hx hb d_S_copyFrom_0 rfl (lv_at hl 1 rfl) ?_
  refine va_get (D := D) (ci := 0) (v := .ref (a (34 + j))) (C := RS) (T := TS) (N := 3) hx hb hts kin_S hown hK hP (j + 3) (wx_s hj) rfl 0 (by decide) (hts _ kf_S_9) (fun _ h9 => h9) rfl d_S_copyFrom_1 ?_
  refine lv_iconst (v := 0) hx hb d_S_copyFrom_4 (by decide) ?_
  refine lv_aload_n hx hb d_S_copyFrom_5 rfl (lv_at hl 0 rfl) ?_
  refine va_get (D := D) (ci := 0) (v := .ref (a (34 + i))) (C := RS) (T := TS) (N := 3) hx hb hts kin_S hown hK hP (i + 3) (wx_s hi) rfl 0 (by decide) (hts _ kf_S_9) (fun _ h9 => h9) rfl d_S_copyFrom_6 ?_
  refine lv_iconst (v := 0) hx hb d_S_copyFrom_9 (by decide) ?_
  refine lv_sipush (v := 256) hx hb d_S_copyFrom_10 (by decide) ?_
  refine va_copyl hx hb (hml.trans hl.1.symm) hown (hts _ kl_S_22) (hts _ kn_arraycopyName) (hts _ kt_arraycopyName) (hts _ kz_System) hK hP hD hS (j + 34) (i + 34) 0 0 (wx_v hj) (wx_v hi) rfl rfl rfl (by decide) (by decide) (by decide) (by decide) (by decide) (fun _ _ => rfl) (Nat.le_of_ble_eq_true rfl) (Nat.le_of_ble_eq_true rfl) d_S_copyFrom_13 (fun H locs hP hD hS => ?_)
  have hP := (congrArg (fun w => va_P D wCl w H) (wx_setV hi)).mp hP
  have hD := (congrArg (fun w => va_D A w) (wx_setV hi)).mp hD
  have hP : va_P D wCl (WX k a d F (va_up V i (va_cpy (V j) (V i) 0 0 256)) M R) H := hP
  have hD : va_D A (WX k a d F (va_up V i (va_cpy (V j) (V i) 0 0 256)) M R) := hD
  refine lv_aload_n hx hb d_S_copyFrom_16 rfl (lv_at hl 1 rfl) ?_
  refine va_get (D := D) (ci := 0) (v := .ref (a (65 + j))) (C := RS) (T := TS) (N := 3) hx hb hts kin_S hown hK hP (j + 3) (wx_s hj) rfl 1 (by decide) (hts _ kf_S_15) (fun _ h9 => h9) rfl d_S_copyFrom_17 ?_
  refine lv_iconst (v := 0) hx hb d_S_copyFrom_20 (by decide) ?_
  refine lv_aload_n hx hb d_S_copyFrom_21 rfl (lv_at hl 0 rfl) ?_
  refine va_get (D := D) (ci := 0) (v := .ref (a (65 + i))) (C := RS) (T := TS) (N := 3) hx hb hts kin_S hown hK hP (i + 3) (wx_s hi) rfl 1 (by decide) (hts _ kf_S_15) (fun _ h9 => h9) rfl d_S_copyFrom_22 ?_
  refine lv_iconst (v := 0) hx hb d_S_copyFrom_25 (by decide) ?_
  refine lv_iconst (v := 4) hx hb d_S_copyFrom_26 (by decide) ?_
  refine va_copyl hx hb (hml.trans hl.1.symm) hown (hts _ kl_S_22) (hts _ kn_arraycopyName) (hts _ kt_arraycopyName) (hts _ kz_System) hK hP hD hS (j + 65) (i + 65) 0 0 (wx_m hj) (wx_m hi) rfl rfl rfl (by decide) (by decide) (by decide) (by decide) (by decide) (fun _ _ => rfl) (Nat.le_of_ble_eq_true rfl) (Nat.le_of_ble_eq_true rfl) d_S_copyFrom_27 (fun H locs hP hD hS => ?_)
  have hP := (congrArg (fun w => va_P D wCl w H) (wx_setM hi)).mp hP
  have hD := (congrArg (fun w => va_D A w) (wx_setM hi)).mp hD
  have hP : va_P D wCl (WX k a d F (va_up V i (va_cpy (V j) (V i) 0 0 256)) (va_up M i (va_cpy (M j) (M i) 0 0 4)) R) H := hP
  have hD : va_D A (WX k a d F (va_up V i (va_cpy (V j) (V i) 0 0 256)) (va_up M i (va_cpy (M j) (M i) 0 0 4)) R) := hD
  refine lv_aload_n hx hb d_S_copyFrom_30 rfl (lv_at hl 0 rfl) ?_
  refine lv_aload_n hx hb d_S_copyFrom_31 rfl (lv_at hl 1 rfl) ?_
  refine va_get (D := D) (ci := 0) (v := .int (R j)) (C := RS) (T := TS) (N := 3) hx hb hts kin_S hown hK hP (j + 3) (wx_s hj) rfl 2 (by decide) (hts _ kf_S_18) (fun _ h9 => h9) rfl d_S_copyFrom_32 ?_
  refine va_put (D := D) (ci := 0) (v := .int (R j)) (ty := .int) (C := RS) (T := TS) (N := 3) hx hb hts kin_S tS tyS nmS hown hK hP hD hS (i + 3) (wx_s hi) rfl 2 (by decide) (hts _ kf_S_18) (fun _ h9 => h9) rfl (by decide +kernel) rfl rfl (Nat.le_of_ble_eq_true rfl) d_S_copyFrom_35 (fun H locs hP hD hS => ?_)
  have hP := (congrArg (fun w => va_P D wCl w H) (wx_setR hi)).mp hP
  have hD := (congrArg (fun w => va_D A w) (wx_setR hi)).mp hD
  have hP : va_P D wCl (WX k a d F (va_up V i (va_cpy (V j) (V i) 0 0 256)) (va_up M i (va_cpy (M j) (M i) 0 0 4)) (va_up R i (R j))) H := hP
  have hD : va_D A (WX k a d F (va_up V i (va_cpy (V j) (V i) 0 0 256)) (va_up M i (va_cpy (M j) (M i) 0 0 4)) (va_up R i (R j))) := hD
  exact W.vret hx hb hr (fun t ht hW => ⟨⟨(va_up V i (va_cpy (V j) (V i) 0 0 256), va_up M i (va_cpy (M j) (M i) 0 0 4), va_up R i (R j)), rfl, ⟨rfl, rfl, rfl⟩, atP hP ht⟩, hS.F ht⟩) hS.2.2 d_S_copyFrom_38
set_option maxHeartbeats 4000000 in
set_option maxRecDepth 100000 in
/-- nothing is marked, nothing given back -/
theorem m_S_forgetCosts (l : Launch) (D : va_G) (k : Nat → ClassId) (a : Nat → Nat) (d : Int32) (F : Nat → Int64) (V M : Nat → Nat → Int64) (R : Nat → Int32) (i : Nat) (hi : i < 31) (sz : Nat) : Met l y_S_forgetCosts (w_S_forgetCosts :: TB) rA1 (va_Pc [.ref (a (3 + i))] (PW D k (WX k a d F V M R) sz)) (va_Qv (fun u : (Nat → Nat → Int64) × (Nat → Int32) => (∃ f : Nat → Int64, (∀ q, q < 4 → f q = 0) ∧ u.1 = va_up M i f) ∧ u.2 = va_up R i 0) (fun u t => va_P D wCl (WX k a d F V u.1 u.2) t.heap) (va_A (WX k a d F V M R) sz)) 0 0 (va_A (WX k a d F V M R) sz) := by
  refine Met.ofW (cc := b_S_forgetCosts) (maxL := 2) (ret := none) (by decide) rfl ?_
  intro p e s m args below meth c s₁ B hml hv
  obtain ⟨rfl, hsz, hP, hK, hD0, hE⟩ := hv
  have hx := B.exec
  have hb := B.bytes
  have hr := B.returns
  have hts0 := atoms_spec (ws := w_S_forgetCosts :: TB) B.pre
  have hts := fun w (hw : w ∈ TB) => hts0 w (List.mem_cons_of_mem _ hw)
  have hown : s.vm.findClass RS = some m.cls := findClass_of_methodNamed B.named
  have hlocks := B.notSynchronized
  subst hsz
  have hD := hD0.self (sz := s.heap.size)
  generalize hAe : va_A (WX k a d F V M R) s.heap.size = A at *
  have hA : ∀ q : Nat, s.heap.size ≤ q → A q := fun q h => by rw [← hAe]; exact Or.inr h
  have hS : va_S A s.heap s.heap [] := va_S.rf
  have hl := lv_entry ([.ref (a (3 + i))]) (n := 2) (Nat.le_of_ble_eq_true rfl)
  rw [lg_entry_eq]
  generalize (lg_sl ([.ref (a (3 + i))]) ++ List.replicate (2 - (lg_sl ([.ref (a (3 + i))])).length) Slot.unset).toArray = ls at hl ⊢
  have hl : lv_has ls 2 [(0, .ref (a (3 + i)))] := hl
  refine lv_iconst (v := 0) hx hb d_S_forgetCosts_0 (by decide) ?_
  refine lv_istore_n (lv' := [(1, .int 0), (0, .ref (a (3 + i)))]) hx hb d_S_forgetCosts_1 rfl hl (by decide) rfl (fun ls hl => ?_)
  generalize hRR : (headSpec (w_S_forgetCosts :: TB) rA1).room = RR
  generalize hQQ : MQ below (va_Qv (fun u : (Nat → Nat → Int64) × (Nat → Int32) => (∃ f : Nat → Int64, (∀ q, q < 4 → f q = 0) ∧ u.1 = va_up M i f) ∧ u.2 = va_up R i 0) (fun u t => va_P D wCl (WX k a d F V u.1 u.2) t.heap) A) [.ref (a (3 + i))].toArray s 0 0 A = QQ
  have loop : ∀ (n j : Nat), j ≤ 4 → 5 ≤ j + n → ∀ (f : Nat → Int64), (∀ q, q < j → f q = 0) → ∀ (H : Heap) (locs : List Loc), va_P D wCl (WX k a d F V (va_up M i f) R) H → va_D A (WX k a d F V (va_up M i f) R) → va_S A s.heap H locs → ∀ (ls : Array Slot), lv_has ls 2 [(1, .int (nI j)), (0, .ref (a (3 + i)))] → W p l e RR s m [.ref (a (3 + i))].toArray below meth c H locs 0 0 QQ (F0 m 2 ls []) := by
    intro n
    induction n with
    | zero =>
      intro j h1 h2
      exact absurd h2 (by omega)
    | succ n ih =>
      intro j hj hjn f hf H locs hP hD hS ls hl
      refine lv_iload_n hx hb d_S_forgetCosts_2 rfl (lv_at hl 0 rfl) ?_
      refine lv_iconst (v := 4) hx hb d_S_forgetCosts_3 (by decide) ?_
      refine lv_icmp_ge (tgt := 20) hx hb d_S_forgetCosts_4 (by decide) (fun c_4 => ?_) (fun c_4 => ?_)
      · have hj : j = 4 := by
          rcases Nat.lt_or_ge j 4 with q | q
          · exact absurd c_4 (nI_ge q (by decide))
          · omega
        subst hj
        refine lv_aload_n hx hb d_S_forgetCosts_20 rfl (lv_at hl 1 rfl) ?_
        refine lv_iconst (v := 0) hx hb d_S_forgetCosts_21 (by decide) ?_
        refine va_put (D := D) (ci := 0) (v := .int 0) (ty := .int) (C := RS) (T := TS) (N := 3) hx hb hts kin_S tS tyS nmS hown hK hP hD hS (i + 3) (wx_s hi) rfl 2 (by decide) (hts _ kf_S_18) (fun _ h9 => h9) rfl (by decide +kernel) rfl rfl (Nat.le_of_ble_eq_true rfl) d_S_forgetCosts_22 (fun H locs hP hD hS => ?_)
        have hP := (congrArg (fun w => va_P D wCl w H) (wx_setR hi)).mp hP
        have hD := (congrArg (fun w => va_D A w) (wx_setR hi)).mp hD
        have hP : va_P D wCl (WX k a d F V (va_up M i f) (va_up R i 0)) H := hP
        have hD : va_D A (WX k a d F V (va_up M i f) (va_up R i 0)) := hD
        subst hQQ
        exact W.vret hx hb hr (fun t ht hW => ⟨⟨(va_up M i f, va_up R i 0), rfl, ⟨⟨f, hf, rfl⟩, rfl⟩, atP hP ht⟩, hS.F ht⟩) hS.2.2 d_S_forgetCosts_25
      · have hlt : j < 4 := by
          rcases Nat.lt_or_ge j 4 with q | q
          · exact q
          · exact absurd (nI_le q (by omega)) c_4
        refine lv_aload_n hx hb d_S_forgetCosts_7 rfl (lv_at hl 1 rfl) ?_
        refine va_get (D := D) (ci := 0) (v := .ref (a (65 + i))) (C := RS) (T := TS) (N := 3) hx hb hts kin_S hown hK hP (i + 3) (wx_s hi) rfl 1 (by decide) (hts _ kf_S_15) (fun _ h9 => h9) rfl d_S_forgetCosts_8 ?_
        refine lv_iload_n hx hb d_S_forgetCosts_11 rfl (lv_at hl 0 rfl) ?_
        refine lv_lconst (v := 0) hx hb d_S_forgetCosts_12 (by decide) ?_
        refine va_last hx hb hK hP hD hS (i + 65) 0 (wx_m hi) rfl (vp_in_nI hlt (by decide)) d_S_forgetCosts_13 (fun H locs hP hD hS => ?_)
        have hP := (congrArg (fun w => va_P D wCl w H) (wx_setM hi)).mp hP
        have hD := (congrArg (fun w => va_D A w) (wx_setM hi)).mp hD
        have hP : va_P D wCl (WX k a d F V (va_up (va_up M i f) i (vp_updL ((va_up M i f) i) ((nI j).toNatClampNeg) 0)) R) H := hP
        have hD : va_D A (WX k a d F V (va_up (va_up M i f) i (vp_updL ((va_up M i f) i) ((nI j).toNatClampNeg) 0)) R) := hD
        refine lv_iinc (v := (nI j) + 1) (lv' := [(1, .int ((nI j) + 1)), (0, .ref (a (3 + i)))]) hx hb d_S_forgetCosts_14 hl (k := 0) rfl rfl (by decide) rfl (fun ls hl => ?_)
        refine lv_goto (tgt := 2) hx hb d_S_forgetCosts_17 (by decide) ?_
        rw [nI_clamp (show j < 2 ^ 31 by omega), va_up_self, bx_uu] at hP hD
        refine ih (j + 1) hlt (by omega) (vp_updL f j 0) (fun q hq => ?_) H locs hP hD hS ls ?_
        · by_cases h : q = j
          · rw [h]; exact pk_uLs
          · rw [pk_uLn h]; exact hf q (by omega)
        · rw [← nI_1 j]; exact lv_sub hl [0, 1] rfl
  refine loop 5 0 (by omega) (by omega) (M i) (fun q h => absurd h (Nat.not_lt_zero q)) s.heap [] ?_ ?_ hS ls (lv_sub hl [0, 1] rfl)
  · rw [up_id]; exact hP
  · rw [up_id]; exact hD
end
section
/-! throwing, and the methods of the class -/
abbrev exN : List String := ["java/lang/RuntimeException", "java/lang/Exception"]
set_option maxHeartbeats 4000000 in
theorem thr {p : Program} {l : Launch} {e : Env} {R : Room} {s : State} {m : MethodId} {args : Array Value} {below : List Frame} {meth : Method} {c : Code} {H : Heap} {locs : List Loc} {cells slots mc ms pc : Nat} {cc : ByteArray} {ls : Array Slot} {rest : List Value} {Qc : Array Value → State → Outcome → State → Prop} {XC : String → State → State → Prop} {A : Nat → Prop}
    (hx : p.tables.exec = Jvm.exec) (hb : c.code = cc) (hl0 : l.stackTraces = false) (hts : ∀ w ∈ TB, w.before args s = true) (hown : s.vm.findClass RX = some m.cls) (hE : EV A s) (hS : va_S A s.heap H locs) (hsize : ls.size = c.maxLocals) (htab : ∀ x ∈ c.exceptionTable.toList, False) (hlocks : meth.locks = false)
    {E text : String} {ik is ic sa : Nat} (hfit : Bundle.fit E = true) (kk : Cond.classLink RX ik E ∈ TB) (kz : Cond.initialized E ∈ TB) (kx : ∀ w ∈ vx_atS RX ic E exN, w ∈ TB ++ NB) (kg : ∀ w ∈ vx_atS RX ic E exN, vx_ot w = true) (hstr : vk_R RX is text sa s)
    (d0 : decode cc pc = .ok (.new ik, 3)) (d3 : decode cc (pc + 3) = .ok (.dup, 1)) (d4 : decode cc (pc + 4) = .ok (.ldc is, 2)) (d6 : decode cc (pc + 6) = .ok (.invokespecial ic, 3)) (d9 : decode cc (pc + 9) = .ok (.athrow, 1))
    (hRf : 5 < R.frames) (hRl : (rest.map fun v => v.category).sum + 82 ≤ R.locals) (hRc : cells + 1 ≤ R.cells) (hRs : slots + 6 ≤ R.slots) (hc : cells + 1 ≤ mc) (hs : slots + 6 ≤ ms)
    (hxc : ∀ t : State, s.vm.Alike t.vm → va_F A s t → (∀ q : Nat, q < H.size → t.heap[q]? = H[q]?) → XC E s t) :
    W p l e R s m args below meth c H locs cells slots (vx_MQ below Qc XC args s mc ms A) (F0 m pc ls rest) := by
  have hat : ∀ w ∈ vx_atS RX ic E exN, w.before args s = true := fun w hw => (List.mem_append.mp (kx w hw)).elim (hts w) (fun h => va_Nw.use (NB_on w h) (hE.1 w h))
  refine vx_throwS hx hb hl0 (names := exN) hown hfit (by decide +kernel) (hts _ kk) (hts _ kz) hstr hat (fun w hw => ?_) hE.2.2.2.2.2.2.1 hE.2.2.2.2.2.2.2.1 hS hsize d0 d3 d4 d6 d9 (fun x h => (htab x h).elim) hRf hRl hRc hRs hlocks (fun t hv hz hq => hxc t hv ⟨Nat.le_trans hS.1 hz, fun q h1 h2 => (hq q (Nat.lt_of_lt_of_le h1 hS.1)).trans (hS.2.1 q h1 h2)⟩ hq) hS.2.2 hc hs
  rcases List.mem_cons.mp hw with e | hw
  · rw [e]; rfl
  · rcases List.mem_cons.mp hw with e | hw
    · rw [e]; rfl
    · exact kg w hw
def okP (o p : Int32) : Prop := ∃ u v : Nat, u < 4 ∧ v < 64 ∧ o = nI u ∧ p = nI v
theorem okP_of {o p : Int32} (h1 : ¬ o < 0) (h2 : ¬ 4 ≤ o) (h3 : ¬ p < 0) (h4 : p < 64) : okP o p := by
  obtain ⟨u, hu, rfl⟩ := nI_of h1
  obtain ⟨v, hv, rfl⟩ := nI_of h3
  refine ⟨u, v, ?_, ?_, rfl, rfl⟩
  · rcases Nat.lt_or_ge u 4 with q | q
    · exact q
    · exact absurd (nI_le q hu) h2
  · rcases Nat.lt_or_ge v 64 with q | q
    · exact q
    · exact absurd h4 (nI_nlt q hv)
theorem okP_no1 {o p : Int32} (h : o < 0) : ¬ okP o p := fun ⟨u, v, hu, hv, e1, e2⟩ => nI_pos (show u < 2 ^ 31 by omega) (e1 ▸ h)
theorem okP_no2 {o p : Int32} (h : 4 ≤ o) : ¬ okP o p := fun ⟨u, v, hu, hv, e1, e2⟩ => nI_ge hu (by decide) (show nI 4 ≤ nI u from e1 ▸ h)
theorem okP_no3 {o p : Int32} (h : p < 0) : ¬ okP o p := fun ⟨u, v, hu, hv, e1, e2⟩ => nI_pos (show v < 2 ^ 31 by omega) (e2 ▸ h)
theorem okP_no4 {o p : Int32} (h : ¬ p < 64) : ¬ okP o p := fun ⟨u, v, hu, hv, e1, e2⟩ => h (by rw [e2]; exact (show nI v < nI 64 from nI_lt hv (by decide)))
abbrev rC : Room := { frames := 6, cells := 1, slots := 6, locals := 90 }
abbrev rX : Room := { frames := 8, cells := 1, slots := 6, locals := 130 }
abbrev rX0 : Room := { frames := 3, cells := 0, slots := 0, locals := 100 }
/-- what is so where an exception of that name leaves a method: nothing has changed -/
abbrev XQ (D : va_G) (E0 : String) (C : Prop) (ws : va_W) (A : Nat → Prop) : String → State → State → Prop := vx_X (fun _ : Unit => C) (fun E _ t => E = E0 ∧ va_P D wCl ws t.heap) A
theorem kept_P {D : va_G} {ws : va_W} {H : Heap} {t : State} (hP : va_P D wCl ws H) (hq : ∀ q : Nat, q < H.size → t.heap[q]? = H[q]?) : va_P D wCl ws t.heap := hP.kept (fun k q hk => hq q.1 (hP k q hk).lt)

set_option maxHeartbeats 4000000 in
set_option maxRecDepth 100000 in
theorem m_X_checkPlace (l : Launch) (hl0 : l.stackTraces = false) (D : va_G) (k : Nat → ClassId) (ws : va_W) (o1 p1 : Int32) (sz : Nat) : vx_Met l y_X_checkPlace (w_X_checkPlace :: TB) rC (va_Pc [.int o1, .int p1] (PW D k (ws) sz)) (va_Qv (fun _ : Unit => okP o1 p1) (fun _ t => va_P D wCl (ws) t.heap) (va_A (ws) sz)) (XQ D EIAE (¬ okP o1 p1) (ws) (va_A (ws) sz)) 1 6 (va_A (ws) sz) := by
  refine vx_ofW (cc := b_X_checkPlace) (maxL := 2) (ret := none) (by decide) rfl ?_
  intro p e s m args below meth c s₁ B hml htab hv
  obtain ⟨rfl, hsz, hP, hK, hD0, hE⟩ := hv
  have hx := B.exec
  have hb := B.bytes
  have hr := B.returns
  have hts0 := atoms_spec (ws := w_X_checkPlace :: TB) B.pre
  have hts := fun w (hw : w ∈ TB) => hts0 w (List.mem_cons_of_mem _ hw)
  have hown : s.vm.findClass RX = some m.cls := findClass_of_methodNamed B.named
  have hlocks := B.notSynchronized
  subst hsz
  have hD := hD0.self (sz := s.heap.size)
  generalize hAe : va_A (ws) s.heap.size = A at *
  have hA : ∀ q : Nat, s.heap.size ≤ q → A q := fun q h => by rw [← hAe]; exact Or.inr h
  have hS : va_S A s.heap s.heap [] := va_S.rf
  have hl := lv_entry ([.int o1, .int p1]) (n := 2) (Nat.le_of_ble_eq_true rfl)
  rw [lg_entry_eq]
  generalize (lg_sl ([.int o1, .int p1]) ++ List.replicate (2 - (lg_sl ([.int o1, .int p1])).length) Slot.unset).toArray = ls at hl ⊢
  have hl : lv_has ls 2 [(0, .int o1), (1, .int p1)] := hl
  refine lv_iload_n hx hb d_X_checkPlace_0 rfl (lv_at hl 0 rfl) ?_
  refine lv_if_lt (tgt := 19) hx hb d_X_checkPlace_1 (by decide) (fun c_1 => ?_) (fun c_1 => ?_)
  · obtain ⟨sa, hsa⟩ := hE.2.2.2.2.2.1
    exact thr hx hb hl0 hts hown hE hS (hl.1.trans hml.symm) htab hlocks (by decide +kernel) kk_X_86 kz_IllegalArgumentException kx_IAE kg_IAE hsa d_X_checkPlace_19 d_X_checkPlace_22 d_X_checkPlace_23 d_X_checkPlace_25 d_X_checkPlace_28 (Nat.le_of_ble_eq_true rfl) (Nat.le_of_ble_eq_true rfl) (Nat.le_of_ble_eq_true rfl) (Nat.le_of_ble_eq_true rfl) (Nat.le_of_ble_eq_true rfl) (Nat.le_of_ble_eq_true rfl) (fun t hv9 hF hq => ⟨(), okP_no1 c_1, ⟨rfl, kept_P hP hq⟩, hF⟩)
  · refine lv_iload_n hx hb d_X_checkPlace_4 rfl (lv_at hl 0 rfl) ?_
    refine lv_iconst (v := 4) hx hb d_X_checkPlace_5 (by decide) ?_
    refine lv_icmp_ge (tgt := 19) hx hb d_X_checkPlace_6 (by decide) (fun c_6 => ?_) (fun c_6 => ?_)
    · obtain ⟨sa, hsa⟩ := hE.2.2.2.2.2.1
      exact thr hx hb hl0 hts hown hE hS (hl.1.trans hml.symm) htab hlocks (by decide +kernel) kk_X_86 kz_IllegalArgumentException kx_IAE kg_IAE hsa d_X_checkPlace_19 d_X_checkPlace_22 d_X_checkPlace_23 d_X_checkPlace_25 d_X_checkPlace_28 (Nat.le_of_ble_eq_true rfl) (Nat.le_of_ble_eq_true rfl) (Nat.le_of_ble_eq_true rfl) (Nat.le_of_ble_eq_true rfl) (Nat.le_of_ble_eq_true rfl) (Nat.le_of_ble_eq_true rfl) (fun t hv9 hF hq => ⟨(), okP_no2 c_6, ⟨rfl, kept_P hP hq⟩, hF⟩)
    · refine lv_iload_n hx hb d_X_checkPlace_9 rfl (lv_at hl 1 rfl) ?_
      refine lv_if_lt (tgt := 19) hx hb d_X_checkPlace_10 (by decide) (fun c_10 => ?_) (fun c_10 => ?_)
      · obtain ⟨sa, hsa⟩ := hE.2.2.2.2.2.1
        exact thr hx hb hl0 hts hown hE hS (hl.1.trans hml.symm) htab hlocks (by decide +kernel) kk_X_86 kz_IllegalArgumentException kx_IAE kg_IAE hsa d_X_checkPlace_19 d_X_checkPlace_22 d_X_checkPlace_23 d_X_checkPlace_25 d_X_checkPlace_28 (Nat.le_of_ble_eq_true rfl) (Nat.le_of_ble_eq_true rfl) (Nat.le_of_ble_eq_true rfl) (Nat.le_of_ble_eq_true rfl) (Nat.le_of_ble_eq_true rfl) (Nat.le_of_ble_eq_true rfl) (fun t hv9 hF hq => ⟨(), okP_no3 c_10, ⟨rfl, kept_P hP hq⟩, hF⟩)
      · refine lv_iload_n hx hb d_X_checkPlace_13 rfl (lv_at hl 1 rfl) ?_
        refine lv_bipush (v := 64) hx hb d_X_checkPlace_14 (by decide) ?_
        refine lv_icmp_lt (tgt := 29) hx hb d_X_checkPlace_16 (by decide) (fun c_16 => ?_) (fun c_16 => ?_)
        · refine W.widen (k := 1) (n := 6) (by omega) (by omega) ?_
          refine vx_ret ?_
          exact W.vret hx hb hr (fun t ht hW => ⟨⟨(), rfl, okP_of c_1 c_6 c_10 c_16, atP hP ht⟩, hS.F ht⟩) hS.2.2 d_X_checkPlace_29
        · obtain ⟨sa, hsa⟩ := hE.2.2.2.2.2.1
          exact thr hx hb hl0 hts hown hE hS (hl.1.trans hml.symm) htab hlocks (by decide +kernel) kk_X_86 kz_IllegalArgumentException kx_IAE kg_IAE hsa d_X_checkPlace_19 d_X_checkPlace_22 d_X_checkPlace_23 d_X_checkPlace_25 d_X_checkPlace_28 (Nat.le_of_ble_eq_true rfl) (Nat.le_of_ble_eq_true rfl) (Nat.le_of_ble_eq_true rfl) (Nat.le_of_ble_eq_true rfl) (Nat.le_of_ble_eq_true rfl) (Nat.le_of_ble_eq_true rfl) (fun t hv9 hF hq => ⟨(), okP_no4 c_16, ⟨rfl, kept_P hP hq⟩, hF⟩)
set_option maxHeartbeats 4000000 in
set_option maxRecDepth 100000 in
theorem m_X_load (l : Launch) (hl0 : l.stackTraces = false) (D : va_G) (k : Nat → ClassId) (a : Nat → Nat) (d : Nat) (hd : d ≤ 30) (F : Nat → Int64) (V M : Nat → Nat → Int64) (R : Nat → Int32) (o1 p1 : Int32) (sz : Nat) : vx_Met l y_X_load (w_X_load :: TB) rX (va_Pc [.ref (a 0), .int o1, .int p1] (PW D k (WX k a (nI d) F V M R) sz)) (va_Qi (fun (r : Int32) (M2 : Nat → Nat → Int64) => ∃ u v : Nat, u < 4 ∧ v < 64 ∧ o1 = nI u ∧ p1 = nI v ∧ r = (if tb (M d u) v then 100 else 2100) ∧ M2 = va_up M d (vp_updL (M d) u (tbs (M d u) v))) (fun M2 t => va_P D wCl (WX k a (nI d) F V M2 R) t.heap) (va_A (WX k a (nI d) F V M R) sz)) (XQ D EIAE (¬ okP o1 p1) (WX k a (nI d) F V M R) (va_A (WX k a (nI d) F V M R) sz)) 1 6 (va_A (WX k a (nI d) F V M R) sz) := by
  refine vx_ofW (cc := b_X_load) (maxL := 5) (ret := some .int) (by decide) rfl ?_
  intro p e s m args below meth c s₁ B hml htab hv
  obtain ⟨rfl, hsz, hP, hK, hD0, hE⟩ := hv
  have hx := B.exec
  have hb := B.bytes
  have hr := B.returns
  have hts0 := atoms_spec (ws := w_X_load :: TB) B.pre
  have hts := fun w (hw : w ∈ TB) => hts0 w (List.mem_cons_of_mem _ hw)
  have hown : s.vm.findClass RX = some m.cls := findClass_of_methodNamed B.named
  have hlocks := B.notSynchronized
  subst hsz
  have hD := hD0.self (sz := s.heap.size)
  generalize hAe : va_A (WX k a (nI d) F V M R) s.heap.size = A at *
  have hA : ∀ q : Nat, s.heap.size ≤ q → A q := fun q h => by rw [← hAe]; exact Or.inr h
  have hS : va_S A s.heap s.heap [] := va_S.rf
  have hl := lv_entry ([.ref (a 0), .int o1, .int p1]) (n := 5) (Nat.le_of_ble_eq_true rfl)
  rw [lg_entry_eq]
  generalize (lg_sl ([.ref (a 0), .int o1, .int p1]) ++ List.replicate (5 - (lg_sl ([.ref (a 0), .int o1, .int p1])).length) Slot.unset).toArray = ls at hl ⊢
  have hl : lv_has ls 5 [(0, .ref (a 0)), (1, .int o1), (2, .int p1)] := hl
  have hd31 : d < 31 := by omega
  refine lv_iload_n hx hb d_X_load_0 rfl (lv_at hl 1 rfl) ?_
  refine lv_iload_n hx hb d_X_load_1 rfl (lv_at hl 2 rfl) ?_
  refine vx_callv (vx_runS (As := [.int o1, .int p1]) (rest := []) ⟨hx, hb, hml, hown, hts⟩ (m_X_checkPlace l hl0 D k (WX k a (nI d) F V M R) o1 p1 _) (va_cwS 2 hts (TB_g3 kl_X_56 kt_X_checkPlace kz_X (TB_c kc_X_checkPlace)) rfl rfl rfl (by decide +kernel) ⟨Nat.le_of_ble_eq_true rfl, Nat.le_of_ble_eq_true rfl⟩) ⟨PW.bl, fun U hU hW => ⟨rfl, PW.go hK hP hD hS hA hE hU hW⟩⟩ rfl rfl hl.1 rfl (lv_room (Nat.le_of_ble_eq_true rfl)) d_X_load_2 ⟨Nat.le_of_ble_eq_true rfl, Nat.le_of_ble_eq_true rfl⟩) hS (fun q _ h => cut_F hD hS hA q h) (cut_F hD hS hA) (fun q _ h => cut_F hD hS hA q h) (fun E ce q9 u t H1 locs1 ht hvm px hBX hz hk hS hcell hv9 hcl => ?_) (fun u t H1 locs1 ht hvm hpost hB hz hk hS => ?_)
  · obtain ⟨rfl, hB⟩ := hBX
    have hB : va_P D wCl (WX k a (nI d) F V M R) H1 := by rw [← ht]; exact hB
    exact vx_out (fun x h => (htab x h).elim) hlocks hcell hv9 hcl (fun t ht hvm => ⟨(), px, ⟨rfl, atP hB ht⟩, hS.F ht⟩) hS.2.2 (Nat.le_refl _) (Nat.le_refl _)
  rw [ht] at hB
  have hP := hB
  generalize H1 = H at hP hS ⊢
  generalize locs1 = locs at hS ⊢
  obtain ⟨u1, v1, hu, hv, rfl, rfl⟩ := hpost
  refine lv_aload_n hx hb d_X_load_5 rfl (lv_at hl 0 rfl) ?_
  refine va_get (D := D) (ci := 1) (v := .ref (a 2)) (C := RX) (T := TX) (N := 3) hx hb hts kin_X hown hK hP 0 rfl rfl 1 (by decide) (hts _ kf_X_15) (fun _ h9 => h9) rfl d_X_load_6 ?_
  refine lv_aload_n hx hb d_X_load_9 rfl (lv_at hl 0 rfl) ?_
  refine va_get (D := D) (ci := 1) (v := .int (nI d)) (C := RX) (T := TX) (N := 3) hx hb hts kin_X hown hK hP 0 rfl rfl 2 (by decide) (hts _ kf_X_19) (fun _ h9 => h9) rfl d_X_load_10 ?_
  refine va_aldq hx hb hK hP 2 1 rfl rfl (vp_in_nI hd31 (by decide)) d_X_load_13 ?_
  rw [show ((nI d) : Int32).toNatClampNeg = d from nI_clamp (by omega)]
  refine W.eq (g2 := F0 m 14 ls [.ref (a (3 + d))]) rfl ?_
  refine lv_astore_n (lv' := [(3, .ref (a (3 + d))), (0, .ref (a 0)), (1, .int (nI u1)), (2, .int (nI v1))]) hx hb d_X_load_14 rfl hl (by decide) rfl (fun ls hl => ?_)
  refine lv_aload_n hx hb d_X_load_15 rfl (lv_at hl 0 rfl) ?_
  refine lv_iload_n hx hb d_X_load_16 rfl (lv_at hl 2 rfl) ?_
  refine lv_iload_n hx hb d_X_load_17 rfl (lv_at hl 3 rfl) ?_
  refine vp_callSi (va_runVN (As := [.int (nI u1), .int (nI v1)]) (rest := []) (C := RS) (host := RX) ⟨hx, hb, hml, hown, hts⟩ (m_S_isMarked l D k a (nI d) F V M R d hd31 u1 v1 hu hv _) ⟨va_cnB 2 hts (TB_c kc_S_isMarked) rfl rfl rfl (hE.1 _ nl_X_60) (hts _ kz_S) (by decide +kernel) ⟨Nat.le_of_ble_eq_true rfl, Nat.le_of_ble_eq_true rfl⟩, hts _ ki_S_isMarked, hts _ ks_S_isMarked⟩ ⟨PW.bl, va_recv (q := (RS, TS, 3)) hK hP rfl (wx_s hd31), fun U hU hW => ⟨rfl, PW.go hK hP hD hS hA hE hU hW⟩⟩ rfl rfl hl.1 rfl (lv_room (Nat.le_of_ble_eq_true rfl)) d_X_load_18 ⟨Nat.le_of_ble_eq_true rfl, Nat.le_of_ble_eq_true rfl⟩).run (fun r1 hr1 => ?_)
  refine lv_if_eq (tgt := 29) hx hb d_X_load_21 (by decide) (fun c_21 => ?_) (fun c_21 => ?_)
  · refine lv_sipush (v := 2100) hx hb d_X_load_29 (by decide) ?_
    refine lv_istore (lv' := [(4, .int 2100), (3, .ref (a (3 + d))), (0, .ref (a 0)), (1, .int (nI u1)), (2, .int (nI v1))]) hx hb d_X_load_32 hl (by decide) rfl (fun ls hl => ?_)
    refine lv_aload_n hx hb d_X_load_34 rfl (lv_at hl 1 rfl) ?_
    refine lv_iload_n hx hb d_X_load_35 rfl (lv_at hl 3 rfl) ?_
    refine lv_iload_n hx hb d_X_load_36 rfl (lv_at hl 4 rfl) ?_
    refine va_callv (va_runVN (As := [.int (nI u1), .int (nI v1)]) (rest := []) (C := RS) (host := RX) ⟨hx, hb, hml, hown, hts⟩ (m_S_mark l D k a (nI d) F V M R d hd31 u1 v1 hu hv _) ⟨va_cnB 2 hts (TB_c kc_S_mark) rfl rfl rfl (hE.1 _ nl_X_64) (hts _ kz_S) (by decide +kernel) ⟨Nat.le_of_ble_eq_true rfl, Nat.le_of_ble_eq_true rfl⟩, hts _ ki_S_mark, hts _ ks_S_mark⟩ ⟨PW.bl, va_recv (q := (RS, TS, 3)) hK hP rfl (wx_s hd31), fun U hU hW => ⟨rfl, PW.go hK hP hD hS hA hE hU hW⟩⟩ rfl rfl hl.1 rfl (lv_room (Nat.le_of_ble_eq_true rfl)) d_X_load_37 ⟨Nat.le_of_ble_eq_true rfl, Nat.le_of_ble_eq_true rfl⟩) hS (fun q _ h => cut_F hD hS hA q h) (cut_F hD hS hA) (fun uu t H1 locs1 ht hvm hpost hB hz hk hS => ?_)
    rw [ht] at hB
    subst hpost
    have hP := hB
    have hD := hD.ad (wx_ad : (WX k a (nI d) F V (va_up M d (vp_updL (M d) u1 (tbs (M d u1) v1))) R).map Prod.fst = _)
    generalize H1 = H at hP hS ⊢
    generalize locs1 = locs at hS ⊢
    refine lv_iload hx hb d_X_load_40 (lv_at hl 0 rfl) ?_
    have er : (2100 : Int32) = (if tb (M d u1) v1 then 100 else 2100) := by
      rw [hr1] at c_21
      cases hq : tb (M d u1) v1 <;> rw [hq] at c_21 <;> first | rfl | exact absurd rfl c_21 | exact absurd c_21 (by decide)
    refine vx_ret ?_
    exact W.iret (v := 2100) hx hb hr (fun t ht hW => ⟨⟨_, va_up M d (vp_updL (M d) u1 (tbs (M d u1) v1)), rfl, ⟨u1, v1, hu, hv, rfl, rfl, er, rfl⟩, atP hP ht⟩, hS.F ht⟩) hS.2.2 d_X_load_42
  · refine lv_bipush (v := 100) hx hb d_X_load_24 (by decide) ?_
    refine lv_goto (tgt := 32) hx hb d_X_load_26 (by decide) ?_
    refine lv_istore (lv' := [(4, .int 100), (3, .ref (a (3 + d))), (0, .ref (a 0)), (1, .int (nI u1)), (2, .int (nI v1))]) hx hb d_X_load_32 hl (by decide) rfl (fun ls hl => ?_)
    refine lv_aload_n hx hb d_X_load_34 rfl (lv_at hl 1 rfl) ?_
    refine lv_iload_n hx hb d_X_load_35 rfl (lv_at hl 3 rfl) ?_
    refine lv_iload_n hx hb d_X_load_36 rfl (lv_at hl 4 rfl) ?_
    refine va_callv (va_runVN (As := [.int (nI u1), .int (nI v1)]) (rest := []) (C := RS) (host := RX) ⟨hx, hb, hml, hown, hts⟩ (m_S_mark l D k a (nI d) F V M R d hd31 u1 v1 hu hv _) ⟨va_cnB 2 hts (TB_c kc_S_mark) rfl rfl rfl (hE.1 _ nl_X_64) (hts _ kz_S) (by decide +kernel) ⟨Nat.le_of_ble_eq_true rfl, Nat.le_of_ble_eq_true rfl⟩, hts _ ki_S_mark, hts _ ks_S_mark⟩ ⟨PW.bl, va_recv (q := (RS, TS, 3)) hK hP rfl (wx_s hd31), fun U hU hW => ⟨rfl, PW.go hK hP hD hS hA hE hU hW⟩⟩ rfl rfl hl.1 rfl (lv_room (Nat.le_of_ble_eq_true rfl)) d_X_load_37 ⟨Nat.le_of_ble_eq_true rfl, Nat.le_of_ble_eq_true rfl⟩) hS (fun q _ h => cut_F hD hS hA q h) (cut_F hD hS hA) (fun uu t H1 locs1 ht hvm hpost hB hz hk hS => ?_)
    rw [ht] at hB
    subst hpost
    have hP := hB
    have hD := hD.ad (wx_ad : (WX k a (nI d) F V (va_up M d (vp_updL (M d) u1 (tbs (M d u1) v1))) R).map Prod.fst = _)
    generalize H1 = H at hP hS ⊢
    generalize locs1 = locs at hS ⊢
    refine lv_iload hx hb d_X_load_40 (lv_at hl 0 rfl) ?_
    have er : (100 : Int32) = (if tb (M d u1) v1 then 100 else 2100) := by
      rw [hr1] at c_21
      cases hq : tb (M d u1) v1 <;> rw [hq] at c_21 <;> first | rfl | exact absurd rfl c_21 | exact absurd c_21 (by decide)
    refine vx_ret ?_
    exact W.iret (v := 100) hx hb hr (fun t ht hW => ⟨⟨_, va_up M d (vp_updL (M d) u1 (tbs (M d u1) v1)), rfl, ⟨u1, v1, hu, hv, rfl, rfl, er, rfl⟩, atP hP ht⟩, hS.F ht⟩) hS.2.2 d_X_load_42
end
section
/-! the class, further methods -/
set_option maxHeartbeats 4000000 in
set_option maxRecDepth 100000 in
theorem m_X_touched (l : Launch) (hl0 : l.stackTraces = false) (D : va_G) (k : Nat → ClassId) (a : Nat → Nat) (d : Nat) (hd : d ≤ 30) (F : Nat → Int64) (V M : Nat → Nat → Int64) (R : Nat → Int32) (o1 p1 : Int32) (sz : Nat) : vx_Met l y_X_touched (w_X_touched :: TB) rX (va_Pc [.ref (a 0), .int o1, .int p1] (PW D k (WX k a (nI d) F V M R) sz)) (va_Qi (fun (r : Int32) (_ : Unit) => ∃ u v : Nat, u < 4 ∧ v < 64 ∧ o1 = nI u ∧ p1 = nI v ∧ r = (if tb (M d u) v then 1 else 0)) (fun _ t => va_P D wCl (WX k a (nI d) F V M R) t.heap) (va_A (WX k a (nI d) F V M R) sz)) (XQ D EIAE (¬ okP o1 p1) (WX k a (nI d) F V M R) (va_A (WX k a (nI d) F V M R) sz)) 1 6 (va_A (WX k a (nI d) F V M R) sz) := by
  refine vx_ofW (cc := b_X_touched) (maxL := 3) (ret := some .boolean) (by decide) rfl ?_
  intro p e s m args below meth c s₁ B hml htab hv
  obtain ⟨rfl, hsz, hP, hK, hD0, hE⟩ := hv
  have hx := B.exec
  have hb := B.bytes
  have hr := B.returns
  have hts0 := atoms_spec (ws := w_X_touched :: TB) B.pre
  have hts := fun w (hw : w ∈ TB) => hts0 w (List.mem_cons_of_mem _ hw)
  have hown : s.vm.findClass RX = some m.cls := findClass_of_methodNamed B.named
  have hlocks := B.notSynchronized
  subst hsz
  have hD := hD0.self (sz := s.heap.size)
  generalize hAe : va_A (WX k a (nI d) F V M R) s.heap.size = A at *
  have hA : ∀ q : Nat, s.heap.size ≤ q → A q := fun q h => by rw [← hAe]; exact Or.inr h
  have hS : va_S A s.heap s.heap [] := va_S.rf
  have hl := lv_entry ([.ref (a 0), .int o1, .int p1]) (n := 3) (Nat.le_of_ble_eq_true rfl)
  rw [lg_entry_eq]
  generalize (lg_sl ([.ref (a 0), .int o1, .int p1]) ++ List.replicate (3 - (lg_sl ([.ref (a 0), .int o1, .int p1])).length) Slot.unset).toArray = ls at hl ⊢
  have hl : lv_has ls 3 [(0, .ref (a 0)), (1, .int o1), (2, .int p1)] := hl
  have hd31 : d < 31 := by omega
  refine lv_iload_n hx hb d_X_touched_0 rfl (lv_at hl 1 rfl) ?_
  refine lv_iload_n hx hb d_X_touched_1 rfl (lv_at hl 2 rfl) ?_
  refine vx_callv (vx_runS (As := [.int o1, .int p1]) (rest := []) ⟨hx, hb, hml, hown, hts⟩ (m_X_checkPlace l hl0 D k (WX k a (nI d) F V M R) o1 p1 _) (va_cwS 2 hts (TB_g3 kl_X_56 kt_X_checkPlace kz_X (TB_c kc_X_checkPlace)) rfl rfl rfl (by decide +kernel) ⟨Nat.le_of_ble_eq_true rfl, Nat.le_of_ble_eq_true rfl⟩) ⟨PW.bl, fun U hU hW => ⟨rfl, PW.go hK hP hD hS hA hE hU hW⟩⟩ rfl rfl hl.1 rfl (lv_room (Nat.le_of_ble_eq_true rfl)) d_X_touched_2 ⟨Nat.le_of_ble_eq_true rfl, Nat.le_of_ble_eq_true rfl⟩) hS (fun q _ h => cut_F hD hS hA q h) (cut_F hD hS hA) (fun q _ h => cut_F hD hS hA q h) (fun E ce q9 u t H1 locs1 ht hvm px hBX hz hk hS hcell hv9 hcl => ?_) (fun u t H1 locs1 ht hvm hpost hB hz hk hS => ?_)
  · obtain ⟨rfl, hB⟩ := hBX
    have hB : va_P D wCl (WX k a (nI d) F V M R) H1 := by rw [← ht]; exact hB
    exact vx_out (fun x h => (htab x h).elim) hlocks hcell hv9 hcl (fun t ht hvm => ⟨(), px, ⟨rfl, atP hB ht⟩, hS.F ht⟩) hS.2.2 (Nat.le_refl _) (Nat.le_refl _)
  rw [ht] at hB
  have hP := hB
  generalize H1 = H at hP hS ⊢
  generalize locs1 = locs at hS ⊢
  obtain ⟨u1, v1, hu, hv, rfl, rfl⟩ := hpost
  refine lv_aload_n hx hb d_X_touched_5 rfl (lv_at hl 0 rfl) ?_
  refine va_get (D := D) (ci := 1) (v := .ref (a 2)) (C := RX) (T := TX) (N := 3) hx hb hts kin_X hown hK hP 0 rfl rfl 1 (by decide) (hts _ kf_X_15) (fun _ h9 => h9) rfl d_X_touched_6 ?_
  refine lv_aload_n hx hb d_X_touched_9 rfl (lv_at hl 0 rfl) ?_
  refine va_get (D := D) (ci := 1) (v := .int (nI d)) (C := RX) (T := TX) (N := 3) hx hb hts kin_X hown hK hP 0 rfl rfl 2 (by decide) (hts _ kf_X_19) (fun _ h9 => h9) rfl d_X_touched_10 ?_
  refine va_aldq hx hb hK hP 2 1 rfl rfl (vp_in_nI hd31 (by decide)) d_X_touched_13 ?_
  rw [show ((nI d) : Int32).toNatClampNeg = d from nI_clamp (by omega)]
  refine W.eq (g2 := F0 m 14 ls [.ref (a (3 + d))]) rfl ?_
  refine lv_iload_n hx hb d_X_touched_14 rfl (lv_at hl 1 rfl) ?_
  refine lv_iload_n hx hb d_X_touched_15 rfl (lv_at hl 2 rfl) ?_
  refine vp_callSi (va_runVN (As := [.int (nI u1), .int (nI v1)]) (rest := []) (C := RS) (host := RX) ⟨hx, hb, hml, hown, hts⟩ (m_S_isMarked l D k a (nI d) F V M R d hd31 u1 v1 hu hv _) ⟨va_cnB 2 hts (TB_c kc_S_isMarked) rfl rfl rfl (hE.1 _ nl_X_60) (hts _ kz_S) (by decide +kernel) ⟨Nat.le_of_ble_eq_true rfl, Nat.le_of_ble_eq_true rfl⟩, hts _ ki_S_isMarked, hts _ ks_S_isMarked⟩ ⟨PW.bl, va_recv (q := (RS, TS, 3)) hK hP rfl (wx_s hd31), fun U hU hW => ⟨rfl, PW.go hK hP hD hS hA hE hU hW⟩⟩ rfl rfl hl.1 rfl (lv_room (Nat.le_of_ble_eq_true rfl)) d_X_touched_16 ⟨Nat.le_of_ble_eq_true rfl, Nat.le_of_ble_eq_true rfl⟩).run (fun r1 hr1 => ?_)
  refine vx_ret ?_
  exact W.zret (v := r1) hx hb hr (by rw [hr1]; split <;> rfl) (fun t ht hW => ⟨⟨_, (), rfl, ⟨u1, v1, hu, hv, rfl, rfl, hr1⟩, atP hP ht⟩, hS.F ht⟩) hS.2.2 d_X_touched_19
set_option maxHeartbeats 4000000 in
set_option maxRecDepth 100000 in
theorem m_X_held (l : Launch) (hl0 : l.stackTraces = false) (D : va_G) (k : Nat → ClassId) (a : Nat → Nat) (d : Nat) (hd : d ≤ 30) (F : Nat → Int64) (V M : Nat → Nat → Int64) (R : Nat → Int32) (o1 p1 z : Int32) (sz : Nat) : vx_Met l y_X_held (w_X_held :: TB) rX (va_Pc [.ref (a 0), .int o1, .int p1, .int z] (PW D k (WX k a (nI d) F V M R) sz)) (va_Ql (fun (r : Int64) (_ : Unit) => ∃ u v : Nat, u < 4 ∧ v < 64 ∧ o1 = nI u ∧ p1 = nI v ∧ r = (if z = 0 then V d (u * 64 + v) else F (u * 64 + v))) (fun _ t => va_P D wCl (WX k a (nI d) F V M R) t.heap) (va_A (WX k a (nI d) F V M R) sz)) (XQ D EIAE (¬ okP o1 p1) (WX k a (nI d) F V M R) (va_A (WX k a (nI d) F V M R) sz)) 1 6 (va_A (WX k a (nI d) F V M R) sz) := by
  refine vx_ofW (cc := b_X_held) (maxL := 5) (ret := some .long) (by decide) rfl ?_
  intro p e s m args below meth c s₁ B hml htab hv
  obtain ⟨rfl, hsz, hP, hK, hD0, hE⟩ := hv
  have hx := B.exec
  have hb := B.bytes
  have hr := B.returns
  have hts0 := atoms_spec (ws := w_X_held :: TB) B.pre
  have hts := fun w (hw : w ∈ TB) => hts0 w (List.mem_cons_of_mem _ hw)
  have hown : s.vm.findClass RX = some m.cls := findClass_of_methodNamed B.named
  have hlocks := B.notSynchronized
  subst hsz
  have hD := hD0.self (sz := s.heap.size)
  generalize hAe : va_A (WX k a (nI d) F V M R) s.heap.size = A at *
  have hA : ∀ q : Nat, s.heap.size ≤ q → A q := fun q h => by rw [← hAe]; exact Or.inr h
  have hS : va_S A s.heap s.heap [] := va_S.rf
  have hl := lv_entry ([.ref (a 0), .int o1, .int p1, .int z]) (n := 5) (Nat.le_of_ble_eq_true rfl)
  rw [lg_entry_eq]
  generalize (lg_sl ([.ref (a 0), .int o1, .int p1, .int z]) ++ List.replicate (5 - (lg_sl ([.ref (a 0), .int o1, .int p1, .int z])).length) Slot.unset).toArray = ls at hl ⊢
  have hl : lv_has ls 5 [(0, .ref (a 0)), (1, .int o1), (2, .int p1), (3, .int z)] := hl
  have hd31 : d < 31 := by omega
  refine lv_iload_n hx hb d_X_held_0 rfl (lv_at hl 1 rfl) ?_
  refine lv_iload_n hx hb d_X_held_1 rfl (lv_at hl 2 rfl) ?_
  refine vx_callv (vx_runS (As := [.int o1, .int p1]) (rest := []) ⟨hx, hb, hml, hown, hts⟩ (m_X_checkPlace l hl0 D k (WX k a (nI d) F V M R) o1 p1 _) (va_cwS 2 hts (TB_g3 kl_X_56 kt_X_checkPlace kz_X (TB_c kc_X_checkPlace)) rfl rfl rfl (by decide +kernel) ⟨Nat.le_of_ble_eq_true rfl, Nat.le_of_ble_eq_true rfl⟩) ⟨PW.bl, fun U hU hW => ⟨rfl, PW.go hK hP hD hS hA hE hU hW⟩⟩ rfl rfl hl.1 rfl (lv_room (Nat.le_of_ble_eq_true rfl)) d_X_held_2 ⟨Nat.le_of_ble_eq_true rfl, Nat.le_of_ble_eq_true rfl⟩) hS (fun q _ h => cut_F hD hS hA q h) (cut_F hD hS hA) (fun q _ h => cut_F hD hS hA q h) (fun E ce q9 u t H1 locs1 ht hvm px hBX hz hk hS hcell hv9 hcl => ?_) (fun u t H1 locs1 ht hvm hpost hB hz hk hS => ?_)
  · obtain ⟨rfl, hB⟩ := hBX
    have hB : va_P D wCl (WX k a (nI d) F V M R) H1 := by rw [← ht]; exact hB
    exact vx_out (fun x h => (htab x h).elim) hlocks hcell hv9 hcl (fun t ht hvm => ⟨(), px, ⟨rfl, atP hB ht⟩, hS.F ht⟩) hS.2.2 (Nat.le_refl _) (Nat.le_refl _)
  rw [ht] at hB
  have hP := hB
  generalize H1 = H at hP hS ⊢
  generalize locs1 = locs at hS ⊢
  obtain ⟨u1, v1, hu, hv, rfl, rfl⟩ := hpost
  refine lv_iload_n hx hb d_X_held_5 rfl (lv_at hl 1 rfl) ?_
  refine lv_iload_n hx hb d_X_held_6 rfl (lv_at hl 2 rfl) ?_
  refine vp_callSi (W.runS (As := [.int (nI u1), .int (nI v1)]) (rest := []) ⟨hx, hb, hml, hown, hts⟩ (m_X_cellOf l (nI u1) (nI v1)) (va_cwS 2 hts (TB_g3 kl_X_67 kt_X_cellOf kz_X (TB_c kc_X_cellOf)) rfl rfl rfl (by decide +kernel) ⟨Nat.le_of_ble_eq_true rfl, Nat.le_of_ble_eq_true rfl⟩) preEq rfl rfl hl.1 rfl (lv_room (Nat.le_of_ble_eq_true rfl)) d_X_held_7 ⟨Nat.le_of_ble_eq_true rfl, Nat.le_of_ble_eq_true rfl⟩) (fun r1 hr1 => ?_)
  obtain rfl : r1 = nI (u1 * 64 + v1) := by rw [hr1, ← nI_add, ← pk_mul]; rfl
  have hc : u1 * 64 + v1 < 256 := by omega
  refine lv_istore (lv' := [(4, .int (nI (u1 * 64 + v1))), (0, .ref (a 0)), (1, .int (nI u1)), (2, .int (nI v1)), (3, .int z)]) hx hb d_X_held_10 hl (by decide) rfl (fun ls hl => ?_)
  refine lv_iload_n hx hb d_X_held_12 rfl (lv_at hl 4 rfl) ?_
  refine lv_if_eq (tgt := 26) hx hb d_X_held_13 (by decide) (fun c_13 => ?_) (fun c_13 => ?_)
  · refine lv_aload_n hx hb d_X_held_26 rfl (lv_at hl 1 rfl) ?_
    refine va_get (D := D) (ci := 1) (v := .ref (a 2)) (C := RX) (T := TX) (N := 3) hx hb hts kin_X hown hK hP 0 rfl rfl 1 (by decide) (hts _ kf_X_15) (fun _ h9 => h9) rfl d_X_held_27 ?_
    refine lv_aload_n hx hb d_X_held_30 rfl (lv_at hl 1 rfl) ?_
    refine va_get (D := D) (ci := 1) (v := .int (nI d)) (C := RX) (T := TX) (N := 3) hx hb hts kin_X hown hK hP 0 rfl rfl 2 (by decide) (hts _ kf_X_19) (fun _ h9 => h9) rfl d_X_held_31 ?_
    refine va_aldq hx hb hK hP 2 1 rfl rfl (vp_in_nI hd31 (by decide)) d_X_held_34 ?_
    rw [show ((nI d) : Int32).toNatClampNeg = d from nI_clamp (by omega)]
    refine W.eq (g2 := F0 m 35 ls [.ref (a (3 + d))]) rfl ?_
    refine va_getN (D := D) (host := RX) (ci := 0) (v := .ref (a (34 + d))) (C := RS) (T := TS) (N := 3) hx hb hts kin_S hown hK hP (d + 3) (wx_s hd31) rfl 0 (by decide) (va_Nw.use rfl (hE.1 _ nf_X_31)) (fun _ h9 => h9) rfl d_X_held_35 ?_
    refine lv_iload hx hb d_X_held_38 (lv_at hl 0 rfl) ?_
    refine va_lald hx hb hK hP (d + 34) 0 (wx_v hd31) rfl (vp_in_nI hc (by decide)) d_X_held_40 ?_
    rw [nI_clamp (show u1 * 64 + v1 < 2 ^ 31 by omega)]
    refine vx_ret ?_
    exact W.lret (v := V d (u1 * 64 + v1)) hx hb hr (fun t ht hW => ⟨⟨_, (), rfl, ⟨u1, v1, hu, hv, rfl, rfl, (if_pos c_13).symm⟩, atP hP ht⟩, hS.F ht⟩) hS.2.2 d_X_held_41
  · refine lv_aload_n hx hb d_X_held_16 rfl (lv_at hl 1 rfl) ?_
    refine va_get (D := D) (ci := 1) (v := .ref (a 1)) (C := RX) (T := TX) (N := 3) hx hb hts kin_X hown hK hP 0 rfl rfl 0 (by decide) (hts _ kf_X_9) (fun _ h9 => h9) rfl d_X_held_17 ?_
    refine lv_iload hx hb d_X_held_20 (lv_at hl 0 rfl) ?_
    refine va_lald hx hb hK hP 1 0 rfl rfl (vp_in_nI hc (by decide)) d_X_held_22 ?_
    rw [nI_clamp (show u1 * 64 + v1 < 2 ^ 31 by omega)]
    refine lv_goto (tgt := 41) hx hb d_X_held_23 (by decide) ?_
    refine vx_ret ?_
    exact W.lret (v := F (u1 * 64 + v1)) hx hb hr (fun t ht hW => ⟨⟨_, (), rfl, ⟨u1, v1, hu, hv, rfl, rfl, (if_neg c_13).symm⟩, atP hP ht⟩, hS.F ht⟩) hS.2.2 d_X_held_41
set_option maxHeartbeats 4000000 in
set_option maxRecDepth 100000 in
theorem m_X_count (l : Launch) (hl0 : l.stackTraces = false) (D : va_G) (k : Nat → ClassId) (a : Nat → Nat) (d : Nat) (hd : d ≤ 30) (F : Nat → Int64) (V M : Nat → Nat → Int64) (R : Nat → Int32) (z : Int32) (sz : Nat) : vx_Met l y_X_count (w_X_count :: TB) rX (va_Pc [.ref (a 0), .int z] (PW D k (WX k a (nI d) F V M R) sz)) (va_Qi (fun (r : Int32) (_ : Unit) => ∃ q : Nat, q < 4 ∧ z = nI q ∧ (q = 0 → r = R d) ∧ (q = 1 → r = nI (bsum (M d) 4)) ∧ (q = 2 → r = nI d) ∧ (q = 3 → r = nI (cnt (V d) 256))) (fun _ t => va_P D wCl (WX k a (nI d) F V M R) t.heap) (va_A (WX k a (nI d) F V M R) sz)) (XQ D EIAE (¬ ∃ q : Nat, q < 4 ∧ z = nI q) (WX k a (nI d) F V M R) (va_A (WX k a (nI d) F V M R) sz)) 1 6 (va_A (WX k a (nI d) F V M R) sz) := by
  refine vx_ofW (cc := b_X_count) (maxL := 3) (ret := some .int) (by decide) rfl ?_
  intro p e s m args below meth c s₁ B hml htab hv
  obtain ⟨rfl, hsz, hP, hK, hD0, hE⟩ := hv
  have hx := B.exec
  have hb := B.bytes
  have hr := B.returns
  have hts0 := atoms_spec (ws := w_X_count :: TB) B.pre
  have hts := fun w (hw : w ∈ TB) => hts0 w (List.mem_cons_of_mem _ hw)
  have hown : s.vm.findClass RX = some m.cls := findClass_of_methodNamed B.named
  have hlocks := B.notSynchronized
  subst hsz
  have hD := hD0.self (sz := s.heap.size)
  generalize hAe : va_A (WX k a (nI d) F V M R) s.heap.size = A at *
  have hA : ∀ q : Nat, s.heap.size ≤ q → A q := fun q h => by rw [← hAe]; exact Or.inr h
  have hS : va_S A s.heap s.heap [] := va_S.rf
  have hl := lv_entry ([.ref (a 0), .int z]) (n := 3) (Nat.le_of_ble_eq_true rfl)
  rw [lg_entry_eq]
  generalize (lg_sl ([.ref (a 0), .int z]) ++ List.replicate (3 - (lg_sl ([.ref (a 0), .int z])).length) Slot.unset).toArray = ls at hl ⊢
  have hl : lv_has ls 3 [(0, .ref (a 0)), (1, .int z)] := hl
  have hd31 : d < 31 := by omega
  refine lv_aload_n hx hb d_X_count_0 rfl (lv_at hl 0 rfl) ?_
  refine va_get (D := D) (ci := 1) (v := .ref (a 2)) (C := RX) (T := TX) (N := 3) hx hb hts kin_X hown hK hP 0 rfl rfl 1 (by decide) (hts _ kf_X_15) (fun _ h9 => h9) rfl d_X_count_1 ?_
  refine lv_aload_n hx hb d_X_count_4 rfl (lv_at hl 0 rfl) ?_
  refine va_get (D := D) (ci := 1) (v := .int (nI d)) (C := RX) (T := TX) (N := 3) hx hb hts kin_X hown hK hP 0 rfl rfl 2 (by decide) (hts _ kf_X_19) (fun _ h9 => h9) rfl d_X_count_5 ?_
  refine va_aldq hx hb hK hP 2 1 rfl rfl (vp_in_nI hd31 (by decide)) d_X_count_8 ?_
  rw [show ((nI d) : Int32).toNatClampNeg = d from nI_clamp (by omega)]
  refine W.eq (g2 := F0 m 9 ls [.ref (a (3 + d))]) rfl ?_
  refine lv_astore_n (lv' := [(2, .ref (a (3 + d))), (0, .ref (a 0)), (1, .int z)]) hx hb d_X_count_9 rfl hl (by decide) rfl (fun ls hl => ?_)
  refine lv_iload_n hx hb d_X_count_10 rfl (lv_at hl 2 rfl) ?_
  rcases pk_ix z (n := 4) (by decide) with hz | hz | ⟨q, hq, rfl⟩
  · refine lv_tableOut (tgt := 60) hx hb d_X_count_11 (Or.inl (by have := Int32.lt_iff_toInt_lt.mp hz; exact this)) (by decide) ?_
    obtain ⟨sa, hsa⟩ := hE.2.2.2.2.1
    exact thr hx hb hl0 hts hown hE hS (hl.1.trans hml.symm) htab hlocks (by decide +kernel) kk_X_86 kz_IllegalArgumentException kx_IAE kg_IAE hsa d_X_count_60 d_X_count_63 d_X_count_64 d_X_count_66 d_X_count_69 (Nat.le_of_ble_eq_true rfl) (Nat.le_of_ble_eq_true rfl) (Nat.le_of_ble_eq_true rfl) (Nat.le_of_ble_eq_true rfl) (Nat.le_of_ble_eq_true rfl) (Nat.le_of_ble_eq_true rfl) (fun t hv9 hF hq => ⟨(), fun ⟨q, hq, e⟩ => nI_pos (show q < 2 ^ 31 by omega) (e ▸ hz), ⟨rfl, kept_P hP hq⟩, hF⟩)
  · refine lv_tableOut (tgt := 60) hx hb d_X_count_11 (Or.inr (by have := Int32.le_iff_toInt_le.mp hz; rw [nI_toInt (by decide)] at this; omega)) (by decide) ?_
    obtain ⟨sa, hsa⟩ := hE.2.2.2.2.1
    exact thr hx hb hl0 hts hown hE hS (hl.1.trans hml.symm) htab hlocks (by decide +kernel) kk_X_86 kz_IllegalArgumentException kx_IAE kg_IAE hsa d_X_count_60 d_X_count_63 d_X_count_64 d_X_count_66 d_X_count_69 (Nat.le_of_ble_eq_true rfl) (Nat.le_of_ble_eq_true rfl) (Nat.le_of_ble_eq_true rfl) (Nat.le_of_ble_eq_true rfl) (Nat.le_of_ble_eq_true rfl) (Nat.le_of_ble_eq_true rfl) (fun t hv9 hF hq => ⟨(), fun ⟨q, hq, e⟩ => nI_ge hq (by decide) (e ▸ hz), ⟨rfl, kept_P hP hq⟩, hF⟩)
  · rcases (show q = 0 ∨ q = 1 ∨ q = 2 ∨ q = 3 by omega) with rfl | rfl | rfl | rfl
    · refine lv_tableIn (tgt := 40) hx hb d_X_count_11 (by decide) (by decide) rfl (by decide) ?_
      refine lv_aload_n hx hb d_X_count_40 rfl (lv_at hl 0 rfl) ?_
      refine va_getN (D := D) (host := RX) (ci := 0) (v := .int (R d)) (C := RS) (T := TS) (N := 3) hx hb hts kin_S hown hK hP (d + 3) (wx_s hd31) rfl 2 (by decide) (va_Nw.use rfl (hE.1 _ nf_X_77)) (fun _ h9 => h9) rfl d_X_count_41 ?_
      refine W.widen (k := 1) (n := 6) (by omega) (by omega) ?_
      refine vx_ret ?_
      exact W.iret (v := R d) hx hb hr (fun t ht hW => ⟨⟨_, (), rfl, ⟨0, by decide, rfl, fun _ => rfl, fun h => absurd h (by decide), fun h => absurd h (by decide), fun h => absurd h (by decide)⟩, atP hP ht⟩, hS.F ht⟩) hS.2.2 d_X_count_44
    · refine lv_tableIn (tgt := 45) hx hb d_X_count_11 (by decide) (by decide) rfl (by decide) ?_
      refine lv_aload_n hx hb d_X_count_45 rfl (lv_at hl 0 rfl) ?_
      refine vp_callSi (va_runVN (As := []) (rest := []) (C := RS) (host := RX) ⟨hx, hb, hml, hown, hts⟩ (m_S_markedPlaces l D k a (nI d) F V M R d hd31 _) ⟨va_cnB 0 hts (TB_c kc_S_markedPlaces) rfl rfl rfl (hE.1 _ nl_X_83) (hts _ kz_S) (by decide +kernel) ⟨Nat.le_of_ble_eq_true rfl, Nat.le_of_ble_eq_true rfl⟩, hts _ ki_S_markedPlaces, hts _ ks_S_markedPlaces⟩ ⟨PW.bl, va_recv (q := (RS, TS, 3)) hK hP rfl (wx_s hd31), fun U hU hW => ⟨rfl, PW.go hK hP hD hS hA hE hU hW⟩⟩ rfl rfl hl.1 rfl (lv_room (Nat.le_of_ble_eq_true rfl)) d_X_count_46 ⟨Nat.le_of_ble_eq_true rfl, Nat.le_of_ble_eq_true rfl⟩).run (fun r1 hr1 => ?_)
      refine W.widen (k := 1) (n := 6) (by omega) (by omega) ?_
      refine vx_ret ?_
      exact W.iret (v := r1) hx hb hr (fun t ht hW => ⟨⟨_, (), rfl, ⟨1, by decide, rfl, fun h => absurd h (by decide), fun _ => hr1, fun h => absurd h (by decide), fun h => absurd h (by decide)⟩, atP hP ht⟩, hS.F ht⟩) hS.2.2 d_X_count_49
    · refine lv_tableIn (tgt := 50) hx hb d_X_count_11 (by decide) (by decide) rfl (by decide) ?_
      refine lv_aload_n hx hb d_X_count_50 rfl (lv_at hl 1 rfl) ?_
      refine va_get (D := D) (ci := 1) (v := .int (nI d)) (C := RX) (T := TX) (N := 3) hx hb hts kin_X hown hK hP 0 rfl rfl 2 (by decide) (hts _ kf_X_19) (fun _ h9 => h9) rfl d_X_count_51 ?_
      refine W.widen (k := 1) (n := 6) (by omega) (by omega) ?_
      refine vx_ret ?_
      exact W.iret (v := nI d) hx hb hr (fun t ht hW => ⟨⟨_, (), rfl, ⟨2, by decide, rfl, fun h => absurd h (by decide), fun h => absurd h (by decide), fun _ => rfl, fun h => absurd h (by decide)⟩, atP hP ht⟩, hS.F ht⟩) hS.2.2 d_X_count_54
    · refine lv_tableIn (tgt := 55) hx hb d_X_count_11 (by decide) (by decide) rfl (by decide) ?_
      refine lv_aload_n hx hb d_X_count_55 rfl (lv_at hl 0 rfl) ?_
      refine vp_callSi (va_runVN (As := []) (rest := []) (C := RS) (host := RX) ⟨hx, hb, hml, hown, hts⟩ (m_S_filledPlaces l D k a (nI d) F V M R d hd31 _) ⟨va_cnB 0 hts (TB_c kc_S_filledPlaces) rfl rfl rfl (hE.1 _ nl_X_40) (hts _ kz_S) (by decide +kernel) ⟨Nat.le_of_ble_eq_true rfl, Nat.le_of_ble_eq_true rfl⟩, hts _ ki_S_filledPlaces, hts _ ks_S_filledPlaces⟩ ⟨PW.bl, va_recv (q := (RS, TS, 3)) hK hP rfl (wx_s hd31), fun U hU hW => ⟨rfl, PW.go hK hP hD hS hA hE hU hW⟩⟩ rfl rfl hl.1 rfl (lv_room (Nat.le_of_ble_eq_true rfl)) d_X_count_56 ⟨Nat.le_of_ble_eq_true rfl, Nat.le_of_ble_eq_true rfl⟩).run (fun r1 hr1 => ?_)
      refine W.widen (k := 1) (n := 6) (by omega) (by omega) ?_
      refine vx_ret ?_
      exact W.iret (v := r1) hx hb hr (fun t ht hW => ⟨⟨_, (), rfl, ⟨3, by decide, rfl, fun h => absurd h (by decide), fun h => absurd h (by decide), fun h => absurd h (by decide), fun _ => hr1⟩, atP hP ht⟩, hS.F ht⟩) hS.2.2 d_X_count_59
set_option maxHeartbeats 4000000 in
set_option maxRecDepth 100000 in
theorem m_X_open (l : Launch) (hl0 : l.stackTraces = false) (D : va_G) (k : Nat → ClassId) (a : Nat → Nat) (d : Nat) (hd : d ≤ 30) (F : Nat → Int64) (V M : Nat → Nat → Int64) (R : Nat → Int32) (sz : Nat) : vx_Met l y_X_open (w_X_open :: TB) rX (va_Pc [.ref (a 0)] (PW D k (WX k a (nI d) F V M R) sz)) (va_Qi (fun (r : Int32) (u : (Nat → Nat → Int64) × (Nat → Nat → Int64) × (Nat → Int32)) => d < 30 ∧ r = nI (d + 1) ∧ u.1 = va_up V (d + 1) (va_cpy (V d) (V (d + 1)) 0 0 256) ∧ u.2.1 = va_up M (d + 1) (va_cpy (M d) (M (d + 1)) 0 0 4) ∧ u.2.2 = va_up R (d + 1) (R d)) (fun u t => va_P D wCl (WX k a (nI (d + 1)) F u.1 u.2.1 u.2.2) t.heap) (va_A (WX k a (nI d) F V M R) sz)) (XQ D EIOOB (¬ d < 30) (WX k a (nI d) F V M R) (va_A (WX k a (nI d) F V M R) sz)) 1 6 (va_A (WX k a (nI d) F V M R) sz) := by
  refine vx_ofW (cc := b_X_open) (maxL := 1) (ret := some .int) (by decide) rfl ?_
  intro p e s m args below meth c s₁ B hml htab hv
  obtain ⟨rfl, hsz, hP, hK, hD0, hE⟩ := hv
  have hx := B.exec
  have hb := B.bytes
  have hr := B.returns
  have hts0 := atoms_spec (ws := w_X_open :: TB) B.pre
  have hts := fun w (hw : w ∈ TB) => hts0 w (List.mem_cons_of_mem _ hw)
  have hown : s.vm.findClass RX = some m.cls := findClass_of_methodNamed B.named
  have hlocks := B.notSynchronized
  subst hsz
  have hD := hD0.self (sz := s.heap.size)
  generalize hAe : va_A (WX k a (nI d) F V M R) s.heap.size = A at *
  have hA : ∀ q : Nat, s.heap.size ≤ q → A q := fun q h => by rw [← hAe]; exact Or.inr h
  have hS : va_S A s.heap s.heap [] := va_S.rf
  have hl := lv_entry ([.ref (a 0)]) (n := 1) (Nat.le_of_ble_eq_true rfl)
  rw [lg_entry_eq]
  generalize (lg_sl ([.ref (a 0)]) ++ List.replicate (1 - (lg_sl ([.ref (a 0)])).length) Slot.unset).toArray = ls at hl ⊢
  have hl : lv_has ls 1 [(0, .ref (a 0))] := hl
  have hd31 : d < 31 := by omega
  refine lv_aload_n hx hb d_X_open_0 rfl (lv_at hl 0 rfl) ?_
  refine va_get (D := D) (ci := 1) (v := .int (nI d)) (C := RX) (T := TX) (N := 3) hx hb hts kin_X hown hK hP 0 rfl rfl 2 (by decide) (hts _ kf_X_19) (fun _ h9 => h9) rfl d_X_open_1 ?_
  refine lv_bipush (v := 30) hx hb d_X_open_4 (by decide) ?_
  refine lv_icmp_lt (tgt := 19) hx hb d_X_open_6 (by decide) (fun c_6 => ?_) (fun c_6 => ?_)
  · have hd30 : d < 30 := by
      rcases Nat.lt_or_ge d 30 with q | q
      · exact q
      · exact absurd c_6 (nI_nlt q (by omega))
    have hd1 : d + 1 < 31 := by omega
    refine lv_aload_n hx hb d_X_open_19 rfl (lv_at hl 0 rfl) ?_
    refine va_get (D := D) (ci := 1) (v := .ref (a 2)) (C := RX) (T := TX) (N := 3) hx hb hts kin_X hown hK hP 0 rfl rfl 1 (by decide) (hts _ kf_X_15) (fun _ h9 => h9) rfl d_X_open_20 ?_
    refine lv_aload_n hx hb d_X_open_23 rfl (lv_at hl 0 rfl) ?_
    refine va_get (D := D) (ci := 1) (v := .int (nI d)) (C := RX) (T := TX) (N := 3) hx hb hts kin_X hown hK hP 0 rfl rfl 2 (by decide) (hts _ kf_X_19) (fun _ h9 => h9) rfl d_X_open_24 ?_
    refine lv_iconst (v := 1) hx hb d_X_open_27 (by decide) ?_
    refine lv_iadd hx hb d_X_open_28 ?_
    refine va_aldq hx hb hK hP 2 1 rfl rfl (by rw [nI_1]; exact vp_in_nI hd1 (by decide)) d_X_open_29 ?_
    rw [show (((nI d) + (1)) : Int32).toNatClampNeg = (d + 1) from by rw [nI_1]; exact nI_clamp (by omega)]
    refine W.eq (g2 := F0 m 30 ls [.ref (a (3 + (d + 1)))]) rfl ?_
    refine lv_aload_n hx hb d_X_open_30 rfl (lv_at hl 0 rfl) ?_
    refine va_get (D := D) (ci := 1) (v := .ref (a 2)) (C := RX) (T := TX) (N := 3) hx hb hts kin_X hown hK hP 0 rfl rfl 1 (by decide) (hts _ kf_X_15) (fun _ h9 => h9) rfl d_X_open_31 ?_
    refine lv_aload_n hx hb d_X_open_34 rfl (lv_at hl 0 rfl) ?_
    refine va_get (D := D) (ci := 1) (v := .int (nI d)) (C := RX) (T := TX) (N := 3) hx hb hts kin_X hown hK hP 0 rfl rfl 2 (by decide) (hts _ kf_X_19) (fun _ h9 => h9) rfl d_X_open_35 ?_
    refine va_aldq hx hb hK hP 2 1 rfl rfl (vp_in_nI hd31 (by decide)) d_X_open_38 ?_
    rw [show ((nI d) : Int32).toNatClampNeg = d from nI_clamp (by omega)]
    refine W.eq (g2 := F0 m 39 ls [.ref (a (3 + d)), .ref (a (3 + (d + 1)))]) rfl ?_
    refine va_callv (va_runVN (As := [.ref (a (3 + d))]) (rest := []) (C := RS) (host := RX) ⟨hx, hb, hml, hown, hts⟩ (m_S_copyFrom l D k a (nI d) F V M R ((d + 1)) hd1 d hd31 _) ⟨va_cnB 1 hts (TB_c kc_S_copyFrom) rfl rfl rfl (hE.1 _ nl_X_24) (hts _ kz_S) (by decide +kernel) ⟨Nat.le_of_ble_eq_true rfl, Nat.le_of_ble_eq_true rfl⟩, hts _ ki_S_copyFrom, hts _ ks_S_copyFrom⟩ ⟨PW.bl, va_recv (q := (RS, TS, 3)) hK hP rfl (wx_s hd1), fun U hU hW => ⟨rfl, PW.go hK hP hD hS hA hE hU hW⟩⟩ rfl rfl hl.1 rfl (lv_room (Nat.le_of_ble_eq_true rfl)) d_X_open_39 ⟨Nat.le_of_ble_eq_true rfl, Nat.le_of_ble_eq_true rfl⟩) hS (fun q _ h => cut_F hD hS hA q h) (cut_F hD hS hA) (fun uu t H1 locs1 ht hvm hpost hB hz hk hS => ?_)
    rw [ht] at hB
    obtain ⟨V2, M2, R2⟩ := uu
    obtain ⟨e1, e2, e3⟩ := hpost
    dsimp only at e1 e2 e3 hB
    subst e1 e2 e3
    have hP := hB
    have hD := hD.ad (wx_ad : (WX k a (nI d) F (va_up V ((d + 1)) (va_cpy (V d) (V ((d + 1))) 0 0 256)) (va_up M ((d + 1)) (va_cpy (M d) (M ((d + 1))) 0 0 4)) (va_up R ((d + 1)) (R d))).map Prod.fst = _)
    generalize H1 = H at hP hS ⊢
    generalize locs1 = locs at hS ⊢
    refine lv_aload_n hx hb d_X_open_42 rfl (lv_at hl 0 rfl) ?_
    refine lv_dup hx hb d_X_open_43 rfl ?_
    refine va_get (D := D) (ci := 1) (v := .int (nI d)) (C := RX) (T := TX) (N := 3) hx hb hts kin_X hown hK hP 0 rfl rfl 2 (by decide) (hts _ kf_X_19) (fun _ h9 => h9) rfl d_X_open_44 ?_
    refine lv_iconst (v := 1) hx hb d_X_open_47 (by decide) ?_
    refine lv_iadd hx hb d_X_open_48 ?_
    rw [nI_1 d]
    refine va_put (D := D) (ci := 1) (v := .int (nI (d + 1))) (ty := .int) (C := RX) (T := TX) (N := 3) hx hb hts kin_X tX tyX nmX hown hK hP hD hS 0 rfl rfl 2 (by decide) (hts _ kf_X_19) (fun _ h9 => h9) rfl (by decide +kernel) rfl rfl (Nat.le_of_ble_eq_true rfl) d_X_open_49 (fun H locs hP hD hS => ?_)
    have hP : va_P D wCl (WX k a (nI (d + 1)) F (va_up V ((d + 1)) (va_cpy (V d) (V ((d + 1))) 0 0 256)) (va_up M ((d + 1)) (va_cpy (M d) (M ((d + 1))) 0 0 4)) (va_up R ((d + 1)) (R d))) H := hP
    have hD : va_D A (WX k a (nI (d + 1)) F (va_up V ((d + 1)) (va_cpy (V d) (V ((d + 1))) 0 0 256)) (va_up M ((d + 1)) (va_cpy (M d) (M ((d + 1))) 0 0 4)) (va_up R ((d + 1)) (R d))) := hD
    refine lv_aload_n hx hb d_X_open_52 rfl (lv_at hl 0 rfl) ?_
    refine va_get (D := D) (ci := 1) (v := .int (nI (d + 1))) (C := RX) (T := TX) (N := 3) hx hb hts kin_X hown hK hP 0 rfl rfl 2 (by decide) (hts _ kf_X_19) (fun _ h9 => h9) rfl d_X_open_53 ?_
    refine W.widen (k := 1) (n := 6) (by omega) (by omega) ?_
    refine vx_ret ?_
    exact W.iret (v := nI (d + 1)) hx hb hr (fun t ht hW => ⟨⟨_, (va_up V (d + 1) (va_cpy (V d) (V (d + 1)) 0 0 256), va_up M (d + 1) (va_cpy (M d) (M (d + 1)) 0 0 4), va_up R (d + 1) (R d)), rfl, ⟨hd30, rfl, rfl, rfl, rfl⟩, atP hP ht⟩, hS.F ht⟩) hS.2.2 d_X_open_56
  · obtain ⟨sa, hsa⟩ := hE.2.1
    exact thr hx hb hl0 hts hown hE hS (hl.1.trans hml.symm) htab hlocks (by decide +kernel) kk_X_44 kz_IndexOutOfBoundsException kx_IOOB kg_IOOB hsa d_X_open_9 d_X_open_12 d_X_open_13 d_X_open_15 d_X_open_18 (Nat.le_of_ble_eq_true rfl) (Nat.le_of_ble_eq_true rfl) (Nat.le_of_ble_eq_true rfl) (Nat.le_of_ble_eq_true rfl) (Nat.le_of_ble_eq_true rfl) (Nat.le_of_ble_eq_true rfl) (fun t hv9 hF hq => ⟨(), fun q => c_6 (show nI d < nI 30 from nI_lt q (by decide)), ⟨rfl, kept_P hP hq⟩, hF⟩)
set_option maxHeartbeats 4000000 in
set_option maxRecDepth 100000 in
theorem m_X_close (l : Launch) (hl0 : l.stackTraces = false) (D : va_G) (k : Nat → ClassId) (a : Nat → Nat) (d : Nat) (hd : d ≤ 30) (F : Nat → Int64) (V M : Nat → Nat → Int64) (R : Nat → Int32) (z : Int32) (sz : Nat) : vx_Met l y_X_close (w_X_close :: TB) rX (va_Pc [.ref (a 0), .int z] (PW D k (WX k a (nI d) F V M R) sz)) (va_Qi (fun (r : Int32) (u : Nat × (Nat → Nat → Int64) × (Nat → Nat → Int64) × (Nat → Int32)) => d = u.1 + 1 ∧ r = nI u.1 ∧ (z = 0 → u.2 = (V, M, R)) ∧ (¬ z = 0 → u.2 = (va_up V u.1 (va_cpy (V (u.1 + 1)) (V u.1) 0 0 256), va_up M u.1 (va_cpy (M (u.1 + 1)) (M u.1) 0 0 4), va_up R u.1 (R (u.1 + 1))))) (fun u t => va_P D wCl (WX k a (nI u.1) F u.2.1 u.2.2.1 u.2.2.2) t.heap) (va_A (WX k a (nI d) F V M R) sz)) (XQ D EISE (d = 0) (WX k a (nI d) F V M R) (va_A (WX k a (nI d) F V M R) sz)) 1 6 (va_A (WX k a (nI d) F V M R) sz) := by
  refine vx_ofW (cc := b_X_close) (maxL := 2) (ret := some .int) (by decide) rfl ?_
  intro p e s m args below meth c s₁ B hml htab hv
  obtain ⟨rfl, hsz, hP, hK, hD0, hE⟩ := hv
  have hx := B.exec
  have hb := B.bytes
  have hr := B.returns
  have hts0 := atoms_spec (ws := w_X_close :: TB) B.pre
  have hts := fun w (hw : w ∈ TB) => hts0 w (List.mem_cons_of_mem _ hw)
  have hown : s.vm.findClass RX = some m.cls := findClass_of_methodNamed B.named
  have hlocks := B.notSynchronized
  subst hsz
  have hD := hD0.self (sz := s.heap.size)
  generalize hAe : va_A (WX k a (nI d) F V M R) s.heap.size = A at *
  have hA : ∀ q : Nat, s.heap.size ≤ q → A q := fun q h => by rw [← hAe]; exact Or.inr h
  have hS : va_S A s.heap s.heap [] := va_S.rf
  have hl := lv_entry ([.ref (a 0), .int z]) (n := 2) (Nat.le_of_ble_eq_true rfl)
  rw [lg_entry_eq]
  generalize (lg_sl ([.ref (a 0), .int z]) ++ List.replicate (2 - (lg_sl ([.ref (a 0), .int z])).length) Slot.unset).toArray = ls at hl ⊢
  have hl : lv_has ls 2 [(0, .ref (a 0)), (1, .int z)] := hl
  have hd31 : d < 31 := by omega
  refine lv_aload_n hx hb d_X_close_0 rfl (lv_at hl 0 rfl) ?_
  refine va_get (D := D) (ci := 1) (v := .int (nI d)) (C := RX) (T := TX) (N := 3) hx hb hts kin_X hown hK hP 0 rfl rfl 2 (by decide) (hts _ kf_X_19) (fun _ h9 => h9) rfl d_X_close_1 ?_
  refine lv_if_gt (tgt := 17) hx hb d_X_close_4 (by decide) (fun c_4 => ?_) (fun c_4 => ?_)
  · obtain ⟨f, rfl⟩ : ∃ f, d = f + 1 := by
      cases d with
      | zero => exact absurd c_4 (by decide)
      | succ f => exact ⟨f, rfl⟩
    have hf : f < 31 := by omega
    refine lv_iload_n hx hb d_X_close_17 rfl (lv_at hl 1 rfl) ?_
    refine lv_if_eq (tgt := 44) hx hb d_X_close_18 (by decide) (fun c_18 => ?_) (fun c_18 => ?_)
    · refine lv_aload_n hx hb d_X_close_44 rfl (lv_at hl 0 rfl) ?_
      refine lv_dup hx hb d_X_close_45 rfl ?_
      refine va_get (D := D) (ci := 1) (v := .int (nI (f + 1))) (C := RX) (T := TX) (N := 3) hx hb hts kin_X hown hK hP 0 rfl rfl 2 (by decide) (hts _ kf_X_19) (fun _ h9 => h9) rfl d_X_close_46 ?_
      refine lv_iconst (v := 1) hx hb d_X_close_49 (by decide) ?_
      refine lv_isub hx hb d_X_close_50 ?_
      rw [nI_pred f]
      refine va_put (D := D) (ci := 1) (v := .int (nI f)) (ty := .int) (C := RX) (T := TX) (N := 3) hx hb hts kin_X tX tyX nmX hown hK hP hD hS 0 rfl rfl 2 (by decide) (hts _ kf_X_19) (fun _ h9 => h9) rfl (by decide +kernel) rfl rfl (Nat.le_of_ble_eq_true rfl) d_X_close_51 (fun H locs hP hD hS => ?_)
      have hP : va_P D wCl (WX k a (nI f) F V M R) H := hP
      have hD : va_D A (WX k a (nI f) F V M R) := hD
      refine lv_aload_n hx hb d_X_close_54 rfl (lv_at hl 0 rfl) ?_
      refine va_get (D := D) (ci := 1) (v := .int (nI f)) (C := RX) (T := TX) (N := 3) hx hb hts kin_X hown hK hP 0 rfl rfl 2 (by decide) (hts _ kf_X_19) (fun _ h9 => h9) rfl d_X_close_55 ?_
      refine W.widen (k := 1) (n := 6) (by omega) (by omega) ?_
      refine vx_ret ?_
      exact W.iret (v := nI f) hx hb hr (fun t ht hW => ⟨⟨_, (f, V, M, R), rfl, ⟨rfl, rfl, fun _ => rfl, fun q => absurd c_18 q⟩, atP hP ht⟩, hS.F ht⟩) hS.2.2 d_X_close_58
    · refine lv_aload_n hx hb d_X_close_21 rfl (lv_at hl 0 rfl) ?_
      refine va_get (D := D) (ci := 1) (v := .ref (a 2)) (C := RX) (T := TX) (N := 3) hx hb hts kin_X hown hK hP 0 rfl rfl 1 (by decide) (hts _ kf_X_15) (fun _ h9 => h9) rfl d_X_close_22 ?_
      refine lv_aload_n hx hb d_X_close_25 rfl (lv_at hl 0 rfl) ?_
      refine va_get (D := D) (ci := 1) (v := .int (nI (f + 1))) (C := RX) (T := TX) (N := 3) hx hb hts kin_X hown hK hP 0 rfl rfl 2 (by decide) (hts _ kf_X_19) (fun _ h9 => h9) rfl d_X_close_26 ?_
      refine lv_iconst (v := 1) hx hb d_X_close_29 (by decide) ?_
      refine lv_isub hx hb d_X_close_30 ?_
      refine va_aldq hx hb hK hP 2 1 rfl rfl (by rw [nI_pred]; exact vp_in_nI hf (by decide)) d_X_close_31 ?_
      rw [show (((nI (f + 1)) - (1)) : Int32).toNatClampNeg = f from by rw [nI_pred]; exact nI_clamp (by omega)]
      refine W.eq (g2 := F0 m 32 ls [.ref (a (3 + f))]) rfl ?_
      refine lv_aload_n hx hb d_X_close_32 rfl (lv_at hl 0 rfl) ?_
      refine va_get (D := D) (ci := 1) (v := .ref (a 2)) (C := RX) (T := TX) (N := 3) hx hb hts kin_X hown hK hP 0 rfl rfl 1 (by decide) (hts _ kf_X_15) (fun _ h9 => h9) rfl d_X_close_33 ?_
      refine lv_aload_n hx hb d_X_close_36 rfl (lv_at hl 0 rfl) ?_
      refine va_get (D := D) (ci := 1) (v := .int (nI (f + 1))) (C := RX) (T := TX) (N := 3) hx hb hts kin_X hown hK hP 0 rfl rfl 2 (by decide) (hts _ kf_X_19) (fun _ h9 => h9) rfl d_X_close_37 ?_
      refine va_aldq hx hb hK hP 2 1 rfl rfl (vp_in_nI hd31 (by decide)) d_X_close_40 ?_
      rw [show ((nI (f + 1)) : Int32).toNatClampNeg = (f + 1) from nI_clamp (by omega)]
      refine W.eq (g2 := F0 m 41 ls [.ref (a (3 + (f + 1))), .ref (a (3 + f))]) rfl ?_
      refine va_callv (va_runVN (As := [.ref (a (3 + (f + 1)))]) (rest := []) (C := RS) (host := RX) ⟨hx, hb, hml, hown, hts⟩ (m_S_copyFrom l D k a (nI (f + 1)) F V M R f hf ((f + 1)) hd31 _) ⟨va_cnB 1 hts (TB_c kc_S_copyFrom) rfl rfl rfl (hE.1 _ nl_X_24) (hts _ kz_S) (by decide +kernel) ⟨Nat.le_of_ble_eq_true rfl, Nat.le_of_ble_eq_true rfl⟩, hts _ ki_S_copyFrom, hts _ ks_S_copyFrom⟩ ⟨PW.bl, va_recv (q := (RS, TS, 3)) hK hP rfl (wx_s hf), fun U hU hW => ⟨rfl, PW.go hK hP hD hS hA hE hU hW⟩⟩ rfl rfl hl.1 rfl (lv_room (Nat.le_of_ble_eq_true rfl)) d_X_close_41 ⟨Nat.le_of_ble_eq_true rfl, Nat.le_of_ble_eq_true rfl⟩) hS (fun q _ h => cut_F hD hS hA q h) (cut_F hD hS hA) (fun uu t H1 locs1 ht hvm hpost hB hz hk hS => ?_)
      rw [ht] at hB
      obtain ⟨V2, M2, R2⟩ := uu
      obtain ⟨e1, e2, e3⟩ := hpost
      dsimp only at e1 e2 e3 hB
      subst e1 e2 e3
      have hP := hB
      have hD := hD.ad (wx_ad : (WX k a (nI (f + 1)) F (va_up V f (va_cpy (V ((f + 1))) (V f) 0 0 256)) (va_up M f (va_cpy (M ((f + 1))) (M f) 0 0 4)) (va_up R f (R ((f + 1))))).map Prod.fst = _)
      generalize H1 = H at hP hS ⊢
      generalize locs1 = locs at hS ⊢
      refine lv_aload_n hx hb d_X_close_44 rfl (lv_at hl 0 rfl) ?_
      refine lv_dup hx hb d_X_close_45 rfl ?_
      refine va_get (D := D) (ci := 1) (v := .int (nI (f + 1))) (C := RX) (T := TX) (N := 3) hx hb hts kin_X hown hK hP 0 rfl rfl 2 (by decide) (hts _ kf_X_19) (fun _ h9 => h9) rfl d_X_close_46 ?_
      refine lv_iconst (v := 1) hx hb d_X_close_49 (by decide) ?_
      refine lv_isub hx hb d_X_close_50 ?_
      rw [nI_pred f]
      refine va_put (D := D) (ci := 1) (v := .int (nI f)) (ty := .int) (C := RX) (T := TX) (N := 3) hx hb hts kin_X tX tyX nmX hown hK hP hD hS 0 rfl rfl 2 (by decide) (hts _ kf_X_19) (fun _ h9 => h9) rfl (by decide +kernel) rfl rfl (Nat.le_of_ble_eq_true rfl) d_X_close_51 (fun H locs hP hD hS => ?_)
      have hP : va_P D wCl (WX k a (nI f) F (va_up V f (va_cpy (V ((f + 1))) (V f) 0 0 256)) (va_up M f (va_cpy (M ((f + 1))) (M f) 0 0 4)) (va_up R f (R ((f + 1))))) H := hP
      have hD : va_D A (WX k a (nI f) F (va_up V f (va_cpy (V ((f + 1))) (V f) 0 0 256)) (va_up M f (va_cpy (M ((f + 1))) (M f) 0 0 4)) (va_up R f (R ((f + 1))))) := hD
      refine lv_aload_n hx hb d_X_close_54 rfl (lv_at hl 0 rfl) ?_
      refine va_get (D := D) (ci := 1) (v := .int (nI f)) (C := RX) (T := TX) (N := 3) hx hb hts kin_X hown hK hP 0 rfl rfl 2 (by decide) (hts _ kf_X_19) (fun _ h9 => h9) rfl d_X_close_55 ?_
      refine W.widen (k := 1) (n := 6) (by omega) (by omega) ?_
      refine vx_ret ?_
      exact W.iret (v := nI f) hx hb hr (fun t ht hW => ⟨⟨_, (f, va_up V f (va_cpy (V (f + 1)) (V f) 0 0 256), va_up M f (va_cpy (M (f + 1)) (M f) 0 0 4), va_up R f (R (f + 1))), rfl, ⟨rfl, rfl, fun q => absurd q c_18, fun _ => rfl⟩, atP hP ht⟩, hS.F ht⟩) hS.2.2 d_X_close_58
  · obtain ⟨sa, hsa⟩ := hE.2.2.1
    exact thr hx hb hl0 hts hown hE hS (hl.1.trans hml.symm) htab hlocks (by decide +kernel) kk_X_51 kz_IllegalStateException kx_ISE kg_ISE hsa d_X_close_7 d_X_close_10 d_X_close_11 d_X_close_13 d_X_close_16 (Nat.le_of_ble_eq_true rfl) (Nat.le_of_ble_eq_true rfl) (Nat.le_of_ble_eq_true rfl) (Nat.le_of_ble_eq_true rfl) (Nat.le_of_ble_eq_true rfl) (Nat.le_of_ble_eq_true rfl) (fun t hv9 hF hq => ⟨(), by
            rcases Nat.eq_zero_or_pos d with q | q
            · exact q
            · exact absurd (show nI 0 < nI d from nI_lt q (by omega)) c_4, ⟨rfl, kept_P hP hq⟩, hF⟩)
end
section
/-! the class: begin, store -/
abbrev rX2 : Room := { frames := 8, cells := 2, slots := 12, locals := 130 }
set_option maxHeartbeats 4000000 in
set_option maxRecDepth 100000 in
theorem m_X_begin (l : Launch) (D : va_G) (k : Nat → ClassId) (a : Nat → Nat) (d : Nat) (hd : d ≤ 30) (F : Nat → Int64) (V M : Nat → Nat → Int64) (R : Nat → Int32) (sz : Nat) : Met l y_X_begin (w_X_begin :: TB) rX0 (va_Pc [.ref (a 0)] (PW D k (WX k a (nI d) F V M R) sz)) (va_Qi (fun (r : Int32) (u : (Nat → Int64) × (Nat → Nat → Int64) × (Nat → Nat → Int64) × (Nat → Int32)) => (∀ j, j < 256 → u.2.1 0 j = V d j) ∧ (∀ j, j < 256 → u.1 j = V d j) ∧ (∀ q, q < 4 → u.2.2.1 0 q = 0) ∧ u.2.2.2 0 = 0 ∧ r = nI (cnt (u.2.1 0) 256)) (fun u t => va_P D wCl (WX k a (nI 0) u.1 u.2.1 u.2.2.1 u.2.2.2) t.heap) (va_A (WX k a (nI d) F V M R) sz)) 0 0 (va_A (WX k a (nI d) F V M R) sz) := by
  refine Met.ofW (cc := b_X_begin) (maxL := 2) (ret := some .int) (by decide) rfl ?_
  intro p e s m args below meth c s₁ B hml hv
  obtain ⟨rfl, hsz, hP, hK, hD0, hE⟩ := hv
  have hx := B.exec
  have hb := B.bytes
  have hr := B.returns
  have hts0 := atoms_spec (ws := w_X_begin :: TB) B.pre
  have hts := fun w (hw : w ∈ TB) => hts0 w (List.mem_cons_of_mem _ hw)
  have hown : s.vm.findClass RX = some m.cls := findClass_of_methodNamed B.named
  have hlocks := B.notSynchronized
  subst hsz
  have hD := hD0.self (sz := s.heap.size)
  generalize hAe : va_A (WX k a (nI d) F V M R) s.heap.size = A at *
  have hA : ∀ q : Nat, s.heap.size ≤ q → A q := fun q h => by rw [← hAe]; exact Or.inr h
  have hS : va_S A s.heap s.heap [] := va_S.rf
  have hl := lv_entry ([.ref (a 0)]) (n := 2) (Nat.le_of_ble_eq_true rfl)
  rw [lg_entry_eq]
  generalize (lg_sl ([.ref (a 0)]) ++ List.replicate (2 - (lg_sl ([.ref (a 0)])).length) Slot.unset).toArray = ls at hl ⊢
  have hl : lv_has ls 2 [(0, .ref (a 0))] := hl
  have hd31 : d < 31 := by omega
  have h031 : 0 < 31 := by decide
  refine lv_aload_n hx hb d_X_begin_0 rfl (lv_at hl 0 rfl) ?_
  refine va_get (D := D) (ci := 1) (v := .ref (a 2)) (C := RX) (T := TX) (N := 3) hx hb hts kin_X hown hK hP 0 rfl rfl 1 (by decide) (hts _ kf_X_15) (fun _ h9 => h9) rfl d_X_begin_1 ?_
  refine lv_iconst (v := 0) hx hb d_X_begin_4 (by decide) ?_
  refine va_aldq hx hb hK hP 2 1 rfl rfl (show vp_in (nI 0) 31 from vp_in_nI (by decide) (by decide)) d_X_begin_5 ?_
  rw [show ((0) : Int32).toNatClampNeg = 0 from rfl]
  refine W.eq (g2 := F0 m 6 ls [.ref (a (3 + 0))]) rfl ?_
  refine lv_astore_n (lv' := [(1, .ref (a (3 + 0))), (0, .ref (a 0))]) hx hb d_X_begin_6 rfl hl (by decide) rfl (fun ls hl => ?_)
  refine lv_aload_n hx hb d_X_begin_7 rfl (lv_at hl 1 rfl) ?_
  refine va_get (D := D) (ci := 1) (v := .int (nI d)) (C := RX) (T := TX) (N := 3) hx hb hts kin_X hown hK hP 0 rfl rfl 2 (by decide) (hts _ kf_X_19) (fun _ h9 => h9) rfl d_X_begin_8 ?_
  refine lv_if_le (tgt := 27) hx hb d_X_begin_11 (by decide) (fun c_11 => ?_) (fun c_11 => ?_)
  · have hd0 : d = 0 := by
      rcases Nat.eq_zero_or_pos d with q | q
      · exact q
      · exact absurd c_11 (nI_nle q (by omega))
    refine lv_aload_n hx hb d_X_begin_27 rfl (lv_at hl 1 rfl) ?_
    refine lv_iconst (v := 0) hx hb d_X_begin_28 (by decide) ?_
    refine va_put (D := D) (ci := 1) (v := .int 0) (ty := .int) (C := RX) (T := TX) (N := 3) hx hb hts kin_X tX tyX nmX hown hK hP hD hS 0 rfl rfl 2 (by decide) (hts _ kf_X_19) (fun _ h9 => h9) rfl (by decide +kernel) rfl rfl (Nat.le_of_ble_eq_true rfl) d_X_begin_29 (fun H locs hP hD hS => ?_)
    have hP : va_P D wCl (WX k a 0 F V M R) H := hP
    have hD : va_D A (WX k a 0 F V M R) := hD
    refine lv_aload_n hx hb d_X_begin_32 rfl (lv_at hl 0 rfl) ?_
    refine va_callv (va_runVN (As := []) (rest := []) (C := RS) (host := RX) ⟨hx, hb, hml, hown, hts⟩ (m_S_forgetCosts l D k a 0 F V M R 0 h031 _) ⟨va_cnB 0 hts (TB_c kc_S_forgetCosts) rfl rfl rfl (hE.1 _ nl_X_28) (hts _ kz_S) (by decide +kernel) ⟨Nat.le_of_ble_eq_true rfl, Nat.le_of_ble_eq_true rfl⟩, hts _ ki_S_forgetCosts, hts _ ks_S_forgetCosts⟩ ⟨PW.bl, va_recv (q := (RS, TS, 3)) hK hP rfl (wx_s h031), fun U hU hW => ⟨rfl, PW.go hK hP hD hS hA hE hU hW⟩⟩ rfl rfl hl.1 rfl (lv_room (Nat.le_of_ble_eq_true rfl)) d_X_begin_33 ⟨Nat.le_of_ble_eq_true rfl, Nat.le_of_ble_eq_true rfl⟩) hS (fun q _ h => cut_F hD hS hA q h) (cut_F hD hS hA) (fun uu t H1 locs1 ht hvm hpost hB hz hk hS => ?_)
    rw [ht] at hB
    obtain ⟨M2, R2⟩ := uu
    obtain ⟨⟨f, hf, e2⟩, e3⟩ := hpost
    dsimp only at e2 e3 hB
    subst e2 e3
    have hP := hB
    have hD := hD.ad (wx_ad : (WX k a 0 F V (va_up M 0 f) (va_up R 0 0)).map Prod.fst = _)
    generalize H1 = H at hP hS ⊢
    generalize locs1 = locs at hS ⊢
    refine lv_aload_n hx hb d_X_begin_36 rfl (lv_at hl 0 rfl) ?_
    refine va_getN (D := D) (host := RX) (ci := 0) (v := .ref (a (34 + 0))) (C := RS) (T := TS) (N := 3) hx hb hts kin_S hown hK hP (0 + 3) (wx_s h031) rfl 0 (by decide) (va_Nw.use rfl (hE.1 _ nf_X_31)) (fun _ h9 => h9) rfl d_X_begin_37 ?_
    refine lv_iconst (v := 0) hx hb d_X_begin_40 (by decide) ?_
    refine lv_aload_n hx hb d_X_begin_41 rfl (lv_at hl 1 rfl) ?_
    refine va_get (D := D) (ci := 1) (v := .ref (a 1)) (C := RX) (T := TX) (N := 3) hx hb hts kin_X hown hK hP 0 rfl rfl 0 (by decide) (hts _ kf_X_9) (fun _ h9 => h9) rfl d_X_begin_42 ?_
    refine lv_iconst (v := 0) hx hb d_X_begin_45 (by decide) ?_
    refine lv_sipush (v := 256) hx hb d_X_begin_46 (by decide) ?_
    refine va_copyl hx hb (hml.trans hl.1.symm) hown (hts _ kl_X_34) (hts _ kn_arraycopyName) (hts _ kt_arraycopyName) (hts _ kz_System) hK hP hD hS (0 + 34) 1 0 0 (wx_v h031) rfl rfl rfl rfl (by decide) (by decide) (by decide) (by decide) (by decide) (fun _ _ => rfl) (Nat.le_of_ble_eq_true rfl) (Nat.le_of_ble_eq_true rfl) d_X_begin_49 (fun H locs hP hD hS => ?_)
    have hP : va_P D wCl (WX k a 0 (va_cpy (V 0) F 0 0 256) V (va_up M 0 f) (va_up R 0 0)) H := hP
    have hD : va_D A (WX k a 0 (va_cpy (V 0) F 0 0 256) V (va_up M 0 f) (va_up R 0 0)) := hD
    refine lv_aload_n hx hb d_X_begin_52 rfl (lv_at hl 0 rfl) ?_
    refine vp_callSi (va_runVN (As := []) (rest := []) (C := RS) (host := RX) ⟨hx, hb, hml, hown, hts⟩ (m_S_filledPlaces l D k a 0 (va_cpy (V 0) F 0 0 256) V (va_up M 0 f) (va_up R 0 0) 0 h031 _) ⟨va_cnB 0 hts (TB_c kc_S_filledPlaces) rfl rfl rfl (hE.1 _ nl_X_40) (hts _ kz_S) (by decide +kernel) ⟨Nat.le_of_ble_eq_true rfl, Nat.le_of_ble_eq_true rfl⟩, hts _ ki_S_filledPlaces, hts _ ks_S_filledPlaces⟩ ⟨PW.bl, va_recv (q := (RS, TS, 3)) hK hP rfl (wx_s h031), fun U hU hW => ⟨rfl, PW.go hK hP hD hS hA hE hU hW⟩⟩ rfl rfl hl.1 rfl (lv_room (Nat.le_of_ble_eq_true rfl)) d_X_begin_53 ⟨Nat.le_of_ble_eq_true rfl, Nat.le_of_ble_eq_true rfl⟩).run (fun r1 hr1 => ?_)
    have hV : ∀ j, j < 256 → V 0 j = V d j := fun j _ => by rw [hd0]
    exact W.iret (v := r1) hx hb hr (fun t ht hW => ⟨⟨_, (va_cpy (V 0) F 0 0 256, V, va_up M 0 f, va_up R 0 0), rfl, ⟨hV, fun j hj => (pk_cpy_in (Nat.zero_le j) (by omega)).trans (by rw [Nat.zero_add, Nat.sub_zero]; exact hV j hj), fun q hq => (congrFun (va_up_self M 0 f) q).trans (hf q hq), va_up_self R 0 0, hr1⟩, atP hP ht⟩, hS.F ht⟩) hS.2.2 d_X_begin_56
  · refine lv_aload_n hx hb d_X_begin_14 rfl (lv_at hl 0 rfl) ?_
    refine lv_aload_n hx hb d_X_begin_15 rfl (lv_at hl 1 rfl) ?_
    refine va_get (D := D) (ci := 1) (v := .ref (a 2)) (C := RX) (T := TX) (N := 3) hx hb hts kin_X hown hK hP 0 rfl rfl 1 (by decide) (hts _ kf_X_15) (fun _ h9 => h9) rfl d_X_begin_16 ?_
    refine lv_aload_n hx hb d_X_begin_19 rfl (lv_at hl 1 rfl) ?_
    refine va_get (D := D) (ci := 1) (v := .int (nI d)) (C := RX) (T := TX) (N := 3) hx hb hts kin_X hown hK hP 0 rfl rfl 2 (by decide) (hts _ kf_X_19) (fun _ h9 => h9) rfl d_X_begin_20 ?_
    refine va_aldq hx hb hK hP 2 1 rfl rfl (vp_in_nI hd31 (by decide)) d_X_begin_23 ?_
    rw [show ((nI d) : Int32).toNatClampNeg = d from nI_clamp (by omega)]
    refine W.eq (g2 := F0 m 24 ls [.ref (a (3 + d)), .ref (a (3 + 0))]) rfl ?_
    refine va_callv (va_runVN (As := [.ref (a (3 + d))]) (rest := []) (C := RS) (host := RX) ⟨hx, hb, hml, hown, hts⟩ (m_S_copyFrom l D k a (nI d) F V M R 0 h031 d hd31 _) ⟨va_cnB 1 hts (TB_c kc_S_copyFrom) rfl rfl rfl (hE.1 _ nl_X_24) (hts _ kz_S) (by decide +kernel) ⟨Nat.le_of_ble_eq_true rfl, Nat.le_of_ble_eq_true rfl⟩, hts _ ki_S_copyFrom, hts _ ks_S_copyFrom⟩ ⟨PW.bl, va_recv (q := (RS, TS, 3)) hK hP rfl (wx_s h031), fun U hU hW => ⟨rfl, PW.go hK hP hD hS hA hE hU hW⟩⟩ rfl rfl hl.1 rfl (lv_room (Nat.le_of_ble_eq_true rfl)) d_X_begin_24 ⟨Nat.le_of_ble_eq_true rfl, Nat.le_of_ble_eq_true rfl⟩) hS (fun q _ h => cut_F hD hS hA q h) (cut_F hD hS hA) (fun uu t H1 locs1 ht hvm hpost hB hz hk hS => ?_)
    rw [ht] at hB
    obtain ⟨V2, M2, R2⟩ := uu
    obtain ⟨e1, e2, e3⟩ := hpost
    dsimp only at e1 e2 e3 hB
    subst e1 e2 e3
    have hP := hB
    have hD := hD.ad (wx_ad : (WX k a (nI d) F (va_up V 0 (va_cpy (V d) (V 0) 0 0 256)) (va_up M 0 (va_cpy (M d) (M 0) 0 0 4)) (va_up R 0 (R d))).map Prod.fst = _)
    generalize H1 = H at hP hS ⊢
    generalize locs1 = locs at hS ⊢
    refine lv_aload_n hx hb d_X_begin_27 rfl (lv_at hl 1 rfl) ?_
    refine lv_iconst (v := 0) hx hb d_X_begin_28 (by decide) ?_
    refine va_put (D := D) (ci := 1) (v := .int 0) (ty := .int) (C := RX) (T := TX) (N := 3) hx hb hts kin_X tX tyX nmX hown hK hP hD hS 0 rfl rfl 2 (by decide) (hts _ kf_X_19) (fun _ h9 => h9) rfl (by decide +kernel) rfl rfl (Nat.le_of_ble_eq_true rfl) d_X_begin_29 (fun H locs hP hD hS => ?_)
    have hP : va_P D wCl (WX k a 0 F (va_up V 0 (va_cpy (V d) (V 0) 0 0 256)) (va_up M 0 (va_cpy (M d) (M 0) 0 0 4)) (va_up R 0 (R d))) H := hP
    have hD : va_D A (WX k a 0 F (va_up V 0 (va_cpy (V d) (V 0) 0 0 256)) (va_up M 0 (va_cpy (M d) (M 0) 0 0 4)) (va_up R 0 (R d))) := hD
    refine lv_aload_n hx hb d_X_begin_32 rfl (lv_at hl 0 rfl) ?_
    obtain ⟨V0, eV0⟩ : ∃ z, z = va_up V 0 (va_cpy (V d) (V 0) 0 0 256) := ⟨_, rfl⟩
    obtain ⟨M0, eM0⟩ : ∃ z, z = va_up M 0 (va_cpy (M d) (M 0) 0 0 4) := ⟨_, rfl⟩
    obtain ⟨R0, eR0⟩ : ∃ z, z = va_up R 0 (R d) := ⟨_, rfl⟩
    rw [← eV0, ← eM0, ← eR0] at hP hD
    refine va_callv (va_runVN (As := []) (rest := []) (C := RS) (host := RX) ⟨hx, hb, hml, hown, hts⟩ (m_S_forgetCosts l D k a 0 F V0 M0 R0 0 h031 _) ⟨va_cnB 0 hts (TB_c kc_S_forgetCosts) rfl rfl rfl (hE.1 _ nl_X_28) (hts _ kz_S) (by decide +kernel) ⟨Nat.le_of_ble_eq_true rfl, Nat.le_of_ble_eq_true rfl⟩, hts _ ki_S_forgetCosts, hts _ ks_S_forgetCosts⟩ ⟨PW.bl, va_recv (q := (RS, TS, 3)) hK hP rfl (wx_s h031), fun U hU hW => ⟨rfl, PW.go hK hP hD hS hA hE hU hW⟩⟩ rfl rfl hl.1 rfl (lv_room (Nat.le_of_ble_eq_true rfl)) d_X_begin_33 ⟨Nat.le_of_ble_eq_true rfl, Nat.le_of_ble_eq_true rfl⟩) hS (fun q _ h => cut_F hD hS hA q h) (cut_F hD hS hA) (fun uu t H1 locs1 ht hvm hpost hB hz hk hS => ?_)
    rw [ht] at hB
    obtain ⟨M2, R2⟩ := uu
    obtain ⟨⟨f, hf, e2⟩, e3⟩ := hpost
    dsimp only at e2 e3 hB
    subst e2 e3
    have hP := hB
    have hD := hD.ad (wx_ad : (WX k a 0 F V0 (va_up M0 0 f) (va_up R0 0 0)).map Prod.fst = _)
    generalize H1 = H at hP hS ⊢
    generalize locs1 = locs at hS ⊢
    refine lv_aload_n hx hb d_X_begin_36 rfl (lv_at hl 0 rfl) ?_
    refine va_getN (D := D) (host := RX) (ci := 0) (v := .ref (a (34 + 0))) (C := RS) (T := TS) (N := 3) hx hb hts kin_S hown hK hP (0 + 3) (wx_s h031) rfl 0 (by decide) (va_Nw.use rfl (hE.1 _ nf_X_31)) (fun _ h9 => h9) rfl d_X_begin_37 ?_
    refine lv_iconst (v := 0) hx hb d_X_begin_40 (by decide) ?_
    refine lv_aload_n hx hb d_X_begin_41 rfl (lv_at hl 1 rfl) ?_
    refine va_get (D := D) (ci := 1) (v := .ref (a 1)) (C := RX) (T := TX) (N := 3) hx hb hts kin_X hown hK hP 0 rfl rfl 0 (by decide) (hts _ kf_X_9) (fun _ h9 => h9) rfl d_X_begin_42 ?_
    refine lv_iconst (v := 0) hx hb d_X_begin_45 (by decide) ?_
    refine lv_sipush (v := 256) hx hb d_X_begin_46 (by decide) ?_
    refine va_copyl hx hb (hml.trans hl.1.symm) hown (hts _ kl_X_34) (hts _ kn_arraycopyName) (hts _ kt_arraycopyName) (hts _ kz_System) hK hP hD hS (0 + 34) 1 0 0 (wx_v h031) rfl rfl rfl rfl (by decide) (by decide) (by decide) (by decide) (by decide) (fun _ _ => rfl) (Nat.le_of_ble_eq_true rfl) (Nat.le_of_ble_eq_true rfl) d_X_begin_49 (fun H locs hP hD hS => ?_)
    have hP : va_P D wCl (WX k a 0 (va_cpy (V0 0) F 0 0 256) V0 (va_up M0 0 f) (va_up R0 0 0)) H := hP
    have hD : va_D A (WX k a 0 (va_cpy (V0 0) F 0 0 256) V0 (va_up M0 0 f) (va_up R0 0 0)) := hD
    refine lv_aload_n hx hb d_X_begin_52 rfl (lv_at hl 0 rfl) ?_
    refine vp_callSi (va_runVN (As := []) (rest := []) (C := RS) (host := RX) ⟨hx, hb, hml, hown, hts⟩ (m_S_filledPlaces l D k a 0 (va_cpy (V0 0) F 0 0 256) V0 (va_up M0 0 f) (va_up R0 0 0) 0 h031 _) ⟨va_cnB 0 hts (TB_c kc_S_filledPlaces) rfl rfl rfl (hE.1 _ nl_X_40) (hts _ kz_S) (by decide +kernel) ⟨Nat.le_of_ble_eq_true rfl, Nat.le_of_ble_eq_true rfl⟩, hts _ ki_S_filledPlaces, hts _ ks_S_filledPlaces⟩ ⟨PW.bl, va_recv (q := (RS, TS, 3)) hK hP rfl (wx_s h031), fun U hU hW => ⟨rfl, PW.go hK hP hD hS hA hE hU hW⟩⟩ rfl rfl hl.1 rfl (lv_room (Nat.le_of_ble_eq_true rfl)) d_X_begin_53 ⟨Nat.le_of_ble_eq_true rfl, Nat.le_of_ble_eq_true rfl⟩).run (fun r1 hr1 => ?_)
    have hV : ∀ j, j < 256 → V0 0 j = V d j := fun j hj => by rw [eV0, va_up_self]; exact (pk_cpy_in (Nat.zero_le j) (by omega)).trans (by rw [Nat.zero_add, Nat.sub_zero])
    exact W.iret (v := r1) hx hb hr (fun t ht hW => ⟨⟨_, (va_cpy (V0 0) F 0 0 256, V0, va_up M0 0 f, va_up R0 0 0), rfl, ⟨hV, fun j hj => (pk_cpy_in (Nat.zero_le j) (by omega)).trans (by rw [Nat.zero_add, Nat.sub_zero]; exact hV j hj), fun q hq => (congrFun (va_up_self M0 0 f) q).trans (hf q hq), va_up_self R0 0 0, hr1⟩, atP hP ht⟩, hS.F ht⟩) hS.2.2 d_X_begin_56
set_option maxHeartbeats 4000000 in
set_option maxRecDepth 100000 in
theorem m_X_store (l : Launch) (hl0 : l.stackTraces = false) (D : va_G) (k : Nat → ClassId) (a : Nat → Nat) (d : Nat) (hd : d ≤ 30) (F : Nat → Int64) (V M : Nat → Nat → Int64) (R : Nat → Int32) (o1 p1 : Int32) (x : Int64) (gas : Int32) (sz : Nat) : vx_Met l y_X_store (w_X_store :: TB) rX2 (va_Pc [.ref (a 0), .int o1, .int p1, .long x, .int gas] (PW D k (WX k a (nI d) F V M R) sz)) (va_Qi (fun (r : Int32) (w : (Nat → Nat → Int64) × (Nat → Nat → Int64) × (Nat → Int32)) => ∃ u v : Nat, u < 4 ∧ v < 64 ∧ o1 = nI u ∧ p1 = nI v ∧ r = fWC (F (u * 64 + v)) (V d (u * 64 + v)) x + (if tb (M d u) v then 0 else 2100) ∧ ¬ gas ≤ 2300 ∧ fWC (F (u * 64 + v)) (V d (u * 64 + v)) x + (if tb (M d u) v then 0 else 2100) ≤ gas ∧ w.1 = va_up V d (vp_updL (V d) (u * 64 + v) x) ∧ w.2.1 = va_up M d (vp_updL (M d) u (tbs (M d u) v)) ∧ w.2.2 = va_up R d (R d + fRC (F (u * 64 + v)) (V d (u * 64 + v)) x)) (fun w t => va_P D wCl (WX k a (nI d) F w.1 w.2.1 w.2.2) t.heap) (va_A (WX k a (nI d) F V M R) sz)) (vx_X (fun _ : Unit => True) (fun E _ t => ((E = EIAE ∧ ¬ okP o1 p1) ∨ (E = EISE ∧ ∃ u v : Nat, u < 4 ∧ v < 64 ∧ o1 = nI u ∧ p1 = nI v ∧ (gas ≤ 2300 ∨ ¬ fWC (F (u * 64 + v)) (V d (u * 64 + v)) x + (if tb (M d u) v then 0 else 2100) ≤ gas))) ∧ va_P D wCl (WX k a (nI d) F V M R) t.heap) (va_A (WX k a (nI d) F V M R) sz)) 2 12 (va_A (WX k a (nI d) F V M R) sz) := by
  refine vx_ofW (cc := b_X_store) (maxL := 13) (ret := some .int) (by decide) rfl ?_
  intro p e s m args below meth c s₁ B hml htab hv
  obtain ⟨rfl, hsz, hP, hK, hD0, hE⟩ := hv
  have hx := B.exec
  have hb := B.bytes
  have hr := B.returns
  have hts0 := atoms_spec (ws := w_X_store :: TB) B.pre
  have hts := fun w (hw : w ∈ TB) => hts0 w (List.mem_cons_of_mem _ hw)
  have hown : s.vm.findClass RX = some m.cls := findClass_of_methodNamed B.named
  have hlocks := B.notSynchronized
  subst hsz
  have hD := hD0.self (sz := s.heap.size)
  generalize hAe : va_A (WX k a (nI d) F V M R) s.heap.size = A at *
  have hA : ∀ q : Nat, s.heap.size ≤ q → A q := fun q h => by rw [← hAe]; exact Or.inr h
  have hS : va_S A s.heap s.heap [] := va_S.rf
  have hl := lv_entry ([.ref (a 0), .int o1, .int p1, .long x, .int gas]) (n := 13) (Nat.le_of_ble_eq_true rfl)
  rw [lg_entry_eq]
  generalize (lg_sl ([.ref (a 0), .int o1, .int p1, .long x, .int gas]) ++ List.replicate (13 - (lg_sl ([.ref (a 0), .int o1, .int p1, .long x, .int gas])).length) Slot.unset).toArray = ls at hl ⊢
  have hl : lv_has ls 13 [(0, .ref (a 0)), (1, .int o1), (2, .int p1), (3, .long x), (5, .int gas)] := hl
  have hd31 : d < 31 := by omega
  refine lv_iload_n hx hb d_X_store_0 rfl (lv_at hl 1 rfl) ?_
  refine lv_iload_n hx hb d_X_store_1 rfl (lv_at hl 2 rfl) ?_
  refine vx_callv (vx_runS (As := [.int o1, .int p1]) (rest := []) ⟨hx, hb, hml, hown, hts⟩ (m_X_checkPlace l hl0 D k (WX k a (nI d) F V M R) o1 p1 _) (va_cwS 2 hts (TB_g3 kl_X_56 kt_X_checkPlace kz_X (TB_c kc_X_checkPlace)) rfl rfl rfl (by decide +kernel) ⟨Nat.le_of_ble_eq_true rfl, Nat.le_of_ble_eq_true rfl⟩) ⟨PW.bl, fun U hU hW => ⟨rfl, PW.go hK hP hD hS hA hE hU hW⟩⟩ rfl rfl hl.1 rfl (lv_room (Nat.le_of_ble_eq_true rfl)) d_X_store_2 ⟨Nat.le_of_ble_eq_true rfl, Nat.le_of_ble_eq_true rfl⟩) hS (fun q _ h => cut_F hD hS hA q h) (cut_F hD hS hA) (fun q _ h => cut_F hD hS hA q h) (fun E ce q9 u t H1 locs1 ht hvm px hBX hz hk hS hcell hv9 hcl => ?_) (fun u t H1 locs1 ht hvm hpost hB hz hk hS => ?_)
  · obtain ⟨rfl, hB⟩ := hBX
    have hB : va_P D wCl (WX k a (nI d) F V M R) H1 := by rw [← ht]; exact hB
    exact vx_out (fun x h => (htab x h).elim) hlocks hcell hv9 hcl (fun t ht hvm => ⟨(), trivial, ⟨Or.inl ⟨rfl, px⟩, atP hB ht⟩, hS.F ht⟩) hS.2.2 (Nat.le_of_ble_eq_true rfl) (Nat.le_of_ble_eq_true rfl)
  rw [ht] at hB
  have hP := hB
  generalize H1 = H at hP hS ⊢
  generalize locs1 = locs at hS ⊢
  obtain ⟨u1, v1, hu, hv, rfl, rfl⟩ := hpost
  refine lv_aload_n hx hb d_X_store_5 rfl (lv_at hl 0 rfl) ?_
  refine va_get (D := D) (ci := 1) (v := .ref (a 2)) (C := RX) (T := TX) (N := 3) hx hb hts kin_X hown hK hP 0 rfl rfl 1 (by decide) (hts _ kf_X_15) (fun _ h9 => h9) rfl d_X_store_6 ?_
  refine lv_aload_n hx hb d_X_store_9 rfl (lv_at hl 0 rfl) ?_
  refine va_get (D := D) (ci := 1) (v := .int (nI d)) (C := RX) (T := TX) (N := 3) hx hb hts kin_X hown hK hP 0 rfl rfl 2 (by decide) (hts _ kf_X_19) (fun _ h9 => h9) rfl d_X_store_10 ?_
  refine va_aldq hx hb hK hP 2 1 rfl rfl (vp_in_nI hd31 (by decide)) d_X_store_13 ?_
  rw [show ((nI d) : Int32).toNatClampNeg = d from nI_clamp (by omega)]
  refine W.eq (g2 := F0 m 14 ls [.ref (a (3 + d))]) rfl ?_
  refine lv_astore (lv' := [(6, .ref (a (3 + d))), (0, .ref (a 0)), (1, .int (nI u1)), (2, .int (nI v1)), (3, .long x), (5, .int gas)]) hx hb d_X_store_14 hl (by decide) rfl (fun ls hl => ?_)
  refine lv_iload_n hx hb d_X_store_16 rfl (lv_at hl 2 rfl) ?_
  refine lv_iload_n hx hb d_X_store_17 rfl (lv_at hl 3 rfl) ?_
  refine vp_callSi (W.runS (As := [.int (nI u1), .int (nI v1)]) (rest := []) ⟨hx, hb, hml, hown, hts⟩ (m_X_cellOf l (nI u1) (nI v1)) (va_cwS 2 hts (TB_g3 kl_X_67 kt_X_cellOf kz_X (TB_c kc_X_cellOf)) rfl rfl rfl (by decide +kernel) ⟨Nat.le_of_ble_eq_true rfl, Nat.le_of_ble_eq_true rfl⟩) preEq rfl rfl hl.1 rfl (lv_room (Nat.le_of_ble_eq_true rfl)) d_X_store_18 ⟨Nat.le_of_ble_eq_true rfl, Nat.le_of_ble_eq_true rfl⟩) (fun r1 hr1 => ?_)
  obtain rfl : r1 = nI (u1 * 64 + v1) := by rw [hr1, ← nI_add, ← pk_mul]; rfl
  have hc : u1 * 64 + v1 < 256 := by omega
  refine lv_istore (lv' := [(7, .int (nI (u1 * 64 + v1))), (6, .ref (a (3 + d))), (0, .ref (a 0)), (1, .int (nI u1)), (2, .int (nI v1)), (3, .long x), (5, .int gas)]) hx hb d_X_store_21 hl (by decide) rfl (fun ls hl => ?_)
  refine lv_aload_n hx hb d_X_store_23 rfl (lv_at hl 2 rfl) ?_
  refine va_get (D := D) (ci := 1) (v := .ref (a 1)) (C := RX) (T := TX) (N := 3) hx hb hts kin_X hown hK hP 0 rfl rfl 0 (by decide) (hts _ kf_X_9) (fun _ h9 => h9) rfl d_X_store_24 ?_
  refine lv_iload hx hb d_X_store_27 (lv_at hl 0 rfl) ?_
  refine va_lald hx hb hK hP 1 0 rfl rfl (vp_in_nI hc (by decide)) d_X_store_29 ?_
  rw [nI_clamp (show u1 * 64 + v1 < 2 ^ 31 by omega)]
  refine lv_lstore (lv' := [(8, .long (F (u1 * 64 + v1))), (7, .int (nI (u1 * 64 + v1))), (6, .ref (a (3 + d))), (0, .ref (a 0)), (1, .int (nI u1)), (2, .int (nI v1)), (3, .long x), (5, .int gas)]) hx hb d_X_store_30 hl (by decide) rfl (fun ls hl => ?_)
  refine lv_aload hx hb d_X_store_32 (lv_at hl 2 rfl) ?_
  refine va_getN (D := D) (host := RX) (ci := 0) (v := .ref (a (34 + d))) (C := RS) (T := TS) (N := 3) hx hb hts kin_S hown hK hP (d + 3) (wx_s hd31) rfl 0 (by decide) (va_Nw.use rfl (hE.1 _ nf_X_31)) (fun _ h9 => h9) rfl d_X_store_34 ?_
  refine lv_iload hx hb d_X_store_37 (lv_at hl 1 rfl) ?_
  refine va_lald hx hb hK hP (d + 34) 0 (wx_v hd31) rfl (vp_in_nI hc (by decide)) d_X_store_39 ?_
  rw [nI_clamp (show u1 * 64 + v1 < 2 ^ 31 by omega)]
  refine lv_lstore (lv' := [(10, .long (V d (u1 * 64 + v1))), (8, .long (F (u1 * 64 + v1))), (7, .int (nI (u1 * 64 + v1))), (6, .ref (a (3 + d))), (0, .ref (a 0)), (1, .int (nI u1)), (2, .int (nI v1)), (3, .long x), (5, .int gas)]) hx hb d_X_store_40 hl (by decide) rfl (fun ls hl => ?_)
  refine lv_lload hx hb d_X_store_42 (lv_at hl 1 rfl) ?_
  refine lv_lload hx hb d_X_store_44 (lv_at hl 0 rfl) ?_
  refine lv_lload_n hx hb d_X_store_46 rfl (lv_at hl 7 rfl) ?_
  refine vp_callSi (W.runS (As := [.long (F (u1 * 64 + v1)), .long (V d (u1 * 64 + v1)), .long x]) (rest := []) ⟨hx, hb, hml, hown, hts⟩ (m_X_writeCost l (F (u1 * 64 + v1)) (V d (u1 * 64 + v1)) x) (va_cwS 3 hts (TB_g3 kl_X_71 kt_X_writeCost kz_X (TB_c kc_X_writeCost)) rfl rfl rfl (by decide +kernel) ⟨Nat.le_of_ble_eq_true rfl, Nat.le_of_ble_eq_true rfl⟩) preEq rfl rfl hl.1 rfl (lv_room (Nat.le_of_ble_eq_true rfl)) d_X_store_47 ⟨Nat.le_of_ble_eq_true rfl, Nat.le_of_ble_eq_true rfl⟩) (fun r2 hr2 => ?_)
  refine lv_istore (lv' := [(12, .int r2), (10, .long (V d (u1 * 64 + v1))), (8, .long (F (u1 * 64 + v1))), (7, .int (nI (u1 * 64 + v1))), (6, .ref (a (3 + d))), (0, .ref (a 0)), (1, .int (nI u1)), (2, .int (nI v1)), (3, .long x), (5, .int gas)]) hx hb d_X_store_50 hl (by decide) rfl (fun ls hl => ?_)
  refine lv_aload hx hb d_X_store_52 (lv_at hl 4 rfl) ?_
  refine lv_iload_n hx hb d_X_store_54 rfl (lv_at hl 6 rfl) ?_
  refine lv_iload_n hx hb d_X_store_55 rfl (lv_at hl 7 rfl) ?_
  refine vp_callSi (va_runVN (As := [.int (nI u1), .int (nI v1)]) (rest := []) (C := RS) (host := RX) ⟨hx, hb, hml, hown, hts⟩ (m_S_isMarked l D k a (nI d) F V M R d hd31 u1 v1 hu hv _) ⟨va_cnB 2 hts (TB_c kc_S_isMarked) rfl rfl rfl (hE.1 _ nl_X_60) (hts _ kz_S) (by decide +kernel) ⟨Nat.le_of_ble_eq_true rfl, Nat.le_of_ble_eq_true rfl⟩, hts _ ki_S_isMarked, hts _ ks_S_isMarked⟩ ⟨PW.bl, va_recv (q := (RS, TS, 3)) hK hP rfl (wx_s hd31), fun U hU hW => ⟨rfl, PW.go hK hP hD hS hA hE hU hW⟩⟩ rfl rfl hl.1 rfl (lv_room (Nat.le_of_ble_eq_true rfl)) d_X_store_56 ⟨Nat.le_of_ble_eq_true rfl, Nat.le_of_ble_eq_true rfl⟩).run (fun r3 hr3 => ?_)
  refine lv_if_ne (tgt := 68) hx hb d_X_store_59 (by decide) (fun c_59 => ?_) (fun c_59 => ?_)
  · have er : (r2 : Int32) = fWC (F (u1 * 64 + v1)) (V d (u1 * 64 + v1)) x + (if tb (M d u1) v1 then 0 else 2100) := by
      rw [hr3] at c_59
      cases hq : tb (M d u1) v1 <;> rw [hq] at c_59 <;> first | (rw [hr2]; rfl) | (rw [hr2, if_pos rfl]; exact (Int32.add_zero _).symm) | exact absurd rfl c_59 | exact absurd c_59 (by decide)
    refine lv_iload hx hb d_X_store_68 (lv_at hl 9 rfl) ?_
    refine lv_sipush (v := 2300) hx hb d_X_store_70 (by decide) ?_
    refine lv_icmp_le (tgt := 83) hx hb d_X_store_73 (by decide) (fun c_73 => ?_) (fun c_73 => ?_)
    · obtain ⟨sa, hsa⟩ := hE.2.2.2.1
      exact thr hx hb hl0 hts hown hE hS (hl.1.trans hml.symm) htab hlocks (by decide +kernel) kk_X_51 kz_IllegalStateException kx_ISE kg_ISE hsa d_X_store_83 d_X_store_86 d_X_store_87 d_X_store_89 d_X_store_92 (Nat.le_of_ble_eq_true rfl) (Nat.le_of_ble_eq_true rfl) (Nat.le_of_ble_eq_true rfl) (Nat.le_of_ble_eq_true rfl) (Nat.le_of_ble_eq_true rfl) (Nat.le_of_ble_eq_true rfl) (fun t hv9 hF hq => ⟨(), trivial, ⟨Or.inr ⟨rfl, u1, v1, hu, hv, rfl, rfl, Or.inl c_73⟩, kept_P hP hq⟩, hF⟩)
    · refine lv_iload hx hb d_X_store_76 (lv_at hl 0 rfl) ?_
      refine lv_iload hx hb d_X_store_78 (lv_at hl 9 rfl) ?_
      refine lv_icmp_le (tgt := 93) hx hb d_X_store_80 (by decide) (fun c_80 => ?_) (fun c_80 => ?_)
      · refine lv_aload hx hb d_X_store_93 (lv_at hl 4 rfl) ?_
        refine lv_iload_n hx hb d_X_store_95 rfl (lv_at hl 6 rfl) ?_
        refine lv_iload_n hx hb d_X_store_96 rfl (lv_at hl 7 rfl) ?_
        refine va_callv (va_runVN (As := [.int (nI u1), .int (nI v1)]) (rest := []) (C := RS) (host := RX) ⟨hx, hb, hml, hown, hts⟩ (m_S_mark l D k a (nI d) F V M R d hd31 u1 v1 hu hv _) ⟨va_cnB 2 hts (TB_c kc_S_mark) rfl rfl rfl (hE.1 _ nl_X_64) (hts _ kz_S) (by decide +kernel) ⟨Nat.le_of_ble_eq_true rfl, Nat.le_of_ble_eq_true rfl⟩, hts _ ki_S_mark, hts _ ks_S_mark⟩ ⟨PW.bl, va_recv (q := (RS, TS, 3)) hK hP rfl (wx_s hd31), fun U hU hW => ⟨rfl, PW.go hK hP hD hS hA hE hU hW⟩⟩ rfl rfl hl.1 rfl (lv_room (Nat.le_of_ble_eq_true rfl)) d_X_store_97 ⟨Nat.le_of_ble_eq_true rfl, Nat.le_of_ble_eq_true rfl⟩) hS (fun q _ h => cut_F hD hS hA q h) (cut_F hD hS hA) (fun uu t H1 locs1 ht hvm hpost hB hz hk hS => ?_)
        rw [ht] at hB
        subst hpost
        have hP := hB
        have hD := hD.ad (wx_ad : (WX k a (nI d) F V (va_up M d (vp_updL (M d) u1 (tbs (M d u1) v1))) R).map Prod.fst = _)
        generalize H1 = H at hP hS ⊢
        generalize locs1 = locs at hS ⊢
        refine lv_aload hx hb d_X_store_100 (lv_at hl 4 rfl) ?_
        refine lv_dup hx hb d_X_store_102 rfl ?_
        refine va_getN (D := D) (host := RX) (ci := 0) (v := .int (R d)) (C := RS) (T := TS) (N := 3) hx hb hts kin_S hown hK hP (d + 3) (wx_s hd31) rfl 2 (by decide) (va_Nw.use rfl (hE.1 _ nf_X_77)) (fun _ h9 => h9) rfl d_X_store_103 ?_
        refine lv_lload hx hb d_X_store_106 (lv_at hl 2 rfl) ?_
        refine lv_lload hx hb d_X_store_108 (lv_at hl 1 rfl) ?_
        refine lv_lload_n hx hb d_X_store_110 rfl (lv_at hl 8 rfl) ?_
        refine vp_callSi (W.runS (As := [.long (F (u1 * 64 + v1)), .long (V d (u1 * 64 + v1)), .long x]) (rest := [.int (R d), .ref (a (3 + d))]) ⟨hx, hb, hml, hown, hts⟩ (m_X_refundChange l (F (u1 * 64 + v1)) (V d (u1 * 64 + v1)) x) (va_cwS 3 hts (TB_g3 kl_X_80 kt_X_refundChange kz_X (TB_c kc_X_refundChange)) rfl rfl rfl (by decide +kernel) ⟨Nat.le_of_ble_eq_true rfl, Nat.le_of_ble_eq_true rfl⟩) preEq rfl rfl hl.1 rfl (lv_room (Nat.le_of_ble_eq_true rfl)) d_X_store_111 ⟨Nat.le_of_ble_eq_true rfl, Nat.le_of_ble_eq_true rfl⟩) (fun r4 hr4 => ?_)
        refine lv_iadd hx hb d_X_store_114 ?_
        refine va_putN (D := D) (host := RX) (ci := 0) (v := .int ((R d) + (r4))) (ty := .int) (C := RS) (T := TS) (N := 3) hx hb hts kin_S tS tyS nmS hown hK hP hD hS (d + 3) (wx_s hd31) rfl 2 (by decide) (va_Nw.use rfl (hE.1 _ nf_X_77)) (fun _ h9 => h9) rfl (by decide +kernel) rfl rfl (Nat.le_of_ble_eq_true rfl) d_X_store_115 (fun H locs hP hD hS => ?_)
        have hP := (congrArg (fun w => va_P D wCl w H) (wx_setR hd31)).mp hP
        have hD := (congrArg (fun w => va_D A w) (wx_setR hd31)).mp hD
        have hP : va_P D wCl (WX k a (nI d) F V (va_up M d (vp_updL (M d) u1 (tbs (M d u1) v1))) (va_up R d ((R d) + (r4)))) H := hP
        have hD : va_D A (WX k a (nI d) F V (va_up M d (vp_updL (M d) u1 (tbs (M d u1) v1))) (va_up R d ((R d) + (r4)))) := hD
        refine lv_aload hx hb d_X_store_118 (lv_at hl 4 rfl) ?_
        refine va_getN (D := D) (host := RX) (ci := 0) (v := .ref (a (34 + d))) (C := RS) (T := TS) (N := 3) hx hb hts kin_S hown hK hP (d + 3) (wx_s hd31) rfl 0 (by decide) (va_Nw.use rfl (hE.1 _ nf_X_31)) (fun _ h9 => h9) rfl d_X_store_120 ?_
        refine lv_iload hx hb d_X_store_123 (lv_at hl 3 rfl) ?_
        refine lv_lload_n hx hb d_X_store_125 rfl (lv_at hl 8 rfl) ?_
        refine va_last hx hb hK hP hD hS (d + 34) 0 (wx_v hd31) rfl (vp_in_nI hc (by decide)) d_X_store_126 (fun H locs hP hD hS => ?_)
        have hP := (congrArg (fun w => va_P D wCl w H) (wx_setV hd31)).mp hP
        have hD := (congrArg (fun w => va_D A w) (wx_setV hd31)).mp hD
        have hP : va_P D wCl (WX k a (nI d) F (va_up V d (vp_updL (V d) ((nI (u1 * 64 + v1)).toNatClampNeg) x)) (va_up M d (vp_updL (M d) u1 (tbs (M d u1) v1))) (va_up R d ((R d) + (r4)))) H := hP
        have hD : va_D A (WX k a (nI d) F (va_up V d (vp_updL (V d) ((nI (u1 * 64 + v1)).toNatClampNeg) x)) (va_up M d (vp_updL (M d) u1 (tbs (M d u1) v1))) (va_up R d ((R d) + (r4)))) := hD
        rw [nI_clamp (show u1 * 64 + v1 < 2 ^ 31 by omega), hr4] at hP
        refine lv_iload hx hb d_X_store_127 (lv_at hl 0 rfl) ?_
        refine W.widen (k := 2) (n := 12) (by omega) (by omega) ?_
        refine vx_ret ?_
        exact W.iret (v := r2) hx hb hr (fun t ht hW => ⟨⟨_, (va_up V d (vp_updL (V d) (u1 * 64 + v1) x), va_up M d (vp_updL (M d) u1 (tbs (M d u1) v1)), va_up R d (R d + fRC (F (u1 * 64 + v1)) (V d (u1 * 64 + v1)) x)), rfl, ⟨u1, v1, hu, hv, rfl, rfl, er, c_73, (by rw [← er]; exact c_80), rfl, rfl, rfl⟩, atP hP ht⟩, hS.F ht⟩) hS.2.2 d_X_store_129
      · obtain ⟨sa, hsa⟩ := hE.2.2.2.1
        exact thr hx hb hl0 hts hown hE hS (hl.1.trans hml.symm) htab hlocks (by decide +kernel) kk_X_51 kz_IllegalStateException kx_ISE kg_ISE hsa d_X_store_83 d_X_store_86 d_X_store_87 d_X_store_89 d_X_store_92 (Nat.le_of_ble_eq_true rfl) (Nat.le_of_ble_eq_true rfl) (Nat.le_of_ble_eq_true rfl) (Nat.le_of_ble_eq_true rfl) (Nat.le_of_ble_eq_true rfl) (Nat.le_of_ble_eq_true rfl) (fun t hv9 hF hq => ⟨(), trivial, ⟨Or.inr ⟨rfl, u1, v1, hu, hv, rfl, rfl, Or.inr (fun q => c_80 (by rw [er]; exact q))⟩, kept_P hP hq⟩, hF⟩)
  · refine lv_iincW (v := (r2) + 2100) (lv' := [(12, .int ((r2) + 2100)), (10, .long (V d (u1 * 64 + v1))), (8, .long (F (u1 * 64 + v1))), (7, .int (nI (u1 * 64 + v1))), (6, .ref (a (3 + d))), (0, .ref (a 0)), (1, .int (nI u1)), (2, .int (nI v1)), (3, .long x), (5, .int gas)]) hx hb d_X_store_62 hl (k := 0) rfl rfl (by decide) rfl (fun ls hl => ?_)
    have er : ((r2) + 2100 : Int32) = fWC (F (u1 * 64 + v1)) (V d (u1 * 64 + v1)) x + (if tb (M d u1) v1 then 0 else 2100) := by
      rw [hr3] at c_59
      cases hq : tb (M d u1) v1 <;> rw [hq] at c_59 <;> first | (rw [hr2]; rfl) | (rw [hr2, if_pos rfl]; exact (Int32.add_zero _).symm) | exact absurd rfl c_59 | exact absurd c_59 (by decide)
    refine lv_iload hx hb d_X_store_68 (lv_at hl 9 rfl) ?_
    refine lv_sipush (v := 2300) hx hb d_X_store_70 (by decide) ?_
    refine lv_icmp_le (tgt := 83) hx hb d_X_store_73 (by decide) (fun c_73 => ?_) (fun c_73 => ?_)
    · obtain ⟨sa, hsa⟩ := hE.2.2.2.1
      exact thr hx hb hl0 hts hown hE hS (hl.1.trans hml.symm) htab hlocks (by decide +kernel) kk_X_51 kz_IllegalStateException kx_ISE kg_ISE hsa d_X_store_83 d_X_store_86 d_X_store_87 d_X_store_89 d_X_store_92 (Nat.le_of_ble_eq_true rfl) (Nat.le_of_ble_eq_true rfl) (Nat.le_of_ble_eq_true rfl) (Nat.le_of_ble_eq_true rfl) (Nat.le_of_ble_eq_true rfl) (Nat.le_of_ble_eq_true rfl) (fun t hv9 hF hq => ⟨(), trivial, ⟨Or.inr ⟨rfl, u1, v1, hu, hv, rfl, rfl, Or.inl c_73⟩, kept_P hP hq⟩, hF⟩)
    · refine lv_iload hx hb d_X_store_76 (lv_at hl 0 rfl) ?_
      refine lv_iload hx hb d_X_store_78 (lv_at hl 9 rfl) ?_
      refine lv_icmp_le (tgt := 93) hx hb d_X_store_80 (by decide) (fun c_80 => ?_) (fun c_80 => ?_)
      · refine lv_aload hx hb d_X_store_93 (lv_at hl 4 rfl) ?_
        refine lv_iload_n hx hb d_X_store_95 rfl (lv_at hl 6 rfl) ?_
        refine lv_iload_n hx hb d_X_store_96 rfl (lv_at hl 7 rfl) ?_
        refine va_callv (va_runVN (As := [.int (nI u1), .int (nI v1)]) (rest := []) (C := RS) (host := RX) ⟨hx, hb, hml, hown, hts⟩ (m_S_mark l D k a (nI d) F V M R d hd31 u1 v1 hu hv _) ⟨va_cnB 2 hts (TB_c kc_S_mark) rfl rfl rfl (hE.1 _ nl_X_64) (hts _ kz_S) (by decide +kernel) ⟨Nat.le_of_ble_eq_true rfl, Nat.le_of_ble_eq_true rfl⟩, hts _ ki_S_mark, hts _ ks_S_mark⟩ ⟨PW.bl, va_recv (q := (RS, TS, 3)) hK hP rfl (wx_s hd31), fun U hU hW => ⟨rfl, PW.go hK hP hD hS hA hE hU hW⟩⟩ rfl rfl hl.1 rfl (lv_room (Nat.le_of_ble_eq_true rfl)) d_X_store_97 ⟨Nat.le_of_ble_eq_true rfl, Nat.le_of_ble_eq_true rfl⟩) hS (fun q _ h => cut_F hD hS hA q h) (cut_F hD hS hA) (fun uu t H1 locs1 ht hvm hpost hB hz hk hS => ?_)
        rw [ht] at hB
        subst hpost
        have hP := hB
        have hD := hD.ad (wx_ad : (WX k a (nI d) F V (va_up M d (vp_updL (M d) u1 (tbs (M d u1) v1))) R).map Prod.fst = _)
        generalize H1 = H at hP hS ⊢
        generalize locs1 = locs at hS ⊢
        refine lv_aload hx hb d_X_store_100 (lv_at hl 4 rfl) ?_
        refine lv_dup hx hb d_X_store_102 rfl ?_
        refine va_getN (D := D) (host := RX) (ci := 0) (v := .int (R d)) (C := RS) (T := TS) (N := 3) hx hb hts kin_S hown hK hP (d + 3) (wx_s hd31) rfl 2 (by decide) (va_Nw.use rfl (hE.1 _ nf_X_77)) (fun _ h9 => h9) rfl d_X_store_103 ?_
        refine lv_lload hx hb d_X_store_106 (lv_at hl 2 rfl) ?_
        refine lv_lload hx hb d_X_store_108 (lv_at hl 1 rfl) ?_
        refine lv_lload_n hx hb d_X_store_110 rfl (lv_at hl 8 rfl) ?_
        refine vp_callSi (W.runS (As := [.long (F (u1 * 64 + v1)), .long (V d (u1 * 64 + v1)), .long x]) (rest := [.int (R d), .ref (a (3 + d))]) ⟨hx, hb, hml, hown, hts⟩ (m_X_refundChange l (F (u1 * 64 + v1)) (V d (u1 * 64 + v1)) x) (va_cwS 3 hts (TB_g3 kl_X_80 kt_X_refundChange kz_X (TB_c kc_X_refundChange)) rfl rfl rfl (by decide +kernel) ⟨Nat.le_of_ble_eq_true rfl, Nat.le_of_ble_eq_true rfl⟩) preEq rfl rfl hl.1 rfl (lv_room (Nat.le_of_ble_eq_true rfl)) d_X_store_111 ⟨Nat.le_of_ble_eq_true rfl, Nat.le_of_ble_eq_true rfl⟩) (fun r4 hr4 => ?_)
        refine lv_iadd hx hb d_X_store_114 ?_
        refine va_putN (D := D) (host := RX) (ci := 0) (v := .int ((R d) + (r4))) (ty := .int) (C := RS) (T := TS) (N := 3) hx hb hts kin_S tS tyS nmS hown hK hP hD hS (d + 3) (wx_s hd31) rfl 2 (by decide) (va_Nw.use rfl (hE.1 _ nf_X_77)) (fun _ h9 => h9) rfl (by decide +kernel) rfl rfl (Nat.le_of_ble_eq_true rfl) d_X_store_115 (fun H locs hP hD hS => ?_)
        have hP := (congrArg (fun w => va_P D wCl w H) (wx_setR hd31)).mp hP
        have hD := (congrArg (fun w => va_D A w) (wx_setR hd31)).mp hD
        have hP : va_P D wCl (WX k a (nI d) F V (va_up M d (vp_updL (M d) u1 (tbs (M d u1) v1))) (va_up R d ((R d) + (r4)))) H := hP
        have hD : va_D A (WX k a (nI d) F V (va_up M d (vp_updL (M d) u1 (tbs (M d u1) v1))) (va_up R d ((R d) + (r4)))) := hD
        refine lv_aload hx hb d_X_store_118 (lv_at hl 4 rfl) ?_
        refine va_getN (D := D) (host := RX) (ci := 0) (v := .ref (a (34 + d))) (C := RS) (T := TS) (N := 3) hx hb hts kin_S hown hK hP (d + 3) (wx_s hd31) rfl 0 (by decide) (va_Nw.use rfl (hE.1 _ nf_X_31)) (fun _ h9 => h9) rfl d_X_store_120 ?_
        refine lv_iload hx hb d_X_store_123 (lv_at hl 3 rfl) ?_
        refine lv_lload_n hx hb d_X_store_125 rfl (lv_at hl 8 rfl) ?_
        refine va_last hx hb hK hP hD hS (d + 34) 0 (wx_v hd31) rfl (vp_in_nI hc (by decide)) d_X_store_126 (fun H locs hP hD hS => ?_)
        have hP := (congrArg (fun w => va_P D wCl w H) (wx_setV hd31)).mp hP
        have hD := (congrArg (fun w => va_D A w) (wx_setV hd31)).mp hD
        have hP : va_P D wCl (WX k a (nI d) F (va_up V d (vp_updL (V d) ((nI (u1 * 64 + v1)).toNatClampNeg) x)) (va_up M d (vp_updL (M d) u1 (tbs (M d u1) v1))) (va_up R d ((R d) + (r4)))) H := hP
        have hD : va_D A (WX k a (nI d) F (va_up V d (vp_updL (V d) ((nI (u1 * 64 + v1)).toNatClampNeg) x)) (va_up M d (vp_updL (M d) u1 (tbs (M d u1) v1))) (va_up R d ((R d) + (r4)))) := hD
        rw [nI_clamp (show u1 * 64 + v1 < 2 ^ 31 by omega), hr4] at hP
        refine lv_iload hx hb d_X_store_127 (lv_at hl 0 rfl) ?_
        refine W.widen (k := 2) (n := 12) (by omega) (by omega) ?_
        refine vx_ret ?_
        exact W.iret (v := (r2) + 2100) hx hb hr (fun t ht hW => ⟨⟨_, (va_up V d (vp_updL (V d) (u1 * 64 + v1) x), va_up M d (vp_updL (M d) u1 (tbs (M d u1) v1)), va_up R d (R d + fRC (F (u1 * 64 + v1)) (V d (u1 * 64 + v1)) x)), rfl, ⟨u1, v1, hu, hv, rfl, rfl, er, c_73, (by rw [← er]; exact c_80), rfl, rfl, rfl⟩, atP hP ht⟩, hS.F ht⟩) hS.2.2 d_X_store_129
      · obtain ⟨sa, hsa⟩ := hE.2.2.2.1
        exact thr hx hb hl0 hts hown hE hS (hl.1.trans hml.symm) htab hlocks (by decide +kernel) kk_X_51 kz_IllegalStateException kx_ISE kg_ISE hsa d_X_store_83 d_X_store_86 d_X_store_87 d_X_store_89 d_X_store_92 (Nat.le_of_ble_eq_true rfl) (Nat.le_of_ble_eq_true rfl) (Nat.le_of_ble_eq_true rfl) (Nat.le_of_ble_eq_true rfl) (Nat.le_of_ble_eq_true rfl) (Nat.le_of_ble_eq_true rfl) (fun t hv9 hF hq => ⟨(), trivial, ⟨Or.inr ⟨rfl, u1, v1, hu, hv, rfl, rfl, Or.inr (fun q => c_80 (by rw [er]; exact q))⟩, kept_P hP hq⟩, hF⟩)
end
section
/-! the reference: words for its state; small methods -/
abbrev rM1 : Room := { frames := 1, cells := 0, slots := 0, locals := 40 }
abbrev rM : Room := { frames := 3, cells := 0, slots := 0, locals := 100 }
/-- truth as the machine keeps it -/
def zb (t : Nat → Bool) : Nat → Int32 := fun j => if t j then 1 else 0
theorem zb_up (t : Nat → Bool) (j : Nat) (q : Bool) {x : Int32} (hx : x = if q then 1 else 0) : upd (zb t) j (vp_nar .boolean x) = zb (va_up t j q) := by
  subst hx
  funext i
  by_cases h : i = j
  · subst h
    rw [pk_us]
    simp only [zb, va_up_self]
    cases q <;> rfl
  · rw [pk_un h]
    simp only [zb, va_up_ne _ _ h]
theorem zb_row (T : Nat → Nat → Bool) (i : Nat) (g : Nat → Bool) : va_up (fun x => zb (T x)) i (zb g) = fun x => zb (va_up T i g x) := by
  funext x
  by_cases h : x = i <;> simp [va_up, h]
theorem zb_c (t : Nat → Bool) (j : Nat) : zb t j = if t j then 1 else 0 := rfl
section ALDA
variable {p : Program} {l : Launch} {e : Env} {R : Room} {s : State} {m : MethodId} {args : Array Value} {below : List Frame} {meth : Method} {c : Code} {H : Heap} {locs : List Loc} {cells slots : Nat} {Q : State → Prop}
variable {cc : ByteArray} {pc : Nat} {ls : Array Slot} {rest : List Value} {D : va_G} {cl : List vw_C} {A : Nat → Prop} {a : Nat} {tys : List (ClassId × FieldType)} {ws : va_W} {H0 : Heap}
/-- a row out of an array of rows -/
theorem va_aldA {ty : FieldType} (hexec : p.tables.exec = Jvm.exec) (hb : c.code = cc) (hK : va_K D cl tys s) (hP : va_P D cl ws H) (q0 t0 : Nat) {cA : ClassId} {n : Nat} {f : Nat → Option Nat} (ha : ws[q0]? = some (a, .inl (cA, n, .inr (.inr (.inr (.inr f)))))) (ht : tys[t0]? = some (cA, .array ty)) {i : Int32} (hin : vp_in i n) (hdg : decode cc pc = .ok (.aaload, 1))
    (kk : W p l e R s m args below meth c H locs cells slots Q (F0 m (pc + 1) ls (va_rf (f i.toNatClampNeg) :: rest))) : W p l e R s m args below meth c H locs cells slots Q (F0 m pc ls (.int i :: .ref a :: rest)) := by
  have hlt : i.toNatClampNeg < n := Nat.not_le.mp fun q => hin (Or.inr q)
  exact W.aald (v := va_rf (f i.toNatClampNeg)) (ty := .array ty) hexec hb (hP q0 _ ha) ((hK.2 t0 _ ht).1 n (fun j => va_rf (f j))) rfl (fun q => by cases q) (by show ¬ (i < 0 ∨ (arrV _ _ _).slots.size ≤ _); rw [arrV_size]; exact hin) (by show (arrV _ _ _).slots[_]? = _; rw [arrV_read _ _ hlt]) rfl rfl hdg kk
end ALDA
theorem okP_iff {o p : Int32} (h1 : ¬ o < 0) (h2 : ¬ 3 < o) (h3 : ¬ p < 0) (h4 : p ≤ 63) : okP o p := by
  obtain ⟨u, hu, rfl⟩ := nI_of h1
  obtain ⟨v, hv, rfl⟩ := nI_of h3
  refine ⟨u, v, ?_, ?_, rfl, rfl⟩
  · rcases Nat.lt_or_ge u 4 with q | q
    · exact q
    · exact absurd (show nI 3 < nI u from nI_lt (by omega) hu) h2
  · rcases Nat.lt_or_ge v 64 with q | q
    · exact q
    · exact absurd (show nI v ≤ nI 63 from h4) (nI_ge (by omega) hv)
theorem okP_no5 {o p : Int32} (h : 3 < o) : ¬ okP o p := fun ⟨u, v, hu, hv, e1, e2⟩ => nI_nlt (show u ≤ 3 by omega) (by decide) (show nI 3 < nI u from e1 ▸ h)
theorem okP_no6 {o p : Int32} (h : ¬ p ≤ 63) : ¬ okP o p := fun ⟨u, v, hu, hv, e1, e2⟩ => h (by rw [e2]; exact (show nI v ≤ nI 63 from nI_le (by omega) (by decide)))
theorem mi_c (u v : Nat) : (64 : Int32) * nI u + nI v = nI (u * 64 + v) := by
  rw [show (64 : Int32) = nI 64 from rfl, pk_mul, nI_add, Nat.mul_comm]

set_option maxHeartbeats 4000000 in
set_option maxRecDepth 100000 in
theorem m_M_thrown (l : Launch) (D : va_G) (k : Nat → ClassId) (b : Nat → Nat) (f r d : Int32) (N F : Nat → Int64) (t : Nat → Bool) (KR : Nat → Int32) (K : Nat → Nat → Int64) (T : Nat → Nat → Bool) (sz : Nat) : Met l y_M_thrown (w_M_thrown :: TB) rM1 (va_Pc [.ref (b 0)] (PW D k (WM k b f r d N F (zb t) KR K (fun i => zb (T i))) sz)) (vp_Si (fun x => x = f)) 0 0 (fun _ => False) := by
  refine Met.ofW (cc := b_M_thrown) (maxL := 1) (ret := some .int) (by decide) rfl ?_
  intro p e s m args below meth c s₁ B hml hv
  obtain ⟨rfl, hsz, hP, hK, hD0, hE⟩ := hv
  have hx := B.exec
  have hb := B.bytes
  have hr := B.returns
  have hts0 := atoms_spec (ws := w_M_thrown :: TB) B.pre
  have hts := fun w (hw : w ∈ TB) => hts0 w (List.mem_cons_of_mem _ hw)
  have hown : s.vm.findClass RM = some m.cls := findClass_of_methodNamed B.named
  have hlocks := B.notSynchronized
  subst hsz
  have hD := hD0.self (sz := s.heap.size)
  generalize hAe : va_A (WM k b f r d N F (zb t) KR K (fun i => zb (T i))) s.heap.size = A at *
  have hA : ∀ q : Nat, s.heap.size ≤ q → A q := fun q h => by rw [← hAe]; exact Or.inr h
  have hS : va_S A s.heap s.heap [] := va_S.rf
  have hl := lv_entry ([.ref (b 0)]) (n := 1) (Nat.le_of_ble_eq_true rfl)
  rw [lg_entry_eq]
  generalize (lg_sl ([.ref (b 0)]) ++ List.replicate (1 - (lg_sl ([.ref (b 0)])).length) Slot.unset).toArray = ls at hl ⊢
  have hl : lv_has ls 1 [(0, .ref (b 0))] := hl
  refine lv_aload_n hx hb d_M_thrown_0 rfl (lv_at hl 0 rfl) ?_
  refine va_get (D := D) (ci := 2) (v := .int f) (C := RM) (T := TM) (N := 9) hx hb hts kin_M hown hK hP 0 rfl rfl 0 (by decide) (hts _ kf_M_34) (fun _ h9 => h9) rfl d_M_thrown_1 ?_
  exact W.iret (v := f) hx hb hr (fun t9 ht hW => ⟨_, rfl, rfl, ht⟩) (fun _ h => absurd h List.not_mem_nil) d_M_thrown_4
set_option maxHeartbeats 4000000 in
set_option maxRecDepth 100000 in
theorem m_M_fail (l : Launch) (D : va_G) (k : Nat → ClassId) (b : Nat → Nat) (f r d : Int32) (N F : Nat → Int64) (t : Nat → Bool) (KR : Nat → Int32) (K : Nat → Nat → Int64) (T : Nat → Nat → Bool) (z : Int32) (sz : Nat) : Met l y_M_fail (w_M_fail :: TB) rM1 (va_Pc [.ref (b 0), .int z] (PW D k (WM k b f r d N F (zb t) KR K (fun i => zb (T i))) sz)) (va_Qi (fun (x : Int32) (_ : Unit) => x = 0) (fun _ t9 => va_P D wCl (WM k b z r d N F (zb t) KR K (fun i => zb (T i))) t9.heap) (va_A (WM k b f r d N F (zb t) KR K (fun i => zb (T i))) sz)) 0 0 (va_A (WM k b f r d N F (zb t) KR K (fun i => zb (T i))) sz) := by
  refine Met.ofW (cc := b_M_fail) (maxL := 2) (ret := some .int) (by decide) rfl ?_
  intro p e s m args below meth c s₁ B hml hv
  obtain ⟨rfl, hsz, hP, hK, hD0, hE⟩ := hv
  have hx := B.exec
  have hb := B.bytes
  have hr := B.returns
  have hts0 := atoms_spec (ws := w_M_fail :: TB) B.pre
  have hts := fun w (hw : w ∈ TB) => hts0 w (List.mem_cons_of_mem _ hw)
  have hown : s.vm.findClass RM = some m.cls := findClass_of_methodNamed B.named
  have hlocks := B.notSynchronized
  subst hsz
  have hD := hD0.self (sz := s.heap.size)
  generalize hAe : va_A (WM k b f r d N F (zb t) KR K (fun i => zb (T i))) s.heap.size = A at *
  have hA : ∀ q : Nat, s.heap.size ≤ q → A q := fun q h => by rw [← hAe]; exact Or.inr h
  have hS : va_S A s.heap s.heap [] := va_S.rf
  have hl := lv_entry ([.ref (b 0), .int z]) (n := 2) (Nat.le_of_ble_eq_true rfl)
  rw [lg_entry_eq]
  generalize (lg_sl ([.ref (b 0), .int z]) ++ List.replicate (2 - (lg_sl ([.ref (b 0), .int z])).length) Slot.unset).toArray = ls at hl ⊢
  have hl : lv_has ls 2 [(0, .ref (b 0)), (1, .int z)] := hl
  refine lv_aload_n hx hb d_M_fail_0 rfl (lv_at hl 0 rfl) ?_
  refine lv_iload_n hx hb d_M_fail_1 rfl (lv_at hl 1 rfl) ?_
  refine va_put (D := D) (ci := 2) (v := .int z) (ty := .int) (C := RM) (T := TM) (N := 9) hx hb hts kin_M tM tyM nmM hown hK hP hD hS 0 rfl rfl 0 (by decide) (hts _ kf_M_34) (fun _ h9 => h9) rfl (by decide +kernel) rfl rfl (Nat.le_of_ble_eq_true rfl) d_M_fail_2 (fun H locs hP hD hS => ?_)
  have hP : va_P D wCl (WM k b z r d N F (zb t) KR K (fun i => zb (T i))) H := hP
  have hD : va_D A (WM k b z r d N F (zb t) KR K (fun i => zb (T i))) := hD
  refine lv_iconst (v := 0) hx hb d_M_fail_5 (by decide) ?_
  exact W.iret (v := 0) hx hb hr (fun t9 ht hW => ⟨⟨_, (), rfl, rfl, atP hP ht⟩, hS.F ht⟩) hS.2.2 d_M_fail_6
set_option maxHeartbeats 4000000 in
set_option maxRecDepth 100000 in
theorem m_M_out (l : Launch) (D : va_G) (k : Nat → ClassId) (b : Nat → Nat) (f r d : Int32) (N F : Nat → Int64) (t : Nat → Bool) (KR : Nat → Int32) (K : Nat → Nat → Int64) (T : Nat → Nat → Bool) (o1 p1 : Int32) (sz : Nat) : Met l y_M_out (w_M_out :: TB) rM1 (va_Pc [.ref (b 0), .int o1, .int p1] (PW D k (WM k b f r d N F (zb t) KR K (fun i => zb (T i))) sz)) (vp_Si (fun x => (okP o1 p1 ∧ x = 0) ∨ (¬ okP o1 p1 ∧ x = 1))) 0 0 (fun _ => False) := by
  refine Met.ofW (cc := b_M_out) (maxL := 3) (ret := some .boolean) (by decide) rfl ?_
  intro p e s m args below meth c s₁ B hml hv
  obtain ⟨rfl, hsz, hP, hK, hD0, hE⟩ := hv
  have hx := B.exec
  have hb := B.bytes
  have hr := B.returns
  have hts0 := atoms_spec (ws := w_M_out :: TB) B.pre
  have hts := fun w (hw : w ∈ TB) => hts0 w (List.mem_cons_of_mem _ hw)
  have hown : s.vm.findClass RM = some m.cls := findClass_of_methodNamed B.named
  have hlocks := B.notSynchronized
  subst hsz
  have hD := hD0.self (sz := s.heap.size)
  generalize hAe : va_A (WM k b f r d N F (zb t) KR K (fun i => zb (T i))) s.heap.size = A at *
  have hA : ∀ q : Nat, s.heap.size ≤ q → A q := fun q h => by rw [← hAe]; exact Or.inr h
  have hS : va_S A s.heap s.heap [] := va_S.rf
  have hl := lv_entry ([.ref (b 0), .int o1, .int p1]) (n := 3) (Nat.le_of_ble_eq_true rfl)
  rw [lg_entry_eq]
  generalize (lg_sl ([.ref (b 0), .int o1, .int p1]) ++ List.replicate (3 - (lg_sl ([.ref (b 0), .int o1, .int p1])).length) Slot.unset).toArray = ls at hl ⊢
  have hl : lv_has ls 3 [(0, .ref (b 0)), (1, .int o1), (2, .int p1)] := hl
  refine lv_iload_n hx hb d_M_out_0 rfl (lv_at hl 1 rfl) ?_
  refine lv_if_lt (tgt := 19) hx hb d_M_out_1 (by decide) (fun c_1 => ?_) (fun c_1 => ?_)
  · refine lv_iconst (v := 1) hx hb d_M_out_19 (by decide) ?_
    refine lv_goto (tgt := 24) hx hb d_M_out_20 (by decide) ?_
    exact W.zret (v := 1) hx hb hr rfl (fun t9 ht hW => ⟨_, rfl, Or.inr ⟨okP_no1 c_1, rfl⟩, ht⟩) (fun _ h => absurd h List.not_mem_nil) d_M_out_24
  · refine lv_iload_n hx hb d_M_out_4 rfl (lv_at hl 1 rfl) ?_
    refine lv_iconst (v := 3) hx hb d_M_out_5 (by decide) ?_
    refine lv_icmp_gt (tgt := 19) hx hb d_M_out_6 (by decide) (fun c_6 => ?_) (fun c_6 => ?_)
    · refine lv_iconst (v := 1) hx hb d_M_out_19 (by decide) ?_
      refine lv_goto (tgt := 24) hx hb d_M_out_20 (by decide) ?_
      exact W.zret (v := 1) hx hb hr rfl (fun t9 ht hW => ⟨_, rfl, Or.inr ⟨okP_no5 c_6, rfl⟩, ht⟩) (fun _ h => absurd h List.not_mem_nil) d_M_out_24
    · refine lv_iload_n hx hb d_M_out_9 rfl (lv_at hl 2 rfl) ?_
      refine lv_if_lt (tgt := 19) hx hb d_M_out_10 (by decide) (fun c_10 => ?_) (fun c_10 => ?_)
      · refine lv_iconst (v := 1) hx hb d_M_out_19 (by decide) ?_
        refine lv_goto (tgt := 24) hx hb d_M_out_20 (by decide) ?_
        exact W.zret (v := 1) hx hb hr rfl (fun t9 ht hW => ⟨_, rfl, Or.inr ⟨okP_no3 c_10, rfl⟩, ht⟩) (fun _ h => absurd h List.not_mem_nil) d_M_out_24
      · refine lv_iload_n hx hb d_M_out_13 rfl (lv_at hl 2 rfl) ?_
        refine lv_bipush (v := 63) hx hb d_M_out_14 (by decide) ?_
        refine lv_icmp_le (tgt := 23) hx hb d_M_out_16 (by decide) (fun c_16 => ?_) (fun c_16 => ?_)
        · refine lv_iconst (v := 0) hx hb d_M_out_23 (by decide) ?_
          exact W.zret (v := 0) hx hb hr rfl (fun t9 ht hW => ⟨_, rfl, Or.inl ⟨okP_iff c_1 c_6 c_10 c_16, rfl⟩, ht⟩) (fun _ h => absurd h List.not_mem_nil) d_M_out_24
        · refine lv_iconst (v := 1) hx hb d_M_out_19 (by decide) ?_
          refine lv_goto (tgt := 24) hx hb d_M_out_20 (by decide) ?_
          exact W.zret (v := 1) hx hb hr rfl (fun t9 ht hW => ⟨_, rfl, Or.inr ⟨okP_no6 c_16, rfl⟩, ht⟩) (fun _ h => absurd h List.not_mem_nil) d_M_out_24
set_option maxHeartbeats 4000000 in
set_option maxRecDepth 100000 in
theorem m_M_filled (l : Launch) (D : va_G) (k : Nat → ClassId) (b : Nat → Nat) (f r d : Int32) (N F : Nat → Int64) (t : Nat → Bool) (KR : Nat → Int32) (K : Nat → Nat → Int64) (T : Nat → Nat → Bool) (sz : Nat) : Met l y_M_filled (w_M_filled :: TB) rM1 (va_Pc [.ref (b 0)] (PW D k (WM k b f r d N F (zb t) KR K (fun i => zb (T i))) sz)) (vp_Si (fun x => x = nI (cnt N 256))) 0 0 (fun _ => False) := by
  refine Met.ofW (cc := b_M_filled) (maxL := 3) (ret := some .int) (by decide) rfl ?_
  intro p e s m args below meth c s₁ B hml hv
  obtain ⟨rfl, hsz, hP, hK, hD0, hE⟩ := hv
  have hx := B.exec
  have hb := B.bytes
  have hr := B.returns
  have hts0 := atoms_spec (ws := w_M_filled :: TB) B.pre
  have hts := fun w (hw : w ∈ TB) => hts0 w (List.mem_cons_of_mem _ hw)
  have hown : s.vm.findClass RM = some m.cls := findClass_of_methodNamed B.named
  have hlocks := B.notSynchronized
  subst hsz
  have hD := hD0.self (sz := s.heap.size)
  generalize hAe : va_A (WM k b f r d N F (zb t) KR K (fun i => zb (T i))) s.heap.size = A at *
  have hA : ∀ q : Nat, s.heap.size ≤ q → A q := fun q h => by rw [← hAe]; exact Or.inr h
  have hS : va_S A s.heap s.heap [] := va_S.rf
  have hl := lv_entry ([.ref (b 0)]) (n := 3) (Nat.le_of_ble_eq_true rfl)
  rw [lg_entry_eq]
  generalize (lg_sl ([.ref (b 0)]) ++ List.replicate (3 - (lg_sl ([.ref (b 0)])).length) Slot.unset).toArray = ls at hl ⊢
  have hl : lv_has ls 3 [(0, .ref (b 0))] := hl
  refine lv_iconst (v := 0) hx hb d_M_filled_0 (by decide) ?_
  refine lv_istore_n (lv' := [(1, .int 0), (0, .ref (b 0))]) hx hb d_M_filled_1 rfl hl (by decide) rfl (fun ls hl => ?_)
  refine lv_iconst (v := 0) hx hb d_M_filled_2 (by decide) ?_
  refine lv_istore_n (lv' := [(2, .int 0), (1, .int 0), (0, .ref (b 0))]) hx hb d_M_filled_3 rfl hl (by decide) rfl (fun ls hl => ?_)
  generalize hRR : (headSpec (w_M_filled :: TB) rM1).room = RR
  generalize hQQ : MQ below (vp_Si (fun x => x = nI (cnt N 256))) [.ref (b 0)].toArray s 0 0 (fun _ => False) = QQ
  have loop : ∀ (n j : Nat), j ≤ 256 → 257 ≤ j + n → ∀ (ls : Array Slot), lv_has ls 3 [(1, .int (nI (cnt N j))), (2, .int (nI j)), (0, .ref (b 0))] → W p l e RR s m [.ref (b 0)].toArray below meth c s.heap [] 0 0 QQ (F0 m 4 ls []) := by
    intro n
    induction n with
    | zero =>
      intro j h1 h2
      exact absurd h2 (by omega)
    | succ n ih =>
      intro j hj hjn ls hl
      refine lv_iload_n hx hb d_M_filled_4 rfl (lv_at hl 1 rfl) ?_
      refine lv_sipush (v := 256) hx hb d_M_filled_5 (by decide) ?_
      refine lv_icmp_ge (tgt := 36) hx hb d_M_filled_8 (by decide) (fun c_8 => ?_) (fun c_8 => ?_)
      · have hj : j = 256 := by
          rcases Nat.lt_or_ge j 256 with q | q
          · exact absurd c_8 (nI_ge q (by decide))
          · omega
        subst hj
        refine lv_iload_n hx hb d_M_filled_36 rfl (lv_at hl 0 rfl) ?_
        subst hQQ
        exact W.iret (v := nI (cnt N 256)) hx hb hr (fun t9 ht hW => ⟨_, rfl, rfl, ht⟩) (fun _ h => absurd h List.not_mem_nil) d_M_filled_37
      · have hlt : j < 256 := by
          rcases Nat.lt_or_ge j 256 with q | q
          · exact q
          · exact absurd (nI_le q (by omega)) c_8
        refine lv_iload_n hx hb d_M_filled_11 rfl (lv_at hl 0 rfl) ?_
        refine lv_aload_n hx hb d_M_filled_12 rfl (lv_at hl 2 rfl) ?_
        refine va_get (D := D) (ci := 2) (v := .ref (b 4)) (C := RM) (T := TM) (N := 9) hx hb hts kin_M hown hK hP 0 rfl rfl 4 (by decide) (hts _ kf_M_23) (fun _ h9 => h9) rfl d_M_filled_13 ?_
        refine lv_iload_n hx hb d_M_filled_16 rfl (lv_at hl 1 rfl) ?_
        refine va_lald hx hb hK hP 4 0 rfl rfl (vp_in_nI hlt (by decide)) d_M_filled_17 ?_
        rw [nI_clamp (show j < 2 ^ 31 by omega)]
        refine lv_lconst (v := 0) hx hb d_M_filled_18 (by decide) ?_
        refine W.lcmp hx hb d_M_filled_19 ?_
        refine lv_if_eq (tgt := 27) hx hb d_M_filled_20 (by decide) (fun c_20 => ?_) (fun c_20 => ?_)
        · have c_20 : N j = 0 := (lg_cmp_eq _ _).mp c_20
          refine lv_iconst (v := 0) hx hb d_M_filled_27 (by decide) ?_
          refine lv_iadd hx hb d_M_filled_28 ?_
          refine lv_istore_n (lv' := [(1, .int ((nI (cnt N j)) + (0))), (2, .int (nI j)), (0, .ref (b 0))]) hx hb d_M_filled_29 rfl hl (by decide) rfl (fun ls hl => ?_)
          refine lv_iinc (v := (nI j) + 1) (lv' := [(2, .int ((nI j) + 1)), (1, .int ((nI (cnt N j)) + (0))), (0, .ref (b 0))]) hx hb d_M_filled_30 hl (k := 1) rfl rfl (by decide) rfl (fun ls hl => ?_)
          refine lv_goto (tgt := 4) hx hb d_M_filled_33 (by decide) ?_
          refine ih (j + 1) hlt (by omega) ls ?_
          have e1 := show nI (cnt N j) + 0 = nI (cnt N (j + 1)) by simp only [cnt, if_pos c_20]; exact nI_add _ _
          rw [← e1, ← nI_1 j]
          exact lv_sub hl [1, 0, 2] rfl
        · have c_20 : ¬ N j = 0 := fun q => c_20 ((lg_cmp_eq _ _).mpr q)
          refine lv_iconst (v := 1) hx hb d_M_filled_23 (by decide) ?_
          refine lv_goto (tgt := 28) hx hb d_M_filled_24 (by decide) ?_
          refine lv_iadd hx hb d_M_filled_28 ?_
          refine lv_istore_n (lv' := [(1, .int ((nI (cnt N j)) + (1))), (2, .int (nI j)), (0, .ref (b 0))]) hx hb d_M_filled_29 rfl hl (by decide) rfl (fun ls hl => ?_)
          refine lv_iinc (v := (nI j) + 1) (lv' := [(2, .int ((nI j) + 1)), (1, .int ((nI (cnt N j)) + (1))), (0, .ref (b 0))]) hx hb d_M_filled_30 hl (k := 1) rfl rfl (by decide) rfl (fun ls hl => ?_)
          refine lv_goto (tgt := 4) hx hb d_M_filled_33 (by decide) ?_
          refine ih (j + 1) hlt (by omega) ls ?_
          have e1 := show nI (cnt N j) + 1 = nI (cnt N (j + 1)) by simp only [cnt, if_neg c_20]; exact nI_1 _
          rw [← e1, ← nI_1 j]
          exact lv_sub hl [1, 0, 2] rfl
  exact loop 257 0 (by omega) (by omega) ls (lv_sub hl [1, 0, 2] rfl)
end
section
/-! the reference: begin, open, close -/
theorem kt_up (T : Nat → Nat → Bool) (i : Nat) (g : Nat → Bool) (j : Nat) (q : Bool) : va_up (fun x => zb (va_up T i g x)) i (upd (zb (va_up T i g i)) j (vp_nar .boolean (if q then 1 else 0))) = fun x => zb (va_up T i (va_up g j q) x) := by
  rw [va_up_self, zb_up g j q rfl]
  funext x
  by_cases h : x = i <;> simp [va_up, h]
theorem kt_id (T : Nat → Nat → Bool) (i : Nat) : (fun x => zb (va_up T i (T i) x)) = fun x => zb (T x) := by rw [up_id]
/-- how many of the first n are so -/
def cntb (t : Nat → Bool) : Nat → Nat
  | 0 => 0
  | n + 1 => cntb t n + (if t n then 1 else 0)

set_option maxHeartbeats 4000000 in
set_option maxRecDepth 100000 in
theorem m_M_begin (l : Launch) (D : va_G) (k : Nat → ClassId) (b : Nat → Nat) (f r d : Int32) (N F : Nat → Int64) (t : Nat → Bool) (KR : Nat → Int32) (K : Nat → Nat → Int64) (T : Nat → Nat → Bool) (sz : Nat) : Met l y_M_begin (w_M_begin :: TB) rM (va_Pc [.ref (b 0)] (PW D k (WM k b f r d N F (zb t) KR K (fun i => zb (T i))) sz)) (va_Qi (fun (x : Int32) (u : (Nat → Int64) × (Nat → Bool)) => (∀ j, j < 256 → u.1 j = N j) ∧ (∀ j, j < 256 → u.2 j = false) ∧ x = nI (cnt N 256)) (fun u t9 => va_P D wCl (WM k b 0 0 (nI 0) N u.1 (zb u.2) KR K (fun i => zb (T i))) t9.heap) (va_A (WM k b f r d N F (zb t) KR K (fun i => zb (T i))) sz)) 0 0 (va_A (WM k b f r d N F (zb t) KR K (fun i => zb (T i))) sz) := by
  refine Met.ofW (cc := b_M_begin) (maxL := 2) (ret := some .int) (by decide) rfl ?_
  intro p e s m args below meth c s₁ B hml hv
  obtain ⟨rfl, hsz, hP, hK, hD0, hE⟩ := hv
  have hx := B.exec
  have hb := B.bytes
  have hr := B.returns
  have hts0 := atoms_spec (ws := w_M_begin :: TB) B.pre
  have hts := fun w (hw : w ∈ TB) => hts0 w (List.mem_cons_of_mem _ hw)
  have hown : s.vm.findClass RM = some m.cls := findClass_of_methodNamed B.named
  have hlocks := B.notSynchronized
  subst hsz
  have hD := hD0.self (sz := s.heap.size)
  generalize hAe : va_A (WM k b f r d N F (zb t) KR K (fun i => zb (T i))) s.heap.size = A at *
  have hA : ∀ q : Nat, s.heap.size ≤ q → A q := fun q h => by rw [← hAe]; exact Or.inr h
  have hS : va_S A s.heap s.heap [] := va_S.rf
  have hl := lv_entry ([.ref (b 0)]) (n := 2) (Nat.le_of_ble_eq_true rfl)
  rw [lg_entry_eq]
  generalize (lg_sl ([.ref (b 0)]) ++ List.replicate (2 - (lg_sl ([.ref (b 0)])).length) Slot.unset).toArray = ls at hl ⊢
  have hl : lv_has ls 2 [(0, .ref (b 0))] := hl
  refine lv_aload_n hx hb d_M_begin_0 rfl (lv_at hl 0 rfl) ?_
  refine lv_iconst (v := 0) hx hb d_M_begin_1 (by decide) ?_
  refine va_put (D := D) (ci := 2) (v := .int 0) (ty := .int) (C := RM) (T := TM) (N := 9) hx hb hts kin_M tM tyM nmM hown hK hP hD hS 0 rfl rfl 0 (by decide) (hts _ kf_M_34) (fun _ h9 => h9) rfl (by decide +kernel) rfl rfl (Nat.le_of_ble_eq_true rfl) d_M_begin_2 (fun H locs hP hD hS => ?_)
  have hP : va_P D wCl (WM k b 0 r d N F (zb t) KR K (fun i => zb (T i))) H := hP
  have hD : va_D A (WM k b 0 r d N F (zb t) KR K (fun i => zb (T i))) := hD
  refine lv_iconst (v := 0) hx hb d_M_begin_5 (by decide) ?_
  refine lv_istore_n (lv' := [(1, .int 0), (0, .ref (b 0))]) hx hb d_M_begin_6 rfl hl (by decide) rfl (fun ls hl => ?_)
  generalize H = H9 at hP hS ⊢
  generalize locs = locs9 at hS ⊢
  generalize hRR : (headSpec (w_M_begin :: TB) rM).room = RR
  generalize hQQ : MQ below (va_Qi (fun (x : Int32) (u : (Nat → Int64) × (Nat → Bool)) => (∀ j, j < 256 → u.1 j = N j) ∧ (∀ j, j < 256 → u.2 j = false) ∧ x = nI (cnt N 256)) (fun u t9 => va_P D wCl (WM k b 0 0 (nI 0) N u.1 (zb u.2) KR K (fun i => zb (T i))) t9.heap) A) [.ref (b 0)].toArray s 0 0 A = QQ
  have loop : ∀ (n j : Nat), j ≤ 256 → 257 ≤ j + n → ∀ (F2 : Nat → Int64) (t2 : Nat → Bool), (∀ q, q < j → F2 q = N q) → (∀ q, q < j → t2 q = false) → ∀ (H : Heap) (locs : List Loc), va_P D wCl (WM k b 0 r d N F2 (zb t2) KR K (fun i => zb (T i))) H → va_D A (WM k b 0 r d N F2 (zb t2) KR K (fun i => zb (T i))) → va_S A s.heap H locs → ∀ (ls : Array Slot), lv_has ls 2 [(1, .int (nI j)), (0, .ref (b 0))] → W p l e RR s m [.ref (b 0)].toArray below meth c H locs 0 0 QQ (F0 m 7 ls []) := by
    intro n
    induction n with
    | zero =>
      intro j h1 h2
      exact absurd h2 (by omega)
    | succ n ih =>
      intro j hj hjn F2 t2 hF ht2 H locs hP hD hS ls hl
      refine lv_iload_n hx hb d_M_begin_7 rfl (lv_at hl 0 rfl) ?_
      refine lv_sipush (v := 256) hx hb d_M_begin_8 (by decide) ?_
      refine lv_icmp_ge (tgt := 39) hx hb d_M_begin_11 (by decide) (fun c_11 => ?_) (fun c_11 => ?_)
      · have hj : j = 256 := by
          rcases Nat.lt_or_ge j 256 with q | q
          · exact absurd c_11 (nI_ge q (by decide))
          · omega
        subst hj
        subst hRR hQQ
        refine lv_aload_n hx hb d_M_begin_39 rfl (lv_at hl 1 rfl) ?_
        refine lv_iconst (v := 0) hx hb d_M_begin_40 (by decide) ?_
        refine va_put (D := D) (ci := 2) (v := .int 0) (ty := .int) (C := RM) (T := TM) (N := 9) hx hb hts kin_M tM tyM nmM hown hK hP hD hS 0 rfl rfl 7 (by decide) (hts _ kf_M_38) (fun _ h9 => h9) rfl (by decide +kernel) rfl rfl (Nat.le_of_ble_eq_true rfl) d_M_begin_41 (fun H locs hP hD hS => ?_)
        have hP : va_P D wCl (WM k b 0 0 d N F2 (zb t2) KR K (fun i => zb (T i))) H := hP
        have hD : va_D A (WM k b 0 0 d N F2 (zb t2) KR K (fun i => zb (T i))) := hD
        refine lv_aload_n hx hb d_M_begin_44 rfl (lv_at hl 1 rfl) ?_
        refine lv_iconst (v := 0) hx hb d_M_begin_45 (by decide) ?_
        refine va_put (D := D) (ci := 2) (v := .int 0) (ty := .int) (C := RM) (T := TM) (N := 9) hx hb hts kin_M tM tyM nmM hown hK hP hD hS 0 rfl rfl 8 (by decide) (hts _ kf_M_41) (fun _ h9 => h9) rfl (by decide +kernel) rfl rfl (Nat.le_of_ble_eq_true rfl) d_M_begin_46 (fun H locs hP hD hS => ?_)
        have hP : va_P D wCl (WM k b 0 0 0 N F2 (zb t2) KR K (fun i => zb (T i))) H := hP
        have hD : va_D A (WM k b 0 0 0 N F2 (zb t2) KR K (fun i => zb (T i))) := hD
        refine lv_aload_n hx hb d_M_begin_49 rfl (lv_at hl 1 rfl) ?_
        refine vp_callSi (va_runV (As := []) (rest := []) (C := RM) ⟨hx, hb, hml, hown, hts⟩ (m_M_filled l D k b 0 0 0 N F2 t2 KR K T _) (cwV 0 hts (TB_g kl_M_44 ki_M_filled ks_M_filled kz_M (TB_c kc_M_filled)) rfl rfl rfl (by decide +kernel) ⟨Nat.le_of_ble_eq_true rfl, Nat.le_of_ble_eq_true rfl⟩) ⟨PW.bl, va_recv (q := (RM, TM, 9)) (ci := 2) (q0 := 0) hK hP rfl rfl, fun U hU hW => ⟨rfl, PW.go hK hP hD hS hA hE hU hW⟩⟩ rfl rfl hl.1 rfl (lv_room (Nat.le_of_ble_eq_true rfl)) d_M_begin_50 ⟨Nat.zero_le _, Nat.zero_le _⟩).run (fun r1 hr1 => ?_)
        exact W.iret (v := r1) hx hb hr (fun t9 ht hW => ⟨⟨_, (F2, t2), rfl, ⟨hF, ht2, hr1⟩, atP hP ht⟩, hS.F ht⟩) hS.2.2 d_M_begin_53
      · have hlt : j < 256 := by
          rcases Nat.lt_or_ge j 256 with q | q
          · exact q
          · exact absurd (nI_le q (by omega)) c_11
        refine lv_aload_n hx hb d_M_begin_14 rfl (lv_at hl 1 rfl) ?_
        refine va_get (D := D) (ci := 2) (v := .ref (b 5)) (C := RM) (T := TM) (N := 9) hx hb hts kin_M hown hK hP 0 rfl rfl 5 (by decide) (hts _ kf_M_27) (fun _ h9 => h9) rfl d_M_begin_15 ?_
        refine lv_iload_n hx hb d_M_begin_18 rfl (lv_at hl 0 rfl) ?_
        refine lv_aload_n hx hb d_M_begin_19 rfl (lv_at hl 1 rfl) ?_
        refine va_get (D := D) (ci := 2) (v := .ref (b 4)) (C := RM) (T := TM) (N := 9) hx hb hts kin_M hown hK hP 0 rfl rfl 4 (by decide) (hts _ kf_M_23) (fun _ h9 => h9) rfl d_M_begin_20 ?_
        refine lv_iload_n hx hb d_M_begin_23 rfl (lv_at hl 0 rfl) ?_
        refine va_lald hx hb hK hP 4 0 rfl rfl (vp_in_nI hlt (by decide)) d_M_begin_24 ?_
        refine va_last hx hb hK hP hD hS 5 0 rfl rfl (vp_in_nI hlt (by decide)) d_M_begin_25 (fun H locs hP hD hS => ?_)
        rw [nI_clamp (show j < 2 ^ 31 by omega)] at hP hD
        have hP : va_P D wCl (WM k b 0 r d N (vp_updL F2 j (N j)) (zb t2) KR K (fun i => zb (T i))) H := hP
        have hD : va_D A (WM k b 0 r d N (vp_updL F2 j (N j)) (zb t2) KR K (fun i => zb (T i))) := hD
        refine lv_aload_n hx hb d_M_begin_26 rfl (lv_at hl 1 rfl) ?_
        refine va_get (D := D) (ci := 2) (v := .ref (b 6)) (C := RM) (T := TM) (N := 9) hx hb hts kin_M hown hK hP 0 rfl rfl 6 (by decide) (hts _ kf_M_30) (fun _ h9 => h9) rfl d_M_begin_27 ?_
        refine lv_iload_n hx hb d_M_begin_30 rfl (lv_at hl 0 rfl) ?_
        refine lv_iconst (v := 0) hx hb d_M_begin_31 (by decide) ?_
        refine va_zast hx hb hK hP hD hS 6 5 rfl rfl (vp_in_nI hlt (by decide)) d_M_begin_32 (fun H locs hP hD hS => ?_)
        rw [nI_clamp (show j < 2 ^ 31 by omega), zb_up t2 j false (x := 0) rfl] at hP hD
        have hP : va_P D wCl (WM k b 0 r d N (vp_updL F2 j (N j)) (zb (va_up t2 j false)) KR K (fun i => zb (T i))) H := hP
        have hD : va_D A (WM k b 0 r d N (vp_updL F2 j (N j)) (zb (va_up t2 j false)) KR K (fun i => zb (T i))) := hD
        refine lv_iinc (v := (nI j) + 1) (lv' := [(1, .int ((nI j) + 1)), (0, .ref (b 0))]) hx hb d_M_begin_33 hl (k := 0) rfl rfl (by decide) rfl (fun ls hl => ?_)
        refine lv_goto (tgt := 7) hx hb d_M_begin_36 (by decide) ?_
        refine ih (j + 1) hlt (by omega) _ _ (fun q hq => ?_) (fun q hq => ?_) H locs hP hD hS ls ?_
        · by_cases h : q = j
          · rw [h]; exact pk_uLs
          · rw [pk_uLn h]; exact hF q (by omega)
        · by_cases h : q = j
          · rw [h]; exact va_up_self _ _ _
          · rw [va_up_ne _ _ h]; exact ht2 q (by omega)
        · rw [← nI_1 j]; exact lv_sub hl [0, 1] rfl
  exact loop 257 0 (by omega) (by omega) F t (fun q h => absurd h (Nat.not_lt_zero q)) (fun q h => absurd h (Nat.not_lt_zero q)) H9 locs9 hP hD hS ls (lv_sub hl [0, 1] rfl)
set_option maxHeartbeats 4000000 in
set_option maxRecDepth 100000 in
theorem m_M_open (l : Launch) (D : va_G) (k : Nat → ClassId) (b : Nat → Nat) (f r : Int32) (d : Nat) (hd : d ≤ 30) (N F : Nat → Int64) (t : Nat → Bool) (KR : Nat → Int32) (K : Nat → Nat → Int64) (T : Nat → Nat → Bool) (sz : Nat) : Met l y_M_open (w_M_open :: TB) rM (va_Pc [.ref (b 0)] (PW D k (WM k b f r (nI d) N F (zb t) KR K (fun i => zb (T i))) sz)) (va_Qi (fun (x : Int32) (u : Int32 × Nat × (Nat → Int32) × (Nat → Nat → Int64) × (Nat → Nat → Bool)) => (¬ d < 30 ∧ x = 0 ∧ u = (1, d, KR, K, T)) ∨ (d < 30 ∧ x = nI (d + 1) ∧ u.1 = 0 ∧ u.2.1 = d + 1 ∧ u.2.2.1 = upd KR (d + 1) r ∧ (∃ g, (∀ j, j < 256 → g j = N j) ∧ u.2.2.2.1 = va_up K (d + 1) g) ∧ (∃ g, (∀ j, j < 256 → g j = t j) ∧ u.2.2.2.2 = va_up T (d + 1) g))) (fun u t9 => va_P D wCl (WM k b u.1 r (nI u.2.1) N F (zb t) u.2.2.1 u.2.2.2.1 (fun i => zb (u.2.2.2.2 i))) t9.heap) (va_A (WM k b f r (nI d) N F (zb t) KR K (fun i => zb (T i))) sz)) 0 0 (va_A (WM k b f r (nI d) N F (zb t) KR K (fun i => zb (T i))) sz) := by
  refine Met.ofW (cc := b_M_open) (maxL := 2) (ret := some .int) (by decide) rfl ?_
  intro p e s m args below meth c s₁ B hml hv
  obtain ⟨rfl, hsz, hP, hK, hD0, hE⟩ := hv
  have hx := B.exec
  have hb := B.bytes
  have hr := B.returns
  have hts0 := atoms_spec (ws := w_M_open :: TB) B.pre
  have hts := fun w (hw : w ∈ TB) => hts0 w (List.mem_cons_of_mem _ hw)
  have hown : s.vm.findClass RM = some m.cls := findClass_of_methodNamed B.named
  have hlocks := B.notSynchronized
  subst hsz
  have hD := hD0.self (sz := s.heap.size)
  generalize hAe : va_A (WM k b f r (nI d) N F (zb t) KR K (fun i => zb (T i))) s.heap.size = A at *
  have hA : ∀ q : Nat, s.heap.size ≤ q → A q := fun q h => by rw [← hAe]; exact Or.inr h
  have hS : va_S A s.heap s.heap [] := va_S.rf
  have hl := lv_entry ([.ref (b 0)]) (n := 2) (Nat.le_of_ble_eq_true rfl)
  rw [lg_entry_eq]
  generalize (lg_sl ([.ref (b 0)]) ++ List.replicate (2 - (lg_sl ([.ref (b 0)])).length) Slot.unset).toArray = ls at hl ⊢
  have hl : lv_has ls 2 [(0, .ref (b 0))] := hl
  refine lv_aload_n hx hb d_M_open_0 rfl (lv_at hl 0 rfl) ?_
  refine lv_iconst (v := 0) hx hb d_M_open_1 (by decide) ?_
  refine va_put (D := D) (ci := 2) (v := .int 0) (ty := .int) (C := RM) (T := TM) (N := 9) hx hb hts kin_M tM tyM nmM hown hK hP hD hS 0 rfl rfl 0 (by decide) (hts _ kf_M_34) (fun _ h9 => h9) rfl (by decide +kernel) rfl rfl (Nat.le_of_ble_eq_true rfl) d_M_open_2 (fun H locs hP hD hS => ?_)
  have hP : va_P D wCl (WM k b 0 r (nI d) N F (zb t) KR K (fun i => zb (T i))) H := hP
  have hD : va_D A (WM k b 0 r (nI d) N F (zb t) KR K (fun i => zb (T i))) := hD
  refine lv_aload_n hx hb d_M_open_5 rfl (lv_at hl 0 rfl) ?_
  refine va_get (D := D) (ci := 2) (v := .int (nI d)) (C := RM) (T := TM) (N := 9) hx hb hts kin_M hown hK hP 0 rfl rfl 8 (by decide) (hts _ kf_M_41) (fun _ h9 => h9) rfl d_M_open_6 ?_
  refine lv_bipush (v := 30) hx hb d_M_open_9 (by decide) ?_
  refine lv_icmp_ne (tgt := 20) hx hb d_M_open_11 (by decide) (fun c_11 => ?_) (fun c_11 => ?_)
  · have hd30 : d < 30 := by
      rcases Nat.lt_or_ge d 30 with q | q
      · exact q
      · exact absurd (show nI d = nI 30 by rw [show d = 30 by omega]) c_11
    have hd1 : d + 1 < 31 := by omega
    refine lv_aload_n hx hb d_M_open_20 rfl (lv_at hl 0 rfl) ?_
    refine lv_dup hx hb d_M_open_21 rfl ?_
    refine va_get (D := D) (ci := 2) (v := .int (nI d)) (C := RM) (T := TM) (N := 9) hx hb hts kin_M hown hK hP 0 rfl rfl 8 (by decide) (hts _ kf_M_41) (fun _ h9 => h9) rfl d_M_open_22 ?_
    refine lv_iconst (v := 1) hx hb d_M_open_25 (by decide) ?_
    refine lv_iadd hx hb d_M_open_26 ?_
    rw [nI_1 d]
    refine va_put (D := D) (ci := 2) (v := .int (nI (d + 1))) (ty := .int) (C := RM) (T := TM) (N := 9) hx hb hts kin_M tM tyM nmM hown hK hP hD hS 0 rfl rfl 8 (by decide) (hts _ kf_M_41) (fun _ h9 => h9) rfl (by decide +kernel) rfl rfl (Nat.le_of_ble_eq_true rfl) d_M_open_27 (fun H locs hP hD hS => ?_)
    have hP : va_P D wCl (WM k b 0 r (nI (d + 1)) N F (zb t) KR K (fun i => zb (T i))) H := hP
    have hD : va_D A (WM k b 0 r (nI (d + 1)) N F (zb t) KR K (fun i => zb (T i))) := hD
    refine lv_iconst (v := 0) hx hb d_M_open_30 (by decide) ?_
    refine lv_istore_n (lv' := [(1, .int 0), (0, .ref (b 0))]) hx hb d_M_open_31 rfl hl (by decide) rfl (fun ls hl => ?_)
    generalize H = H9 at hP hS ⊢
    generalize locs = locs9 at hS ⊢
    generalize hRR : (headSpec (w_M_open :: TB) rM).room = RR
    generalize hQQ : MQ below (va_Qi (fun (x : Int32) (u : Int32 × Nat × (Nat → Int32) × (Nat → Nat → Int64) × (Nat → Nat → Bool)) => (¬ d < 30 ∧ x = 0 ∧ u = (1, d, KR, K, T)) ∨ (d < 30 ∧ x = nI (d + 1) ∧ u.1 = 0 ∧ u.2.1 = d + 1 ∧ u.2.2.1 = upd KR (d + 1) r ∧ (∃ g, (∀ j, j < 256 → g j = N j) ∧ u.2.2.2.1 = va_up K (d + 1) g) ∧ (∃ g, (∀ j, j < 256 → g j = t j) ∧ u.2.2.2.2 = va_up T (d + 1) g))) (fun u t9 => va_P D wCl (WM k b u.1 r (nI u.2.1) N F (zb t) u.2.2.1 u.2.2.2.1 (fun i => zb (u.2.2.2.2 i))) t9.heap) A) [.ref (b 0)].toArray s 0 0 A = QQ
    have loop : ∀ (n j : Nat), j ≤ 256 → 257 ≤ j + n → ∀ (g : Nat → Int64) (g2 : Nat → Bool), (∀ q, q < j → g q = N q) → (∀ q, q < j → g2 q = t q) → ∀ (H : Heap) (locs : List Loc), va_P D wCl (WM k b 0 r (nI (d + 1)) N F (zb t) KR (va_up K (d + 1) g) (fun x => zb (va_up T (d + 1) g2 x))) H → va_D A (WM k b 0 r (nI (d + 1)) N F (zb t) KR (va_up K (d + 1) g) (fun x => zb (va_up T (d + 1) g2 x))) → va_S A s.heap H locs → ∀ (ls : Array Slot), lv_has ls 2 [(1, .int (nI j)), (0, .ref (b 0))] → W p l e RR s m [.ref (b 0)].toArray below meth c H locs 0 0 QQ (F0 m 32 ls []) := by
      intro n
      induction n with
      | zero =>
        intro j h1 h2
        exact absurd h2 (by omega)
      | succ n ih =>
        intro j hj hjn g g2 hg hg2 H locs hP hD hS ls hl
        refine lv_iload_n hx hb d_M_open_32 rfl (lv_at hl 0 rfl) ?_
        refine lv_sipush (v := 256) hx hb d_M_open_33 (by decide) ?_
        refine lv_icmp_ge (tgt := 79) hx hb d_M_open_36 (by decide) (fun c_36 => ?_) (fun c_36 => ?_)
        · have hj : j = 256 := by
            rcases Nat.lt_or_ge j 256 with q | q
            · exact absurd c_36 (nI_ge q (by decide))
            · omega
          subst hj
          subst hRR hQQ
          refine lv_aload_n hx hb d_M_open_79 rfl (lv_at hl 1 rfl) ?_
          refine va_get (D := D) (ci := 2) (v := .ref (b 3)) (C := RM) (T := TM) (N := 9) hx hb hts kin_M hown hK hP 0 rfl rfl 3 (by decide) (hts _ kf_M_19) (fun _ h9 => h9) rfl d_M_open_80 ?_
          refine lv_aload_n hx hb d_M_open_83 rfl (lv_at hl 1 rfl) ?_
          refine va_get (D := D) (ci := 2) (v := .int (nI (d + 1))) (C := RM) (T := TM) (N := 9) hx hb hts kin_M hown hK hP 0 rfl rfl 8 (by decide) (hts _ kf_M_41) (fun _ h9 => h9) rfl d_M_open_84 ?_
          refine lv_aload_n hx hb d_M_open_87 rfl (lv_at hl 1 rfl) ?_
          refine va_get (D := D) (ci := 2) (v := .int r) (C := RM) (T := TM) (N := 9) hx hb hts kin_M hown hK hP 0 rfl rfl 7 (by decide) (hts _ kf_M_38) (fun _ h9 => h9) rfl d_M_open_88 ?_
          refine va_iast hx hb hK hP hD hS 3 4 rfl rfl (vp_in_nI hd1 (by decide)) d_M_open_91 (fun H locs hP hD hS => ?_)
          rw [nI_clamp (show d + 1 < 2 ^ 31 by omega)] at hP hD
          have hP : va_P D wCl (WM k b 0 r (nI (d + 1)) N F (zb t) (upd KR (d + 1) r) (va_up K (d + 1) g) (fun x => zb (va_up T (d + 1) g2 x))) H := hP
          have hD : va_D A (WM k b 0 r (nI (d + 1)) N F (zb t) (upd KR (d + 1) r) (va_up K (d + 1) g) (fun x => zb (va_up T (d + 1) g2 x))) := hD
          refine lv_aload_n hx hb d_M_open_92 rfl (lv_at hl 1 rfl) ?_
          refine va_get (D := D) (ci := 2) (v := .int (nI (d + 1))) (C := RM) (T := TM) (N := 9) hx hb hts kin_M hown hK hP 0 rfl rfl 8 (by decide) (hts _ kf_M_41) (fun _ h9 => h9) rfl d_M_open_93 ?_
          exact W.iret (v := nI (d + 1)) hx hb hr (fun t9 ht hW => ⟨⟨_, (0, d + 1, upd KR (d + 1) r, va_up K (d + 1) g, va_up T (d + 1) g2), rfl, Or.inr ⟨hd30, rfl, rfl, rfl, rfl, ⟨g, hg, rfl⟩, ⟨g2, hg2, rfl⟩⟩, atP hP ht⟩, hS.F ht⟩) hS.2.2 d_M_open_96
        · have hlt : j < 256 := by
            rcases Nat.lt_or_ge j 256 with q | q
            · exact q
            · exact absurd (nI_le q (by omega)) c_36
          refine lv_aload_n hx hb d_M_open_39 rfl (lv_at hl 1 rfl) ?_
          refine va_get (D := D) (ci := 2) (v := .ref (b 1)) (C := RM) (T := TM) (N := 9) hx hb hts kin_M hown hK hP 0 rfl rfl 1 (by decide) (hts _ kf_M_9) (fun _ h9 => h9) rfl d_M_open_40 ?_
          refine lv_aload_n hx hb d_M_open_43 rfl (lv_at hl 1 rfl) ?_
          refine va_get (D := D) (ci := 2) (v := .int (nI (d + 1))) (C := RM) (T := TM) (N := 9) hx hb hts kin_M hown hK hP 0 rfl rfl 8 (by decide) (hts _ kf_M_41) (fun _ h9 => h9) rfl d_M_open_44 ?_
          refine va_aldA (ty := .long) hx hb hK hP 1 2 rfl rfl (vp_in_nI hd1 (by decide)) d_M_open_47 ?_
          rw [show ((nI (d + 1)) : Int32).toNatClampNeg = (d + 1) from nI_clamp (by omega)]
          refine W.eq (g2 := F0 m 48 ls [.ref (b (7 + (d + 1)))]) rfl ?_
          refine lv_iload_n hx hb d_M_open_48 rfl (lv_at hl 0 rfl) ?_
          refine lv_aload_n hx hb d_M_open_49 rfl (lv_at hl 1 rfl) ?_
          refine va_get (D := D) (ci := 2) (v := .ref (b 4)) (C := RM) (T := TM) (N := 9) hx hb hts kin_M hown hK hP 0 rfl rfl 4 (by decide) (hts _ kf_M_23) (fun _ h9 => h9) rfl d_M_open_50 ?_
          refine lv_iload_n hx hb d_M_open_53 rfl (lv_at hl 0 rfl) ?_
          refine va_lald hx hb hK hP 4 0 rfl rfl (vp_in_nI hlt (by decide)) d_M_open_54 ?_
          refine va_last hx hb hK hP hD hS ((d + 1) + 7) 0 (wm_k hd1) rfl (vp_in_nI hlt (by decide)) d_M_open_55 (fun H locs hP hD hS => ?_)
          have hP := (congrArg (fun w => va_P D wCl w H) (wm_setK hd1)).mp hP
          have hD := (congrArg (fun w => va_D A w) (wm_setK hd1)).mp hD
          rw [nI_clamp (show j < 2 ^ 31 by omega), va_up_self, bx_uu] at hP hD
          have hP : va_P D wCl (WM k b 0 r (nI (d + 1)) N F (zb t) KR (va_up K (d + 1) (vp_updL g j (N j))) (fun x => zb (va_up T (d + 1) g2 x))) H := hP
          have hD : va_D A (WM k b 0 r (nI (d + 1)) N F (zb t) KR (va_up K (d + 1) (vp_updL g j (N j))) (fun x => zb (va_up T (d + 1) g2 x))) := hD
          refine lv_aload_n hx hb d_M_open_56 rfl (lv_at hl 1 rfl) ?_
          refine va_get (D := D) (ci := 2) (v := .ref (b 2)) (C := RM) (T := TM) (N := 9) hx hb hts kin_M hown hK hP 0 rfl rfl 2 (by decide) (hts _ kf_M_16) (fun _ h9 => h9) rfl d_M_open_57 ?_
          refine lv_aload_n hx hb d_M_open_60 rfl (lv_at hl 1 rfl) ?_
          refine va_get (D := D) (ci := 2) (v := .int (nI (d + 1))) (C := RM) (T := TM) (N := 9) hx hb hts kin_M hown hK hP 0 rfl rfl 8 (by decide) (hts _ kf_M_41) (fun _ h9 => h9) rfl d_M_open_61 ?_
          refine va_aldA (ty := .boolean) hx hb hK hP 2 3 rfl rfl (vp_in_nI hd1 (by decide)) d_M_open_64 ?_
          rw [show ((nI (d + 1)) : Int32).toNatClampNeg = (d + 1) from nI_clamp (by omega)]
          refine W.eq (g2 := F0 m 65 ls [.ref (b (38 + (d + 1)))]) rfl ?_
          refine lv_iload_n hx hb d_M_open_65 rfl (lv_at hl 0 rfl) ?_
          refine lv_aload_n hx hb d_M_open_66 rfl (lv_at hl 1 rfl) ?_
          refine va_get (D := D) (ci := 2) (v := .ref (b 6)) (C := RM) (T := TM) (N := 9) hx hb hts kin_M hown hK hP 0 rfl rfl 6 (by decide) (hts _ kf_M_30) (fun _ h9 => h9) rfl d_M_open_67 ?_
          refine lv_iload_n hx hb d_M_open_70 rfl (lv_at hl 0 rfl) ?_
          refine va_zald hx hb hK hP 6 5 rfl rfl (vp_in_nI hlt (by decide)) d_M_open_71 ?_
          refine va_zast hx hb hK hP hD hS ((d + 1) + 38) 5 (wm_t hd1) rfl (vp_in_nI hlt (by decide)) d_M_open_72 (fun H locs hP hD hS => ?_)
          have hP := (congrArg (fun w => va_P D wCl w H) (wm_setT hd1)).mp hP
          have hD := (congrArg (fun w => va_D A w) (wm_setT hd1)).mp hD
          rw [nI_clamp (show j < 2 ^ 31 by omega)] at hP hD
          have hP : va_P D wCl (WM k b 0 r (nI (d + 1)) N F (zb t) KR (va_up K (d + 1) (vp_updL g j (N j))) (fun x => zb (va_up T (d + 1) (va_up g2 j (t j)) x))) H := by rw [← kt_up T (d + 1) g2 j (t j)]; exact hP
          have hD : va_D A (WM k b 0 r (nI (d + 1)) N F (zb t) KR (va_up K (d + 1) (vp_updL g j (N j))) (fun x => zb (va_up T (d + 1) (va_up g2 j (t j)) x))) := by rw [← kt_up T (d + 1) g2 j (t j)]; exact hD
          refine lv_iinc (v := (nI j) + 1) (lv' := [(1, .int ((nI j) + 1)), (0, .ref (b 0))]) hx hb d_M_open_73 hl (k := 0) rfl rfl (by decide) rfl (fun ls hl => ?_)
          refine lv_goto (tgt := 32) hx hb d_M_open_76 (by decide) ?_
          refine ih (j + 1) hlt (by omega) _ _ (fun q hq => ?_) (fun q hq => ?_) H locs hP hD hS ls ?_
          · by_cases h : q = j
            · rw [h]; exact pk_uLs
            · rw [pk_uLn h]; exact hg q (by omega)
          · by_cases h : q = j
            · rw [h]; exact va_up_self _ _ _
            · rw [va_up_ne _ _ h]; exact hg2 q (by omega)
          · rw [← nI_1 j]; exact lv_sub hl [0, 1] rfl
    refine loop 257 0 (by omega) (by omega) (K (d + 1)) (T (d + 1)) (fun q h => absurd h (Nat.not_lt_zero q)) (fun q h => absurd h (Nat.not_lt_zero q)) H9 locs9 ?_ ?_ hS ls (lv_sub hl [0, 1] rfl)
    · rw [up_id, kt_id]; exact hP
    · rw [up_id, kt_id]; exact hD
  · have hd0 : d = 30 := (nI_eq (by omega) (by decide)).mp (show nI d = nI 30 from c_11)
    refine lv_aload_n hx hb d_M_open_14 rfl (lv_at hl 0 rfl) ?_
    refine lv_iconst (v := 1) hx hb d_M_open_15 (by decide) ?_
    refine va_calli (va_runV (As := [.int 1]) (rest := []) (C := RM) ⟨hx, hb, hml, hown, hts⟩ (m_M_fail l D k b 0 r (nI d) N F t KR K T 1 _) (cwV 1 hts (TB_g kl_M_48 ki_M_fail ks_M_fail kz_M (TB_c kc_M_fail)) rfl rfl rfl (by decide +kernel) ⟨Nat.le_of_ble_eq_true rfl, Nat.le_of_ble_eq_true rfl⟩) ⟨PW.bl, va_recv (q := (RM, TM, 9)) (ci := 2) (q0 := 0) hK hP rfl rfl, fun U hU hW => ⟨rfl, PW.go hK hP hD hS hA hE hU hW⟩⟩ rfl rfl hl.1 rfl (lv_room (Nat.le_of_ble_eq_true rfl)) d_M_open_16 ⟨Nat.zero_le _, Nat.zero_le _⟩) hS (fun q _ h => cut_F hD hS hA q h) (cut_F hD hS hA) (fun r9 uu t9 H1 locs1 ht hvm hpost hB hz hk hS => ?_)
    rw [ht] at hB
    have hP := hB
    have hD := hD.ad (wm_ad : (WM k b 1 r (nI d) N F (zb t) KR K (fun i => zb (T i))).map Prod.fst = _)
    generalize H1 = H at hP hS ⊢
    generalize locs1 = locs at hS ⊢
    subst hpost
    exact W.iret (v := 0) hx hb hr (fun t9 ht hW => ⟨⟨_, (1, d, KR, K, T), rfl, Or.inl ⟨by omega, rfl, rfl⟩, atP hP ht⟩, hS.F ht⟩) hS.2.2 d_M_open_19
end
section
/-! the reference: close, load, held, touched, count -/
set_option maxHeartbeats 4000000 in
set_option maxRecDepth 100000 in
theorem m_M_close (l : Launch) (D : va_G) (k : Nat → ClassId) (b : Nat → Nat) (f r : Int32) (d : Nat) (hd : d ≤ 30) (N F : Nat → Int64) (t : Nat → Bool) (KR : Nat → Int32) (K : Nat → Nat → Int64) (T : Nat → Nat → Bool) (z : Int32) (sz : Nat) : Met l y_M_close (w_M_close :: TB) rM (va_Pc [.ref (b 0), .int z] (PW D k (WM k b f r (nI d) N F (zb t) KR K (fun i => zb (T i))) sz)) (va_Qi (fun (x : Int32) (u : Int32 × Nat × Int32 × (Nat → Int64) × (Nat → Bool)) => (d = 0 ∧ x = 0 ∧ u = (1, 0, r, N, t)) ∨ (∃ e, d = e + 1 ∧ x = nI e ∧ u.1 = 0 ∧ u.2.1 = e ∧ (¬ z = 0 → u.2.2 = (r, N, t)) ∧ (z = 0 → u.2.2.1 = KR (e + 1) ∧ (∀ j, j < 256 → u.2.2.2.1 j = K (e + 1) j) ∧ (∀ j, j < 256 → u.2.2.2.2 j = T (e + 1) j)))) (fun u t9 => va_P D wCl (WM k b u.1 u.2.2.1 (nI u.2.1) u.2.2.2.1 F (zb u.2.2.2.2) KR K (fun i => zb (T i))) t9.heap) (va_A (WM k b f r (nI d) N F (zb t) KR K (fun i => zb (T i))) sz)) 0 0 (va_A (WM k b f r (nI d) N F (zb t) KR K (fun i => zb (T i))) sz) := by
  refine Met.ofW (cc := b_M_close) (maxL := 3) (ret := some .int) (by decide) rfl ?_
  intro p e s m args below meth c s₁ B hml hv
  obtain ⟨rfl, hsz, hP, hK, hD0, hE⟩ := hv
  have hx := B.exec
  have hb := B.bytes
  have hr := B.returns
  have hts0 := atoms_spec (ws := w_M_close :: TB) B.pre
  have hts := fun w (hw : w ∈ TB) => hts0 w (List.mem_cons_of_mem _ hw)
  have hown : s.vm.findClass RM = some m.cls := findClass_of_methodNamed B.named
  have hlocks := B.notSynchronized
  subst hsz
  have hD := hD0.self (sz := s.heap.size)
  generalize hAe : va_A (WM k b f r (nI d) N F (zb t) KR K (fun i => zb (T i))) s.heap.size = A at *
  have hA : ∀ q : Nat, s.heap.size ≤ q → A q := fun q h => by rw [← hAe]; exact Or.inr h
  have hS : va_S A s.heap s.heap [] := va_S.rf
  have hl := lv_entry ([.ref (b 0), .int z]) (n := 3) (Nat.le_of_ble_eq_true rfl)
  rw [lg_entry_eq]
  generalize (lg_sl ([.ref (b 0), .int z]) ++ List.replicate (3 - (lg_sl ([.ref (b 0), .int z])).length) Slot.unset).toArray = ls at hl ⊢
  have hl : lv_has ls 3 [(0, .ref (b 0)), (1, .int z)] := hl
  refine lv_aload_n hx hb d_M_close_0 rfl (lv_at hl 0 rfl) ?_
  refine lv_iconst (v := 0) hx hb d_M_close_1 (by decide) ?_
  refine va_put (D := D) (ci := 2) (v := .int 0) (ty := .int) (C := RM) (T := TM) (N := 9) hx hb hts kin_M tM tyM nmM hown hK hP hD hS 0 rfl rfl 0 (by decide) (hts _ kf_M_34) (fun _ h9 => h9) rfl (by decide +kernel) rfl rfl (Nat.le_of_ble_eq_true rfl) d_M_close_2 (fun H locs hP hD hS => ?_)
  have hP : va_P D wCl (WM k b 0 r (nI d) N F (zb t) KR K (fun i => zb (T i))) H := hP
  have hD : va_D A (WM k b 0 r (nI d) N F (zb t) KR K (fun i => zb (T i))) := hD
  refine lv_aload_n hx hb d_M_close_5 rfl (lv_at hl 0 rfl) ?_
  refine va_get (D := D) (ci := 2) (v := .int (nI d)) (C := RM) (T := TM) (N := 9) hx hb hts kin_M hown hK hP 0 rfl rfl 8 (by decide) (hts _ kf_M_41) (fun _ h9 => h9) rfl d_M_close_6 ?_
  refine lv_if_ne (tgt := 18) hx hb d_M_close_9 (by decide) (fun c_9 => ?_) (fun c_9 => ?_)
  · obtain ⟨f9, rfl⟩ : ∃ f9, d = f9 + 1 := by
      cases d with
      | zero => exact absurd nI_0 c_9
      | succ f9 => exact ⟨f9, rfl⟩
    have hf1 : f9 + 1 < 31 := by omega
    refine lv_iload_n hx hb d_M_close_18 rfl (lv_at hl 1 rfl) ?_
    refine lv_if_ne (tgt := 84) hx hb d_M_close_19 (by decide) (fun c_19 => ?_) (fun c_19 => ?_)
    · refine lv_aload_n hx hb d_M_close_84 rfl (lv_at hl 0 rfl) ?_
      refine lv_dup hx hb d_M_close_85 rfl ?_
      refine va_get (D := D) (ci := 2) (v := .int (nI (f9 + 1))) (C := RM) (T := TM) (N := 9) hx hb hts kin_M hown hK hP 0 rfl rfl 8 (by decide) (hts _ kf_M_41) (fun _ h9 => h9) rfl d_M_close_86 ?_
      refine lv_iconst (v := 1) hx hb d_M_close_89 (by decide) ?_
      refine lv_isub hx hb d_M_close_90 ?_
      rw [nI_pred f9]
      refine va_put (D := D) (ci := 2) (v := .int (nI f9)) (ty := .int) (C := RM) (T := TM) (N := 9) hx hb hts kin_M tM tyM nmM hown hK hP hD hS 0 rfl rfl 8 (by decide) (hts _ kf_M_41) (fun _ h9 => h9) rfl (by decide +kernel) rfl rfl (Nat.le_of_ble_eq_true rfl) d_M_close_91 (fun H locs hP hD hS => ?_)
      have hP : va_P D wCl (WM k b 0 r (nI f9) N F (zb t) KR K (fun i => zb (T i))) H := hP
      have hD : va_D A (WM k b 0 r (nI f9) N F (zb t) KR K (fun i => zb (T i))) := hD
      refine lv_aload_n hx hb d_M_close_94 rfl (lv_at hl 0 rfl) ?_
      refine va_get (D := D) (ci := 2) (v := .int (nI f9)) (C := RM) (T := TM) (N := 9) hx hb hts kin_M hown hK hP 0 rfl rfl 8 (by decide) (hts _ kf_M_41) (fun _ h9 => h9) rfl d_M_close_95 ?_
      exact W.iret (v := nI f9) hx hb hr (fun t9 ht hW => ⟨⟨_, (0, f9, r, N, t), rfl, Or.inr ⟨f9, rfl, rfl, rfl, rfl, fun _ => rfl, fun q => absurd q c_19⟩, atP hP ht⟩, hS.F ht⟩) hS.2.2 d_M_close_98
    · refine lv_iconst (v := 0) hx hb d_M_close_22 (by decide) ?_
      refine lv_istore_n (lv' := [(2, .int 0), (0, .ref (b 0)), (1, .int z)]) hx hb d_M_close_23 rfl hl (by decide) rfl (fun ls hl => ?_)
      generalize H = H9 at hP hS ⊢
      generalize locs = locs9 at hS ⊢
      generalize hRR : (headSpec (w_M_close :: TB) rM).room = RR
      generalize hQQ : MQ below (va_Qi (fun (x : Int32) (u : Int32 × Nat × Int32 × (Nat → Int64) × (Nat → Bool)) => (f9 + 1 = 0 ∧ x = 0 ∧ u = (1, 0, r, N, t)) ∨ (∃ e, f9 + 1 = e + 1 ∧ x = nI e ∧ u.1 = 0 ∧ u.2.1 = e ∧ (¬ z = 0 → u.2.2 = (r, N, t)) ∧ (z = 0 → u.2.2.1 = KR (e + 1) ∧ (∀ j, j < 256 → u.2.2.2.1 j = K (e + 1) j) ∧ (∀ j, j < 256 → u.2.2.2.2 j = T (e + 1) j)))) (fun u t9 => va_P D wCl (WM k b u.1 u.2.2.1 (nI u.2.1) u.2.2.2.1 F (zb u.2.2.2.2) KR K (fun i => zb (T i))) t9.heap) A) [.ref (b 0), .int z].toArray s 0 0 A = QQ
      have loop : ∀ (n j : Nat), j ≤ 256 → 257 ≤ j + n → ∀ (N2 : Nat → Int64) (t2 : Nat → Bool), (∀ q, q < j → N2 q = K (f9 + 1) q) → (∀ q, q < j → t2 q = T (f9 + 1) q) → ∀ (H : Heap) (locs : List Loc), va_P D wCl (WM k b 0 r (nI (f9 + 1)) N2 F (zb t2) KR K (fun i => zb (T i))) H → va_D A (WM k b 0 r (nI (f9 + 1)) N2 F (zb t2) KR K (fun i => zb (T i))) → va_S A s.heap H locs → ∀ (ls : Array Slot), lv_has ls 3 [(2, .int (nI j)), (1, .int z), (0, .ref (b 0))] → W p l e RR s m [.ref (b 0), .int z].toArray below meth c H locs 0 0 QQ (F0 m 24 ls []) := by
        intro n
        induction n with
        | zero =>
          intro j h1 h2
          exact absurd h2 (by omega)
        | succ n ih =>
          intro j hj hjn N2 t2 hg hg2 H locs hP hD hS ls hl
          refine lv_iload_n hx hb d_M_close_24 rfl (lv_at hl 0 rfl) ?_
          refine lv_sipush (v := 256) hx hb d_M_close_25 (by decide) ?_
          refine lv_icmp_ge (tgt := 71) hx hb d_M_close_28 (by decide) (fun c_28 => ?_) (fun c_28 => ?_)
          · have hj : j = 256 := by
              rcases Nat.lt_or_ge j 256 with q | q
              · exact absurd c_28 (nI_ge q (by decide))
              · omega
            subst hj
            subst hRR hQQ
            refine lv_aload_n hx hb d_M_close_71 rfl (lv_at hl 2 rfl) ?_
            refine lv_aload_n hx hb d_M_close_72 rfl (lv_at hl 2 rfl) ?_
            refine va_get (D := D) (ci := 2) (v := .ref (b 3)) (C := RM) (T := TM) (N := 9) hx hb hts kin_M hown hK hP 0 rfl rfl 3 (by decide) (hts _ kf_M_19) (fun _ h9 => h9) rfl d_M_close_73 ?_
            refine lv_aload_n hx hb d_M_close_76 rfl (lv_at hl 2 rfl) ?_
            refine va_get (D := D) (ci := 2) (v := .int (nI (f9 + 1))) (C := RM) (T := TM) (N := 9) hx hb hts kin_M hown hK hP 0 rfl rfl 8 (by decide) (hts _ kf_M_41) (fun _ h9 => h9) rfl d_M_close_77 ?_
            refine va_iald hx hb hK hP 3 4 rfl rfl (vp_in_nI hf1 (by decide)) d_M_close_80 ?_
            rw [nI_clamp (show f9 + 1 < 2 ^ 31 by omega)]
            refine va_put (D := D) (ci := 2) (v := .int (KR (f9 + 1))) (ty := .int) (C := RM) (T := TM) (N := 9) hx hb hts kin_M tM tyM nmM hown hK hP hD hS 0 rfl rfl 7 (by decide) (hts _ kf_M_38) (fun _ h9 => h9) rfl (by decide +kernel) rfl rfl (Nat.le_of_ble_eq_true rfl) d_M_close_81 (fun H locs hP hD hS => ?_)
            have hP : va_P D wCl (WM k b 0 (KR (f9 + 1)) (nI (f9 + 1)) N2 F (zb t2) KR K (fun i => zb (T i))) H := hP
            have hD : va_D A (WM k b 0 (KR (f9 + 1)) (nI (f9 + 1)) N2 F (zb t2) KR K (fun i => zb (T i))) := hD
            refine lv_aload_n hx hb d_M_close_84 rfl (lv_at hl 2 rfl) ?_
            refine lv_dup hx hb d_M_close_85 rfl ?_
            refine va_get (D := D) (ci := 2) (v := .int (nI (f9 + 1))) (C := RM) (T := TM) (N := 9) hx hb hts kin_M hown hK hP 0 rfl rfl 8 (by decide) (hts _ kf_M_41) (fun _ h9 => h9) rfl d_M_close_86 ?_
            refine lv_iconst (v := 1) hx hb d_M_close_89 (by decide) ?_
            refine lv_isub hx hb d_M_close_90 ?_
            rw [nI_pred f9]
            refine va_put (D := D) (ci := 2) (v := .int (nI f9)) (ty := .int) (C := RM) (T := TM) (N := 9) hx hb hts kin_M tM tyM nmM hown hK hP hD hS 0 rfl rfl 8 (by decide) (hts _ kf_M_41) (fun _ h9 => h9) rfl (by decide +kernel) rfl rfl (Nat.le_of_ble_eq_true rfl) d_M_close_91 (fun H locs hP hD hS => ?_)
            have hP : va_P D wCl (WM k b 0 (KR (f9 + 1)) (nI f9) N2 F (zb t2) KR K (fun i => zb (T i))) H := hP
            have hD : va_D A (WM k b 0 (KR (f9 + 1)) (nI f9) N2 F (zb t2) KR K (fun i => zb (T i))) := hD
            refine lv_aload_n hx hb d_M_close_94 rfl (lv_at hl 2 rfl) ?_
            refine va_get (D := D) (ci := 2) (v := .int (nI f9)) (C := RM) (T := TM) (N := 9) hx hb hts kin_M hown hK hP 0 rfl rfl 8 (by decide) (hts _ kf_M_41) (fun _ h9 => h9) rfl d_M_close_95 ?_
            exact W.iret (v := nI f9) hx hb hr (fun t9 ht hW => ⟨⟨_, (0, f9, KR (f9 + 1), N2, t2), rfl, Or.inr ⟨f9, rfl, rfl, rfl, rfl, fun q => absurd c_19 q, fun _ => ⟨rfl, hg, hg2⟩⟩, atP hP ht⟩, hS.F ht⟩) hS.2.2 d_M_close_98
          · have hlt : j < 256 := by
              rcases Nat.lt_or_ge j 256 with q | q
              · exact q
              · exact absurd (nI_le q (by omega)) c_28
            refine lv_aload_n hx hb d_M_close_31 rfl (lv_at hl 2 rfl) ?_
            refine va_get (D := D) (ci := 2) (v := .ref (b 4)) (C := RM) (T := TM) (N := 9) hx hb hts kin_M hown hK hP 0 rfl rfl 4 (by decide) (hts _ kf_M_23) (fun _ h9 => h9) rfl d_M_close_32 ?_
            refine lv_iload_n hx hb d_M_close_35 rfl (lv_at hl 0 rfl) ?_
            refine lv_aload_n hx hb d_M_close_36 rfl (lv_at hl 2 rfl) ?_
            refine va_get (D := D) (ci := 2) (v := .ref (b 1)) (C := RM) (T := TM) (N := 9) hx hb hts kin_M hown hK hP 0 rfl rfl 1 (by decide) (hts _ kf_M_9) (fun _ h9 => h9) rfl d_M_close_37 ?_
            refine lv_aload_n hx hb d_M_close_40 rfl (lv_at hl 2 rfl) ?_
            refine va_get (D := D) (ci := 2) (v := .int (nI (f9 + 1))) (C := RM) (T := TM) (N := 9) hx hb hts kin_M hown hK hP 0 rfl rfl 8 (by decide) (hts _ kf_M_41) (fun _ h9 => h9) rfl d_M_close_41 ?_
            refine va_aldA (ty := .long) hx hb hK hP 1 2 rfl rfl (vp_in_nI hf1 (by decide)) d_M_close_44 ?_
            rw [show ((nI (f9 + 1)) : Int32).toNatClampNeg = (f9 + 1) from nI_clamp (by omega)]
            refine W.eq (g2 := F0 m 45 ls [.ref (b (7 + (f9 + 1))), .int (nI j), .ref (b 4)]) rfl ?_
            refine lv_iload_n hx hb d_M_close_45 rfl (lv_at hl 0 rfl) ?_
            refine va_lald hx hb hK hP ((f9 + 1) + 7) 0 (wm_k hf1) rfl (vp_in_nI hlt (by decide)) d_M_close_46 ?_
            refine va_last hx hb hK hP hD hS 4 0 rfl rfl (vp_in_nI hlt (by decide)) d_M_close_47 (fun H locs hP hD hS => ?_)
            rw [nI_clamp (show j < 2 ^ 31 by omega)] at hP hD
            have hP : va_P D wCl (WM k b 0 r (nI (f9 + 1)) (vp_updL N2 j (K (f9 + 1) j)) F (zb t2) KR K (fun i => zb (T i))) H := hP
            have hD : va_D A (WM k b 0 r (nI (f9 + 1)) (vp_updL N2 j (K (f9 + 1) j)) F (zb t2) KR K (fun i => zb (T i))) := hD
            refine lv_aload_n hx hb d_M_close_48 rfl (lv_at hl 2 rfl) ?_
            refine va_get (D := D) (ci := 2) (v := .ref (b 6)) (C := RM) (T := TM) (N := 9) hx hb hts kin_M hown hK hP 0 rfl rfl 6 (by decide) (hts _ kf_M_30) (fun _ h9 => h9) rfl d_M_close_49 ?_
            refine lv_iload_n hx hb d_M_close_52 rfl (lv_at hl 0 rfl) ?_
            refine lv_aload_n hx hb d_M_close_53 rfl (lv_at hl 2 rfl) ?_
            refine va_get (D := D) (ci := 2) (v := .ref (b 2)) (C := RM) (T := TM) (N := 9) hx hb hts kin_M hown hK hP 0 rfl rfl 2 (by decide) (hts _ kf_M_16) (fun _ h9 => h9) rfl d_M_close_54 ?_
            refine lv_aload_n hx hb d_M_close_57 rfl (lv_at hl 2 rfl) ?_
            refine va_get (D := D) (ci := 2) (v := .int (nI (f9 + 1))) (C := RM) (T := TM) (N := 9) hx hb hts kin_M hown hK hP 0 rfl rfl 8 (by decide) (hts _ kf_M_41) (fun _ h9 => h9) rfl d_M_close_58 ?_
            refine va_aldA (ty := .boolean) hx hb hK hP 2 3 rfl rfl (vp_in_nI hf1 (by decide)) d_M_close_61 ?_
            rw [show ((nI (f9 + 1)) : Int32).toNatClampNeg = (f9 + 1) from nI_clamp (by omega)]
            refine W.eq (g2 := F0 m 62 ls [.ref (b (38 + (f9 + 1))), .int (nI j), .ref (b 6)]) rfl ?_
            refine lv_iload_n hx hb d_M_close_62 rfl (lv_at hl 0 rfl) ?_
            refine va_zald hx hb hK hP ((f9 + 1) + 38) 5 (wm_t hf1) rfl (vp_in_nI hlt (by decide)) d_M_close_63 ?_
            refine va_zast hx hb hK hP hD hS 6 5 rfl rfl (vp_in_nI hlt (by decide)) d_M_close_64 (fun H locs hP hD hS => ?_)
            rw [nI_clamp (show j < 2 ^ 31 by omega), zb_up t2 j (T (f9 + 1) j) (x := zb (T (f9 + 1)) j) rfl] at hP hD
            have hP : va_P D wCl (WM k b 0 r (nI (f9 + 1)) (vp_updL N2 j (K (f9 + 1) j)) F (zb (va_up t2 j (T (f9 + 1) j))) KR K (fun i => zb (T i))) H := hP
            have hD : va_D A (WM k b 0 r (nI (f9 + 1)) (vp_updL N2 j (K (f9 + 1) j)) F (zb (va_up t2 j (T (f9 + 1) j))) KR K (fun i => zb (T i))) := hD
            refine lv_iinc (v := (nI j) + 1) (lv' := [(2, .int ((nI j) + 1)), (1, .int z), (0, .ref (b 0))]) hx hb d_M_close_65 hl (k := 0) rfl rfl (by decide) rfl (fun ls hl => ?_)
            refine lv_goto (tgt := 24) hx hb d_M_close_68 (by decide) ?_
            refine ih (j + 1) hlt (by omega) _ _ (fun q hq => ?_) (fun q hq => ?_) H locs hP hD hS ls ?_
            · by_cases h : q = j
              · rw [h]; exact pk_uLs
              · rw [pk_uLn h]; exact hg q (by omega)
            · by_cases h : q = j
              · rw [h]; exact va_up_self _ _ _
              · rw [va_up_ne _ _ h]; exact hg2 q (by omega)
            · rw [← nI_1 j]; exact lv_sub hl [0, 1, 2] rfl
      exact loop 257 0 (by omega) (by omega) N t (fun q h => absurd h (Nat.not_lt_zero q)) (fun q h => absurd h (Nat.not_lt_zero q)) H9 locs9 hP hD hS ls (lv_sub hl [0, 2, 1] rfl)
  · have hd0 : d = 0 := (nI_eq (by omega) (by decide)).mp (show nI d = nI 0 from c_9)
    subst hd0
    refine lv_aload_n hx hb d_M_close_12 rfl (lv_at hl 0 rfl) ?_
    refine lv_iconst (v := 1) hx hb d_M_close_13 (by decide) ?_
    refine va_calli (va_runV (As := [.int 1]) (rest := []) (C := RM) ⟨hx, hb, hml, hown, hts⟩ (m_M_fail l D k b 0 r (nI 0) N F t KR K T 1 _) (cwV 1 hts (TB_g kl_M_48 ki_M_fail ks_M_fail kz_M (TB_c kc_M_fail)) rfl rfl rfl (by decide +kernel) ⟨Nat.le_of_ble_eq_true rfl, Nat.le_of_ble_eq_true rfl⟩) ⟨PW.bl, va_recv (q := (RM, TM, 9)) (ci := 2) (q0 := 0) hK hP rfl rfl, fun U hU hW => ⟨rfl, PW.go hK hP hD hS hA hE hU hW⟩⟩ rfl rfl hl.1 rfl (lv_room (Nat.le_of_ble_eq_true rfl)) d_M_close_14 ⟨Nat.zero_le _, Nat.zero_le _⟩) hS (fun q _ h => cut_F hD hS hA q h) (cut_F hD hS hA) (fun r9 uu t9 H1 locs1 ht hvm hpost hB hz hk hS => ?_)
    rw [ht] at hB
    have hP := hB
    have hD := hD.ad (wm_ad : (WM k b 1 r (nI 0) N F (zb t) KR K (fun i => zb (T i))).map Prod.fst = _)
    generalize H1 = H at hP hS ⊢
    generalize locs1 = locs at hS ⊢
    subst hpost
    exact W.iret (v := 0) hx hb hr (fun t9 ht hW => ⟨⟨_, (1, 0, r, N, t), rfl, Or.inl ⟨rfl, rfl, rfl⟩, atP hP ht⟩, hS.F ht⟩) hS.2.2 d_M_close_17
set_option maxHeartbeats 4000000 in
set_option maxRecDepth 100000 in
theorem m_M_load (l : Launch) (D : va_G) (k : Nat → ClassId) (b : Nat → Nat) (f r d : Int32) (N F : Nat → Int64) (t : Nat → Bool) (KR : Nat → Int32) (K : Nat → Nat → Int64) (T : Nat → Nat → Bool) (o1 p1 : Int32) (sz : Nat) : Met l y_M_load (w_M_load :: TB) rM (va_Pc [.ref (b 0), .int o1, .int p1] (PW D k (WM k b f r d N F (zb t) KR K (fun i => zb (T i))) sz)) (va_Qi (fun (x : Int32) (w : Int32 × (Nat → Bool)) => (¬ okP o1 p1 ∧ x = 0 ∧ w = (1, t)) ∨ (∃ u v : Nat, u < 4 ∧ v < 64 ∧ o1 = nI u ∧ p1 = nI v ∧ x = (if t (u * 64 + v) then 100 else 2100) ∧ w = (0, va_up t (u * 64 + v) true))) (fun w t9 => va_P D wCl (WM k b w.1 r d N F (zb w.2) KR K (fun i => zb (T i))) t9.heap) (va_A (WM k b f r d N F (zb t) KR K (fun i => zb (T i))) sz)) 0 0 (va_A (WM k b f r d N F (zb t) KR K (fun i => zb (T i))) sz) := by
  refine Met.ofW (cc := b_M_load) (maxL := 4) (ret := some .int) (by decide) rfl ?_
  intro p e s m args below meth c s₁ B hml hv
  obtain ⟨rfl, hsz, hP, hK, hD0, hE⟩ := hv
  have hx := B.exec
  have hb := B.bytes
  have hr := B.returns
  have hts0 := atoms_spec (ws := w_M_load :: TB) B.pre
  have hts := fun w (hw : w ∈ TB) => hts0 w (List.mem_cons_of_mem _ hw)
  have hown : s.vm.findClass RM = some m.cls := findClass_of_methodNamed B.named
  have hlocks := B.notSynchronized
  subst hsz
  have hD := hD0.self (sz := s.heap.size)
  generalize hAe : va_A (WM k b f r d N F (zb t) KR K (fun i => zb (T i))) s.heap.size = A at *
  have hA : ∀ q : Nat, s.heap.size ≤ q → A q := fun q h => by rw [← hAe]; exact Or.inr h
  have hS : va_S A s.heap s.heap [] := va_S.rf
  have hl := lv_entry ([.ref (b 0), .int o1, .int p1]) (n := 4) (Nat.le_of_ble_eq_true rfl)
  rw [lg_entry_eq]
  generalize (lg_sl ([.ref (b 0), .int o1, .int p1]) ++ List.replicate (4 - (lg_sl ([.ref (b 0), .int o1, .int p1])).length) Slot.unset).toArray = ls at hl ⊢
  have hl : lv_has ls 4 [(0, .ref (b 0)), (1, .int o1), (2, .int p1)] := hl
  refine lv_aload_n hx hb d_M_load_0 rfl (lv_at hl 0 rfl) ?_
  refine lv_iconst (v := 0) hx hb d_M_load_1 (by decide) ?_
  refine va_put (D := D) (ci := 2) (v := .int 0) (ty := .int) (C := RM) (T := TM) (N := 9) hx hb hts kin_M tM tyM nmM hown hK hP hD hS 0 rfl rfl 0 (by decide) (hts _ kf_M_34) (fun _ h9 => h9) rfl (by decide +kernel) rfl rfl (Nat.le_of_ble_eq_true rfl) d_M_load_2 (fun H locs hP hD hS => ?_)
  have hP : va_P D wCl (WM k b 0 r d N F (zb t) KR K (fun i => zb (T i))) H := hP
  have hD : va_D A (WM k b 0 r d N F (zb t) KR K (fun i => zb (T i))) := hD
  refine lv_aload_n hx hb d_M_load_5 rfl (lv_at hl 0 rfl) ?_
  refine lv_iload_n hx hb d_M_load_6 rfl (lv_at hl 1 rfl) ?_
  refine lv_iload_n hx hb d_M_load_7 rfl (lv_at hl 2 rfl) ?_
  refine vp_callSi (va_runV (As := [.int o1, .int p1]) (rest := []) (C := RM) ⟨hx, hb, hml, hown, hts⟩ (m_M_out l D k b 0 r d N F t KR K T o1 p1 _) (cwV 2 hts (TB_g kl_M_52 ki_M_out ks_M_out kz_M (TB_c kc_M_out)) rfl rfl rfl (by decide +kernel) ⟨Nat.le_of_ble_eq_true rfl, Nat.le_of_ble_eq_true rfl⟩) ⟨PW.bl, va_recv (q := (RM, TM, 9)) (ci := 2) (q0 := 0) hK hP rfl rfl, fun U hU hW => ⟨rfl, PW.go hK hP hD hS hA hE hU hW⟩⟩ rfl rfl hl.1 rfl (lv_room (Nat.le_of_ble_eq_true rfl)) d_M_load_8 ⟨Nat.zero_le _, Nat.zero_le _⟩).run (fun r1 hr1 => ?_)
  refine lv_if_eq (tgt := 20) hx hb d_M_load_11 (by decide) (fun c_11 => ?_) (fun c_11 => ?_)
  · rcases hr1 with ⟨hok, -⟩ | ⟨-, e1⟩
    rotate_left
    · exact absurd (e1.symm.trans c_11) (by decide)
    obtain ⟨u1, v1, hu, hv, rfl, rfl⟩ := hok
    have hc : u1 * 64 + v1 < 256 := by omega
    refine lv_aload_n hx hb d_M_load_20 rfl (lv_at hl 0 rfl) ?_
    refine va_get (D := D) (ci := 2) (v := .ref (b 6)) (C := RM) (T := TM) (N := 9) hx hb hts kin_M hown hK hP 0 rfl rfl 6 (by decide) (hts _ kf_M_30) (fun _ h9 => h9) rfl d_M_load_21 ?_
    refine lv_bipush (v := 64) hx hb d_M_load_24 (by decide) ?_
    refine lv_iload_n hx hb d_M_load_26 rfl (lv_at hl 1 rfl) ?_
    refine lv_imul hx hb d_M_load_27 ?_
    refine lv_iload_n hx hb d_M_load_28 rfl (lv_at hl 2 rfl) ?_
    refine lv_iadd hx hb d_M_load_29 ?_
    rw [mi_c u1 v1]
    refine va_zald hx hb hK hP 6 5 rfl rfl (vp_in_nI hc (by decide)) d_M_load_30 ?_
    rw [nI_clamp (show u1 * 64 + v1 < 2 ^ 31 by omega)]
    refine lv_if_eq (tgt := 39) hx hb d_M_load_31 (by decide) (fun c_31 => ?_) (fun c_31 => ?_)
    · refine lv_sipush (v := 2100) hx hb d_M_load_39 (by decide) ?_
      refine lv_istore_n (lv' := [(3, .int 2100), (0, .ref (b 0)), (1, .int (nI u1)), (2, .int (nI v1))]) hx hb d_M_load_42 rfl hl (by decide) rfl (fun ls hl => ?_)
      refine lv_aload_n hx hb d_M_load_43 rfl (lv_at hl 1 rfl) ?_
      refine va_get (D := D) (ci := 2) (v := .ref (b 6)) (C := RM) (T := TM) (N := 9) hx hb hts kin_M hown hK hP 0 rfl rfl 6 (by decide) (hts _ kf_M_30) (fun _ h9 => h9) rfl d_M_load_44 ?_
      refine lv_bipush (v := 64) hx hb d_M_load_47 (by decide) ?_
      refine lv_iload_n hx hb d_M_load_49 rfl (lv_at hl 2 rfl) ?_
      refine lv_imul hx hb d_M_load_50 ?_
      refine lv_iload_n hx hb d_M_load_51 rfl (lv_at hl 3 rfl) ?_
      refine lv_iadd hx hb d_M_load_52 ?_
      rw [mi_c u1 v1]
      refine lv_iconst (v := 1) hx hb d_M_load_53 (by decide) ?_
      refine va_zast hx hb hK hP hD hS 6 5 rfl rfl (vp_in_nI hc (by decide)) d_M_load_54 (fun H locs hP hD hS => ?_)
      rw [nI_clamp (show u1 * 64 + v1 < 2 ^ 31 by omega), zb_up t (u1 * 64 + v1) true (x := 1) rfl] at hP hD
      have hP : va_P D wCl (WM k b 0 r d N F (zb (va_up t (u1 * 64 + v1) true)) KR K (fun i => zb (T i))) H := hP
      have hD : va_D A (WM k b 0 r d N F (zb (va_up t (u1 * 64 + v1) true)) KR K (fun i => zb (T i))) := hD
      refine lv_iload_n hx hb d_M_load_55 rfl (lv_at hl 0 rfl) ?_
      have er : (2100 : Int32) = (if t (u1 * 64 + v1) then 100 else 2100) := by
        rw [zb_c] at c_31
        cases hq : t (u1 * 64 + v1) <;> rw [hq] at c_31 <;> first | rfl | exact absurd rfl c_31 | exact absurd c_31 (by decide)
      exact W.iret (v := 2100) hx hb hr (fun t9 ht hW => ⟨⟨_, (0, va_up t (u1 * 64 + v1) true), rfl, Or.inr ⟨u1, v1, hu, hv, rfl, rfl, er, rfl⟩, atP hP ht⟩, hS.F ht⟩) hS.2.2 d_M_load_56
    · refine lv_bipush (v := 100) hx hb d_M_load_34 (by decide) ?_
      refine lv_goto (tgt := 42) hx hb d_M_load_36 (by decide) ?_
      refine lv_istore_n (lv' := [(3, .int 100), (0, .ref (b 0)), (1, .int (nI u1)), (2, .int (nI v1))]) hx hb d_M_load_42 rfl hl (by decide) rfl (fun ls hl => ?_)
      refine lv_aload_n hx hb d_M_load_43 rfl (lv_at hl 1 rfl) ?_
      refine va_get (D := D) (ci := 2) (v := .ref (b 6)) (C := RM) (T := TM) (N := 9) hx hb hts kin_M hown hK hP 0 rfl rfl 6 (by decide) (hts _ kf_M_30) (fun _ h9 => h9) rfl d_M_load_44 ?_
      refine lv_bipush (v := 64) hx hb d_M_load_47 (by decide) ?_
      refine lv_iload_n hx hb d_M_load_49 rfl (lv_at hl 2 rfl) ?_
      refine lv_imul hx hb d_M_load_50 ?_
      refine lv_iload_n hx hb d_M_load_51 rfl (lv_at hl 3 rfl) ?_
      refine lv_iadd hx hb d_M_load_52 ?_
      rw [mi_c u1 v1]
      refine lv_iconst (v := 1) hx hb d_M_load_53 (by decide) ?_
      refine va_zast hx hb hK hP hD hS 6 5 rfl rfl (vp_in_nI hc (by decide)) d_M_load_54 (fun H locs hP hD hS => ?_)
      rw [nI_clamp (show u1 * 64 + v1 < 2 ^ 31 by omega), zb_up t (u1 * 64 + v1) true (x := 1) rfl] at hP hD
      have hP : va_P D wCl (WM k b 0 r d N F (zb (va_up t (u1 * 64 + v1) true)) KR K (fun i => zb (T i))) H := hP
      have hD : va_D A (WM k b 0 r d N F (zb (va_up t (u1 * 64 + v1) true)) KR K (fun i => zb (T i))) := hD
      refine lv_iload_n hx hb d_M_load_55 rfl (lv_at hl 0 rfl) ?_
      have er : (100 : Int32) = (if t (u1 * 64 + v1) then 100 else 2100) := by
        rw [zb_c] at c_31
        cases hq : t (u1 * 64 + v1) <;> rw [hq] at c_31 <;> first | rfl | exact absurd rfl c_31 | exact absurd c_31 (by decide)
      exact W.iret (v := 100) hx hb hr (fun t9 ht hW => ⟨⟨_, (0, va_up t (u1 * 64 + v1) true), rfl, Or.inr ⟨u1, v1, hu, hv, rfl, rfl, er, rfl⟩, atP hP ht⟩, hS.F ht⟩) hS.2.2 d_M_load_56
  · rcases hr1 with ⟨-, e1⟩ | ⟨hno, -⟩
    · exact absurd e1 c_11
    refine lv_aload_n hx hb d_M_load_14 rfl (lv_at hl 0 rfl) ?_
    refine lv_iconst (v := 1) hx hb d_M_load_15 (by decide) ?_
    refine va_calli (va_runV (As := [.int 1]) (rest := []) (C := RM) ⟨hx, hb, hml, hown, hts⟩ (m_M_fail l D k b 0 r d N F t KR K T 1 _) (cwV 1 hts (TB_g kl_M_48 ki_M_fail ks_M_fail kz_M (TB_c kc_M_fail)) rfl rfl rfl (by decide +kernel) ⟨Nat.le_of_ble_eq_true rfl, Nat.le_of_ble_eq_true rfl⟩) ⟨PW.bl, va_recv (q := (RM, TM, 9)) (ci := 2) (q0 := 0) hK hP rfl rfl, fun U hU hW => ⟨rfl, PW.go hK hP hD hS hA hE hU hW⟩⟩ rfl rfl hl.1 rfl (lv_room (Nat.le_of_ble_eq_true rfl)) d_M_load_16 ⟨Nat.zero_le _, Nat.zero_le _⟩) hS (fun q _ h => cut_F hD hS hA q h) (cut_F hD hS hA) (fun r9 uu t9 H1 locs1 ht hvm hpost hB hz hk hS => ?_)
    rw [ht] at hB
    have hP := hB
    have hD := hD.ad (wm_ad : (WM k b 1 r d N F (zb t) KR K (fun i => zb (T i))).map Prod.fst = _)
    generalize H1 = H at hP hS ⊢
    generalize locs1 = locs at hS ⊢
    subst hpost
    exact W.iret (v := 0) hx hb hr (fun t9 ht hW => ⟨⟨_, (1, t), rfl, Or.inl ⟨hno, rfl, rfl⟩, atP hP ht⟩, hS.F ht⟩) hS.2.2 d_M_load_19
set_option maxHeartbeats 4000000 in
set_option maxRecDepth 100000 in
theorem m_M_held (l : Launch) (D : va_G) (k : Nat → ClassId) (b : Nat → Nat) (f r d : Int32) (N F : Nat → Int64) (t : Nat → Bool) (KR : Nat → Int32) (K : Nat → Nat → Int64) (T : Nat → Nat → Bool) (o1 p1 z : Int32) (sz : Nat) : Met l y_M_held (w_M_held :: TB) rM (va_Pc [.ref (b 0), .int o1, .int p1, .int z] (PW D k (WM k b f r d N F (zb t) KR K (fun i => zb (T i))) sz)) (va_Ql (fun (x : Int64) (w : Int32) => (¬ okP o1 p1 ∧ w = 1) ∨ (∃ u v : Nat, u < 4 ∧ v < 64 ∧ o1 = nI u ∧ p1 = nI v ∧ x = (if z = 0 then N (u * 64 + v) else F (u * 64 + v)) ∧ w = 0)) (fun w t9 => va_P D wCl (WM k b w r d N F (zb t) KR K (fun i => zb (T i))) t9.heap) (va_A (WM k b f r d N F (zb t) KR K (fun i => zb (T i))) sz)) 0 0 (va_A (WM k b f r d N F (zb t) KR K (fun i => zb (T i))) sz) := by
  refine Met.ofW (cc := b_M_held) (maxL := 4) (ret := some .long) (by decide) rfl ?_
  intro p e s m args below meth c s₁ B hml hv
  obtain ⟨rfl, hsz, hP, hK, hD0, hE⟩ := hv
  have hx := B.exec
  have hb := B.bytes
  have hr := B.returns
  have hts0 := atoms_spec (ws := w_M_held :: TB) B.pre
  have hts := fun w (hw : w ∈ TB) => hts0 w (List.mem_cons_of_mem _ hw)
  have hown : s.vm.findClass RM = some m.cls := findClass_of_methodNamed B.named
  have hlocks := B.notSynchronized
  subst hsz
  have hD := hD0.self (sz := s.heap.size)
  generalize hAe : va_A (WM k b f r d N F (zb t) KR K (fun i => zb (T i))) s.heap.size = A at *
  have hA : ∀ q : Nat, s.heap.size ≤ q → A q := fun q h => by rw [← hAe]; exact Or.inr h
  have hS : va_S A s.heap s.heap [] := va_S.rf
  have hl := lv_entry ([.ref (b 0), .int o1, .int p1, .int z]) (n := 4) (Nat.le_of_ble_eq_true rfl)
  rw [lg_entry_eq]
  generalize (lg_sl ([.ref (b 0), .int o1, .int p1, .int z]) ++ List.replicate (4 - (lg_sl ([.ref (b 0), .int o1, .int p1, .int z])).length) Slot.unset).toArray = ls at hl ⊢
  have hl : lv_has ls 4 [(0, .ref (b 0)), (1, .int o1), (2, .int p1), (3, .int z)] := hl
  refine lv_aload_n hx hb d_M_held_0 rfl (lv_at hl 0 rfl) ?_
  refine lv_iconst (v := 0) hx hb d_M_held_1 (by decide) ?_
  refine va_put (D := D) (ci := 2) (v := .int 0) (ty := .int) (C := RM) (T := TM) (N := 9) hx hb hts kin_M tM tyM nmM hown hK hP hD hS 0 rfl rfl 0 (by decide) (hts _ kf_M_34) (fun _ h9 => h9) rfl (by decide +kernel) rfl rfl (Nat.le_of_ble_eq_true rfl) d_M_held_2 (fun H locs hP hD hS => ?_)
  have hP : va_P D wCl (WM k b 0 r d N F (zb t) KR K (fun i => zb (T i))) H := hP
  have hD : va_D A (WM k b 0 r d N F (zb t) KR K (fun i => zb (T i))) := hD
  refine lv_aload_n hx hb d_M_held_5 rfl (lv_at hl 0 rfl) ?_
  refine lv_iload_n hx hb d_M_held_6 rfl (lv_at hl 1 rfl) ?_
  refine lv_iload_n hx hb d_M_held_7 rfl (lv_at hl 2 rfl) ?_
  refine vp_callSi (va_runV (As := [.int o1, .int p1]) (rest := []) (C := RM) ⟨hx, hb, hml, hown, hts⟩ (m_M_out l D k b 0 r d N F t KR K T o1 p1 _) (cwV 2 hts (TB_g kl_M_52 ki_M_out ks_M_out kz_M (TB_c kc_M_out)) rfl rfl rfl (by decide +kernel) ⟨Nat.le_of_ble_eq_true rfl, Nat.le_of_ble_eq_true rfl⟩) ⟨PW.bl, va_recv (q := (RM, TM, 9)) (ci := 2) (q0 := 0) hK hP rfl rfl, fun U hU hW => ⟨rfl, PW.go hK hP hD hS hA hE hU hW⟩⟩ rfl rfl hl.1 rfl (lv_room (Nat.le_of_ble_eq_true rfl)) d_M_held_8 ⟨Nat.zero_le _, Nat.zero_le _⟩).run (fun r1 hr1 => ?_)
  refine lv_if_eq (tgt := 21) hx hb d_M_held_11 (by decide) (fun c_11 => ?_) (fun c_11 => ?_)
  · rcases hr1 with ⟨hok, -⟩ | ⟨-, e1⟩
    rotate_left
    · exact absurd (e1.symm.trans c_11) (by decide)
    obtain ⟨u1, v1, hu, hv, rfl, rfl⟩ := hok
    have hc : u1 * 64 + v1 < 256 := by omega
    refine lv_iload_n hx hb d_M_held_21 rfl (lv_at hl 3 rfl) ?_
    refine lv_if_eq (tgt := 39) hx hb d_M_held_22 (by decide) (fun c_22 => ?_) (fun c_22 => ?_)
    · refine lv_aload_n hx hb d_M_held_39 rfl (lv_at hl 0 rfl) ?_
      refine va_get (D := D) (ci := 2) (v := .ref (b 4)) (C := RM) (T := TM) (N := 9) hx hb hts kin_M hown hK hP 0 rfl rfl 4 (by decide) (hts _ kf_M_23) (fun _ h9 => h9) rfl d_M_held_40 ?_
      refine lv_bipush (v := 64) hx hb d_M_held_43 (by decide) ?_
      refine lv_iload_n hx hb d_M_held_45 rfl (lv_at hl 1 rfl) ?_
      refine lv_imul hx hb d_M_held_46 ?_
      refine lv_iload_n hx hb d_M_held_47 rfl (lv_at hl 2 rfl) ?_
      refine lv_iadd hx hb d_M_held_48 ?_
      rw [mi_c u1 v1]
      refine va_lald hx hb hK hP 4 0 rfl rfl (vp_in_nI hc (by decide)) d_M_held_49 ?_
      rw [nI_clamp (show u1 * 64 + v1 < 2 ^ 31 by omega)]
      exact W.lret (v := N (u1 * 64 + v1)) hx hb hr (fun t9 ht hW => ⟨⟨_, 0, rfl, Or.inr ⟨u1, v1, hu, hv, rfl, rfl, (if_pos c_22).symm, rfl⟩, atP hP ht⟩, hS.F ht⟩) hS.2.2 d_M_held_50
    · refine lv_aload_n hx hb d_M_held_25 rfl (lv_at hl 0 rfl) ?_
      refine va_get (D := D) (ci := 2) (v := .ref (b 5)) (C := RM) (T := TM) (N := 9) hx hb hts kin_M hown hK hP 0 rfl rfl 5 (by decide) (hts _ kf_M_27) (fun _ h9 => h9) rfl d_M_held_26 ?_
      refine lv_bipush (v := 64) hx hb d_M_held_29 (by decide) ?_
      refine lv_iload_n hx hb d_M_held_31 rfl (lv_at hl 1 rfl) ?_
      refine lv_imul hx hb d_M_held_32 ?_
      refine lv_iload_n hx hb d_M_held_33 rfl (lv_at hl 2 rfl) ?_
      refine lv_iadd hx hb d_M_held_34 ?_
      rw [mi_c u1 v1]
      refine va_lald hx hb hK hP 5 0 rfl rfl (vp_in_nI hc (by decide)) d_M_held_35 ?_
      rw [nI_clamp (show u1 * 64 + v1 < 2 ^ 31 by omega)]
      refine lv_goto (tgt := 50) hx hb d_M_held_36 (by decide) ?_
      exact W.lret (v := F (u1 * 64 + v1)) hx hb hr (fun t9 ht hW => ⟨⟨_, 0, rfl, Or.inr ⟨u1, v1, hu, hv, rfl, rfl, (if_neg c_22).symm, rfl⟩, atP hP ht⟩, hS.F ht⟩) hS.2.2 d_M_held_50
  · rcases hr1 with ⟨-, e1⟩ | ⟨hno, -⟩
    · exact absurd e1 c_11
    refine lv_aload_n hx hb d_M_held_14 rfl (lv_at hl 0 rfl) ?_
    refine lv_iconst (v := 1) hx hb d_M_held_15 (by decide) ?_
    refine va_calli (va_runV (As := [.int 1]) (rest := []) (C := RM) ⟨hx, hb, hml, hown, hts⟩ (m_M_fail l D k b 0 r d N F t KR K T 1 _) (cwV 1 hts (TB_g kl_M_48 ki_M_fail ks_M_fail kz_M (TB_c kc_M_fail)) rfl rfl rfl (by decide +kernel) ⟨Nat.le_of_ble_eq_true rfl, Nat.le_of_ble_eq_true rfl⟩) ⟨PW.bl, va_recv (q := (RM, TM, 9)) (ci := 2) (q0 := 0) hK hP rfl rfl, fun U hU hW => ⟨rfl, PW.go hK hP hD hS hA hE hU hW⟩⟩ rfl rfl hl.1 rfl (lv_room (Nat.le_of_ble_eq_true rfl)) d_M_held_16 ⟨Nat.zero_le _, Nat.zero_le _⟩) hS (fun q _ h => cut_F hD hS hA q h) (cut_F hD hS hA) (fun r9 uu t9 H1 locs1 ht hvm hpost hB hz hk hS => ?_)
    rw [ht] at hB
    have hP := hB
    have hD := hD.ad (wm_ad : (WM k b 1 r d N F (zb t) KR K (fun i => zb (T i))).map Prod.fst = _)
    generalize H1 = H at hP hS ⊢
    generalize locs1 = locs at hS ⊢
    subst hpost
    refine lv_i2l hx hb d_M_held_19 rfl ?_
    exact W.lret (v := ((0) : Int32).toInt64) hx hb hr (fun t9 ht hW => ⟨⟨_, 1, rfl, Or.inl ⟨hno, rfl⟩, atP hP ht⟩, hS.F ht⟩) hS.2.2 d_M_held_20
set_option maxHeartbeats 4000000 in
set_option maxRecDepth 100000 in
theorem m_M_touched (l : Launch) (D : va_G) (k : Nat → ClassId) (b : Nat → Nat) (f r d : Int32) (N F : Nat → Int64) (t : Nat → Bool) (KR : Nat → Int32) (K : Nat → Nat → Int64) (T : Nat → Nat → Bool) (o1 p1 : Int32) (sz : Nat) : Met l y_M_touched (w_M_touched :: TB) rM (va_Pc [.ref (b 0), .int o1, .int p1] (PW D k (WM k b f r d N F (zb t) KR K (fun i => zb (T i))) sz)) (va_Qi (fun (x : Int32) (w : Int32) => (¬ okP o1 p1 ∧ w = 1) ∨ (∃ u v : Nat, u < 4 ∧ v < 64 ∧ o1 = nI u ∧ p1 = nI v ∧ x = (if t (u * 64 + v) then 1 else 0) ∧ w = 0)) (fun w t9 => va_P D wCl (WM k b w r d N F (zb t) KR K (fun i => zb (T i))) t9.heap) (va_A (WM k b f r d N F (zb t) KR K (fun i => zb (T i))) sz)) 0 0 (va_A (WM k b f r d N F (zb t) KR K (fun i => zb (T i))) sz) := by
  refine Met.ofW (cc := b_M_touched) (maxL := 3) (ret := some .boolean) (by decide) rfl ?_
  intro p e s m args below meth c s₁ B hml hv
  obtain ⟨rfl, hsz, hP, hK, hD0, hE⟩ := hv
  have hx := B.exec
  have hb := B.bytes
  have hr := B.returns
  have hts0 := atoms_spec (ws := w_M_touched :: TB) B.pre
  have hts := fun w (hw : w ∈ TB) => hts0 w (List.mem_cons_of_mem _ hw)
  have hown : s.vm.findClass RM = some m.cls := findClass_of_methodNamed B.named
  have hlocks := B.notSynchronized
  subst hsz
  have hD := hD0.self (sz := s.heap.size)
  generalize hAe : va_A (WM k b f r d N F (zb t) KR K (fun i => zb (T i))) s.heap.size = A at *
  have hA : ∀ q : Nat, s.heap.size ≤ q → A q := fun q h => by rw [← hAe]; exact Or.inr h
  have hS : va_S A s.heap s.heap [] := va_S.rf
  have hl := lv_entry ([.ref (b 0), .int o1, .int p1]) (n := 3) (Nat.le_of_ble_eq_true rfl)
  rw [lg_entry_eq]
  generalize (lg_sl ([.ref (b 0), .int o1, .int p1]) ++ List.replicate (3 - (lg_sl ([.ref (b 0), .int o1, .int p1])).length) Slot.unset).toArray = ls at hl ⊢
  have hl : lv_has ls 3 [(0, .ref (b 0)), (1, .int o1), (2, .int p1)] := hl
  refine lv_aload_n hx hb d_M_touched_0 rfl (lv_at hl 0 rfl) ?_
  refine lv_iconst (v := 0) hx hb d_M_touched_1 (by decide) ?_
  refine va_put (D := D) (ci := 2) (v := .int 0) (ty := .int) (C := RM) (T := TM) (N := 9) hx hb hts kin_M tM tyM nmM hown hK hP hD hS 0 rfl rfl 0 (by decide) (hts _ kf_M_34) (fun _ h9 => h9) rfl (by decide +kernel) rfl rfl (Nat.le_of_ble_eq_true rfl) d_M_touched_2 (fun H locs hP hD hS => ?_)
  have hP : va_P D wCl (WM k b 0 r d N F (zb t) KR K (fun i => zb (T i))) H := hP
  have hD : va_D A (WM k b 0 r d N F (zb t) KR K (fun i => zb (T i))) := hD
  refine lv_aload_n hx hb d_M_touched_5 rfl (lv_at hl 0 rfl) ?_
  refine lv_iload_n hx hb d_M_touched_6 rfl (lv_at hl 1 rfl) ?_
  refine lv_iload_n hx hb d_M_touched_7 rfl (lv_at hl 2 rfl) ?_
  refine vp_callSi (va_runV (As := [.int o1, .int p1]) (rest := []) (C := RM) ⟨hx, hb, hml, hown, hts⟩ (m_M_out l D k b 0 r d N F t KR K T o1 p1 _) (cwV 2 hts (TB_g kl_M_52 ki_M_out ks_M_out kz_M (TB_c kc_M_out)) rfl rfl rfl (by decide +kernel) ⟨Nat.le_of_ble_eq_true rfl, Nat.le_of_ble_eq_true rfl⟩) ⟨PW.bl, va_recv (q := (RM, TM, 9)) (ci := 2) (q0 := 0) hK hP rfl rfl, fun U hU hW => ⟨rfl, PW.go hK hP hD hS hA hE hU hW⟩⟩ rfl rfl hl.1 rfl (lv_room (Nat.le_of_ble_eq_true rfl)) d_M_touched_8 ⟨Nat.zero_le _, Nat.zero_le _⟩).run (fun r1 hr1 => ?_)
  refine lv_if_eq (tgt := 30) hx hb d_M_touched_11 (by decide) (fun c_11 => ?_) (fun c_11 => ?_)
  · rcases hr1 with ⟨hok, -⟩ | ⟨-, e1⟩
    rotate_left
    · exact absurd (e1.symm.trans c_11) (by decide)
    obtain ⟨u1, v1, hu, hv, rfl, rfl⟩ := hok
    have hc : u1 * 64 + v1 < 256 := by omega
    refine lv_aload_n hx hb d_M_touched_30 rfl (lv_at hl 0 rfl) ?_
    refine va_get (D := D) (ci := 2) (v := .ref (b 6)) (C := RM) (T := TM) (N := 9) hx hb hts kin_M hown hK hP 0 rfl rfl 6 (by decide) (hts _ kf_M_30) (fun _ h9 => h9) rfl d_M_touched_31 ?_
    refine lv_bipush (v := 64) hx hb d_M_touched_34 (by decide) ?_
    refine lv_iload_n hx hb d_M_touched_36 rfl (lv_at hl 1 rfl) ?_
    refine lv_imul hx hb d_M_touched_37 ?_
    refine lv_iload_n hx hb d_M_touched_38 rfl (lv_at hl 2 rfl) ?_
    refine lv_iadd hx hb d_M_touched_39 ?_
    rw [mi_c u1 v1]
    refine va_zald hx hb hK hP 6 5 rfl rfl (vp_in_nI hc (by decide)) d_M_touched_40 ?_
    rw [nI_clamp (show u1 * 64 + v1 < 2 ^ 31 by omega)]
    exact W.zret (v := zb t (u1 * 64 + v1)) hx hb hr (by rw [zb_c]; split <;> rfl) (fun t9 ht hW => ⟨⟨_, 0, rfl, Or.inr ⟨u1, v1, hu, hv, rfl, rfl, rfl, rfl⟩, atP hP ht⟩, hS.F ht⟩) hS.2.2 d_M_touched_41
  · rcases hr1 with ⟨-, e1⟩ | ⟨hno, -⟩
    · exact absurd e1 c_11
    refine lv_aload_n hx hb d_M_touched_14 rfl (lv_at hl 0 rfl) ?_
    refine lv_iconst (v := 1) hx hb d_M_touched_15 (by decide) ?_
    refine va_calli (va_runV (As := [.int 1]) (rest := []) (C := RM) ⟨hx, hb, hml, hown, hts⟩ (m_M_fail l D k b 0 r d N F t KR K T 1 _) (cwV 1 hts (TB_g kl_M_48 ki_M_fail ks_M_fail kz_M (TB_c kc_M_fail)) rfl rfl rfl (by decide +kernel) ⟨Nat.le_of_ble_eq_true rfl, Nat.le_of_ble_eq_true rfl⟩) ⟨PW.bl, va_recv (q := (RM, TM, 9)) (ci := 2) (q0 := 0) hK hP rfl rfl, fun U hU hW => ⟨rfl, PW.go hK hP hD hS hA hE hU hW⟩⟩ rfl rfl hl.1 rfl (lv_room (Nat.le_of_ble_eq_true rfl)) d_M_touched_16 ⟨Nat.zero_le _, Nat.zero_le _⟩) hS (fun q _ h => cut_F hD hS hA q h) (cut_F hD hS hA) (fun r9 uu t9 H1 locs1 ht hvm hpost hB hz hk hS => ?_)
    rw [ht] at hB
    have hP := hB
    have hD := hD.ad (wm_ad : (WM k b 1 r d N F (zb t) KR K (fun i => zb (T i))).map Prod.fst = _)
    generalize H1 = H at hP hS ⊢
    generalize locs1 = locs at hS ⊢
    subst hpost
    refine lv_if_le (tgt := 26) hx hb d_M_touched_19 (by decide) (fun c_19 => ?_) (fun c_19 => ?_)
    · refine lv_iconst (v := 0) hx hb d_M_touched_26 (by decide) ?_
      refine lv_goto (tgt := 41) hx hb d_M_touched_27 (by decide) ?_
      exact W.zret (v := 0) hx hb hr rfl (fun t9 ht hW => ⟨⟨_, 1, rfl, Or.inl ⟨hno, rfl⟩, atP hP ht⟩, hS.F ht⟩) hS.2.2 d_M_touched_41
    · exact absurd (by decide) c_19
set_option maxHeartbeats 4000000 in
set_option maxRecDepth 100000 in
theorem m_M_count (l : Launch) (D : va_G) (k : Nat → ClassId) (b : Nat → Nat) (f r d : Int32) (N F : Nat → Int64) (t : Nat → Bool) (KR : Nat → Int32) (K : Nat → Nat → Int64) (T : Nat → Nat → Bool) (z : Int32) (sz : Nat) : Met l y_M_count (w_M_count :: TB) rM (va_Pc [.ref (b 0), .int z] (PW D k (WM k b f r d N F (zb t) KR K (fun i => zb (T i))) sz)) (va_Qi (fun (x : Int32) (w : Int32) => (¬ (∃ q : Nat, q < 4 ∧ z = nI q) ∧ w = 1) ∨ (∃ q : Nat, q < 4 ∧ z = nI q ∧ w = 0 ∧ (q = 0 → x = r) ∧ (q = 1 → x = nI (cntb t 256)) ∧ (q = 2 → x = d) ∧ (q = 3 → x = nI (cnt N 256)))) (fun w t9 => va_P D wCl (WM k b w r d N F (zb t) KR K (fun i => zb (T i))) t9.heap) (va_A (WM k b f r d N F (zb t) KR K (fun i => zb (T i))) sz)) 0 0 (va_A (WM k b f r d N F (zb t) KR K (fun i => zb (T i))) sz) := by
  refine Met.ofW (cc := b_M_count) (maxL := 4) (ret := some .int) (by decide) rfl ?_
  intro p e s m args below meth c s₁ B hml hv
  obtain ⟨rfl, hsz, hP, hK, hD0, hE⟩ := hv
  have hx := B.exec
  have hb := B.bytes
  have hr := B.returns
  have hts0 := atoms_spec (ws := w_M_count :: TB) B.pre
  have hts := fun w (hw : w ∈ TB) => hts0 w (List.mem_cons_of_mem _ hw)
  have hown : s.vm.findClass RM = some m.cls := findClass_of_methodNamed B.named
  have hlocks := B.notSynchronized
  subst hsz
  have hD := hD0.self (sz := s.heap.size)
  generalize hAe : va_A (WM k b f r d N F (zb t) KR K (fun i => zb (T i))) s.heap.size = A at *
  have hA : ∀ q : Nat, s.heap.size ≤ q → A q := fun q h => by rw [← hAe]; exact Or.inr h
  have hS : va_S A s.heap s.heap [] := va_S.rf
  have hl := lv_entry ([.ref (b 0), .int z]) (n := 4) (Nat.le_of_ble_eq_true rfl)
  rw [lg_entry_eq]
  generalize (lg_sl ([.ref (b 0), .int z]) ++ List.replicate (4 - (lg_sl ([.ref (b 0), .int z])).length) Slot.unset).toArray = ls at hl ⊢
  have hl : lv_has ls 4 [(0, .ref (b 0)), (1, .int z)] := hl
  refine lv_aload_n hx hb d_M_count_0 rfl (lv_at hl 0 rfl) ?_
  refine lv_iconst (v := 0) hx hb d_M_count_1 (by decide) ?_
  refine va_put (D := D) (ci := 2) (v := .int 0) (ty := .int) (C := RM) (T := TM) (N := 9) hx hb hts kin_M tM tyM nmM hown hK hP hD hS 0 rfl rfl 0 (by decide) (hts _ kf_M_34) (fun _ h9 => h9) rfl (by decide +kernel) rfl rfl (Nat.le_of_ble_eq_true rfl) d_M_count_2 (fun H locs hP hD hS => ?_)
  have hP : va_P D wCl (WM k b 0 r d N F (zb t) KR K (fun i => zb (T i))) H := hP
  have hD : va_D A (WM k b 0 r d N F (zb t) KR K (fun i => zb (T i))) := hD
  refine lv_iload_n hx hb d_M_count_5 rfl (lv_at hl 1 rfl) ?_
  refine lv_if_lt (tgt := 14) hx hb d_M_count_6 (by decide) (fun c_6 => ?_) (fun c_6 => ?_)
  · refine lv_aload_n hx hb d_M_count_14 rfl (lv_at hl 0 rfl) ?_
    refine lv_iconst (v := 1) hx hb d_M_count_15 (by decide) ?_
    refine va_calli (va_runV (As := [.int 1]) (rest := []) (C := RM) ⟨hx, hb, hml, hown, hts⟩ (m_M_fail l D k b 0 r d N F t KR K T 1 _) (cwV 1 hts (TB_g kl_M_48 ki_M_fail ks_M_fail kz_M (TB_c kc_M_fail)) rfl rfl rfl (by decide +kernel) ⟨Nat.le_of_ble_eq_true rfl, Nat.le_of_ble_eq_true rfl⟩) ⟨PW.bl, va_recv (q := (RM, TM, 9)) (ci := 2) (q0 := 0) hK hP rfl rfl, fun U hU hW => ⟨rfl, PW.go hK hP hD hS hA hE hU hW⟩⟩ rfl rfl hl.1 rfl (lv_room (Nat.le_of_ble_eq_true rfl)) d_M_count_16 ⟨Nat.zero_le _, Nat.zero_le _⟩) hS (fun q _ h => cut_F hD hS hA q h) (cut_F hD hS hA) (fun r9 uu t9 H1 locs1 ht hvm hpost hB hz hk hS => ?_)
    rw [ht] at hB
    have hP := hB
    have hD := hD.ad (wm_ad : (WM k b 1 r d N F (zb t) KR K (fun i => zb (T i))).map Prod.fst = _)
    generalize H1 = H at hP hS ⊢
    generalize locs1 = locs at hS ⊢
    subst hpost
    exact W.iret (v := 0) hx hb hr (fun t9 ht hW => ⟨⟨_, 1, rfl, Or.inl ⟨fun ⟨q, hq, e⟩ => nI_pos (show q < 2 ^ 31 by omega) (e ▸ c_6), rfl⟩, atP hP ht⟩, hS.F ht⟩) hS.2.2 d_M_count_19
  · refine lv_iload_n hx hb d_M_count_9 rfl (lv_at hl 1 rfl) ?_
    refine lv_iconst (v := 3) hx hb d_M_count_10 (by decide) ?_
    refine lv_icmp_le (tgt := 20) hx hb d_M_count_11 (by decide) (fun c_11 => ?_) (fun c_11 => ?_)
    · obtain ⟨q, hq, ez⟩ : ∃ q : Nat, q < 4 ∧ z = nI q := by
        obtain ⟨q, hq, e⟩ := nI_of c_6
        refine ⟨q, ?_, e⟩
        rcases Nat.lt_or_ge q 4 with h | h
        · exact h
        · exact absurd (show nI q ≤ nI 3 from e ▸ c_11) (nI_ge (by omega) hq)
      refine lv_iconst (v := 0) hx hb d_M_count_20 (by decide) ?_
      refine lv_istore_n (lv' := [(2, .int 0), (0, .ref (b 0)), (1, .int z)]) hx hb d_M_count_21 rfl hl (by decide) rfl (fun ls hl => ?_)
      refine lv_iconst (v := 0) hx hb d_M_count_22 (by decide) ?_
      refine lv_istore_n (lv' := [(3, .int 0), (2, .int 0), (0, .ref (b 0)), (1, .int z)]) hx hb d_M_count_23 rfl hl (by decide) rfl (fun ls hl => ?_)
      generalize H = H9 at hP hD hS ⊢
      generalize locs = locs9 at hS ⊢
      generalize hRR : (headSpec (w_M_count :: TB) rM).room = RR
      generalize hQQ : MQ below (va_Qi (fun (x : Int32) (w : Int32) => (¬ (∃ q : Nat, q < 4 ∧ z = nI q) ∧ w = 1) ∨ (∃ q : Nat, q < 4 ∧ z = nI q ∧ w = 0 ∧ (q = 0 → x = r) ∧ (q = 1 → x = nI (cntb t 256)) ∧ (q = 2 → x = d) ∧ (q = 3 → x = nI (cnt N 256)))) (fun w t9 => va_P D wCl (WM k b w r d N F (zb t) KR K (fun i => zb (T i))) t9.heap) A) [.ref (b 0), .int z].toArray s 0 0 A = QQ
      have loop : ∀ (n j : Nat), j ≤ 256 → 257 ≤ j + n → ∀ (ls : Array Slot), lv_has ls 4 [(2, .int (nI (cntb t j))), (3, .int (nI j)), (1, .int z), (0, .ref (b 0))] → W p l e RR s m [.ref (b 0), .int z].toArray below meth c H9 locs9 0 0 QQ (F0 m 24 ls []) := by
        intro n
        induction n with
        | zero =>
          intro j h1 h2
          exact absurd h2 (by omega)
        | succ n ih =>
          intro j hj hjn ls hl
          refine lv_iload_n hx hb d_M_count_24 rfl (lv_at hl 1 rfl) ?_
          refine lv_sipush (v := 256) hx hb d_M_count_25 (by decide) ?_
          refine lv_icmp_ge (tgt := 54) hx hb d_M_count_28 (by decide) (fun c_28 => ?_) (fun c_28 => ?_)
          · have hj : j = 256 := by
              rcases Nat.lt_or_ge j 256 with q | q
              · exact absurd c_28 (nI_ge q (by decide))
              · omega
            subst hj
            subst hRR hQQ
            refine lv_iload_n hx hb d_M_count_54 rfl (lv_at hl 2 rfl) ?_
            refine lv_if_ne (tgt := 65) hx hb d_M_count_55 (by decide) (fun c_55 => ?_) (fun c_55 => ?_)
            · have hq0 : ¬ q = 0 := fun h => c_55 (by rw [ez, h]; rfl)
              refine lv_iload_n hx hb d_M_count_65 rfl (lv_at hl 2 rfl) ?_
              refine lv_iconst (v := 1) hx hb d_M_count_66 (by decide) ?_
              refine lv_icmp_ne (tgt := 74) hx hb d_M_count_67 (by decide) (fun c_67 => ?_) (fun c_67 => ?_)
              · have hq1 : ¬ q = 1 := fun h => c_67 (by rw [ez, h]; rfl)
                refine lv_iload_n hx hb d_M_count_74 rfl (lv_at hl 2 rfl) ?_
                refine lv_iconst (v := 2) hx hb d_M_count_75 (by decide) ?_
                refine lv_icmp_ne (tgt := 86) hx hb d_M_count_76 (by decide) (fun c_76 => ?_) (fun c_76 => ?_)
                · have hq2 : ¬ q = 2 := fun h => c_76 (by rw [ez, h]; rfl)
                  refine lv_aload_n hx hb d_M_count_86 rfl (lv_at hl 3 rfl) ?_
                  refine vp_callSi (va_runV (As := []) (rest := []) (C := RM) ⟨hx, hb, hml, hown, hts⟩ (m_M_filled l D k b 0 r d N F t KR K T _) (cwV 0 hts (TB_g kl_M_44 ki_M_filled ks_M_filled kz_M (TB_c kc_M_filled)) rfl rfl rfl (by decide +kernel) ⟨Nat.le_of_ble_eq_true rfl, Nat.le_of_ble_eq_true rfl⟩) ⟨PW.bl, va_recv (q := (RM, TM, 9)) (ci := 2) (q0 := 0) hK hP rfl rfl, fun U hU hW => ⟨rfl, PW.go hK hP hD hS hA hE hU hW⟩⟩ rfl rfl hl.1 rfl (lv_room (Nat.le_of_ble_eq_true rfl)) d_M_count_87 ⟨Nat.zero_le _, Nat.zero_le _⟩).run (fun r1 hr1 => ?_)
                  exact W.iret (v := r1) hx hb hr (fun t9 ht hW => ⟨⟨_, 0, rfl, Or.inr ⟨q, hq, ez, rfl, fun h => absurd h hq0, fun h => absurd h hq1, fun h => absurd h hq2, fun _ => hr1⟩, atP hP ht⟩, hS.F ht⟩) hS.2.2 d_M_count_90
                · have hq2 : q = 2 := (nI_eq (by omega) (by decide)).mp (ez.symm.trans c_76)
                  refine lv_aload_n hx hb d_M_count_79 rfl (lv_at hl 3 rfl) ?_
                  refine va_get (D := D) (ci := 2) (v := .int d) (C := RM) (T := TM) (N := 9) hx hb hts kin_M hown hK hP 0 rfl rfl 8 (by decide) (hts _ kf_M_41) (fun _ h9 => h9) rfl d_M_count_80 ?_
                  refine lv_goto (tgt := 90) hx hb d_M_count_83 (by decide) ?_
                  exact W.iret (v := d) hx hb hr (fun t9 ht hW => ⟨⟨_, 0, rfl, Or.inr ⟨q, hq, ez, rfl, fun h => absurd h hq0, fun h => absurd h hq1, fun _ => rfl, fun h => absurd h (by omega)⟩, atP hP ht⟩, hS.F ht⟩) hS.2.2 d_M_count_90
              · have hq1 : q = 1 := (nI_eq (by omega) (by decide)).mp (ez.symm.trans c_67)
                refine lv_iload_n hx hb d_M_count_70 rfl (lv_at hl 0 rfl) ?_
                refine lv_goto (tgt := 90) hx hb d_M_count_71 (by decide) ?_
                exact W.iret (v := nI (cntb t 256)) hx hb hr (fun t9 ht hW => ⟨⟨_, 0, rfl, Or.inr ⟨q, hq, ez, rfl, fun h => absurd h hq0, fun _ => rfl, fun h => absurd h (by omega), fun h => absurd h (by omega)⟩, atP hP ht⟩, hS.F ht⟩) hS.2.2 d_M_count_90
            · have hq0 : q = 0 := (nI_eq (by omega) (by decide)).mp (ez.symm.trans c_55)
              refine lv_aload_n hx hb d_M_count_58 rfl (lv_at hl 3 rfl) ?_
              refine va_get (D := D) (ci := 2) (v := .int r) (C := RM) (T := TM) (N := 9) hx hb hts kin_M hown hK hP 0 rfl rfl 7 (by decide) (hts _ kf_M_38) (fun _ h9 => h9) rfl d_M_count_59 ?_
              refine lv_goto (tgt := 90) hx hb d_M_count_62 (by decide) ?_
              exact W.iret (v := r) hx hb hr (fun t9 ht hW => ⟨⟨_, 0, rfl, Or.inr ⟨q, hq, ez, rfl, fun _ => rfl, fun h => absurd h (by omega), fun h => absurd h (by omega), fun h => absurd h (by omega)⟩, atP hP ht⟩, hS.F ht⟩) hS.2.2 d_M_count_90
          · have hlt : j < 256 := by
              rcases Nat.lt_or_ge j 256 with q | q
              · exact q
              · exact absurd (nI_le q (by omega)) c_28
            refine lv_iload_n hx hb d_M_count_31 rfl (lv_at hl 0 rfl) ?_
            refine lv_aload_n hx hb d_M_count_32 rfl (lv_at hl 3 rfl) ?_
            refine va_get (D := D) (ci := 2) (v := .ref (b 6)) (C := RM) (T := TM) (N := 9) hx hb hts kin_M hown hK hP 0 rfl rfl 6 (by decide) (hts _ kf_M_30) (fun _ h9 => h9) rfl d_M_count_33 ?_
            refine lv_iload_n hx hb d_M_count_36 rfl (lv_at hl 1 rfl) ?_
            refine va_zald hx hb hK hP 6 5 rfl rfl (vp_in_nI hlt (by decide)) d_M_count_37 ?_
            rw [nI_clamp (show j < 2 ^ 31 by omega)]
            refine lv_if_eq (tgt := 45) hx hb d_M_count_38 (by decide) (fun c_38 => ?_) (fun c_38 => ?_)
            · have hq9 : t j = false := by
                rw [zb_c] at c_38
                cases h9 : t j <;> rw [h9] at c_38 <;> first | rfl | exact absurd rfl c_38 | exact absurd c_38 (by decide)
              refine lv_iconst (v := 0) hx hb d_M_count_45 (by decide) ?_
              refine lv_iadd hx hb d_M_count_46 ?_
              refine lv_istore_n (lv' := [(2, .int ((nI (cntb t j)) + (0))), (3, .int (nI j)), (1, .int z), (0, .ref (b 0))]) hx hb d_M_count_47 rfl hl (by decide) rfl (fun ls hl => ?_)
              refine lv_iinc (v := (nI j) + 1) (lv' := [(3, .int ((nI j) + 1)), (2, .int ((nI (cntb t j)) + (0))), (1, .int z), (0, .ref (b 0))]) hx hb d_M_count_48 hl (k := 1) rfl rfl (by decide) rfl (fun ls hl => ?_)
              refine lv_goto (tgt := 24) hx hb d_M_count_51 (by decide) ?_
              refine ih (j + 1) hlt (by omega) ls ?_
              have e1 : nI (cntb t j) + 0 = nI (cntb t (j + 1)) := by
                show _ = nI (cntb t j + (if t j then 1 else 0))
                rw [hq9]
                exact nI_add _ _
              rw [← e1, ← nI_1 j]
              exact lv_sub hl [1, 0, 2, 3] rfl
            · have hq9 : t j = true := by
                rw [zb_c] at c_38
                cases h9 : t j <;> rw [h9] at c_38 <;> first | rfl | exact absurd rfl c_38 | exact absurd c_38 (by decide)
              refine lv_iconst (v := 1) hx hb d_M_count_41 (by decide) ?_
              refine lv_goto (tgt := 46) hx hb d_M_count_42 (by decide) ?_
              refine lv_iadd hx hb d_M_count_46 ?_
              refine lv_istore_n (lv' := [(2, .int ((nI (cntb t j)) + (1))), (3, .int (nI j)), (1, .int z), (0, .ref (b 0))]) hx hb d_M_count_47 rfl hl (by decide) rfl (fun ls hl => ?_)
              refine lv_iinc (v := (nI j) + 1) (lv' := [(3, .int ((nI j) + 1)), (2, .int ((nI (cntb t j)) + (1))), (1, .int z), (0, .ref (b 0))]) hx hb d_M_count_48 hl (k := 1) rfl rfl (by decide) rfl (fun ls hl => ?_)
              refine lv_goto (tgt := 24) hx hb d_M_count_51 (by decide) ?_
              refine ih (j + 1) hlt (by omega) ls ?_
              have e1 : nI (cntb t j) + 1 = nI (cntb t (j + 1)) := by
                show _ = nI (cntb t j + (if t j then 1 else 0))
                rw [hq9]
                exact nI_add _ _
              rw [← e1, ← nI_1 j]
              exact lv_sub hl [1, 0, 2, 3] rfl
      exact loop 257 0 (by omega) (by omega) ls (lv_sub hl [1, 0, 3, 2] rfl)
    · refine lv_aload_n hx hb d_M_count_14 rfl (lv_at hl 0 rfl) ?_
      refine lv_iconst (v := 1) hx hb d_M_count_15 (by decide) ?_
      refine va_calli (va_runV (As := [.int 1]) (rest := []) (C := RM) ⟨hx, hb, hml, hown, hts⟩ (m_M_fail l D k b 0 r d N F t KR K T 1 _) (cwV 1 hts (TB_g kl_M_48 ki_M_fail ks_M_fail kz_M (TB_c kc_M_fail)) rfl rfl rfl (by decide +kernel) ⟨Nat.le_of_ble_eq_true rfl, Nat.le_of_ble_eq_true rfl⟩) ⟨PW.bl, va_recv (q := (RM, TM, 9)) (ci := 2) (q0 := 0) hK hP rfl rfl, fun U hU hW => ⟨rfl, PW.go hK hP hD hS hA hE hU hW⟩⟩ rfl rfl hl.1 rfl (lv_room (Nat.le_of_ble_eq_true rfl)) d_M_count_16 ⟨Nat.zero_le _, Nat.zero_le _⟩) hS (fun q _ h => cut_F hD hS hA q h) (cut_F hD hS hA) (fun r9 uu t9 H1 locs1 ht hvm hpost hB hz hk hS => ?_)
      rw [ht] at hB
      have hP := hB
      have hD := hD.ad (wm_ad : (WM k b 1 r d N F (zb t) KR K (fun i => zb (T i))).map Prod.fst = _)
      generalize H1 = H at hP hS ⊢
      generalize locs1 = locs at hS ⊢
      subst hpost
      exact W.iret (v := 0) hx hb hr (fun t9 ht hW => ⟨⟨_, 1, rfl, Or.inl ⟨fun ⟨q, hq, e⟩ => c_11 (by rw [e]; exact (show nI q ≤ nI 3 from nI_le (by omega) (by decide))), rfl⟩, atP hP ht⟩, hS.F ht⟩) hS.2.2 d_M_count_19
end
section
/-! the reference: store -/
set_option maxHeartbeats 4000000 in
set_option maxRecDepth 100000 in
theorem m_M_store (l : Launch) (D : va_G) (k : Nat → ClassId) (b : Nat → Nat) (f r d : Int32) (N F : Nat → Int64) (t : Nat → Bool) (KR : Nat → Int32) (K : Nat → Nat → Int64) (T : Nat → Nat → Bool) (o1 p1 : Int32) (x : Int64) (gas : Int32) (sz : Nat) : Met l y_M_store (w_M_store :: TB) rM (va_Pc [.ref (b 0), .int o1, .int p1, .long x, .int gas] (PW D k (WM k b f r d N F (zb t) KR K (fun i => zb (T i))) sz)) (va_Qi (fun (y : Int32) (w : Int32 × Int32 × (Nat → Int64) × (Nat → Bool)) => (¬ okP o1 p1 ∧ w = (1, r, N, t)) ∨ (∃ u v : Nat, u < 4 ∧ v < 64 ∧ o1 = nI u ∧ p1 = nI v ∧ (((gas ≤ 2300 ∨ ¬ fWC (F (u * 64 + v)) (N (u * 64 + v)) x + (if t (u * 64 + v) then 0 else 2100) ≤ gas) ∧ w = (2, r, N, t)) ∨ (¬ gas ≤ 2300 ∧ fWC (F (u * 64 + v)) (N (u * 64 + v)) x + (if t (u * 64 + v) then 0 else 2100) ≤ gas ∧ y = fWC (F (u * 64 + v)) (N (u * 64 + v)) x + (if t (u * 64 + v) then 0 else 2100) ∧ w = (0, r + fRC (F (u * 64 + v)) (N (u * 64 + v)) x, vp_updL N (u * 64 + v) x, va_up t (u * 64 + v) true))))) (fun w t9 => va_P D wCl (WM k b w.1 w.2.1 d w.2.2.1 F (zb w.2.2.2) KR K (fun i => zb (T i))) t9.heap) (va_A (WM k b f r d N F (zb t) KR K (fun i => zb (T i))) sz)) 0 0 (va_A (WM k b f r d N F (zb t) KR K (fun i => zb (T i))) sz) := by
  refine Met.ofW (cc := b_M_store) (maxL := 13) (ret := some .int) (by decide) rfl ?_
  intro p e s m args below meth c s₁ B hml hv
  obtain ⟨rfl, hsz, hP, hK, hD0, hE⟩ := hv
  have hx := B.exec
  have hb := B.bytes
  have hr := B.returns
  have hts0 := atoms_spec (ws := w_M_store :: TB) B.pre
  have hts := fun w (hw : w ∈ TB) => hts0 w (List.mem_cons_of_mem _ hw)
  have hown : s.vm.findClass RM = some m.cls := findClass_of_methodNamed B.named
  have hlocks := B.notSynchronized
  subst hsz
  have hD := hD0.self (sz := s.heap.size)
  generalize hAe : va_A (WM k b f r d N F (zb t) KR K (fun i => zb (T i))) s.heap.size = A at *
  have hA : ∀ q : Nat, s.heap.size ≤ q → A q := fun q h => by rw [← hAe]; exact Or.inr h
  have hS : va_S A s.heap s.heap [] := va_S.rf
  have hl := lv_entry ([.ref (b 0), .int o1, .int p1, .long x, .int gas]) (n := 13) (Nat.le_of_ble_eq_true rfl)
  rw [lg_entry_eq]
  generalize (lg_sl ([.ref (b 0), .int o1, .int p1, .long x, .int gas]) ++ List.replicate (13 - (lg_sl ([.ref (b 0), .int o1, .int p1, .long x, .int gas])).length) Slot.unset).toArray = ls at hl ⊢
  have hl : lv_has ls 13 [(0, .ref (b 0)), (1, .int o1), (2, .int p1), (3, .long x), (5, .int gas)] := hl
  refine lv_aload_n hx hb d_M_store_0 rfl (lv_at hl 0 rfl) ?_
  refine lv_iconst (v := 0) hx hb d_M_store_1 (by decide) ?_
  refine va_put (D := D) (ci := 2) (v := .int 0) (ty := .int) (C := RM) (T := TM) (N := 9) hx hb hts kin_M tM tyM nmM hown hK hP hD hS 0 rfl rfl 0 (by decide) (hts _ kf_M_34) (fun _ h9 => h9) rfl (by decide +kernel) rfl rfl (Nat.le_of_ble_eq_true rfl) d_M_store_2 (fun H locs hP hD hS => ?_)
  have hP : va_P D wCl (WM k b 0 r d N F (zb t) KR K (fun i => zb (T i))) H := hP
  have hD : va_D A (WM k b 0 r d N F (zb t) KR K (fun i => zb (T i))) := hD
  refine lv_aload_n hx hb d_M_store_5 rfl (lv_at hl 0 rfl) ?_
  refine lv_iload_n hx hb d_M_store_6 rfl (lv_at hl 1 rfl) ?_
  refine lv_iload_n hx hb d_M_store_7 rfl (lv_at hl 2 rfl) ?_
  refine vp_callSi (va_runV (As := [.int o1, .int p1]) (rest := []) (C := RM) ⟨hx, hb, hml, hown, hts⟩ (m_M_out l D k b 0 r d N F t KR K T o1 p1 _) (cwV 2 hts (TB_g kl_M_52 ki_M_out ks_M_out kz_M (TB_c kc_M_out)) rfl rfl rfl (by decide +kernel) ⟨Nat.le_of_ble_eq_true rfl, Nat.le_of_ble_eq_true rfl⟩) ⟨PW.bl, va_recv (q := (RM, TM, 9)) (ci := 2) (q0 := 0) hK hP rfl rfl, fun U hU hW => ⟨rfl, PW.go hK hP hD hS hA hE hU hW⟩⟩ rfl rfl hl.1 rfl (lv_room (Nat.le_of_ble_eq_true rfl)) d_M_store_8 ⟨Nat.zero_le _, Nat.zero_le _⟩).run (fun r1 hr1 => ?_)
  refine lv_if_eq (tgt := 20) hx hb d_M_store_11 (by decide) (fun c_11 => ?_) (fun c_11 => ?_)
  · rcases hr1 with ⟨hok, -⟩ | ⟨-, e1⟩
    rotate_left
    · exact absurd (e1.symm.trans c_11) (by decide)
    obtain ⟨u1, v1, hu, hv, rfl, rfl⟩ := hok
    have hc : u1 * 64 + v1 < 256 := by omega
    refine lv_bipush (v := 64) hx hb d_M_store_20 (by decide) ?_
    refine lv_iload_n hx hb d_M_store_22 rfl (lv_at hl 1 rfl) ?_
    refine lv_imul hx hb d_M_store_23 ?_
    refine lv_iload_n hx hb d_M_store_24 rfl (lv_at hl 2 rfl) ?_
    refine lv_iadd hx hb d_M_store_25 ?_
    rw [mi_c u1 v1]
    refine lv_istore (lv' := [(6, .int (nI (u1 * 64 + v1))), (0, .ref (b 0)), (1, .int (nI u1)), (2, .int (nI v1)), (3, .long x), (5, .int gas)]) hx hb d_M_store_26 hl (by decide) rfl (fun ls hl => ?_)
    refine lv_aload_n hx hb d_M_store_28 rfl (lv_at hl 1 rfl) ?_
    refine va_get (D := D) (ci := 2) (v := .ref (b 6)) (C := RM) (T := TM) (N := 9) hx hb hts kin_M hown hK hP 0 rfl rfl 6 (by decide) (hts _ kf_M_30) (fun _ h9 => h9) rfl d_M_store_29 ?_
    refine lv_iload hx hb d_M_store_32 (lv_at hl 0 rfl) ?_
    refine va_zald hx hb hK hP 6 5 rfl rfl (vp_in_nI hc (by decide)) d_M_store_34 ?_
    rw [nI_clamp (show u1 * 64 + v1 < 2 ^ 31 by omega)]
    generalize H = H9 at hP hD hS ⊢
    generalize locs = locs9 at hS ⊢
    generalize hRR : (headSpec (w_M_store :: TB) rM).room = RR
    generalize hQQ : MQ below (va_Qi (fun (y : Int32) (w : Int32 × Int32 × (Nat → Int64) × (Nat → Bool)) => (¬ okP (nI u1) (nI v1) ∧ w = (1, r, N, t)) ∨ (∃ u v : Nat, u < 4 ∧ v < 64 ∧ nI u1 = nI u ∧ nI v1 = nI v ∧ (((gas ≤ 2300 ∨ ¬ fWC (F (u * 64 + v)) (N (u * 64 + v)) x + (if t (u * 64 + v) then 0 else 2100) ≤ gas) ∧ w = (2, r, N, t)) ∨ (¬ gas ≤ 2300 ∧ fWC (F (u * 64 + v)) (N (u * 64 + v)) x + (if t (u * 64 + v) then 0 else 2100) ≤ gas ∧ y = fWC (F (u * 64 + v)) (N (u * 64 + v)) x + (if t (u * 64 + v) then 0 else 2100) ∧ w = (0, r + fRC (F (u * 64 + v)) (N (u * 64 + v)) x, vp_updL N (u * 64 + v) x, va_up t (u * 64 + v) true))))) (fun w t9 => va_P D wCl (WM k b w.1 w.2.1 d w.2.2.1 F (zb w.2.2.2) KR K (fun i => zb (T i))) t9.heap) A) [.ref (b 0), .int (nI u1), .int (nI v1), .long x, .int gas].toArray s 0 0 A = QQ
    have T201 : ∀ (g mo : Int32) (ls : Array Slot), g = fWC (F (u1 * 64 + v1)) (N (u1 * 64 + v1)) x + (if t (u1 * 64 + v1) then 0 else 2100) → mo = fRC (F (u1 * 64 + v1)) (N (u1 * 64 + v1)) x → lv_has ls 13 [(7, .int g), (8, .int mo), (9, .long (F (u1 * 64 + v1))), (11, .long (N (u1 * 64 + v1))), (6, .int (nI (u1 * 64 + v1))), (5, .int gas), (3, .long x), (0, .ref (b 0))] → W p l e RR s m [.ref (b 0), .int (nI u1), .int (nI v1), .long x, .int gas].toArray below meth c H9 locs9 0 0 QQ (F0 m 201 ls []) := by
      intro g mo ls hg hmo hl
      subst hRR hQQ
      refine lv_iload hx hb d_M_store_201 (lv_at hl 5 rfl) ?_
      refine lv_sipush (v := 2300) hx hb d_M_store_203 (by decide) ?_
      refine lv_icmp_le (tgt := 216) hx hb d_M_store_206 (by decide) (fun c_206 => ?_) (fun c_206 => ?_)
      · refine lv_aload_n hx hb d_M_store_216 rfl (lv_at hl 7 rfl) ?_
        refine lv_iconst (v := 2) hx hb d_M_store_217 (by decide) ?_
        refine va_calli (va_runV (As := [.int 2]) (rest := []) (C := RM) ⟨hx, hb, hml, hown, hts⟩ (m_M_fail l D k b 0 r d N F t KR K T 2 _) (cwV 1 hts (TB_g kl_M_48 ki_M_fail ks_M_fail kz_M (TB_c kc_M_fail)) rfl rfl rfl (by decide +kernel) ⟨Nat.le_of_ble_eq_true rfl, Nat.le_of_ble_eq_true rfl⟩) ⟨PW.bl, va_recv (q := (RM, TM, 9)) (ci := 2) (q0 := 0) hK hP rfl rfl, fun U hU hW => ⟨rfl, PW.go hK hP hD hS hA hE hU hW⟩⟩ rfl rfl hl.1 rfl (lv_room (Nat.le_of_ble_eq_true rfl)) d_M_store_218 ⟨Nat.zero_le _, Nat.zero_le _⟩) hS (fun q _ h => cut_F hD hS hA q h) (cut_F hD hS hA) (fun r9 uu t9 H1 locs1 ht hvm hpost hB hz hk hS => ?_)
        rw [ht] at hB
        have hP := hB
        have hD := hD.ad (wm_ad : (WM k b 2 r d N F (zb t) KR K (fun i => zb (T i))).map Prod.fst = _)
        generalize H1 = H at hP hS ⊢
        generalize locs1 = locs at hS ⊢
        subst hpost
        exact W.iret (v := 0) hx hb hr (fun t9 ht hW => ⟨⟨_, (2, r, N, t), rfl, Or.inr ⟨u1, v1, hu, hv, rfl, rfl, Or.inl ⟨Or.inl c_206, rfl⟩⟩, atP hP ht⟩, hS.F ht⟩) hS.2.2 d_M_store_221
      · refine lv_iload hx hb d_M_store_209 (lv_at hl 0 rfl) ?_
        refine lv_iload hx hb d_M_store_211 (lv_at hl 5 rfl) ?_
        refine lv_icmp_le (tgt := 222) hx hb d_M_store_213 (by decide) (fun c_213 => ?_) (fun c_213 => ?_)
        · refine lv_aload_n hx hb d_M_store_222 rfl (lv_at hl 7 rfl) ?_
          refine va_get (D := D) (ci := 2) (v := .ref (b 6)) (C := RM) (T := TM) (N := 9) hx hb hts kin_M hown hK hP 0 rfl rfl 6 (by decide) (hts _ kf_M_30) (fun _ h9 => h9) rfl d_M_store_223 ?_
          refine lv_iload hx hb d_M_store_226 (lv_at hl 4 rfl) ?_
          refine lv_iconst (v := 1) hx hb d_M_store_228 (by decide) ?_
          refine va_zast hx hb hK hP hD hS 6 5 rfl rfl (vp_in_nI hc (by decide)) d_M_store_229 (fun H locs hP hD hS => ?_)
          rw [nI_clamp (show u1 * 64 + v1 < 2 ^ 31 by omega), zb_up t (u1 * 64 + v1) true (x := 1) rfl] at hP hD
          have hP : va_P D wCl (WM k b 0 r d N F (zb (va_up t (u1 * 64 + v1) true)) KR K (fun i => zb (T i))) H := hP
          have hD : va_D A (WM k b 0 r d N F (zb (va_up t (u1 * 64 + v1) true)) KR K (fun i => zb (T i))) := hD
          refine lv_aload_n hx hb d_M_store_230 rfl (lv_at hl 7 rfl) ?_
          refine va_get (D := D) (ci := 2) (v := .ref (b 4)) (C := RM) (T := TM) (N := 9) hx hb hts kin_M hown hK hP 0 rfl rfl 4 (by decide) (hts _ kf_M_23) (fun _ h9 => h9) rfl d_M_store_231 ?_
          refine lv_iload hx hb d_M_store_234 (lv_at hl 4 rfl) ?_
          refine lv_lload_n hx hb d_M_store_236 rfl (lv_at hl 6 rfl) ?_
          refine va_last hx hb hK hP hD hS 4 0 rfl rfl (vp_in_nI hc (by decide)) d_M_store_237 (fun H locs hP hD hS => ?_)
          rw [nI_clamp (show u1 * 64 + v1 < 2 ^ 31 by omega)] at hP hD
          have hP : va_P D wCl (WM k b 0 r d (vp_updL N (u1 * 64 + v1) x) F (zb (va_up t (u1 * 64 + v1) true)) KR K (fun i => zb (T i))) H := hP
          have hD : va_D A (WM k b 0 r d (vp_updL N (u1 * 64 + v1) x) F (zb (va_up t (u1 * 64 + v1) true)) KR K (fun i => zb (T i))) := hD
          refine lv_aload_n hx hb d_M_store_238 rfl (lv_at hl 7 rfl) ?_
          refine lv_dup hx hb d_M_store_239 rfl ?_
          refine va_get (D := D) (ci := 2) (v := .int r) (C := RM) (T := TM) (N := 9) hx hb hts kin_M hown hK hP 0 rfl rfl 7 (by decide) (hts _ kf_M_38) (fun _ h9 => h9) rfl d_M_store_240 ?_
          refine lv_iload hx hb d_M_store_243 (lv_at hl 1 rfl) ?_
          refine lv_iadd hx hb d_M_store_245 ?_
          rw [hmo]
          refine va_put (D := D) (ci := 2) (v := .int (r + fRC (F (u1 * 64 + v1)) (N (u1 * 64 + v1)) x)) (ty := .int) (C := RM) (T := TM) (N := 9) hx hb hts kin_M tM tyM nmM hown hK hP hD hS 0 rfl rfl 7 (by decide) (hts _ kf_M_38) (fun _ h9 => h9) rfl (by decide +kernel) rfl rfl (Nat.le_of_ble_eq_true rfl) d_M_store_246 (fun H locs hP hD hS => ?_)
          have hP : va_P D wCl (WM k b 0 (r + fRC (F (u1 * 64 + v1)) (N (u1 * 64 + v1)) x) d (vp_updL N (u1 * 64 + v1) x) F (zb (va_up t (u1 * 64 + v1) true)) KR K (fun i => zb (T i))) H := hP
          have hD : va_D A (WM k b 0 (r + fRC (F (u1 * 64 + v1)) (N (u1 * 64 + v1)) x) d (vp_updL N (u1 * 64 + v1) x) F (zb (va_up t (u1 * 64 + v1) true)) KR K (fun i => zb (T i))) := hD
          refine lv_iload hx hb d_M_store_249 (lv_at hl 0 rfl) ?_
          exact W.iret (v := g) hx hb hr (fun t9 ht hW => ⟨⟨_, (0, r + fRC (F (u1 * 64 + v1)) (N (u1 * 64 + v1)) x, vp_updL N (u1 * 64 + v1) x, va_up t (u1 * 64 + v1) true), rfl, Or.inr ⟨u1, v1, hu, hv, rfl, rfl, Or.inr ⟨c_206, (by rw [← hg]; exact c_213), hg, rfl⟩⟩, atP hP ht⟩, hS.F ht⟩) hS.2.2 d_M_store_251
        · refine lv_aload_n hx hb d_M_store_216 rfl (lv_at hl 7 rfl) ?_
          refine lv_iconst (v := 2) hx hb d_M_store_217 (by decide) ?_
          refine va_calli (va_runV (As := [.int 2]) (rest := []) (C := RM) ⟨hx, hb, hml, hown, hts⟩ (m_M_fail l D k b 0 r d N F t KR K T 2 _) (cwV 1 hts (TB_g kl_M_48 ki_M_fail ks_M_fail kz_M (TB_c kc_M_fail)) rfl rfl rfl (by decide +kernel) ⟨Nat.le_of_ble_eq_true rfl, Nat.le_of_ble_eq_true rfl⟩) ⟨PW.bl, va_recv (q := (RM, TM, 9)) (ci := 2) (q0 := 0) hK hP rfl rfl, fun U hU hW => ⟨rfl, PW.go hK hP hD hS hA hE hU hW⟩⟩ rfl rfl hl.1 rfl (lv_room (Nat.le_of_ble_eq_true rfl)) d_M_store_218 ⟨Nat.zero_le _, Nat.zero_le _⟩) hS (fun q _ h => cut_F hD hS hA q h) (cut_F hD hS hA) (fun r9 uu t9 H1 locs1 ht hvm hpost hB hz hk hS => ?_)
          rw [ht] at hB
          have hP := hB
          have hD := hD.ad (wm_ad : (WM k b 2 r d N F (zb t) KR K (fun i => zb (T i))).map Prod.fst = _)
          generalize H1 = H at hP hS ⊢
          generalize locs1 = locs at hS ⊢
          subst hpost
          exact W.iret (v := 0) hx hb hr (fun t9 ht hW => ⟨⟨_, (2, r, N, t), rfl, Or.inr ⟨u1, v1, hu, hv, rfl, rfl, Or.inl ⟨Or.inr (fun q => c_213 (by rw [hg]; exact q)), rfl⟩⟩, atP hP ht⟩, hS.F ht⟩) hS.2.2 d_M_store_221
    have T45 : ∀ (g0 : Int32) (ls : Array Slot), g0 = (if t (u1 * 64 + v1) then 0 else 2100) → lv_has ls 13 [(6, .int (nI (u1 * 64 + v1))), (0, .ref (b 0)), (1, .int (nI u1)), (2, .int (nI v1)), (3, .long x), (5, .int gas)] → W p l e RR s m [.ref (b 0), .int (nI u1), .int (nI v1), .long x, .int gas].toArray below meth c H9 locs9 0 0 QQ (F0 m 45 ls [.int g0]) := by
      intro g0 ls hg0 hl
      refine lv_istore (lv' := [(7, .int g0), (6, .int (nI (u1 * 64 + v1))), (0, .ref (b 0)), (1, .int (nI u1)), (2, .int (nI v1)), (3, .long x), (5, .int gas)]) hx hb d_M_store_45 hl (by decide) rfl (fun ls hl => ?_)
      refine lv_iconst (v := 0) hx hb d_M_store_47 (by decide) ?_
      refine lv_istore (lv' := [(8, .int 0), (7, .int g0), (6, .int (nI (u1 * 64 + v1))), (0, .ref (b 0)), (1, .int (nI u1)), (2, .int (nI v1)), (3, .long x), (5, .int gas)]) hx hb d_M_store_48 hl (by decide) rfl (fun ls hl => ?_)
      refine lv_aload_n hx hb d_M_store_50 rfl (lv_at hl 3 rfl) ?_
      refine va_get (D := D) (ci := 2) (v := .ref (b 5)) (C := RM) (T := TM) (N := 9) hx hb hts kin_M hown hK hP 0 rfl rfl 5 (by decide) (hts _ kf_M_27) (fun _ h9 => h9) rfl d_M_store_51 ?_
      refine lv_iload hx hb d_M_store_54 (lv_at hl 2 rfl) ?_
      refine va_lald hx hb hK hP 5 0 rfl rfl (vp_in_nI hc (by decide)) d_M_store_56 ?_
      rw [nI_clamp (show u1 * 64 + v1 < 2 ^ 31 by omega)]
      refine lv_lstore (lv' := [(9, .long (F (u1 * 64 + v1))), (8, .int 0), (7, .int g0), (6, .int (nI (u1 * 64 + v1))), (0, .ref (b 0)), (1, .int (nI u1)), (2, .int (nI v1)), (3, .long x), (5, .int gas)]) hx hb d_M_store_57 hl (by decide) rfl (fun ls hl => ?_)
      refine lv_aload_n hx hb d_M_store_59 rfl (lv_at hl 4 rfl) ?_
      refine va_get (D := D) (ci := 2) (v := .ref (b 4)) (C := RM) (T := TM) (N := 9) hx hb hts kin_M hown hK hP 0 rfl rfl 4 (by decide) (hts _ kf_M_23) (fun _ h9 => h9) rfl d_M_store_60 ?_
      refine lv_iload hx hb d_M_store_63 (lv_at hl 3 rfl) ?_
      refine va_lald hx hb hK hP 4 0 rfl rfl (vp_in_nI hc (by decide)) d_M_store_65 ?_
      rw [nI_clamp (show u1 * 64 + v1 < 2 ^ 31 by omega)]
      refine lv_lstore (lv' := [(11, .long (N (u1 * 64 + v1))), (9, .long (F (u1 * 64 + v1))), (8, .int 0), (7, .int g0), (6, .int (nI (u1 * 64 + v1))), (0, .ref (b 0)), (1, .int (nI u1)), (2, .int (nI v1)), (3, .long x), (5, .int gas)]) hx hb d_M_store_66 hl (by decide) rfl (fun ls hl => ?_)
      refine lv_lload_n hx hb d_M_store_68 rfl (lv_at hl 8 rfl) ?_
      refine lv_lload hx hb d_M_store_69 (lv_at hl 0 rfl) ?_
      refine W.lcmp hx hb d_M_store_71 ?_
      refine lv_if_ne (tgt := 81) hx hb d_M_store_72 (by decide) (fun c_72 => ?_) (fun c_72 => ?_)
      · have c_72 : ¬ x = N (u1 * 64 + v1) := fun q => c_72 ((lg_cmp_eq _ _).mpr q)
        refine lv_lload hx hb d_M_store_81 (lv_at hl 1 rfl) ?_
        refine lv_lload hx hb d_M_store_83 (lv_at hl 0 rfl) ?_
        refine W.lcmp hx hb d_M_store_85 ?_
        refine lv_if_ne (tgt := 131) hx hb d_M_store_86 (by decide) (fun c_86 => ?_) (fun c_86 => ?_)
        · have c_86 : ¬ F (u1 * 64 + v1) = N (u1 * 64 + v1) := fun q => c_86 ((lg_cmp_eq _ _).mpr q)
          refine lv_iinc (v := (g0) + 100) (lv' := [(7, .int ((g0) + 100)), (11, .long (N (u1 * 64 + v1))), (9, .long (F (u1 * 64 + v1))), (8, .int 0), (6, .int (nI (u1 * 64 + v1))), (0, .ref (b 0)), (1, .int (nI u1)), (2, .int (nI v1)), (3, .long x), (5, .int gas)]) hx hb d_M_store_131 hl (k := 3) rfl rfl (by decide) rfl (fun ls hl => ?_)
          refine lv_lload hx hb d_M_store_134 (lv_at hl 2 rfl) ?_
          refine lv_lconst (v := 0) hx hb d_M_store_136 (by decide) ?_
          refine W.lcmp hx hb d_M_store_137 ?_
          refine lv_if_eq (tgt := 154) hx hb d_M_store_138 (by decide) (fun c_138 => ?_) (fun c_138 => ?_)
          · have c_138 : F (u1 * 64 + v1) = 0 := (lg_cmp_eq _ _).mp c_138
            refine lv_lload hx hb d_M_store_154 (lv_at hl 2 rfl) ?_
            refine lv_lconst (v := 0) hx hb d_M_store_156 (by decide) ?_
            refine W.lcmp hx hb d_M_store_157 ?_
            refine lv_if_eq (tgt := 173) hx hb d_M_store_158 (by decide) (fun c_158 => ?_) (fun c_158 => ?_)
            · have c_158 : F (u1 * 64 + v1) = 0 := (lg_cmp_eq _ _).mp c_158
              refine lv_lload hx hb d_M_store_173 (lv_at hl 2 rfl) ?_
              refine lv_lload_n hx hb d_M_store_175 rfl (lv_at hl 8 rfl) ?_
              refine W.lcmp hx hb d_M_store_176 ?_
              refine lv_if_ne (tgt := 201) hx hb d_M_store_177 (by decide) (fun c_177 => ?_) (fun c_177 => ?_)
              · have c_177 : ¬ F (u1 * 64 + v1) = x := fun q => c_177 ((lg_cmp_eq _ _).mpr q)
                refine T201 ((g0) + 100) (0) ls ?_ ?_ (lv_sub hl [0, 3, 2, 1, 4, 9, 8, 5] rfl)
                · rw [← hg0]; unfold fWC; (repeat' split) <;> first | contradiction | exact Int32.add_comm _ _
                · unfold fRC fCC fRS; (repeat' split) <;> first | contradiction | rfl | exact absurd (Eq.trans ‹x = 0› (Eq.trans (Eq.symm ‹F (u1 * 64 + v1) = 0›) ‹F (u1 * 64 + v1) = N (u1 * 64 + v1)›)) c_72
              · have c_177 : F (u1 * 64 + v1) = x := (lg_cmp_eq _ _).mp c_177
                refine lv_iload hx hb d_M_store_180 (lv_at hl 3 rfl) ?_
                refine lv_lload hx hb d_M_store_182 (lv_at hl 2 rfl) ?_
                refine lv_lconst (v := 0) hx hb d_M_store_184 (by decide) ?_
                refine W.lcmp hx hb d_M_store_185 ?_
                refine lv_if_ne (tgt := 195) hx hb d_M_store_186 (by decide) (fun c_186 => ?_) (fun c_186 => ?_)
                · have c_186 : ¬ F (u1 * 64 + v1) = 0 := fun q => c_186 ((lg_cmp_eq _ _).mpr q)
                  exact absurd c_138 c_186
                · have c_186 : F (u1 * 64 + v1) = 0 := (lg_cmp_eq _ _).mp c_186
                  refine lv_sipush (v := 19900) hx hb d_M_store_189 (by decide) ?_
                  refine lv_goto (tgt := 198) hx hb d_M_store_192 (by decide) ?_
                  refine lv_iadd hx hb d_M_store_198 ?_
                  refine lv_istore (lv' := [(8, .int ((0) + (19900))), (7, .int ((g0) + 100)), (11, .long (N (u1 * 64 + v1))), (9, .long (F (u1 * 64 + v1))), (6, .int (nI (u1 * 64 + v1))), (0, .ref (b 0)), (1, .int (nI u1)), (2, .int (nI v1)), (3, .long x), (5, .int gas)]) hx hb d_M_store_199 hl (by decide) rfl (fun ls hl => ?_)
                  refine T201 ((g0) + 100) ((0) + (19900)) ls ?_ ?_ (lv_sub hl [1, 0, 3, 2, 4, 9, 8, 5] rfl)
                  · rw [← hg0]; unfold fWC; (repeat' split) <;> first | contradiction | exact Int32.add_comm _ _
                  · unfold fRC fCC fRS; (repeat' split) <;> first | contradiction | rfl | exact absurd (Eq.trans ‹x = 0› (Eq.trans (Eq.symm ‹F (u1 * 64 + v1) = 0›) ‹F (u1 * 64 + v1) = N (u1 * 64 + v1)›)) c_72
            · have c_158 : ¬ F (u1 * 64 + v1) = 0 := fun q => c_158 ((lg_cmp_eq _ _).mpr q)
              exact absurd c_138 c_158
          · have c_138 : ¬ F (u1 * 64 + v1) = 0 := fun q => c_138 ((lg_cmp_eq _ _).mpr q)
            refine lv_lload hx hb d_M_store_141 (lv_at hl 1 rfl) ?_
            refine lv_lconst (v := 0) hx hb d_M_store_143 (by decide) ?_
            refine W.lcmp hx hb d_M_store_144 ?_
            refine lv_if_ne (tgt := 154) hx hb d_M_store_145 (by decide) (fun c_145 => ?_) (fun c_145 => ?_)
            · have c_145 : ¬ N (u1 * 64 + v1) = 0 := fun q => c_145 ((lg_cmp_eq _ _).mpr q)
              refine lv_lload hx hb d_M_store_154 (lv_at hl 2 rfl) ?_
              refine lv_lconst (v := 0) hx hb d_M_store_156 (by decide) ?_
              refine W.lcmp hx hb d_M_store_157 ?_
              refine lv_if_eq (tgt := 173) hx hb d_M_store_158 (by decide) (fun c_158 => ?_) (fun c_158 => ?_)
              · have c_158 : F (u1 * 64 + v1) = 0 := (lg_cmp_eq _ _).mp c_158
                exact absurd c_158 c_138
              · have c_158 : ¬ F (u1 * 64 + v1) = 0 := fun q => c_158 ((lg_cmp_eq _ _).mpr q)
                refine lv_lload_n hx hb d_M_store_161 rfl (lv_at hl 8 rfl) ?_
                refine lv_lconst (v := 0) hx hb d_M_store_162 (by decide) ?_
                refine W.lcmp hx hb d_M_store_163 ?_
                refine lv_if_ne (tgt := 173) hx hb d_M_store_164 (by decide) (fun c_164 => ?_) (fun c_164 => ?_)
                · have c_164 : ¬ x = 0 := fun q => c_164 ((lg_cmp_eq _ _).mpr q)
                  refine lv_lload hx hb d_M_store_173 (lv_at hl 2 rfl) ?_
                  refine lv_lload_n hx hb d_M_store_175 rfl (lv_at hl 8 rfl) ?_
                  refine W.lcmp hx hb d_M_store_176 ?_
                  refine lv_if_ne (tgt := 201) hx hb d_M_store_177 (by decide) (fun c_177 => ?_) (fun c_177 => ?_)
                  · have c_177 : ¬ F (u1 * 64 + v1) = x := fun q => c_177 ((lg_cmp_eq _ _).mpr q)
                    refine T201 ((g0) + 100) (0) ls ?_ ?_ (lv_sub hl [0, 3, 2, 1, 4, 9, 8, 5] rfl)
                    · rw [← hg0]; unfold fWC; (repeat' split) <;> first | contradiction | exact Int32.add_comm _ _
                    · unfold fRC fCC fRS; (repeat' split) <;> first | contradiction | rfl | exact absurd (Eq.trans ‹x = 0› (Eq.trans (Eq.symm ‹F (u1 * 64 + v1) = 0›) ‹F (u1 * 64 + v1) = N (u1 * 64 + v1)›)) c_72
                  · have c_177 : F (u1 * 64 + v1) = x := (lg_cmp_eq _ _).mp c_177
                    refine lv_iload hx hb d_M_store_180 (lv_at hl 3 rfl) ?_
                    refine lv_lload hx hb d_M_store_182 (lv_at hl 2 rfl) ?_
                    refine lv_lconst (v := 0) hx hb d_M_store_184 (by decide) ?_
                    refine W.lcmp hx hb d_M_store_185 ?_
                    refine lv_if_ne (tgt := 195) hx hb d_M_store_186 (by decide) (fun c_186 => ?_) (fun c_186 => ?_)
                    · have c_186 : ¬ F (u1 * 64 + v1) = 0 := fun q => c_186 ((lg_cmp_eq _ _).mpr q)
                      refine lv_sipush (v := 2800) hx hb d_M_store_195 (by decide) ?_
                      refine lv_iadd hx hb d_M_store_198 ?_
                      refine lv_istore (lv' := [(8, .int ((0) + (2800))), (7, .int ((g0) + 100)), (11, .long (N (u1 * 64 + v1))), (9, .long (F (u1 * 64 + v1))), (6, .int (nI (u1 * 64 + v1))), (0, .ref (b 0)), (1, .int (nI u1)), (2, .int (nI v1)), (3, .long x), (5, .int gas)]) hx hb d_M_store_199 hl (by decide) rfl (fun ls hl => ?_)
                      refine T201 ((g0) + 100) ((0) + (2800)) ls ?_ ?_ (lv_sub hl [1, 0, 3, 2, 4, 9, 8, 5] rfl)
                      · rw [← hg0]; unfold fWC; (repeat' split) <;> first | contradiction | exact Int32.add_comm _ _
                      · unfold fRC fCC fRS; (repeat' split) <;> first | contradiction | rfl | exact absurd (Eq.trans ‹x = 0› (Eq.trans (Eq.symm ‹F (u1 * 64 + v1) = 0›) ‹F (u1 * 64 + v1) = N (u1 * 64 + v1)›)) c_72
                    · have c_186 : F (u1 * 64 + v1) = 0 := (lg_cmp_eq _ _).mp c_186
                      exact absurd c_186 c_138
                · have c_164 : x = 0 := (lg_cmp_eq _ _).mp c_164
                  refine lv_iincW (v := (0) + 15000) (lv' := [(8, .int ((0) + 15000)), (7, .int ((g0) + 100)), (11, .long (N (u1 * 64 + v1))), (9, .long (F (u1 * 64 + v1))), (6, .int (nI (u1 * 64 + v1))), (0, .ref (b 0)), (1, .int (nI u1)), (2, .int (nI v1)), (3, .long x), (5, .int gas)]) hx hb d_M_store_167 hl (k := 3) rfl rfl (by decide) rfl (fun ls hl => ?_)
                  refine lv_lload hx hb d_M_store_173 (lv_at hl 3 rfl) ?_
                  refine lv_lload_n hx hb d_M_store_175 rfl (lv_at hl 8 rfl) ?_
                  refine W.lcmp hx hb d_M_store_176 ?_
                  refine lv_if_ne (tgt := 201) hx hb d_M_store_177 (by decide) (fun c_177 => ?_) (fun c_177 => ?_)
                  · have c_177 : ¬ F (u1 * 64 + v1) = x := fun q => c_177 ((lg_cmp_eq _ _).mpr q)
                    refine T201 ((g0) + 100) ((0) + 15000) ls ?_ ?_ (lv_sub hl [1, 0, 3, 2, 4, 9, 8, 5] rfl)
                    · rw [← hg0]; unfold fWC; (repeat' split) <;> first | contradiction | exact Int32.add_comm _ _
                    · unfold fRC fCC fRS; (repeat' split) <;> first | contradiction | rfl | exact absurd (Eq.trans ‹x = 0› (Eq.trans (Eq.symm ‹F (u1 * 64 + v1) = 0›) ‹F (u1 * 64 + v1) = N (u1 * 64 + v1)›)) c_72
                  · have c_177 : F (u1 * 64 + v1) = x := (lg_cmp_eq _ _).mp c_177
                    refine lv_iload hx hb d_M_store_180 (lv_at hl 0 rfl) ?_
                    refine lv_lload hx hb d_M_store_182 (lv_at hl 3 rfl) ?_
                    refine lv_lconst (v := 0) hx hb d_M_store_184 (by decide) ?_
                    refine W.lcmp hx hb d_M_store_185 ?_
                    refine lv_if_ne (tgt := 195) hx hb d_M_store_186 (by decide) (fun c_186 => ?_) (fun c_186 => ?_)
                    · have c_186 : ¬ F (u1 * 64 + v1) = 0 := fun q => c_186 ((lg_cmp_eq _ _).mpr q)
                      refine lv_sipush (v := 2800) hx hb d_M_store_195 (by decide) ?_
                      refine lv_iadd hx hb d_M_store_198 ?_
                      refine lv_istore (lv' := [(8, .int (((0) + 15000) + (2800))), (7, .int ((g0) + 100)), (11, .long (N (u1 * 64 + v1))), (9, .long (F (u1 * 64 + v1))), (6, .int (nI (u1 * 64 + v1))), (0, .ref (b 0)), (1, .int (nI u1)), (2, .int (nI v1)), (3, .long x), (5, .int gas)]) hx hb d_M_store_199 hl (by decide) rfl (fun ls hl => ?_)
                      refine T201 ((g0) + 100) (((0) + 15000) + (2800)) ls ?_ ?_ (lv_sub hl [1, 0, 3, 2, 4, 9, 8, 5] rfl)
                      · rw [← hg0]; unfold fWC; (repeat' split) <;> first | contradiction | exact Int32.add_comm _ _
                      · unfold fRC fCC fRS; (repeat' split) <;> first | contradiction | rfl | exact absurd (Eq.trans ‹x = 0› (Eq.trans (Eq.symm ‹F (u1 * 64 + v1) = 0›) ‹F (u1 * 64 + v1) = N (u1 * 64 + v1)›)) c_72
                    · have c_186 : F (u1 * 64 + v1) = 0 := (lg_cmp_eq _ _).mp c_186
                      exact absurd c_186 c_138
            · have c_145 : N (u1 * 64 + v1) = 0 := (lg_cmp_eq _ _).mp c_145
              refine lv_iincW (v := (0) + (-15000)) (lv' := [(8, .int ((0) + (-15000))), (7, .int ((g0) + 100)), (11, .long (N (u1 * 64 + v1))), (9, .long (F (u1 * 64 + v1))), (6, .int (nI (u1 * 64 + v1))), (0, .ref (b 0)), (1, .int (nI u1)), (2, .int (nI v1)), (3, .long x), (5, .int gas)]) hx hb d_M_store_148 hl (k := 3) rfl rfl (by decide) rfl (fun ls hl => ?_)
              refine lv_lload hx hb d_M_store_154 (lv_at hl 3 rfl) ?_
              refine lv_lconst (v := 0) hx hb d_M_store_156 (by decide) ?_
              refine W.lcmp hx hb d_M_store_157 ?_
              refine lv_if_eq (tgt := 173) hx hb d_M_store_158 (by decide) (fun c_158 => ?_) (fun c_158 => ?_)
              · have c_158 : F (u1 * 64 + v1) = 0 := (lg_cmp_eq _ _).mp c_158
                exact absurd c_158 c_138
              · have c_158 : ¬ F (u1 * 64 + v1) = 0 := fun q => c_158 ((lg_cmp_eq _ _).mpr q)
                refine lv_lload_n hx hb d_M_store_161 rfl (lv_at hl 8 rfl) ?_
                refine lv_lconst (v := 0) hx hb d_M_store_162 (by decide) ?_
                refine W.lcmp hx hb d_M_store_163 ?_
                refine lv_if_ne (tgt := 173) hx hb d_M_store_164 (by decide) (fun c_164 => ?_) (fun c_164 => ?_)
                · have c_164 : ¬ x = 0 := fun q => c_164 ((lg_cmp_eq _ _).mpr q)
                  refine lv_lload hx hb d_M_store_173 (lv_at hl 3 rfl) ?_
                  refine lv_lload_n hx hb d_M_store_175 rfl (lv_at hl 8 rfl) ?_
                  refine W.lcmp hx hb d_M_store_176 ?_
                  refine lv_if_ne (tgt := 201) hx hb d_M_store_177 (by decide) (fun c_177 => ?_) (fun c_177 => ?_)
                  · have c_177 : ¬ F (u1 * 64 + v1) = x := fun q => c_177 ((lg_cmp_eq _ _).mpr q)
                    refine T201 ((g0) + 100) ((0) + (-15000)) ls ?_ ?_ (lv_sub hl [1, 0, 3, 2, 4, 9, 8, 5] rfl)
                    · rw [← hg0]; unfold fWC; (repeat' split) <;> first | contradiction | exact Int32.add_comm _ _
                    · unfold fRC fCC fRS; (repeat' split) <;> first | contradiction | rfl | exact absurd (Eq.trans ‹x = 0› (Eq.trans (Eq.symm ‹F (u1 * 64 + v1) = 0›) ‹F (u1 * 64 + v1) = N (u1 * 64 + v1)›)) c_72
                  · have c_177 : F (u1 * 64 + v1) = x := (lg_cmp_eq _ _).mp c_177
                    refine lv_iload hx hb d_M_store_180 (lv_at hl 0 rfl) ?_
                    refine lv_lload hx hb d_M_store_182 (lv_at hl 3 rfl) ?_
                    refine lv_lconst (v := 0) hx hb d_M_store_184 (by decide) ?_
                    refine W.lcmp hx hb d_M_store_185 ?_
                    refine lv_if_ne (tgt := 195) hx hb d_M_store_186 (by decide) (fun c_186 => ?_) (fun c_186 => ?_)
                    · have c_186 : ¬ F (u1 * 64 + v1) = 0 := fun q => c_186 ((lg_cmp_eq _ _).mpr q)
                      refine lv_sipush (v := 2800) hx hb d_M_store_195 (by decide) ?_
                      refine lv_iadd hx hb d_M_store_198 ?_
                      refine lv_istore (lv' := [(8, .int (((0) + (-15000)) + (2800))), (7, .int ((g0) + 100)), (11, .long (N (u1 * 64 + v1))), (9, .long (F (u1 * 64 + v1))), (6, .int (nI (u1 * 64 + v1))), (0, .ref (b 0)), (1, .int (nI u1)), (2, .int (nI v1)), (3, .long x), (5, .int gas)]) hx hb d_M_store_199 hl (by decide) rfl (fun ls hl => ?_)
                      refine T201 ((g0) + 100) (((0) + (-15000)) + (2800)) ls ?_ ?_ (lv_sub hl [1, 0, 3, 2, 4, 9, 8, 5] rfl)
                      · rw [← hg0]; unfold fWC; (repeat' split) <;> first | contradiction | exact Int32.add_comm _ _
                      · unfold fRC fCC fRS; (repeat' split) <;> first | contradiction | rfl | exact absurd (Eq.trans ‹x = 0› (Eq.trans (Eq.symm ‹F (u1 * 64 + v1) = 0›) ‹F (u1 * 64 + v1) = N (u1 * 64 + v1)›)) c_72
                    · have c_186 : F (u1 * 64 + v1) = 0 := (lg_cmp_eq _ _).mp c_186
                      exact absurd c_186 c_138
                · have c_164 : x = 0 := (lg_cmp_eq _ _).mp c_164
                  refine lv_iincW (v := ((0) + (-15000)) + 15000) (lv' := [(8, .int (((0) + (-15000)) + 15000)), (7, .int ((g0) + 100)), (11, .long (N (u1 * 64 + v1))), (9, .long (F (u1 * 64 + v1))), (6, .int (nI (u1 * 64 + v1))), (0, .ref (b 0)), (1, .int (nI u1)), (2, .int (nI v1)), (3, .long x), (5, .int gas)]) hx hb d_M_store_167 hl (k := 0) rfl rfl (by decide) rfl (fun ls hl => ?_)
                  refine lv_lload hx hb d_M_store_173 (lv_at hl 3 rfl) ?_
                  refine lv_lload_n hx hb d_M_store_175 rfl (lv_at hl 8 rfl) ?_
                  refine W.lcmp hx hb d_M_store_176 ?_
                  refine lv_if_ne (tgt := 201) hx hb d_M_store_177 (by decide) (fun c_177 => ?_) (fun c_177 => ?_)
                  · have c_177 : ¬ F (u1 * 64 + v1) = x := fun q => c_177 ((lg_cmp_eq _ _).mpr q)
                    exact absurd (c_164.trans c_145.symm) c_72
                  · have c_177 : F (u1 * 64 + v1) = x := (lg_cmp_eq _ _).mp c_177
                    refine lv_iload hx hb d_M_store_180 (lv_at hl 0 rfl) ?_
                    refine lv_lload hx hb d_M_store_182 (lv_at hl 3 rfl) ?_
                    refine lv_lconst (v := 0) hx hb d_M_store_184 (by decide) ?_
                    refine W.lcmp hx hb d_M_store_185 ?_
                    refine lv_if_ne (tgt := 195) hx hb d_M_store_186 (by decide) (fun c_186 => ?_) (fun c_186 => ?_)
                    · have c_186 : ¬ F (u1 * 64 + v1) = 0 := fun q => c_186 ((lg_cmp_eq _ _).mpr q)
                      refine lv_sipush (v := 2800) hx hb d_M_store_195 (by decide) ?_
                      refine lv_iadd hx hb d_M_store_198 ?_
                      refine lv_istore (lv' := [(8, .int ((((0) + (-15000)) + 15000) + (2800))), (7, .int ((g0) + 100)), (11, .long (N (u1 * 64 + v1))), (9, .long (F (u1 * 64 + v1))), (6, .int (nI (u1 * 64 + v1))), (0, .ref (b 0)), (1, .int (nI u1)), (2, .int (nI v1)), (3, .long x), (5, .int gas)]) hx hb d_M_store_199 hl (by decide) rfl (fun ls hl => ?_)
                      exact absurd (c_164.trans c_145.symm) c_72
                    · have c_186 : F (u1 * 64 + v1) = 0 := (lg_cmp_eq _ _).mp c_186
                      exact absurd c_186 c_138
        · have c_86 : F (u1 * 64 + v1) = N (u1 * 64 + v1) := (lg_cmp_eq _ _).mp c_86
          refine lv_iload hx hb d_M_store_89 (lv_at hl 3 rfl) ?_
          refine lv_lload hx hb d_M_store_91 (lv_at hl 1 rfl) ?_
          refine lv_lconst (v := 0) hx hb d_M_store_93 (by decide) ?_
          refine W.lcmp hx hb d_M_store_94 ?_
          refine lv_if_ne (tgt := 104) hx hb d_M_store_95 (by decide) (fun c_95 => ?_) (fun c_95 => ?_)
          · have c_95 : ¬ F (u1 * 64 + v1) = 0 := fun q => c_95 ((lg_cmp_eq _ _).mpr q)
            refine lv_sipush (v := 2900) hx hb d_M_store_104 (by decide) ?_
            refine lv_iadd hx hb d_M_store_107 ?_
            refine lv_istore (lv' := [(7, .int ((g0) + (2900))), (11, .long (N (u1 * 64 + v1))), (9, .long (F (u1 * 64 + v1))), (8, .int 0), (6, .int (nI (u1 * 64 + v1))), (0, .ref (b 0)), (1, .int (nI u1)), (2, .int (nI v1)), (3, .long x), (5, .int gas)]) hx hb d_M_store_108 hl (by decide) rfl (fun ls hl => ?_)
            refine lv_lload hx hb d_M_store_110 (lv_at hl 2 rfl) ?_
            refine lv_lconst (v := 0) hx hb d_M_store_112 (by decide) ?_
            refine W.lcmp hx hb d_M_store_113 ?_
            refine lv_if_eq (tgt := 201) hx hb d_M_store_114 (by decide) (fun c_114 => ?_) (fun c_114 => ?_)
            · have c_114 : F (u1 * 64 + v1) = 0 := (lg_cmp_eq _ _).mp c_114
              exact absurd c_114 c_95
            · have c_114 : ¬ F (u1 * 64 + v1) = 0 := fun q => c_114 ((lg_cmp_eq _ _).mpr q)
              refine lv_lload_n hx hb d_M_store_117 rfl (lv_at hl 8 rfl) ?_
              refine lv_lconst (v := 0) hx hb d_M_store_118 (by decide) ?_
              refine W.lcmp hx hb d_M_store_119 ?_
              refine lv_if_ne (tgt := 201) hx hb d_M_store_120 (by decide) (fun c_120 => ?_) (fun c_120 => ?_)
              · have c_120 : ¬ x = 0 := fun q => c_120 ((lg_cmp_eq _ _).mpr q)
                refine T201 ((g0) + (2900)) (0) ls ?_ ?_ (lv_sub hl [0, 3, 2, 1, 4, 9, 8, 5] rfl)
                · rw [← hg0]; unfold fWC; (repeat' split) <;> first | contradiction | exact Int32.add_comm _ _
                · unfold fRC fCC fRS; (repeat' split) <;> first | contradiction | rfl | exact absurd (Eq.trans ‹x = 0› (Eq.trans (Eq.symm ‹F (u1 * 64 + v1) = 0›) ‹F (u1 * 64 + v1) = N (u1 * 64 + v1)›)) c_72
              · have c_120 : x = 0 := (lg_cmp_eq _ _).mp c_120
                refine lv_sipush (v := 15000) hx hb d_M_store_123 (by decide) ?_
                refine lv_istore (lv' := [(8, .int 15000), (7, .int ((g0) + (2900))), (11, .long (N (u1 * 64 + v1))), (9, .long (F (u1 * 64 + v1))), (6, .int (nI (u1 * 64 + v1))), (0, .ref (b 0)), (1, .int (nI u1)), (2, .int (nI v1)), (3, .long x), (5, .int gas)]) hx hb d_M_store_126 hl (by decide) rfl (fun ls hl => ?_)
                refine lv_goto (tgt := 201) hx hb d_M_store_128 (by decide) ?_
                refine T201 ((g0) + (2900)) (15000) ls ?_ ?_ (lv_sub hl [1, 0, 3, 2, 4, 9, 8, 5] rfl)
                · rw [← hg0]; unfold fWC; (repeat' split) <;> first | contradiction | exact Int32.add_comm _ _
                · unfold fRC fCC fRS; (repeat' split) <;> first | contradiction | rfl | exact absurd (Eq.trans ‹x = 0› (Eq.trans (Eq.symm ‹F (u1 * 64 + v1) = 0›) ‹F (u1 * 64 + v1) = N (u1 * 64 + v1)›)) c_72
          · have c_95 : F (u1 * 64 + v1) = 0 := (lg_cmp_eq _ _).mp c_95
            refine lv_sipush (v := 20000) hx hb d_M_store_98 (by decide) ?_
            refine lv_goto (tgt := 107) hx hb d_M_store_101 (by decide) ?_
            refine lv_iadd hx hb d_M_store_107 ?_
            refine lv_istore (lv' := [(7, .int ((g0) + (20000))), (11, .long (N (u1 * 64 + v1))), (9, .long (F (u1 * 64 + v1))), (8, .int 0), (6, .int (nI (u1 * 64 + v1))), (0, .ref (b 0)), (1, .int (nI u1)), (2, .int (nI v1)), (3, .long x), (5, .int gas)]) hx hb d_M_store_108 hl (by decide) rfl (fun ls hl => ?_)
            refine lv_lload hx hb d_M_store_110 (lv_at hl 2 rfl) ?_
            refine lv_lconst (v := 0) hx hb d_M_store_112 (by decide) ?_
            refine W.lcmp hx hb d_M_store_113 ?_
            refine lv_if_eq (tgt := 201) hx hb d_M_store_114 (by decide) (fun c_114 => ?_) (fun c_114 => ?_)
            · have c_114 : F (u1 * 64 + v1) = 0 := (lg_cmp_eq _ _).mp c_114
              refine T201 ((g0) + (20000)) (0) ls ?_ ?_ (lv_sub hl [0, 3, 2, 1, 4, 9, 8, 5] rfl)
              · rw [← hg0]; unfold fWC; (repeat' split) <;> first | contradiction | exact Int32.add_comm _ _
              · unfold fRC fCC fRS; (repeat' split) <;> first | contradiction | rfl | exact absurd (Eq.trans ‹x = 0› (Eq.trans (Eq.symm ‹F (u1 * 64 + v1) = 0›) ‹F (u1 * 64 + v1) = N (u1 * 64 + v1)›)) c_72
            · have c_114 : ¬ F (u1 * 64 + v1) = 0 := fun q => c_114 ((lg_cmp_eq _ _).mpr q)
              exact absurd c_95 c_114
      · have c_72 : x = N (u1 * 64 + v1) := (lg_cmp_eq _ _).mp c_72
        refine lv_iinc (v := (g0) + 100) (lv' := [(7, .int ((g0) + 100)), (11, .long (N (u1 * 64 + v1))), (9, .long (F (u1 * 64 + v1))), (8, .int 0), (6, .int (nI (u1 * 64 + v1))), (0, .ref (b 0)), (1, .int (nI u1)), (2, .int (nI v1)), (3, .long x), (5, .int gas)]) hx hb d_M_store_75 hl (k := 3) rfl rfl (by decide) rfl (fun ls hl => ?_)
        refine lv_goto (tgt := 201) hx hb d_M_store_78 (by decide) ?_
        refine T201 ((g0) + 100) (0) ls ?_ ?_ (lv_sub hl [0, 3, 2, 1, 4, 9, 8, 5] rfl)
        · rw [← hg0]; unfold fWC; (repeat' split) <;> first | contradiction | exact Int32.add_comm _ _
        · unfold fRC fCC fRS; (repeat' split) <;> first | contradiction | rfl | exact absurd (Eq.trans ‹x = 0› (Eq.trans (Eq.symm ‹F (u1 * 64 + v1) = 0›) ‹F (u1 * 64 + v1) = N (u1 * 64 + v1)›)) c_72
    refine lv_if_eq (tgt := 42) hx hb d_M_store_35 (by decide) (fun c_35 => ?_) (fun c_35 => ?_)
    · refine lv_sipush (v := 2100) hx hb d_M_store_42 (by decide) ?_
      refine T45 2100 ls ?_ (lv_sub hl [0, 1, 2, 3, 4, 5] rfl)
      rw [zb_c] at c_35
      cases hq : t (u1 * 64 + v1) <;> rw [hq] at c_35 <;> first | rfl | exact absurd rfl c_35 | exact absurd c_35 (by decide)
    · refine lv_iconst (v := 0) hx hb d_M_store_38 (by decide) ?_
      refine lv_goto (tgt := 45) hx hb d_M_store_39 (by decide) ?_
      refine T45 0 ls ?_ (lv_sub hl [0, 1, 2, 3, 4, 5] rfl)
      rw [zb_c] at c_35
      cases hq : t (u1 * 64 + v1) <;> rw [hq] at c_35 <;> first | rfl | exact absurd rfl c_35 | exact absurd c_35 (by decide)
  · rcases hr1 with ⟨-, e1⟩ | ⟨hno, -⟩
    · exact absurd e1 c_11
    refine lv_aload_n hx hb d_M_store_14 rfl (lv_at hl 0 rfl) ?_
    refine lv_iconst (v := 1) hx hb d_M_store_15 (by decide) ?_
    refine va_calli (va_runV (As := [.int 1]) (rest := []) (C := RM) ⟨hx, hb, hml, hown, hts⟩ (m_M_fail l D k b 0 r d N F t KR K T 1 _) (cwV 1 hts (TB_g kl_M_48 ki_M_fail ks_M_fail kz_M (TB_c kc_M_fail)) rfl rfl rfl (by decide +kernel) ⟨Nat.le_of_ble_eq_true rfl, Nat.le_of_ble_eq_true rfl⟩) ⟨PW.bl, va_recv (q := (RM, TM, 9)) (ci := 2) (q0 := 0) hK hP rfl rfl, fun U hU hW => ⟨rfl, PW.go hK hP hD hS hA hE hU hW⟩⟩ rfl rfl hl.1 rfl (lv_room (Nat.le_of_ble_eq_true rfl)) d_M_store_16 ⟨Nat.zero_le _, Nat.zero_le _⟩) hS (fun q _ h => cut_F hD hS hA q h) (cut_F hD hS hA) (fun r9 uu t9 H1 locs1 ht hvm hpost hB hz hk hS => ?_)
    rw [ht] at hB
    have hP := hB
    have hD := hD.ad (wm_ad : (WM k b 1 r d N F (zb t) KR K (fun i => zb (T i))).map Prod.fst = _)
    generalize H1 = H at hP hS ⊢
    generalize locs1 = locs at hS ⊢
    subst hpost
    exact W.iret (v := 0) hx hb hr (fun t9 ht hW => ⟨⟨_, (1, r, N, t), rfl, Or.inl ⟨hno, rfl⟩, atP hP ht⟩, hS.F ht⟩) hS.2.2 d_M_store_19
end
section
/-! the law's helpers: a call of the class, its answer or what it threw -/
abbrev rH1 : Room := { frames := 9, cells := 1, slots := 6, locals := 170 }
abbrev rH2 : Room := { frames := 9, cells := 2, slots := 12, locals := 170 }

set_option maxHeartbeats 4000000 in
set_option maxRecDepth 100000 in
theorem m_L_open (l : Launch) (hl0 : l.stackTraces = false) (D : va_G) (k : Nat → ClassId) (a : Nat → Nat) (d : Nat) (hd : d ≤ 30) (F : Nat → Int64) (V M : Nat → Nat → Int64) (R : Nat → Int32) (q0 : Nat) (O : Nat → Int64) (bw : va_W) (sz : Nat) : Met l y_L_open (w_L_open :: TB) rH1 (va_Pc [.ref (a 0), .ref q0] (PW D k ([(q0, .inl (k 0, 1, .inr (.inl O)))] ++ (WX k a (nI d) F V M R ++ bw)) sz)) (va_Qi (fun (y : Int32) (u : Nat × (Nat → Nat → Int64) × (Nat → Nat → Int64) × (Nat → Int32) × (Nat → Int64)) => (y = 1 ∧ ¬ d < 30 ∧ u.1 = d ∧ u.2.1 = V ∧ u.2.2.1 = M ∧ u.2.2.2.1 = R) ∨ (y = 0 ∧ d < 30 ∧ u.1 = d + 1 ∧ u.2.1 = va_up V (d + 1) (va_cpy (V d) (V (d + 1)) 0 0 256) ∧ u.2.2.1 = va_up M (d + 1) (va_cpy (M d) (M (d + 1)) 0 0 4) ∧ u.2.2.2.1 = va_up R (d + 1) (R d) ∧ u.2.2.2.2 0 = (nI (d + 1)).toInt64)) (fun u t => va_P D wCl ([(q0, .inl (k 0, 1, .inr (.inl u.2.2.2.2)))] ++ (WX k a (nI u.1) F u.2.1 u.2.2.1 u.2.2.2.1 ++ bw)) t.heap) (va_A ([(q0, .inl (k 0, 1, .inr (.inl O)))] ++ (WX k a (nI d) F V M R ++ bw)) sz)) 1 6 (va_A ([(q0, .inl (k 0, 1, .inr (.inl O)))] ++ (WX k a (nI d) F V M R ++ bw)) sz) := by
  refine va_MetW (cc := b_L_open) (maxL := 3) (ret := some .int) (by decide) rfl ?_
  intro p e s m args below meth c s₁ B hml hv
  obtain ⟨rfl, hsz, hP, hK, hD0, hE⟩ := hv
  have hx := B.exec
  have htab := vx_table (x := y_L_open) B (atoms_spec (ws := w_L_open :: TB) B.pre _ List.mem_cons_self)
  have hb := B.bytes
  have hr := B.returns
  have hts0 := atoms_spec (ws := w_L_open :: TB) B.pre
  have hts := fun w (hw : w ∈ TB) => hts0 w (List.mem_cons_of_mem _ hw)
  have hown : s.vm.findClass RL = some m.cls := findClass_of_methodNamed B.named
  have hlocks := B.notSynchronized
  subst hsz
  have hD := hD0.self (sz := s.heap.size)
  generalize hAe : va_A ([(q0, .inl (k 0, 1, .inr (.inl O)))] ++ (WX k a (nI d) F V M R ++ bw)) s.heap.size = A at *
  have hA : ∀ q : Nat, s.heap.size ≤ q → A q := fun q h => by rw [← hAe]; exact Or.inr h
  have hS : va_S A s.heap s.heap [] := va_S.rf
  have hl := lv_entry ([.ref (a 0), .ref q0]) (n := 3) (Nat.le_of_ble_eq_true rfl)
  rw [lg_entry_eq]
  generalize (lg_sl ([.ref (a 0), .ref q0]) ++ List.replicate (3 - (lg_sl ([.ref (a 0), .ref q0])).length) Slot.unset).toArray = ls at hl ⊢
  have hl : lv_has ls 3 [(0, .ref (a 0)), (1, .ref q0)] := hl
  refine lv_aload_n hx hb d_L_open_0 rfl (lv_at hl 1 rfl) ?_
  refine lv_iconst (v := 0) hx hb d_L_open_1 (by decide) ?_
  refine lv_aload_n hx hb d_L_open_2 rfl (lv_at hl 0 rfl) ?_
  refine vx_calli (vx_runV (As := []) (rest := [.int 0, .ref q0]) (C := RX) ⟨hx, hb, hml, hown, hts⟩ (m_X_open l hl0 D k a d hd F V M R _) (cwV 0 hts (TB_g kl_L_7 ki_X_open ks_X_open kz_X (TB_c kc_X_open)) rfl rfl rfl (by decide +kernel) ⟨Nat.le_of_ble_eq_true rfl, Nat.le_of_ble_eq_true rfl⟩) ⟨PW.bl, va_recv (q := (RX, TX, 3)) (ci := 1) (q0 := 1) hK hP rfl rfl, fun U hU hW => ⟨rfl, PW.go hK (cut_P hP) (cut_D hD) hS hA hE hU hW⟩⟩ rfl rfl hl.1 rfl (lv_room (Nat.le_of_ble_eq_true rfl)) d_L_open_3 ⟨Nat.le_of_ble_eq_true rfl, Nat.le_of_ble_eq_true rfl⟩) hS (fun q _ h => cut_F (cut_D hD) hS hA q h) (cut_F (cut_D hD) hS hA) (fun q _ h => cut_F (cut_D hD) hS hA q h) (fun E ce q9 u t H1 locs1 ht hvm px hBX hz hk hS hcell hv9 hcl => ?_) (fun r1 uu t H1 locs1 ht hvm hpost hB hz hk hS => ?_)
  · obtain ⟨rfl, hB⟩ := hBX
    rw [ht] at hB
    obtain ⟨hP, hD⟩ := cut_J hP hD hk hB rfl
    refine ct_catch hown [] ⟨0, 8, 11, 13⟩ [] (htab.trans rfl) (fun z h => absurd h List.not_mem_nil) (by decide) (by decide) (hts _ kk_L_13) (va_Nw.use rfl (hE.1 _ nv_IndexOutOfBoundsException)) hcell hv9 hcl ?_
    refine lv_astore_n (lv' := [(2, .ref q9), (0, .ref (a 0)), (1, .ref q0)]) hx hb d_L_open_11 rfl hl (by decide) rfl (fun ls hl => ?_)
    refine lv_iconst (v := 1) hx hb d_L_open_12 (by decide) ?_
    exact W.iret (v := 1) hx hb hr (fun t ht hW => ⟨⟨_, (d, V, M, R, O), rfl, Or.inl ⟨rfl, px, rfl, rfl, rfl, rfl⟩, atP hP ht⟩, hS.F ht⟩) hS.2.2 d_L_open_13
  · rw [ht] at hB
    obtain ⟨V2, M2, R2⟩ := uu
    obtain ⟨hd30, e0, e1, e2, e3⟩ := hpost
    dsimp only at e1 e2 e3 hB
    subst e0 e1 e2 e3
    obtain ⟨hP, hD⟩ := cut_J hP hD hk hB wx_ad
    refine lv_i2l hx hb d_L_open_6 rfl ?_
    refine va_last hx hb hK hP hD hS 0 0 rfl rfl (show vp_in (nI 0) 1 from vp_in_nI (by decide) (by decide)) d_L_open_7 (fun H locs hP hD hS => ?_)
    refine lv_goto (tgt := 14) hx hb d_L_open_8 (by decide) ?_
    refine lv_iconst (v := 0) hx hb d_L_open_14 (by decide) ?_
    exact W.iret (v := 0) hx hb hr (fun t ht hW => ⟨⟨_, (d + 1, va_up V (d + 1) (va_cpy (V d) (V (d + 1)) 0 0 256), va_up M (d + 1) (va_cpy (M d) (M (d + 1)) 0 0 4), va_up R (d + 1) (R d), vp_updL O 0 ((nI (d + 1)).toInt64)), rfl, Or.inr ⟨rfl, hd30, rfl, rfl, rfl, rfl, rfl⟩, atP hP ht⟩, hS.F ht⟩) hS.2.2 d_L_open_15
set_option maxHeartbeats 4000000 in
set_option maxRecDepth 100000 in
theorem m_L_close (l : Launch) (hl0 : l.stackTraces = false) (D : va_G) (k : Nat → ClassId) (a : Nat → Nat) (d : Nat) (hd : d ≤ 30) (F : Nat → Int64) (V M : Nat → Nat → Int64) (R : Nat → Int32) (q0 : Nat) (O : Nat → Int64) (bw : va_W) (z : Int32) (sz : Nat) : Met l y_L_close (w_L_close :: TB) rH1 (va_Pc [.ref (a 0), .int z, .ref q0] (PW D k ([(q0, .inl (k 0, 1, .inr (.inl O)))] ++ (WX k a (nI d) F V M R ++ bw)) sz)) (va_Qi (fun (y : Int32) (u : Nat × (Nat → Nat → Int64) × (Nat → Nat → Int64) × (Nat → Int32) × (Nat → Int64)) => (y = 1 ∧ d = 0 ∧ u.1 = d ∧ u.2.1 = V ∧ u.2.2.1 = M ∧ u.2.2.2.1 = R) ∨ (y = 0 ∧ d = u.1 + 1 ∧ True ∧ (z = 0 → (u.2.1, u.2.2.1, u.2.2.2.1) = (V, M, R)) ∧ (¬ z = 0 → (u.2.1, u.2.2.1, u.2.2.2.1) = (va_up V u.1 (va_cpy (V (u.1 + 1)) (V u.1) 0 0 256), va_up M u.1 (va_cpy (M (u.1 + 1)) (M u.1) 0 0 4), va_up R u.1 (R (u.1 + 1)))) ∧ u.2.2.2.2 0 = (nI u.1).toInt64)) (fun u t => va_P D wCl ([(q0, .inl (k 0, 1, .inr (.inl u.2.2.2.2)))] ++ (WX k a (nI u.1) F u.2.1 u.2.2.1 u.2.2.2.1 ++ bw)) t.heap) (va_A ([(q0, .inl (k 0, 1, .inr (.inl O)))] ++ (WX k a (nI d) F V M R ++ bw)) sz)) 1 6 (va_A ([(q0, .inl (k 0, 1, .inr (.inl O)))] ++ (WX k a (nI d) F V M R ++ bw)) sz) := by
  refine va_MetW (cc := b_L_close) (maxL := 4) (ret := some .int) (by decide) rfl ?_
  intro p e s m args below meth c s₁ B hml hv
  obtain ⟨rfl, hsz, hP, hK, hD0, hE⟩ := hv
  have hx := B.exec
  have htab := vx_table (x := y_L_open) B (atoms_spec (ws := w_L_close :: TB) B.pre _ List.mem_cons_self)
  have hb := B.bytes
  have hr := B.returns
  have hts0 := atoms_spec (ws := w_L_close :: TB) B.pre
  have hts := fun w (hw : w ∈ TB) => hts0 w (List.mem_cons_of_mem _ hw)
  have hown : s.vm.findClass RL = some m.cls := findClass_of_methodNamed B.named
  have hlocks := B.notSynchronized
  subst hsz
  have hD := hD0.self (sz := s.heap.size)
  generalize hAe : va_A ([(q0, .inl (k 0, 1, .inr (.inl O)))] ++ (WX k a (nI d) F V M R ++ bw)) s.heap.size = A at *
  have hA : ∀ q : Nat, s.heap.size ≤ q → A q := fun q h => by rw [← hAe]; exact Or.inr h
  have hS : va_S A s.heap s.heap [] := va_S.rf
  have hl := lv_entry ([.ref (a 0), .int z, .ref q0]) (n := 4) (Nat.le_of_ble_eq_true rfl)
  rw [lg_entry_eq]
  generalize (lg_sl ([.ref (a 0), .int z, .ref q0]) ++ List.replicate (4 - (lg_sl ([.ref (a 0), .int z, .ref q0])).length) Slot.unset).toArray = ls at hl ⊢
  have hl : lv_has ls 4 [(0, .ref (a 0)), (1, .int z), (2, .ref q0)] := hl
  refine lv_aload_n hx hb d_L_close_0 rfl (lv_at hl 2 rfl) ?_
  refine lv_iconst (v := 0) hx hb d_L_close_1 (by decide) ?_
  refine lv_aload_n hx hb d_L_close_2 rfl (lv_at hl 0 rfl) ?_
  refine lv_iload_n hx hb d_L_close_3 rfl (lv_at hl 1 rfl) ?_
  refine vx_calli (vx_runV (As := [.int z]) (rest := [.int 0, .ref q0]) (C := RX) ⟨hx, hb, hml, hown, hts⟩ (m_X_close l hl0 D k a d hd F V M R z _) (cwV 1 hts (TB_g kl_L_15 ki_X_close ks_X_close kz_X (TB_c kc_X_close)) rfl rfl rfl (by decide +kernel) ⟨Nat.le_of_ble_eq_true rfl, Nat.le_of_ble_eq_true rfl⟩) ⟨PW.bl, va_recv (q := (RX, TX, 3)) (ci := 1) (q0 := 1) hK hP rfl rfl, fun U hU hW => ⟨rfl, PW.go hK (cut_P hP) (cut_D hD) hS hA hE hU hW⟩⟩ rfl rfl hl.1 rfl (lv_room (Nat.le_of_ble_eq_true rfl)) d_L_close_4 ⟨Nat.le_of_ble_eq_true rfl, Nat.le_of_ble_eq_true rfl⟩) hS (fun q _ h => cut_F (cut_D hD) hS hA q h) (cut_F (cut_D hD) hS hA) (fun q _ h => cut_F (cut_D hD) hS hA q h) (fun E ce q9 u t H1 locs1 ht hvm px hBX hz hk hS hcell hv9 hcl => ?_) (fun r1 uu t H1 locs1 ht hvm hpost hB hz hk hS => ?_)
  · obtain ⟨rfl, hB⟩ := hBX
    rw [ht] at hB
    obtain ⟨hP, hD⟩ := cut_J hP hD hk hB rfl
    refine ct_catch hown [] ⟨0, 9, 12, 19⟩ [] (htab.trans rfl) (fun z h => absurd h List.not_mem_nil) (by decide) (by decide) (hts _ kk_L_19) (va_Nw.use rfl (hE.1 _ nv_IllegalStateException)) hcell hv9 hcl ?_
    refine lv_astore_n (lv' := [(3, .ref q9), (0, .ref (a 0)), (1, .int z), (2, .ref q0)]) hx hb d_L_close_12 rfl hl (by decide) rfl (fun ls hl => ?_)
    refine lv_iconst (v := 1) hx hb d_L_close_13 (by decide) ?_
    exact W.iret (v := 1) hx hb hr (fun t ht hW => ⟨⟨_, (d, V, M, R, O), rfl, Or.inl ⟨rfl, px, rfl, rfl, rfl, rfl⟩, atP hP ht⟩, hS.F ht⟩) hS.2.2 d_L_close_14
  · rw [ht] at hB
    obtain ⟨f9, V2, M2, R2⟩ := uu
    obtain ⟨e1, e2, e3, e4⟩ := hpost
    dsimp only at e1 e2 e3 e4 hB
    subst e1 e2
    obtain ⟨hP, hD⟩ := cut_J hP hD hk hB wx_ad
    refine lv_i2l hx hb d_L_close_7 rfl ?_
    refine va_last hx hb hK hP hD hS 0 0 rfl rfl (show vp_in (nI 0) 1 from vp_in_nI (by decide) (by decide)) d_L_close_8 (fun H locs hP hD hS => ?_)
    refine lv_goto (tgt := 15) hx hb d_L_close_9 (by decide) ?_
    refine lv_iconst (v := 0) hx hb d_L_close_15 (by decide) ?_
    exact W.iret (v := 0) hx hb hr (fun t ht hW => ⟨⟨_, (f9, V2, M2, R2, vp_updL O 0 ((nI f9).toInt64)), rfl, Or.inr ⟨rfl, rfl, trivial, e3, e4, rfl⟩, atP hP ht⟩, hS.F ht⟩) hS.2.2 d_L_close_16
set_option maxHeartbeats 4000000 in
set_option maxRecDepth 100000 in
theorem m_L_load (l : Launch) (hl0 : l.stackTraces = false) (D : va_G) (k : Nat → ClassId) (a : Nat → Nat) (d : Nat) (hd : d ≤ 30) (F : Nat → Int64) (V M : Nat → Nat → Int64) (R : Nat → Int32) (q0 : Nat) (O : Nat → Int64) (bw : va_W) (o1 p1 : Int32) (sz : Nat) : Met l y_L_load (w_L_load :: TB) rH1 (va_Pc [.ref (a 0), .int o1, .int p1, .ref q0] (PW D k ([(q0, .inl (k 0, 1, .inr (.inl O)))] ++ (WX k a (nI d) F V M R ++ bw)) sz)) (va_Qi (fun (y : Int32) (u : Nat × (Nat → Nat → Int64) × (Nat → Nat → Int64) × (Nat → Int32) × (Nat → Int64)) => (y = 1 ∧ ¬ okP o1 p1 ∧ u.1 = d ∧ u.2.1 = V ∧ u.2.2.1 = M ∧ u.2.2.2.1 = R) ∨ (y = 0 ∧ ∃ g h : Nat, g < 4 ∧ h < 64 ∧ o1 = nI g ∧ p1 = nI h ∧ u.1 = d ∧ u.2.1 = V ∧ u.2.2.1 = va_up M d (vp_updL (M d) g (tbs (M d g) h)) ∧ u.2.2.2.1 = R ∧ u.2.2.2.2 0 = ((if tb (M d g) h then 100 else 2100) : Int32).toInt64)) (fun u t => va_P D wCl ([(q0, .inl (k 0, 1, .inr (.inl u.2.2.2.2)))] ++ (WX k a (nI u.1) F u.2.1 u.2.2.1 u.2.2.2.1 ++ bw)) t.heap) (va_A ([(q0, .inl (k 0, 1, .inr (.inl O)))] ++ (WX k a (nI d) F V M R ++ bw)) sz)) 1 6 (va_A ([(q0, .inl (k 0, 1, .inr (.inl O)))] ++ (WX k a (nI d) F V M R ++ bw)) sz) := by
  refine va_MetW (cc := b_L_load) (maxL := 5) (ret := some .int) (by decide) rfl ?_
  intro p e s m args below meth c s₁ B hml hv
  obtain ⟨rfl, hsz, hP, hK, hD0, hE⟩ := hv
  have hx := B.exec
  have htab := vx_table (x := y_L_open) B (atoms_spec (ws := w_L_load :: TB) B.pre _ List.mem_cons_self)
  have hb := B.bytes
  have hr := B.returns
  have hts0 := atoms_spec (ws := w_L_load :: TB) B.pre
  have hts := fun w (hw : w ∈ TB) => hts0 w (List.mem_cons_of_mem _ hw)
  have hown : s.vm.findClass RL = some m.cls := findClass_of_methodNamed B.named
  have hlocks := B.notSynchronized
  subst hsz
  have hD := hD0.self (sz := s.heap.size)
  generalize hAe : va_A ([(q0, .inl (k 0, 1, .inr (.inl O)))] ++ (WX k a (nI d) F V M R ++ bw)) s.heap.size = A at *
  have hA : ∀ q : Nat, s.heap.size ≤ q → A q := fun q h => by rw [← hAe]; exact Or.inr h
  have hS : va_S A s.heap s.heap [] := va_S.rf
  have hl := lv_entry ([.ref (a 0), .int o1, .int p1, .ref q0]) (n := 5) (Nat.le_of_ble_eq_true rfl)
  rw [lg_entry_eq]
  generalize (lg_sl ([.ref (a 0), .int o1, .int p1, .ref q0]) ++ List.replicate (5 - (lg_sl ([.ref (a 0), .int o1, .int p1, .ref q0])).length) Slot.unset).toArray = ls at hl ⊢
  have hl : lv_has ls 5 [(0, .ref (a 0)), (1, .int o1), (2, .int p1), (3, .ref q0)] := hl
  refine lv_aload_n hx hb d_L_load_0 rfl (lv_at hl 3 rfl) ?_
  refine lv_iconst (v := 0) hx hb d_L_load_1 (by decide) ?_
  refine lv_aload_n hx hb d_L_load_2 rfl (lv_at hl 0 rfl) ?_
  refine lv_iload_n hx hb d_L_load_3 rfl (lv_at hl 1 rfl) ?_
  refine lv_iload_n hx hb d_L_load_4 rfl (lv_at hl 2 rfl) ?_
  refine vx_calli (vx_runV (As := [.int o1, .int p1]) (rest := [.int 0, .ref q0]) (C := RX) ⟨hx, hb, hml, hown, hts⟩ (m_X_load l hl0 D k a d hd F V M R o1 p1 _) (cwV 2 hts (TB_g kl_L_21 ki_X_load ks_X_load kz_X (TB_c kc_X_load)) rfl rfl rfl (by decide +kernel) ⟨Nat.le_of_ble_eq_true rfl, Nat.le_of_ble_eq_true rfl⟩) ⟨PW.bl, va_recv (q := (RX, TX, 3)) (ci := 1) (q0 := 1) hK hP rfl rfl, fun U hU hW => ⟨rfl, PW.go hK (cut_P hP) (cut_D hD) hS hA hE hU hW⟩⟩ rfl rfl hl.1 rfl (lv_room (Nat.le_of_ble_eq_true rfl)) d_L_load_5 ⟨Nat.le_of_ble_eq_true rfl, Nat.le_of_ble_eq_true rfl⟩) hS (fun q _ h => cut_F (cut_D hD) hS hA q h) (cut_F (cut_D hD) hS hA) (fun q _ h => cut_F (cut_D hD) hS hA q h) (fun E ce q9 u t H1 locs1 ht hvm px hBX hz hk hS hcell hv9 hcl => ?_) (fun r1 uu t H1 locs1 ht hvm hpost hB hz hk hS => ?_)
  · obtain ⟨rfl, hB⟩ := hBX
    rw [ht] at hB
    obtain ⟨hP, hD⟩ := cut_J hP hD hk hB rfl
    refine ct_catch hown [] ⟨0, 10, 13, 25⟩ [] (htab.trans rfl) (fun z h => absurd h List.not_mem_nil) (by decide) (by decide) (hts _ kk_L_25) (va_Nw.use rfl (hE.1 _ nv_IllegalArgumentException)) hcell hv9 hcl ?_
    refine lv_astore (lv' := [(4, .ref q9), (0, .ref (a 0)), (1, .int o1), (2, .int p1), (3, .ref q0)]) hx hb d_L_load_13 hl (by decide) rfl (fun ls hl => ?_)
    refine lv_iconst (v := 1) hx hb d_L_load_15 (by decide) ?_
    exact W.iret (v := 1) hx hb hr (fun t ht hW => ⟨⟨_, (d, V, M, R, O), rfl, Or.inl ⟨rfl, px, rfl, rfl, rfl, rfl⟩, atP hP ht⟩, hS.F ht⟩) hS.2.2 d_L_load_16
  · rw [ht] at hB
    obtain ⟨g, h, hg, hh, e1, e2, e3, e4⟩ := hpost
    subst e4
    obtain ⟨hP, hD⟩ := cut_J hP hD hk hB wx_ad
    refine lv_i2l hx hb d_L_load_8 rfl ?_
    refine va_last hx hb hK hP hD hS 0 0 rfl rfl (show vp_in (nI 0) 1 from vp_in_nI (by decide) (by decide)) d_L_load_9 (fun H locs hP hD hS => ?_)
    refine lv_goto (tgt := 17) hx hb d_L_load_10 (by decide) ?_
    refine lv_iconst (v := 0) hx hb d_L_load_17 (by decide) ?_
    exact W.iret (v := 0) hx hb hr (fun t ht hW => ⟨⟨_, (d, V, va_up M d (vp_updL (M d) g (tbs (M d g) h)), R, vp_updL O 0 (((r1) : Int32).toInt64)), rfl, Or.inr ⟨rfl, g, h, hg, hh, e1, e2, rfl, rfl, rfl, rfl, by rw [e3]; exact rfl⟩, atP hP ht⟩, hS.F ht⟩) hS.2.2 d_L_load_18
set_option maxHeartbeats 4000000 in
set_option maxRecDepth 100000 in
theorem m_L_held (l : Launch) (hl0 : l.stackTraces = false) (D : va_G) (k : Nat → ClassId) (a : Nat → Nat) (d : Nat) (hd : d ≤ 30) (F : Nat → Int64) (V M : Nat → Nat → Int64) (R : Nat → Int32) (q0 : Nat) (O : Nat → Int64) (bw : va_W) (o1 p1 z : Int32) (sz : Nat) : Met l y_L_held (w_L_held :: TB) rH1 (va_Pc [.ref (a 0), .int o1, .int p1, .int z, .ref q0] (PW D k ([(q0, .inl (k 0, 1, .inr (.inl O)))] ++ (WX k a (nI d) F V M R ++ bw)) sz)) (va_Qi (fun (y : Int32) (u : Nat × (Nat → Nat → Int64) × (Nat → Nat → Int64) × (Nat → Int32) × (Nat → Int64)) => (y = 1 ∧ ¬ okP o1 p1 ∧ u.1 = d ∧ u.2.1 = V ∧ u.2.2.1 = M ∧ u.2.2.2.1 = R) ∨ (y = 0 ∧ ∃ g h : Nat, g < 4 ∧ h < 64 ∧ o1 = nI g ∧ p1 = nI h ∧ u.1 = d ∧ u.2.1 = V ∧ u.2.2.1 = M ∧ u.2.2.2.1 = R ∧ u.2.2.2.2 0 = (if z = 0 then V d (g * 64 + h) else F (g * 64 + h)))) (fun u t => va_P D wCl ([(q0, .inl (k 0, 1, .inr (.inl u.2.2.2.2)))] ++ (WX k a (nI u.1) F u.2.1 u.2.2.1 u.2.2.2.1 ++ bw)) t.heap) (va_A ([(q0, .inl (k 0, 1, .inr (.inl O)))] ++ (WX k a (nI d) F V M R ++ bw)) sz)) 1 6 (va_A ([(q0, .inl (k 0, 1, .inr (.inl O)))] ++ (WX k a (nI d) F V M R ++ bw)) sz) := by
  refine va_MetW (cc := b_L_held) (maxL := 6) (ret := some .int) (by decide) rfl ?_
  intro p e s m args below meth c s₁ B hml hv
  obtain ⟨rfl, hsz, hP, hK, hD0, hE⟩ := hv
  have hx := B.exec
  have htab := vx_table (x := y_L_open) B (atoms_spec (ws := w_L_held :: TB) B.pre _ List.mem_cons_self)
  have hb := B.bytes
  have hr := B.returns
  have hts0 := atoms_spec (ws := w_L_held :: TB) B.pre
  have hts := fun w (hw : w ∈ TB) => hts0 w (List.mem_cons_of_mem _ hw)
  have hown : s.vm.findClass RL = some m.cls := findClass_of_methodNamed B.named
  have hlocks := B.notSynchronized
  subst hsz
  have hD := hD0.self (sz := s.heap.size)
  generalize hAe : va_A ([(q0, .inl (k 0, 1, .inr (.inl O)))] ++ (WX k a (nI d) F V M R ++ bw)) s.heap.size = A at *
  have hA : ∀ q : Nat, s.heap.size ≤ q → A q := fun q h => by rw [← hAe]; exact Or.inr h
  have hS : va_S A s.heap s.heap [] := va_S.rf
  have hl := lv_entry ([.ref (a 0), .int o1, .int p1, .int z, .ref q0]) (n := 6) (Nat.le_of_ble_eq_true rfl)
  rw [lg_entry_eq]
  generalize (lg_sl ([.ref (a 0), .int o1, .int p1, .int z, .ref q0]) ++ List.replicate (6 - (lg_sl ([.ref (a 0), .int o1, .int p1, .int z, .ref q0])).length) Slot.unset).toArray = ls at hl ⊢
  have hl : lv_has ls 6 [(0, .ref (a 0)), (1, .int o1), (2, .int p1), (3, .int z), (4, .ref q0)] := hl
  refine lv_aload hx hb d_L_held_0 (lv_at hl 4 rfl) ?_
  refine lv_iconst (v := 0) hx hb d_L_held_2 (by decide) ?_
  refine lv_aload_n hx hb d_L_held_3 rfl (lv_at hl 0 rfl) ?_
  refine lv_iload_n hx hb d_L_held_4 rfl (lv_at hl 1 rfl) ?_
  refine lv_iload_n hx hb d_L_held_5 rfl (lv_at hl 2 rfl) ?_
  refine lv_iload_n hx hb d_L_held_6 rfl (lv_at hl 3 rfl) ?_
  refine vx_calll (vx_runV (As := [.int o1, .int p1, .int z]) (rest := [.int 0, .ref q0]) (C := RX) ⟨hx, hb, hml, hown, hts⟩ (m_X_held l hl0 D k a d hd F V M R o1 p1 z _) (cwV 3 hts (TB_g kl_L_31 ki_X_held ks_X_held kz_X (TB_c kc_X_held)) rfl rfl rfl (by decide +kernel) ⟨Nat.le_of_ble_eq_true rfl, Nat.le_of_ble_eq_true rfl⟩) ⟨PW.bl, va_recv (q := (RX, TX, 3)) (ci := 1) (q0 := 1) hK hP rfl rfl, fun U hU hW => ⟨rfl, PW.go hK (cut_P hP) (cut_D hD) hS hA hE hU hW⟩⟩ rfl rfl hl.1 rfl (lv_room (Nat.le_of_ble_eq_true rfl)) d_L_held_7 ⟨Nat.le_of_ble_eq_true rfl, Nat.le_of_ble_eq_true rfl⟩) hS (fun q _ h => cut_F (cut_D hD) hS hA q h) (cut_F (cut_D hD) hS hA) (fun q _ h => cut_F (cut_D hD) hS hA q h) (fun E ce q9 u t H1 locs1 ht hvm px hBX hz hk hS hcell hv9 hcl => ?_) (fun r1 uu t H1 locs1 ht hvm hpost hB hz hk hS => ?_)
  · obtain ⟨rfl, hB⟩ := hBX
    rw [ht] at hB
    obtain ⟨hP, hD⟩ := cut_J hP hD hk hB rfl
    refine ct_catch hown [] ⟨0, 11, 14, 25⟩ [] (htab.trans rfl) (fun z h => absurd h List.not_mem_nil) (by decide) (by decide) (hts _ kk_L_25) (va_Nw.use rfl (hE.1 _ nv_IllegalArgumentException)) hcell hv9 hcl ?_
    refine lv_astore (lv' := [(5, .ref q9), (0, .ref (a 0)), (1, .int o1), (2, .int p1), (3, .int z), (4, .ref q0)]) hx hb d_L_held_14 hl (by decide) rfl (fun ls hl => ?_)
    refine lv_iconst (v := 1) hx hb d_L_held_16 (by decide) ?_
    exact W.iret (v := 1) hx hb hr (fun t ht hW => ⟨⟨_, (d, V, M, R, O), rfl, Or.inl ⟨rfl, px, rfl, rfl, rfl, rfl⟩, atP hP ht⟩, hS.F ht⟩) hS.2.2 d_L_held_17
  · rw [ht] at hB
    obtain ⟨g, h, hg, hh, e1, e2, e3⟩ := hpost
    obtain ⟨hP, hD⟩ := cut_J hP hD hk hB wx_ad
    refine va_last hx hb hK hP hD hS 0 0 rfl rfl (show vp_in (nI 0) 1 from vp_in_nI (by decide) (by decide)) d_L_held_10 (fun H locs hP hD hS => ?_)
    refine lv_goto (tgt := 18) hx hb d_L_held_11 (by decide) ?_
    refine lv_iconst (v := 0) hx hb d_L_held_18 (by decide) ?_
    exact W.iret (v := 0) hx hb hr (fun t ht hW => ⟨⟨_, (d, V, M, R, vp_updL O 0 r1), rfl, Or.inr ⟨rfl, g, h, hg, hh, e1, e2, rfl, rfl, rfl, rfl, by rw [e3]; exact rfl⟩, atP hP ht⟩, hS.F ht⟩) hS.2.2 d_L_held_19
set_option maxHeartbeats 4000000 in
set_option maxRecDepth 100000 in
theorem m_L_touched (l : Launch) (hl0 : l.stackTraces = false) (D : va_G) (k : Nat → ClassId) (a : Nat → Nat) (d : Nat) (hd : d ≤ 30) (F : Nat → Int64) (V M : Nat → Nat → Int64) (R : Nat → Int32) (q0 : Nat) (O : Nat → Int64) (bw : va_W) (o1 p1 : Int32) (sz : Nat) : Met l y_L_touched (w_L_touched :: TB) rH1 (va_Pc [.ref (a 0), .int o1, .int p1, .ref q0] (PW D k ([(q0, .inl (k 0, 1, .inr (.inl O)))] ++ (WX k a (nI d) F V M R ++ bw)) sz)) (va_Qi (fun (y : Int32) (u : Nat × (Nat → Nat → Int64) × (Nat → Nat → Int64) × (Nat → Int32) × (Nat → Int64)) => (y = 1 ∧ ¬ okP o1 p1 ∧ u.1 = d ∧ u.2.1 = V ∧ u.2.2.1 = M ∧ u.2.2.2.1 = R) ∨ (y = 0 ∧ ∃ g h : Nat, g < 4 ∧ h < 64 ∧ o1 = nI g ∧ p1 = nI h ∧ u.1 = d ∧ u.2.1 = V ∧ u.2.2.1 = M ∧ u.2.2.2.1 = R ∧ u.2.2.2.2 0 = (if tb (M d g) h then 1 else 0))) (fun u t => va_P D wCl ([(q0, .inl (k 0, 1, .inr (.inl u.2.2.2.2)))] ++ (WX k a (nI u.1) F u.2.1 u.2.2.1 u.2.2.2.1 ++ bw)) t.heap) (va_A ([(q0, .inl (k 0, 1, .inr (.inl O)))] ++ (WX k a (nI d) F V M R ++ bw)) sz)) 1 6 (va_A ([(q0, .inl (k 0, 1, .inr (.inl O)))] ++ (WX k a (nI d) F V M R ++ bw)) sz) := by
  refine va_MetW (cc := b_L_touched) (maxL := 5) (ret := some .int) (by decide) rfl ?_
  intro p e s m args below meth c s₁ B hml hv
  obtain ⟨rfl, hsz, hP, hK, hD0, hE⟩ := hv
  have hx := B.exec
  have htab := vx_table (x := y_L_open) B (atoms_spec (ws := w_L_touched :: TB) B.pre _ List.mem_cons_self)
  have hb := B.bytes
  have hr := B.returns
  have hts0 := atoms_spec (ws := w_L_touched :: TB) B.pre
  have hts := fun w (hw : w ∈ TB) => hts0 w (List.mem_cons_of_mem _ hw)
  have hown : s.vm.findClass RL = some m.cls := findClass_of_methodNamed B.named
  have hlocks := B.notSynchronized
  subst hsz
  have hD := hD0.self (sz := s.heap.size)
  generalize hAe : va_A ([(q0, .inl (k 0, 1, .inr (.inl O)))] ++ (WX k a (nI d) F V M R ++ bw)) s.heap.size = A at *
  have hA : ∀ q : Nat, s.heap.size ≤ q → A q := fun q h => by rw [← hAe]; exact Or.inr h
  have hS : va_S A s.heap s.heap [] := va_S.rf
  have hl := lv_entry ([.ref (a 0), .int o1, .int p1, .ref q0]) (n := 5) (Nat.le_of_ble_eq_true rfl)
  rw [lg_entry_eq]
  generalize (lg_sl ([.ref (a 0), .int o1, .int p1, .ref q0]) ++ List.replicate (5 - (lg_sl ([.ref (a 0), .int o1, .int p1, .ref q0])).length) Slot.unset).toArray = ls at hl ⊢
  have hl : lv_has ls 5 [(0, .ref (a 0)), (1, .int o1), (2, .int p1), (3, .ref q0)] := hl
  refine lv_aload_n hx hb d_L_touched_0 rfl (lv_at hl 3 rfl) ?_
  refine lv_iconst (v := 0) hx hb d_L_touched_1 (by decide) ?_
  refine lv_aload_n hx hb d_L_touched_2 rfl (lv_at hl 0 rfl) ?_
  refine lv_iload_n hx hb d_L_touched_3 rfl (lv_at hl 1 rfl) ?_
  refine lv_iload_n hx hb d_L_touched_4 rfl (lv_at hl 2 rfl) ?_
  refine vx_calli (vx_runV (As := [.int o1, .int p1]) (rest := [.int 0, .ref q0]) (C := RX) ⟨hx, hb, hml, hown, hts⟩ (m_X_touched l hl0 D k a d hd F V M R o1 p1 _) (cwV 2 hts (TB_g kl_L_35 ki_X_touched ks_X_touched kz_X (TB_c kc_X_touched)) rfl rfl rfl (by decide +kernel) ⟨Nat.le_of_ble_eq_true rfl, Nat.le_of_ble_eq_true rfl⟩) ⟨PW.bl, va_recv (q := (RX, TX, 3)) (ci := 1) (q0 := 1) hK hP rfl rfl, fun U hU hW => ⟨rfl, PW.go hK (cut_P hP) (cut_D hD) hS hA hE hU hW⟩⟩ rfl rfl hl.1 rfl (lv_room (Nat.le_of_ble_eq_true rfl)) d_L_touched_5 ⟨Nat.le_of_ble_eq_true rfl, Nat.le_of_ble_eq_true rfl⟩) hS (fun q _ h => cut_F (cut_D hD) hS hA q h) (cut_F (cut_D hD) hS hA) (fun q _ h => cut_F (cut_D hD) hS hA q h) (fun E ce q9 u t H1 locs1 ht hvm px hBX hz hk hS hcell hv9 hcl => ?_) (fun r1 uu t H1 locs1 ht hvm hpost hB hz hk hS => ?_)
  · obtain ⟨rfl, hB⟩ := hBX
    rw [ht] at hB
    obtain ⟨hP, hD⟩ := cut_J hP hD hk hB rfl
    refine ct_catch hown [] ⟨0, 17, 20, 25⟩ [] (htab.trans rfl) (fun z h => absurd h List.not_mem_nil) (by decide) (by decide) (hts _ kk_L_25) (va_Nw.use rfl (hE.1 _ nv_IllegalArgumentException)) hcell hv9 hcl ?_
    refine lv_astore (lv' := [(4, .ref q9), (0, .ref (a 0)), (1, .int o1), (2, .int p1), (3, .ref q0)]) hx hb d_L_touched_20 hl (by decide) rfl (fun ls hl => ?_)
    refine lv_iconst (v := 1) hx hb d_L_touched_22 (by decide) ?_
    exact W.iret (v := 1) hx hb hr (fun t ht hW => ⟨⟨_, (d, V, M, R, O), rfl, Or.inl ⟨rfl, px, rfl, rfl, rfl, rfl⟩, atP hP ht⟩, hS.F ht⟩) hS.2.2 d_L_touched_23
  · rw [ht] at hB
    obtain ⟨g, h, hg, hh, e1, e2, e3⟩ := hpost
    obtain ⟨hP, hD⟩ := cut_J hP hD hk hB wx_ad
    refine lv_if_eq (tgt := 15) hx hb d_L_touched_8 (by decide) (fun c_8 => ?_) (fun c_8 => ?_)
    · have er : (0 : Int64) = (if tb (M d g) h then 1 else 0) := by
        rw [e3] at c_8
        cases hq : tb (M d g) h <;> rw [hq] at c_8 <;> first | rfl | exact absurd rfl c_8 | exact absurd c_8 (by decide)
      refine lv_lconst (v := 0) hx hb d_L_touched_15 (by decide) ?_
      refine va_last hx hb hK hP hD hS 0 0 rfl rfl (show vp_in (nI 0) 1 from vp_in_nI (by decide) (by decide)) d_L_touched_16 (fun H locs hP hD hS => ?_)
      refine lv_goto (tgt := 24) hx hb d_L_touched_17 (by decide) ?_
      refine lv_iconst (v := 0) hx hb d_L_touched_24 (by decide) ?_
      exact W.iret (v := 0) hx hb hr (fun t ht hW => ⟨⟨_, (d, V, M, R, vp_updL O 0 0), rfl, Or.inr ⟨rfl, g, h, hg, hh, e1, e2, rfl, rfl, rfl, rfl, by rw [← er]; exact rfl⟩, atP hP ht⟩, hS.F ht⟩) hS.2.2 d_L_touched_25
    · have er : (1 : Int64) = (if tb (M d g) h then 1 else 0) := by
        rw [e3] at c_8
        cases hq : tb (M d g) h <;> rw [hq] at c_8 <;> first | rfl | exact absurd rfl c_8 | exact absurd c_8 (by decide)
      refine lv_lconst (v := 1) hx hb d_L_touched_11 (by decide) ?_
      refine lv_goto (tgt := 16) hx hb d_L_touched_12 (by decide) ?_
      refine va_last hx hb hK hP hD hS 0 0 rfl rfl (show vp_in (nI 0) 1 from vp_in_nI (by decide) (by decide)) d_L_touched_16 (fun H locs hP hD hS => ?_)
      refine lv_goto (tgt := 24) hx hb d_L_touched_17 (by decide) ?_
      refine lv_iconst (v := 0) hx hb d_L_touched_24 (by decide) ?_
      exact W.iret (v := 0) hx hb hr (fun t ht hW => ⟨⟨_, (d, V, M, R, vp_updL O 0 1), rfl, Or.inr ⟨rfl, g, h, hg, hh, e1, e2, rfl, rfl, rfl, rfl, by rw [← er]; exact rfl⟩, atP hP ht⟩, hS.F ht⟩) hS.2.2 d_L_touched_25
set_option maxHeartbeats 4000000 in
set_option maxRecDepth 100000 in
theorem m_L_count (l : Launch) (hl0 : l.stackTraces = false) (D : va_G) (k : Nat → ClassId) (a : Nat → Nat) (d : Nat) (hd : d ≤ 30) (F : Nat → Int64) (V M : Nat → Nat → Int64) (R : Nat → Int32) (q0 : Nat) (O : Nat → Int64) (bw : va_W) (z : Int32) (sz : Nat) : Met l y_L_count (w_L_count :: TB) rH1 (va_Pc [.ref (a 0), .int z, .ref q0] (PW D k ([(q0, .inl (k 0, 1, .inr (.inl O)))] ++ (WX k a (nI d) F V M R ++ bw)) sz)) (va_Qi (fun (y : Int32) (u : Nat × (Nat → Nat → Int64) × (Nat → Nat → Int64) × (Nat → Int32) × (Nat → Int64)) => (y = 1 ∧ (¬ ∃ q : Nat, q < 4 ∧ z = nI q) ∧ u.1 = d ∧ u.2.1 = V ∧ u.2.2.1 = M ∧ u.2.2.2.1 = R) ∨ (y = 0 ∧ ∃ (g : Nat) (x : Int32), g < 4 ∧ z = nI g ∧ u.1 = d ∧ u.2.1 = V ∧ u.2.2.1 = M ∧ u.2.2.2.1 = R ∧ u.2.2.2.2 0 = x.toInt64 ∧ (g = 0 → x = R d) ∧ (g = 1 → x = nI (bsum (M d) 4)) ∧ (g = 2 → x = nI d) ∧ (g = 3 → x = nI (cnt (V d) 256)))) (fun u t => va_P D wCl ([(q0, .inl (k 0, 1, .inr (.inl u.2.2.2.2)))] ++ (WX k a (nI u.1) F u.2.1 u.2.2.1 u.2.2.2.1 ++ bw)) t.heap) (va_A ([(q0, .inl (k 0, 1, .inr (.inl O)))] ++ (WX k a (nI d) F V M R ++ bw)) sz)) 1 6 (va_A ([(q0, .inl (k 0, 1, .inr (.inl O)))] ++ (WX k a (nI d) F V M R ++ bw)) sz) := by
  refine va_MetW (cc := b_L_count) (maxL := 4) (ret := some .int) (by decide) rfl ?_
  intro p e s m args below meth c s₁ B hml hv
  obtain ⟨rfl, hsz, hP, hK, hD0, hE⟩ := hv
  have hx := B.exec
  have htab := vx_table (x := y_L_open) B (atoms_spec (ws := w_L_count :: TB) B.pre _ List.mem_cons_self)
  have hb := B.bytes
  have hr := B.returns
  have hts0 := atoms_spec (ws := w_L_count :: TB) B.pre
  have hts := fun w (hw : w ∈ TB) => hts0 w (List.mem_cons_of_mem _ hw)
  have hown : s.vm.findClass RL = some m.cls := findClass_of_methodNamed B.named
  have hlocks := B.notSynchronized
  subst hsz
  have hD := hD0.self (sz := s.heap.size)
  generalize hAe : va_A ([(q0, .inl (k 0, 1, .inr (.inl O)))] ++ (WX k a (nI d) F V M R ++ bw)) s.heap.size = A at *
  have hA : ∀ q : Nat, s.heap.size ≤ q → A q := fun q h => by rw [← hAe]; exact Or.inr h
  have hS : va_S A s.heap s.heap [] := va_S.rf
  have hl := lv_entry ([.ref (a 0), .int z, .ref q0]) (n := 4) (Nat.le_of_ble_eq_true rfl)
  rw [lg_entry_eq]
  generalize (lg_sl ([.ref (a 0), .int z, .ref q0]) ++ List.replicate (4 - (lg_sl ([.ref (a 0), .int z, .ref q0])).length) Slot.unset).toArray = ls at hl ⊢
  have hl : lv_has ls 4 [(0, .ref (a 0)), (1, .int z), (2, .ref q0)] := hl
  refine lv_aload_n hx hb d_L_count_0 rfl (lv_at hl 2 rfl) ?_
  refine lv_iconst (v := 0) hx hb d_L_count_1 (by decide) ?_
  refine lv_aload_n hx hb d_L_count_2 rfl (lv_at hl 0 rfl) ?_
  refine lv_iload_n hx hb d_L_count_3 rfl (lv_at hl 1 rfl) ?_
  refine vx_calli (vx_runV (As := [.int z]) (rest := [.int 0, .ref q0]) (C := RX) ⟨hx, hb, hml, hown, hts⟩ (m_X_count l hl0 D k a d hd F V M R z _) (cwV 1 hts (TB_g kl_L_39 ki_X_count ks_X_count kz_X (TB_c kc_X_count)) rfl rfl rfl (by decide +kernel) ⟨Nat.le_of_ble_eq_true rfl, Nat.le_of_ble_eq_true rfl⟩) ⟨PW.bl, va_recv (q := (RX, TX, 3)) (ci := 1) (q0 := 1) hK hP rfl rfl, fun U hU hW => ⟨rfl, PW.go hK (cut_P hP) (cut_D hD) hS hA hE hU hW⟩⟩ rfl rfl hl.1 rfl (lv_room (Nat.le_of_ble_eq_true rfl)) d_L_count_4 ⟨Nat.le_of_ble_eq_true rfl, Nat.le_of_ble_eq_true rfl⟩) hS (fun q _ h => cut_F (cut_D hD) hS hA q h) (cut_F (cut_D hD) hS hA) (fun q _ h => cut_F (cut_D hD) hS hA q h) (fun E ce q9 u t H1 locs1 ht hvm px hBX hz hk hS hcell hv9 hcl => ?_) (fun r1 uu t H1 locs1 ht hvm hpost hB hz hk hS => ?_)
  · obtain ⟨rfl, hB⟩ := hBX
    rw [ht] at hB
    obtain ⟨hP, hD⟩ := cut_J hP hD hk hB rfl
    refine ct_catch hown [] ⟨0, 9, 12, 25⟩ [] (htab.trans rfl) (fun z h => absurd h List.not_mem_nil) (by decide) (by decide) (hts _ kk_L_25) (va_Nw.use rfl (hE.1 _ nv_IllegalArgumentException)) hcell hv9 hcl ?_
    refine lv_astore_n (lv' := [(3, .ref q9), (0, .ref (a 0)), (1, .int z), (2, .ref q0)]) hx hb d_L_count_12 rfl hl (by decide) rfl (fun ls hl => ?_)
    refine lv_iconst (v := 1) hx hb d_L_count_13 (by decide) ?_
    exact W.iret (v := 1) hx hb hr (fun t ht hW => ⟨⟨_, (d, V, M, R, O), rfl, Or.inl ⟨rfl, px, rfl, rfl, rfl, rfl⟩, atP hP ht⟩, hS.F ht⟩) hS.2.2 d_L_count_14
  · rw [ht] at hB
    obtain ⟨g, hg, e1, e3⟩ := hpost
    obtain ⟨hP, hD⟩ := cut_J hP hD hk hB wx_ad
    refine lv_i2l hx hb d_L_count_7 rfl ?_
    refine va_last hx hb hK hP hD hS 0 0 rfl rfl (show vp_in (nI 0) 1 from vp_in_nI (by decide) (by decide)) d_L_count_8 (fun H locs hP hD hS => ?_)
    refine lv_goto (tgt := 15) hx hb d_L_count_9 (by decide) ?_
    refine lv_iconst (v := 0) hx hb d_L_count_15 (by decide) ?_
    exact W.iret (v := 0) hx hb hr (fun t ht hW => ⟨⟨_, (d, V, M, R, vp_updL O 0 (((r1) : Int32).toInt64)), rfl, Or.inr ⟨rfl, g, r1, hg, e1, rfl, rfl, rfl, rfl, rfl, e3⟩, atP hP ht⟩, hS.F ht⟩) hS.2.2 d_L_count_16
set_option maxHeartbeats 4000000 in
set_option maxRecDepth 100000 in
theorem m_L_store (l : Launch) (hl0 : l.stackTraces = false) (D : va_G) (k : Nat → ClassId) (a : Nat → Nat) (d : Nat) (hd : d ≤ 30) (F : Nat → Int64) (V M : Nat → Nat → Int64) (R : Nat → Int32) (q0 : Nat) (O : Nat → Int64) (bw : va_W) (o1 p1 : Int32) (x : Int64) (gas : Int32) (sz : Nat) : Met l y_L_store (w_L_store :: TB) rH2 (va_Pc [.ref (a 0), .int o1, .int p1, .long x, .int gas, .ref q0] (PW D k ([(q0, .inl (k 0, 1, .inr (.inl O)))] ++ (WX k a (nI d) F V M R ++ bw)) sz)) (va_Qi (fun (y : Int32) (u : Nat × (Nat → Nat → Int64) × (Nat → Nat → Int64) × (Nat → Int32) × (Nat → Int64)) => (y = 1 ∧ ¬ okP o1 p1 ∧ u.1 = d ∧ u.2.1 = V ∧ u.2.2.1 = M ∧ u.2.2.2.1 = R) ∨ (y = 2 ∧ ∃ g h : Nat, g < 4 ∧ h < 64 ∧ o1 = nI g ∧ p1 = nI h ∧ (gas ≤ 2300 ∨ ¬ fWC (F (g * 64 + h)) (V d (g * 64 + h)) x + (if tb (M d g) h then 0 else 2100) ≤ gas) ∧ u.1 = d ∧ u.2.1 = V ∧ u.2.2.1 = M ∧ u.2.2.2.1 = R) ∨ (y = 0 ∧ ∃ g h : Nat, g < 4 ∧ h < 64 ∧ o1 = nI g ∧ p1 = nI h ∧ ¬ gas ≤ 2300 ∧ fWC (F (g * 64 + h)) (V d (g * 64 + h)) x + (if tb (M d g) h then 0 else 2100) ≤ gas ∧ u.1 = d ∧ u.2.1 = va_up V d (vp_updL (V d) (g * 64 + h) x) ∧ u.2.2.1 = va_up M d (vp_updL (M d) g (tbs (M d g) h)) ∧ u.2.2.2.1 = va_up R d (R d + fRC (F (g * 64 + h)) (V d (g * 64 + h)) x) ∧ u.2.2.2.2 0 = (fWC (F (g * 64 + h)) (V d (g * 64 + h)) x + (if tb (M d g) h then 0 else 2100)).toInt64)) (fun u t => va_P D wCl ([(q0, .inl (k 0, 1, .inr (.inl u.2.2.2.2)))] ++ (WX k a (nI u.1) F u.2.1 u.2.2.1 u.2.2.2.1 ++ bw)) t.heap) (va_A ([(q0, .inl (k 0, 1, .inr (.inl O)))] ++ (WX k a (nI d) F V M R ++ bw)) sz)) 2 12 (va_A ([(q0, .inl (k 0, 1, .inr (.inl O)))] ++ (WX k a (nI d) F V M R ++ bw)) sz) := by
  refine va_MetW (cc := b_L_store) (maxL := 8) (ret := some .int) (by decide) rfl ?_
  intro p e s m args below meth c s₁ B hml hv
  obtain ⟨rfl, hsz, hP, hK, hD0, hE⟩ := hv
  have hx := B.exec
  have htab := vx_table (x := y_L_open) B (atoms_spec (ws := w_L_store :: TB) B.pre _ List.mem_cons_self)
  have hb := B.bytes
  have hr := B.returns
  have hts0 := atoms_spec (ws := w_L_store :: TB) B.pre
  have hts := fun w (hw : w ∈ TB) => hts0 w (List.mem_cons_of_mem _ hw)
  have hown : s.vm.findClass RL = some m.cls := findClass_of_methodNamed B.named
  have hlocks := B.notSynchronized
  subst hsz
  have hD := hD0.self (sz := s.heap.size)
  generalize hAe : va_A ([(q0, .inl (k 0, 1, .inr (.inl O)))] ++ (WX k a (nI d) F V M R ++ bw)) s.heap.size = A at *
  have hA : ∀ q : Nat, s.heap.size ≤ q → A q := fun q h => by rw [← hAe]; exact Or.inr h
  have hS : va_S A s.heap s.heap [] := va_S.rf
  have hl := lv_entry ([.ref (a 0), .int o1, .int p1, .long x, .int gas, .ref q0]) (n := 8) (Nat.le_of_ble_eq_true rfl)
  rw [lg_entry_eq]
  generalize (lg_sl ([.ref (a 0), .int o1, .int p1, .long x, .int gas, .ref q0]) ++ List.replicate (8 - (lg_sl ([.ref (a 0), .int o1, .int p1, .long x, .int gas, .ref q0])).length) Slot.unset).toArray = ls at hl ⊢
  have hl : lv_has ls 8 [(0, .ref (a 0)), (1, .int o1), (2, .int p1), (3, .long x), (5, .int gas), (6, .ref q0)] := hl
  refine lv_aload hx hb d_L_store_0 (lv_at hl 5 rfl) ?_
  refine lv_iconst (v := 0) hx hb d_L_store_2 (by decide) ?_
  refine lv_aload_n hx hb d_L_store_3 rfl (lv_at hl 0 rfl) ?_
  refine lv_iload_n hx hb d_L_store_4 rfl (lv_at hl 1 rfl) ?_
  refine lv_iload_n hx hb d_L_store_5 rfl (lv_at hl 2 rfl) ?_
  refine lv_lload_n hx hb d_L_store_6 rfl (lv_at hl 3 rfl) ?_
  refine lv_iload hx hb d_L_store_7 (lv_at hl 4 rfl) ?_
  refine vx_calli (vx_runV (As := [.int o1, .int p1, .long x, .int gas]) (rest := [.int 0, .ref q0]) (C := RX) ⟨hx, hb, hml, hown, hts⟩ (m_X_store l hl0 D k a d hd F V M R o1 p1 x gas _) (cwV 4 hts (TB_g kl_L_27 ki_X_store ks_X_store kz_X (TB_c kc_X_store)) rfl rfl rfl (by decide +kernel) ⟨Nat.le_of_ble_eq_true rfl, Nat.le_of_ble_eq_true rfl⟩) ⟨PW.bl, va_recv (q := (RX, TX, 3)) (ci := 1) (q0 := 1) hK hP rfl rfl, fun U hU hW => ⟨rfl, PW.go hK (cut_P hP) (cut_D hD) hS hA hE hU hW⟩⟩ rfl rfl hl.1 rfl (lv_room (Nat.le_of_ble_eq_true rfl)) d_L_store_9 ⟨Nat.le_of_ble_eq_true rfl, Nat.le_of_ble_eq_true rfl⟩) hS (fun q _ h => cut_F (cut_D hD) hS hA q h) (cut_F (cut_D hD) hS hA) (fun q _ h => cut_F (cut_D hD) hS hA q h) (fun E ce q9 u t H1 locs1 ht hvm px hBX hz hk hS hcell hv9 hcl => ?_) (fun r1 uu t H1 locs1 ht hvm hpost hB hz hk hS => ?_)
  · obtain ⟨hw, hB⟩ := hBX
    rcases hw with ⟨rfl, px⟩ | ⟨rfl, px⟩
    · rw [ht] at hB
      obtain ⟨hP, hD⟩ := cut_J hP hD hk hB rfl
      refine ct_catch hown [] ⟨0, 14, 17, 25⟩ [⟨0, 14, 21, 19⟩] (htab.trans rfl) (fun z h => absurd h List.not_mem_nil) (by decide) (by decide) (hts _ kk_L_25) (va_Nw.use rfl (hE.1 _ nv_IllegalArgumentException)) hcell hv9 hcl ?_
      refine lv_astore (lv' := [(7, .ref q9), (0, .ref (a 0)), (1, .int o1), (2, .int p1), (3, .long x), (5, .int gas), (6, .ref q0)]) hx hb d_L_store_17 hl (by decide) rfl (fun ls hl => ?_)
      refine lv_iconst (v := 1) hx hb d_L_store_19 (by decide) ?_
      exact W.iret (v := 1) hx hb hr (fun t ht hW => ⟨⟨_, (d, V, M, R, O), rfl, Or.inl ⟨rfl, px, rfl, rfl, rfl, rfl⟩, atP hP ht⟩, hS.F ht⟩) hS.2.2 d_L_store_20
    · rw [ht] at hB
      obtain ⟨hP, hD⟩ := cut_J hP hD hk hB rfl
      refine ct_catch hown [⟨0, 14, 17, 25⟩] ⟨0, 14, 21, 19⟩ [] (htab.trans rfl) (fun z h => by rw [List.mem_singleton.mp h]; exact Or.inr ⟨by decide, EIAE, hts _ kk_L_25, hE.2.2.2.2.2.2.2.2⟩) (by decide) (by decide) (hts _ kk_L_19) (va_Nw.use rfl (hE.1 _ nv_IllegalStateException)) hcell hv9 hcl ?_
      refine lv_astore (lv' := [(7, .ref q9), (0, .ref (a 0)), (1, .int o1), (2, .int p1), (3, .long x), (5, .int gas), (6, .ref q0)]) hx hb d_L_store_21 hl (by decide) rfl (fun ls hl => ?_)
      refine lv_iconst (v := 2) hx hb d_L_store_23 (by decide) ?_
      exact W.iret (v := 2) hx hb hr (fun t ht hW => ⟨⟨_, (d, V, M, R, O), rfl, Or.inr (Or.inl (by obtain ⟨g, h, hg, hh, e1, e2, e3⟩ := px; exact ⟨rfl, g, h, hg, hh, e1, e2, e3, rfl, rfl, rfl, rfl⟩)), atP hP ht⟩, hS.F ht⟩) hS.2.2 d_L_store_24
  · rw [ht] at hB
    obtain ⟨V2, M2, R2⟩ := uu
    obtain ⟨g, h, hg, hh, e1, e2, e3, e4, e5, e6, e7, e8⟩ := hpost
    dsimp only at e6 e7 e8 hB
    subst e6 e7 e8
    obtain ⟨hP, hD⟩ := cut_J hP hD hk hB wx_ad
    refine lv_i2l hx hb d_L_store_12 rfl ?_
    refine va_last hx hb hK hP hD hS 0 0 rfl rfl (show vp_in (nI 0) 1 from vp_in_nI (by decide) (by decide)) d_L_store_13 (fun H locs hP hD hS => ?_)
    refine lv_goto (tgt := 25) hx hb d_L_store_14 (by decide) ?_
    refine lv_iconst (v := 0) hx hb d_L_store_25 (by decide) ?_
    exact W.iret (v := 0) hx hb hr (fun t ht hW => ⟨⟨_, (d, va_up V d (vp_updL (V d) (g * 64 + h) x), va_up M d (vp_updL (M d) g (tbs (M d g) h)), va_up R d (R d + fRC (F (g * 64 + h)) (V d (g * 64 + h)) x), vp_updL O 0 (((r1) : Int32).toInt64)), rfl, Or.inr (Or.inr ⟨rfl, g, h, hg, hh, e1, e2, e4, e5, rfl, rfl, rfl, rfl, by rw [e3]; exact rfl⟩), atP hP ht⟩, hS.F ht⟩) hS.2.2 d_L_store_26
end
section
/-! class and reference side by side: what ties their states, and that every call keeps it -/
def RI (d : Nat) (F : Nat → Int64) (V M : Nat → Nat → Int64) (R : Nat → Int32) (N G : Nat → Int64) (t : Nat → Bool) (KR : Nat → Int32) (K : Nat → Nat → Int64) (T : Nat → Nat → Bool) (r : Int32) : Prop :=
  d ≤ 30 ∧ (∀ j, j < 256 → G j = F j) ∧ (∀ j, j < 256 → N j = V d j) ∧ (∀ u v, u < 4 → v < 64 → t (u * 64 + v) = tb (M d u) v) ∧ r = R d ∧ ∀ i, i < d → (∀ j, j < 256 → K (i + 1) j = V i j) ∧ (∀ u v, u < 4 → v < 64 → T (i + 1) (u * 64 + v) = tb (M i u) v) ∧ KR (i + 1) = R i
theorem cnt_congr {f g : Nat → Int64} : ∀ n, (∀ j, j < n → f j = g j) → cnt f n = cnt g n
  | 0, _ => rfl
  | n + 1, h => by
    show cnt f n + _ = cnt g n + _
    rw [cnt_congr n (fun j hj => h j (by omega)), h n (by omega)]
theorem tb_0 (v : Nat) : tb 0 v = false := by simp [tb]
theorem cpyL {f g : Nat → Int64} {n j : Nat} (h : j < n) : va_cpy f g 0 0 n j = f j := by
  rw [pk_cpy_in (Nat.zero_le j) (by omega), Nat.zero_add, Nat.sub_zero]
section RIS
variable {d : Nat} {F : Nat → Int64} {V M : Nat → Nat → Int64} {R : Nat → Int32} {N G : Nat → Int64} {t : Nat → Bool} {KR : Nat → Int32} {K : Nat → Nat → Int64} {T : Nat → Nat → Bool} {r : Int32}
theorem ri_begin (h : RI d F V M R N G t KR K T r) {F2 G2 : Nat → Int64} {V2 M2 : Nat → Nat → Int64} {R2 : Nat → Int32} {t2 : Nat → Bool} (h1 : ∀ j, j < 256 → V2 0 j = V d j) (h2 : ∀ j, j < 256 → F2 j = V d j) (h3 : ∀ q, q < 4 → M2 0 q = 0) (h4 : R2 0 = 0) (h5 : ∀ j, j < 256 → G2 j = N j) (h6 : ∀ j, j < 256 → t2 j = false) :
    RI 0 F2 V2 M2 R2 N G2 t2 KR K T 0 ∧ cnt (V2 0) 256 = cnt N 256 := by
  obtain ⟨hd, hF, hN, ht, hr, hi⟩ := h
  refine ⟨⟨by omega, fun j hj => by rw [h5 j hj, h2 j hj, hN j hj], fun j hj => by rw [h1 j hj, hN j hj], fun u v hu hv => ?_, h4.symm, fun i hi => absurd hi (Nat.not_lt_zero i)⟩, cnt_congr 256 (fun j hj => by rw [h1 j hj, hN j hj])⟩
  rw [h6 _ (by omega), h3 u hu, tb_0]
theorem ri_open (h : RI d F V M R N G t KR K T r) (hd : d < 30) {g : Nat → Int64} {g2 : Nat → Bool} (hg : ∀ j, j < 256 → g j = N j) (hg2 : ∀ j, j < 256 → g2 j = t j) :
    RI (d + 1) F (va_up V (d + 1) (va_cpy (V d) (V (d + 1)) 0 0 256)) (va_up M (d + 1) (va_cpy (M d) (M (d + 1)) 0 0 4)) (va_up R (d + 1) (R d)) N G t (upd KR (d + 1) r) (va_up K (d + 1) g) (va_up T (d + 1) g2) r := by
  obtain ⟨-, hF, hN, ht, hr, hi⟩ := h
  refine ⟨by omega, hF, fun j hj => ?_, fun u v hu hv => ?_, ?_, fun i hid => ?_⟩
  · rw [va_up_self, cpyL hj, hN j hj]
  · rw [va_up_self, cpyL hu, ht u v hu hv]
  · rw [va_up_self, hr]
  · have e1 : i ≠ d + 1 := by omega
    rw [va_up_ne V _ e1, va_up_ne M _ e1, va_up_ne R _ e1]
    by_cases hq : i = d
    · subst hq
      rw [va_up_self, va_up_self, pk_us]
      exact ⟨fun j hj => by rw [hg j hj, hN j hj], fun u v hu hv => by rw [hg2 _ (by omega), ht u v hu hv], hr⟩
    · have e2 : i + 1 ≠ d + 1 := by omega
      rw [va_up_ne K _ e2, va_up_ne T _ e2, pk_un e2]
      exact hi i (by omega)
theorem ri_good {f : Nat} (h : RI (f + 1) F V M R N G t KR K T r) : RI f F (va_up V f (va_cpy (V (f + 1)) (V f) 0 0 256)) (va_up M f (va_cpy (M (f + 1)) (M f) 0 0 4)) (va_up R f (R (f + 1))) N G t KR K T r := by
  obtain ⟨hd, hF, hN, ht, hr, hi⟩ := h
  refine ⟨by omega, hF, fun j hj => ?_, fun u v hu hv => ?_, ?_, fun i hid => ?_⟩
  · rw [va_up_self, cpyL hj, hN j hj]
  · rw [va_up_self, cpyL hu, ht u v hu hv]
  · rw [va_up_self, hr]
  · have e1 : i ≠ f := by omega
    rw [va_up_ne V _ e1, va_up_ne M _ e1, va_up_ne R _ e1]
    exact hi i (by omega)
theorem ri_bad {f : Nat} (h : RI (f + 1) F V M R N G t KR K T r) {N2 : Nat → Int64} {t2 : Nat → Bool} {r2 : Int32} (h1 : ∀ j, j < 256 → N2 j = K (f + 1) j) (h2 : ∀ j, j < 256 → t2 j = T (f + 1) j) (h3 : r2 = KR (f + 1)) : RI f F V M R N2 G t2 KR K T r2 := by
  obtain ⟨hd, hF, hN, ht, hr, hi⟩ := h
  obtain ⟨k1, k2, k3⟩ := hi f (by omega)
  exact ⟨by omega, hF, fun j hj => by rw [h1 j hj, k1 j hj], fun u v hu hv => by rw [h2 _ (by omega), k2 u v hu hv], by rw [h3, k3], fun i hid => hi i (by omega)⟩
theorem ri_mark {M1 : Nat → Int64} {t : Nat → Bool} (ht : ∀ u v, u < 4 → v < 64 → t (u * 64 + v) = tb (M1 u) v) {g h : Nat} (hg : g < 4) (hh : h < 64) : ∀ u v, u < 4 → v < 64 → va_up t (g * 64 + h) true (u * 64 + v) = tb (vp_updL M1 g (tbs (M1 g) h) u) v := by
  intro u v hu hv
  by_cases e : u = g
  · subst e
    rw [pk_uLs, tb_set _ hh hv]
    by_cases e2 : v = h
    · subst e2
      rw [va_up_self, decide_eq_true rfl, Bool.or_true]
    · rw [va_up_ne _ _ (by omega), decide_eq_false e2, Bool.or_false, ht u v hu hv]
  · rw [pk_uLn e, va_up_ne _ _ (by omega), ht u v hu hv]
theorem ri_load (q : RI d F V M R N G t KR K T r) {g h : Nat} (hg : g < 4) (hh : h < 64) : RI d F V (va_up M d (vp_updL (M d) g (tbs (M d g) h))) R N G (va_up t (g * 64 + h) true) KR K T r := by
  obtain ⟨hd, hF, hN, ht, hr, hi⟩ := q
  refine ⟨hd, hF, hN, fun u v hu hv => ?_, hr, fun i hid => ?_⟩
  · rw [va_up_self]
    exact ri_mark ht hg hh u v hu hv
  · rw [va_up_ne M _ (show i ≠ d by omega)]
    exact hi i hid
theorem ri_store (q : RI d F V M R N G t KR K T r) {g h : Nat} (hg : g < 4) (hh : h < 64) (x : Int64) (w : Int32) : RI d F (va_up V d (vp_updL (V d) (g * 64 + h) x)) (va_up M d (vp_updL (M d) g (tbs (M d g) h))) (va_up R d (R d + w)) (vp_updL N (g * 64 + h) x) G (va_up t (g * 64 + h) true) KR K T (r + w) := by
  obtain ⟨hd, hF, hN, ht, hr, hi⟩ := q
  refine ⟨hd, hF, fun j hj => ?_, fun u v hu hv => ?_, by rw [va_up_self, hr], fun i hid => ?_⟩
  · rw [va_up_self]
    by_cases e : j = g * 64 + h
    · rw [e, pk_uLs, pk_uLs]
    · rw [pk_uLn e, pk_uLn e, hN j hj]
  · rw [va_up_self]
    exact ri_mark ht hg hh u v hu hv
  · rw [va_up_ne M _ (show i ≠ d by omega), va_up_ne V _ (show i ≠ d by omega), va_up_ne R _ (show i ≠ d by omega)]
    exact hi i hid
end RIS
theorem cntb_word {t : Nat → Bool} {x : Int64} {b : Nat} (h : ∀ v, v < 64 → t (b + v) = tb x v) : ∀ n, n ≤ 64 → cntb t (b + n) = cntb t b + pz_n x.toBitVec.toNat n
  | 0, _ => rfl
  | n + 1, hn => by
    show cntb t (b + n) + (if t (b + n) then 1 else 0) = cntb t b + (pz_n x.toBitVec.toNat n + x.toBitVec.toNat / 2 ^ n % 2)
    rw [cntb_word h n (by omega), h n (by omega)]
    have e : tb x n = decide (x.toBitVec.toNat / 2 ^ n % 2 = 1) := by
      show x.toBitVec.toNat.testBit n = _
      exact Nat.testBit_eq_decide_div_mod_eq
    rw [e]
    by_cases q : x.toBitVec.toNat / 2 ^ n % 2 = 1
    · rw [decide_eq_true q, q]; rfl
    · rw [decide_eq_false q]
      have : x.toBitVec.toNat / 2 ^ n % 2 = 0 := by omega
      rw [this]; rfl
theorem cntb_all {t : Nat → Bool} {f : Nat → Int64} (h : ∀ u v, u < 4 → v < 64 → t (u * 64 + v) = tb (f u) v) : bsum f 4 = cntb t 256 := by
  have key : ∀ n, n ≤ 4 → bsum f n = cntb t (n * 64) := by
    intro n
    induction n with
    | zero => intro _; rfl
    | succ n ih =>
      intro hn
      show bsum f n + pz_n (f n).toBitVec.toNat 64 = _
      rw [ih (by omega), show (n + 1) * 64 = n * 64 + 64 by omega]
      exact (cntb_word (h n · (by omega)) 64 (by omega)).symm
  exact key 4 (by omega)
end
section
/-! the law: one call of the script -/
def R_law : String := "StorageCostsLaw"
def lw_P (b : Addr) (xs : List Int32) (args : Array Value) (s : State) : Prop := args = #[.ref b] ∧ s.IntsAt b xs ∧ xs.length ≤ 3072 ∧ (Jvm.Cond.and given_1 narrow_1).before args s = true
def lw_Q (_ : Array Value) (s : State) (o : Outcome) (t : State) : Prop := o = .returned (some (.int 1)) ∧ Framed s o t [] 601024 7293034
def lw_Z (below : List Frame) (a : Array Value) (s : State) : State → Prop := fun t => ∃ o, t.status = .running ∧ Ended t below o ∧ lw_Q a s o t
/-- the law's own end, with 1 on the stack, nothing written that was there before, its room as the claim has it -/
theorem lw_ret {p : Program} {l : Launch} {e : Env} {s : State} {m : MethodId} {below : List Frame} {meth : Method} {c : Code} {b : Nat} (hx : p.tables.exec = Jvm.exec) (hb : c.code = code) (hr : meth.sig.returnType = ret) (hlocks : meth.locks = false) {pc : Nat} {H : Heap} {ls : Array Slot} (hdg : decode code pc = .ok (.ireturn, 1)) : W p l e room_1 s m #[Value.ref b] below meth c H [] 601024 7293034 (lw_Z below #[Value.ref b] s) (F0 m pc ls [.int 1]) := by
  intro T hT X
  obtain ⟨fs, hret, hrun, hended, hW, hframe⟩ := X.leave (v := some (.int 1)) (hlocks := hlocks) (fun h => by rw [hr] at h; cases h)
  have hmeth' : T.vm.method? m = some meth := X.method'
  refine ⟨T.setFrames fs, ?_, .returned (some (.int 1)), hrun, hended, rfl, ⟨_, rfl⟩, hW, hframe⟩
  jvm_step X.here [X.here.top, hx, hb, hdg, hmeth', hr, ret, narrow_b1]
  (try refine ⟨rfl, ?_⟩); (try refine ⟨rfl, ?_⟩)
  first | (intro acts; rw [hret _ acts rfl rfl rfl]) | rw [hret _ _ rfl rfl rfl]
  exact Steps.refl _
/-- what holds at the law's entry: the machine, the code, the tables' words (any of lw_tbl by 'hts w (by decide +kernel)'), the script of L ints xs at the cell b, what the Statement gives of the start (any of its parts by flat_of_before) -/
def lw_At (p : Program) (s : State) (m : MethodId) (meth : Method) (c : Code) (b L : Nat) (xs : Nat → Int32) : Prop :=
  p.tables.exec = Jvm.exec ∧ c.code = code ∧ meth.sig.returnType = ret ∧ c.maxLocals = 8 ∧ s.vm.findClass R_law = some m.cls ∧ (∀ w ∈ lw_tbl, w.before #[Value.ref b] s = true) ∧ va_X b L xs s s.heap ∧ b < s.heap.size ∧ meth.locks = false ∧ (Jvm.Cond.and given_1 narrow_1).before #[Value.ref b] s = true

/-- the law's cells: out, the class's object, the reference's -/
abbrev lwW (k : Nat → ClassId) (a b : Nat → Nat) (q0 d : Nat) (F : Nat → Int64) (V M : Nat → Nat → Int64) (R : Nat → Int32) (O : Nat → Int64) (f r : Int32) (N G : Nat → Int64) (t : Nat → Bool) (KR : Nat → Int32) (K : Nat → Nat → Int64) (T : Nat → Nat → Bool) : va_W :=
  [(q0, .inl (k 0, 1, .inr (.inl O)))] ++ (WX k a (nI d) F V M R ++ WM k b f r (nI d) N G (zb t) KR K (fun i => zb (T i)))
theorem lw_ad {k : Nat → ClassId} {a : Nat → Nat} {q0 : Nat} {d1 d2 : Int32} {F F2 : Nat → Int64} {V M V2 M2 : Nat → Nat → Int64} {R R2 : Nat → Int32} {O O2 : Nat → Int64} {bw : va_W} :
    ([(q0, .inl (k 0, 1, .inr (.inl O)))] ++ (WX k a d1 F V M R ++ bw) : va_W).map Prod.fst = ([(q0, .inl (k 0, 1, .inr (.inl O2)))] ++ (WX k a d2 F2 V2 M2 R2 ++ bw) : va_W).map Prod.fst := by
  rw [List.map_append, List.map_append, List.map_append, List.map_append, wx_ad (d := d1) (d' := d2) (F' := F2) (V' := V2) (M' := M2) (R' := R2)]
  rfl
theorem lwA (x : Nat × va_E) (A B : va_W) : [x] ++ (A ++ B) = ([x] ++ A) ++ (B ++ []) := by simp
theorem cutM_P {D : va_G} {cl : List vw_C} {x : Nat × va_E} {A B : va_W} {H : Heap} (h : va_P D cl ([x] ++ (A ++ B)) H) : va_P D cl B H := by
  rw [lwA] at h; exact cut_P h
theorem cutM_D {Z : Nat → Prop} {x : Nat × va_E} {A B : va_W} (h : va_D Z ([x] ++ (A ++ B))) : va_D Z B := by
  rw [lwA] at h; exact cut_D h
theorem cutM_J {A0 : Nat → Prop} {D : va_G} {cl : List vw_C} {x : Nat × va_E} {A B B1 : va_W} {H H1 : Heap} (hP : va_P D cl ([x] ++ (A ++ B)) H) (hD : va_D A0 ([x] ++ (A ++ B))) (hk : ∀ q : Nat, q < H.size → ¬ va_A B H.size q → H1[q]? = H[q]?) (hP1 : va_P D cl B1 H1) (e : B1.map Prod.fst = B.map Prod.fst) :
    va_P D cl ([x] ++ (A ++ B1)) H1 ∧ va_D A0 ([x] ++ (A ++ B1)) := by
  rw [lwA] at hP hD ⊢
  exact cut_J hP hD hk hP1 e
theorem nI_u {u v : Nat} (hu : u < 64) (hv : v < 64) (h : nI u = nI v) : u = v := (nI_eq (by omega) (by omega)).mp h
theorem scr_in {n j L : Nat} (h : n + j < L) (hL : L ≤ 3072) {y : Int32} (hy : y = nI j := by rfl) : vp_in (nI n + y) L := by
  rw [hy, nI_add]; exact vp_in_nI h (by omega)
/-- from the place pc of the law on, with n ints read, all goes well -/
def lwS (p : Program) (l : Launch) (e : Env) (s : State) (m : MethodId) (below : List Frame) (meth : Method) (c : Code) (D : va_G) (k : Nat → ClassId) (a b : Nat → Nat) (q0 b0 n pc cells slots : Nat) : Prop :=
  ∀ (d : Nat) (F : Nat → Int64) (V M : Nat → Nat → Int64) (R : Nat → Int32) (f r : Int32) (N G : Nat → Int64) (t : Nat → Bool) (KR : Nat → Int32) (K : Nat → Nat → Int64) (T : Nat → Nat → Bool) (O : Nat → Int64) (H : Heap) (locs : List Loc) (ls : Array Slot),
    RI d F V M R N G t KR K T r → va_P D wCl (lwW k a b q0 d F V M R O f r N G t KR K T) H → va_D (fun q : Nat => s.heap.size ≤ q) (lwW k a b q0 d F V M R O f r N G t KR K T) → va_S (fun q : Nat => s.heap.size ≤ q) s.heap H locs →
    lv_has ls 8 [(0, .ref b0), (1, .ref (a 0)), (2, .ref (b 0)), (3, .ref q0), (4, .int (nI n))] → W p l e room_1 s m #[Value.ref b0] below meth c H locs cells slots (lw_Z below #[Value.ref b0] s) (F0 m pc ls [])

set_option maxHeartbeats 4000000 in
set_option maxRecDepth 100000 in
theorem law_begin {p : Program} {l : Launch} {e : Env} {s : State} {m : MethodId} {below : List Frame} {meth : Method} {c : Code} {D : va_G} {k : Nat → ClassId} {a b : Nat → Nat} {q0 b0 L : Nat} {xs : Nat → Int32} (hl0 : l.stackTraces = false) (hL : L ≤ 3072) (C0 : lw_At p s m meth c b0 L xs) (hK : va_K D wCl (tyL k) s) (hE : EV (fun q : Nat => s.heap.size ≤ q) s) {n cells slots : Nat} (hn : n + 6 ≤ L) (hc : cells + 2 ≤ 601024) (hs : slots + 12 ≤ 7293034) (kk : lwS p l e s m below meth c D k a b q0 b0 n 635 (cells + 2) (slots + 12)) : lwS p l e s m below meth c D k a b q0 b0 n 88 (cells) (slots) := by
  obtain ⟨hx, hb, hr, hml, hown, hts0, hX, hbl, hlocks, hgv⟩ := C0
  have hts := TB_in hts0
  have hown : s.vm.findClass RL = some m.cls := hown
  have hA : ∀ q : Nat, s.heap.size ≤ q → (fun q : Nat => s.heap.size ≤ q) q := fun _ h => h
  have hbA : ¬ (fun q : Nat => s.heap.size ≤ q) b0 := Nat.not_le.mpr hbl
  intro d F V M R f r N G t KR K T O H locs ls hI hP hD hS hl
  have hd : d ≤ 30 := hI.1
  refine lv_aload_n hx hb d_L_law_88 rfl (lv_at hl 1 rfl) ?_
  refine va_calli (va_runV (As := []) (rest := []) (C := RX) ⟨hx, hb, hml, hown, hts⟩ (m_X_begin l D k a d hd F V M R _) (cwV 0 hts (TB_g kl_L_47 ki_X_begin ks_X_begin kz_X (TB_c kc_X_begin)) rfl rfl rfl (by decide +kernel) ⟨Nat.le_of_ble_eq_true rfl, Nat.le_of_ble_eq_true rfl⟩) ⟨PW.bl, va_recv (q := (RX, TX, 3)) (ci := 1) (q0 := 1) hK hP rfl rfl, fun U hU hW => ⟨rfl, PW.go hK (cut_P hP) (cut_D hD) hS hA hE hU hW⟩⟩ rfl rfl hl.1 rfl (lv_room (Nat.le_of_ble_eq_true rfl)) d_L_law_89 ⟨(show cells + 0 ≤ 601024 by omega), (show slots + 0 ≤ 7293034 by omega)⟩) hS (fun q _ h => cut_F (cut_D hD) hS hA q h) (cut_F (cut_D hD) hS hA) (fun y uu t1 H1 locs1 ht hvm hpost hB hz hk hS => ?_)
  obtain ⟨F2, V2, M2, R2⟩ := uu
  obtain ⟨g1, g2, g3, g4, g5⟩ := hpost
  dsimp only at g1 g2 g3 g4 g5 hB
  rw [ht] at hB
  obtain ⟨hP, hD⟩ := cut_J hP hD hk hB wx_ad
  generalize H1 = H at hP hS ⊢
  generalize locs1 = locs at hS ⊢
  refine lv_aload_n hx hb d_L_law_92 rfl (lv_at hl 2 rfl) ?_
  refine va_calli (va_runV (As := []) (rest := [.int y]) (C := RM) ⟨hx, hb, hml, hown, hts⟩ (m_M_begin l D k b f r (nI d) N G t KR K T _) (cwV 0 hts (TB_g kl_L_50 ki_M_begin ks_M_begin kz_M (TB_c kc_M_begin)) rfl rfl rfl (by decide +kernel) ⟨Nat.le_of_ble_eq_true rfl, Nat.le_of_ble_eq_true rfl⟩) ⟨PW.bl, va_recv (q := (RM, TM, 9)) (ci := 2) (q0 := 0) hK (cutM_P hP) rfl rfl, fun U hU hW => ⟨rfl, PW.go hK (cutM_P hP) (cutM_D hD) hS hA hE hU hW⟩⟩ rfl rfl hl.1 rfl (lv_room (Nat.le_of_ble_eq_true rfl)) d_L_law_93 ⟨(show cells + 0 + 0 ≤ 601024 by omega), (show slots + 0 + 0 ≤ 7293034 by omega)⟩) hS (fun q _ h => cut_F (cutM_D hD) hS hA q h) (cut_F (cutM_D hD) hS hA) (fun x ww t2 H1 locs1 ht hvm hpost2 hB hz hk hS => ?_)
  rw [ht] at hB
  obtain ⟨hP, hD⟩ := cutM_J hP hD hk hB wm_ad
  generalize H1 = H at hP hS ⊢
  generalize locs1 = locs at hS ⊢
  obtain ⟨G2, t2⟩ := ww
  obtain ⟨g6, g7, g8⟩ := hpost2
  dsimp only at g6 g7 g8 hP hD
  obtain ⟨hI2, hcn⟩ := ri_begin hI g1 g2 g3 g4 g6 g7
  refine lv_icmp_eq (tgt := 635) hx hb d_L_law_96 (by decide) (fun c_96 => ?_) (fun c_96 => ?_)
  · refine W.widen (k := cells + 2) (n := slots + 12) (by omega) (by omega) ?_
    exact kk 0 F2 V2 M2 R2 0 0 N G2 t2 KR K T O H locs ls hI2 hP hD hS (lv_sub hl [0, 1, 2, 3, 4] rfl)
  · exact absurd (by rw [g5, g8, hcn]) c_96
set_option maxHeartbeats 4000000 in
set_option maxRecDepth 100000 in
theorem law_open {p : Program} {l : Launch} {e : Env} {s : State} {m : MethodId} {below : List Frame} {meth : Method} {c : Code} {D : va_G} {k : Nat → ClassId} {a b : Nat → Nat} {q0 b0 L : Nat} {xs : Nat → Int32} (hl0 : l.stackTraces = false) (hL : L ≤ 3072) (C0 : lw_At p s m meth c b0 L xs) (hK : va_K D wCl (tyL k) s) (hE : EV (fun q : Nat => s.heap.size ≤ q) s) {n cells slots : Nat} (hn : n + 6 ≤ L) (hc : cells + 2 ≤ 601024) (hs : slots + 12 ≤ 7293034) (kk : lwS p l e s m below meth c D k a b q0 b0 n 635 (cells + 2) (slots + 12)) : lwS p l e s m below meth c D k a b q0 b0 n 101 (cells) (slots) := by
  obtain ⟨hx, hb, hr, hml, hown, hts0, hX, hbl, hlocks, hgv⟩ := C0
  have hts := TB_in hts0
  have hown : s.vm.findClass RL = some m.cls := hown
  have hA : ∀ q : Nat, s.heap.size ≤ q → (fun q : Nat => s.heap.size ≤ q) q := fun _ h => h
  have hbA : ¬ (fun q : Nat => s.heap.size ≤ q) b0 := Nat.not_le.mpr hbl
  intro d F V M R f r N G t KR K T O H locs ls hI hP hD hS hl
  have hd : d ≤ 30 := hI.1
  refine lv_aload_n hx hb d_L_law_101 rfl (lv_at hl 1 rfl) ?_
  refine lv_aload_n hx hb d_L_law_102 rfl (lv_at hl 3 rfl) ?_
  refine va_calli (vx_runSW (As := [.ref (a 0), .ref q0]) (rest := []) ⟨hx, hb, hml, hown, hts⟩ (m_L_open l hl0 D k a d hd F V M R q0 O _ _) (vx_cwSW 2 hts (TB_g3 kl_L_51 kt_L_open kz_L (TB_c kc_L_open)) rfl rfl rfl (by decide +kernel) ⟨Nat.le_of_ble_eq_true rfl, Nat.le_of_ble_eq_true rfl⟩) ⟨PW.bl, fun U hU hW => ⟨rfl, PW.go hK hP hD hS hA hE hU hW⟩⟩ rfl rfl hl.1 rfl (lv_room (Nat.le_of_ble_eq_true rfl)) d_L_law_103 ⟨(show cells + 1 ≤ 601024 by omega), (show slots + 6 ≤ 7293034 by omega)⟩) hS (fun q _ h => cut_F hD hS hA q h) (cut_F hD hS hA) (fun y uu t1 H1 locs1 ht hvm hpost hB hz hk hS => ?_)
  obtain ⟨d2, V2, M2, R2, O2⟩ := uu
  dsimp only at hpost hB
  rw [ht] at hB
  have hP := hB
  have hD := hD.ad (lw_ad (d1 := nI d2) (F := F) (V := V2) (M := M2) (R := R2) (O := O2))
  generalize H1 = H at hP hS ⊢
  generalize locs1 = locs at hS ⊢
  refine lv_istore (lv' := [(5, .int y), (0, .ref b0), (1, .ref (a 0)), (2, .ref (b 0)), (3, .ref q0), (4, .int (nI n))]) hx hb d_L_law_106 hl (by decide) rfl (fun ls hl => ?_)
  refine lv_aload_n hx hb d_L_law_108 rfl (lv_at hl 3 rfl) ?_
  refine va_calli (va_runV (As := []) (rest := []) (C := RM) ⟨hx, hb, hml, hown, hts⟩ (m_M_open l D k b f r d hd N G t KR K T _) (cwV 0 hts (TB_g kl_L_56 ki_M_open ks_M_open kz_M (TB_c kc_M_open)) rfl rfl rfl (by decide +kernel) ⟨Nat.le_of_ble_eq_true rfl, Nat.le_of_ble_eq_true rfl⟩) ⟨PW.bl, va_recv (q := (RM, TM, 9)) (ci := 2) (q0 := 0) hK (cutM_P hP) rfl rfl, fun U hU hW => ⟨rfl, PW.go hK (cutM_P hP) (cutM_D hD) hS hA hE hU hW⟩⟩ rfl rfl hl.1 rfl (lv_room (Nat.le_of_ble_eq_true rfl)) d_L_law_109 ⟨(show cells + 1 + 0 ≤ 601024 by omega), (show slots + 6 + 0 ≤ 7293034 by omega)⟩) hS (fun q _ h => cut_F (cutM_D hD) hS hA q h) (cut_F (cutM_D hD) hS hA) (fun x ww t2 H1 locs1 ht hvm hpost2 hB hz hk hS => ?_)
  rw [ht] at hB
  obtain ⟨hP, hD⟩ := cutM_J hP hD hk hB wm_ad
  generalize H1 = H at hP hS ⊢
  generalize locs1 = locs at hS ⊢
  obtain ⟨f2, d3, KR2, K2, T2⟩ := ww
  dsimp only at hpost2 hP hD
  rcases hpost with ⟨e0, hno, e1, e2, e3, e4⟩ | ⟨e0, hyes, e1, e2, e3, e4, e5⟩
  · rcases hpost2 with ⟨hno2, g1, g2⟩ | ⟨hyes2, -⟩
    rotate_left
    · exact absurd hyes2 hno
    obtain ⟨rfl, rfl, rfl, rfl, rfl⟩ : 1 = f2 ∧ d = d3 ∧ KR = KR2 ∧ K = K2 ∧ T = T2 := by injection g2 with g2 g3; injection g3 with g3 g4; injection g4 with g4 g5; injection g5 with g5 g6; exact ⟨g2.symm, g3.symm, g4.symm, g5.symm, g6.symm⟩
    have e1 := e1.symm
    have e2 := e2.symm
    have e3 := e3.symm
    have e4 := e4.symm
    subst e0 e1 e2 e3 e4
    refine lv_istore (lv' := [(6, .int x), (5, .int 1), (0, .ref b0), (1, .ref (a 0)), (2, .ref (b 0)), (3, .ref q0), (4, .int (nI n))]) hx hb d_L_law_112 hl (by decide) rfl (fun ls hl => ?_)
    refine lv_aload_n hx hb d_L_law_114 rfl (lv_at hl 4 rfl) ?_
    refine vp_callSi (va_runV (As := []) (rest := []) (C := RM) ⟨hx, hb, hml, hown, hts⟩ (m_M_thrown l D k b 1 r (nI d) N G t KR K T _) (cwV 0 hts (TB_g kl_L_57 ki_M_thrown ks_M_thrown kz_M (TB_c kc_M_thrown)) rfl rfl rfl (by decide +kernel) ⟨Nat.le_of_ble_eq_true rfl, Nat.le_of_ble_eq_true rfl⟩) ⟨PW.bl, va_recv (q := (RM, TM, 9)) (ci := 2) (q0 := 0) hK (cutM_P hP) rfl rfl, fun U hU hW => ⟨rfl, PW.go hK (cutM_P hP) (cutM_D hD) hS hA hE hU hW⟩⟩ rfl rfl hl.1 rfl (lv_room (Nat.le_of_ble_eq_true rfl)) d_L_law_115 ⟨(show cells + 1 + 0 + 0 ≤ 601024 by omega), (show slots + 6 + 0 + 0 ≤ 7293034 by omega)⟩).run (fun h1 hh1 => ?_)
    subst hh1
    refine lv_iload hx hb d_L_law_118 (lv_at hl 1 rfl) ?_
    refine lv_icmp_eq (tgt := 125) hx hb d_L_law_120 (by decide) (fun c_120 => ?_) (fun c_120 => ?_)
    · refine lv_iload hx hb d_L_law_125 (lv_at hl 1 rfl) ?_
      refine lv_if_ne (tgt := 142) hx hb d_L_law_127 (by decide) (fun c_127 => ?_) (fun c_127 => ?_)
      · refine lv_goto (tgt := 635) hx hb d_L_law_142 (by decide) ?_
        refine W.widen (k := cells + 2) (n := slots + 12) (by omega) (by omega) ?_
        exact kk d F V M R 1 r N G t KR K T O2 H locs ls hI hP hD hS (lv_sub hl [2, 3, 4, 5, 6] rfl)
      · exact absurd c_127 (by decide)
    · exact absurd rfl c_120
  · rcases hpost2 with ⟨hno2, -⟩ | ⟨-, g1, g2, g3, g4, ⟨gg, hgg, g5⟩, ⟨gh, hgh, g6⟩⟩
    · exact absurd hyes hno2
    subst e0 e1 e2 e3 e4 g1 g2 g3 g4 g5 g6
    refine lv_istore (lv' := [(6, .int (nI (d + 1))), (5, .int 0), (0, .ref b0), (1, .ref (a 0)), (2, .ref (b 0)), (3, .ref q0), (4, .int (nI n))]) hx hb d_L_law_112 hl (by decide) rfl (fun ls hl => ?_)
    refine lv_aload_n hx hb d_L_law_114 rfl (lv_at hl 4 rfl) ?_
    refine vp_callSi (va_runV (As := []) (rest := []) (C := RM) ⟨hx, hb, hml, hown, hts⟩ (m_M_thrown l D k b 0 r (nI (d + 1)) N G t (upd KR (d + 1) r) (va_up K (d + 1) gg) (va_up T (d + 1) gh) _) (cwV 0 hts (TB_g kl_L_57 ki_M_thrown ks_M_thrown kz_M (TB_c kc_M_thrown)) rfl rfl rfl (by decide +kernel) ⟨Nat.le_of_ble_eq_true rfl, Nat.le_of_ble_eq_true rfl⟩) ⟨PW.bl, va_recv (q := (RM, TM, 9)) (ci := 2) (q0 := 0) hK (cutM_P hP) rfl rfl, fun U hU hW => ⟨rfl, PW.go hK (cutM_P hP) (cutM_D hD) hS hA hE hU hW⟩⟩ rfl rfl hl.1 rfl (lv_room (Nat.le_of_ble_eq_true rfl)) d_L_law_115 ⟨(show cells + 1 + 0 + 0 ≤ 601024 by omega), (show slots + 6 + 0 + 0 ≤ 7293034 by omega)⟩).run (fun h1 hh1 => ?_)
    subst hh1
    refine lv_iload hx hb d_L_law_118 (lv_at hl 1 rfl) ?_
    refine lv_icmp_eq (tgt := 125) hx hb d_L_law_120 (by decide) (fun c_120 => ?_) (fun c_120 => ?_)
    · refine lv_iload hx hb d_L_law_125 (lv_at hl 1 rfl) ?_
      refine lv_if_ne (tgt := 142) hx hb d_L_law_127 (by decide) (fun c_127 => ?_) (fun c_127 => ?_)
      · exact absurd rfl c_127
      · refine lv_aload_n hx hb d_L_law_130 rfl (lv_at hl 5 rfl) ?_
        refine lv_iconst (v := 0) hx hb d_L_law_131 (by decide) ?_
        refine va_lald hx hb hK hP 0 0 rfl rfl (show vp_in (nI 0) 1 from vp_in_nI (by decide) (by decide)) d_L_law_132 ?_
        have er : O2 (0 : Int32).toNatClampNeg = ((nI (d + 1)) : Int32).toInt64 := e5
        refine lv_iload hx hb d_L_law_133 (lv_at hl 0 rfl) ?_
        refine lv_i2l hx hb d_L_law_135 rfl ?_
        refine W.lcmp hx hb d_L_law_136 ?_
        refine lv_if_eq (tgt := 142) hx hb d_L_law_137 (by decide) (fun c_137 => ?_) (fun c_137 => ?_)
        · have c_137 : O2 (0 : Int32).toNatClampNeg = ((nI (d + 1)) : Int32).toInt64 := (lg_cmp_eq _ _).mp c_137
          refine lv_goto (tgt := 635) hx hb d_L_law_142 (by decide) ?_
          refine W.widen (k := cells + 2) (n := slots + 12) (by omega) (by omega) ?_
          exact kk (d + 1) F (va_up V (d + 1) (va_cpy (V d) (V (d + 1)) 0 0 256)) (va_up M (d + 1) (va_cpy (M d) (M (d + 1)) 0 0 4)) (va_up R (d + 1) (R d)) 0 r N G t (upd KR (d + 1) r) (va_up K (d + 1) gg) (va_up T (d + 1) gh) O2 H locs ls (ri_open hI hyes hgg hgh) hP hD hS (lv_sub hl [2, 3, 4, 5, 6] rfl)
        · have c_137 : ¬ O2 (0 : Int32).toNatClampNeg = ((nI (d + 1)) : Int32).toInt64 := fun q => c_137 ((lg_cmp_eq _ _).mpr q)
          exact absurd er c_137
    · exact absurd rfl c_120
end
section
/-! the law: close, load, held, touched, count, store -/
set_option maxHeartbeats 4000000 in
set_option maxRecDepth 100000 in
theorem law_close {p : Program} {l : Launch} {e : Env} {s : State} {m : MethodId} {below : List Frame} {meth : Method} {c : Code} {D : va_G} {k : Nat → ClassId} {a b : Nat → Nat} {q0 b0 L : Nat} {xs : Nat → Int32} (hl0 : l.stackTraces = false) (hL : L ≤ 3072) (C0 : lw_At p s m meth c b0 L xs) (hK : va_K D wCl (tyL k) s) (hE : EV (fun q : Nat => s.heap.size ≤ q) s) {n cells slots : Nat} (hn : n + 6 ≤ L) (hc : cells + 2 ≤ 601024) (hs : slots + 12 ≤ 7293034) (kk : lwS p l e s m below meth c D k a b q0 b0 n 635 (cells + 2) (slots + 12)) : lwS p l e s m below meth c D k a b q0 b0 n 145 (cells) (slots) := by
  obtain ⟨hx, hb, hr, hml, hown, hts0, hX, hbl, hlocks, hgv⟩ := C0
  have hts := TB_in hts0
  have hown : s.vm.findClass RL = some m.cls := hown
  have hA : ∀ q : Nat, s.heap.size ≤ q → (fun q : Nat => s.heap.size ≤ q) q := fun _ h => h
  have hbA : ¬ (fun q : Nat => s.heap.size ≤ q) b0 := Nat.not_le.mpr hbl
  intro d F V M R f r N G t KR K T O H locs ls hI hP hD hS hl
  have hd : d ≤ 30 := hI.1
  refine lv_aload_n hx hb d_L_law_145 rfl (lv_at hl 1 rfl) ?_
  refine lv_aload_n hx hb d_L_law_146 rfl (lv_at hl 0 rfl) ?_
  refine lv_iload hx hb d_L_law_147 (lv_at hl 4 rfl) ?_
  refine lv_iconst (v := 1) hx hb d_L_law_149 (by decide) ?_
  refine lv_iadd hx hb d_L_law_150 ?_
  refine va_sld hx hb hX hbl hbA hS (scr_in (j := 1) (by omega) hL) d_L_law_151 ?_
  refine lv_topi (fun s1 es1 => ?_)
  refine lv_if_eq (tgt := 159) hx hb d_L_law_152 (by decide) (fun c_152 => ?_) (fun c_152 => ?_)
  · refine lv_iconst (v := 0) hx hb d_L_law_159 (by decide) ?_
    refine lv_aload_n hx hb d_L_law_160 rfl (lv_at hl 3 rfl) ?_
    refine va_calli (vx_runSW (As := [.ref (a 0), .int 0, .ref q0]) (rest := []) ⟨hx, hb, hml, hown, hts⟩ (m_L_close l hl0 D k a d hd F V M R q0 O _ 0 _) (vx_cwSW 3 hts (TB_g3 kl_L_60 kt_L_close kz_L (TB_c kc_L_close)) rfl rfl rfl (by decide +kernel) ⟨Nat.le_of_ble_eq_true rfl, Nat.le_of_ble_eq_true rfl⟩) ⟨PW.bl, fun U hU hW => ⟨rfl, PW.go hK hP hD hS hA hE hU hW⟩⟩ rfl rfl hl.1 rfl (lv_room (Nat.le_of_ble_eq_true rfl)) d_L_law_161 ⟨(show cells + 1 ≤ 601024 by omega), (show slots + 6 ≤ 7293034 by omega)⟩) hS (fun q _ h => cut_F hD hS hA q h) (cut_F hD hS hA) (fun y uu t1 H1 locs1 ht hvm hpost hB hz hk hS => ?_)
    obtain ⟨d2, V2, M2, R2, O2⟩ := uu
    dsimp only at hpost hB
    rw [ht] at hB
    have hP := hB
    have hD := hD.ad (lw_ad (d1 := nI d2) (F := F) (V := V2) (M := M2) (R := R2) (O := O2))
    generalize H1 = H at hP hS ⊢
    generalize locs1 = locs at hS ⊢
    refine lv_istore (lv' := [(5, .int y), (0, .ref b0), (1, .ref (a 0)), (2, .ref (b 0)), (3, .ref q0), (4, .int (nI n))]) hx hb d_L_law_164 hl (by decide) rfl (fun ls hl => ?_)
    refine lv_aload_n hx hb d_L_law_166 rfl (lv_at hl 3 rfl) ?_
    refine lv_aload_n hx hb d_L_law_167 rfl (lv_at hl 1 rfl) ?_
    refine lv_iload hx hb d_L_law_168 (lv_at hl 5 rfl) ?_
    refine lv_iconst (v := 1) hx hb d_L_law_170 (by decide) ?_
    refine lv_iadd hx hb d_L_law_171 ?_
    refine va_sld hx hb hX hbl hbA hS (scr_in (j := 1) (by omega) hL) d_L_law_172 ?_
    rw [← es1]
    refine lv_if_eq (tgt := 180) hx hb d_L_law_173 (by decide) (fun c_173 => ?_) (fun c_173 => ?_)
    · refine lv_iconst (v := 0) hx hb d_L_law_180 (by decide) ?_
      refine va_calli (va_runV (As := [.int 0]) (rest := []) (C := RM) ⟨hx, hb, hml, hown, hts⟩ (m_M_close l D k b f r d hd N G t KR K T 0 _) (cwV 1 hts (TB_g kl_L_63 ki_M_close ks_M_close kz_M (TB_c kc_M_close)) rfl rfl rfl (by decide +kernel) ⟨Nat.le_of_ble_eq_true rfl, Nat.le_of_ble_eq_true rfl⟩) ⟨PW.bl, va_recv (q := (RM, TM, 9)) (ci := 2) (q0 := 0) hK (cutM_P hP) rfl rfl, fun U hU hW => ⟨rfl, PW.go hK (cutM_P hP) (cutM_D hD) hS hA hE hU hW⟩⟩ rfl rfl hl.1 rfl (lv_room (Nat.le_of_ble_eq_true rfl)) d_L_law_181 ⟨(show cells + 1 + 0 ≤ 601024 by omega), (show slots + 6 + 0 ≤ 7293034 by omega)⟩) hS (fun q _ h => cut_F (cutM_D hD) hS hA q h) (cut_F (cutM_D hD) hS hA) (fun x ww t2 H1 locs1 ht hvm hpost2 hB hz hk hS => ?_)
      rw [ht] at hB
      obtain ⟨hP, hD⟩ := cutM_J hP hD hk hB wm_ad
      generalize H1 = H at hP hS ⊢
      generalize locs1 = locs at hS ⊢
      obtain ⟨f2, d3, r2, N2, t2⟩ := ww
      dsimp only at hpost2 hP hD
      rcases hpost with ⟨e0, hno, e1, e2, e3, e4⟩ | ⟨e0, hyes, -, e3, e4, e5⟩
      · rcases hpost2 with ⟨-, g1, g2⟩ | ⟨e9, h9, -⟩
        rotate_left
        · omega
        obtain ⟨rfl, rfl, rfl, rfl, rfl⟩ : 1 = f2 ∧ d = d3 ∧ r = r2 ∧ N = N2 ∧ t = t2 := by injection g2 with g2 g3; injection g3 with g3 g4; injection g4 with g4 g5; injection g5 with g5 g6; exact ⟨g2.symm, hno.trans g3.symm, g4.symm, g5.symm, g6.symm⟩
        have e1 := e1.symm
        have e2 := e2.symm
        have e3 := e3.symm
        have e4 := e4.symm
        subst e0 e1 e2 e3 e4
        refine lv_istore (lv' := [(6, .int x), (5, .int 1), (0, .ref b0), (1, .ref (a 0)), (2, .ref (b 0)), (3, .ref q0), (4, .int (nI n))]) hx hb d_L_law_184 hl (by decide) rfl (fun ls hl => ?_)
        refine lv_aload_n hx hb d_L_law_186 rfl (lv_at hl 4 rfl) ?_
        refine vp_callSi (va_runV (As := []) (rest := []) (C := RM) ⟨hx, hb, hml, hown, hts⟩ (m_M_thrown l D k b 1 r (nI d) N G t KR K T _) (cwV 0 hts (TB_g kl_L_57 ki_M_thrown ks_M_thrown kz_M (TB_c kc_M_thrown)) rfl rfl rfl (by decide +kernel) ⟨Nat.le_of_ble_eq_true rfl, Nat.le_of_ble_eq_true rfl⟩) ⟨PW.bl, va_recv (q := (RM, TM, 9)) (ci := 2) (q0 := 0) hK (cutM_P hP) rfl rfl, fun U hU hW => ⟨rfl, PW.go hK (cutM_P hP) (cutM_D hD) hS hA hE hU hW⟩⟩ rfl rfl hl.1 rfl (lv_room (Nat.le_of_ble_eq_true rfl)) d_L_law_187 ⟨(show cells + 1 + 0 + 0 ≤ 601024 by omega), (show slots + 6 + 0 + 0 ≤ 7293034 by omega)⟩).run (fun h1 hh1 => ?_)
        subst hh1
        refine lv_iload hx hb d_L_law_190 (lv_at hl 1 rfl) ?_
        refine lv_icmp_eq (tgt := 197) hx hb d_L_law_192 (by decide) (fun c_192 => ?_) (fun c_192 => ?_)
        · refine lv_iload hx hb d_L_law_197 (lv_at hl 1 rfl) ?_
          refine lv_if_ne (tgt := 214) hx hb d_L_law_199 (by decide) (fun c_199 => ?_) (fun c_199 => ?_)
          · refine lv_goto (tgt := 635) hx hb d_L_law_214 (by decide) ?_
            refine W.widen (k := cells + 2) (n := slots + 12) (by omega) (by omega) ?_
            exact kk d F V M R 1 r N G t KR K T O2 H locs ls hI hP hD hS (lv_sub hl [2, 3, 4, 5, 6] rfl)
          · exact absurd c_199 (by decide)
        · exact absurd rfl c_192
      · rcases hpost2 with ⟨h9, -⟩ | ⟨e9, h9, g1, g2, g3, g4, g5⟩
        · omega
        obtain rfl : d2 = e9 := by omega
        have g3 := g3.symm
        subst e0 g1 g2 g3
        have hI := (congrArg (fun z => RI z F V M R N G t KR K T r) hyes).mp hI
        obtain ⟨g6, g7, g8⟩ := g5 rfl
        subst g6
        have e3 := e3 rfl
        obtain ⟨rfl, rfl, rfl⟩ : V = V2 ∧ M = M2 ∧ R = R2 := by injection e3 with e6 e7; injection e7 with e7 e8; exact ⟨e6.symm, e7.symm, e8.symm⟩
        refine lv_istore (lv' := [(6, .int (nI d2)), (5, .int 0), (0, .ref b0), (1, .ref (a 0)), (2, .ref (b 0)), (3, .ref q0), (4, .int (nI n))]) hx hb d_L_law_184 hl (by decide) rfl (fun ls hl => ?_)
        refine lv_aload_n hx hb d_L_law_186 rfl (lv_at hl 4 rfl) ?_
        refine vp_callSi (va_runV (As := []) (rest := []) (C := RM) ⟨hx, hb, hml, hown, hts⟩ (m_M_thrown l D k b 0 (KR (d2 + 1)) (nI d2) N2 G t2 KR K T _) (cwV 0 hts (TB_g kl_L_57 ki_M_thrown ks_M_thrown kz_M (TB_c kc_M_thrown)) rfl rfl rfl (by decide +kernel) ⟨Nat.le_of_ble_eq_true rfl, Nat.le_of_ble_eq_true rfl⟩) ⟨PW.bl, va_recv (q := (RM, TM, 9)) (ci := 2) (q0 := 0) hK (cutM_P hP) rfl rfl, fun U hU hW => ⟨rfl, PW.go hK (cutM_P hP) (cutM_D hD) hS hA hE hU hW⟩⟩ rfl rfl hl.1 rfl (lv_room (Nat.le_of_ble_eq_true rfl)) d_L_law_187 ⟨(show cells + 1 + 0 + 0 ≤ 601024 by omega), (show slots + 6 + 0 + 0 ≤ 7293034 by omega)⟩).run (fun h1 hh1 => ?_)
        subst hh1
        refine lv_iload hx hb d_L_law_190 (lv_at hl 1 rfl) ?_
        refine lv_icmp_eq (tgt := 197) hx hb d_L_law_192 (by decide) (fun c_192 => ?_) (fun c_192 => ?_)
        · refine lv_iload hx hb d_L_law_197 (lv_at hl 1 rfl) ?_
          refine lv_if_ne (tgt := 214) hx hb d_L_law_199 (by decide) (fun c_199 => ?_) (fun c_199 => ?_)
          · exact absurd rfl c_199
          · refine lv_aload_n hx hb d_L_law_202 rfl (lv_at hl 5 rfl) ?_
            refine lv_iconst (v := 0) hx hb d_L_law_203 (by decide) ?_
            refine va_lald hx hb hK hP 0 0 rfl rfl (show vp_in (nI 0) 1 from vp_in_nI (by decide) (by decide)) d_L_law_204 ?_
            have er : O2 (0 : Int32).toNatClampNeg = ((nI d2) : Int32).toInt64 := e5
            refine lv_iload hx hb d_L_law_205 (lv_at hl 0 rfl) ?_
            refine lv_i2l hx hb d_L_law_207 rfl ?_
            refine W.lcmp hx hb d_L_law_208 ?_
            refine lv_if_eq (tgt := 214) hx hb d_L_law_209 (by decide) (fun c_209 => ?_) (fun c_209 => ?_)
            · have c_209 : O2 (0 : Int32).toNatClampNeg = ((nI d2) : Int32).toInt64 := (lg_cmp_eq _ _).mp c_209
              refine lv_goto (tgt := 635) hx hb d_L_law_214 (by decide) ?_
              refine W.widen (k := cells + 2) (n := slots + 12) (by omega) (by omega) ?_
              exact kk d2 F V M R 0 (KR (d2 + 1)) N2 G t2 KR K T O2 H locs ls (ri_bad hI g7 g8 rfl) hP hD hS (lv_sub hl [2, 3, 4, 5, 6] rfl)
            · have c_209 : ¬ O2 (0 : Int32).toNatClampNeg = ((nI d2) : Int32).toInt64 := fun q => c_209 ((lg_cmp_eq _ _).mpr q)
              exact absurd er c_209
        · exact absurd rfl c_192
    · exact absurd c_152 c_173
  · refine lv_iconst (v := 1) hx hb d_L_law_155 (by decide) ?_
    refine lv_goto (tgt := 160) hx hb d_L_law_156 (by decide) ?_
    refine lv_aload_n hx hb d_L_law_160 rfl (lv_at hl 3 rfl) ?_
    refine va_calli (vx_runSW (As := [.ref (a 0), .int 1, .ref q0]) (rest := []) ⟨hx, hb, hml, hown, hts⟩ (m_L_close l hl0 D k a d hd F V M R q0 O _ 1 _) (vx_cwSW 3 hts (TB_g3 kl_L_60 kt_L_close kz_L (TB_c kc_L_close)) rfl rfl rfl (by decide +kernel) ⟨Nat.le_of_ble_eq_true rfl, Nat.le_of_ble_eq_true rfl⟩) ⟨PW.bl, fun U hU hW => ⟨rfl, PW.go hK hP hD hS hA hE hU hW⟩⟩ rfl rfl hl.1 rfl (lv_room (Nat.le_of_ble_eq_true rfl)) d_L_law_161 ⟨(show cells + 1 ≤ 601024 by omega), (show slots + 6 ≤ 7293034 by omega)⟩) hS (fun q _ h => cut_F hD hS hA q h) (cut_F hD hS hA) (fun y uu t1 H1 locs1 ht hvm hpost hB hz hk hS => ?_)
    obtain ⟨d2, V2, M2, R2, O2⟩ := uu
    dsimp only at hpost hB
    rw [ht] at hB
    have hP := hB
    have hD := hD.ad (lw_ad (d1 := nI d2) (F := F) (V := V2) (M := M2) (R := R2) (O := O2))
    generalize H1 = H at hP hS ⊢
    generalize locs1 = locs at hS ⊢
    refine lv_istore (lv' := [(5, .int y), (0, .ref b0), (1, .ref (a 0)), (2, .ref (b 0)), (3, .ref q0), (4, .int (nI n))]) hx hb d_L_law_164 hl (by decide) rfl (fun ls hl => ?_)
    refine lv_aload_n hx hb d_L_law_166 rfl (lv_at hl 3 rfl) ?_
    refine lv_aload_n hx hb d_L_law_167 rfl (lv_at hl 1 rfl) ?_
    refine lv_iload hx hb d_L_law_168 (lv_at hl 5 rfl) ?_
    refine lv_iconst (v := 1) hx hb d_L_law_170 (by decide) ?_
    refine lv_iadd hx hb d_L_law_171 ?_
    refine va_sld hx hb hX hbl hbA hS (scr_in (j := 1) (by omega) hL) d_L_law_172 ?_
    rw [← es1]
    refine lv_if_eq (tgt := 180) hx hb d_L_law_173 (by decide) (fun c_173 => ?_) (fun c_173 => ?_)
    · exact absurd c_173 c_152
    · refine lv_iconst (v := 1) hx hb d_L_law_176 (by decide) ?_
      refine lv_goto (tgt := 181) hx hb d_L_law_177 (by decide) ?_
      refine va_calli (va_runV (As := [.int 1]) (rest := []) (C := RM) ⟨hx, hb, hml, hown, hts⟩ (m_M_close l D k b f r d hd N G t KR K T 1 _) (cwV 1 hts (TB_g kl_L_63 ki_M_close ks_M_close kz_M (TB_c kc_M_close)) rfl rfl rfl (by decide +kernel) ⟨Nat.le_of_ble_eq_true rfl, Nat.le_of_ble_eq_true rfl⟩) ⟨PW.bl, va_recv (q := (RM, TM, 9)) (ci := 2) (q0 := 0) hK (cutM_P hP) rfl rfl, fun U hU hW => ⟨rfl, PW.go hK (cutM_P hP) (cutM_D hD) hS hA hE hU hW⟩⟩ rfl rfl hl.1 rfl (lv_room (Nat.le_of_ble_eq_true rfl)) d_L_law_181 ⟨(show cells + 1 + 0 ≤ 601024 by omega), (show slots + 6 + 0 ≤ 7293034 by omega)⟩) hS (fun q _ h => cut_F (cutM_D hD) hS hA q h) (cut_F (cutM_D hD) hS hA) (fun x ww t2 H1 locs1 ht hvm hpost2 hB hz hk hS => ?_)
      rw [ht] at hB
      obtain ⟨hP, hD⟩ := cutM_J hP hD hk hB wm_ad
      generalize H1 = H at hP hS ⊢
      generalize locs1 = locs at hS ⊢
      obtain ⟨f2, d3, r2, N2, t2⟩ := ww
      dsimp only at hpost2 hP hD
      rcases hpost with ⟨e0, hno, e1, e2, e3, e4⟩ | ⟨e0, hyes, -, e3, e4, e5⟩
      · rcases hpost2 with ⟨-, g1, g2⟩ | ⟨e9, h9, -⟩
        rotate_left
        · omega
        obtain ⟨rfl, rfl, rfl, rfl, rfl⟩ : 1 = f2 ∧ d = d3 ∧ r = r2 ∧ N = N2 ∧ t = t2 := by injection g2 with g2 g3; injection g3 with g3 g4; injection g4 with g4 g5; injection g5 with g5 g6; exact ⟨g2.symm, hno.trans g3.symm, g4.symm, g5.symm, g6.symm⟩
        have e1 := e1.symm
        have e2 := e2.symm
        have e3 := e3.symm
        have e4 := e4.symm
        subst e0 e1 e2 e3 e4
        refine lv_istore (lv' := [(6, .int x), (5, .int 1), (0, .ref b0), (1, .ref (a 0)), (2, .ref (b 0)), (3, .ref q0), (4, .int (nI n))]) hx hb d_L_law_184 hl (by decide) rfl (fun ls hl => ?_)
        refine lv_aload_n hx hb d_L_law_186 rfl (lv_at hl 4 rfl) ?_
        refine vp_callSi (va_runV (As := []) (rest := []) (C := RM) ⟨hx, hb, hml, hown, hts⟩ (m_M_thrown l D k b 1 r (nI d) N G t KR K T _) (cwV 0 hts (TB_g kl_L_57 ki_M_thrown ks_M_thrown kz_M (TB_c kc_M_thrown)) rfl rfl rfl (by decide +kernel) ⟨Nat.le_of_ble_eq_true rfl, Nat.le_of_ble_eq_true rfl⟩) ⟨PW.bl, va_recv (q := (RM, TM, 9)) (ci := 2) (q0 := 0) hK (cutM_P hP) rfl rfl, fun U hU hW => ⟨rfl, PW.go hK (cutM_P hP) (cutM_D hD) hS hA hE hU hW⟩⟩ rfl rfl hl.1 rfl (lv_room (Nat.le_of_ble_eq_true rfl)) d_L_law_187 ⟨(show cells + 1 + 0 + 0 ≤ 601024 by omega), (show slots + 6 + 0 + 0 ≤ 7293034 by omega)⟩).run (fun h1 hh1 => ?_)
        subst hh1
        refine lv_iload hx hb d_L_law_190 (lv_at hl 1 rfl) ?_
        refine lv_icmp_eq (tgt := 197) hx hb d_L_law_192 (by decide) (fun c_192 => ?_) (fun c_192 => ?_)
        · refine lv_iload hx hb d_L_law_197 (lv_at hl 1 rfl) ?_
          refine lv_if_ne (tgt := 214) hx hb d_L_law_199 (by decide) (fun c_199 => ?_) (fun c_199 => ?_)
          · refine lv_goto (tgt := 635) hx hb d_L_law_214 (by decide) ?_
            refine W.widen (k := cells + 2) (n := slots + 12) (by omega) (by omega) ?_
            exact kk d F V M R 1 r N G t KR K T O2 H locs ls hI hP hD hS (lv_sub hl [2, 3, 4, 5, 6] rfl)
          · exact absurd c_199 (by decide)
        · exact absurd rfl c_192
      · rcases hpost2 with ⟨h9, -⟩ | ⟨e9, h9, g1, g2, g3, g4, g5⟩
        · omega
        obtain rfl : d2 = e9 := by omega
        have g3 := g3.symm
        subst e0 g1 g2 g3
        have hI := (congrArg (fun z => RI z F V M R N G t KR K T r) hyes).mp hI
        have g4 := g4 (by decide)
        obtain ⟨rfl, rfl, rfl⟩ : r = r2 ∧ N = N2 ∧ t = t2 := by injection g4 with e6 e7; injection e7 with e7 e8; exact ⟨e6.symm, e7.symm, e8.symm⟩
        have e4 := e4 (by decide)
        obtain ⟨e6, e7, e8⟩ : V2 = va_up V d2 (va_cpy (V (d2 + 1)) (V d2) 0 0 256) ∧ M2 = va_up M d2 (va_cpy (M (d2 + 1)) (M d2) 0 0 4) ∧ R2 = va_up R d2 (R (d2 + 1)) := by injection e4 with e6 e7; injection e7 with e7 e8; exact ⟨e6, e7, e8⟩
        subst e6 e7 e8
        refine lv_istore (lv' := [(6, .int (nI d2)), (5, .int 0), (0, .ref b0), (1, .ref (a 0)), (2, .ref (b 0)), (3, .ref q0), (4, .int (nI n))]) hx hb d_L_law_184 hl (by decide) rfl (fun ls hl => ?_)
        refine lv_aload_n hx hb d_L_law_186 rfl (lv_at hl 4 rfl) ?_
        refine vp_callSi (va_runV (As := []) (rest := []) (C := RM) ⟨hx, hb, hml, hown, hts⟩ (m_M_thrown l D k b 0 r (nI d2) N G t KR K T _) (cwV 0 hts (TB_g kl_L_57 ki_M_thrown ks_M_thrown kz_M (TB_c kc_M_thrown)) rfl rfl rfl (by decide +kernel) ⟨Nat.le_of_ble_eq_true rfl, Nat.le_of_ble_eq_true rfl⟩) ⟨PW.bl, va_recv (q := (RM, TM, 9)) (ci := 2) (q0 := 0) hK (cutM_P hP) rfl rfl, fun U hU hW => ⟨rfl, PW.go hK (cutM_P hP) (cutM_D hD) hS hA hE hU hW⟩⟩ rfl rfl hl.1 rfl (lv_room (Nat.le_of_ble_eq_true rfl)) d_L_law_187 ⟨(show cells + 1 + 0 + 0 ≤ 601024 by omega), (show slots + 6 + 0 + 0 ≤ 7293034 by omega)⟩).run (fun h1 hh1 => ?_)
        subst hh1
        refine lv_iload hx hb d_L_law_190 (lv_at hl 1 rfl) ?_
        refine lv_icmp_eq (tgt := 197) hx hb d_L_law_192 (by decide) (fun c_192 => ?_) (fun c_192 => ?_)
        · refine lv_iload hx hb d_L_law_197 (lv_at hl 1 rfl) ?_
          refine lv_if_ne (tgt := 214) hx hb d_L_law_199 (by decide) (fun c_199 => ?_) (fun c_199 => ?_)
          · exact absurd rfl c_199
          · refine lv_aload_n hx hb d_L_law_202 rfl (lv_at hl 5 rfl) ?_
            refine lv_iconst (v := 0) hx hb d_L_law_203 (by decide) ?_
            refine va_lald hx hb hK hP 0 0 rfl rfl (show vp_in (nI 0) 1 from vp_in_nI (by decide) (by decide)) d_L_law_204 ?_
            have er : O2 (0 : Int32).toNatClampNeg = ((nI d2) : Int32).toInt64 := e5
            refine lv_iload hx hb d_L_law_205 (lv_at hl 0 rfl) ?_
            refine lv_i2l hx hb d_L_law_207 rfl ?_
            refine W.lcmp hx hb d_L_law_208 ?_
            refine lv_if_eq (tgt := 214) hx hb d_L_law_209 (by decide) (fun c_209 => ?_) (fun c_209 => ?_)
            · have c_209 : O2 (0 : Int32).toNatClampNeg = ((nI d2) : Int32).toInt64 := (lg_cmp_eq _ _).mp c_209
              refine lv_goto (tgt := 635) hx hb d_L_law_214 (by decide) ?_
              refine W.widen (k := cells + 2) (n := slots + 12) (by omega) (by omega) ?_
              exact kk d2 F (va_up V d2 (va_cpy (V (d2 + 1)) (V d2) 0 0 256)) (va_up M d2 (va_cpy (M (d2 + 1)) (M d2) 0 0 4)) (va_up R d2 (R (d2 + 1))) 0 r N G t KR K T O2 H locs ls (ri_good hI) hP hD hS (lv_sub hl [2, 3, 4, 5, 6] rfl)
            · have c_209 : ¬ O2 (0 : Int32).toNatClampNeg = ((nI d2) : Int32).toInt64 := fun q => c_209 ((lg_cmp_eq _ _).mpr q)
              exact absurd er c_209
        · exact absurd rfl c_192
set_option maxHeartbeats 4000000 in
set_option maxRecDepth 100000 in
theorem law_load {p : Program} {l : Launch} {e : Env} {s : State} {m : MethodId} {below : List Frame} {meth : Method} {c : Code} {D : va_G} {k : Nat → ClassId} {a b : Nat → Nat} {q0 b0 L : Nat} {xs : Nat → Int32} (hl0 : l.stackTraces = false) (hL : L ≤ 3072) (C0 : lw_At p s m meth c b0 L xs) (hK : va_K D wCl (tyL k) s) (hE : EV (fun q : Nat => s.heap.size ≤ q) s) {n cells slots : Nat} (hn : n + 6 ≤ L) (hc : cells + 2 ≤ 601024) (hs : slots + 12 ≤ 7293034) (kk : lwS p l e s m below meth c D k a b q0 b0 n 635 (cells + 2) (slots + 12)) : lwS p l e s m below meth c D k a b q0 b0 n 217 (cells) (slots) := by
  obtain ⟨hx, hb, hr, hml, hown, hts0, hX, hbl, hlocks, hgv⟩ := C0
  have hts := TB_in hts0
  have hown : s.vm.findClass RL = some m.cls := hown
  have hA : ∀ q : Nat, s.heap.size ≤ q → (fun q : Nat => s.heap.size ≤ q) q := fun _ h => h
  have hbA : ¬ (fun q : Nat => s.heap.size ≤ q) b0 := Nat.not_le.mpr hbl
  intro d F V M R f r N G t KR K T O H locs ls hI hP hD hS hl
  have hd : d ≤ 30 := hI.1
  refine lv_aload_n hx hb d_L_law_217 rfl (lv_at hl 1 rfl) ?_
  refine lv_aload_n hx hb d_L_law_218 rfl (lv_at hl 0 rfl) ?_
  refine lv_iload hx hb d_L_law_219 (lv_at hl 4 rfl) ?_
  refine lv_iconst (v := 1) hx hb d_L_law_221 (by decide) ?_
  refine lv_iadd hx hb d_L_law_222 ?_
  refine va_sld hx hb hX hbl hbA hS (scr_in (j := 1) (by omega) hL) d_L_law_223 ?_
  refine lv_topi (fun s1 es1 => ?_)
  refine lv_aload_n hx hb d_L_law_224 rfl (lv_at hl 0 rfl) ?_
  refine lv_iload hx hb d_L_law_225 (lv_at hl 4 rfl) ?_
  refine lv_iconst (v := 2) hx hb d_L_law_227 (by decide) ?_
  refine lv_iadd hx hb d_L_law_228 ?_
  refine va_sld hx hb hX hbl hbA hS (scr_in (j := 2) (by omega) hL) d_L_law_229 ?_
  refine lv_topi (fun s2 es2 => ?_)
  refine lv_aload_n hx hb d_L_law_230 rfl (lv_at hl 3 rfl) ?_
  refine va_calli (vx_runSW (As := [.ref (a 0), .int s1, .int s2, .ref q0]) (rest := []) ⟨hx, hb, hml, hown, hts⟩ (m_L_load l hl0 D k a d hd F V M R q0 O _ s1 s2 _) (vx_cwSW 4 hts (TB_g3 kl_L_64 kt_L_load kz_L (TB_c kc_L_load)) rfl rfl rfl (by decide +kernel) ⟨Nat.le_of_ble_eq_true rfl, Nat.le_of_ble_eq_true rfl⟩) ⟨PW.bl, fun U hU hW => ⟨rfl, PW.go hK hP hD hS hA hE hU hW⟩⟩ rfl rfl hl.1 rfl (lv_room (Nat.le_of_ble_eq_true rfl)) d_L_law_231 ⟨(show cells + 1 ≤ 601024 by omega), (show slots + 6 ≤ 7293034 by omega)⟩) hS (fun q _ h => cut_F hD hS hA q h) (cut_F hD hS hA) (fun y uu t1 H1 locs1 ht hvm hpost hB hz hk hS => ?_)
  obtain ⟨d2, V2, M2, R2, O2⟩ := uu
  dsimp only at hpost hB
  rw [ht] at hB
  have hP := hB
  have hD := hD.ad (lw_ad (d1 := nI d2) (F := F) (V := V2) (M := M2) (R := R2) (O := O2))
  generalize H1 = H at hP hS ⊢
  generalize locs1 = locs at hS ⊢
  refine lv_istore (lv' := [(5, .int y), (0, .ref b0), (1, .ref (a 0)), (2, .ref (b 0)), (3, .ref q0), (4, .int (nI n))]) hx hb d_L_law_234 hl (by decide) rfl (fun ls hl => ?_)
  refine lv_aload_n hx hb d_L_law_236 rfl (lv_at hl 3 rfl) ?_
  refine lv_aload_n hx hb d_L_law_237 rfl (lv_at hl 1 rfl) ?_
  refine lv_iload hx hb d_L_law_238 (lv_at hl 5 rfl) ?_
  refine lv_iconst (v := 1) hx hb d_L_law_240 (by decide) ?_
  refine lv_iadd hx hb d_L_law_241 ?_
  refine va_sld hx hb hX hbl hbA hS (scr_in (j := 1) (by omega) hL) d_L_law_242 ?_
  rw [← es1]
  refine lv_aload_n hx hb d_L_law_243 rfl (lv_at hl 1 rfl) ?_
  refine lv_iload hx hb d_L_law_244 (lv_at hl 5 rfl) ?_
  refine lv_iconst (v := 2) hx hb d_L_law_246 (by decide) ?_
  refine lv_iadd hx hb d_L_law_247 ?_
  refine va_sld hx hb hX hbl hbA hS (scr_in (j := 2) (by omega) hL) d_L_law_248 ?_
  rw [← es2]
  refine va_calli (va_runV (As := [.int s1, .int s2]) (rest := []) (C := RM) ⟨hx, hb, hml, hown, hts⟩ (m_M_load l D k b f r (nI d) N G t KR K T s1 s2 _) (cwV 2 hts (TB_g kl_L_67 ki_M_load ks_M_load kz_M (TB_c kc_M_load)) rfl rfl rfl (by decide +kernel) ⟨Nat.le_of_ble_eq_true rfl, Nat.le_of_ble_eq_true rfl⟩) ⟨PW.bl, va_recv (q := (RM, TM, 9)) (ci := 2) (q0 := 0) hK (cutM_P hP) rfl rfl, fun U hU hW => ⟨rfl, PW.go hK (cutM_P hP) (cutM_D hD) hS hA hE hU hW⟩⟩ rfl rfl hl.1 rfl (lv_room (Nat.le_of_ble_eq_true rfl)) d_L_law_249 ⟨(show cells + 1 + 0 ≤ 601024 by omega), (show slots + 6 + 0 ≤ 7293034 by omega)⟩) hS (fun q _ h => cut_F (cutM_D hD) hS hA q h) (cut_F (cutM_D hD) hS hA) (fun x ww t2 H1 locs1 ht hvm hpost2 hB hz hk hS => ?_)
  rw [ht] at hB
  obtain ⟨hP, hD⟩ := cutM_J hP hD hk hB wm_ad
  generalize H1 = H at hP hS ⊢
  generalize locs1 = locs at hS ⊢
  obtain ⟨f2, t2⟩ := ww
  dsimp only at hpost2 hP hD
  rcases hpost with ⟨e0, hno, e1, e2, e3, e4⟩ | ⟨e0, g, h, hg, hh, e6, e7, e1, e2, e3, e4, e5⟩
  · rcases hpost2 with ⟨-, g1, g2⟩ | ⟨g1, h1, hg1, hh1, g2, g3, -⟩
    rotate_left
    · exact absurd ⟨g1, h1, hg1, hh1, g2, g3⟩ hno
    obtain ⟨rfl, rfl⟩ : 1 = f2 ∧ t = t2 := by injection g2 with g2 g3; exact ⟨g2.symm, g3.symm⟩
    have e1 := e1.symm
    have e2 := e2.symm
    have e3 := e3.symm
    have e4 := e4.symm
    subst e0 e1 e2 e3 e4
    refine lv_istore (lv' := [(6, .int x), (5, .int 1), (0, .ref b0), (1, .ref (a 0)), (2, .ref (b 0)), (3, .ref q0), (4, .int (nI n))]) hx hb d_L_law_252 hl (by decide) rfl (fun ls hl => ?_)
    refine lv_aload_n hx hb d_L_law_254 rfl (lv_at hl 4 rfl) ?_
    refine vp_callSi (va_runV (As := []) (rest := []) (C := RM) ⟨hx, hb, hml, hown, hts⟩ (m_M_thrown l D k b 1 r (nI d) N G t KR K T _) (cwV 0 hts (TB_g kl_L_57 ki_M_thrown ks_M_thrown kz_M (TB_c kc_M_thrown)) rfl rfl rfl (by decide +kernel) ⟨Nat.le_of_ble_eq_true rfl, Nat.le_of_ble_eq_true rfl⟩) ⟨PW.bl, va_recv (q := (RM, TM, 9)) (ci := 2) (q0 := 0) hK (cutM_P hP) rfl rfl, fun U hU hW => ⟨rfl, PW.go hK (cutM_P hP) (cutM_D hD) hS hA hE hU hW⟩⟩ rfl rfl hl.1 rfl (lv_room (Nat.le_of_ble_eq_true rfl)) d_L_law_255 ⟨(show cells + 1 + 0 + 0 ≤ 601024 by omega), (show slots + 6 + 0 + 0 ≤ 7293034 by omega)⟩).run (fun h1 hh1 => ?_)
    subst hh1
    refine lv_iload hx hb d_L_law_258 (lv_at hl 1 rfl) ?_
    refine lv_icmp_eq (tgt := 265) hx hb d_L_law_260 (by decide) (fun c_260 => ?_) (fun c_260 => ?_)
    · refine lv_iload hx hb d_L_law_265 (lv_at hl 1 rfl) ?_
      refine lv_if_ne (tgt := 282) hx hb d_L_law_267 (by decide) (fun c_267 => ?_) (fun c_267 => ?_)
      · refine lv_goto (tgt := 635) hx hb d_L_law_282 (by decide) ?_
        refine W.widen (k := cells + 2) (n := slots + 12) (by omega) (by omega) ?_
        exact kk d F V M R 1 r N G t KR K T O2 H locs ls hI hP hD hS (lv_sub hl [2, 3, 4, 5, 6] rfl)
      · exact absurd c_267 (by decide)
    · exact absurd rfl c_260
  · rcases hpost2 with ⟨hno2, -⟩ | ⟨g1, h1, hg1, hh1, g2, g3, g4, g5⟩
    · exact absurd ⟨g, h, hg, hh, e6, e7⟩ hno2
    obtain rfl : g = g1 := nI_u (by omega) (by omega) (e6.symm.trans g2)
    obtain rfl : h = h1 := nI_u hh hh1 (e7.symm.trans g3)
    obtain ⟨rfl, g7⟩ : 0 = f2 ∧ t2 = va_up t (g * 64 + h) true := by injection g5 with g5 g6; exact ⟨g5.symm, g6⟩
    have e1 := e1.symm
    have e2 := e2.symm
    have e4 := e4.symm
    subst e0 e1 e2 e4 e3 g7
    have htt := hI.2.2.2.1 g h hg hh
    refine lv_istore (lv' := [(6, .int x), (5, .int 0), (0, .ref b0), (1, .ref (a 0)), (2, .ref (b 0)), (3, .ref q0), (4, .int (nI n))]) hx hb d_L_law_252 hl (by decide) rfl (fun ls hl => ?_)
    refine lv_aload_n hx hb d_L_law_254 rfl (lv_at hl 4 rfl) ?_
    refine vp_callSi (va_runV (As := []) (rest := []) (C := RM) ⟨hx, hb, hml, hown, hts⟩ (m_M_thrown l D k b 0 r (nI d) N G (va_up t (g * 64 + h) true) KR K T _) (cwV 0 hts (TB_g kl_L_57 ki_M_thrown ks_M_thrown kz_M (TB_c kc_M_thrown)) rfl rfl rfl (by decide +kernel) ⟨Nat.le_of_ble_eq_true rfl, Nat.le_of_ble_eq_true rfl⟩) ⟨PW.bl, va_recv (q := (RM, TM, 9)) (ci := 2) (q0 := 0) hK (cutM_P hP) rfl rfl, fun U hU hW => ⟨rfl, PW.go hK (cutM_P hP) (cutM_D hD) hS hA hE hU hW⟩⟩ rfl rfl hl.1 rfl (lv_room (Nat.le_of_ble_eq_true rfl)) d_L_law_255 ⟨(show cells + 1 + 0 + 0 ≤ 601024 by omega), (show slots + 6 + 0 + 0 ≤ 7293034 by omega)⟩).run (fun h1 hh1 => ?_)
    subst hh1
    refine lv_iload hx hb d_L_law_258 (lv_at hl 1 rfl) ?_
    refine lv_icmp_eq (tgt := 265) hx hb d_L_law_260 (by decide) (fun c_260 => ?_) (fun c_260 => ?_)
    · refine lv_iload hx hb d_L_law_265 (lv_at hl 1 rfl) ?_
      refine lv_if_ne (tgt := 282) hx hb d_L_law_267 (by decide) (fun c_267 => ?_) (fun c_267 => ?_)
      · exact absurd rfl c_267
      · refine lv_aload_n hx hb d_L_law_270 rfl (lv_at hl 5 rfl) ?_
        refine lv_iconst (v := 0) hx hb d_L_law_271 (by decide) ?_
        refine va_lald hx hb hK hP 0 0 rfl rfl (show vp_in (nI 0) 1 from vp_in_nI (by decide) (by decide)) d_L_law_272 ?_
        have er : O2 (0 : Int32).toNatClampNeg = ((x) : Int32).toInt64 := by rw [g4, htt]; exact e5
        refine lv_iload hx hb d_L_law_273 (lv_at hl 0 rfl) ?_
        refine lv_i2l hx hb d_L_law_275 rfl ?_
        refine W.lcmp hx hb d_L_law_276 ?_
        refine lv_if_eq (tgt := 282) hx hb d_L_law_277 (by decide) (fun c_277 => ?_) (fun c_277 => ?_)
        · have c_277 : O2 (0 : Int32).toNatClampNeg = ((x) : Int32).toInt64 := (lg_cmp_eq _ _).mp c_277
          refine lv_goto (tgt := 635) hx hb d_L_law_282 (by decide) ?_
          refine W.widen (k := cells + 2) (n := slots + 12) (by omega) (by omega) ?_
          exact kk d F V (va_up M d (vp_updL (M d) g (tbs (M d g) h))) R 0 r N G (va_up t (g * 64 + h) true) KR K T O2 H locs ls (ri_load hI hg hh) hP hD hS (lv_sub hl [2, 3, 4, 5, 6] rfl)
        · have c_277 : ¬ O2 (0 : Int32).toNatClampNeg = ((x) : Int32).toInt64 := fun q => c_277 ((lg_cmp_eq _ _).mpr q)
          exact absurd er c_277
    · exact absurd rfl c_260
set_option maxHeartbeats 4000000 in
set_option maxRecDepth 100000 in
theorem law_held {p : Program} {l : Launch} {e : Env} {s : State} {m : MethodId} {below : List Frame} {meth : Method} {c : Code} {D : va_G} {k : Nat → ClassId} {a b : Nat → Nat} {q0 b0 L : Nat} {xs : Nat → Int32} (hl0 : l.stackTraces = false) (hL : L ≤ 3072) (C0 : lw_At p s m meth c b0 L xs) (hK : va_K D wCl (tyL k) s) (hE : EV (fun q : Nat => s.heap.size ≤ q) s) {n cells slots : Nat} (hn : n + 6 ≤ L) (hc : cells + 2 ≤ 601024) (hs : slots + 12 ≤ 7293034) (kk : lwS p l e s m below meth c D k a b q0 b0 n 635 (cells + 2) (slots + 12)) : lwS p l e s m below meth c D k a b q0 b0 n 409 (cells) (slots) := by
  obtain ⟨hx, hb, hr, hml, hown, hts0, hX, hbl, hlocks, hgv⟩ := C0
  have hts := TB_in hts0
  have hown : s.vm.findClass RL = some m.cls := hown
  have hA : ∀ q : Nat, s.heap.size ≤ q → (fun q : Nat => s.heap.size ≤ q) q := fun _ h => h
  have hbA : ¬ (fun q : Nat => s.heap.size ≤ q) b0 := Nat.not_le.mpr hbl
  intro d F V M R f r N G t KR K T O H locs ls hI hP hD hS hl
  have hd : d ≤ 30 := hI.1
  refine lv_aload_n hx hb d_L_law_409 rfl (lv_at hl 1 rfl) ?_
  refine lv_aload_n hx hb d_L_law_410 rfl (lv_at hl 0 rfl) ?_
  refine lv_iload hx hb d_L_law_411 (lv_at hl 4 rfl) ?_
  refine lv_iconst (v := 1) hx hb d_L_law_413 (by decide) ?_
  refine lv_iadd hx hb d_L_law_414 ?_
  refine va_sld hx hb hX hbl hbA hS (scr_in (j := 1) (by omega) hL) d_L_law_415 ?_
  refine lv_topi (fun s1 es1 => ?_)
  refine lv_aload_n hx hb d_L_law_416 rfl (lv_at hl 0 rfl) ?_
  refine lv_iload hx hb d_L_law_417 (lv_at hl 4 rfl) ?_
  refine lv_iconst (v := 2) hx hb d_L_law_419 (by decide) ?_
  refine lv_iadd hx hb d_L_law_420 ?_
  refine va_sld hx hb hX hbl hbA hS (scr_in (j := 2) (by omega) hL) d_L_law_421 ?_
  refine lv_topi (fun s2 es2 => ?_)
  refine lv_aload_n hx hb d_L_law_422 rfl (lv_at hl 0 rfl) ?_
  refine lv_iload hx hb d_L_law_423 (lv_at hl 4 rfl) ?_
  refine lv_iconst (v := 3) hx hb d_L_law_425 (by decide) ?_
  refine lv_iadd hx hb d_L_law_426 ?_
  refine va_sld hx hb hX hbl hbA hS (scr_in (j := 3) (by omega) hL) d_L_law_427 ?_
  refine lv_topi (fun s3 es3 => ?_)
  refine lv_if_eq (tgt := 435) hx hb d_L_law_428 (by decide) (fun c_428 => ?_) (fun c_428 => ?_)
  · refine lv_iconst (v := 0) hx hb d_L_law_435 (by decide) ?_
    refine lv_aload_n hx hb d_L_law_436 rfl (lv_at hl 3 rfl) ?_
    refine va_calli (vx_runSW (As := [.ref (a 0), .int s1, .int s2, .int 0, .ref q0]) (rest := []) ⟨hx, hb, hml, hown, hts⟩ (m_L_held l hl0 D k a d hd F V M R q0 O _ s1 s2 0 _) (vx_cwSW 5 hts (TB_g3 kl_L_74 kt_L_held kz_L (TB_c kc_L_held)) rfl rfl rfl (by decide +kernel) ⟨Nat.le_of_ble_eq_true rfl, Nat.le_of_ble_eq_true rfl⟩) ⟨PW.bl, fun U hU hW => ⟨rfl, PW.go hK hP hD hS hA hE hU hW⟩⟩ rfl rfl hl.1 rfl (lv_room (Nat.le_of_ble_eq_true rfl)) d_L_law_437 ⟨(show cells + 1 ≤ 601024 by omega), (show slots + 6 ≤ 7293034 by omega)⟩) hS (fun q _ h => cut_F hD hS hA q h) (cut_F hD hS hA) (fun y uu t1 H1 locs1 ht hvm hpost hB hz hk hS => ?_)
    obtain ⟨d2, V2, M2, R2, O2⟩ := uu
    dsimp only at hpost hB
    rw [ht] at hB
    have hP := hB
    have hD := hD.ad (lw_ad (d1 := nI d2) (F := F) (V := V2) (M := M2) (R := R2) (O := O2))
    generalize H1 = H at hP hS ⊢
    generalize locs1 = locs at hS ⊢
    refine lv_istore (lv' := [(5, .int y), (0, .ref b0), (1, .ref (a 0)), (2, .ref (b 0)), (3, .ref q0), (4, .int (nI n))]) hx hb d_L_law_440 hl (by decide) rfl (fun ls hl => ?_)
    refine lv_aload_n hx hb d_L_law_442 rfl (lv_at hl 3 rfl) ?_
    refine lv_aload_n hx hb d_L_law_443 rfl (lv_at hl 1 rfl) ?_
    refine lv_iload hx hb d_L_law_444 (lv_at hl 5 rfl) ?_
    refine lv_iconst (v := 1) hx hb d_L_law_446 (by decide) ?_
    refine lv_iadd hx hb d_L_law_447 ?_
    refine va_sld hx hb hX hbl hbA hS (scr_in (j := 1) (by omega) hL) d_L_law_448 ?_
    rw [← es1]
    refine lv_aload_n hx hb d_L_law_449 rfl (lv_at hl 1 rfl) ?_
    refine lv_iload hx hb d_L_law_450 (lv_at hl 5 rfl) ?_
    refine lv_iconst (v := 2) hx hb d_L_law_452 (by decide) ?_
    refine lv_iadd hx hb d_L_law_453 ?_
    refine va_sld hx hb hX hbl hbA hS (scr_in (j := 2) (by omega) hL) d_L_law_454 ?_
    rw [← es2]
    refine lv_aload_n hx hb d_L_law_455 rfl (lv_at hl 1 rfl) ?_
    refine lv_iload hx hb d_L_law_456 (lv_at hl 5 rfl) ?_
    refine lv_iconst (v := 3) hx hb d_L_law_458 (by decide) ?_
    refine lv_iadd hx hb d_L_law_459 ?_
    refine va_sld hx hb hX hbl hbA hS (scr_in (j := 3) (by omega) hL) d_L_law_460 ?_
    rw [← es3]
    refine lv_if_eq (tgt := 468) hx hb d_L_law_461 (by decide) (fun c_461 => ?_) (fun c_461 => ?_)
    · refine lv_iconst (v := 0) hx hb d_L_law_468 (by decide) ?_
      refine va_calll (va_runV (As := [.int s1, .int s2, .int 0]) (rest := []) (C := RM) ⟨hx, hb, hml, hown, hts⟩ (m_M_held l D k b f r (nI d) N G t KR K T s1 s2 0 _) (cwV 3 hts (TB_g kl_L_77 ki_M_held ks_M_held kz_M (TB_c kc_M_held)) rfl rfl rfl (by decide +kernel) ⟨Nat.le_of_ble_eq_true rfl, Nat.le_of_ble_eq_true rfl⟩) ⟨PW.bl, va_recv (q := (RM, TM, 9)) (ci := 2) (q0 := 0) hK (cutM_P hP) rfl rfl, fun U hU hW => ⟨rfl, PW.go hK (cutM_P hP) (cutM_D hD) hS hA hE hU hW⟩⟩ rfl rfl hl.1 rfl (lv_room (Nat.le_of_ble_eq_true rfl)) d_L_law_469 ⟨(show cells + 1 + 0 ≤ 601024 by omega), (show slots + 6 + 0 ≤ 7293034 by omega)⟩) hS (fun q _ h => cut_F (cutM_D hD) hS hA q h) (cut_F (cutM_D hD) hS hA) (fun x ww t2 H1 locs1 ht hvm hpost2 hB hz hk hS => ?_)
      rw [ht] at hB
      obtain ⟨hP, hD⟩ := cutM_J hP hD hk hB wm_ad
      generalize H1 = H at hP hS ⊢
      generalize locs1 = locs at hS ⊢
      rcases hpost with ⟨e0, hno, e1, e2, e3, e4⟩ | ⟨e0, g, h, hg, hh, e6, e7, e1, e2, e3, e4, e5⟩
      · rcases hpost2 with ⟨-, g2⟩ | ⟨g1, h1, hg1, hh1, g2, g3, -⟩
        rotate_left
        · exact absurd ⟨g1, h1, hg1, hh1, g2, g3⟩ hno
        subst g2
        have e1 := e1.symm
        have e2 := e2.symm
        have e3 := e3.symm
        have e4 := e4.symm
        subst e0 e1 e2 e3 e4
        refine lv_lstore (lv' := [(6, .long x), (5, .int 1), (0, .ref b0), (1, .ref (a 0)), (2, .ref (b 0)), (3, .ref q0), (4, .int (nI n))]) hx hb d_L_law_472 hl (by decide) rfl (fun ls hl => ?_)
        refine lv_aload_n hx hb d_L_law_474 rfl (lv_at hl 4 rfl) ?_
        refine vp_callSi (va_runV (As := []) (rest := []) (C := RM) ⟨hx, hb, hml, hown, hts⟩ (m_M_thrown l D k b 1 r (nI d) N G t KR K T _) (cwV 0 hts (TB_g kl_L_57 ki_M_thrown ks_M_thrown kz_M (TB_c kc_M_thrown)) rfl rfl rfl (by decide +kernel) ⟨Nat.le_of_ble_eq_true rfl, Nat.le_of_ble_eq_true rfl⟩) ⟨PW.bl, va_recv (q := (RM, TM, 9)) (ci := 2) (q0 := 0) hK (cutM_P hP) rfl rfl, fun U hU hW => ⟨rfl, PW.go hK (cutM_P hP) (cutM_D hD) hS hA hE hU hW⟩⟩ rfl rfl hl.1 rfl (lv_room (Nat.le_of_ble_eq_true rfl)) d_L_law_475 ⟨(show cells + 1 + 0 + 0 ≤ 601024 by omega), (show slots + 6 + 0 + 0 ≤ 7293034 by omega)⟩).run (fun h1 hh1 => ?_)
        subst hh1
        refine lv_iload hx hb d_L_law_478 (lv_at hl 1 rfl) ?_
        refine lv_icmp_eq (tgt := 485) hx hb d_L_law_480 (by decide) (fun c_480 => ?_) (fun c_480 => ?_)
        · refine lv_iload hx hb d_L_law_485 (lv_at hl 1 rfl) ?_
          refine lv_if_ne (tgt := 501) hx hb d_L_law_487 (by decide) (fun c_487 => ?_) (fun c_487 => ?_)
          · refine lv_goto (tgt := 635) hx hb d_L_law_501 (by decide) ?_
            refine W.widen (k := cells + 2) (n := slots + 12) (by omega) (by omega) ?_
            exact kk d F V M R 1 r N G t KR K T O2 H locs ls hI hP hD hS (lv_sub hl [2, 3, 4, 5, 6] rfl)
          · exact absurd c_487 (by decide)
        · exact absurd rfl c_480
      · rcases hpost2 with ⟨hno2, -⟩ | ⟨g1, h1, hg1, hh1, g2, g3, g4, g5⟩
        · exact absurd ⟨g, h, hg, hh, e6, e7⟩ hno2
        obtain rfl : g = g1 := nI_u (by omega) (by omega) (e6.symm.trans g2)
        obtain rfl : h = h1 := nI_u hh hh1 (e7.symm.trans g3)
        subst g5
        have e1 := e1.symm
        have e2 := e2.symm
        have e3 := e3.symm
        have e4 := e4.symm
        subst e0 e1 e2 e3 e4
        refine lv_lstore (lv' := [(6, .long x), (5, .int 0), (0, .ref b0), (1, .ref (a 0)), (2, .ref (b 0)), (3, .ref q0), (4, .int (nI n))]) hx hb d_L_law_472 hl (by decide) rfl (fun ls hl => ?_)
        refine lv_aload_n hx hb d_L_law_474 rfl (lv_at hl 4 rfl) ?_
        refine vp_callSi (va_runV (As := []) (rest := []) (C := RM) ⟨hx, hb, hml, hown, hts⟩ (m_M_thrown l D k b 0 r (nI d) N G t KR K T _) (cwV 0 hts (TB_g kl_L_57 ki_M_thrown ks_M_thrown kz_M (TB_c kc_M_thrown)) rfl rfl rfl (by decide +kernel) ⟨Nat.le_of_ble_eq_true rfl, Nat.le_of_ble_eq_true rfl⟩) ⟨PW.bl, va_recv (q := (RM, TM, 9)) (ci := 2) (q0 := 0) hK (cutM_P hP) rfl rfl, fun U hU hW => ⟨rfl, PW.go hK (cutM_P hP) (cutM_D hD) hS hA hE hU hW⟩⟩ rfl rfl hl.1 rfl (lv_room (Nat.le_of_ble_eq_true rfl)) d_L_law_475 ⟨(show cells + 1 + 0 + 0 ≤ 601024 by omega), (show slots + 6 + 0 + 0 ≤ 7293034 by omega)⟩).run (fun h1 hh1 => ?_)
        subst hh1
        refine lv_iload hx hb d_L_law_478 (lv_at hl 1 rfl) ?_
        refine lv_icmp_eq (tgt := 485) hx hb d_L_law_480 (by decide) (fun c_480 => ?_) (fun c_480 => ?_)
        · refine lv_iload hx hb d_L_law_485 (lv_at hl 1 rfl) ?_
          refine lv_if_ne (tgt := 501) hx hb d_L_law_487 (by decide) (fun c_487 => ?_) (fun c_487 => ?_)
          · exact absurd rfl c_487
          · refine lv_aload_n hx hb d_L_law_490 rfl (lv_at hl 5 rfl) ?_
            refine lv_iconst (v := 0) hx hb d_L_law_491 (by decide) ?_
            refine va_lald hx hb hK hP 0 0 rfl rfl (show vp_in (nI 0) 1 from vp_in_nI (by decide) (by decide)) d_L_law_492 ?_
            have er : O2 (0 : Int32).toNatClampNeg = x := by rw [g4, hI.2.1 _ (by omega), hI.2.2.1 _ (by omega)]; exact e5
            refine lv_lload hx hb d_L_law_493 (lv_at hl 0 rfl) ?_
            refine W.lcmp hx hb d_L_law_495 ?_
            refine lv_if_eq (tgt := 501) hx hb d_L_law_496 (by decide) (fun c_496 => ?_) (fun c_496 => ?_)
            · have c_496 : O2 (0 : Int32).toNatClampNeg = x := (lg_cmp_eq _ _).mp c_496
              refine lv_goto (tgt := 635) hx hb d_L_law_501 (by decide) ?_
              refine W.widen (k := cells + 2) (n := slots + 12) (by omega) (by omega) ?_
              exact kk d F V M R 0 r N G t KR K T O2 H locs ls hI hP hD hS (lv_sub hl [2, 3, 4, 5, 6] rfl)
            · have c_496 : ¬ O2 (0 : Int32).toNatClampNeg = x := fun q => c_496 ((lg_cmp_eq _ _).mpr q)
              exact absurd er c_496
        · exact absurd rfl c_480
    · exact absurd c_428 c_461
  · refine lv_iconst (v := 1) hx hb d_L_law_431 (by decide) ?_
    refine lv_goto (tgt := 436) hx hb d_L_law_432 (by decide) ?_
    refine lv_aload_n hx hb d_L_law_436 rfl (lv_at hl 3 rfl) ?_
    refine va_calli (vx_runSW (As := [.ref (a 0), .int s1, .int s2, .int 1, .ref q0]) (rest := []) ⟨hx, hb, hml, hown, hts⟩ (m_L_held l hl0 D k a d hd F V M R q0 O _ s1 s2 1 _) (vx_cwSW 5 hts (TB_g3 kl_L_74 kt_L_held kz_L (TB_c kc_L_held)) rfl rfl rfl (by decide +kernel) ⟨Nat.le_of_ble_eq_true rfl, Nat.le_of_ble_eq_true rfl⟩) ⟨PW.bl, fun U hU hW => ⟨rfl, PW.go hK hP hD hS hA hE hU hW⟩⟩ rfl rfl hl.1 rfl (lv_room (Nat.le_of_ble_eq_true rfl)) d_L_law_437 ⟨(show cells + 1 ≤ 601024 by omega), (show slots + 6 ≤ 7293034 by omega)⟩) hS (fun q _ h => cut_F hD hS hA q h) (cut_F hD hS hA) (fun y uu t1 H1 locs1 ht hvm hpost hB hz hk hS => ?_)
    obtain ⟨d2, V2, M2, R2, O2⟩ := uu
    dsimp only at hpost hB
    rw [ht] at hB
    have hP := hB
    have hD := hD.ad (lw_ad (d1 := nI d2) (F := F) (V := V2) (M := M2) (R := R2) (O := O2))
    generalize H1 = H at hP hS ⊢
    generalize locs1 = locs at hS ⊢
    refine lv_istore (lv' := [(5, .int y), (0, .ref b0), (1, .ref (a 0)), (2, .ref (b 0)), (3, .ref q0), (4, .int (nI n))]) hx hb d_L_law_440 hl (by decide) rfl (fun ls hl => ?_)
    refine lv_aload_n hx hb d_L_law_442 rfl (lv_at hl 3 rfl) ?_
    refine lv_aload_n hx hb d_L_law_443 rfl (lv_at hl 1 rfl) ?_
    refine lv_iload hx hb d_L_law_444 (lv_at hl 5 rfl) ?_
    refine lv_iconst (v := 1) hx hb d_L_law_446 (by decide) ?_
    refine lv_iadd hx hb d_L_law_447 ?_
    refine va_sld hx hb hX hbl hbA hS (scr_in (j := 1) (by omega) hL) d_L_law_448 ?_
    rw [← es1]
    refine lv_aload_n hx hb d_L_law_449 rfl (lv_at hl 1 rfl) ?_
    refine lv_iload hx hb d_L_law_450 (lv_at hl 5 rfl) ?_
    refine lv_iconst (v := 2) hx hb d_L_law_452 (by decide) ?_
    refine lv_iadd hx hb d_L_law_453 ?_
    refine va_sld hx hb hX hbl hbA hS (scr_in (j := 2) (by omega) hL) d_L_law_454 ?_
    rw [← es2]
    refine lv_aload_n hx hb d_L_law_455 rfl (lv_at hl 1 rfl) ?_
    refine lv_iload hx hb d_L_law_456 (lv_at hl 5 rfl) ?_
    refine lv_iconst (v := 3) hx hb d_L_law_458 (by decide) ?_
    refine lv_iadd hx hb d_L_law_459 ?_
    refine va_sld hx hb hX hbl hbA hS (scr_in (j := 3) (by omega) hL) d_L_law_460 ?_
    rw [← es3]
    refine lv_if_eq (tgt := 468) hx hb d_L_law_461 (by decide) (fun c_461 => ?_) (fun c_461 => ?_)
    · exact absurd c_461 c_428
    · refine lv_iconst (v := 1) hx hb d_L_law_464 (by decide) ?_
      refine lv_goto (tgt := 469) hx hb d_L_law_465 (by decide) ?_
      refine va_calll (va_runV (As := [.int s1, .int s2, .int 1]) (rest := []) (C := RM) ⟨hx, hb, hml, hown, hts⟩ (m_M_held l D k b f r (nI d) N G t KR K T s1 s2 1 _) (cwV 3 hts (TB_g kl_L_77 ki_M_held ks_M_held kz_M (TB_c kc_M_held)) rfl rfl rfl (by decide +kernel) ⟨Nat.le_of_ble_eq_true rfl, Nat.le_of_ble_eq_true rfl⟩) ⟨PW.bl, va_recv (q := (RM, TM, 9)) (ci := 2) (q0 := 0) hK (cutM_P hP) rfl rfl, fun U hU hW => ⟨rfl, PW.go hK (cutM_P hP) (cutM_D hD) hS hA hE hU hW⟩⟩ rfl rfl hl.1 rfl (lv_room (Nat.le_of_ble_eq_true rfl)) d_L_law_469 ⟨(show cells + 1 + 0 ≤ 601024 by omega), (show slots + 6 + 0 ≤ 7293034 by omega)⟩) hS (fun q _ h => cut_F (cutM_D hD) hS hA q h) (cut_F (cutM_D hD) hS hA) (fun x ww t2 H1 locs1 ht hvm hpost2 hB hz hk hS => ?_)
      rw [ht] at hB
      obtain ⟨hP, hD⟩ := cutM_J hP hD hk hB wm_ad
      generalize H1 = H at hP hS ⊢
      generalize locs1 = locs at hS ⊢
      rcases hpost with ⟨e0, hno, e1, e2, e3, e4⟩ | ⟨e0, g, h, hg, hh, e6, e7, e1, e2, e3, e4, e5⟩
      · rcases hpost2 with ⟨-, g2⟩ | ⟨g1, h1, hg1, hh1, g2, g3, -⟩
        rotate_left
        · exact absurd ⟨g1, h1, hg1, hh1, g2, g3⟩ hno
        subst g2
        have e1 := e1.symm
        have e2 := e2.symm
        have e3 := e3.symm
        have e4 := e4.symm
        subst e0 e1 e2 e3 e4
        refine lv_lstore (lv' := [(6, .long x), (5, .int 1), (0, .ref b0), (1, .ref (a 0)), (2, .ref (b 0)), (3, .ref q0), (4, .int (nI n))]) hx hb d_L_law_472 hl (by decide) rfl (fun ls hl => ?_)
        refine lv_aload_n hx hb d_L_law_474 rfl (lv_at hl 4 rfl) ?_
        refine vp_callSi (va_runV (As := []) (rest := []) (C := RM) ⟨hx, hb, hml, hown, hts⟩ (m_M_thrown l D k b 1 r (nI d) N G t KR K T _) (cwV 0 hts (TB_g kl_L_57 ki_M_thrown ks_M_thrown kz_M (TB_c kc_M_thrown)) rfl rfl rfl (by decide +kernel) ⟨Nat.le_of_ble_eq_true rfl, Nat.le_of_ble_eq_true rfl⟩) ⟨PW.bl, va_recv (q := (RM, TM, 9)) (ci := 2) (q0 := 0) hK (cutM_P hP) rfl rfl, fun U hU hW => ⟨rfl, PW.go hK (cutM_P hP) (cutM_D hD) hS hA hE hU hW⟩⟩ rfl rfl hl.1 rfl (lv_room (Nat.le_of_ble_eq_true rfl)) d_L_law_475 ⟨(show cells + 1 + 0 + 0 ≤ 601024 by omega), (show slots + 6 + 0 + 0 ≤ 7293034 by omega)⟩).run (fun h1 hh1 => ?_)
        subst hh1
        refine lv_iload hx hb d_L_law_478 (lv_at hl 1 rfl) ?_
        refine lv_icmp_eq (tgt := 485) hx hb d_L_law_480 (by decide) (fun c_480 => ?_) (fun c_480 => ?_)
        · refine lv_iload hx hb d_L_law_485 (lv_at hl 1 rfl) ?_
          refine lv_if_ne (tgt := 501) hx hb d_L_law_487 (by decide) (fun c_487 => ?_) (fun c_487 => ?_)
          · refine lv_goto (tgt := 635) hx hb d_L_law_501 (by decide) ?_
            refine W.widen (k := cells + 2) (n := slots + 12) (by omega) (by omega) ?_
            exact kk d F V M R 1 r N G t KR K T O2 H locs ls hI hP hD hS (lv_sub hl [2, 3, 4, 5, 6] rfl)
          · exact absurd c_487 (by decide)
        · exact absurd rfl c_480
      · rcases hpost2 with ⟨hno2, -⟩ | ⟨g1, h1, hg1, hh1, g2, g3, g4, g5⟩
        · exact absurd ⟨g, h, hg, hh, e6, e7⟩ hno2
        obtain rfl : g = g1 := nI_u (by omega) (by omega) (e6.symm.trans g2)
        obtain rfl : h = h1 := nI_u hh hh1 (e7.symm.trans g3)
        subst g5
        have e1 := e1.symm
        have e2 := e2.symm
        have e3 := e3.symm
        have e4 := e4.symm
        subst e0 e1 e2 e3 e4
        refine lv_lstore (lv' := [(6, .long x), (5, .int 0), (0, .ref b0), (1, .ref (a 0)), (2, .ref (b 0)), (3, .ref q0), (4, .int (nI n))]) hx hb d_L_law_472 hl (by decide) rfl (fun ls hl => ?_)
        refine lv_aload_n hx hb d_L_law_474 rfl (lv_at hl 4 rfl) ?_
        refine vp_callSi (va_runV (As := []) (rest := []) (C := RM) ⟨hx, hb, hml, hown, hts⟩ (m_M_thrown l D k b 0 r (nI d) N G t KR K T _) (cwV 0 hts (TB_g kl_L_57 ki_M_thrown ks_M_thrown kz_M (TB_c kc_M_thrown)) rfl rfl rfl (by decide +kernel) ⟨Nat.le_of_ble_eq_true rfl, Nat.le_of_ble_eq_true rfl⟩) ⟨PW.bl, va_recv (q := (RM, TM, 9)) (ci := 2) (q0 := 0) hK (cutM_P hP) rfl rfl, fun U hU hW => ⟨rfl, PW.go hK (cutM_P hP) (cutM_D hD) hS hA hE hU hW⟩⟩ rfl rfl hl.1 rfl (lv_room (Nat.le_of_ble_eq_true rfl)) d_L_law_475 ⟨(show cells + 1 + 0 + 0 ≤ 601024 by omega), (show slots + 6 + 0 + 0 ≤ 7293034 by omega)⟩).run (fun h1 hh1 => ?_)
        subst hh1
        refine lv_iload hx hb d_L_law_478 (lv_at hl 1 rfl) ?_
        refine lv_icmp_eq (tgt := 485) hx hb d_L_law_480 (by decide) (fun c_480 => ?_) (fun c_480 => ?_)
        · refine lv_iload hx hb d_L_law_485 (lv_at hl 1 rfl) ?_
          refine lv_if_ne (tgt := 501) hx hb d_L_law_487 (by decide) (fun c_487 => ?_) (fun c_487 => ?_)
          · exact absurd rfl c_487
          · refine lv_aload_n hx hb d_L_law_490 rfl (lv_at hl 5 rfl) ?_
            refine lv_iconst (v := 0) hx hb d_L_law_491 (by decide) ?_
            refine va_lald hx hb hK hP 0 0 rfl rfl (show vp_in (nI 0) 1 from vp_in_nI (by decide) (by decide)) d_L_law_492 ?_
            have er : O2 (0 : Int32).toNatClampNeg = x := by rw [g4, hI.2.1 _ (by omega), hI.2.2.1 _ (by omega)]; exact e5
            refine lv_lload hx hb d_L_law_493 (lv_at hl 0 rfl) ?_
            refine W.lcmp hx hb d_L_law_495 ?_
            refine lv_if_eq (tgt := 501) hx hb d_L_law_496 (by decide) (fun c_496 => ?_) (fun c_496 => ?_)
            · have c_496 : O2 (0 : Int32).toNatClampNeg = x := (lg_cmp_eq _ _).mp c_496
              refine lv_goto (tgt := 635) hx hb d_L_law_501 (by decide) ?_
              refine W.widen (k := cells + 2) (n := slots + 12) (by omega) (by omega) ?_
              exact kk d F V M R 0 r N G t KR K T O2 H locs ls hI hP hD hS (lv_sub hl [2, 3, 4, 5, 6] rfl)
            · have c_496 : ¬ O2 (0 : Int32).toNatClampNeg = x := fun q => c_496 ((lg_cmp_eq _ _).mpr q)
              exact absurd er c_496
        · exact absurd rfl c_480
set_option maxHeartbeats 4000000 in
set_option maxRecDepth 100000 in
theorem law_touched {p : Program} {l : Launch} {e : Env} {s : State} {m : MethodId} {below : List Frame} {meth : Method} {c : Code} {D : va_G} {k : Nat → ClassId} {a b : Nat → Nat} {q0 b0 L : Nat} {xs : Nat → Int32} (hl0 : l.stackTraces = false) (hL : L ≤ 3072) (C0 : lw_At p s m meth c b0 L xs) (hK : va_K D wCl (tyL k) s) (hE : EV (fun q : Nat => s.heap.size ≤ q) s) {n cells slots : Nat} (hn : n + 6 ≤ L) (hc : cells + 2 ≤ 601024) (hs : slots + 12 ≤ 7293034) (kk : lwS p l e s m below meth c D k a b q0 b0 n 635 (cells + 2) (slots + 12)) : lwS p l e s m below meth c D k a b q0 b0 n 504 (cells) (slots) := by
  obtain ⟨hx, hb, hr, hml, hown, hts0, hX, hbl, hlocks, hgv⟩ := C0
  have hts := TB_in hts0
  have hown : s.vm.findClass RL = some m.cls := hown
  have hA : ∀ q : Nat, s.heap.size ≤ q → (fun q : Nat => s.heap.size ≤ q) q := fun _ h => h
  have hbA : ¬ (fun q : Nat => s.heap.size ≤ q) b0 := Nat.not_le.mpr hbl
  intro d F V M R f r N G t KR K T O H locs ls hI hP hD hS hl
  have hd : d ≤ 30 := hI.1
  refine lv_aload_n hx hb d_L_law_504 rfl (lv_at hl 1 rfl) ?_
  refine lv_aload_n hx hb d_L_law_505 rfl (lv_at hl 0 rfl) ?_
  refine lv_iload hx hb d_L_law_506 (lv_at hl 4 rfl) ?_
  refine lv_iconst (v := 1) hx hb d_L_law_508 (by decide) ?_
  refine lv_iadd hx hb d_L_law_509 ?_
  refine va_sld hx hb hX hbl hbA hS (scr_in (j := 1) (by omega) hL) d_L_law_510 ?_
  refine lv_topi (fun s1 es1 => ?_)
  refine lv_aload_n hx hb d_L_law_511 rfl (lv_at hl 0 rfl) ?_
  refine lv_iload hx hb d_L_law_512 (lv_at hl 4 rfl) ?_
  refine lv_iconst (v := 2) hx hb d_L_law_514 (by decide) ?_
  refine lv_iadd hx hb d_L_law_515 ?_
  refine va_sld hx hb hX hbl hbA hS (scr_in (j := 2) (by omega) hL) d_L_law_516 ?_
  refine lv_topi (fun s2 es2 => ?_)
  refine lv_aload_n hx hb d_L_law_517 rfl (lv_at hl 3 rfl) ?_
  refine va_calli (vx_runSW (As := [.ref (a 0), .int s1, .int s2, .ref q0]) (rest := []) ⟨hx, hb, hml, hown, hts⟩ (m_L_touched l hl0 D k a d hd F V M R q0 O _ s1 s2 _) (vx_cwSW 4 hts (TB_g3 kl_L_78 kt_L_touched kz_L (TB_c kc_L_touched)) rfl rfl rfl (by decide +kernel) ⟨Nat.le_of_ble_eq_true rfl, Nat.le_of_ble_eq_true rfl⟩) ⟨PW.bl, fun U hU hW => ⟨rfl, PW.go hK hP hD hS hA hE hU hW⟩⟩ rfl rfl hl.1 rfl (lv_room (Nat.le_of_ble_eq_true rfl)) d_L_law_518 ⟨(show cells + 1 ≤ 601024 by omega), (show slots + 6 ≤ 7293034 by omega)⟩) hS (fun q _ h => cut_F hD hS hA q h) (cut_F hD hS hA) (fun y uu t1 H1 locs1 ht hvm hpost hB hz hk hS => ?_)
  obtain ⟨d2, V2, M2, R2, O2⟩ := uu
  dsimp only at hpost hB
  rw [ht] at hB
  have hP := hB
  have hD := hD.ad (lw_ad (d1 := nI d2) (F := F) (V := V2) (M := M2) (R := R2) (O := O2))
  generalize H1 = H at hP hS ⊢
  generalize locs1 = locs at hS ⊢
  refine lv_istore (lv' := [(5, .int y), (0, .ref b0), (1, .ref (a 0)), (2, .ref (b 0)), (3, .ref q0), (4, .int (nI n))]) hx hb d_L_law_521 hl (by decide) rfl (fun ls hl => ?_)
  refine lv_aload_n hx hb d_L_law_523 rfl (lv_at hl 3 rfl) ?_
  refine lv_aload_n hx hb d_L_law_524 rfl (lv_at hl 1 rfl) ?_
  refine lv_iload hx hb d_L_law_525 (lv_at hl 5 rfl) ?_
  refine lv_iconst (v := 1) hx hb d_L_law_527 (by decide) ?_
  refine lv_iadd hx hb d_L_law_528 ?_
  refine va_sld hx hb hX hbl hbA hS (scr_in (j := 1) (by omega) hL) d_L_law_529 ?_
  rw [← es1]
  refine lv_aload_n hx hb d_L_law_530 rfl (lv_at hl 1 rfl) ?_
  refine lv_iload hx hb d_L_law_531 (lv_at hl 5 rfl) ?_
  refine lv_iconst (v := 2) hx hb d_L_law_533 (by decide) ?_
  refine lv_iadd hx hb d_L_law_534 ?_
  refine va_sld hx hb hX hbl hbA hS (scr_in (j := 2) (by omega) hL) d_L_law_535 ?_
  rw [← es2]
  refine va_calli (va_runV (As := [.int s1, .int s2]) (rest := []) (C := RM) ⟨hx, hb, hml, hown, hts⟩ (m_M_touched l D k b f r (nI d) N G t KR K T s1 s2 _) (cwV 2 hts (TB_g kl_L_80 ki_M_touched ks_M_touched kz_M (TB_c kc_M_touched)) rfl rfl rfl (by decide +kernel) ⟨Nat.le_of_ble_eq_true rfl, Nat.le_of_ble_eq_true rfl⟩) ⟨PW.bl, va_recv (q := (RM, TM, 9)) (ci := 2) (q0 := 0) hK (cutM_P hP) rfl rfl, fun U hU hW => ⟨rfl, PW.go hK (cutM_P hP) (cutM_D hD) hS hA hE hU hW⟩⟩ rfl rfl hl.1 rfl (lv_room (Nat.le_of_ble_eq_true rfl)) d_L_law_536 ⟨(show cells + 1 + 0 ≤ 601024 by omega), (show slots + 6 + 0 ≤ 7293034 by omega)⟩) hS (fun q _ h => cut_F (cutM_D hD) hS hA q h) (cut_F (cutM_D hD) hS hA) (fun x ww t2 H1 locs1 ht hvm hpost2 hB hz hk hS => ?_)
  rw [ht] at hB
  obtain ⟨hP, hD⟩ := cutM_J hP hD hk hB wm_ad
  generalize H1 = H at hP hS ⊢
  generalize locs1 = locs at hS ⊢
  rcases hpost with ⟨e0, hno, e1, e2, e3, e4⟩ | ⟨e0, g, h, hg, hh, e6, e7, e1, e2, e3, e4, e5⟩
  · rcases hpost2 with ⟨-, g2⟩ | ⟨g1, h1, hg1, hh1, g2, g3, -⟩
    rotate_left
    · exact absurd ⟨g1, h1, hg1, hh1, g2, g3⟩ hno
    subst g2
    have e1 := e1.symm
    have e2 := e2.symm
    have e3 := e3.symm
    have e4 := e4.symm
    subst e0 e1 e2 e3 e4
    refine lv_istore (lv' := [(6, .int x), (5, .int 1), (0, .ref b0), (1, .ref (a 0)), (2, .ref (b 0)), (3, .ref q0), (4, .int (nI n))]) hx hb d_L_law_539 hl (by decide) rfl (fun ls hl => ?_)
    refine lv_aload_n hx hb d_L_law_541 rfl (lv_at hl 4 rfl) ?_
    refine vp_callSi (va_runV (As := []) (rest := []) (C := RM) ⟨hx, hb, hml, hown, hts⟩ (m_M_thrown l D k b 1 r (nI d) N G t KR K T _) (cwV 0 hts (TB_g kl_L_57 ki_M_thrown ks_M_thrown kz_M (TB_c kc_M_thrown)) rfl rfl rfl (by decide +kernel) ⟨Nat.le_of_ble_eq_true rfl, Nat.le_of_ble_eq_true rfl⟩) ⟨PW.bl, va_recv (q := (RM, TM, 9)) (ci := 2) (q0 := 0) hK (cutM_P hP) rfl rfl, fun U hU hW => ⟨rfl, PW.go hK (cutM_P hP) (cutM_D hD) hS hA hE hU hW⟩⟩ rfl rfl hl.1 rfl (lv_room (Nat.le_of_ble_eq_true rfl)) d_L_law_542 ⟨(show cells + 1 + 0 + 0 ≤ 601024 by omega), (show slots + 6 + 0 + 0 ≤ 7293034 by omega)⟩).run (fun h1 hh1 => ?_)
    subst hh1
    refine lv_iload hx hb d_L_law_545 (lv_at hl 1 rfl) ?_
    refine lv_icmp_eq (tgt := 552) hx hb d_L_law_547 (by decide) (fun c_547 => ?_) (fun c_547 => ?_)
    · refine lv_iload hx hb d_L_law_552 (lv_at hl 1 rfl) ?_
      refine lv_if_ne (tgt := 576) hx hb d_L_law_554 (by decide) (fun c_554 => ?_) (fun c_554 => ?_)
      · refine lv_goto (tgt := 635) hx hb d_L_law_576 (by decide) ?_
        refine W.widen (k := cells + 2) (n := slots + 12) (by omega) (by omega) ?_
        exact kk d F V M R 1 r N G t KR K T O2 H locs ls hI hP hD hS (lv_sub hl [2, 3, 4, 5, 6] rfl)
      · exact absurd c_554 (by decide)
    · exact absurd rfl c_547
  · rcases hpost2 with ⟨hno2, -⟩ | ⟨g1, h1, hg1, hh1, g2, g3, g4, g5⟩
    · exact absurd ⟨g, h, hg, hh, e6, e7⟩ hno2
    obtain rfl : g = g1 := nI_u (by omega) (by omega) (e6.symm.trans g2)
    obtain rfl : h = h1 := nI_u hh hh1 (e7.symm.trans g3)
    subst g5
    have e1 := e1.symm
    have e2 := e2.symm
    have e3 := e3.symm
    have e4 := e4.symm
    subst e0 e1 e2 e3 e4
    have htt := hI.2.2.2.1 g h hg hh
    refine lv_istore (lv' := [(6, .int x), (5, .int 0), (0, .ref b0), (1, .ref (a 0)), (2, .ref (b 0)), (3, .ref q0), (4, .int (nI n))]) hx hb d_L_law_539 hl (by decide) rfl (fun ls hl => ?_)
    refine lv_aload_n hx hb d_L_law_541 rfl (lv_at hl 4 rfl) ?_
    refine vp_callSi (va_runV (As := []) (rest := []) (C := RM) ⟨hx, hb, hml, hown, hts⟩ (m_M_thrown l D k b 0 r (nI d) N G t KR K T _) (cwV 0 hts (TB_g kl_L_57 ki_M_thrown ks_M_thrown kz_M (TB_c kc_M_thrown)) rfl rfl rfl (by decide +kernel) ⟨Nat.le_of_ble_eq_true rfl, Nat.le_of_ble_eq_true rfl⟩) ⟨PW.bl, va_recv (q := (RM, TM, 9)) (ci := 2) (q0 := 0) hK (cutM_P hP) rfl rfl, fun U hU hW => ⟨rfl, PW.go hK (cutM_P hP) (cutM_D hD) hS hA hE hU hW⟩⟩ rfl rfl hl.1 rfl (lv_room (Nat.le_of_ble_eq_true rfl)) d_L_law_542 ⟨(show cells + 1 + 0 + 0 ≤ 601024 by omega), (show slots + 6 + 0 + 0 ≤ 7293034 by omega)⟩).run (fun h1 hh1 => ?_)
    subst hh1
    refine lv_iload hx hb d_L_law_545 (lv_at hl 1 rfl) ?_
    refine lv_icmp_eq (tgt := 552) hx hb d_L_law_547 (by decide) (fun c_547 => ?_) (fun c_547 => ?_)
    · refine lv_iload hx hb d_L_law_552 (lv_at hl 1 rfl) ?_
      refine lv_if_ne (tgt := 576) hx hb d_L_law_554 (by decide) (fun c_554 => ?_) (fun c_554 => ?_)
      · exact absurd rfl c_554
      · refine lv_aload_n hx hb d_L_law_557 rfl (lv_at hl 5 rfl) ?_
        refine lv_iconst (v := 0) hx hb d_L_law_558 (by decide) ?_
        refine va_lald hx hb hK hP 0 0 rfl rfl (show vp_in (nI 0) 1 from vp_in_nI (by decide) (by decide)) d_L_law_559 ?_
        refine lv_iload hx hb d_L_law_560 (lv_at hl 0 rfl) ?_
        refine lv_if_eq (tgt := 569) hx hb d_L_law_562 (by decide) (fun c_562 => ?_) (fun c_562 => ?_)
        · have er : O2 (0 : Int32).toNatClampNeg = 0 := by rw [g4, htt] at c_562; refine Eq.trans e5 ?_; cases hq : tb (M d g) h <;> rw [hq] at c_562 <;> first | rfl | exact absurd rfl c_562 | exact absurd c_562 (by decide)
          refine lv_lconst (v := 0) hx hb d_L_law_569 (by decide) ?_
          refine W.lcmp hx hb d_L_law_570 ?_
          refine lv_if_eq (tgt := 576) hx hb d_L_law_571 (by decide) (fun c_571 => ?_) (fun c_571 => ?_)
          · have c_571 : O2 (0 : Int32).toNatClampNeg = 0 := (lg_cmp_eq _ _).mp c_571
            refine lv_goto (tgt := 635) hx hb d_L_law_576 (by decide) ?_
            refine W.widen (k := cells + 2) (n := slots + 12) (by omega) (by omega) ?_
            exact kk d F V M R 0 r N G t KR K T O2 H locs ls hI hP hD hS (lv_sub hl [2, 3, 4, 5, 6] rfl)
          · have c_571 : ¬ O2 (0 : Int32).toNatClampNeg = 0 := fun q => c_571 ((lg_cmp_eq _ _).mpr q)
            exact absurd er c_571
        · have er : O2 (0 : Int32).toNatClampNeg = 1 := by rw [g4, htt] at c_562; refine Eq.trans e5 ?_; cases hq : tb (M d g) h <;> rw [hq] at c_562 <;> first | rfl | exact absurd rfl c_562 | exact absurd c_562 (by decide)
          refine lv_lconst (v := 1) hx hb d_L_law_565 (by decide) ?_
          refine lv_goto (tgt := 570) hx hb d_L_law_566 (by decide) ?_
          refine W.lcmp hx hb d_L_law_570 ?_
          refine lv_if_eq (tgt := 576) hx hb d_L_law_571 (by decide) (fun c_571 => ?_) (fun c_571 => ?_)
          · have c_571 : O2 (0 : Int32).toNatClampNeg = 1 := (lg_cmp_eq _ _).mp c_571
            refine lv_goto (tgt := 635) hx hb d_L_law_576 (by decide) ?_
            refine W.widen (k := cells + 2) (n := slots + 12) (by omega) (by omega) ?_
            exact kk d F V M R 0 r N G t KR K T O2 H locs ls hI hP hD hS (lv_sub hl [2, 3, 4, 5, 6] rfl)
          · have c_571 : ¬ O2 (0 : Int32).toNatClampNeg = 1 := fun q => c_571 ((lg_cmp_eq _ _).mpr q)
            exact absurd er c_571
    · exact absurd rfl c_547
set_option maxHeartbeats 4000000 in
set_option maxRecDepth 100000 in
theorem law_count {p : Program} {l : Launch} {e : Env} {s : State} {m : MethodId} {below : List Frame} {meth : Method} {c : Code} {D : va_G} {k : Nat → ClassId} {a b : Nat → Nat} {q0 b0 L : Nat} {xs : Nat → Int32} (hl0 : l.stackTraces = false) (hL : L ≤ 3072) (C0 : lw_At p s m meth c b0 L xs) (hK : va_K D wCl (tyL k) s) (hE : EV (fun q : Nat => s.heap.size ≤ q) s) {n cells slots : Nat} (hn : n + 6 ≤ L) (hc : cells + 2 ≤ 601024) (hs : slots + 12 ≤ 7293034) (kk : lwS p l e s m below meth c D k a b q0 b0 n 635 (cells + 2) (slots + 12)) : lwS p l e s m below meth c D k a b q0 b0 n 579 (cells) (slots) := by
  obtain ⟨hx, hb, hr, hml, hown, hts0, hX, hbl, hlocks, hgv⟩ := C0
  have hts := TB_in hts0
  have hown : s.vm.findClass RL = some m.cls := hown
  have hA : ∀ q : Nat, s.heap.size ≤ q → (fun q : Nat => s.heap.size ≤ q) q := fun _ h => h
  have hbA : ¬ (fun q : Nat => s.heap.size ≤ q) b0 := Nat.not_le.mpr hbl
  intro d F V M R f r N G t KR K T O H locs ls hI hP hD hS hl
  have hd : d ≤ 30 := hI.1
  refine lv_aload_n hx hb d_L_law_579 rfl (lv_at hl 1 rfl) ?_
  refine lv_aload_n hx hb d_L_law_580 rfl (lv_at hl 0 rfl) ?_
  refine lv_iload hx hb d_L_law_581 (lv_at hl 4 rfl) ?_
  refine lv_iconst (v := 1) hx hb d_L_law_583 (by decide) ?_
  refine lv_iadd hx hb d_L_law_584 ?_
  refine va_sld hx hb hX hbl hbA hS (scr_in (j := 1) (by omega) hL) d_L_law_585 ?_
  refine lv_topi (fun s1 es1 => ?_)
  refine lv_aload_n hx hb d_L_law_586 rfl (lv_at hl 3 rfl) ?_
  refine va_calli (vx_runSW (As := [.ref (a 0), .int s1, .ref q0]) (rest := []) ⟨hx, hb, hml, hown, hts⟩ (m_L_count l hl0 D k a d hd F V M R q0 O _ s1 _) (vx_cwSW 3 hts (TB_g3 kl_L_81 kt_L_count kz_L (TB_c kc_L_count)) rfl rfl rfl (by decide +kernel) ⟨Nat.le_of_ble_eq_true rfl, Nat.le_of_ble_eq_true rfl⟩) ⟨PW.bl, fun U hU hW => ⟨rfl, PW.go hK hP hD hS hA hE hU hW⟩⟩ rfl rfl hl.1 rfl (lv_room (Nat.le_of_ble_eq_true rfl)) d_L_law_587 ⟨(show cells + 1 ≤ 601024 by omega), (show slots + 6 ≤ 7293034 by omega)⟩) hS (fun q _ h => cut_F hD hS hA q h) (cut_F hD hS hA) (fun y uu t1 H1 locs1 ht hvm hpost hB hz hk hS => ?_)
  obtain ⟨d2, V2, M2, R2, O2⟩ := uu
  dsimp only at hpost hB
  rw [ht] at hB
  have hP := hB
  have hD := hD.ad (lw_ad (d1 := nI d2) (F := F) (V := V2) (M := M2) (R := R2) (O := O2))
  generalize H1 = H at hP hS ⊢
  generalize locs1 = locs at hS ⊢
  refine lv_istore (lv' := [(5, .int y), (0, .ref b0), (1, .ref (a 0)), (2, .ref (b 0)), (3, .ref q0), (4, .int (nI n))]) hx hb d_L_law_590 hl (by decide) rfl (fun ls hl => ?_)
  refine lv_aload_n hx hb d_L_law_592 rfl (lv_at hl 3 rfl) ?_
  refine lv_aload_n hx hb d_L_law_593 rfl (lv_at hl 1 rfl) ?_
  refine lv_iload hx hb d_L_law_594 (lv_at hl 5 rfl) ?_
  refine lv_iconst (v := 1) hx hb d_L_law_596 (by decide) ?_
  refine lv_iadd hx hb d_L_law_597 ?_
  refine va_sld hx hb hX hbl hbA hS (scr_in (j := 1) (by omega) hL) d_L_law_598 ?_
  rw [← es1]
  refine va_calli (va_runV (As := [.int s1]) (rest := []) (C := RM) ⟨hx, hb, hml, hown, hts⟩ (m_M_count l D k b f r (nI d) N G t KR K T s1 _) (cwV 1 hts (TB_g kl_L_84 ki_M_count ks_M_count kz_M (TB_c kc_M_count)) rfl rfl rfl (by decide +kernel) ⟨Nat.le_of_ble_eq_true rfl, Nat.le_of_ble_eq_true rfl⟩) ⟨PW.bl, va_recv (q := (RM, TM, 9)) (ci := 2) (q0 := 0) hK (cutM_P hP) rfl rfl, fun U hU hW => ⟨rfl, PW.go hK (cutM_P hP) (cutM_D hD) hS hA hE hU hW⟩⟩ rfl rfl hl.1 rfl (lv_room (Nat.le_of_ble_eq_true rfl)) d_L_law_599 ⟨(show cells + 1 + 0 ≤ 601024 by omega), (show slots + 6 + 0 ≤ 7293034 by omega)⟩) hS (fun q _ h => cut_F (cutM_D hD) hS hA q h) (cut_F (cutM_D hD) hS hA) (fun x ww t2 H1 locs1 ht hvm hpost2 hB hz hk hS => ?_)
  rw [ht] at hB
  obtain ⟨hP, hD⟩ := cutM_J hP hD hk hB wm_ad
  generalize H1 = H at hP hS ⊢
  generalize locs1 = locs at hS ⊢
  rcases hpost with ⟨e0, hno, e1, e2, e3, e4⟩ | ⟨e0, g, x1, hg, e6, e1, e2, e3, e4, e5, i0, i1, i2, i3⟩
  · rcases hpost2 with ⟨-, g2⟩ | ⟨g1, hg1, g2, -⟩
    rotate_left
    · exact absurd ⟨g1, hg1, g2⟩ hno
    subst g2
    have e1 := e1.symm
    have e2 := e2.symm
    have e3 := e3.symm
    have e4 := e4.symm
    subst e0 e1 e2 e3 e4
    refine lv_istore (lv' := [(6, .int x), (5, .int 1), (0, .ref b0), (1, .ref (a 0)), (2, .ref (b 0)), (3, .ref q0), (4, .int (nI n))]) hx hb d_L_law_602 hl (by decide) rfl (fun ls hl => ?_)
    refine lv_aload_n hx hb d_L_law_604 rfl (lv_at hl 4 rfl) ?_
    refine vp_callSi (va_runV (As := []) (rest := []) (C := RM) ⟨hx, hb, hml, hown, hts⟩ (m_M_thrown l D k b 1 r (nI d) N G t KR K T _) (cwV 0 hts (TB_g kl_L_57 ki_M_thrown ks_M_thrown kz_M (TB_c kc_M_thrown)) rfl rfl rfl (by decide +kernel) ⟨Nat.le_of_ble_eq_true rfl, Nat.le_of_ble_eq_true rfl⟩) ⟨PW.bl, va_recv (q := (RM, TM, 9)) (ci := 2) (q0 := 0) hK (cutM_P hP) rfl rfl, fun U hU hW => ⟨rfl, PW.go hK (cutM_P hP) (cutM_D hD) hS hA hE hU hW⟩⟩ rfl rfl hl.1 rfl (lv_room (Nat.le_of_ble_eq_true rfl)) d_L_law_605 ⟨(show cells + 1 + 0 + 0 ≤ 601024 by omega), (show slots + 6 + 0 + 0 ≤ 7293034 by omega)⟩).run (fun h1 hh1 => ?_)
    subst hh1
    refine lv_iload hx hb d_L_law_608 (lv_at hl 1 rfl) ?_
    refine lv_icmp_eq (tgt := 615) hx hb d_L_law_610 (by decide) (fun c_610 => ?_) (fun c_610 => ?_)
    · refine lv_iload hx hb d_L_law_615 (lv_at hl 1 rfl) ?_
      refine lv_if_ne (tgt := 632) hx hb d_L_law_617 (by decide) (fun c_617 => ?_) (fun c_617 => ?_)
      · refine lv_goto (tgt := 635) hx hb d_L_law_632 (by decide) ?_
        refine W.widen (k := cells + 2) (n := slots + 12) (by omega) (by omega) ?_
        exact kk d F V M R 1 r N G t KR K T O2 H locs ls hI hP hD hS (lv_sub hl [2, 3, 4, 5, 6] rfl)
      · exact absurd c_617 (by decide)
    · exact absurd rfl c_610
  · rcases hpost2 with ⟨hno2, -⟩ | ⟨g1, hg1, g2, g5, j0, j1, j2, j3⟩
    · exact absurd ⟨g, hg, e6⟩ hno2
    obtain rfl : g = g1 := nI_u (by omega) (by omega) (e6.symm.trans g2)
    subst g5
    have e1 := e1.symm
    have e2 := e2.symm
    have e3 := e3.symm
    have e4 := e4.symm
    subst e0 e1 e2 e3 e4
    have hxx : x1 = x := by
      rcases (show g = 0 ∨ g = 1 ∨ g = 2 ∨ g = 3 by omega) with h | h | h | h
      · rw [i0 h, j0 h, hI.2.2.2.2.1]
      · rw [i1 h, j1 h, cntb_all hI.2.2.2.1]
      · rw [i2 h, j2 h]
      · rw [i3 h, j3 h, cnt_congr 256 (fun j hj => hI.2.2.1 j hj)]
    refine lv_istore (lv' := [(6, .int x), (5, .int 0), (0, .ref b0), (1, .ref (a 0)), (2, .ref (b 0)), (3, .ref q0), (4, .int (nI n))]) hx hb d_L_law_602 hl (by decide) rfl (fun ls hl => ?_)
    refine lv_aload_n hx hb d_L_law_604 rfl (lv_at hl 4 rfl) ?_
    refine vp_callSi (va_runV (As := []) (rest := []) (C := RM) ⟨hx, hb, hml, hown, hts⟩ (m_M_thrown l D k b 0 r (nI d) N G t KR K T _) (cwV 0 hts (TB_g kl_L_57 ki_M_thrown ks_M_thrown kz_M (TB_c kc_M_thrown)) rfl rfl rfl (by decide +kernel) ⟨Nat.le_of_ble_eq_true rfl, Nat.le_of_ble_eq_true rfl⟩) ⟨PW.bl, va_recv (q := (RM, TM, 9)) (ci := 2) (q0 := 0) hK (cutM_P hP) rfl rfl, fun U hU hW => ⟨rfl, PW.go hK (cutM_P hP) (cutM_D hD) hS hA hE hU hW⟩⟩ rfl rfl hl.1 rfl (lv_room (Nat.le_of_ble_eq_true rfl)) d_L_law_605 ⟨(show cells + 1 + 0 + 0 ≤ 601024 by omega), (show slots + 6 + 0 + 0 ≤ 7293034 by omega)⟩).run (fun h1 hh1 => ?_)
    subst hh1
    refine lv_iload hx hb d_L_law_608 (lv_at hl 1 rfl) ?_
    refine lv_icmp_eq (tgt := 615) hx hb d_L_law_610 (by decide) (fun c_610 => ?_) (fun c_610 => ?_)
    · refine lv_iload hx hb d_L_law_615 (lv_at hl 1 rfl) ?_
      refine lv_if_ne (tgt := 632) hx hb d_L_law_617 (by decide) (fun c_617 => ?_) (fun c_617 => ?_)
      · exact absurd rfl c_617
      · refine lv_aload_n hx hb d_L_law_620 rfl (lv_at hl 5 rfl) ?_
        refine lv_iconst (v := 0) hx hb d_L_law_621 (by decide) ?_
        refine va_lald hx hb hK hP 0 0 rfl rfl (show vp_in (nI 0) 1 from vp_in_nI (by decide) (by decide)) d_L_law_622 ?_
        have er : O2 (0 : Int32).toNatClampNeg = ((x) : Int32).toInt64 := by rw [← hxx]; exact e5
        refine lv_iload hx hb d_L_law_623 (lv_at hl 0 rfl) ?_
        refine lv_i2l hx hb d_L_law_625 rfl ?_
        refine W.lcmp hx hb d_L_law_626 ?_
        refine lv_if_eq (tgt := 632) hx hb d_L_law_627 (by decide) (fun c_627 => ?_) (fun c_627 => ?_)
        · have c_627 : O2 (0 : Int32).toNatClampNeg = ((x) : Int32).toInt64 := (lg_cmp_eq _ _).mp c_627
          refine lv_goto (tgt := 635) hx hb d_L_law_632 (by decide) ?_
          refine W.widen (k := cells + 2) (n := slots + 12) (by omega) (by omega) ?_
          exact kk d F V M R 0 r N G t KR K T O2 H locs ls hI hP hD hS (lv_sub hl [2, 3, 4, 5, 6] rfl)
        · have c_627 : ¬ O2 (0 : Int32).toNatClampNeg = ((x) : Int32).toInt64 := fun q => c_627 ((lg_cmp_eq _ _).mpr q)
          exact absurd er c_627
    · exact absurd rfl c_610
set_option maxHeartbeats 4000000 in
set_option maxRecDepth 100000 in
theorem law_store {p : Program} {l : Launch} {e : Env} {s : State} {m : MethodId} {below : List Frame} {meth : Method} {c : Code} {D : va_G} {k : Nat → ClassId} {a b : Nat → Nat} {q0 b0 L : Nat} {xs : Nat → Int32} (hl0 : l.stackTraces = false) (hL : L ≤ 3072) (C0 : lw_At p s m meth c b0 L xs) (hK : va_K D wCl (tyL k) s) (hE : EV (fun q : Nat => s.heap.size ≤ q) s) {n cells slots : Nat} (hn : n + 6 ≤ L) (hc : cells + 2 ≤ 601024) (hs : slots + 12 ≤ 7293034) (kk : lwS p l e s m below meth c D k a b q0 b0 n 635 (cells + 2) (slots + 12)) : lwS p l e s m below meth c D k a b q0 b0 n 285 (cells) (slots) := by
  obtain ⟨hx, hb, hr, hml, hown, hts0, hX, hbl, hlocks, hgv⟩ := C0
  have hts := TB_in hts0
  have hown : s.vm.findClass RL = some m.cls := hown
  have hA : ∀ q : Nat, s.heap.size ≤ q → (fun q : Nat => s.heap.size ≤ q) q := fun _ h => h
  have hbA : ¬ (fun q : Nat => s.heap.size ≤ q) b0 := Nat.not_le.mpr hbl
  intro d F V M R f r N G t KR K T O H locs ls hI hP hD hS hl
  have hd : d ≤ 30 := hI.1
  refine lv_aload_n hx hb d_L_law_285 rfl (lv_at hl 1 rfl) ?_
  refine lv_aload_n hx hb d_L_law_286 rfl (lv_at hl 0 rfl) ?_
  refine lv_iload hx hb d_L_law_287 (lv_at hl 4 rfl) ?_
  refine lv_iconst (v := 1) hx hb d_L_law_289 (by decide) ?_
  refine lv_iadd hx hb d_L_law_290 ?_
  refine va_sld hx hb hX hbl hbA hS (scr_in (j := 1) (by omega) hL) d_L_law_291 ?_
  refine lv_topi (fun s1 es1 => ?_)
  refine lv_aload_n hx hb d_L_law_292 rfl (lv_at hl 0 rfl) ?_
  refine lv_iload hx hb d_L_law_293 (lv_at hl 4 rfl) ?_
  refine lv_iconst (v := 2) hx hb d_L_law_295 (by decide) ?_
  refine lv_iadd hx hb d_L_law_296 ?_
  refine va_sld hx hb hX hbl hbA hS (scr_in (j := 2) (by omega) hL) d_L_law_297 ?_
  refine lv_topi (fun s2 es2 => ?_)
  refine lv_aload_n hx hb d_L_law_298 rfl (lv_at hl 0 rfl) ?_
  refine lv_iload hx hb d_L_law_299 (lv_at hl 4 rfl) ?_
  refine lv_iconst (v := 3) hx hb d_L_law_301 (by decide) ?_
  refine lv_iadd hx hb d_L_law_302 ?_
  refine va_sld hx hb hX hbl hbA hS (scr_in (j := 3) (by omega) hL) d_L_law_303 ?_
  refine lv_topi (fun s3 es3 => ?_)
  refine lv_i2l hx hb d_L_law_304 rfl ?_
  refine lv_bipush (v := 32) hx hb d_L_law_305 (by decide) ?_
  refine lv_lshl hx hb d_L_law_307 rfl ?_
  refine lv_aload_n hx hb d_L_law_308 rfl (lv_at hl 0 rfl) ?_
  refine lv_iload hx hb d_L_law_309 (lv_at hl 4 rfl) ?_
  refine lv_iconst (v := 4) hx hb d_L_law_311 (by decide) ?_
  refine lv_iadd hx hb d_L_law_312 ?_
  refine va_sld hx hb hX hbl hbA hS (scr_in (j := 4) (by omega) hL) d_L_law_313 ?_
  refine lv_topi (fun s4 es4 => ?_)
  refine lv_i2l hx hb d_L_law_314 rfl ?_
  refine lv_ldc2 hx hb hown (hts _ kd_L_68) d_L_law_315 ?_
  refine lv_land hx hb d_L_law_318 ?_
  refine lv_lor hx hb d_L_law_319 ?_
  refine lv_topl (fun vv evv => ?_)
  refine lv_aload_n hx hb d_L_law_320 rfl (lv_at hl 0 rfl) ?_
  refine lv_iload hx hb d_L_law_321 (lv_at hl 4 rfl) ?_
  refine lv_iconst (v := 5) hx hb d_L_law_323 (by decide) ?_
  refine lv_iadd hx hb d_L_law_324 ?_
  refine va_sld hx hb hX hbl hbA hS (scr_in (j := 5) (by omega) hL) d_L_law_325 ?_
  refine lv_topi (fun s5 es5 => ?_)
  refine lv_aload_n hx hb d_L_law_326 rfl (lv_at hl 3 rfl) ?_
  refine va_calli (vx_runSW (As := [.ref (a 0), .int s1, .int s2, .long vv, .int s5, .ref q0]) (rest := []) ⟨hx, hb, hml, hown, hts⟩ (m_L_store l hl0 D k a d hd F V M R q0 O _ s1 s2 vv s5 _) (vx_cwSW 6 hts (TB_g3 kl_L_70 kt_L_store kz_L (TB_c kc_L_store)) rfl rfl rfl (by decide +kernel) ⟨Nat.le_of_ble_eq_true rfl, Nat.le_of_ble_eq_true rfl⟩) ⟨PW.bl, fun U hU hW => ⟨rfl, PW.go hK hP hD hS hA hE hU hW⟩⟩ rfl rfl hl.1 rfl (lv_room (Nat.le_of_ble_eq_true rfl)) d_L_law_327 ⟨(show cells + 2 ≤ 601024 by omega), (show slots + 12 ≤ 7293034 by omega)⟩) hS (fun q _ h => cut_F hD hS hA q h) (cut_F hD hS hA) (fun y uu t1 H1 locs1 ht hvm hpost hB hz hk hS => ?_)
  obtain ⟨d2, V2, M2, R2, O2⟩ := uu
  dsimp only at hpost hB
  rw [ht] at hB
  have hP := hB
  have hD := hD.ad (lw_ad (d1 := nI d2) (F := F) (V := V2) (M := M2) (R := R2) (O := O2))
  generalize H1 = H at hP hS ⊢
  generalize locs1 = locs at hS ⊢
  refine lv_istore (lv' := [(5, .int y), (0, .ref b0), (1, .ref (a 0)), (2, .ref (b 0)), (3, .ref q0), (4, .int (nI n))]) hx hb d_L_law_330 hl (by decide) rfl (fun ls hl => ?_)
  refine lv_aload_n hx hb d_L_law_332 rfl (lv_at hl 3 rfl) ?_
  refine lv_aload_n hx hb d_L_law_333 rfl (lv_at hl 1 rfl) ?_
  refine lv_iload hx hb d_L_law_334 (lv_at hl 5 rfl) ?_
  refine lv_iconst (v := 1) hx hb d_L_law_336 (by decide) ?_
  refine lv_iadd hx hb d_L_law_337 ?_
  refine va_sld hx hb hX hbl hbA hS (scr_in (j := 1) (by omega) hL) d_L_law_338 ?_
  rw [← es1]
  refine lv_aload_n hx hb d_L_law_339 rfl (lv_at hl 1 rfl) ?_
  refine lv_iload hx hb d_L_law_340 (lv_at hl 5 rfl) ?_
  refine lv_iconst (v := 2) hx hb d_L_law_342 (by decide) ?_
  refine lv_iadd hx hb d_L_law_343 ?_
  refine va_sld hx hb hX hbl hbA hS (scr_in (j := 2) (by omega) hL) d_L_law_344 ?_
  rw [← es2]
  refine lv_aload_n hx hb d_L_law_345 rfl (lv_at hl 1 rfl) ?_
  refine lv_iload hx hb d_L_law_346 (lv_at hl 5 rfl) ?_
  refine lv_iconst (v := 3) hx hb d_L_law_348 (by decide) ?_
  refine lv_iadd hx hb d_L_law_349 ?_
  refine va_sld hx hb hX hbl hbA hS (scr_in (j := 3) (by omega) hL) d_L_law_350 ?_
  rw [← es3]
  refine lv_i2l hx hb d_L_law_351 rfl ?_
  refine lv_bipush (v := 32) hx hb d_L_law_352 (by decide) ?_
  refine lv_lshl hx hb d_L_law_354 rfl ?_
  refine lv_aload_n hx hb d_L_law_355 rfl (lv_at hl 1 rfl) ?_
  refine lv_iload hx hb d_L_law_356 (lv_at hl 5 rfl) ?_
  refine lv_iconst (v := 4) hx hb d_L_law_358 (by decide) ?_
  refine lv_iadd hx hb d_L_law_359 ?_
  refine va_sld hx hb hX hbl hbA hS (scr_in (j := 4) (by omega) hL) d_L_law_360 ?_
  rw [← es4]
  refine lv_i2l hx hb d_L_law_361 rfl ?_
  refine lv_ldc2 hx hb hown (hts _ kd_L_68) d_L_law_362 ?_
  refine lv_land hx hb d_L_law_365 ?_
  refine lv_lor hx hb d_L_law_366 ?_
  rw [← evv]
  refine lv_aload_n hx hb d_L_law_367 rfl (lv_at hl 1 rfl) ?_
  refine lv_iload hx hb d_L_law_368 (lv_at hl 5 rfl) ?_
  refine lv_iconst (v := 5) hx hb d_L_law_370 (by decide) ?_
  refine lv_iadd hx hb d_L_law_371 ?_
  refine va_sld hx hb hX hbl hbA hS (scr_in (j := 5) (by omega) hL) d_L_law_372 ?_
  rw [← es5]
  refine va_calli (va_runV (As := [.int s1, .int s2, .long vv, .int s5]) (rest := []) (C := RM) ⟨hx, hb, hml, hown, hts⟩ (m_M_store l D k b f r (nI d) N G t KR K T s1 s2 vv s5 _) (cwV 4 hts (TB_g kl_L_73 ki_M_store ks_M_store kz_M (TB_c kc_M_store)) rfl rfl rfl (by decide +kernel) ⟨Nat.le_of_ble_eq_true rfl, Nat.le_of_ble_eq_true rfl⟩) ⟨PW.bl, va_recv (q := (RM, TM, 9)) (ci := 2) (q0 := 0) hK (cutM_P hP) rfl rfl, fun U hU hW => ⟨rfl, PW.go hK (cutM_P hP) (cutM_D hD) hS hA hE hU hW⟩⟩ rfl rfl hl.1 rfl (lv_room (Nat.le_of_ble_eq_true rfl)) d_L_law_373 ⟨(show cells + 2 + 0 ≤ 601024 by omega), (show slots + 12 + 0 ≤ 7293034 by omega)⟩) hS (fun q _ h => cut_F (cutM_D hD) hS hA q h) (cut_F (cutM_D hD) hS hA) (fun x ww t2 H1 locs1 ht hvm hpost2 hB hz hk hS => ?_)
  rw [ht] at hB
  obtain ⟨hP, hD⟩ := cutM_J hP hD hk hB wm_ad
  generalize H1 = H at hP hS ⊢
  generalize locs1 = locs at hS ⊢
  obtain ⟨f2, r2, N2, t2⟩ := ww
  dsimp only at hpost2 hP hD
  rcases hpost with ⟨e0, hno, e1, e2, e3, e4⟩ | ⟨e0, g, h, hg, hh, e6, e7, hbad, e1, e2, e3, e4⟩ | ⟨e0, g, h, hg, hh, e6, e7, hb1, hb2, e1, e2, e3, e4, e5⟩
  · rcases hpost2 with ⟨-, g2⟩ | ⟨g1, h1, hg1, hh1, g2, g3, -⟩
    rotate_left
    · exact absurd ⟨g1, h1, hg1, hh1, g2, g3⟩ hno
    obtain ⟨rfl, rfl, rfl, rfl⟩ : 1 = f2 ∧ r = r2 ∧ N = N2 ∧ t = t2 := by injection g2 with i1 i2; injection i2 with i2 i3; injection i3 with i3 i4; exact ⟨i1.symm, i2.symm, i3.symm, i4.symm⟩
    have e1 := e1.symm
    have e2 := e2.symm
    have e3 := e3.symm
    have e4 := e4.symm
    subst e0 e1 e2 e3 e4
    refine lv_istore (lv' := [(6, .int x), (5, .int 1), (0, .ref b0), (1, .ref (a 0)), (2, .ref (b 0)), (3, .ref q0), (4, .int (nI n))]) hx hb d_L_law_376 hl (by decide) rfl (fun ls hl => ?_)
    refine lv_aload_n hx hb d_L_law_378 rfl (lv_at hl 4 rfl) ?_
    refine vp_callSi (va_runV (As := []) (rest := []) (C := RM) ⟨hx, hb, hml, hown, hts⟩ (m_M_thrown l D k b 1 r (nI d) N G t KR K T _) (cwV 0 hts (TB_g kl_L_57 ki_M_thrown ks_M_thrown kz_M (TB_c kc_M_thrown)) rfl rfl rfl (by decide +kernel) ⟨Nat.le_of_ble_eq_true rfl, Nat.le_of_ble_eq_true rfl⟩) ⟨PW.bl, va_recv (q := (RM, TM, 9)) (ci := 2) (q0 := 0) hK (cutM_P hP) rfl rfl, fun U hU hW => ⟨rfl, PW.go hK (cutM_P hP) (cutM_D hD) hS hA hE hU hW⟩⟩ rfl rfl hl.1 rfl (lv_room (Nat.le_of_ble_eq_true rfl)) d_L_law_379 ⟨(show cells + 2 + 0 + 0 ≤ 601024 by omega), (show slots + 12 + 0 + 0 ≤ 7293034 by omega)⟩).run (fun h1 hh1 => ?_)
    subst hh1
    refine lv_iload hx hb d_L_law_382 (lv_at hl 1 rfl) ?_
    refine lv_icmp_eq (tgt := 389) hx hb d_L_law_384 (by decide) (fun c_384 => ?_) (fun c_384 => ?_)
    · refine lv_iload hx hb d_L_law_389 (lv_at hl 1 rfl) ?_
      refine lv_if_ne (tgt := 406) hx hb d_L_law_391 (by decide) (fun c_391 => ?_) (fun c_391 => ?_)
      · refine lv_goto (tgt := 635) hx hb d_L_law_406 (by decide) ?_
        refine W.widen (k := cells + 2) (n := slots + 12) (by omega) (by omega) ?_
        exact kk d F V M R 1 r N G t KR K T O2 H locs ls hI hP hD hS (lv_sub hl [2, 3, 4, 5, 6] rfl)
      · exact absurd c_391 (by decide)
    · exact absurd rfl c_384
  · rcases hpost2 with ⟨hno2, -⟩ | ⟨g1, h1, hg1, hh1, g2, g3, g4⟩
    · exact absurd ⟨g, h, hg, hh, e6, e7⟩ hno2
    obtain rfl : g = g1 := nI_u (by omega) (by omega) (e6.symm.trans g2)
    obtain rfl : h = h1 := nI_u hh hh1 (e7.symm.trans g3)
    have hc1 : fWC (G (g * 64 + h)) (N (g * 64 + h)) vv + (if t (g * 64 + h) then 0 else 2100) = fWC (F (g * 64 + h)) (V d (g * 64 + h)) vv + (if tb (M d g) h then 0 else 2100) := by rw [hI.2.1 _ (by omega), hI.2.2.1 _ (by omega), hI.2.2.2.1 g h hg hh]
    rw [hc1] at g4
    rcases g4 with ⟨-, g5⟩ | ⟨k1, k2, -⟩
    rotate_left
    · exact absurd hbad (fun q => q.elim k1 (fun q => q k2))
    obtain ⟨rfl, rfl, rfl, rfl⟩ : 2 = f2 ∧ r = r2 ∧ N = N2 ∧ t = t2 := by injection g5 with i1 i2; injection i2 with i2 i3; injection i3 with i3 i4; exact ⟨i1.symm, i2.symm, i3.symm, i4.symm⟩
    have e1 := e1.symm
    have e2 := e2.symm
    have e3 := e3.symm
    have e4 := e4.symm
    subst e0 e1 e2 e3 e4
    refine lv_istore (lv' := [(6, .int x), (5, .int 2), (0, .ref b0), (1, .ref (a 0)), (2, .ref (b 0)), (3, .ref q0), (4, .int (nI n))]) hx hb d_L_law_376 hl (by decide) rfl (fun ls hl => ?_)
    refine lv_aload_n hx hb d_L_law_378 rfl (lv_at hl 4 rfl) ?_
    refine vp_callSi (va_runV (As := []) (rest := []) (C := RM) ⟨hx, hb, hml, hown, hts⟩ (m_M_thrown l D k b 2 r (nI d) N G t KR K T _) (cwV 0 hts (TB_g kl_L_57 ki_M_thrown ks_M_thrown kz_M (TB_c kc_M_thrown)) rfl rfl rfl (by decide +kernel) ⟨Nat.le_of_ble_eq_true rfl, Nat.le_of_ble_eq_true rfl⟩) ⟨PW.bl, va_recv (q := (RM, TM, 9)) (ci := 2) (q0 := 0) hK (cutM_P hP) rfl rfl, fun U hU hW => ⟨rfl, PW.go hK (cutM_P hP) (cutM_D hD) hS hA hE hU hW⟩⟩ rfl rfl hl.1 rfl (lv_room (Nat.le_of_ble_eq_true rfl)) d_L_law_379 ⟨(show cells + 2 + 0 + 0 ≤ 601024 by omega), (show slots + 12 + 0 + 0 ≤ 7293034 by omega)⟩).run (fun h1 hh1 => ?_)
    subst hh1
    refine lv_iload hx hb d_L_law_382 (lv_at hl 1 rfl) ?_
    refine lv_icmp_eq (tgt := 389) hx hb d_L_law_384 (by decide) (fun c_384 => ?_) (fun c_384 => ?_)
    · refine lv_iload hx hb d_L_law_389 (lv_at hl 1 rfl) ?_
      refine lv_if_ne (tgt := 406) hx hb d_L_law_391 (by decide) (fun c_391 => ?_) (fun c_391 => ?_)
      · refine lv_goto (tgt := 635) hx hb d_L_law_406 (by decide) ?_
        refine W.widen (k := cells + 2) (n := slots + 12) (by omega) (by omega) ?_
        exact kk d F V M R 2 r N G t KR K T O2 H locs ls hI hP hD hS (lv_sub hl [2, 3, 4, 5, 6] rfl)
      · exact absurd c_391 (by decide)
    · exact absurd rfl c_384
  · rcases hpost2 with ⟨hno2, -⟩ | ⟨g1, h1, hg1, hh1, g2, g3, g4⟩
    · exact absurd ⟨g, h, hg, hh, e6, e7⟩ hno2
    obtain rfl : g = g1 := nI_u (by omega) (by omega) (e6.symm.trans g2)
    obtain rfl : h = h1 := nI_u hh hh1 (e7.symm.trans g3)
    have hc1 : fWC (G (g * 64 + h)) (N (g * 64 + h)) vv + (if t (g * 64 + h) then 0 else 2100) = fWC (F (g * 64 + h)) (V d (g * 64 + h)) vv + (if tb (M d g) h then 0 else 2100) := by rw [hI.2.1 _ (by omega), hI.2.2.1 _ (by omega), hI.2.2.2.1 g h hg hh]
    rw [hc1] at g4
    rcases g4 with ⟨k1, -⟩ | ⟨-, -, g5, g6⟩
    · exact absurd k1 (fun q => q.elim hb1 (fun q => q hb2))
    obtain ⟨rfl, k2, k3, k4⟩ : 0 = f2 ∧ r2 = r + fRC (G (g * 64 + h)) (N (g * 64 + h)) vv ∧ N2 = vp_updL N (g * 64 + h) vv ∧ t2 = va_up t (g * 64 + h) true := by injection g6 with i1 i2; injection i2 with i2 i3; injection i3 with i3 i4; exact ⟨i1.symm, i2, i3, i4⟩
    rw [hI.2.1 _ (by omega), hI.2.2.1 _ (by omega)] at k2
    have e1 := e1.symm
    subst e0 e1 e2 e3 e4 k2 k3 k4
    refine lv_istore (lv' := [(6, .int x), (5, .int 0), (0, .ref b0), (1, .ref (a 0)), (2, .ref (b 0)), (3, .ref q0), (4, .int (nI n))]) hx hb d_L_law_376 hl (by decide) rfl (fun ls hl => ?_)
    refine lv_aload_n hx hb d_L_law_378 rfl (lv_at hl 4 rfl) ?_
    refine vp_callSi (va_runV (As := []) (rest := []) (C := RM) ⟨hx, hb, hml, hown, hts⟩ (m_M_thrown l D k b 0 (r + fRC (F (g * 64 + h)) (V d (g * 64 + h)) vv) (nI d) (vp_updL N (g * 64 + h) vv) G (va_up t (g * 64 + h) true) KR K T _) (cwV 0 hts (TB_g kl_L_57 ki_M_thrown ks_M_thrown kz_M (TB_c kc_M_thrown)) rfl rfl rfl (by decide +kernel) ⟨Nat.le_of_ble_eq_true rfl, Nat.le_of_ble_eq_true rfl⟩) ⟨PW.bl, va_recv (q := (RM, TM, 9)) (ci := 2) (q0 := 0) hK (cutM_P hP) rfl rfl, fun U hU hW => ⟨rfl, PW.go hK (cutM_P hP) (cutM_D hD) hS hA hE hU hW⟩⟩ rfl rfl hl.1 rfl (lv_room (Nat.le_of_ble_eq_true rfl)) d_L_law_379 ⟨(show cells + 2 + 0 + 0 ≤ 601024 by omega), (show slots + 12 + 0 + 0 ≤ 7293034 by omega)⟩).run (fun h1 hh1 => ?_)
    subst hh1
    refine lv_iload hx hb d_L_law_382 (lv_at hl 1 rfl) ?_
    refine lv_icmp_eq (tgt := 389) hx hb d_L_law_384 (by decide) (fun c_384 => ?_) (fun c_384 => ?_)
    · refine lv_iload hx hb d_L_law_389 (lv_at hl 1 rfl) ?_
      refine lv_if_ne (tgt := 406) hx hb d_L_law_391 (by decide) (fun c_391 => ?_) (fun c_391 => ?_)
      · exact absurd rfl c_391
      · refine lv_aload_n hx hb d_L_law_394 rfl (lv_at hl 5 rfl) ?_
        refine lv_iconst (v := 0) hx hb d_L_law_395 (by decide) ?_
        refine va_lald hx hb hK hP 0 0 rfl rfl (show vp_in (nI 0) 1 from vp_in_nI (by decide) (by decide)) d_L_law_396 ?_
        have er : O2 (0 : Int32).toNatClampNeg = ((x) : Int32).toInt64 := by rw [g5]; exact e5
        refine lv_iload hx hb d_L_law_397 (lv_at hl 0 rfl) ?_
        refine lv_i2l hx hb d_L_law_399 rfl ?_
        refine W.lcmp hx hb d_L_law_400 ?_
        refine lv_if_eq (tgt := 406) hx hb d_L_law_401 (by decide) (fun c_401 => ?_) (fun c_401 => ?_)
        · have c_401 : O2 (0 : Int32).toNatClampNeg = ((x) : Int32).toInt64 := (lg_cmp_eq _ _).mp c_401
          refine lv_goto (tgt := 635) hx hb d_L_law_406 (by decide) ?_
          refine W.widen (k := cells + 2) (n := slots + 12) (by omega) (by omega) ?_
          exact kk d F (va_up V d (vp_updL (V d) (g * 64 + h) vv)) (va_up M d (vp_updL (M d) g (tbs (M d g) h))) (va_up R d (R d + fRC (F (g * 64 + h)) (V d (g * 64 + h)) vv)) 0 (r + fRC (F (g * 64 + h)) (V d (g * 64 + h)) vv) (vp_updL N (g * 64 + h) vv) G (va_up t (g * 64 + h) true) KR K T O2 H locs ls (ri_store hI hg hh vv (fRC (F (g * 64 + h)) (V d (g * 64 + h)) vv)) hP hD hS (lv_sub hl [2, 3, 4, 5, 6] rfl)
        · have c_401 : ¬ O2 (0 : Int32).toNatClampNeg = ((x) : Int32).toInt64 := fun q => c_401 ((lg_cmp_eq _ _).mpr q)
          exact absurd er c_401
    · exact absurd rfl c_384
end
section
/-! the law: its loop -/
set_option maxHeartbeats 4000000 in
set_option maxRecDepth 100000 in
theorem law_loop {p : Program} {l : Launch} {e : Env} {s : State} {m : MethodId} {below : List Frame} {meth : Method} {c : Code} {D : va_G} {k : Nat → ClassId} {a b : Nat → Nat} {q0 b0 L : Nat} {xs : Nat → Int32} (hl0 : l.stackTraces = false) (hL : L ≤ 3072) (C0 : lw_At p s m meth c b0 L xs) (hK : va_K D wCl (tyL k) s) (hE : EV (fun q : Nat => s.heap.size ≤ q) s) {c0 s0 : Nat} (hc0 : c0 ≤ 1000) (hs0 : s0 ≤ 100000) : ∀ (q i : Nat), i ≤ 512 → 513 ≤ i + q → lwS p l e s m below meth c D k a b q0 b0 (6 * i) 23 (c0 + 2 * i) (s0 + 12 * i) := by
  intro q
  induction q with
  | zero => intro i h1 h2; exact absurd h2 (by omega)
  | succ q ih =>
    intro i hi hiq
    have C1 := C0
    obtain ⟨hx, hb, hr, hml, hown, hts0, hX, hbl, hlocks, hgv⟩ := C1
    have hbA : ¬ (fun q : Nat => s.heap.size ≤ q) b0 := Nat.not_le.mpr hbl
    intro d F V M R f r N G t KR K T O H locs ls hI hP hD hS hl
    refine lv_iload hx hb d_L_law_23 (lv_at hl 4 rfl) ?_
    refine lv_aload_n hx hb d_L_law_25 rfl (lv_at hl 0 rfl) ?_
    refine va_slen hx hb hX hbl hbA hS d_L_law_26 ?_
    refine W.eq (g2 := F0 m 27 ls [.int (nI L), .int (nI (6 * i))]) rfl ?_
    refine lv_bipush (v := 6) hx hb d_L_law_27 (by decide) ?_
    refine lv_isub hx hb d_L_law_29 ?_
    refine lv_icmp_gt (tgt := 641) hx hb d_L_law_30 (by decide) (fun c_30 => ?_) (fun c_30 => ?_)
    · refine lv_iconst (v := 1) hx hb d_L_law_641 (by decide) ?_
      refine va_forget (fun q hq => hS.2.2 q hq) ?_
      refine W.widen (k := 601024) (n := 7293034) (by omega) (by omega) ?_
      exact lw_ret hx hb hr hlocks d_L_law_642
    · have hle : 6 * i + 6 ≤ L := by
        rcases Nat.lt_or_ge L (6 * i + 6) with h | h
        · refine absurd ?_ c_30
          rw [Int32.lt_iff_toInt_lt]
          have e1 : ((nI L) - (6 : Int32)).toInt = (L : Int) - 6 := pk_sub_toInt (b := 6) (by omega) (by decide)
          rw [e1, nI_toInt (show 6 * i < 2 ^ 31 by omega)]
          omega
        · exact h
      have kk : lwS p l e s m below meth c D k a b q0 b0 (6 * i) 635 (c0 + 2 * i + 2) (s0 + 12 * i + 12) := by
        intro d F V M R f r N G t KR K T O H locs ls hI hP hD hS hl
        refine lv_iinc (v := (nI (6 * i)) + 6) (lv' := [(4, .int ((nI (6 * i)) + 6)), (0, .ref b0), (1, .ref (a 0)), (2, .ref (b 0)), (3, .ref q0)]) hx hb d_L_law_635 hl (k := 4) rfl rfl (by decide) rfl (fun ls hl => ?_)
        refine lv_goto (tgt := 23) hx hb d_L_law_638 (by decide) ?_
        have e1 : nI (6 * i) + 6 = nI (6 * (i + 1)) := (nI_add (6 * i) 6).trans (by rw [Nat.mul_succ])
        rw [e1] at hl
        exact ih (i + 1) (by omega) (by omega) d F V M R f r N G t KR K T O H locs ls hI hP hD hS (lv_sub hl [1, 2, 3, 4, 0] rfl)
      refine lv_aload_n hx hb d_L_law_33 rfl (lv_at hl 0 rfl) ?_
      refine lv_iload hx hb d_L_law_34 (lv_at hl 4 rfl) ?_
      refine va_sld hx hb hX hbl hbA hS (vp_in_nI (show 6 * i < L by omega) (by omega)) d_L_law_36 ?_
      refine lv_topi (fun s0v es0 => ?_)
      refine lv_bipush (v := 7) hx hb d_L_law_37 (by decide) ?_
      refine lv_iand hx hb d_L_law_39 ?_
      obtain ⟨j, hj, ej⟩ := pk_andE s0v (m := 7) 3 (by decide)
      rw [ej]
      have hj : j < 8 := hj
      rcases (show j = 0 ∨ j = 1 ∨ j = 2 ∨ j = 3 ∨ j = 4 ∨ j = 5 ∨ j = 6 ∨ j = 7 by omega) with rfl | rfl | rfl | rfl | rfl | rfl | rfl | rfl
      · refine lv_tableIn (tgt := 88) hx hb d_L_law_40 (by decide) (by decide) rfl (by decide) ?_
        exact law_begin hl0 hL C0 hK hE hle (by omega) (by omega) kk d F V M R f r N G t KR K T O H locs ls hI hP hD hS (lv_sub hl [0, 1, 2, 3, 4] rfl)
      · refine lv_tableIn (tgt := 101) hx hb d_L_law_40 (by decide) (by decide) rfl (by decide) ?_
        exact law_open hl0 hL C0 hK hE hle (by omega) (by omega) kk d F V M R f r N G t KR K T O H locs ls hI hP hD hS (lv_sub hl [0, 1, 2, 3, 4] rfl)
      · refine lv_tableIn (tgt := 145) hx hb d_L_law_40 (by decide) (by decide) rfl (by decide) ?_
        exact law_close hl0 hL C0 hK hE hle (by omega) (by omega) kk d F V M R f r N G t KR K T O H locs ls hI hP hD hS (lv_sub hl [0, 1, 2, 3, 4] rfl)
      · refine lv_tableIn (tgt := 217) hx hb d_L_law_40 (by decide) (by decide) rfl (by decide) ?_
        exact law_load hl0 hL C0 hK hE hle (by omega) (by omega) kk d F V M R f r N G t KR K T O H locs ls hI hP hD hS (lv_sub hl [0, 1, 2, 3, 4] rfl)
      · refine lv_tableIn (tgt := 285) hx hb d_L_law_40 (by decide) (by decide) rfl (by decide) ?_
        exact law_store hl0 hL C0 hK hE hle (by omega) (by omega) kk d F V M R f r N G t KR K T O H locs ls hI hP hD hS (lv_sub hl [0, 1, 2, 3, 4] rfl)
      · refine lv_tableIn (tgt := 409) hx hb d_L_law_40 (by decide) (by decide) rfl (by decide) ?_
        exact law_held hl0 hL C0 hK hE hle (by omega) (by omega) kk d F V M R f r N G t KR K T O H locs ls hI hP hD hS (lv_sub hl [0, 1, 2, 3, 4] rfl)
      · refine lv_tableIn (tgt := 504) hx hb d_L_law_40 (by decide) (by decide) rfl (by decide) ?_
        exact law_touched hl0 hL C0 hK hE hle (by omega) (by omega) kk d F V M R f r N G t KR K T O H locs ls hI hP hD hS (lv_sub hl [0, 1, 2, 3, 4] rfl)
      · refine lv_tableIn (tgt := 579) hx hb d_L_law_40 (by decide) (by decide) rfl (by decide) ?_
        exact law_count hl0 hL C0 hK hE hle (by omega) (by omega) kk d F V M R f r N G t KR K T O H locs ls hI hP hD hS (lv_sub hl [0, 1, 2, 3, 4] rfl)
end
section
/-! an array of rows, made at once: the machine's steps and the world behind it -/
/-- the rows' addresses in an array of N, i of them made, behind the cell h -/
def mm_f (h i : Nat) : Nat → Value := fun j => if j < i then .ref (h + 1 + j) else .null
theorem mm_f0 (h : Nat) : mm_f h 0 = fun _ => .null := by
  funext j
  simp [mm_f]
theorem mm_fs (h i : Nat) : updV (mm_f h i) i (.ref (h + 1 + i)) = mm_f h (i + 1) := by
  funext j
  simp only [updV, mm_f]
  by_cases e : j = i
  · subst e
    rw [if_pos rfl, if_pos (by omega)]
  · rw [if_neg e]
    by_cases q : j < i
    · rw [if_pos q, if_pos (by omega)]
    · rw [if_neg q, if_neg (by omega)]
/-- the state with the array and i of its rows -/
def mm_U (T : State) (cA cC : ClassId) (N M : Nat) (dv : Value) : Nat → State
  | 0 => T.pushCell (arrV cA N (mm_f T.heap.size 0))
  | i + 1 => ((mm_U T cA cC N M dv i).pushCell (arrV cC M (fun _ => dv))).setCell T.heap.size (arrV cA N (mm_f T.heap.size (i + 1)))
theorem mm_at (T : State) (cA cC : ClassId) (N M : Nat) (dv : Value) : ∀ i, (mm_U T cA cC N M dv i).heap.size = T.heap.size + 1 + i ∧ (mm_U T cA cC N M dv i).heap[T.heap.size]? = some (arrV cA N (mm_f T.heap.size i)) ∧
    (mm_U T cA cC N M dv i).vm = T.vm ∧ (mm_U T cA cC N M dv i).slotsUsed = T.slotsUsed + N + i * M ∧ (∀ j, j < i → (mm_U T cA cC N M dv i).heap[T.heap.size + 1 + j]? = some (arrV cC M (fun _ => dv))) ∧ ∀ q, q < T.heap.size → (mm_U T cA cC N M dv i).heap[q]? = T.heap[q]?
  | 0 => ⟨by simp [mm_U], by simp [mm_U], rfl, by simp [mm_U, arrV_size], fun j h => absurd h (Nat.not_lt_zero j), fun q h => State.heap_pushCell_of_lt _ _ h⟩
  | i + 1 => by
    obtain ⟨h1, h2, h3, h4, h5, h6⟩ := mm_at T cA cC N M dv i
    have hlt : T.heap.size < (mm_U T cA cC N M dv i).heap.size := by omega
    have hb : ((mm_U T cA cC N M dv i).pushCell (arrV cC M (fun _ => dv))).heap[T.heap.size]? = some (arrV cA N (mm_f T.heap.size i)) := by rw [State.heap_pushCell_of_lt (h := hlt)]; exact h2
    refine ⟨?_, State.heap_setCell_self hb, by simp [mm_U, h3], ?_, fun j hj => ?_, fun q hq => ?_⟩
    · simp [mm_U, State.setCell, h1]; omega
    · simp [mm_U, h4, arrV_size, Nat.succ_mul]; omega
    · show (((mm_U T cA cC N M dv i).pushCell (arrV cC M (fun _ => dv))).setCell T.heap.size _).heap[T.heap.size + 1 + j]? = _
      rw [State.heap_setCell_other (show T.heap.size ≠ T.heap.size + 1 + j by omega)]
      by_cases e : j = i
      · subst e
        rw [← h1]
        exact State.heap_pushCell_size _ _
      · rw [State.heap_pushCell_of_lt (h := show T.heap.size + 1 + j < (mm_U T cA cC N M dv i).heap.size by omega)]
        exact h5 j (by omega)
    · show (((mm_U T cA cC N M dv i).pushCell (arrV cC M (fun _ => dv))).setCell T.heap.size _).heap[q]? = _
      rw [State.heap_setCell_other (Nat.ne_of_gt hq), State.heap_pushCell_of_lt (h := show q < (mm_U T cA cC N M dv i).heap.size by omega)]
      exact h6 q hq
theorem mm_top (T : State) (f : JFrame) (cA cC : ClassId) (N M : Nat) (dv : Value) : ∀ i, mm_U (T.setTop f) cA cC N M dv i = (mm_U T cA cC N M dv i).setTop f
  | 0 => rfl
  | i + 1 => by simp only [mm_U, mm_top T f cA cC N M dv i, State.heap_setTop, State.pushCell_setTop, State.setCell_setTop]
/-- an array made by the machine -/
theorem mm_new {E : CtlPost} {e : Env} {d : Bool} {acts : List Action} {S : State} {c0 c1 : ClassId} {k : Class} {ty : FieldType} {len : Nat} {dv : Value} {Q9 : Addr → Pre} (hk : S.vm.classes[c0]? = some k) (hkind : k.kind = .array c1 ty) (h1 : ¬ len > e.platform.arrayLengthLimit) (h2 : ¬ len * componentBytes ty > e.platform.maxHeapBytes)
    (hf : fits ty dv = true) (hd : dv.isDefault = true) (h3 : S.heap.size < e.platform.maxCells) (h4 : S.slotsUsed + len ≤ e.platform.maxSlots) (hq : Q9 S.heap.size d acts (S.pushCell (arrV c0 len (fun _ => dv)))) : wp (Jvm.newArray c0 len dv) Q9 E e d acts S := by
  rw [← arrV_new] at hq
  have hfits : ∀ i v, (Array.replicate len dv)[i]? = some v → S.fitsSlot c0 .none i v = true := by
    intro i v hv
    rw [Array.getElem?_replicate] at hv
    split at hv
    · cases hv
      simp [State.fitsSlot, State.slotType?, hk, hkind, hf]
    · cases hv
  have hacts : allocActs (Array.replicate len dv) S.heap.size acts = acts := by
    unfold allocActs
    rw [if_pos (by rw [Array.all_replicate]; split <;> simp [hd])]
  simp only [Jvm.newArray, Jvm.arrayFits, wp_bind', W.ask, W.ite, h1, if_false, wp_pure', W.theClass, hk, hkind, h2, W.alloc, W.stop, Option.some.injEq, exists_eq_left', Array.size_replicate, hacts]
  rw [if_neg (by omega)]
  exact ⟨h3, h4, hfits, hq⟩
theorem mm_ref {t : FieldType} (h : t.isReference = true) (a : Addr) : fits t (.ref a) = true ∧ fits t .null = true := by
  cases t <;> simp [FieldType.isReference] at h <;> exact ⟨rfl, rfl⟩
theorem mm_make {E : CtlPost} {e : Env} {d : Bool} {acts : List Action} {S : State} {cA cC cc : ClassId} {kA kC : Class} {t0 ty : FieldType} {n k : Int32} {N M : Nat} (hkA : S.vm.classes[cA]? = some kA) (hkindA : kA.kind = .array cC t0) (href : t0.isReference = true) (hkC : S.vm.classes[cC]? = some kC) (hkindC : kC.kind = .array cc ty)
    (hn : ¬ n < 0) (hk : ¬ k < 0) (hN : n.toNatClampNeg = N) (hM : k.toNatClampNeg = M) (hl1 : ¬ N > e.platform.arrayLengthLimit) (hh1 : ¬ N * componentBytes t0 > e.platform.maxHeapBytes) (hl2 : ¬ M > e.platform.arrayLengthLimit) (hh2 : ¬ M * componentBytes ty > e.platform.maxHeapBytes)
    (hdf : fits ty (defaultValue ty) = true) (hdd : (defaultValue ty).isDefault = true) (hc : S.heap.size + 1 + N ≤ e.platform.maxCells) (hs : S.slotsUsed + N + N * M ≤ e.platform.maxSlots)
    {Q9 : Addr → Pre} (hq : ∀ d' acts', Q9 S.heap.size d' acts' (mm_U S cA cC N M (defaultValue ty) N)) : wp (multianewarray.make cA [n, k]) Q9 E e d acts S := by
  have hfind : ([k].find? (· < 0)) = none := by simp [hk]
  rw [multianewarray.make]
  simp only [wp_bind', W.ite, hn, if_false, wp_pure', W.theClass, hkA, hkindA, Option.some.injEq, exists_eq_left']
  rw [hN]
  refine mm_new hkA hkindA hl1 hh1 (mm_ref href 0).2 rfl (by omega) (by have := Nat.zero_le (N * M); omega) ?_
  simp only [hfind]
  rw [ite_self, wp_bind', Std.Legacy.Range.forIn_eq_forIn_range']
  have hsz : ([:N] : Std.Legacy.Range).size = N := by simp [Std.Legacy.Range.size]
  rw [hsz]
  show wp (forIn (List.range' 0 N 1) PUnit.unit _) _ E e d acts _
  refine wp_forIn_inv (fun rest s' => ∃ i, i ≤ N ∧ rest = List.range' i (N - i) ∧ s' = mm_U S cA cC N M (defaultValue ty) i) _ _ ⟨0, Nat.zero_le _, rfl, by rw [← mm_f0 S.heap.size]; rfl⟩ ?_ ?_
  · rintro x rest s' d' acts' Q' ⟨i, hi, hl, rfl⟩ hnext
    have hlt : i < N := by
      rcases Nat.lt_or_ge i N with h | h
      · exact h
      · rw [show N - i = 0 by omega] at hl
        cases hl
    obtain ⟨rfl, hrest⟩ : x = i ∧ rest = List.range' (i + 1) (N - (i + 1)) := by
      rw [show N - i = (N - (i + 1)) + 1 by omega, List.range'_succ] at hl
      exact ⟨(List.cons.inj hl).1, (List.cons.inj hl).2⟩
    obtain ⟨f1, f2, f3, f4, -, -⟩ := mm_at S cA cC N M (defaultValue ty) x
    have hmul : x * M + M ≤ N * M := by
      have := Nat.mul_le_mul_right M (show x + 1 ≤ N from hlt)
      rw [Nat.succ_mul] at this
      exact this
    simp only [wp_bind']
    rw [multianewarray.make]
    simp only [wp_bind', W.ite, hk, if_false, wp_pure', W.theClass, f3, hkC, hkindC, Option.some.injEq, exists_eq_left']
    rw [hM]
    refine mm_new (by rw [f3]; exact hkC) hkindC hl2 hh2 hdf hdd (by rw [f1]; omega) (by rw [f4]; omega) ?_
    have hlt0 : S.heap.size < (mm_U S cA cC N M (defaultValue ty) x).heap.size := by omega
    simp only [wp_bind', W.writeLoc, wp_pure']
    refine ⟨arrV cA N (mm_f S.heap.size x), by rw [State.heap_pushCell_of_lt (h := hlt0)]; exact f2, (fun h => by cases h), (by rw [arrV_size]; exact hlt), ?_, hnext _ _ _ ⟨x + 1, hlt, hrest, ?_⟩⟩
    · simp [arrV, State.fitsSlot, State.slotType?, f3, hkA, hkindA, (mm_ref href _).1]
    · rw [f1, arrV_store, mm_fs]; rfl
  · rintro s' d' acts' ⟨i, hi, hl, rfl⟩
    have hiN : i = N := by
      rcases Nat.lt_or_ge i N with h | h
      · rw [show N - i = (N - (i + 1)) + 1 by omega, List.range'_succ] at hl
        cases hl
      · omega
    subst hiN
    simp only [wp_pure']
    exact hq _ _
section MMS
variable {p : Program} {l : Launch} {e : Env} {R : Room} {s : State} {m : MethodId} {args : Array Value} {below : List Frame} {meth : Method} {c : Code} {T : State} {locs : List Loc} {cells slots : Nat}
theorem mm_stand (X : Stand p l e R s m args below meth c T locs cells slots) (cA cC : ClassId) (N M : Nat) (dv : Value) : ∀ i, Stand p l e R s m args below meth c (mm_U T cA cC N M dv i) locs (cells + 1 + i) (slots + N + i * M)
  | 0 => by
    have h := X.pushed (arrV cA N (mm_f T.heap.size 0))
    rw [arrV_size] at h
    rw [Nat.zero_mul]
    exact h
  | i + 1 => by
    have Xi := mm_stand X cA cC N M dv i
    obtain ⟨f1, f2, f3, f4, -, -⟩ := mm_at T cA cC N M dv i
    have hlt0 : T.heap.size < (mm_U T cA cC N M dv i).heap.size := by omega
    have hcell : ((mm_U T cA cC N M dv i).pushCell (arrV cC M (fun _ => dv))).heap[T.heap.size]? = some (arrV cA N (mm_f T.heap.size i)) := by rw [State.heap_pushCell_of_lt (h := hlt0)]; exact f2
    have h := ((Xi.pushed (arrV cC M (fun _ => dv))).stored hcell i (.ref (T.heap.size + 1 + i))).dropFresh (fun x hx => by rw [List.mem_singleton.mp hx]; exact X.heapGrown)
    rw [arrV_size, arrV_store, mm_fs] at h
    rw [show slots + N + (i + 1) * M = slots + N + i * M + M by rw [Nat.succ_mul]; omega]
    exact h
theorem ao_spec {a0 : Array Value} {U : State} {t : FieldType} (h : (Cond.arrayOver (.array t)).before a0 U = true) :
    ∃ comp c9 k9, U.vm.findClass (FieldType.array t).toString = some comp ∧ (U.vm.classes.findIdx? fun (x : Class) => match x.kind with | .array component _ => component == comp | _ => false) = some c9 ∧ U.vm.classes[c9]? = some k9 ∧ k9.kind = .array comp (.array t) ∧ U.vm.findClass ("[" ++ (FieldType.array t).toString) = some c9 := by
  simp only [Cond.before, Cond.holds, Cond.value, beq_iff_eq] at h
  cases hc : U.vm.findClass (FieldType.array t).toString with
  | none => simp [hc] at h
  | some comp =>
    simp only [hc, Option.bind_some, Option.bind_eq_some_iff, Option.map_eq_some_iff] at h
    obtain ⟨c9, hi, k9, hk, hb⟩ := h
    obtain ⟨hlt, hp, -⟩ := Array.findIdx?_eq_some_iff_getElem.mp hi
    have hkk : U.vm.classes[c9] = k9 := (Array.getElem?_eq_some_iff.mp hk).2
    rw [hkk] at hp
    cases hkind : k9.kind with
    | array component ty =>
      rw [hkind] at hb hp
      simp at hb hp
      exact ⟨comp, c9, k9, rfl, hi, hk, by rw [hkind, hp, hb.1], hb.2⟩
    | _ => rw [hkind] at hb; simp at hb
end MMS
section MMW
variable {p : Program} {l : Launch} {e : Env} {R : Room} {s : State} {m : MethodId} {args : Array Value} {below : List Frame} {meth : Method} {c : Code} {H : Heap} {locs : List Loc} {cells slots : Nat} {Q : State → Prop}
variable {cc : ByteArray} {pc : Nat} {ls : Array Slot} {rest : List Value} {D : va_G} {cl : List vw_C} {A : Nat → Prop} {tys : List (ClassId × FieldType)} {ws : va_W} {H0 : Heap}
theorem mm_two {T : State} (X : Stand p l e R s m args below meth c T locs cells slots) (hexec : p.tables.exec = Jvm.exec) {own : String} {index : Nat} {ty : FieldType} (hown : s.vm.findClass own = some m.cls) (hclink : (Cond.classLink own index ("[" ++ (FieldType.array ty).toString)).before args s = true)
    (hover : (Cond.arrayOver (.array ty)).before args s = true) (harr : (Cond.arrayClass ty).before args s = true) {g : JFrame} (hg : g.method = m) (hdg : decode c.code g.pc = .ok (.multianewarray index 2, 4)) {n k : Int32} {N M : Nat} {rest : List Value} (hstack : g.stack = .int k :: .int n :: rest)
    (hn : ¬ n < 0) (hk : ¬ k < 0) (hN : n.toNatClampNeg = N) (hM : k.toNatClampNeg = M) (hb1 : N * 4 ≤ 536870912) (hb2 : M * componentBytes ty ≤ 536870912) (hb3 : M ≤ 536870912) (hdf : fits ty (defaultValue ty) = true) (hdd : (defaultValue ty).isDefault = true)
    (hcells : cells + (1 + N) ≤ R.cells) (hslots : slots + (N + N * M) ≤ R.slots) :
    ∃ (vm₁ : Vm) (cA cC : ClassId), s.WarmedH vm₁ ∧ (s.vm.findClass ("[" ++ (FieldType.array ty).toString) = some cA ∧ s.vm.findClass (FieldType.array ty).toString = some cC ∧ (∃ kA, s.vm.classes[cA]? = some kA ∧ kA.kind = .array cC (.array ty)) ∧ ∃ kC c9, s.vm.classes[cC]? = some kC ∧ kC.kind = .array c9 ty) ∧
      Stand p l e R s m args below meth c (mm_U (T.setVm vm₁) cA cC N M (defaultValue ty) N) locs (cells + 1 + N) (slots + N + N * M) ∧
      ∀ target, Steps p.tables e below ((mm_U (T.setVm vm₁) cA cC N M (defaultValue ty) N).setTop { g with pc := g.pc + 4, stack := .ref T.heap.size :: rest }) target → Steps p.tables e below (T.setTop g) target := by
  subst hg
  have hpl : e.platform.magicAccessors = ({} : Platform).magicAccessors := by rw [X.admits.platform]
  obtain ⟨cC, cA, kA, hcC, -, hkA, hkindA, hnameA⟩ := ao_spec hover
  obtain ⟨cC', kC, c9, hcC', hkC, hkindC⟩ := Cond.arrayClass_spec harr
  obtain rfl : cC' = cC := Option.some.inj (hcC'.symm.trans hcC)
  obtain ⟨c0, hfc0, hcl⟩ := Cond.classLink_spec hown hclink e.platform hpl
  cases hnameA.symm.trans hfc0
  obtain ⟨hg₁, hwarm₁, hready₁⟩ := State.classEntry (e := e) X.warmed hcl
  generalize T.vm.noted g.method.cls index (.cls cA) = vm₁ at hg₁ hwarm₁ hready₁
  have hal : s.vm.Alike vm₁ := hwarm₁.alike
  obtain ⟨kA₁, hkA₁, heA⟩ := hal.2.2 _ _ hkA
  obtain ⟨kC₁, hkC₁, heC⟩ := hal.2.2 _ _ hkC
  have X₁ := X.noted hwarm₁
  obtain ⟨hr1, hr2⟩ := X.roomAbove hcells hslots
  have XF := mm_stand X₁ cA cC' N M (defaultValue ty) N
  refine ⟨vm₁, cA, cC', hwarm₁, ⟨hnameA, hcC, ⟨kA, hkA, hkindA⟩, kC, c9, hkC, hkindC⟩, XF, fun target hrest => ?_⟩
  jvm_step X.here [hexec, hdg]
  simp only [multianewarray.sem, wp_bind', W.resolveClassAt_links (State.method?_setTop g X.here.top) hg₁]
  rw [W.popN, if_neg (by decide)]
  refine ⟨g, State.topJava?_setTop' (s := T.setVm vm₁) g X.here.top, [.int n, .int k], rest, rfl, hstack, ?_⟩
  simp only [List.mapM_cons, List.mapM_nil, wp_bind', wp_pure']
  refine mm_make (kA := kA₁) (kC := kC₁) (cC := cC') (cc := c9) (t0 := .array ty) (ty := ty) hkA₁ (by rw [heA]; exact hkindA) rfl hkC₁ (by rw [heC]; exact hkindC) hn hk hN hM (by rw [Launch.admits_arrayLengthLimit X.admits]; omega) (by rw [Launch.admits_maxHeapBytes X.admits]; show ¬ N * 4 > 536870912; omega)
    (by rw [Launch.admits_arrayLengthLimit X.admits]; omega) (by rw [Launch.admits_maxHeapBytes X.admits]; omega) hdf hdd (by show T.heap.size + 1 + _ ≤ _; omega) (by show T.slotsUsed + _ + _ ≤ _; omega) (fun d' acts' => ?_)
  have eS : ((T.setTop g).setVm vm₁).setTop { g with stack := rest } = (T.setVm vm₁).setTop { g with stack := rest } := by
    show ((T.setVm vm₁).setTop g).setTop _ = _
    rw [State.setTop_setTop]
  rw [eS, mm_top]
  simp only [wp_bind', W.mark, W.pushRef, State.topJava?_setTop' _ XF.here.top, Option.some.injEq, exists_eq_left', State.setTop_setTop, State.heap_setTop]
  intro acts
  simp [jvm, XF.here.top]
  exact hrest
end MMW
end
section
/-! constructors: worlds that grow -/
theorem kc_obj : Cond.code objectInit ⟨#[0xb1]⟩ 1 none ∈ TB := by decide +kernel
theorem ra_eq {U : State} {c1 c2 : ClassId} {ty : FieldType} (h1 : va_RA U c1 ty) (h2 : va_RA U c2 ty) : c1 = c2 := by
  cases ty with
  | object C =>
    obtain ⟨_, _, _, _, _, h1⟩ := h1
    obtain ⟨_, _, _, _, _, h2⟩ := h2
    exact Option.some.inj (h1.symm.trans h2)
  | _ => exact Option.some.inj (h1.symm.trans h2)
theorem arrV_congr (cI : ClassId) {N : Nat} {f g : Nat → Value} (h : ∀ j, j < N → f j = g j) : arrV cI N f = arrV cI N g := by
  unfold arrV
  congr 1
  apply Array.ext
  · simp
  · intro i h1 h2
    simp only [Array.getElem_ofFn]
    exact h i (by simpa using h1)
theorem rg_succ (n : Nat) (f : Nat → Nat × va_E) : rg (n + 1) f = rg n f ++ [f n] := by simp [rg, List.range_succ]
theorem rg_congr {n : Nat} {f g : Nat → Nat × va_E} (h : ∀ j, j < n → f j = g j) : rg n f = rg n g := by
  unfold rg
  exact List.map_congr_left (fun j hj => h j (List.mem_range.mp hj))
theorem va_P.perm {D : va_G} {cl : List vw_C} {ws ws' : va_W} {H : Heap} (h : va_P D cl ws H) (p : ws.Perm ws') : va_P D cl ws' H := fun k q hk => by
  obtain ⟨i, hi⟩ := List.getElem?_of_mem (p.mem_iff.mpr (List.mem_of_getElem? hk))
  exact h i q hi
theorem va_D.perm {A : Nat → Prop} {ws ws' : va_W} (h : va_D A ws) (p : ws.Perm ws') : va_D A ws' := by
  have hn : (ws.map Prod.fst).Nodup := by
    refine List.pairwise_iff_getElem.mpr (fun i j hi hj hij he => ?_)
    rw [List.length_map] at hi hj
    rw [List.getElem_map, List.getElem_map] at he
    have := h.1 i j ws[i] ws[j] (List.getElem?_eq_getElem hi) (List.getElem?_eq_getElem hj) he
    omega
  have hn' : (ws'.map Prod.fst).Nodup := (p.map Prod.fst).nodup_iff.mp hn
  refine ⟨fun i j x y hi hj hxy => ?_, fun k q hk => ?_⟩
  · have hl : i < (ws'.map Prod.fst).length := by rw [List.length_map]; exact (List.getElem?_eq_some_iff.mp hi).1
    refine (List.getElem?_inj hl hn').mp ?_
    rw [List.getElem?_map, List.getElem?_map, hi, hj]
    exact congrArg some hxy
  · obtain ⟨i, hi⟩ := List.getElem?_of_mem (p.mem_iff.mpr (List.mem_of_getElem? hk))
    exact h.2 i q hi
/-- behind a call that had the last cells w of a world and gave back w1, larger maybe -/
theorem cut_G {A0 : Nat → Prop} {D : va_G} {cl : List vw_C} {a w w1 : va_W} {H H1 : Heap} (hP : va_P D cl (a ++ w) H) (hD : va_D A0 (a ++ w)) (hk : ∀ q : Nat, q < H.size → ¬ va_A w H.size q → H1[q]? = H[q]?) (hF : ∀ q, va_A w H.size q → A0 q) (hP1 : va_P D cl w1 H1) (hD1 : va_D (va_A w H.size) w1) :
    va_P D cl (a ++ w1) H1 ∧ va_D A0 (a ++ w1) := by
  have hin : ∀ (i : Nat) (q : Nat × va_E), a[i]? = some q → (a ++ w)[i]? = some q := fun i q h => by
    rw [List.getElem?_append_left (List.getElem?_eq_some_iff.mp h).1]; exact h
  have hinw : ∀ (i : Nat) (q : Nat × va_E), w[i]? = some q → (a ++ w)[a.length + i]? = some q := fun i q h => by
    rw [List.getElem?_append_right (by omega), Nat.add_sub_cancel_left]; exact h
  have apart : ∀ (i : Nat) (q : Nat × va_E), a[i]? = some q → q.1 < H.size ∧ ¬ va_A w H.size q.1 := by
    intro i q hq
    have hl := (hP i q (hin i q hq)).lt
    refine ⟨hl, fun h => ?_⟩
    rcases h with ⟨j, x, hj⟩ | h
    · have := hD.1 i (a.length + j) q (q.1, x) (hin i q hq) (hinw j _ hj) rfl
      have := (List.getElem?_eq_some_iff.mp hq).1
      omega
    · omega
  have hDa : va_D A0 a := ⟨fun i j x y hi hj hxy => hD.1 i j x y (hin i x hi) (hin j y hj) hxy, fun k q hk => hD.2 k q (hin k q hk)⟩
  refine ⟨va_P.app (fun k q hq => (hP k q (hin k q hq)).kept (hk q.1 (apart k q hq).1 (apart k q hq).2)) hP1, hDa.app (hD1.weaken (fun k q _ h => hF q.1 h)) (fun i j x y hx hy hxy => ?_)⟩
  exact (apart i x hx).2 (by rw [hxy]; exact hD1.2 j y hy)
theorem last_P {D : va_G} {cl : List vw_C} {a w : va_W} {H : Heap} (h : va_P D cl (a ++ w) H) : va_P D cl w H := fun k q hk => h (a.length + k) q (by rw [List.getElem?_append_right (by omega), Nat.add_sub_cancel_left]; exact hk)
theorem last_D {A : Nat → Prop} {a w : va_W} (h : va_D A (a ++ w)) : va_D A w := by
  have hinw : ∀ (i : Nat) (q : Nat × va_E), w[i]? = some q → (a ++ w)[a.length + i]? = some q := fun i q h => by
    rw [List.getElem?_append_right (by omega), Nat.add_sub_cancel_left]; exact h
  exact ⟨fun i j x y hi hj hxy => by have := h.1 _ _ x y (hinw i x hi) (hinw j y hj) hxy; omega, fun k q hk => h.2 _ q (hinw k q hk)⟩
section NEWM
variable {p : Program} {l : Launch} {e : Env} {R : Room} {s : State} {m : MethodId} {args : Array Value} {below : List Frame} {meth : Method} {c : Code} {H : Heap} {locs : List Loc} {cells slots : Nat} {Q : State → Prop}
variable {cc : ByteArray} {pc : Nat} {ls : Array Slot} {rest : List Value} {D : va_G} {cl : List vw_C} {A : Nat → Prop} {tys : List (ClassId × FieldType)} {ws : va_W} {H0 : Heap}
set_option maxHeartbeats 4000000 in
theorem va_newm (hexec : p.tables.exec = Jvm.exec) (hb : c.code = cc) {own : String} {index : Nat} {ty : FieldType} (hown : s.vm.findClass own = some m.cls) (hclink : (Cond.classLink own index ("[" ++ (FieldType.array ty).toString)).before args s = true) (hover : (Cond.arrayOver (.array ty)).before args s = true) (harr : (Cond.arrayClass ty).before args s = true)
    (hra : ∀ cC : ClassId, s.vm.findClass (FieldType.array ty).toString = some cC → va_RA s cC ty) (hK : va_K D cl tys s) (hP : va_P D cl ws H) (hD : va_D A ws) (hS : va_S A H0 H locs) (hA : ∀ q, H0.size ≤ q → A q) {n k : Int32} {N M : Nat} {a0 : vp_A} (ha : ∀ cA : ClassId, vp_cell cA a0 = arrV cA M (fun _ => defaultValue ty))
    (hn : ¬ n < 0) (hk : ¬ k < 0) (hN : n.toNatClampNeg = N) (hM : k.toNatClampNeg = M) (hb1 : N * 4 ≤ 536870912) (hb2 : M * componentBytes ty ≤ 536870912) (hb3 : M ≤ 536870912) (hdf : fits ty (defaultValue ty) = true) (hdd : (defaultValue ty).isDefault = true) (hcells : cells + (1 + N) ≤ R.cells) (hslots : slots + (N + N * M) ≤ R.slots)
    (hdg : decode cc pc = .ok (.multianewarray index 2, 4))
    (kk : ∀ (q : Nat) (cA cC : ClassId) (H1 : Heap), va_K D cl (tys ++ [(cA, .array ty), (cC, ty)]) s → va_P D cl (ws ++ ((q, .inl (cA, N, .inr (.inr (.inr (.inr (fun i => some (q + 1 + i))))))) :: rg N (fun i => (q + 1 + i, .inl (cC, a0))))) H1 → va_D A (ws ++ ((q, .inl (cA, N, .inr (.inr (.inr (.inr (fun i => some (q + 1 + i))))))) :: rg N (fun i => (q + 1 + i, .inl (cC, a0))))) → va_S A H0 H1 locs →
      W p l e R s m args below meth c H1 locs (cells + 1 + N) (slots + N + N * M) Q (F0 m (pc + 4) ls (.ref q :: rest))) : W p l e R s m args below meth c H locs cells slots Q (F0 m pc ls (.int k :: .int n :: rest)) := by
  intro T hT X
  obtain ⟨vm₁, cA, cC, hW, ⟨g1, g2, ⟨kA, g3, g4⟩, kC, c9, g5, g6⟩, XF, st⟩ := mm_two X hexec hown hclink hover harr (g := F0 m pc ls (.int k :: .int n :: rest)) rfl (by rw [hb]; exact hdg) rfl hn hk hN hM hb1 hb2 hb3 hdf hdd hcells hslots
  obtain ⟨f1, f2, -, -, f5, f6⟩ := mm_at (T.setVm vm₁) cA cC N M (defaultValue ty) N
  have hh : (T.setVm vm₁).heap = H := hT
  have hTs : T.heap.size = H.size := by rw [hT]
  rw [hh] at f1 f2 f5 f6
  rw [hTs] at st
  have hold : ∀ (i : Nat) (x : Nat × va_E), ws[i]? = some x → x.1 < H.size := fun i x hx => (hP i x hx).lt
  have hnew : ∀ (i : Nat) (x : Nat × va_E), ((H.size, .inl (cA, N, .inr (.inr (.inr (.inr (fun i => some (H.size + 1 + i))))))) :: rg N (fun i => (H.size + 1 + i, .inl (cC, a0))) : va_W)[i]? = some x → x.1 = H.size + i := by
    intro i x hx
    cases i with
    | zero => cases hx; rfl
    | succ i =>
      rw [List.getElem?_cons_succ] at hx
      have hl := (List.getElem?_eq_some_iff.mp hx).1
      rw [rg_len] at hl
      rw [rg_at _ hl] at hx
      cases hx
      show H.size + 1 + i = _
      omega
  obtain ⟨t, a1, b1⟩ := kk H.size cA cC (mm_U (T.setVm vm₁) cA cC N M (defaultValue ty) N).heap
    ⟨hK.1, fun i x hx => by
      rcases List.mem_append.mp (List.mem_of_getElem? hx) with h | h
      · obtain ⟨j, hj⟩ := List.getElem?_of_mem h
        exact hK.2 j x hj
      · rcases List.mem_cons.mp h with rfl | h
        · exact ⟨fun n z => ⟨(fun k h => by cases h), kA, g3, cC, g4⟩, g1⟩
        · rw [List.mem_singleton.mp h]
          exact ⟨fun n z => ⟨(fun k h => by cases h), kC, g5, c9, g6⟩, hra cC g2⟩⟩
    (va_P.app (hP.kept (fun i x hx => f6 x.1 (hold i x hx))) (fun i x hx => by
      cases i with
      | zero =>
        cases hx
        show (mm_U (T.setVm vm₁) cA cC N M (defaultValue ty) N).heap[H.size]? = some (vp_cell _ _)
        rw [f2, vp_cell_q]
        refine congrArg some (arrV_congr cA (fun j hj => ?_))
        show mm_f H.size N j = _
        unfold mm_f
        rw [if_pos hj]
        rfl
      | succ i =>
        rw [List.getElem?_cons_succ] at hx
        have hl := (List.getElem?_eq_some_iff.mp hx).1
        rw [rg_len] at hl
        rw [rg_at _ hl] at hx
        cases hx
        show (mm_U (T.setVm vm₁) cA cC N M (defaultValue ty) N).heap[H.size + 1 + i]? = some (vp_cell _ _)
        rw [f5 i hl, ha]))
    (hD.app ⟨fun i j x y hi hj hxy => by have h1 := hnew i x hi; have h2 := hnew j y hj; omega, fun i x hx => by rw [hnew i x hx]; exact hA _ (Nat.le_trans hS.1 (by omega))⟩ (fun i j x y hx hy hxy => by have h1 := hold i x hx; have h2 := hnew j y hy; omega))
    ⟨Nat.le_trans hS.1 (by rw [f1]; omega), fun q h1 h2 => (f6 q (Nat.lt_of_lt_of_le h1 hS.1)).trans (hS.2.1 q h1 h2), hS.2.2⟩ _ rfl XF
  exact ⟨t, st t a1, b1⟩
end NEWM

set_option maxHeartbeats 4000000 in
set_option maxRecDepth 100000 in
theorem m_S_init (l : Launch) (D : va_G) (k : Nat → ClassId) (h : Nat) (z : Int32) (sz : Nat) : Met l y_S_init (w_S_init :: TB) ({ frames := 1, cells := 2, slots := 260, locals := 20 }) (va_Pc [.ref h] (PW D k [(h, .inr (0, [.null, .null, .int z]))] sz)) (va_Qv (fun _ : Nat × Nat => True) (fun u t => va_P D wCl [(h, .inr (0, [.ref u.1, .ref u.2, .int 0])), (u.1, .inl (k 0, 256, .inr (.inl (fun _ => 0)))), (u.2, .inl (k 0, 4, .inr (.inl (fun _ => 0))))] t.heap ∧ va_D (va_A [(h, .inr (0, [.null, .null, .int z]))] sz) [(h, .inr (0, [.ref u.1, .ref u.2, .int 0])), (u.1, .inl (k 0, 256, .inr (.inl (fun _ => 0)))), (u.2, .inl (k 0, 4, .inr (.inl (fun _ => 0))))]) (va_A [(h, .inr (0, [.null, .null, .int z]))] sz)) 2 260 (va_A [(h, .inr (0, [.null, .null, .int z]))] sz) := by
  refine Met.ofW (cc := b_S_init) (maxL := 1) (ret := none) (by decide) rfl ?_
  intro p e s m args below meth c s₁ B hml hv
  obtain ⟨rfl, hsz, hP, hK, hD0, hE⟩ := hv
  have hx := B.exec
  have hb := B.bytes
  have hr := B.returns
  have hts0 := atoms_spec (ws := w_S_init :: TB) B.pre
  have hts := fun w (hw : w ∈ TB) => hts0 w (List.mem_cons_of_mem _ hw)
  have hown : s.vm.findClass RS = some m.cls := findClass_of_methodNamed B.named
  have hlocks := B.notSynchronized
  have hin : meth.name = "<init>" := (name_of_methodNamed B.named B.method).1
  subst hsz
  have hD := hD0.self (sz := s.heap.size)
  generalize hAe : va_A ([(h, .inr (0, [.null, .null, .int z]))]) s.heap.size = A at *
  have hA : ∀ q : Nat, s.heap.size ≤ q → A q := fun q h => by rw [← hAe]; exact Or.inr h
  have hS : va_S A s.heap s.heap [] := va_S.rf
  have hl := lv_entry ([.ref h]) (n := 1) (Nat.le_of_ble_eq_true rfl)
  rw [lg_entry_eq]
  generalize (lg_sl ([.ref h]) ++ List.replicate (1 - (lg_sl ([.ref h])).length) Slot.unset).toArray = ls at hl ⊢
  have hl : lv_has ls 1 [(0, .ref h)] := hl
  refine lv_aload_n hx hb d_S_init_0 rfl (lv_at hl 0 rfl) ?_
  refine W.objInit hx hb hown (hts _ kl_S_3) (hts _ ki_objectInit) (hts _ kc_obj) rfl (by rw [hml]; exact hl.1) rfl d_S_init_1 (Nat.le_of_ble_eq_true rfl) (Nat.le_of_ble_eq_true rfl) ?_
  refine W.eq (g2 := F0 m 4 ls []) rfl ?_
  refine lv_aload_n hx hb d_S_init_4 rfl (lv_at hl 0 rfl) ?_
  refine lv_sipush (v := 256) hx hb d_S_init_5 (by decide) ?_
  refine va_newa (atype := .long) hx hb (hts _ kr_long) (ty := .long) rfl hK hP hD hS hA (N' := 256) (a0 := (256, .inr (.inl (fun _ => 0)))) (fun _ => rfl) (by decide) (by decide) (by decide) (Nat.le_of_ble_eq_true rfl) (Nat.le_of_ble_eq_true rfl) d_S_init_8 (fun u1 cA H hK1 hP hD hS => ?_)
  obtain rfl : cA = k 0 := ra_eq (hK1.2 6 _ rfl).2 (hK1.2 0 _ rfl).2
  refine va_putF (D := D) (ci := 0) (v := .ref u1) (ty := .array .long) (C := RS) (T := TS) (N := 3) hx hb hts kin_S tS tyS nmS hown hK hP hD hS 0 rfl rfl 0 (by decide) (hts _ kf_S_9) (fun _ h9 => h9) rfl hin rfl (by decide +kernel) rfl rfl (Nat.le_of_ble_eq_true rfl) d_S_init_10 (fun H locs hP hD hS => ?_)
  have hP : va_P D wCl ([(h, .inr (0, [.ref u1, .null, .int z])), (u1, .inl (k 0, 256, .inr (.inl (fun _ => 0))))]) H := hP
  have hD : va_D A ([(h, .inr (0, [.ref u1, .null, .int z])), (u1, .inl (k 0, 256, .inr (.inl (fun _ => 0))))]) := hD
  refine lv_aload_n hx hb d_S_init_13 rfl (lv_at hl 0 rfl) ?_
  refine lv_iconst (v := 4) hx hb d_S_init_14 (by decide) ?_
  refine va_newa (atype := .long) hx hb (hts _ kr_long) (ty := .long) rfl hK hP hD hS hA (N' := 4) (a0 := (4, .inr (.inl (fun _ => 0)))) (fun _ => rfl) (by decide) (by decide) (by decide) (Nat.le_of_ble_eq_true rfl) (Nat.le_of_ble_eq_true rfl) d_S_init_15 (fun u2 cA H hK1 hP hD hS => ?_)
  obtain rfl : cA = k 0 := ra_eq (hK1.2 6 _ rfl).2 (hK1.2 0 _ rfl).2
  refine va_putF (D := D) (ci := 0) (v := .ref u2) (ty := .array .long) (C := RS) (T := TS) (N := 3) hx hb hts kin_S tS tyS nmS hown hK hP hD hS 0 rfl rfl 1 (by decide) (hts _ kf_S_15) (fun _ h9 => h9) rfl hin rfl (by decide +kernel) rfl rfl (Nat.le_of_ble_eq_true rfl) d_S_init_17 (fun H locs hP hD hS => ?_)
  have hP : va_P D wCl ([(h, .inr (0, [.ref u1, .ref u2, .int z])), (u1, .inl (k 0, 256, .inr (.inl (fun _ => 0)))), (u2, .inl (k 0, 4, .inr (.inl (fun _ => 0))))]) H := hP
  have hD : va_D A ([(h, .inr (0, [.ref u1, .ref u2, .int z])), (u1, .inl (k 0, 256, .inr (.inl (fun _ => 0)))), (u2, .inl (k 0, 4, .inr (.inl (fun _ => 0))))]) := hD
  refine lv_aload_n hx hb d_S_init_20 rfl (lv_at hl 0 rfl) ?_
  refine lv_iconst (v := 0) hx hb d_S_init_21 (by decide) ?_
  refine va_put (D := D) (ci := 0) (v := .int 0) (ty := .int) (C := RS) (T := TS) (N := 3) hx hb hts kin_S tS tyS nmS hown hK hP hD hS 0 rfl rfl 2 (by decide) (hts _ kf_S_18) (fun _ h9 => h9) rfl (by decide +kernel) rfl rfl (Nat.le_of_ble_eq_true rfl) d_S_init_22 (fun H locs hP hD hS => ?_)
  have hP : va_P D wCl ([(h, .inr (0, [.ref u1, .ref u2, .int 0])), (u1, .inl (k 0, 256, .inr (.inl (fun _ => 0)))), (u2, .inl (k 0, 4, .inr (.inl (fun _ => 0))))]) H := hP
  have hD : va_D A ([(h, .inr (0, [.ref u1, .ref u2, .int 0])), (u1, .inl (k 0, 256, .inr (.inl (fun _ => 0)))), (u2, .inl (k 0, 4, .inr (.inl (fun _ => 0))))]) := hD
  refine W.widen (k := 2) (n := 260) (by omega) (by omega) ?_
  exact W.vret hx hb hr (fun t ht hW => ⟨⟨(u1, u2), rfl, trivial, atP hP ht, hD⟩, hS.F ht⟩) hS.2.2 d_S_init_25
end
section
/-! the two constructors -/
abbrev WXn (k : Nat → ClassId) (x0 x1 x2 : Nat) (g : Nat → Option Nat) (sa va ma : Nat → Nat) (n : Nat) : va_W :=
  (x0, .inr (1, [.ref x1, .ref x2, .int 0])) :: (x1, .inl (k 0, 256, .inr (.inl (fun _ => 0)))) :: (x2, .inl (k 1, 31, .inr (.inr (.inr (.inr g))))) ::
  (rg n (fun i => (sa i, .inr (0, [.ref (va i), .ref (ma i), .int 0]))) ++ (rg n (fun i => (va i, .inl (k 0, 256, .inr (.inl (fun _ => 0))))) ++ rg n (fun i => (ma i, .inl (k 0, 4, .inr (.inl (fun _ => 0)))))))
theorem wxn_perm {α : Type} (A B C : List α) (s v m : α) : ((A ++ (B ++ C)) ++ [s, v, m]).Perm ((A ++ [s]) ++ ((B ++ [v]) ++ (C ++ [m]))) := by
  have h1 : (C ++ [s, v, m]).Perm (s :: (C ++ [v, m])) := List.perm_middle
  have h2 : (B ++ (s :: (C ++ [v, m]))).Perm (s :: (B ++ (C ++ [v, m]))) := List.perm_middle
  have h3 : (C ++ [v, m]).Perm (v :: (C ++ [m])) := List.perm_middle
  have h4 : (B ++ (C ++ [s, v, m])).Perm (s :: (B ++ (v :: (C ++ [m])))) := ((h1.append_left B).trans h2).trans ((h3.append_left B).cons s)
  have h5 := h4.append_left A
  simpa [List.append_assoc] using h5
theorem wxn_next (k : Nat → ClassId) (x0 x1 x2 : Nat) (g : Nat → Option Nat) (sa va ma : Nat → Nat) (n q u1 u2 : Nat) :
    (WXn k x0 x1 x2 g sa va ma n ++ ([(q, .inr (0, [.ref u1, .ref u2, .int 0])), (u1, .inl (k 0, 256, .inr (.inl (fun _ => 0)))), (u2, .inl (k 0, 4, .inr (.inl (fun _ => 0))))] : va_W)).Perm (WXn k x0 x1 x2 g (va_up sa n q) (va_up va n u1) (va_up ma n u2) (n + 1)) := by
  have hne : ∀ j, j < n → j ≠ n := fun j h => by omega
  have e1 : rg (n + 1) (fun i => (va_up sa n q i, (.inr (0, [.ref (va_up va n u1 i), .ref (va_up ma n u2 i), .int 0]) : va_E))) = rg n (fun i => (sa i, .inr (0, [.ref (va i), .ref (ma i), .int 0]))) ++ [(q, .inr (0, [.ref u1, .ref u2, .int 0]))] := by
    rw [rg_succ, rg_congr (g := fun i => (sa i, .inr (0, [.ref (va i), .ref (ma i), .int 0]))) (fun j hj => by simp only [va_up_ne _ _ (hne j hj)])]
    simp only [va_up_self]
  have e2 : rg (n + 1) (fun i => (va_up va n u1 i, (.inl (k 0, 256, .inr (.inl (fun _ => 0))) : va_E))) = rg n (fun i => (va i, .inl (k 0, 256, .inr (.inl (fun _ => 0))))) ++ [(u1, .inl (k 0, 256, .inr (.inl (fun _ => 0))))] := by
    rw [rg_succ, rg_congr (g := fun i => (va i, .inl (k 0, 256, .inr (.inl (fun _ => 0))))) (fun j hj => by simp only [va_up_ne _ _ (hne j hj)])]
    simp only [va_up_self]
  have e3 : rg (n + 1) (fun i => (va_up ma n u2 i, (.inl (k 0, 4, .inr (.inl (fun _ => 0))) : va_E))) = rg n (fun i => (ma i, .inl (k 0, 4, .inr (.inl (fun _ => 0))))) ++ [(u2, .inl (k 0, 4, .inr (.inl (fun _ => 0))))] := by
    rw [rg_succ, rg_congr (g := fun i => (ma i, .inl (k 0, 4, .inr (.inl (fun _ => 0))))) (fun j hj => by simp only [va_up_ne _ _ (hne j hj)])]
    simp only [va_up_self]
  show (_ :: _ :: _ :: ((_ ++ (_ ++ _)) ++ _)).Perm (_ :: _ :: _ :: (rg (n + 1) _ ++ (rg (n + 1) _ ++ rg (n + 1) _)))
  rw [e1, e2, e3]
  exact (((wxn_perm _ _ _ _ _ _).cons _).cons _).cons _
/-- the addresses as one function -/
def axf (x0 x1 x2 : Nat) (sa va ma : Nat → Nat) : Nat → Nat := fun x => if x = 0 then x0 else if x = 1 then x1 else if x = 2 then x2 else if x < 34 then sa (x - 3) else if x < 65 then va (x - 34) else ma (x - 65)
theorem axf_s (x0 x1 x2 : Nat) (sa va ma : Nat → Nat) {i : Nat} (h : i < 31) : axf x0 x1 x2 sa va ma (3 + i) = sa i := by
  unfold axf
  rw [if_neg (by omega), if_neg (by omega), if_neg (by omega), if_pos (by omega), Nat.add_sub_cancel_left]
theorem axf_v (x0 x1 x2 : Nat) (sa va ma : Nat → Nat) {i : Nat} (h : i < 31) : axf x0 x1 x2 sa va ma (34 + i) = va i := by
  unfold axf
  rw [if_neg (by omega), if_neg (by omega), if_neg (by omega), if_neg (by omega), if_pos (by omega), Nat.add_sub_cancel_left]
theorem axf_m (x0 x1 x2 : Nat) (sa va ma : Nat → Nat) {i : Nat} : axf x0 x1 x2 sa va ma (65 + i) = ma i := by
  unfold axf
  rw [if_neg (by omega), if_neg (by omega), if_neg (by omega), if_neg (by omega), if_neg (by omega), Nat.add_sub_cancel_left]
theorem wxn_eq (k : Nat → ClassId) (x0 x1 x2 : Nat) (sa va ma : Nat → Nat) :
    WX k (axf x0 x1 x2 sa va ma) (nI 0) (fun _ => 0) (fun _ _ => 0) (fun _ _ => 0) (fun _ => 0) = WXn k x0 x1 x2 (fun i => some (axf x0 x1 x2 sa va ma (3 + i))) sa va ma 31 := by
  show _ :: _ :: _ :: (rg 31 _ ++ (rg 31 _ ++ rg 31 _)) = _ :: _ :: _ :: (rg 31 _ ++ (rg 31 _ ++ rg 31 _))
  rw [rg_congr (f := fun i => (axf x0 x1 x2 sa va ma (3 + i), (.inr (0, [.ref (axf x0 x1 x2 sa va ma (34 + i)), .ref (axf x0 x1 x2 sa va ma (65 + i)), .int ((fun _ => 0) i)]) : va_E))) (g := fun i => (sa i, .inr (0, [.ref (va i), .ref (ma i), .int 0]))) (fun j hj => by simp only [axf_s _ _ _ _ _ _ hj, axf_v _ _ _ _ _ _ hj, axf_m]),
    rg_congr (f := fun i => (axf x0 x1 x2 sa va ma (34 + i), (.inl (k 0, 256, .inr (.inl ((fun _ _ => 0) i))) : va_E))) (g := fun i => (va i, .inl (k 0, 256, .inr (.inl (fun _ => 0))))) (fun j hj => by simp only [axf_v _ _ _ _ _ _ hj]),
    rg_congr (f := fun i => (axf x0 x1 x2 sa va ma (65 + i), (.inl (k 0, 4, .inr (.inl ((fun _ _ => 0) i))) : va_E))) (g := fun i => (ma i, .inl (k 0, 4, .inr (.inl (fun _ => 0))))) (fun j hj => by simp only [axf_m])]
  rfl
theorem wxn_P {D : va_G} {k : Nat → ClassId} {x0 x1 x2 : Nat} {g : Nat → Option Nat} {sa va ma : Nat → Nat} {H : Heap} (hg : ∀ i, i < 31 → g i = some (sa i)) (h : va_P D wCl (WXn k x0 x1 x2 g sa va ma 31) H) : va_P D wCl (WX k (axf x0 x1 x2 sa va ma) (nI 0) (fun _ => 0) (fun _ _ => 0) (fun _ _ => 0) (fun _ => 0)) H := by
  rw [wxn_eq]
  intro i q hq
  match i, hq with
  | 0, hq => exact h 0 q hq
  | 1, hq => exact h 1 q hq
  | 2, hq =>
    cases hq
    have h2 : H[x2]? = some (vp_cell (k 1) (31, .inr (.inr (.inr (.inr g))))) := h 2 _ rfl
    show H[x2]? = some (vp_cell (k 1) _)
    rw [h2, vp_cell_q, vp_cell_q]
    exact congrArg some (arrV_congr _ (fun j hj => by rw [hg j hj, axf_s _ _ _ _ _ _ hj]))
  | i + 3, hq => exact h (i + 3) q hq
theorem wxn_D {A : Nat → Prop} {k : Nat → ClassId} {x0 x1 x2 : Nat} {g : Nat → Option Nat} {sa va ma : Nat → Nat} (h : va_D A (WXn k x0 x1 x2 g sa va ma 31)) : va_D A (WX k (axf x0 x1 x2 sa va ma) (nI 0) (fun _ => 0) (fun _ _ => 0) (fun _ _ => 0) (fun _ => 0)) := by
  rw [wxn_eq]
  exact h.ad rfl

set_option maxHeartbeats 4000000 in
set_option maxRecDepth 100000 in
theorem m_X_init (l : Launch) (D : va_G) (k : Nat → ClassId) (x0 : Nat) (sz : Nat) : Met l y_X_init (w_X_init :: TB) ({ frames := 3, cells := 95, slots := 8440, locals := 80 }) (va_Pc [.ref x0] (fun U => PW D k [(x0, .inr (1, [.null, .null, .int 0]))] sz U ∧ va_AO RS U)) (va_Qv (fun a : Nat → Nat => a 0 = x0) (fun a t => va_P D wCl (WX k a (nI 0) (fun _ => 0) (fun _ _ => 0) (fun _ _ => 0) (fun _ => 0)) t.heap ∧ va_D (va_A [(x0, .inr (1, [.null, .null, .int 0]))] sz) (WX k a (nI 0) (fun _ => 0) (fun _ _ => 0) (fun _ _ => 0) (fun _ => 0))) (va_A [(x0, .inr (1, [.null, .null, .int 0]))] sz)) 95 8440 (va_A [(x0, .inr (1, [.null, .null, .int 0]))] sz) := by
  refine Met.ofW (cc := b_X_init) (maxL := 2) (ret := none) (by decide) rfl ?_
  intro p e s m args below meth c s₁ B hml hv
  obtain ⟨rfl, ⟨hsz, hP, hK, hD0, hE⟩, hao⟩ := hv
  have hx := B.exec
  have hb := B.bytes
  have hr := B.returns
  have hts0 := atoms_spec (ws := w_X_init :: TB) B.pre
  have hts := fun w (hw : w ∈ TB) => hts0 w (List.mem_cons_of_mem _ hw)
  have hown : s.vm.findClass RX = some m.cls := findClass_of_methodNamed B.named
  have hlocks := B.notSynchronized
  have hin : meth.name = "<init>" := (name_of_methodNamed B.named B.method).1
  subst hsz
  have hD := hD0.self (sz := s.heap.size)
  generalize hAe : va_A ([(x0, .inr (1, [.null, .null, .int 0]))]) s.heap.size = A at *
  have hA : ∀ q : Nat, s.heap.size ≤ q → A q := fun q h => by rw [← hAe]; exact Or.inr h
  have hS : va_S A s.heap s.heap [] := va_S.rf
  have hl := lv_entry ([.ref x0]) (n := 2) (Nat.le_of_ble_eq_true rfl)
  rw [lg_entry_eq]
  generalize (lg_sl ([.ref x0]) ++ List.replicate (2 - (lg_sl ([.ref x0])).length) Slot.unset).toArray = ls at hl ⊢
  have hl : lv_has ls 2 [(0, .ref x0)] := hl
  refine lv_aload_n hx hb d_X_init_0 rfl (lv_at hl 0 rfl) ?_
  refine W.objInit hx hb hown (hts _ kl_X_3) (hts _ ki_objectInit) (hts _ kc_obj) rfl (by rw [hml]; exact hl.1) rfl d_X_init_1 (Nat.le_of_ble_eq_true rfl) (Nat.le_of_ble_eq_true rfl) ?_
  refine W.eq (g2 := F0 m 4 ls []) rfl ?_
  refine lv_aload_n hx hb d_X_init_4 rfl (lv_at hl 0 rfl) ?_
  refine lv_sipush (v := 256) hx hb d_X_init_5 (by decide) ?_
  refine va_newa (atype := .long) hx hb (hts _ kr_long) (ty := .long) rfl hK hP hD hS hA (N' := 256) (a0 := (256, .inr (.inl (fun _ => 0)))) (fun _ => rfl) (by decide) (by decide) (by decide) (Nat.le_of_ble_eq_true rfl) (Nat.le_of_ble_eq_true rfl) d_X_init_8 (fun x1 cA H hK1 hP hD hS => ?_)
  obtain rfl : cA = k 0 := ra_eq (hK1.2 6 _ rfl).2 (hK1.2 0 _ rfl).2
  refine va_putF (D := D) (ci := 1) (v := .ref x1) (ty := .array .long) (C := RX) (T := TX) (N := 3) hx hb hts kin_X tX tyX nmX hown hK hP hD hS 0 rfl rfl 0 (by decide) (hts _ kf_X_9) (fun _ h9 => h9) rfl hin rfl (by decide +kernel) rfl rfl (Nat.le_of_ble_eq_true rfl) d_X_init_10 (fun H locs hP hD hS => ?_)
  have hP : va_P D wCl ([(x0, .inr (1, [.ref x1, .null, .int 0])), (x1, .inl (k 0, 256, .inr (.inl (fun _ => 0))))]) H := hP
  have hD : va_D A ([(x0, .inr (1, [.ref x1, .null, .int 0])), (x1, .inl (k 0, 256, .inr (.inl (fun _ => 0))))]) := hD
  refine lv_aload_n hx hb d_X_init_13 rfl (lv_at hl 0 rfl) ?_
  refine lv_bipush (v := 31) hx hb d_X_init_14 (by decide) ?_
  refine va_newq hx hb hown (hts _ kk_X_13) hao hK hP hD hS hA (N' := 31) (by decide) (by decide) (by decide) (Nat.le_of_ble_eq_true rfl) (Nat.le_of_ble_eq_true rfl) d_X_init_16 (fun x2 cA H hK1 hP hD hS => ?_)
  obtain rfl : cA = k 1 := ra_eq (hK1.2 6 _ rfl).2 (hK1.2 1 _ rfl).2
  refine va_putF (D := D) (ci := 1) (v := .ref x2) (ty := .array (.object "StorageCosts$State")) (C := RX) (T := TX) (N := 3) hx hb hts kin_X tX tyX nmX hown hK hP hD hS 0 rfl rfl 1 (by decide) (hts _ kf_X_15) (fun _ h9 => h9) rfl hin rfl (by decide +kernel) rfl rfl (Nat.le_of_ble_eq_true rfl) d_X_init_19 (fun H locs hP hD hS => ?_)
  have hP : va_P D wCl ([(x0, .inr (1, [.ref x1, .ref x2, .int 0])), (x1, .inl (k 0, 256, .inr (.inl (fun _ => 0)))), (x2, .inl (k 1, 31, .inr (.inr (.inr (.inr (fun _ => none))))))]) H := hP
  have hD : va_D A ([(x0, .inr (1, [.ref x1, .ref x2, .int 0])), (x1, .inl (k 0, 256, .inr (.inl (fun _ => 0)))), (x2, .inl (k 1, 31, .inr (.inr (.inr (.inr (fun _ => none))))))]) := hD
  refine lv_aload_n hx hb d_X_init_22 rfl (lv_at hl 0 rfl) ?_
  refine lv_iconst (v := 0) hx hb d_X_init_23 (by decide) ?_
  refine va_put (D := D) (ci := 1) (v := .int 0) (ty := .int) (C := RX) (T := TX) (N := 3) hx hb hts kin_X tX tyX nmX hown hK hP hD hS 0 rfl rfl 2 (by decide) (hts _ kf_X_19) (fun _ h9 => h9) rfl (by decide +kernel) rfl rfl (Nat.le_of_ble_eq_true rfl) d_X_init_24 (fun H locs hP hD hS => ?_)
  have hP : va_P D wCl ([(x0, .inr (1, [.ref x1, .ref x2, .int 0])), (x1, .inl (k 0, 256, .inr (.inl (fun _ => 0)))), (x2, .inl (k 1, 31, .inr (.inr (.inr (.inr (fun _ => none))))))]) H := hP
  have hD : va_D A ([(x0, .inr (1, [.ref x1, .ref x2, .int 0])), (x1, .inl (k 0, 256, .inr (.inl (fun _ => 0)))), (x2, .inl (k 1, 31, .inr (.inr (.inr (.inr (fun _ => none))))))]) := hD
  refine lv_iconst (v := 0) hx hb d_X_init_27 (by decide) ?_
  refine lv_istore_n (lv' := [(1, .int 0), (0, .ref x0)]) hx hb d_X_init_28 rfl hl (by decide) rfl (fun ls hl => ?_)
  generalize H = H9 at hP hS ⊢
  generalize locs = locs9 at hS ⊢
  refine W.widen (k := 2 + 3 * 0) (n := 287 + 263 * 0) (by omega) (by omega) ?_
  generalize hRR : (headSpec (w_X_init :: TB) { frames := 3, cells := 95, slots := 8440, locals := 80 }).room = RR
  generalize hQQ : MQ below (va_Qv (fun a : Nat → Nat => a 0 = x0) (fun a t => va_P D wCl (WX k a (nI 0) (fun _ => 0) (fun _ _ => 0) (fun _ _ => 0) (fun _ => 0)) t.heap ∧ va_D A (WX k a (nI 0) (fun _ => 0) (fun _ _ => 0) (fun _ _ => 0) (fun _ => 0))) A) [.ref x0].toArray s 95 8440 A = QQ
  have hRc : RR.cells = 95 := by rw [← hRR]; rfl
  have hRs : RR.slots = 8440 := by rw [← hRR]; rfl
  have loop : ∀ (n j : Nat), j ≤ 31 → 32 ≤ j + n → ∀ (g : Nat → Option Nat) (sa va ma : Nat → Nat), (∀ i, i < j → g i = some (sa i)) → ∀ (H : Heap) (locs : List Loc), va_P D wCl (WXn k x0 x1 x2 g sa va ma j) H → va_D A (WXn k x0 x1 x2 g sa va ma j) → va_S A s.heap H locs → ∀ (ls : Array Slot), lv_has ls 2 [(1, .int (nI j)), (0, .ref x0)] → W p l e RR s m [.ref x0].toArray below meth c H locs (2 + 3 * j) (287 + 263 * j) QQ (F0 m 29 ls []) := by
    intro n
    induction n with
    | zero =>
      intro j h1 h2
      exact absurd h2 (by omega)
    | succ n ih =>
      intro j hj hjn g sa va ma hg H locs hP hD hS ls hl
      refine lv_iload_n hx hb d_X_init_29 rfl (lv_at hl 0 rfl) ?_
      refine lv_aload_n hx hb d_X_init_30 rfl (lv_at hl 1 rfl) ?_
      refine va_get (D := D) (ci := 1) (v := .ref x2) (C := RX) (T := TX) (N := 3) hx hb hts kin_X hown hK hP 0 rfl rfl 1 (by decide) (hts _ kf_X_15) (fun _ h9 => h9) rfl d_X_init_31 ?_
      refine va_alen hx hb hK hP 2 1 rfl rfl (v := 31) rfl d_X_init_34 ?_
      refine lv_icmp_ge (tgt := 57) hx hb d_X_init_35 (by decide) (fun c_35 => ?_) (fun c_35 => ?_)
      · have hj : j = 31 := by
          rcases Nat.lt_or_ge j 31 with q | q
          · exact absurd c_35 (nI_ge q (by decide))
          · omega
        subst hj hQQ
        refine W.widen (k := 95) (n := 8440) (by omega) (by omega) ?_
        exact W.vret hx hb hr (fun t ht hW => ⟨⟨axf x0 x1 x2 sa va ma, rfl, rfl, atP (wxn_P hg hP) ht, wxn_D hD⟩, hS.F ht⟩) hS.2.2 d_X_init_57
      · have hlt : j < 31 := by
          rcases Nat.lt_or_ge j 31 with q | q
          · exact q
          · exact absurd (nI_le q (by omega)) c_35
        refine lv_aload_n hx hb d_X_init_38 rfl (lv_at hl 1 rfl) ?_
        refine va_get (D := D) (ci := 1) (v := .ref x2) (C := RX) (T := TX) (N := 3) hx hb hts kin_X hown hK hP 0 rfl rfl 1 (by decide) (hts _ kf_X_15) (fun _ h9 => h9) rfl d_X_init_39 ?_
        refine lv_iload_n hx hb d_X_init_42 rfl (lv_at hl 0 rfl) ?_
        refine va_new (ci := 0) (fs := [.null, .null, .int 0]) (C := RS) (T := TS) (N := 3) hx hb hts kin_S tS tyS hown (hts _ kk_X_13) (hts _ ka_S) (hts _ kz_S) hK hP hD hS hA rfl (fun i hi => by rcases (show i = 0 ∨ i = 1 ∨ i = 2 by omega) with rfl | rfl | rfl <;> rfl) (by omega) (by omega) d_X_init_43 (fun q H hP hD hS => ?_)
        refine lv_dup hx hb d_X_init_46 rfl ?_
        have hFc := cut_F (last_D hD) hS hA
        refine va_callv (va_runIN (As := []) (rest := [.ref q, .int (nI j), .ref x2]) (host := RX) ⟨hx, hb, hml, hown, hts⟩ (m_S_init l D k q 0 _) ⟨va_cnB 0 hts (TB_c kc_S_init) rfl rfl rfl (hE.1 _ nl_X_23) (hts _ kz_S) (by decide +kernel) (by rw [← hRR]; exact ⟨Nat.le_of_ble_eq_true rfl, Nat.le_of_ble_eq_true rfl⟩), rfl, hts _ ki_S_init⟩ ⟨PW.bl, fun U hU hW => ⟨rfl, PW.go hK (last_P hP) (last_D hD) hS hA hE hU hW⟩⟩ rfl rfl hl.1 rfl (lv_room (Nat.le_of_ble_eq_true rfl)) d_X_init_47 (by omega)) hS (fun q _ h => hFc q h) hFc (fun u t H1 locs1 ht hvm hw hB hz1 hk1 hS => ?_)
        obtain ⟨u1, u2⟩ := u
        obtain ⟨hB, hBD⟩ := hB
        dsimp only at hB hBD
        rw [ht] at hB
        obtain ⟨hP, hD⟩ := cut_G hP hD hk1 hFc hB hBD
        generalize H1 = H at hP hS ⊢
        generalize locs1 = locs at hS ⊢
        obtain ⟨qk, hqk⟩ : ∃ qk, (WXn k x0 x1 x2 g sa va ma j ++ ([(q, .inr (0, [.ref u1, .ref u2, .int 0])), (u1, .inl (k 0, 256, .inr (.inl (fun _ => 0)))), (u2, .inl (k 0, 4, .inr (.inl (fun _ => 0))))] : va_W))[qk]? = some ((q, .inr (0, [.ref u1, .ref u2, .int 0])) : Nat × va_E) := List.getElem?_of_mem (List.mem_append_right _ List.mem_cons_self)
        refine va_astq (r := (RS, TS, 3)) hx hb hK hP hD hS 2 1 qk 0 rfl rfl hqk rfl (vp_in_nI hlt (by decide)) d_X_init_50 (fun H locs hP hD hS => ?_)
        have hP : va_P D wCl (WXn k x0 x1 x2 (va_up g (nI j).toNatClampNeg (some q)) sa va ma j ++ [(q, .inr (0, [.ref u1, .ref u2, .int 0])), (u1, .inl (k 0, 256, .inr (.inl (fun _ => 0)))), (u2, .inl (k 0, 4, .inr (.inl (fun _ => 0))))]) H := hP
        have hD : va_D A (WXn k x0 x1 x2 (va_up g (nI j).toNatClampNeg (some q)) sa va ma j ++ [(q, .inr (0, [.ref u1, .ref u2, .int 0])), (u1, .inl (k 0, 256, .inr (.inl (fun _ => 0)))), (u2, .inl (k 0, 4, .inr (.inl (fun _ => 0))))]) := hD
        rw [nI_clamp (show j < 2 ^ 31 by omega)] at hP hD
        have hP := hP.perm (wxn_next k x0 x1 x2 _ sa va ma j q u1 u2)
        have hD := hD.perm (wxn_next k x0 x1 x2 _ sa va ma j q u1 u2)
        refine lv_iinc (v := (nI j) + 1) (lv' := [(1, .int ((nI j) + 1)), (0, .ref x0)]) hx hb d_X_init_51 hl (k := 0) rfl rfl (by decide) rfl (fun ls hl => ?_)
        refine lv_goto (tgt := 29) hx hb d_X_init_54 (by decide) ?_
        refine W.widen (k := 2 + 3 * (j + 1)) (n := 287 + 263 * (j + 1)) (by omega) (by omega) ?_
        refine ih (j + 1) hlt (by omega) _ _ _ _ (fun i hi => ?_) H locs hP hD hS ls ?_
        · by_cases h : i = j
          · rw [h, va_up_self, va_up_self]
          · rw [va_up_ne _ _ h, va_up_ne _ _ h]; exact hg i (by omega)
        · rw [← nI_1 j]; exact lv_sub hl [0, 1] rfl
  exact loop 32 0 (by omega) (by omega) (fun _ => none) (fun _ => 0) (fun _ => 0) (fun _ => 0) (fun i h => absurd h (Nat.not_lt_zero i)) H9 locs9 hP hD hS ls (lv_sub hl [0, 1] rfl)
def AOA (t : FieldType) (U : State) : Prop := (Cond.arrayOver (.array t)).before #[] U = true
theorem AOA.moved {t : FieldType} {u U : State} (hvm : u.vm.Alike U.vm) (h : AOA t u) : AOA t U := by
  obtain ⟨comp, c9, k9, h1, h2, h3, h4, h5⟩ := ao_spec h
  obtain ⟨k', hk', he⟩ := hvm.2.2 _ _ h3
  have hi : (U.vm.classes.findIdx? fun (x : Class) => match x.kind with | .array component _ => component == comp | _ => false) = some c9 := by
    rw [hvm.findIdx?_eqK _ (fun _ => rfl)]
    exact h2
  have hkind : k'.kind = .array comp (.array t) := by rw [he]; exact h4
  have f1 : U.vm.findClass (FieldType.array t).toString = some comp := by rw [hvm.findClass]; exact h1
  have f2 : U.vm.findClass ("[" ++ (FieldType.array t).toString) = some c9 := by rw [hvm.findClass]; exact h5
  unfold AOA Cond.before Cond.holds
  simp only [Cond.value]
  rw [f1, Option.bind_some]
  refine (congrArg (fun o : Option Nat => (o.bind (fun c => (U.vm.classes[c]?).map fun (k : Class) => match k.kind with | .array _ ty => decide (ty = FieldType.array t) && decide (U.vm.findClass ("[" ++ (FieldType.array t).toString) = some c) | _ => false) == some true)) hi).trans ?_
  simp [hk', hkind, f2]
theorem nmJJ : ("[" ++ (FieldType.array .long).toString) = "[[J" := by decide +kernel
theorem nmZZ : ("[" ++ (FieldType.array .boolean).toString) = "[[Z" := by decide +kernel
def bxf (y0 y1 y2 y3 y4 y5 y6 : Nat) : Nat → Nat := fun x => if x = 0 then y0 else if x = 1 then y1 else if x = 2 then y2 else if x = 3 then y3 else if x = 4 then y4 else if x = 5 then y5 else if x = 6 then y6 else if x < 38 then y1 + 1 + (x - 7) else y2 + 1 + (x - 38)
theorem bxf_k (y0 y1 y2 y3 y4 y5 y6 : Nat) {i : Nat} (h : i < 31) : bxf y0 y1 y2 y3 y4 y5 y6 (7 + i) = y1 + 1 + i := by
  unfold bxf
  rw [if_neg (by omega), if_neg (by omega), if_neg (by omega), if_neg (by omega), if_neg (by omega), if_neg (by omega), if_neg (by omega), if_pos (by omega), Nat.add_sub_cancel_left]
theorem bxf_t (y0 y1 y2 y3 y4 y5 y6 : Nat) {i : Nat} : bxf y0 y1 y2 y3 y4 y5 y6 (38 + i) = y2 + 1 + i := by
  unfold bxf
  rw [if_neg (by omega), if_neg (by omega), if_neg (by omega), if_neg (by omega), if_neg (by omega), if_neg (by omega), if_neg (by omega), if_neg (by omega), Nat.add_sub_cancel_left]
theorem wmn_perm {α : Type} (ob K T R N F U : α) (A B : List α) : ([ob] ++ (K :: A) ++ (T :: B) ++ [R] ++ [N] ++ [F] ++ [U]).Perm (ob :: K :: T :: R :: N :: F :: U :: (A ++ B)) := by
  have h1 : (A ++ (T :: B) ++ [R, N, F, U]).Perm ([T] ++ [R, N, F, U] ++ (A ++ B)) := by
    have h2 : (A ++ (T :: B)).Perm (T :: (A ++ B)) := List.perm_middle
    exact (h2.append_right _).trans (List.perm_append_comm.cons T)
  have h3 := (h1.cons K).cons ob
  simpa [List.append_assoc] using h3
abbrev refs (f : Nat → Option Nat) : (Nat → Int32) ⊕ (Nat → Int64) ⊕ (Nat → UInt32) ⊕ (Nat → UInt64) ⊕ (Nat → Option Nat) := .inr (.inr (.inr (.inr f)))
theorem wmn_eq {D : va_G} (k : Nat → ClassId) (y0 y1 y2 y3 y4 y5 y6 : Nat) {H : Heap} {A : Nat → Prop} (hP : va_P D wCl ((y0, .inr (2, [.int 0, .ref y1, .ref y2, .ref y3, .ref y4, .ref y5, .ref y6, .int 0, .int 0])) :: (y1, .inl (k 2, 31, refs (fun i => some (y1 + 1 + i)))) :: (y2, .inl (k 3, 31, refs (fun i => some (y2 + 1 + i)))) :: (y3, .inl (k 4, 31, .inl (fun _ => 0))) :: (y4, .inl (k 0, 256, .inr (.inl (fun _ => 0)))) :: (y5, .inl (k 0, 256, .inr (.inl (fun _ => 0)))) :: (y6, .inl (k 5, 256, .inl (fun _ => 0))) :: (rg 31 (fun i => (y1 + 1 + i, .inl (k 0, 256, .inr (.inl (fun _ => 0))))) ++ rg 31 (fun i => (y2 + 1 + i, .inl (k 5, 256, .inl (fun _ => 0)))))) H)
    (hD : va_D A ((y0, .inr (2, [.int 0, .ref y1, .ref y2, .ref y3, .ref y4, .ref y5, .ref y6, .int 0, .int 0])) :: (y1, .inl (k 2, 31, refs (fun i => some (y1 + 1 + i)))) :: (y2, .inl (k 3, 31, refs (fun i => some (y2 + 1 + i)))) :: (y3, .inl (k 4, 31, .inl (fun _ => 0))) :: (y4, .inl (k 0, 256, .inr (.inl (fun _ => 0)))) :: (y5, .inl (k 0, 256, .inr (.inl (fun _ => 0)))) :: (y6, .inl (k 5, 256, .inl (fun _ => 0))) :: (rg 31 (fun i => (y1 + 1 + i, .inl (k 0, 256, .inr (.inl (fun _ => 0))))) ++ rg 31 (fun i => (y2 + 1 + i, .inl (k 5, 256, .inl (fun _ => 0))))))) :
    va_P D wCl (WM k (bxf y0 y1 y2 y3 y4 y5 y6) 0 0 (nI 0) (fun _ => 0) (fun _ => 0) (zb (fun _ => false)) (fun _ => 0) (fun _ _ => 0) (fun _ => zb (fun _ => false))) H ∧ va_D A (WM k (bxf y0 y1 y2 y3 y4 y5 y6) 0 0 (nI 0) (fun _ => 0) (fun _ => 0) (zb (fun _ => false)) (fun _ => 0) (fun _ _ => 0) (fun _ => zb (fun _ => false))) := by
  have e1 : rg 31 (fun i => (bxf y0 y1 y2 y3 y4 y5 y6 (7 + i), (.inl (k 0, 256, .inr (.inl (fun _ => 0))) : va_E))) = rg 31 (fun i => (y1 + 1 + i, .inl (k 0, 256, .inr (.inl (fun _ => 0))))) := rg_congr (fun j hj => by simp only [bxf_k _ _ _ _ _ _ _ hj])
  have e2 : rg 31 (fun i => (bxf y0 y1 y2 y3 y4 y5 y6 (38 + i), (.inl (k 5, 256, .inl (fun _ => 0)) : va_E))) = rg 31 (fun i => (y2 + 1 + i, .inl (k 5, 256, .inl (fun _ => 0)))) := rg_congr (fun j hj => by simp only [bxf_t])
  have ew : WM k (bxf y0 y1 y2 y3 y4 y5 y6) 0 0 (nI 0) (fun _ => 0) (fun _ => 0) (zb (fun _ => false)) (fun _ => 0) (fun _ _ => 0) (fun _ => zb (fun _ => false)) = (y0, .inr (2, [.int 0, .ref y1, .ref y2, .ref y3, .ref y4, .ref y5, .ref y6, .int 0, .int 0])) :: (y1, .inl (k 2, 31, refs (fun i => some (bxf y0 y1 y2 y3 y4 y5 y6 (7 + i))))) :: (y2, .inl (k 3, 31, refs (fun i => some (bxf y0 y1 y2 y3 y4 y5 y6 (38 + i))))) :: (y3, .inl (k 4, 31, .inl (fun _ => 0))) :: (y4, .inl (k 0, 256, .inr (.inl (fun _ => 0)))) :: (y5, .inl (k 0, 256, .inr (.inl (fun _ => 0)))) :: (y6, .inl (k 5, 256, .inl (fun _ => 0))) :: (rg 31 (fun i => (y1 + 1 + i, .inl (k 0, 256, .inr (.inl (fun _ => 0))))) ++ rg 31 (fun i => (y2 + 1 + i, .inl (k 5, 256, .inl (fun _ => 0))))) := by
    rw [← e1, ← e2]; rfl
  rw [ew]
  refine ⟨fun i q hq => ?_, hD.ad rfl⟩
  match i, hq with
  | 0, hq => exact hP 0 q hq
  | 1, hq =>
    cases hq
    have h2 : H[y1]? = some (vp_cell (k 2) (31, refs (fun i => some (y1 + 1 + i)))) := hP 1 _ rfl
    show H[y1]? = some (vp_cell (k 2) _)
    rw [h2, vp_cell_q, vp_cell_q]
    exact congrArg some (arrV_congr _ (fun j hj => by rw [bxf_k _ _ _ _ _ _ _ hj]))
  | 2, hq =>
    cases hq
    have h2 : H[y2]? = some (vp_cell (k 3) (31, refs (fun i => some (y2 + 1 + i)))) := hP 2 _ rfl
    show H[y2]? = some (vp_cell (k 3) _)
    rw [h2, vp_cell_q, vp_cell_q]
    exact congrArg some (arrV_congr _ (fun j hj => by rw [bxf_t]))
  | i + 3, hq => exact hP (i + 3) q hq

set_option maxHeartbeats 4000000 in
set_option maxRecDepth 100000 in
theorem m_M_init (l : Launch) (D : va_G) (k : Nat → ClassId) (y0 : Nat) (sz : Nat) : Met l y_M_init (w_M_init :: TB) ({ frames := 1, cells := 68, slots := 16733, locals := 20 }) (va_Pc [.ref y0] (fun U => PW D k [(y0, .inr (2, [.int 0, .null, .null, .null, .null, .null, .null, .int 0, .int 0]))] sz U ∧ AOA .long U ∧ AOA .boolean U)) (va_Qv (fun b : Nat → Nat => b 0 = y0) (fun b t => va_P D wCl (WM k b 0 0 (nI 0) (fun _ => 0) (fun _ => 0) (zb (fun _ => false)) (fun _ => 0) (fun _ _ => 0) (fun _ => zb (fun _ => false))) t.heap ∧ va_D (va_A [(y0, .inr (2, [.int 0, .null, .null, .null, .null, .null, .null, .int 0, .int 0]))] sz) (WM k b 0 0 (nI 0) (fun _ => 0) (fun _ => 0) (zb (fun _ => false)) (fun _ => 0) (fun _ _ => 0) (fun _ => zb (fun _ => false)))) (va_A [(y0, .inr (2, [.int 0, .null, .null, .null, .null, .null, .null, .int 0, .int 0]))] sz)) 68 16733 (va_A [(y0, .inr (2, [.int 0, .null, .null, .null, .null, .null, .null, .int 0, .int 0]))] sz) := by
  refine Met.ofW (cc := b_M_init) (maxL := 1) (ret := none) (by decide) rfl ?_
  intro p e s m args below meth c s₁ B hml hv
  obtain ⟨rfl, ⟨hsz, hP, hK, hD0, hE⟩, hao1, hao2⟩ := hv
  have hx := B.exec
  have hb := B.bytes
  have hr := B.returns
  have hts0 := atoms_spec (ws := w_M_init :: TB) B.pre
  have hts := fun w (hw : w ∈ TB) => hts0 w (List.mem_cons_of_mem _ hw)
  have hown : s.vm.findClass RM = some m.cls := findClass_of_methodNamed B.named
  have hlocks := B.notSynchronized
  have hin : meth.name = "<init>" := (name_of_methodNamed B.named B.method).1
  subst hsz
  have hD := hD0.self (sz := s.heap.size)
  generalize hAe : va_A ([(y0, .inr (2, [.int 0, .null, .null, .null, .null, .null, .null, .int 0, .int 0]))]) s.heap.size = A at *
  have hA : ∀ q : Nat, s.heap.size ≤ q → A q := fun q h => by rw [← hAe]; exact Or.inr h
  have hS : va_S A s.heap s.heap [] := va_S.rf
  have hl := lv_entry ([.ref y0]) (n := 1) (Nat.le_of_ble_eq_true rfl)
  rw [lg_entry_eq]
  generalize (lg_sl ([.ref y0]) ++ List.replicate (1 - (lg_sl ([.ref y0])).length) Slot.unset).toArray = ls at hl ⊢
  have hl : lv_has ls 1 [(0, .ref y0)] := hl
  refine lv_aload_n hx hb d_M_init_0 rfl (lv_at hl 0 rfl) ?_
  refine W.objInit hx hb hown (hts _ kl_M_1) (hts _ ki_objectInit) (hts _ kc_obj) rfl (by rw [hml]; exact hl.1) rfl d_M_init_1 (Nat.le_of_ble_eq_true rfl) (Nat.le_of_ble_eq_true rfl) ?_
  refine W.eq (g2 := F0 m 4 ls []) rfl ?_
  refine lv_aload_n hx hb d_M_init_4 rfl (lv_at hl 0 rfl) ?_
  refine lv_bipush (v := 31) hx hb d_M_init_5 (by decide) ?_
  refine lv_sipush (v := 256) hx hb d_M_init_7 (by decide) ?_
  refine va_newm (ty := .long) (own := RM) (index := 7) (n := 31) (k := 256) (N := 31) (M := 256) (a0 := (256, .inr (.inl (fun _ => 0)))) hx hb hown ?_ ?_ (hts _ kr_long) (fun _ h => h) hK hP hD hS hA ?_ ?_ ?_ ?_ ?_ ?_ ?_ ?_ ?_ ?_ ?_ ?_ d_M_init_10 ?_
  · rw [nmJJ]; exact hts _ kk_M_7
  · exact hao1
  · exact fun _ => rfl
  · decide
  · decide
  · decide
  · decide
  · decide
  · decide
  · decide
  · rfl
  · rfl
  · exact Nat.le_of_ble_eq_true rfl
  · exact Nat.le_of_ble_eq_true rfl
  intro y1 cA cC H hK1 hP hD hS
  obtain rfl : cA = k 2 := ra_eq (hK1.2 6 _ rfl).2 (hK1.2 2 _ rfl).2
  obtain rfl : cC = k 0 := ra_eq (hK1.2 7 _ rfl).2 (hK1.2 0 _ rfl).2
  refine va_putF (D := D) (ci := 2) (v := .ref y1) (ty := .array (.array .long)) (C := RM) (T := TM) (N := 9) hx hb hts kin_M tM tyM nmM hown hK hP hD hS 0 rfl rfl 1 (by decide) (hts _ kf_M_9) (fun _ h9 => h9) rfl hin rfl (by decide +kernel) rfl rfl (Nat.le_of_ble_eq_true rfl) d_M_init_14 (fun H locs hP hD hS => ?_)
  have hP : va_P D wCl ([(y0, .inr (2, [.int 0, .ref y1, .null, .null, .null, .null, .null, .int 0, .int 0]))] ++ ((y1, .inl (k 2, 31, .inr (.inr (.inr (.inr (fun i => some (y1 + 1 + i))))))) :: rg 31 (fun i => (y1 + 1 + i, .inl (k 0, 256, .inr (.inl (fun _ => 0))))))) H := hP
  have hD : va_D A ([(y0, .inr (2, [.int 0, .ref y1, .null, .null, .null, .null, .null, .int 0, .int 0]))] ++ ((y1, .inl (k 2, 31, .inr (.inr (.inr (.inr (fun i => some (y1 + 1 + i))))))) :: rg 31 (fun i => (y1 + 1 + i, .inl (k 0, 256, .inr (.inl (fun _ => 0))))))) := hD
  refine lv_aload_n hx hb d_M_init_17 rfl (lv_at hl 0 rfl) ?_
  refine lv_bipush (v := 31) hx hb d_M_init_18 (by decide) ?_
  refine lv_sipush (v := 256) hx hb d_M_init_20 (by decide) ?_
  refine va_newm (ty := .boolean) (own := RM) (index := 14) (n := 31) (k := 256) (N := 31) (M := 256) (a0 := (256, .inl (fun _ => 0))) hx hb hown ?_ ?_ (hts _ kr_boolean) (fun _ h => h) hK hP hD hS hA ?_ ?_ ?_ ?_ ?_ ?_ ?_ ?_ ?_ ?_ ?_ ?_ d_M_init_23 ?_
  · rw [nmZZ]; exact hts _ kk_M_14
  · exact hao2
  · exact fun _ => rfl
  · decide
  · decide
  · decide
  · decide
  · decide
  · decide
  · decide
  · rfl
  · rfl
  · exact Nat.le_of_ble_eq_true rfl
  · exact Nat.le_of_ble_eq_true rfl
  intro y2 cA cC H hK1 hP hD hS
  obtain rfl : cA = k 3 := ra_eq (hK1.2 6 _ rfl).2 (hK1.2 3 _ rfl).2
  obtain rfl : cC = k 5 := ra_eq (hK1.2 7 _ rfl).2 (hK1.2 5 _ rfl).2
  refine va_putF (D := D) (ci := 2) (v := .ref y2) (ty := .array (.array .boolean)) (C := RM) (T := TM) (N := 9) hx hb hts kin_M tM tyM nmM hown hK hP hD hS 0 rfl rfl 2 (by decide) (hts _ kf_M_16) (fun _ h9 => h9) rfl hin rfl (by decide +kernel) rfl rfl (Nat.le_of_ble_eq_true rfl) d_M_init_27 (fun H locs hP hD hS => ?_)
  have hP : va_P D wCl ([(y0, .inr (2, [.int 0, .ref y1, .ref y2, .null, .null, .null, .null, .int 0, .int 0]))] ++ ((y1, .inl (k 2, 31, .inr (.inr (.inr (.inr (fun i => some (y1 + 1 + i))))))) :: rg 31 (fun i => (y1 + 1 + i, .inl (k 0, 256, .inr (.inl (fun _ => 0)))))) ++ ((y2, .inl (k 3, 31, .inr (.inr (.inr (.inr (fun i => some (y2 + 1 + i))))))) :: rg 31 (fun i => (y2 + 1 + i, .inl (k 5, 256, .inl (fun _ => 0)))))) H := hP
  have hD : va_D A ([(y0, .inr (2, [.int 0, .ref y1, .ref y2, .null, .null, .null, .null, .int 0, .int 0]))] ++ ((y1, .inl (k 2, 31, .inr (.inr (.inr (.inr (fun i => some (y1 + 1 + i))))))) :: rg 31 (fun i => (y1 + 1 + i, .inl (k 0, 256, .inr (.inl (fun _ => 0)))))) ++ ((y2, .inl (k 3, 31, .inr (.inr (.inr (.inr (fun i => some (y2 + 1 + i))))))) :: rg 31 (fun i => (y2 + 1 + i, .inl (k 5, 256, .inl (fun _ => 0)))))) := hD
  refine lv_aload_n hx hb d_M_init_30 rfl (lv_at hl 0 rfl) ?_
  refine lv_bipush (v := 31) hx hb d_M_init_31 (by decide) ?_
  refine va_newa (atype := .int) hx hb (hts _ kr_int) (ty := .int) rfl hK hP hD hS hA (N' := 31) (a0 := (31, .inl (fun _ => 0))) (fun _ => rfl) (by decide) (by decide) (by decide) (Nat.le_of_ble_eq_true rfl) (Nat.le_of_ble_eq_true rfl) d_M_init_33 (fun y3 cA H hK1 hP hD hS => ?_)
  obtain rfl : cA = k 4 := ra_eq (hK1.2 6 _ rfl).2 (hK1.2 4 _ rfl).2
  refine va_putF (D := D) (ci := 2) (v := .ref y3) (ty := .array .int) (C := RM) (T := TM) (N := 9) hx hb hts kin_M tM tyM nmM hown hK hP hD hS 0 rfl rfl 3 (by decide) (hts _ kf_M_19) (fun _ h9 => h9) rfl hin rfl (by decide +kernel) rfl rfl (Nat.le_of_ble_eq_true rfl) d_M_init_35 (fun H locs hP hD hS => ?_)
  have hP : va_P D wCl ([(y0, .inr (2, [.int 0, .ref y1, .ref y2, .ref y3, .null, .null, .null, .int 0, .int 0]))] ++ ((y1, .inl (k 2, 31, .inr (.inr (.inr (.inr (fun i => some (y1 + 1 + i))))))) :: rg 31 (fun i => (y1 + 1 + i, .inl (k 0, 256, .inr (.inl (fun _ => 0)))))) ++ ((y2, .inl (k 3, 31, .inr (.inr (.inr (.inr (fun i => some (y2 + 1 + i))))))) :: rg 31 (fun i => (y2 + 1 + i, .inl (k 5, 256, .inl (fun _ => 0))))) ++ [(y3, .inl (k 4, 31, .inl (fun _ => 0)))]) H := hP
  have hD : va_D A ([(y0, .inr (2, [.int 0, .ref y1, .ref y2, .ref y3, .null, .null, .null, .int 0, .int 0]))] ++ ((y1, .inl (k 2, 31, .inr (.inr (.inr (.inr (fun i => some (y1 + 1 + i))))))) :: rg 31 (fun i => (y1 + 1 + i, .inl (k 0, 256, .inr (.inl (fun _ => 0)))))) ++ ((y2, .inl (k 3, 31, .inr (.inr (.inr (.inr (fun i => some (y2 + 1 + i))))))) :: rg 31 (fun i => (y2 + 1 + i, .inl (k 5, 256, .inl (fun _ => 0))))) ++ [(y3, .inl (k 4, 31, .inl (fun _ => 0)))]) := hD
  refine lv_aload_n hx hb d_M_init_38 rfl (lv_at hl 0 rfl) ?_
  refine lv_sipush (v := 256) hx hb d_M_init_39 (by decide) ?_
  refine va_newa (atype := .long) hx hb (hts _ kr_long) (ty := .long) rfl hK hP hD hS hA (N' := 256) (a0 := (256, .inr (.inl (fun _ => 0)))) (fun _ => rfl) (by decide) (by decide) (by decide) (Nat.le_of_ble_eq_true rfl) (Nat.le_of_ble_eq_true rfl) d_M_init_42 (fun y4 cA H hK1 hP hD hS => ?_)
  obtain rfl : cA = k 0 := ra_eq (hK1.2 6 _ rfl).2 (hK1.2 0 _ rfl).2
  refine va_putF (D := D) (ci := 2) (v := .ref y4) (ty := .array .long) (C := RM) (T := TM) (N := 9) hx hb hts kin_M tM tyM nmM hown hK hP hD hS 0 rfl rfl 4 (by decide) (hts _ kf_M_23) (fun _ h9 => h9) rfl hin rfl (by decide +kernel) rfl rfl (Nat.le_of_ble_eq_true rfl) d_M_init_44 (fun H locs hP hD hS => ?_)
  have hP : va_P D wCl ([(y0, .inr (2, [.int 0, .ref y1, .ref y2, .ref y3, .ref y4, .null, .null, .int 0, .int 0]))] ++ ((y1, .inl (k 2, 31, .inr (.inr (.inr (.inr (fun i => some (y1 + 1 + i))))))) :: rg 31 (fun i => (y1 + 1 + i, .inl (k 0, 256, .inr (.inl (fun _ => 0)))))) ++ ((y2, .inl (k 3, 31, .inr (.inr (.inr (.inr (fun i => some (y2 + 1 + i))))))) :: rg 31 (fun i => (y2 + 1 + i, .inl (k 5, 256, .inl (fun _ => 0))))) ++ [(y3, .inl (k 4, 31, .inl (fun _ => 0)))] ++ [(y4, .inl (k 0, 256, .inr (.inl (fun _ => 0))))]) H := hP
  have hD : va_D A ([(y0, .inr (2, [.int 0, .ref y1, .ref y2, .ref y3, .ref y4, .null, .null, .int 0, .int 0]))] ++ ((y1, .inl (k 2, 31, .inr (.inr (.inr (.inr (fun i => some (y1 + 1 + i))))))) :: rg 31 (fun i => (y1 + 1 + i, .inl (k 0, 256, .inr (.inl (fun _ => 0)))))) ++ ((y2, .inl (k 3, 31, .inr (.inr (.inr (.inr (fun i => some (y2 + 1 + i))))))) :: rg 31 (fun i => (y2 + 1 + i, .inl (k 5, 256, .inl (fun _ => 0))))) ++ [(y3, .inl (k 4, 31, .inl (fun _ => 0)))] ++ [(y4, .inl (k 0, 256, .inr (.inl (fun _ => 0))))]) := hD
  refine lv_aload_n hx hb d_M_init_47 rfl (lv_at hl 0 rfl) ?_
  refine lv_sipush (v := 256) hx hb d_M_init_48 (by decide) ?_
  refine va_newa (atype := .long) hx hb (hts _ kr_long) (ty := .long) rfl hK hP hD hS hA (N' := 256) (a0 := (256, .inr (.inl (fun _ => 0)))) (fun _ => rfl) (by decide) (by decide) (by decide) (Nat.le_of_ble_eq_true rfl) (Nat.le_of_ble_eq_true rfl) d_M_init_51 (fun y5 cA H hK1 hP hD hS => ?_)
  obtain rfl : cA = k 0 := ra_eq (hK1.2 6 _ rfl).2 (hK1.2 0 _ rfl).2
  refine va_putF (D := D) (ci := 2) (v := .ref y5) (ty := .array .long) (C := RM) (T := TM) (N := 9) hx hb hts kin_M tM tyM nmM hown hK hP hD hS 0 rfl rfl 5 (by decide) (hts _ kf_M_27) (fun _ h9 => h9) rfl hin rfl (by decide +kernel) rfl rfl (Nat.le_of_ble_eq_true rfl) d_M_init_53 (fun H locs hP hD hS => ?_)
  have hP : va_P D wCl ([(y0, .inr (2, [.int 0, .ref y1, .ref y2, .ref y3, .ref y4, .ref y5, .null, .int 0, .int 0]))] ++ ((y1, .inl (k 2, 31, .inr (.inr (.inr (.inr (fun i => some (y1 + 1 + i))))))) :: rg 31 (fun i => (y1 + 1 + i, .inl (k 0, 256, .inr (.inl (fun _ => 0)))))) ++ ((y2, .inl (k 3, 31, .inr (.inr (.inr (.inr (fun i => some (y2 + 1 + i))))))) :: rg 31 (fun i => (y2 + 1 + i, .inl (k 5, 256, .inl (fun _ => 0))))) ++ [(y3, .inl (k 4, 31, .inl (fun _ => 0)))] ++ [(y4, .inl (k 0, 256, .inr (.inl (fun _ => 0))))] ++ [(y5, .inl (k 0, 256, .inr (.inl (fun _ => 0))))]) H := hP
  have hD : va_D A ([(y0, .inr (2, [.int 0, .ref y1, .ref y2, .ref y3, .ref y4, .ref y5, .null, .int 0, .int 0]))] ++ ((y1, .inl (k 2, 31, .inr (.inr (.inr (.inr (fun i => some (y1 + 1 + i))))))) :: rg 31 (fun i => (y1 + 1 + i, .inl (k 0, 256, .inr (.inl (fun _ => 0)))))) ++ ((y2, .inl (k 3, 31, .inr (.inr (.inr (.inr (fun i => some (y2 + 1 + i))))))) :: rg 31 (fun i => (y2 + 1 + i, .inl (k 5, 256, .inl (fun _ => 0))))) ++ [(y3, .inl (k 4, 31, .inl (fun _ => 0)))] ++ [(y4, .inl (k 0, 256, .inr (.inl (fun _ => 0))))] ++ [(y5, .inl (k 0, 256, .inr (.inl (fun _ => 0))))]) := hD
  refine lv_aload_n hx hb d_M_init_56 rfl (lv_at hl 0 rfl) ?_
  refine lv_sipush (v := 256) hx hb d_M_init_57 (by decide) ?_
  refine va_newa (atype := .boolean) hx hb (hts _ kr_boolean) (ty := .boolean) rfl hK hP hD hS hA (N' := 256) (a0 := (256, .inl (fun _ => 0))) (fun _ => rfl) (by decide) (by decide) (by decide) (Nat.le_of_ble_eq_true rfl) (Nat.le_of_ble_eq_true rfl) d_M_init_60 (fun y6 cA H hK1 hP hD hS => ?_)
  obtain rfl : cA = k 5 := ra_eq (hK1.2 6 _ rfl).2 (hK1.2 5 _ rfl).2
  refine va_putF (D := D) (ci := 2) (v := .ref y6) (ty := .array .boolean) (C := RM) (T := TM) (N := 9) hx hb hts kin_M tM tyM nmM hown hK hP hD hS 0 rfl rfl 6 (by decide) (hts _ kf_M_30) (fun _ h9 => h9) rfl hin rfl (by decide +kernel) rfl rfl (Nat.le_of_ble_eq_true rfl) d_M_init_62 (fun H locs hP hD hS => ?_)
  have hP : va_P D wCl ([(y0, .inr (2, [.int 0, .ref y1, .ref y2, .ref y3, .ref y4, .ref y5, .ref y6, .int 0, .int 0]))] ++ ((y1, .inl (k 2, 31, .inr (.inr (.inr (.inr (fun i => some (y1 + 1 + i))))))) :: rg 31 (fun i => (y1 + 1 + i, .inl (k 0, 256, .inr (.inl (fun _ => 0)))))) ++ ((y2, .inl (k 3, 31, .inr (.inr (.inr (.inr (fun i => some (y2 + 1 + i))))))) :: rg 31 (fun i => (y2 + 1 + i, .inl (k 5, 256, .inl (fun _ => 0))))) ++ [(y3, .inl (k 4, 31, .inl (fun _ => 0)))] ++ [(y4, .inl (k 0, 256, .inr (.inl (fun _ => 0))))] ++ [(y5, .inl (k 0, 256, .inr (.inl (fun _ => 0))))] ++ [(y6, .inl (k 5, 256, .inl (fun _ => 0)))]) H := hP
  have hD : va_D A ([(y0, .inr (2, [.int 0, .ref y1, .ref y2, .ref y3, .ref y4, .ref y5, .ref y6, .int 0, .int 0]))] ++ ((y1, .inl (k 2, 31, .inr (.inr (.inr (.inr (fun i => some (y1 + 1 + i))))))) :: rg 31 (fun i => (y1 + 1 + i, .inl (k 0, 256, .inr (.inl (fun _ => 0)))))) ++ ((y2, .inl (k 3, 31, .inr (.inr (.inr (.inr (fun i => some (y2 + 1 + i))))))) :: rg 31 (fun i => (y2 + 1 + i, .inl (k 5, 256, .inl (fun _ => 0))))) ++ [(y3, .inl (k 4, 31, .inl (fun _ => 0)))] ++ [(y4, .inl (k 0, 256, .inr (.inl (fun _ => 0))))] ++ [(y5, .inl (k 0, 256, .inr (.inl (fun _ => 0))))] ++ [(y6, .inl (k 5, 256, .inl (fun _ => 0)))]) := hD
  obtain ⟨hP, hD⟩ := wmn_eq k y0 y1 y2 y3 y4 y5 y6 (hP.perm (wmn_perm _ _ _ _ _ _ _ _ _)) (hD.perm (wmn_perm _ _ _ _ _ _ _ _ _))
  refine W.widen (k := 68) (n := 16733) (by omega) (by omega) ?_
  exact W.vret hx hb hr (fun t ht hW => ⟨⟨bxf y0 y1 y2 y3 y4 y5 y6, rfl, rfl, atP hP ht, hD⟩, hS.F ht⟩) hS.2.2 d_M_init_65
end
section
/-! the law from its entry -/
theorem lw_str {b0 : Nat} {s : State} {i : Nat} {tx : String} (h1 : (Cond.stringRef RX i tx).before #[Value.ref b0] s = true) (h2 : (Cond.exactly (.string RX i) "java/lang/String").before #[Value.ref b0] s = true) : ∃ q, vk_R RX i tx q s := by
  obtain ⟨q, _, _, _, q1, -⟩ := Cond.exactly_spec h2
  exact ⟨q, vk_R.of h1 q1⟩
theorem lw_arr {b0 : Nat} {s : State} {ty : FieldType} (h : (Cond.arrayClass ty).before #[Value.ref b0] s = true) (hra : ∀ cC : ClassId, s.vm.findClass ("[" ++ ty.toString) = some cC → va_RA s cC ty) : ∃ cA, ArrOfT s cA ty ∧ va_RA s cA ty := by
  obtain ⟨cA, kA, comp, h1, h2, h3⟩ := Cond.arrayClass_spec h
  exact ⟨cA, fun n z => ⟨(fun k h => by cases h), kA, h2, comp, h3⟩, hra cA h1⟩
theorem lw_arrO {s : State} {C : String} (h : va_AO C s) : ∃ cA, ArrOfT s cA (.object C) ∧ va_RA s cA (.object C) := by
  obtain ⟨comp, cA, kA, h1, -, h3, h4, h5⟩ := Cond.arrayOver_spec h
  exact ⟨cA, fun n z => ⟨(fun k h => by cases h), kA, h3, comp, h4⟩, kA, comp, h3, h4, h1, h5⟩
theorem lw_arrA {s : State} {t : FieldType} (h : AOA t s) : ∃ cA, ArrOfT s cA (.array t) ∧ va_RA s cA (.array t) := by
  obtain ⟨comp, cA, kA, h1, -, h3, h4, h5⟩ := ao_spec h
  exact ⟨cA, fun n z => ⟨(fun k h => by cases h), kA, h3, comp, h4⟩, h5⟩
theorem RI_0 : RI 0 (fun _ => 0) (fun _ _ => 0) (fun _ _ => 0) (fun _ => 0) (fun _ => 0) (fun _ => 0) (fun _ => false) (fun _ => 0) (fun _ _ => 0) (fun _ _ => false) 0 :=
  ⟨by decide, fun _ _ => rfl, fun _ _ => rfl, fun u v _ _ => (tb_0 v).symm, rfl, fun i h => absurd h (Nat.not_lt_zero i)⟩
theorem lw_env {p : Program} {s : State} {m : MethodId} {meth : Method} {c : Code} {b0 L : Nat} {xs : Nat → Int32} (C0 : lw_At p s m meth c b0 L xs) : EV (fun q : Nat => s.heap.size ≤ q) s := by
  obtain ⟨hx, hb, hr, hml, hown, hts0, hX, hbl, hlocks, hgv⟩ := C0
  have hs := flat_of_before _ hgv
  have hA : ∀ q : Nat, q < s.heap.size → ¬ (fun q : Nat => s.heap.size ≤ q) q := fun q h => Nat.not_le.mpr h
  refine ⟨fun w hw => va_Nw.of (NB_on w hw) (hts0 w (NB_tbl w hw)), lw_str (hts0 (.stringRef RX 46 "too many messages are open") (by decide +kernel)) (hs (.exactly (.string RX 46) "java/lang/String") (by decide +kernel)), lw_str (hts0 (.stringRef RX 53 "no message is open") (by decide +kernel)) (hs (.exactly (.string RX 53) "java/lang/String") (by decide +kernel)), lw_str (hts0 (.stringRef RX 75 "not enough gas") (by decide +kernel)) (hs (.exactly (.string RX 75) "java/lang/String") (by decide +kernel)), lw_str (hts0 (.stringRef RX 88 "what is not 0 to 3") (by decide +kernel)) (hs (.exactly (.string RX 88) "java/lang/String") (by decide +kernel)), lw_str (hts0 (.stringRef RX 91 "no such owner or place") (by decide +kernel)) (hs (.exactly (.string RX 91) "java/lang/String") (by decide +kernel)),
    vx_Zqof (hts0 _ (by decide +kernel)) (hts0 _ (by decide +kernel)) (hs _ (by decide +kernel)) hA, vx_Zqof (hts0 _ (by decide +kernel)) (hts0 _ (by decide +kernel)) (hs _ (by decide +kernel)) hA, va_Nc.of (hs _ (by decide +kernel))⟩
set_option maxHeartbeats 4000000 in
set_option maxRecDepth 100000 in
theorem whole_start {p : Program} {e : Env} {s : State} {m : MethodId} {below : List Frame} {meth : Method} {c : Code} (l : Launch) (hl0 : l.stackTraces = false) {b L : Nat} {xs : Nat → Int32} (hL : L ≤ 3072) (C0 : lw_At p s m meth c b L xs) : W p l e room_1 s m #[Value.ref b] below meth c s.heap [] 0 0 (lw_Z below #[Value.ref b] s) (entryFrame m ([Value.ref b] : List Value).toArray 8) := by
  have hE := lw_env C0
  obtain ⟨hx, hb, hr, hml, hown, hts0, hX, hbl, hlocks, hgv⟩ := id C0
  have hts := TB_in hts0
  have hown : s.vm.findClass RL = some m.cls := hown
  have hA : ∀ q : Nat, s.heap.size ≤ q → (fun q : Nat => s.heap.size ≤ q) q := fun _ h => h
  have hao : va_AO RS s := va_AO.of (hts0 (.arrayOver (.object RS)) (by decide +kernel))
  have hao1 : AOA .long s := hts0 (.arrayOver (.array .long)) (by decide +kernel)
  have hao2 : AOA .boolean s := hts0 (.arrayOver (.array .boolean)) (by decide +kernel)
  obtain ⟨c0, iS0, hKn0⟩ := u_known (C := RS) (T := TS) (N := 3) (n := 3) hts kin_S (hts _ ka_S)
  obtain ⟨c1, iS1, hKn1⟩ := u_known (C := RX) (T := TX) (N := 3) (n := 3) hts kin_X (hts _ ka_X)
  obtain ⟨c2, iS2, hKn2⟩ := u_known (C := RM) (T := TM) (N := 9) (n := 9) hts kin_M (hts _ ka_M)
  obtain ⟨k0, hk0⟩ := lw_arr (hts _ kr_long) (fun _ h => h)
  obtain ⟨k1, hk1⟩ := lw_arrO hao
  obtain ⟨k2, hk2⟩ := lw_arrA hao1
  obtain ⟨k3, hk3⟩ := lw_arrA hao2
  obtain ⟨k4, hk4⟩ := lw_arr (hts _ kr_int) (fun _ h => h)
  obtain ⟨k5, hk5⟩ := lw_arr (hts _ kr_boolean) (fun _ h => h)
  obtain ⟨D, k, hK⟩ : ∃ (D : va_G) (k : Nat → ClassId), va_K D wCl (tyL k) s := by
    refine ⟨(fun i => if i = 0 then c0 else if i = 1 then c1 else c2, fun i => if i = 0 then iS0 else if i = 1 then iS1 else iS2), fun i => if i = 0 then k0 else if i = 1 then k1 else if i = 2 then k2 else if i = 3 then k3 else if i = 4 then k4 else k5, fun i q hq => ?_, fun i q hq => ?_⟩
    · match i, hq with
      | 0, hq => cases hq; exact hKn0
      | 1, hq => cases hq; exact hKn1
      | 2, hq => cases hq; exact hKn2
      | i + 3, hq => simp [wCl] at hq
    · match i, hq with
      | 0, hq => cases hq; exact hk0
      | 1, hq => cases hq; exact hk1
      | 2, hq => cases hq; exact hk2
      | 3, hq => cases hq; exact hk3
      | 4, hq => cases hq; exact hk4
      | 5, hq => cases hq; exact hk5
      | i + 6, hq => simp [tyL] at hq
  have hS : va_S (fun q : Nat => s.heap.size ≤ q) s.heap s.heap [] := va_S.rf
  have hP : va_P D wCl [] s.heap := fun k q h => by simp at h
  have hD : va_D (fun q : Nat => s.heap.size ≤ q) [] := ⟨fun i j p q h => by simp at h, fun k q h => by simp at h⟩
  have hl := lv_entry ([.ref b]) (n := 8) (Nat.le_of_ble_eq_true rfl)
  rw [lg_entry_eq]
  generalize (lg_sl ([.ref b]) ++ List.replicate (8 - (lg_sl ([.ref b])).length) Slot.unset).toArray = ls at hl ⊢
  have hl : lv_has ls 8 [(0, .ref b)] := hl
  refine va_new (ci := 1) (fs := [.null, .null, .int 0]) (C := RX) (T := TX) (N := 3) hx hb hts kin_X tX tyX hown (hts _ kk_L_8) (hts _ ka_X) (hts _ kz_X) hK hP hD hS hA rfl (fun j hj => by rcases (show j = 0 ∨ j = 1 ∨ j = 2 by omega) with rfl | rfl | rfl <;> rfl) (Nat.le_of_ble_eq_true rfl) (Nat.le_of_ble_eq_true rfl) d_L_law_0 (fun x0 H hP hD hS => ?_)
  refine lv_dup hx hb d_L_law_3 rfl ?_
  have hP : va_P D wCl ([] ++ [(x0, .inr (1, [.null, .null, .int 0]))]) H := hP
  have hD : va_D (fun q : Nat => s.heap.size ≤ q) ([] ++ [(x0, .inr (1, [.null, .null, .int 0]))]) := hD
  have hFc := cut_F (last_D hD) hS hA
  refine va_callv (va_runI (As := []) (rest := [.ref x0]) ⟨hx, hb, hml, hown, hts⟩ (m_X_init l D k x0 _) (cwI 0 hts (TB_c kc_X_init) rfl rfl rfl (hts _ kz_X) (hts _ kl_L_43) (hts _ ki_X_init) rfl (by decide +kernel) ⟨Nat.le_of_ble_eq_true rfl, Nat.le_of_ble_eq_true rfl⟩) ⟨fun a U g mk q => ⟨q.1, (PW.bl (av := [.ref x0]) a U g mk ⟨q.1, q.2.1⟩).2, va_AO.moved (u := U) (U := U.calling g mk a) (Vm.Alike.refl U.vm) q.2.2⟩, fun U hU hW => ⟨rfl, PW.go hK (last_P hP) (last_D hD) hS hA hE hU hW, va_AO.moved hW.alike hao⟩⟩ rfl rfl hl.1 rfl (lv_room (Nat.le_of_ble_eq_true rfl)) d_L_law_4 ⟨Nat.le_of_ble_eq_true rfl, Nat.le_of_ble_eq_true rfl⟩) hS (fun q _ h => hFc q h) hFc (fun a t H1 locs1 ht hvm hw hB hz1 hk1 hS => ?_)
  obtain ⟨hB, hBD⟩ := hB
  rw [ht] at hB
  obtain ⟨hP, hD⟩ := cut_G (a := []) hP hD hk1 hFc hB hBD
  generalize H1 = H at hP hS ⊢
  generalize locs1 = locs at hS ⊢
  rw [← hw]
  refine lv_astore_n (lv' := [(1, .ref (a 0)), (0, .ref b)]) hx hb d_L_law_7 rfl hl (by decide) rfl (fun ls hl => ?_)
  have hP : va_P D wCl (WX k a (nI 0) (fun _ => 0) (fun _ _ => 0) (fun _ _ => 0) (fun _ => 0)) H := hP
  have hD : va_D (fun q : Nat => s.heap.size ≤ q) (WX k a (nI 0) (fun _ => 0) (fun _ _ => 0) (fun _ _ => 0) (fun _ => 0)) := hD
  refine va_new (ci := 2) (fs := [.int 0, .null, .null, .null, .null, .null, .null, .int 0, .int 0]) (C := RM) (T := TM) (N := 9) hx hb hts kin_M tM tyM hown (hts _ kk_L_44) (hts _ ka_M) (hts _ kz_M) hK hP hD hS hA rfl (fun j hj => by rcases (show j = 0 ∨ j = 1 ∨ j = 2 ∨ j = 3 ∨ j = 4 ∨ j = 5 ∨ j = 6 ∨ j = 7 ∨ j = 8 by omega) with rfl | rfl | rfl | rfl | rfl | rfl | rfl | rfl | rfl <;> rfl) (Nat.le_of_ble_eq_true rfl) (Nat.le_of_ble_eq_true rfl) d_L_law_8 (fun y0 H hP hD hS => ?_)
  refine lv_dup hx hb d_L_law_11 rfl ?_
  have hFc := cut_F (last_D hD) hS hA
  refine va_callv (va_runI (As := []) (rest := [.ref y0]) ⟨hx, hb, hml, hown, hts⟩ (m_M_init l D k y0 _) (cwI 0 hts (TB_c kc_M_init) rfl rfl rfl (hts _ kz_M) (hts _ kl_L_46) (hts _ ki_M_init) rfl (by decide +kernel) ⟨Nat.le_of_ble_eq_true rfl, Nat.le_of_ble_eq_true rfl⟩) ⟨fun a U g mk q => ⟨q.1, (PW.bl (av := [.ref y0]) a U g mk ⟨q.1, q.2.1⟩).2, AOA.moved (u := U) (U := U.calling g mk a) (Vm.Alike.refl U.vm) q.2.2.1, AOA.moved (u := U) (U := U.calling g mk a) (Vm.Alike.refl U.vm) q.2.2.2⟩, fun U hU hW => ⟨rfl, PW.go hK (last_P hP) (last_D hD) hS hA hE hU hW, AOA.moved hW.alike hao1, AOA.moved hW.alike hao2⟩⟩ rfl rfl hl.1 rfl (lv_room (Nat.le_of_ble_eq_true rfl)) d_L_law_12 ⟨Nat.le_of_ble_eq_true rfl, Nat.le_of_ble_eq_true rfl⟩) hS (fun q _ h => hFc q h) hFc (fun b1 t H1 locs1 ht hvm hw hB hz1 hk1 hS => ?_)
  obtain ⟨hB, hBD⟩ := hB
  rw [ht] at hB
  obtain ⟨hP, hD⟩ := cut_G (a := WX k a (nI 0) (fun _ => 0) (fun _ _ => 0) (fun _ _ => 0) (fun _ => 0)) hP hD hk1 hFc hB hBD
  generalize H1 = H at hP hS ⊢
  generalize locs1 = locs at hS ⊢
  rw [← hw]
  refine lv_astore_n (lv' := [(2, .ref (b1 0)), (1, .ref (a 0)), (0, .ref b)]) hx hb d_L_law_15 rfl hl (by decide) rfl (fun ls hl => ?_)
  refine lv_iconst (v := 1) hx hb d_L_law_16 (by decide) ?_
  refine va_newa (atype := .long) hx hb (hts _ kr_long) (ty := .long) rfl hK hP hD hS hA (N' := 1) (a0 := (1, .inr (.inl (fun _ => 0)))) (fun _ => rfl) (by decide) (by decide) (by decide) (Nat.le_of_ble_eq_true rfl) (Nat.le_of_ble_eq_true rfl) d_L_law_17 (fun q0 cA H hK1 hP hD hS => ?_)
  obtain rfl : cA = k 0 := ra_eq (hK1.2 6 _ rfl).2 (hK1.2 0 _ rfl).2
  refine lv_astore_n (lv' := [(3, .ref q0), (2, .ref (b1 0)), (1, .ref (a 0)), (0, .ref b)]) hx hb d_L_law_19 rfl hl (by decide) rfl (fun ls hl => ?_)
  refine lv_iconst (v := 0) hx hb d_L_law_20 (by decide) ?_
  refine lv_istore (lv' := [(4, .int 0), (3, .ref q0), (2, .ref (b1 0)), (1, .ref (a 0)), (0, .ref b)]) hx hb d_L_law_21 hl (by decide) rfl (fun ls hl => ?_)
  have hP := hP.perm List.perm_append_comm
  have hD := hD.perm List.perm_append_comm
  refine W.widen (k := 166 + 2 * 0) (n := 25186 + 12 * 0) (by omega) (by omega) ?_
  exact law_loop hl0 hL C0 hK hE (c0 := 166) (s0 := 25186) (by omega) (by omega) 513 0 (by omega) (by omega) 0 (fun _ => 0) (fun _ _ => 0) (fun _ _ => 0) (fun _ => 0) 0 0 (fun _ => 0) (fun _ => 0) (fun _ => false) (fun _ => 0) (fun _ _ => 0) (fun _ _ => false) (fun _ => 0) H locs ls RI_0 hP hD hS (lv_sub hl [4, 3, 2, 1, 0] rfl)
end
section
set_option maxHeartbeats 4000000 in
theorem lw_walk (l : Launch) (hl0 : l.stackTraces = false) (b : Addr) (xs : List Int32) : MetFree l x (headSpec (Jvm.Cond.code x code maxLocals ret :: tables_1) room_1) (lw_P b xs) (fun _ _ _ _ _ => True) lw_Q := by
  refine MetFree.of_bodyS (code := code) (maxLocals := maxLocals) (ret := ret) (by decide) ?_ ?_
  · intro args s m h hn
    obtain ⟨meth, c, h1, h2, h3, h4, h5, h6, -, -⟩ := Cond.code_spec hn (atoms_spec (ws := Jvm.Cond.code x code maxLocals ret :: tables_1) h _ List.mem_cons_self)
    exact ⟨meth, c, h1, h2, h3, h4, h5, h6⟩
  · intro p e s m args below meth c s₁ B hml0 hP _
    obtain ⟨rfl, hx, hbd, hgv⟩ := hP
    obtain ⟨scr, harrAt, hlist, hof, hsmall⟩ := hx
    obtain ⟨hcb, hkn, -, -⟩ := State.arrayAt?_spec harrAt
    have hown : s.vm.findClass R_law = some m.cls := findClass_of_methodNamed B.named
    have hts0 : ∀ c ∈ (Jvm.Cond.code x code maxLocals ret :: tables_1), c.before #[Value.ref b] s = true := atoms_spec (ws := Jvm.Cond.code x code maxLocals ret :: tables_1) B.pre
    have hts : ∀ w ∈ lw_tbl, w.before #[Value.ref b] s = true := k2_hts_sels lw_privs (fun w hw => hts0 w (List.mem_cons_of_mem _ hw)) lw_privs_ok
    have hml : c.maxLocals = 8 := B.maxLocals_eq (hts0 _ List.mem_cons_self)
    have X₀ : Stand p l e room_1 s m #[Value.ref b] below meth c s₁ [] 0 0 := Stand.of_body B
    have hh0 : s₁.heap = s.heap := by rw [B.state]; rfl
    have hsz : scr.slots.size = xs.length := by rw [← Array.length_toList, hlist, List.length_map]
    have hval : ∀ j : Nat, j < xs.length → scr.slots[j]? = some (.int (xs.getD j 0)) := fun j hj => by
      rw [← Array.getElem?_toList, hlist]
      simp [hj]
    have hbl : b < s.heap.size := (Array.getElem?_eq_some_iff.mp hcb).1
    have hX : va_X b xs.length (fun j => xs.getD j 0) s s.heap := ⟨scr, hcb, hof, hkn, hsz, hval⟩
    have K : W p l e room_1 s m #[Value.ref b] below meth c s₁.heap [] 0 0 (lw_Z below #[Value.ref b] s) (entryFrame m ([Value.ref b] : List Value).toArray 8) := by
      rw [hh0]
      exact whole_start l hl0 hbd ⟨B.exec, B.bytes, B.returns, hml, hown, hts, hX, hbl, B.notSynchronized, hgv⟩
    obtain ⟨t, a1, o, b1, b2, b3⟩ := K s₁ rfl X₀
    exact ⟨t, o, a1, b1, b2, b3⟩
theorem lw_pre_spec {args : Array Value} {s : State} (h : (Jvm.Cond.and given_1 narrow_1).before args s = true) (hr : rest_1_c.before args s = true) : ∃ (b : Addr) (xs : List Int32), lw_P b xs args s := by
  have hs := flat_of_before _ h
  have hq := flat_of_before _ hr
  have hc : (Cond.count 1).before args s = true := hs _ (by decide +kernel)
  have harr : (Cond.arrayOf (.arg 0) .int).before args s = true := hs _ (by decide +kernel)
  have hle : (Cond.le (.length (.arg 0)) (.int 3072)).before args s = true := hs _ (by decide +kernel)
  have hlen : (Cond.isInt (.length (.arg 0))).before args s = true := hq _ (by decide +kernel)
  have hall : (Cond.all (.arg 0) (.isInt (.elem (.arg 0) (.index 0)))).before args s = true := hq _ (by decide +kernel)
  obtain ⟨b, xs, hb, hx⟩ := State.ints_of_pre rfl harr hlen hall
  have hsm : xs.length < 2 ^ 31 := hx.choose_spec.2.2.2
  have hev : (Term.length (.arg 0)).eval args s none [] s = some (.int xs.length.toInt32) := hx.length_eval hb
  have hv := Cond.le_ints hev (show (Term.int 3072).eval args s none [] s = some (.int 3072) from rfl)
  have hd : xs.length.toInt32 ≤ 3072 := by
    simpa [Cond.before, Cond.holds, hv] using hle
  have hN : xs.length ≤ 3072 := (Int32.ofNat_le_ofNat hsm (by decide)).mp (show Int32.ofNat xs.length ≤ Int32.ofNat 3072 from hd)
  exact ⟨b, xs, Cond.one_arg hc (show args[0]? = some (.ref b) from hb), hx, hN, h⟩
theorem lw_comes (l : Launch) (hl0 : l.stackTraces = false) : Comes l x (Jvm.Cond.code x code maxLocals ret :: tables_1) room_1 (fun tb e args s => Calls_1 tb e args s ∧ rest_1 tb e args s ∧ Pre_1 tb e args s)
    (fun _ _ args s o t => lw_Q args s o t) := by
  intro p e ha hc hk s m args below hf hfit hheap happ hpre
  obtain ⟨b, xs, hP⟩ := lw_pre_spec hpre.2.2 hpre.2.1
  obtain ⟨k, o, h1, h2, h3, hQ⟩ := lw_walk l hl0 b xs p e ha hc hk s m args below hf ((Spec.applies_iff_loose hf).mp happ).1 hP trivial
  exact ⟨k, o, h1, h2, h3, hQ⟩
theorem lw_frame {s t : State} {o : Outcome} {args : Array Value} (h : Framed s o t [] 601024 7293034) :
    Framed s o t (fieldLocs frame_1_writes args s ++ arrayLocs frame_1_arrays args s ++ staticLocs frame_1_statics s) 601024 7293034 := h
theorem lw_limb (L : Cond) (hL : ∀ (args : Array Value) (s t : State), L.after args s (.returned (some (.int 1))) t = true) :
    ArmFor flags0 classFile x code maxLocals ret World_1 tables_1 room_1 Calls_1 rest_1 Pre_1
      (fun tb e a s o t => postC L tb e a s o t ∧ Framed s o t (fieldLocs frame_1_writes a s ++ arrayLocs frame_1_arrays a s ++ staticLocs frame_1_statics s) 601024 7293034) := by
  intro l hfl _ _ p e ha hc hk s m args below hf hfit hheap happ hpre
  obtain ⟨k, o, h1, h2, h3, rfl, hF⟩ := lw_comes l (by unfold Launch.stackTraces; rw [hfl]; decide +kernel) p e ha hc hk s m args below hf hfit hheap happ hpre
  exact ⟨k, _, h1, h2, h3, hL args s _, lw_frame hF⟩
theorem i_vc : Claimed_1_1 ∧ Claimed_1_2 := ⟨lw_limb limb_1_1 (fun args s t => by simp [limb_1_1, Cond.after, Cond.holds, Cond.value]), lw_limb limb_1_2 (fun args s t => Cond.after_iff.mpr (by
  first | (rw [show limb_1_2 = Cond.eq .result (.int 1) from rfl, Cond.eq_ints (x := 1) (y := 1) rfl rfl]; simp; done) | (simp [limb_1_2, Cond.value, Term.eval]; done)))⟩
end
