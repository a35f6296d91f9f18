section
-- ===== PART A: goes FIRST, ahead of the names: the tables' words, and 'selects' of the private methods out of them =====
/-- a private method of a class that the tables say can be made, by its rows of tables_1 -/
def lw_okq (q : MethodName × Nat) : Prop := (q.1.cls ≠ "java/lang/invoke/MethodHandle" ∧ q.1.cls ≠ "java/lang/invoke/VarHandle") ∧ Cond.instantiable q.1.cls q.2 ∈ tables_1 ∧ Cond.privateMethod q.1 ∈ tables_1 ∧ Cond.instanceMethod q.1 ∈ tables_1
theorem lw_p0 : lw_okq (⟨"CheckRestart", "isSetupOver", "()Z"⟩, 9) := ⟨⟨by decide +kernel, by decide +kernel⟩, List.mem_of_getElem? (i := 14) (by decide +kernel), List.mem_of_getElem? (i := 144) (by decide +kernel), List.mem_of_getElem? (i := 145) (by decide +kernel)⟩
theorem lw_p1 : lw_okq (⟨"CheckRestart$Progress", "readRecord", "(I)J"⟩, 4) := ⟨⟨by decide +kernel, by decide +kernel⟩, List.mem_of_getElem? (i := 54) (by decide +kernel), List.mem_of_getElem? (i := 164) (by decide +kernel), List.mem_of_getElem? (i := 165) (by decide +kernel)⟩
theorem lw_p2 : lw_okq (⟨"CheckRestart", "goDown", "()V"⟩, 9) := ⟨⟨by decide +kernel, by decide +kernel⟩, List.mem_of_getElem? (i := 14) (by decide +kernel), List.mem_of_getElem? (i := 177) (by decide +kernel), List.mem_of_getElem? (i := 178) (by decide +kernel)⟩
theorem lw_p3 : lw_okq (⟨"CheckRestart", "hasRow", "(I)Z"⟩, 9) := ⟨⟨by decide +kernel, by decide +kernel⟩, List.mem_of_getElem? (i := 14) (by decide +kernel), List.mem_of_getElem? (i := 237) (by decide +kernel), List.mem_of_getElem? (i := 238) (by decide +kernel)⟩
theorem lw_p4 : lw_okq (⟨"java/lang/Throwable", "fillInStackTrace", "(I)Ljava/lang/Throwable;"⟩, 6) := ⟨⟨by decide +kernel, by decide +kernel⟩, List.mem_of_getElem? (i := 307) (by decide +kernel), List.mem_of_getElem? (i := 305) (by decide +kernel), List.mem_of_getElem? (i := 306) (by decide +kernel)⟩
theorem lw_p5 : lw_okq (⟨"CheckRestartModel", "isEnded", "()Z"⟩, 23) := ⟨⟨by decide +kernel, by decide +kernel⟩, List.mem_of_getElem? (i := 366) (by decide +kernel), List.mem_of_getElem? (i := 458) (by decide +kernel), List.mem_of_getElem? (i := 459) (by decide +kernel)⟩
theorem lw_p6 : lw_okq (⟨"CheckRestartModel", "isOver", "()Z"⟩, 23) := ⟨⟨by decide +kernel, by decide +kernel⟩, List.mem_of_getElem? (i := 366) (by decide +kernel), List.mem_of_getElem? (i := 508) (by decide +kernel), List.mem_of_getElem? (i := 509) (by decide +kernel)⟩
def lw_privs_1 : List (MethodName × Nat) := [(⟨"CheckRestart", "isSetupOver", "()Z"⟩, 9), (⟨"CheckRestart$Progress", "readRecord", "(I)J"⟩, 4), (⟨"CheckRestart", "goDown", "()V"⟩, 9), (⟨"CheckRestart", "hasRow", "(I)Z"⟩, 9), (⟨"java/lang/Throwable", "fillInStackTrace", "(I)Ljava/lang/Throwable;"⟩, 6), (⟨"CheckRestartModel", "isEnded", "()Z"⟩, 23), (⟨"CheckRestartModel", "isOver", "()Z"⟩, 23)]
theorem lw_r1 : ∀ q ∈ lw_privs_1, lw_okq q := List.forall_mem_cons.mpr ⟨lw_p0, List.forall_mem_cons.mpr ⟨lw_p1, List.forall_mem_cons.mpr ⟨lw_p2, List.forall_mem_cons.mpr ⟨lw_p3, List.forall_mem_cons.mpr ⟨lw_p4, List.forall_mem_cons.mpr ⟨lw_p5, List.forall_mem_cons.mpr ⟨lw_p6, fun _ h => absurd h List.not_mem_nil⟩⟩⟩⟩⟩⟩⟩
def lw_privs : List (MethodName × Nat) := lw_privs_1
def lw_tbl : List Cond := k2_sels lw_privs ++ tables_1
theorem lw_privs_ok : ∀ q ∈ lw_privs, lw_okq q := lw_r1
end
section
/-! ===== BEGIN words of one list among another's, by their places ===== -/
theorem goodIn_r {big : List Cond} (ws : List Cond) (ps : List Nat) (hp : ws = ps.filterMap (fun i => big[i]?)) (h : ws.all goodWord = true) : GoodIn big ws := by
  intro w hw
  have h1 := List.all_eq_true.mp h w hw
  rw [hp] at hw
  obtain ⟨i, -, hi⟩ := List.mem_filterMap.mp hw
  have hm : w ∈ big := by first | exact List.mem_of_getElem? hi | exact List.getElem?_mem hi
  exact ⟨hm, good_of_word h1⟩
theorem goodIn_app {big a b : List Cond} (ha : GoodIn big a) (hb : GoodIn big b) : GoodIn big (a ++ b) := fun w h => (List.mem_append.mp h).elim (ha w) (hb w)
theorem goodIn_ca {big a b : List Cond} {c : Cond} (ha : GoodIn big (c :: a)) (hb : GoodIn big b) : GoodIn big (c :: (a ++ b)) := fun w h => (List.mem_cons.mp h).elim (fun e => ha w (List.mem_cons.mpr (Or.inl e))) (fun h => (List.mem_append.mp h).elim (fun h => ha w (List.mem_cons.mpr (Or.inr h))) (hb w))
theorem goodIn_sub {big ws : List Cond} (hm : ∀ w ∈ ws, w ∈ big) (h : ws.all goodWord = true) : GoodIn big ws := fun w hw => ⟨hm w hw, good_of_word (List.all_eq_true.mp h w hw)⟩
/-! ===== END ===== -/

/-! ===== BEGIN exceptions that leave a method, and their catching by the caller (launches without stack traces) ===== -/
section VXA
/-! The laws vx_back, vx_callV, vx_callS, vx_callSW, vx_throw0, vx_throwS follow proofs of the library, with one case more: JvmDerived/Free/Laws.lean (Back.of_free), Shelf42/LK1.lean (callV, callS), Shelf/KitTraced.lean (throwNew0V, throwNewS). -/
/-- where a method has thrown q: the class by its name, the cell, what was written, the world -/
def vx_T (XC : String → State → State → Prop) (st : State) (q : Addr) (t : State) (mc ms : Nat) (free : Addr → Prop) : Prop :=
  ∃ (E : String) (ce : Cell) (L : List Loc), XC E st t ∧ t.heap[q]? = some ce ∧ ce.vm = .none ∧ st.vm.findClass E = some ce.cls ∧ st.WarmedH t.vm ∧ st.sameButNew ({ t with vm := st.vm } : State) L mc ms ∧ ∀ z ∈ L, free z.base
def vx_Q (Qc : Array Value → State → Outcome → State → Prop) (XC : String → State → State → Prop) (mc ms : Nat) (free : Addr → Prop) : Array Value → State → Outcome → State → Prop := fun a st o t =>
  (Qc a st o t ∧ ∃ L, FrameEnd st o t L mc ms ∧ ∀ q ∈ L, free q.base) ∨ ∃ q, o = .threw q ∧ vx_T XC st q t mc ms free
/-- a callee that returns or throws -/
def vx_Met (l : Launch) (y : MethodName) (ws : List Cond) (rm : Room) (Pc : Array Value → State → Prop) (Qc : Array Value → State → Outcome → State → Prop) (XC : String → State → State → Prop) (mc ms : Nat) (free : Addr → Prop) : Prop :=
  MetFree l y (headSpec ws rm) Pc (fun _ _ _ _ _ => True) (vx_Q Qc XC mc ms free)
def vx_Post (XC : String → State → State → Prop) (mc ms : Nat) (free : Addr → Prop) : Pt → Array Value → Addr → Pt → Prop := fun A a q B =>
  ∃ (g : JFrame) (mk : MethodId) (t : State) (L : List Loc) (E : String) (ce : Cell), B.U.heap = t.heap ∧ B.U.vm = t.vm ∧ XC E (A.U.calling g mk a) t ∧ t.heap[q]? = some ce ∧ ce.vm = .none ∧ A.U.vm.findClass E = some ce.cls ∧ B.locs = A.locs ++ L ∧ (∀ z ∈ L, free z.base) ∧ B.cells = A.cells + mc ∧ B.slots = A.slots + ms
def vx_Back (l : Launch) (R : Room) (p : Program) (e : Env) (below : List Frame) (s : State) (sargs : Array Value) (y : MethodName) (len W9 : Nat)
    (Pre : Pt → Array Value → Prop) (Post : Pt → Array Value → Option Value → Pt → Prop) (PostX : Pt → Array Value → Addr → Pt → Prop) : Prop :=
  ∀ (m : MethodId) (meth : Method) (c : Code) (A : Pt) (g : JFrame) (ig : Instr) (mk : MethodId) (a : Array Value),
    Stand p l e R s m sargs below meth c A.U A.locs A.cells A.slots → g.method = m → g.locals.size = c.maxLocals → decode c.code g.pc = .ok (ig, len) →
    2 * g.monitorRoom + (g.stack.map fun v => v.category).sum ≤ W9 → A.U.methodNamed? y = some mk → Pre A a →
    (∃ (v : Option Value) (B : Pt), Stand p l e R s m sargs below meth c B.U B.locs B.cells B.slots ∧ Post A a v B ∧
      Steps p.tables e below (doInvoke e (A.U.setTop g) [] mk a).1 (B.U.setTop { g with pc := g.pc + len, stack := v.toList ++ g.stack })) ∨
    (∃ (q : Addr) (B : Pt), Stand p l e R s m sargs below meth c B.U B.locs B.cells B.slots ∧ PostX A a q B ∧
      Steps p.tables e below (doInvoke e (A.U.setTop g) [] mk a).1 ((B.U.setTop g).pushFrame (.throwing q)))
section Payer
variable {l : Launch} {R : Room} {p : Program} {e : Env} {below : List Frame} {s : State} {sargs : Array Value} {y : MethodName} {len W9 : Nat}
theorem vx_back {ws : List Cond} {rm : Room} {Pc : Array Value → State → Prop} {Qc : Array Value → State → Outcome → State → Prop} {XC : String → State → State → Prop} {mc ms : Nat} {free : Addr → Prop} {bytes : ByteArray} {maxL : Nat} {ret : Option FieldType}
    (hM : vx_Met l y ws rm Pc Qc XC mc ms free) (hblind : FrameBlind Pc) (hrc : rm.cells = mc) (hrs : rm.slots = ms)
    (hframes : rm.frames + 1 ≤ R.frames) (hlocals : W9 + (maxL + 11) + rm.locals ≤ R.locals)
    (hws : ∀ w ∈ ws, ∀ a' U, s.WarmedH U.vm → w.before a' U = true) (hcode : Cond.code y bytes maxL ret ∈ ws) (hinit : ∀ a' U, s.WarmedH U.vm → (Cond.initialized y.cls).before a' U = true) :
    vx_Back l R p e below s sargs y len W9 (PreOf R mc ms Pc) (PostOf Qc mc ms free) (vx_Post XC mc ms free) := by
  intro m meth c A g ig mk a X hg hsize hdg hW hn hp
  have h1 : (headSpec ws rm).pre.before a A.U = true := atoms_intro fun w hw => hws w hw _ _ X.warmed
  have h2 : (Cond.code y bytes maxL ret).before a A.U = true := hws _ hcode _ _ X.warmed
  have h3 : (Cond.initialized y.cls).before a A.U = true := hinit _ _ X.warmed
  have h4 : A.cells + (headSpec ws rm).room.cells ≤ R.cells := by rw [show (headSpec ws rm).room.cells = mc from hrc]; exact hp.1
  have h5 : A.slots + (headSpec ws rm).room.slots ≤ R.slots := by rw [show (headSpec ws rm).room.slots = ms from hrs]; exact hp.2.1
  have hPc : Pc a (A.U.calling g mk a) := hblind _ _ _ _ hp.2.2
  obtain ⟨U, Ls, c0, s0⟩ := A
  dsimp only [Pt.U, Pt.locs, Pt.cells, Pt.slots] at h1 h2 h3 h4 h5 X hn hPc ⊢
  obtain ⟨methY, cY, hmY, hcY, -, hlY, -, -, -, -⟩ := Cond.code_spec hn h2
  obtain ⟨kY, hkY, -⟩ := className_of_methodNamed hn
  have hinitY : kY.init = .initialized := Cond.initialized_spec (findClass_of_methodNamed hn) hkY h3
  have h : At U g.method c below := by rw [hg]; exact X.here
  have hlocals9 : W9 + (maxL + 11) + (headSpec ws rm).room.locals ≤ R.locals := hlocals
  have happ : (headSpec ws rm).appliesLoose y e.platform (U.calling g mk a) = true :=
    Spec.appliesLoose_calling (g := g) h hdg hn hkY hinitY
      (X.room_calling (g := g) (R' := (headSpec ws rm).room) hsize hmY hcY hframes (by rw [hlY]; omega) h4 h5) h1
  obtain ⟨mid, hmid⟩ := h.above
  have hfr : (U.setTop g).frames = (.java g :: mid) ++ below := by rw [State.frames_setTop' g h.top, hmid]; rfl
  obtain ⟨o, s₂, hsteps, -, hend, hq⟩ := Steps.callFree hM p X.admits X.cas X.clock (acts := []) hfr happ hPc trivial
  have hq' : vx_Q Qc XC mc ms free a (U.calling g mk a) o s₂ := hq
  rw [State.frames_setTop' g h.top] at hend
  obtain ⟨g₀, hg0⟩ := Option.isSome_iff_exists.mp h.top
  obtain ⟨r, hr⟩ := State.topJava?_eq_some.mp hg0
  have hr' : (({ U with heap := s₂.heap, slotsUsed := s₂.slotsUsed } : State).setVm s₂.vm).frames = .java g₀ :: r := hr
  rcases hq' with ⟨hqc, L, hfe, hL⟩ | ⟨q, rfl, E, ce, L, hx, hce, hcv, hcl, hW₂, hsm, hL⟩
  · obtain ⟨⟨v, rfl⟩, hW₂, e2, q2, q3, q4, q5, q6⟩ := id hfe
    have e3 : s₂ = ({ (U.calling g mk a).setFrames s₂.frames with heap := s₂.heap, slotsUsed := s₂.slotsUsed } : State).setVm s₂.vm := by
      have : s₂ = ({ s₂ with vm := (U.calling g mk a).vm } : State).setVm s₂.vm := rfl
      rw [e2] at this
      exact this
    obtain ⟨c₂, i₂, len₂, hc₂, hd₂, hf₂⟩ := hend
    have hW' : U.WarmedH s₂.vm := hW₂
    have hcc : c₂ = c := by
      have h1 : s₂.code? g.method = U.code? g.method := by
        rw [State.code?_eq, State.code?_eq, hW'.alike.method?]
      exact Option.some.inj (hc₂.symm.trans (h1.trans h.code))
    subst hcc
    have hlen : len₂ = len := by rw [hdg] at hd₂; cases hd₂; rfl
    subst hlen
    have hs₂ : s₂ = (({ U with heap := s₂.heap, slotsUsed := s₂.slotsUsed } : State).setVm s₂.vm).setTop { g with pc := g.pc + len₂, stack := v.toList ++ g.stack } := by
      refine e3.trans ?_
      rw [hf₂, State.calling_eq h.top, State.setFrames_setFrames, State.setTop_of_frames _ hr', hr]
      rfl
    have hsame : U.sameButNew ({ U with heap := s₂.heap, slotsUsed := s₂.slotsUsed } : State) L mc ms := by
      refine ⟨?_, q2, q3, q4, q5, q6⟩
      obtain ⟨t, ht, -⟩ := State.frames_cons hr
      show ({ U with heap := s₂.heap, slotsUsed := s₂.slotsUsed } : State) = { U.setFrames U.frames with heap := s₂.heap, slotsUsed := s₂.slotsUsed }
      rw [State.setFrames_self ht]
    subst hg
    refine Or.inl ⟨v, ⟨(({ U with heap := s₂.heap, slotsUsed := s₂.slotsUsed } : State).setVm s₂.vm), Ls ++ L, c0 + mc, s0 + ms⟩,
      ⟨X.admits, X.cas, X.clock, X.frames, X.room, X.hears, X.method, X.code, (X.here.setHeapUsed s₂.heap s₂.slotsUsed).setVm hW'.alike, X.tail, State.WarmedH.trans X.warmed hW', X.limits, X.bytes, X.same.trans (hsame.setVm s.vm)⟩,
      ⟨g, mk, s₂, L, rfl, rfl, hqc, rfl, hL, rfl, rfl⟩, ?_⟩
    show Steps p.tables e below _ ((({ U with heap := s₂.heap, slotsUsed := s₂.slotsUsed } : State).setVm s₂.vm).setTop { g with pc := g.pc + len₂, stack := v.toList ++ g.stack })
    rw [← hs₂]
    exact hsteps
  · obtain ⟨e2, q2, q3, q4, q5, q6⟩ := id hsm
    have e3 : s₂ = ({ (U.calling g mk a).setFrames s₂.frames with heap := s₂.heap, slotsUsed := s₂.slotsUsed } : State).setVm s₂.vm := by
      have : s₂ = ({ s₂ with vm := (U.calling g mk a).vm } : State).setVm s₂.vm := rfl
      rw [e2] at this
      exact this
    have hf₂ : s₂.frames = .throwing q :: .java g :: U.frames.tail := hend
    have hW' : U.WarmedH s₂.vm := hW₂
    have hs₂ : s₂ = ((({ U with heap := s₂.heap, slotsUsed := s₂.slotsUsed } : State).setVm s₂.vm).setTop g).pushFrame (.throwing q) := by
      refine e3.trans ?_
      rw [hf₂, State.calling_eq h.top, State.setFrames_setFrames, State.pushFrame, State.frames_setTop _ hr', State.setTop_of_frames _ hr', State.setFrames_setFrames, hr]
      rfl
    have hsame : U.sameButNew ({ U with heap := s₂.heap, slotsUsed := s₂.slotsUsed } : State) L mc ms := by
      refine ⟨?_, q2, q3, q4, q5, q6⟩
      obtain ⟨t, ht, -⟩ := State.frames_cons hr
      show ({ U with heap := s₂.heap, slotsUsed := s₂.slotsUsed } : State) = { U.setFrames U.frames with heap := s₂.heap, slotsUsed := s₂.slotsUsed }
      rw [State.setFrames_self ht]
    subst hg
    refine Or.inr ⟨q, ⟨(({ U with heap := s₂.heap, slotsUsed := s₂.slotsUsed } : State).setVm s₂.vm), Ls ++ L, c0 + mc, s0 + ms⟩,
      ⟨X.admits, X.cas, X.clock, X.frames, X.room, X.hears, X.method, X.code, (X.here.setHeapUsed s₂.heap s₂.slotsUsed).setVm hW'.alike, X.tail, State.WarmedH.trans X.warmed hW', X.limits, X.bytes, X.same.trans (hsame.setVm s.vm)⟩,
      ⟨g, mk, s₂, L, E, ce, rfl, rfl, hx, hce, hcv, hcl, rfl, hL, rfl, rfl⟩, ?_⟩
    show Steps p.tables e below _ (((({ U with heap := s₂.heap, slotsUsed := s₂.slotsUsed } : State).setVm s₂.vm).setTop g).pushFrame (.throwing q))
    rw [← hs₂]
    exact hsteps
end Payer
section Calls
variable {p : Program} {l : Launch} {e : Env} {R : Room} {s : State} {m : MethodId} {args : Array Value} {below : List Frame} {meth : Method} {c : Code} {T : State} {locs : List Loc} {cells slots : Nat}
theorem vx_callV (X : Stand p l e R s m args below meth c T locs cells slots) (hexec : p.tables.exec = Jvm.exec) {own C : String} {index : Nat} {y : MethodName} {bytes : ByteArray} {maxL : Nat} {ret : Option FieldType}
    (hown : s.vm.findClass own = some m.cls) (hlink : (Cond.methodLink own index y).before args s = true) (hinst : (Cond.instanceMethod y).before args s = true) (hsel : (Cond.selects C y y).before args s = true)
    (hcode : (Cond.code y bytes maxL ret).before args s = true) (hy : y.cls ≠ "java/lang/invoke/MethodHandle" ∧ y.cls ≠ "java/lang/invoke/VarHandle")
    {W9 : Nat} {Pre : Pt → Array Value → Prop} {Post : Pt → Array Value → Option Value → Pt → Prop} {PostX : Pt → Array Value → Addr → Pt → Prop} (hK : vx_Back l R p e below s args y 3 W9 Pre Post PostX)
    {b : Addr} {cellB : Cell} (hcell : T.heap[b]? = some cellB) (hobj : cellB.vm.isStatics = false) (hcls : s.vm.findClass C = some cellB.cls)
    {g : JFrame} (hg : g.method = m) (hsize : g.locals.size = c.maxLocals) {argsL rest : List Value} (hlen : ∀ sig, parseMethodDescriptor y.desc = some sig → argsL.length = sig.parameters.length)
    (hstack : g.stack = argsL.reverse ++ .ref b :: rest) (hW : 2 * g.monitorRoom + (rest.map fun v => v.category).sum ≤ W9) (hdg : decode c.code g.pc = .ok (.invokevirtual index, 3))
    (hpre : ∀ vm₁, s.WarmedH vm₁ → Pre ⟨T.setVm vm₁, locs, cells, slots⟩ (Value.ref b :: argsL).toArray) :
    (∃ (v : Option Value) (vm₁ : Vm) (B : Pt), s.WarmedH vm₁ ∧ Stand p l e R s m args below meth c B.U B.locs B.cells B.slots ∧ Post ⟨T.setVm vm₁, locs, cells, slots⟩ (Value.ref b :: argsL).toArray v B ∧
      ∀ target, Steps p.tables e below (B.U.setTop { g with pc := g.pc + 3, stack := v.toList ++ rest }) target → Steps p.tables e below (T.setTop g) target) ∨
    (∃ (q : Addr) (vm₁ : Vm) (B : Pt), s.WarmedH vm₁ ∧ Stand p l e R s m args below meth c B.U B.locs B.cells B.slots ∧ PostX ⟨T.setVm vm₁, locs, cells, slots⟩ (Value.ref b :: argsL).toArray q B ∧
      Steps p.tables e below (T.setTop g) ((B.U.setTop { g with stack := rest }).pushFrame (.throwing q))) := by
  obtain ⟨mk, methM, hnamed, hmethM, hstM, habM⟩ := Cond.instanceMethod_spec hinst
  obtain ⟨methM', cM, hmethM', -, -, -, -, -, -, hsigM⟩ := Cond.code_spec hnamed hcode
  cases hmethM.symm.trans hmethM'
  obtain ⟨c2, r2, m2, q1, q2, q3, q4, kP, hkP, hkPi⟩ := Cond.selects_spec hsel
  cases hcls.symm.trans q1
  cases (State.methodFound?_of_named hnamed hy).symm.trans q2
  cases hnamed.symm.trans q3
  have hselP : selectMethod e.platform s.vm cellB.cls mk = .method mk := by rw [Launch.admits_selectMethod X.admits]; exact q4
  obtain ⟨vm₁, X₁, hstep₁⟩ := X.invokevirtual hexec hown hlink hnamed hmethM hstM hkP hkPi hy (a := b) (cell := cellB) hcell
    (fun z h => by rw [h] at hobj; cases hobj) hselP hmethM habM hkP hkPi (g := g) hg (argsL := argsL) (rest := rest) (hlen _ hsigM) hstack hdg
  rcases hK m meth c ⟨T.setVm vm₁, locs, cells, slots⟩ { g with stack := rest } (.invokevirtual index) mk (Value.ref b :: argsL).toArray X₁ hg hsize hdg hW (X₁.named hnamed) (hpre vm₁ X₁.warmed) with ⟨v, B, X', hpost, hsteps⟩ | ⟨q, B, X', hpost, hsteps⟩
  · exact Or.inl ⟨v, vm₁, B, X₁.warmed, X', hpost, fun target h => hstep₁ _ fun acts => by rw [doInvoke_state]; exact hsteps.trans h⟩
  · exact Or.inr ⟨q, vm₁, B, X₁.warmed, X', hpost, hstep₁ _ fun acts => by rw [doInvoke_state]; exact hsteps⟩
theorem vx_callS (X : Stand p l e R s m args below meth c T locs cells slots) (hexec : p.tables.exec = Jvm.exec) {own : String} {index : Nat} {y : MethodName} {bytes : ByteArray} {maxL : Nat} {ret : Option FieldType}
    (hown : s.vm.findClass own = some m.cls) (hlink : (Cond.methodLink own index y).before args s = true) (hstat : (Cond.static y).before args s = true) (hinit : (Cond.initialized y.cls).before args s = true)
    (hcode : (Cond.code y bytes maxL ret).before args s = true) (hy : y.cls ≠ "java/lang/invoke/MethodHandle" ∧ y.cls ≠ "java/lang/invoke/VarHandle")
    {W9 : Nat} {Pre : Pt → Array Value → Prop} {Post : Pt → Array Value → Option Value → Pt → Prop} {PostX : Pt → Array Value → Addr → Pt → Prop} (hK : vx_Back l R p e below s args y 3 W9 Pre Post PostX)
    {g : JFrame} (hg : g.method = m) (hsize : g.locals.size = c.maxLocals) {argsL rest : List Value} (hlen : ∀ sig, parseMethodDescriptor y.desc = some sig → argsL.length = sig.parameters.length)
    (hstack : g.stack = argsL.reverse ++ rest) (hW : 2 * g.monitorRoom + (rest.map fun v => v.category).sum ≤ W9) (hdg : decode c.code g.pc = .ok (.invokestatic index, 3))
    (hpre : ∀ vm₁, s.WarmedH vm₁ → Pre ⟨T.setVm vm₁, locs, cells, slots⟩ argsL.toArray) :
    (∃ (v : Option Value) (vm₁ : Vm) (B : Pt), s.WarmedH vm₁ ∧ Stand p l e R s m args below meth c B.U B.locs B.cells B.slots ∧ Post ⟨T.setVm vm₁, locs, cells, slots⟩ argsL.toArray v B ∧
      ∀ target, Steps p.tables e below (B.U.setTop { g with pc := g.pc + 3, stack := v.toList ++ rest }) target → Steps p.tables e below (T.setTop g) target) ∨
    (∃ (q : Addr) (vm₁ : Vm) (B : Pt), s.WarmedH vm₁ ∧ Stand p l e R s m args below meth c B.U B.locs B.cells B.slots ∧ PostX ⟨T.setVm vm₁, locs, cells, slots⟩ argsL.toArray q B ∧
      Steps p.tables e below (T.setTop g) ((B.U.setTop { g with stack := rest }).pushFrame (.throwing q))) := by
  obtain ⟨mk, hnamed⟩ := Cond.code_named hcode
  obtain ⟨methM, cM, hmethM, -, -, -, -, -, -, hsigM⟩ := Cond.code_spec hnamed hcode
  have hstatic : methM.isStatic = true := Cond.static_spec hnamed hmethM hstat
  obtain ⟨kP, hkP, -⟩ := className_of_methodNamed hnamed
  have hinitP : kP.init = .initialized := Cond.initialized_spec (findClass_of_methodNamed hnamed) hkP hinit
  obtain ⟨vm₁, X₁, hstep₁⟩ := X.invokestatic hexec hown hlink hnamed hmethM hstatic hkP hinitP hy (g := g) hg (argsL := argsL) (rest := rest) (hlen _ hsigM) hstack hdg
  rcases hK m meth c ⟨T.setVm vm₁, locs, cells, slots⟩ { g with stack := rest } (.invokestatic index) mk argsL.toArray X₁ hg hsize hdg hW (X₁.named hnamed) (hpre vm₁ X₁.warmed) with ⟨v, B, X', hpost, hsteps⟩ | ⟨q, B, X', hpost, hsteps⟩
  · exact Or.inl ⟨v, vm₁, B, X₁.warmed, X', hpost, fun target h => hstep₁ _ fun acts => by rw [doInvoke_state]; exact hsteps.trans h⟩
  · exact Or.inr ⟨q, vm₁, B, X₁.warmed, X', hpost, hstep₁ _ fun acts => by rw [doInvoke_state]; exact hsteps⟩
end Calls
theorem vx_cls {s : State} {T : State} {vm₁ : Vm} {E : String} {k : ClassId} (hW : s.WarmedH vm₁) (h : (T.setVm vm₁).vm.findClass E = some k) : s.vm.findClass E = some k := by
  have h1 : vm₁.findClass E = some k := h
  rw [hW.alike.findClass] at h1
  exact h1
/-- the method's frame g, with q thrown over it -/
def vx_W (p : Program) (l : Launch) (e : Env) (R : Room) (s : State) (m : MethodId) (args : Array Value) (below : List Frame) (meth : Method) (c : Code) (H : Heap) (locs : List Loc) (cells slots : Nat) (Q : State → Prop) (g : JFrame) (q : Addr) : Prop :=
  ∀ T : State, T.heap = H → Stand p l e R s m args below meth c T locs cells slots → ∃ t, Steps p.tables e below ((T.setTop g).pushFrame (.throwing q)) t ∧ Q t
def vx_Run (p : Program) (l : Launch) (e : Env) (R : Room) (s : State) (m : MethodId) (args : Array Value) (below : List Frame) (meth : Method) (c : Code) (H : Heap) (locs : List Loc) (cells slots mc ms : Nat) (g : JFrame) (rest : List Value) (Qa : State → Outcome → State → Prop) (XC : String → State → State → Prop) (free : Addr → Prop) : Prop :=
  ∀ T : State, T.heap = H → Stand p l e R s m args below meth c T locs cells slots →
    (∃ (v : Option Value) (st₀ t T' : State) (L : List Loc), st₀.heap = H ∧ Stand p l e R s m args below meth c T' (locs ++ L) (cells + mc) (slots + ms) ∧ (∀ q ∈ L, free q.base) ∧ T'.heap = t.heap ∧ T'.vm = t.vm ∧ Qa st₀ (.returned v) t ∧
      Goes p e below T g T' { g with pc := g.pc + 3, stack := v.toList ++ rest }) ∨
    (∃ (q : Addr) (st₀ t T' : State) (L : List Loc) (E : String) (ce : Cell), st₀.heap = H ∧ Stand p l e R s m args below meth c T' (locs ++ L) (cells + mc) (slots + ms) ∧ (∀ z ∈ L, free z.base) ∧ T'.heap = t.heap ∧ T'.vm = t.vm ∧ XC E st₀ t ∧ t.heap[q]? = some ce ∧ ce.vm = .none ∧ s.vm.findClass E = some ce.cls ∧
      Steps p.tables e below (T.setTop g) ((T'.setTop { g with stack := rest }).pushFrame (.throwing q)))
def vx_X {S : Type} (px : S → Prop) (B : String → S → State → Prop) (A : Nat → Prop) : String → State → State → Prop := fun E st t => ∃ u : S, px u ∧ B E u t ∧ va_F A st t
section Runs
variable {p : Program} {l : Launch} {e : Env} {R : Room} {s : State} {m : MethodId} {args : Array Value} {below : List Frame} {meth : Method} {c : Code} {H : Heap} {locs : List Loc} {cells slots : Nat}
variable {y : MethodName} {bytes cc : ByteArray} {maxL nL mc ms n index : Nat} {ret : Option FieldType} {ws : List Cond} {rm : Room} {Pc : Array Value → State → Prop} {Qc : Array Value → State → Outcome → State → Prop} {XC : String → State → State → Prop} {free : Addr → Prop} {Ts : List Cond} {own C : String} {b : Addr} {As rest : List Value} {g : JFrame}
theorem vx_callBack (cb : CallB R s args own index y bytes maxL ret ws rm mc ms n) (hM : vx_Met l y ws rm Pc Qc XC mc ms free) (hbl : FrameBlind Pc) : vx_Back l R p e below s args y 3 8 (PreOf R mc ms Pc) (PostOf Qc mc ms free) (vx_Post XC mc ms free) := by
  obtain ⟨hrc, hrs, hfr, hlo, hws, hcw, -, hini, -⟩ := cb
  exact vx_back (bytes := bytes) (maxL := maxL) (ret := ret) hM hbl hrc hrs hfr hlo hws hcw (fun a' U hW => word_at hW (Or.inl (by first | rfl | simp [Cond.onTables, Cond.keeps, Cond.steady])) hini)
theorem vx_runV (S : CallFix p m c cc nL s args Ts own) (hM : vx_Met l y ws rm Pc Qc XC mc ms free) (cw : CallW R s args own C index y bytes maxL ret ws rm mc ms n) (hp : PreV s H C b Pc As)
    (hg : g.method = m) (hn : As.length = n) (hsize : g.locals.size = nL) (hstack : g.stack = As.reverse ++ .ref b :: rest) (hW : 2 * g.monitorRoom + (rest.map fun v => v.category).sum ≤ 8) (hdg : decode cc g.pc = .ok (.invokevirtual index, 3)) (hf : cells + mc ≤ R.cells ∧ slots + ms ≤ R.slots) :
    vx_Run p l e R s m args below meth c H locs cells slots mc ms g rest (Qc (Value.ref b :: As).toArray) XC free := by
  have hK : vx_Back l R p e below s args y 3 8 (PreOf R mc ms Pc) (PostOf Qc mc ms free) (vx_Post XC mc ms free) := vx_callBack cw.1 hM hp.1
  obtain ⟨⟨-, -, -, -, -, -, hcode, -, hy, hlen, hl⟩, hin, hse⟩ := cw
  obtain ⟨hx, hb, hml, ho, -⟩ := S
  obtain ⟨-, ⟨cellB, hcB, hoB, hclB⟩, hPc⟩ := hp
  intro T hT X
  rcases vx_callV X hx (C := C) (bytes := bytes) (maxL := maxL) (ret := ret) ho hl hin hse hcode hy hK (by rw [hT]; exact hcB) hoB hclB hg (hsize.trans hml.symm) (argsL := As) (rest := rest) (fun sig h => hn.trans (hlen sig h)) hstack hW (by rw [hb]; exact hdg)
    (fun vm₁ hW₁ => ⟨hf.1, hf.2, hPc (T.setVm vm₁) hT hW₁⟩) with ⟨v, vm₁, ⟨U', l2, c2, s2⟩, hW₁, X', ⟨g', mk, t, L, e1, e2, hq, h1, hL, h2, h3⟩, st⟩ | ⟨q, vm₁, ⟨U', l2, c2, s2⟩, hW₁, X', ⟨g', mk, t, L, E, ce, e1, e2, hq, hce, hcv, hcl, h1, hL, h2, h3⟩, st⟩
  · dsimp only [Pt.U, Pt.locs, Pt.cells, Pt.slots] at X' e1 e2 h1 h2 h3 st
    subst h1; subst h2; subst h3
    exact Or.inl ⟨v, (T.setVm vm₁).calling g' mk (Value.ref b :: As).toArray, t, U', L, hT, X', hL, e1, e2, hq, st⟩
  · dsimp only [Pt.U, Pt.locs, Pt.cells, Pt.slots] at X' e1 e2 h1 h2 h3 st hcl
    subst h1; subst h2; subst h3
    exact Or.inr ⟨q, (T.setVm vm₁).calling g' mk (Value.ref b :: As).toArray, t, U', L, E, ce, hT, X', hL, e1, e2, hq, hce, hcv, vx_cls hW₁ hcl, st⟩
theorem vx_runS (S : CallFix p m c cc nL s args Ts own) (hM : vx_Met l y ws rm Pc Qc XC mc ms free) (cw : CallB R s args own index y bytes maxL ret ws rm mc ms n ∧ (Cond.static y).before args s = true) (hp : PreS s H Pc As)
    (hg : g.method = m) (hn : As.length = n) (hsize : g.locals.size = nL) (hstack : g.stack = As.reverse ++ rest) (hW : 2 * g.monitorRoom + (rest.map fun v => v.category).sum ≤ 8) (hdg : decode cc g.pc = .ok (.invokestatic index, 3)) (hf : cells + mc ≤ R.cells ∧ slots + ms ≤ R.slots) :
    vx_Run p l e R s m args below meth c H locs cells slots mc ms g rest (Qc As.toArray) XC free := by
  have hK : vx_Back l R p e below s args y 3 8 (PreOf R mc ms Pc) (PostOf Qc mc ms free) (vx_Post XC mc ms free) := vx_callBack cw.1 hM hp.1
  obtain ⟨⟨-, -, -, -, -, -, hcode, hini, hy, hlen, hl⟩, hstt⟩ := cw
  obtain ⟨hx, hb, hml, ho, -⟩ := S
  intro T hT X
  rcases vx_callS X hx (bytes := bytes) (maxL := maxL) (ret := ret) ho hl hstt hini hcode hy hK hg (hsize.trans hml.symm) (argsL := As) (rest := rest) (fun sig h => hn.trans (hlen sig h)) hstack hW (by rw [hb]; exact hdg)
    (fun vm₁ hW₁ => ⟨hf.1, hf.2, hp.2 (T.setVm vm₁) hT hW₁⟩) with ⟨v, vm₁, ⟨U', l2, c2, s2⟩, hW₁, X', ⟨g', mk, t, L, e1, e2, hq, h1, hL, h2, h3⟩, st⟩ | ⟨q, vm₁, ⟨U', l2, c2, s2⟩, hW₁, X', ⟨g', mk, t, L, E, ce, e1, e2, hq, hce, hcv, hcl, h1, hL, h2, h3⟩, st⟩
  · dsimp only [Pt.U, Pt.locs, Pt.cells, Pt.slots] at X' e1 e2 h1 h2 h3 st
    subst h1; subst h2; subst h3
    exact Or.inl ⟨v, (T.setVm vm₁).calling g' mk As.toArray, t, U', L, hT, X', hL, e1, e2, hq, st⟩
  · dsimp only [Pt.U, Pt.locs, Pt.cells, Pt.slots] at X' e1 e2 h1 h2 h3 st hcl
    subst h1; subst h2; subst h3
    exact Or.inr ⟨q, (T.setVm vm₁).calling g' mk As.toArray, t, U', L, E, ce, hT, X', hL, e1, e2, hq, hce, hcv, vx_cls hW₁ hcl, st⟩
end Runs
section Rows
variable {p : Program} {l : Launch} {e : Env} {R : Room} {s : State} {m : MethodId} {args : Array Value} {below : List Frame} {meth : Method} {c : Code} {H : Heap} {locs : List Loc} {cells slots : Nat} {Q : State → Prop}
variable {mc ms : Nat} {free : Addr → Prop} {A0 A1 : Nat → Prop} {H0 : Heap} {a : Array Value} {pc : Nat} {ls : Array Slot} {st0 rest : List Value}
theorem vx_keep {st₀ t T' : State} {L : List Loc} (h0 : st₀.heap = H) (e1 : T'.heap = t.heap) (hS : va_S A0 H0 H locs) (hA : ∀ q, q < H.size → A1 q → A0 q) (hf : ∀ q, free q → A0 q) (hL : ∀ q ∈ L, free q.base) (hF : va_F A1 st₀ t) :
    H.size ≤ T'.heap.size ∧ (∀ q : Nat, q < H.size → ¬ A1 q → T'.heap[q]? = H[q]?) ∧ va_S A0 H0 T'.heap (locs ++ L) := by
  obtain ⟨hz, hk⟩ := hF
  rw [h0] at hz hk
  exact ⟨by rw [e1]; exact hz, fun q h1 h2 => by rw [e1]; exact hk q h1 h2,
    ⟨Nat.le_trans hS.1 (by rw [e1]; exact hz), fun q h1 h2 => by rw [e1, hk q (Nat.lt_of_lt_of_le h1 hS.1) (fun z => h2 (hA q (Nat.lt_of_lt_of_le h1 hS.1) z))]; exact hS.2.1 q h1 h2, fun q hq => by
      rcases List.mem_append.mp hq with h | h
      · exact hS.2.2 q h
      · exact hf _ (hL q h)⟩⟩
theorem vx_calli {S SX : Type} {post : Int32 → S → Prop} {px : SX → Prop} {B : S → State → Prop} {BX : String → SX → State → Prop} {AX : Nat → Prop} (hr : vx_Run p l e R s m args below meth c H locs cells slots mc ms (F0 m pc ls st0) rest (va_Qi post B A1 a) (vx_X px BX AX) free) (hS : va_S A0 H0 H locs) (hA : ∀ q, q < H.size → A1 q → A0 q) (hf : ∀ q, free q → A0 q) (hAX : ∀ q, q < H.size → AX q → A0 q)
    (kx : ∀ (E : String) (ce : Cell) (q9 : Addr) (u : SX) (t : State) (H1 : Heap) (locs1 : List Loc), t.heap = H1 → s.vm.Alike t.vm → px u → BX E u t → H.size ≤ H1.size → (∀ q : Nat, q < H.size → ¬ AX q → H1[q]? = H[q]?) → va_S A0 H0 H1 locs1 → H1[q9]? = some ce → ce.vm = .none → s.vm.findClass E = some ce.cls → vx_W p l e R s m args below meth c H1 locs1 (cells + mc) (slots + ms) Q (F0 m pc ls rest) q9)
    (kk : ∀ (r : Int32) (u : S) (t : State) (H1 : Heap) (locs1 : List Loc), t.heap = H1 → s.vm.Alike t.vm → post r u → B u t → H.size ≤ H1.size → (∀ q : Nat, q < H.size → ¬ A1 q → H1[q]? = H[q]?) → va_S A0 H0 H1 locs1 → W p l e R s m args below meth c H1 locs1 (cells + mc) (slots + ms) Q (F0 m (pc + 3) ls (.int r :: rest))) : W p l e R s m args below meth c H locs cells slots Q (F0 m pc ls st0) := by
  intro T hT X
  rcases hr T hT X with ⟨v, st₀, t, T', L, h0, X', hL, e1, e2, ⟨⟨r, u, hv, hp, hb⟩, hF⟩, st⟩ | ⟨q, st₀, t, T', L, E, ce, h0, X', hL, e1, e2, ⟨u, hp, hb, hF⟩, hce, hcv, hcl, st⟩
  · cases hv
    obtain ⟨k1, k2, k3⟩ := vx_keep h0 e1 hS hA hf hL hF
    obtain ⟨t2, a1, b1⟩ := kk r u t T'.heap (locs ++ L) e1.symm (by rw [← e2]; exact X'.warmed.alike) hp hb k1 k2 k3 T' rfl X'
    exact ⟨t2, st t2 a1, b1⟩
  · obtain ⟨k1, k2, k3⟩ := vx_keep h0 e1 hS hAX hf hL hF
    obtain ⟨t2, a1, b1⟩ := kx E ce q u t T'.heap (locs ++ L) e1.symm (by rw [← e2]; exact X'.warmed.alike) hp hb k1 k2 k3 (by rw [e1]; exact hce) hcv hcl T' rfl X'
    exact ⟨t2, st.trans a1, b1⟩
theorem vx_calll {S SX : Type} {post : Int64 → S → Prop} {px : SX → Prop} {B : S → State → Prop} {BX : String → SX → State → Prop} {AX : Nat → Prop} (hr : vx_Run p l e R s m args below meth c H locs cells slots mc ms (F0 m pc ls st0) rest (va_Ql post B A1 a) (vx_X px BX AX) free) (hS : va_S A0 H0 H locs) (hA : ∀ q, q < H.size → A1 q → A0 q) (hf : ∀ q, free q → A0 q) (hAX : ∀ q, q < H.size → AX q → A0 q)
    (kx : ∀ (E : String) (ce : Cell) (q9 : Addr) (u : SX) (t : State) (H1 : Heap) (locs1 : List Loc), t.heap = H1 → s.vm.Alike t.vm → px u → BX E u t → H.size ≤ H1.size → (∀ q : Nat, q < H.size → ¬ AX q → H1[q]? = H[q]?) → va_S A0 H0 H1 locs1 → H1[q9]? = some ce → ce.vm = .none → s.vm.findClass E = some ce.cls → vx_W p l e R s m args below meth c H1 locs1 (cells + mc) (slots + ms) Q (F0 m pc ls rest) q9)
    (kk : ∀ (r : Int64) (u : S) (t : State) (H1 : Heap) (locs1 : List Loc), t.heap = H1 → s.vm.Alike t.vm → post r u → B u t → H.size ≤ H1.size → (∀ q : Nat, q < H.size → ¬ A1 q → H1[q]? = H[q]?) → va_S A0 H0 H1 locs1 → W p l e R s m args below meth c H1 locs1 (cells + mc) (slots + ms) Q (F0 m (pc + 3) ls (.long r :: rest))) : W p l e R s m args below meth c H locs cells slots Q (F0 m pc ls st0) := by
  intro T hT X
  rcases hr T hT X with ⟨v, st₀, t, T', L, h0, X', hL, e1, e2, ⟨⟨r, u, hv, hp, hb⟩, hF⟩, st⟩ | ⟨q, st₀, t, T', L, E, ce, h0, X', hL, e1, e2, ⟨u, hp, hb, hF⟩, hce, hcv, hcl, st⟩
  · cases hv
    obtain ⟨k1, k2, k3⟩ := vx_keep h0 e1 hS hA hf hL hF
    obtain ⟨t2, a1, b1⟩ := kk r u t T'.heap (locs ++ L) e1.symm (by rw [← e2]; exact X'.warmed.alike) hp hb k1 k2 k3 T' rfl X'
    exact ⟨t2, st t2 a1, b1⟩
  · obtain ⟨k1, k2, k3⟩ := vx_keep h0 e1 hS hAX hf hL hF
    obtain ⟨t2, a1, b1⟩ := kx E ce q u t T'.heap (locs ++ L) e1.symm (by rw [← e2]; exact X'.warmed.alike) hp hb k1 k2 k3 (by rw [e1]; exact hce) hcv hcl T' rfl X'
    exact ⟨t2, st.trans a1, b1⟩
theorem vx_callf {S SX : Type} {post : UInt32 → S → Prop} {px : SX → Prop} {B : S → State → Prop} {BX : String → SX → State → Prop} {AX : Nat → Prop} (hr : vx_Run p l e R s m args below meth c H locs cells slots mc ms (F0 m pc ls st0) rest (va_Qf post B A1 a) (vx_X px BX AX) free) (hS : va_S A0 H0 H locs) (hA : ∀ q, q < H.size → A1 q → A0 q) (hf : ∀ q, free q → A0 q) (hAX : ∀ q, q < H.size → AX q → A0 q)
    (kx : ∀ (E : String) (ce : Cell) (q9 : Addr) (u : SX) (t : State) (H1 : Heap) (locs1 : List Loc), t.heap = H1 → s.vm.Alike t.vm → px u → BX E u t → H.size ≤ H1.size → (∀ q : Nat, q < H.size → ¬ AX q → H1[q]? = H[q]?) → va_S A0 H0 H1 locs1 → H1[q9]? = some ce → ce.vm = .none → s.vm.findClass E = some ce.cls → vx_W p l e R s m args below meth c H1 locs1 (cells + mc) (slots + ms) Q (F0 m pc ls rest) q9)
    (kk : ∀ (r : UInt32) (u : S) (t : State) (H1 : Heap) (locs1 : List Loc), t.heap = H1 → s.vm.Alike t.vm → post r u → B u t → H.size ≤ H1.size → (∀ q : Nat, q < H.size → ¬ A1 q → H1[q]? = H[q]?) → va_S A0 H0 H1 locs1 → W p l e R s m args below meth c H1 locs1 (cells + mc) (slots + ms) Q (F0 m (pc + 3) ls (.float r :: rest))) : W p l e R s m args below meth c H locs cells slots Q (F0 m pc ls st0) := by
  intro T hT X
  rcases hr T hT X with ⟨v, st₀, t, T', L, h0, X', hL, e1, e2, ⟨⟨r, u, hv, hp, hb⟩, hF⟩, st⟩ | ⟨q, st₀, t, T', L, E, ce, h0, X', hL, e1, e2, ⟨u, hp, hb, hF⟩, hce, hcv, hcl, st⟩
  · cases hv
    obtain ⟨k1, k2, k3⟩ := vx_keep h0 e1 hS hA hf hL hF
    obtain ⟨t2, a1, b1⟩ := kk r u t T'.heap (locs ++ L) e1.symm (by rw [← e2]; exact X'.warmed.alike) hp hb k1 k2 k3 T' rfl X'
    exact ⟨t2, st t2 a1, b1⟩
  · obtain ⟨k1, k2, k3⟩ := vx_keep h0 e1 hS hAX hf hL hF
    obtain ⟨t2, a1, b1⟩ := kx E ce q u t T'.heap (locs ++ L) e1.symm (by rw [← e2]; exact X'.warmed.alike) hp hb k1 k2 k3 (by rw [e1]; exact hce) hcv hcl T' rfl X'
    exact ⟨t2, st.trans a1, b1⟩
theorem vx_calld {S SX : Type} {post : UInt64 → S → Prop} {px : SX → Prop} {B : S → State → Prop} {BX : String → SX → State → Prop} {AX : Nat → Prop} (hr : vx_Run p l e R s m args below meth c H locs cells slots mc ms (F0 m pc ls st0) rest (va_Qd post B A1 a) (vx_X px BX AX) free) (hS : va_S A0 H0 H locs) (hA : ∀ q, q < H.size → A1 q → A0 q) (hf : ∀ q, free q → A0 q) (hAX : ∀ q, q < H.size → AX q → A0 q)
    (kx : ∀ (E : String) (ce : Cell) (q9 : Addr) (u : SX) (t : State) (H1 : Heap) (locs1 : List Loc), t.heap = H1 → s.vm.Alike t.vm → px u → BX E u t → H.size ≤ H1.size → (∀ q : Nat, q < H.size → ¬ AX q → H1[q]? = H[q]?) → va_S A0 H0 H1 locs1 → H1[q9]? = some ce → ce.vm = .none → s.vm.findClass E = some ce.cls → vx_W p l e R s m args below meth c H1 locs1 (cells + mc) (slots + ms) Q (F0 m pc ls rest) q9)
    (kk : ∀ (r : UInt64) (u : S) (t : State) (H1 : Heap) (locs1 : List Loc), t.heap = H1 → s.vm.Alike t.vm → post r u → B u t → H.size ≤ H1.size → (∀ q : Nat, q < H.size → ¬ A1 q → H1[q]? = H[q]?) → va_S A0 H0 H1 locs1 → W p l e R s m args below meth c H1 locs1 (cells + mc) (slots + ms) Q (F0 m (pc + 3) ls (.double r :: rest))) : W p l e R s m args below meth c H locs cells slots Q (F0 m pc ls st0) := by
  intro T hT X
  rcases hr T hT X with ⟨v, st₀, t, T', L, h0, X', hL, e1, e2, ⟨⟨r, u, hv, hp, hb⟩, hF⟩, st⟩ | ⟨q, st₀, t, T', L, E, ce, h0, X', hL, e1, e2, ⟨u, hp, hb, hF⟩, hce, hcv, hcl, st⟩
  · cases hv
    obtain ⟨k1, k2, k3⟩ := vx_keep h0 e1 hS hA hf hL hF
    obtain ⟨t2, a1, b1⟩ := kk r u t T'.heap (locs ++ L) e1.symm (by rw [← e2]; exact X'.warmed.alike) hp hb k1 k2 k3 T' rfl X'
    exact ⟨t2, st t2 a1, b1⟩
  · obtain ⟨k1, k2, k3⟩ := vx_keep h0 e1 hS hAX hf hL hF
    obtain ⟨t2, a1, b1⟩ := kx E ce q u t T'.heap (locs ++ L) e1.symm (by rw [← e2]; exact X'.warmed.alike) hp hb k1 k2 k3 (by rw [e1]; exact hce) hcv hcl T' rfl X'
    exact ⟨t2, st.trans a1, b1⟩
theorem vx_callv {S SX : Type} {post : S → Prop} {px : SX → Prop} {B : S → State → Prop} {BX : String → SX → State → Prop} {AX : Nat → Prop} (hr : vx_Run p l e R s m args below meth c H locs cells slots mc ms (F0 m pc ls st0) rest (va_Qv post B A1 a) (vx_X px BX AX) free) (hS : va_S A0 H0 H locs) (hA : ∀ q, q < H.size → A1 q → A0 q) (hf : ∀ q, free q → A0 q) (hAX : ∀ q, q < H.size → AX q → A0 q)
    (kx : ∀ (E : String) (ce : Cell) (q9 : Addr) (u : SX) (t : State) (H1 : Heap) (locs1 : List Loc), t.heap = H1 → s.vm.Alike t.vm → px u → BX E u t → H.size ≤ H1.size → (∀ q : Nat, q < H.size → ¬ AX q → H1[q]? = H[q]?) → va_S A0 H0 H1 locs1 → H1[q9]? = some ce → ce.vm = .none → s.vm.findClass E = some ce.cls → vx_W p l e R s m args below meth c H1 locs1 (cells + mc) (slots + ms) Q (F0 m pc ls rest) q9)
    (kk : ∀ (u : S) (t : State) (H1 : Heap) (locs1 : List Loc), t.heap = H1 → s.vm.Alike t.vm → post u → B u t → H.size ≤ H1.size → (∀ q : Nat, q < H.size → ¬ A1 q → H1[q]? = H[q]?) → va_S A0 H0 H1 locs1 → W p l e R s m args below meth c H1 locs1 (cells + mc) (slots + ms) Q (F0 m (pc + 3) ls (rest))) : W p l e R s m args below meth c H locs cells slots Q (F0 m pc ls st0) := by
  intro T hT X
  rcases hr T hT X with ⟨v, st₀, t, T', L, h0, X', hL, e1, e2, ⟨⟨u, hv, hp, hb⟩, hF⟩, st⟩ | ⟨q, st₀, t, T', L, E, ce, h0, X', hL, e1, e2, ⟨u, hp, hb, hF⟩, hce, hcv, hcl, st⟩
  · cases hv
    obtain ⟨k1, k2, k3⟩ := vx_keep h0 e1 hS hA hf hL hF
    obtain ⟨t2, a1, b1⟩ := kk u t T'.heap (locs ++ L) e1.symm (by rw [← e2]; exact X'.warmed.alike) hp hb k1 k2 k3 T' rfl X'
    exact ⟨t2, st t2 a1, b1⟩
  · obtain ⟨k1, k2, k3⟩ := vx_keep h0 e1 hS hAX hf hL hF
    obtain ⟨t2, a1, b1⟩ := kx E ce q u t T'.heap (locs ++ L) e1.symm (by rw [← e2]; exact X'.warmed.alike) hp hb k1 k2 k3 (by rw [e1]; exact hce) hcv hcl T' rfl X'
    exact ⟨t2, st.trans a1, b1⟩
/-- caught by the row x of this method's table; the rows ahead don't take it -/
theorem vx_catch {own name : String} {E : String} {ce : Cell} {q : Addr} (hown : s.vm.findClass own = some m.cls) (pre : List ExceptionTableEntry) (x : ExceptionTableEntry) (suf : List ExceptionTableEntry) (hsplit : c.exceptionTable.toList = pre ++ x :: suf)
    (hpass : ∀ z ∈ pre, covers z pc = false ∨ (z.catchType ≠ 0 ∧ ∃ nm : String, (Cond.classLink own z.catchType nm).before args s = true ∧ va_Nc E nm s)) (hx : covers x pc = true) (h0 : x.catchType ≠ 0)
    (hlink : (Cond.classLink own x.catchType name).before args s = true) (hcast : (Cond.castable E name).before args s = true) (hcell : H[q]? = some ce) (hv : ce.vm = .none) (hcl : s.vm.findClass E = some ce.cls)
    (kk : W p l e R s m args below meth c H locs cells slots Q (F0 m x.handlerPc ls [.ref q])) : vx_W p l e R s m args below meth c H locs cells slots Q (F0 m pc ls rest) q := by
  sorry
end Rows
section Ends
variable {p : Program} {l : Launch} {e : Env} {R : Room} {s : State} {m : MethodId} {args : Array Value} {below : List Frame} {meth : Method} {c : Code} {H : Heap} {locs : List Loc} {cells slots : Nat} {Q : State → Prop}
variable {mc ms : Nat} {free : Addr → Prop} {A0 A1 : Nat → Prop} {H0 : Heap} {a : Array Value} {ls : Array Slot} {st0 rest : List Value}
variable {Qc : Array Value → State → Outcome → State → Prop} {XC : String → State → State → Prop}
/-- what a body that may throw owes at its end -/
def vx_MQ (below : List Frame) (Qc : Array Value → State → Outcome → State → Prop) (XC : String → State → State → Prop) (a : Array Value) (s : State) (mc ms : Nat) (free : Addr → Prop) : State → Prop := fun t =>
  ∃ o, t.status = .running ∧ Ended t below o ∧ vx_Q Qc XC mc ms free a s o t
theorem vx_ret {g : JFrame} {mc ms : Nat} (k : W p l e R s m args below meth c H locs cells slots (MQ below Qc args s mc ms free) g) : W p l e R s m args below meth c H locs cells slots (vx_MQ below Qc XC args s mc ms free) g := by
  intro T hT X
  obtain ⟨t, a1, o, b1, b2, b3, b4⟩ := k T hT X
  exact ⟨t, a1, o, b1, b2, Or.inl ⟨b3, b4⟩⟩
/-- not caught here: it goes on to the caller -/
theorem vx_widen {g : JFrame} {q : Addr} {k n : Nat} (h1 : cells ≤ k) (h2 : slots ≤ n) (kk : vx_W p l e R s m args below meth c H locs k n Q g q) : vx_W p l e R s m args below meth c H locs cells slots Q g q := fun T hT X => kk T hT (stand_widen X h1 h2)
theorem vx_out {pc : Nat} {E : String} {ce : Cell} {q : Addr} {mc ms : Nat} (hout : ∀ x ∈ c.exceptionTable.toList, covers x pc = false) (hlocks : meth.locks = false) (hcell : H[q]? = some ce) (hv : ce.vm = .none) (hcl : s.vm.findClass E = some ce.cls)
    (hx : ∀ t : State, t.heap = H → s.vm.Alike t.vm → XC E s t) (hf : ∀ z ∈ locs, free z.base) (hc : cells ≤ mc) (hs : slots ≤ ms) :
    vx_W p l e R s m args below meth c H locs cells slots (vx_MQ below Qc XC args s mc ms free) (F0 m pc ls rest) q := by
  intro T hT X
  obtain ⟨st1, hrun, hend, hW, hsm⟩ := X.leaveThrown q (g := F0 m pc ls rest) rfl rfl rfl hout hlocks
  have hcell9 : (T.setFrames (.throwing q :: below)).heap[q]? = some ce := by
    show T.heap[q]? = some ce
    rw [hT]; exact hcell
  exact ⟨_, st1, .threw q, hrun, hend, Or.inr ⟨q, rfl, E, ce, locs, hx _ hT hW.alike, hcell9, hv, hcl, hW, hsm.mono hc hs, hf⟩⟩
theorem vx_frame {U : State} {k n : Nat} (h : s.sameButNew ({ U with vm := s.vm } : State) locs k n) : s.heap.size ≤ U.heap.size ∧ ∀ q : Nat, q < s.heap.size → (∀ z ∈ locs, z.base ≠ q) → U.heap[q]? = s.heap[q]? := by
  obtain ⟨-, h2, -, -, -, h6⟩ := h
  refine ⟨h2, fun q hq hz => ?_⟩
  obtain ⟨c9, e1, e2, e3, e4⟩ := h6 q _ (Array.getElem?_eq_getElem hq)
  have hs : c9.slots = (s.heap[q]).slots := Array.ext_getElem? fun i => e4 i fun hm => hz _ hm rfl
  have h9 : c9 = s.heap[q] := by
    rw [hs] at e2
    exact e2
  have e5 : U.heap[q]? = some c9 := e1
  rw [e5, h9, Array.getElem?_eq_getElem hq]
/-- the words of a throw but the four that speak of the heap -/
def vx_no (w : Cond) : Bool := decide (w ≠ .isRef (.static Bundle.tN "UNASSIGNED_STACK" Bundle.steD)) && decide (w ≠ .isRef (.static Bundle.tN "SUPPRESSED_SENTINEL" Bundle.listD)) && decide (w ≠ .laysStatic Bundle.tN "UNASSIGNED_STACK" Bundle.steD) && decide (w ≠ .laysStatic Bundle.tN "SUPPRESSED_SENTINEL" Bundle.listD)
def vx_at0 (own : String) (ic : Nat) (X : String) (names : List String) : List Cond := (Bundle.ownAtoms0 own ic X names).filter vx_no
def vx_atS (own : String) (ic : Nat) (X : String) (names : List String) : List Cond := (Bundle.ownAtoms own ic X names).filter vx_no
/-- a word that the tables alone decide, or a good one -/
def vx_ot (w : Cond) : Bool := w.onTables || goodWord w
theorem vx_ot_at {args a' : Array Value} {s U : State} {w : Cond} (hW : s.WarmedH U.vm) (hvm : s.vm = U.vm) (hg : vx_ot w = true) (h : w.before args s = true) : w.before a' U = true := by
  simp only [vx_ot, Bool.or_eq_true] at hg
  rcases hg with hg | hg
  · exact va_tabs hg hvm h
  · exact word_at hW (good_of_word hg) h
/-- a list's words: the good ones out of the method's own list, the others by premises of their own -/
theorem vx_hat {args : Array Value} {s : State} {L B : List Cond} (h1 : ∀ w ∈ L.filter goodWord, w.before args s = true) (h2 : ∀ w ∈ L.filter (fun w => !goodWord w), w ∈ B) (h3 : ∀ w ∈ B, w.before args s = true) : ∀ w ∈ L, w.before args s = true := by
  intro w hw
  by_cases g : goodWord w = true
  · exact h1 w (List.mem_filter.mpr ⟨hw, g⟩)
  · refine h3 w (h2 w (List.mem_filter.mpr ⟨hw, ?_⟩))
    show (!goodWord w) = true
    cases hgw : goodWord w
    · rfl
    · exact absurd hgw g
theorem vx_c {args : Array Value} {s : State} {w : Cond} {B : List Cond} (h : w.before args s = true) (t : ∀ w ∈ B, w.before args s = true) : ∀ w' ∈ w :: B, w'.before args s = true := fun w' h' => (List.mem_cons.mp h').elim (fun e => by rw [e]; exact h) (t w')
theorem vx_n {args : Array Value} {s : State} : ∀ w ∈ ([] : List Cond), w.before args s = true := fun _ h => nomatch h
theorem vx_own {args : Array Value} {s : State} {L : List Cond} (h1 : ∀ w ∈ L.filter vx_no, w.before args s = true)
    (hU : (Cond.isRef (.static Bundle.tN "UNASSIGNED_STACK" Bundle.steD)).before args s = true) (hN : (Cond.isRef (.static Bundle.tN "SUPPRESSED_SENTINEL" Bundle.listD)).before args s = true)
    (lU : (Cond.laysStatic Bundle.tN "UNASSIGNED_STACK" Bundle.steD).before args s = true) (lN : (Cond.laysStatic Bundle.tN "SUPPRESSED_SENTINEL" Bundle.listD).before args s = true) : ∀ w ∈ L, w.before args s = true := by
  intro w hw
  by_cases e1 : w = .isRef (.static Bundle.tN "UNASSIGNED_STACK" Bundle.steD)
  · rw [e1]; exact hU
  · by_cases e2 : w = .isRef (.static Bundle.tN "SUPPRESSED_SENTINEL" Bundle.listD)
    · rw [e2]; exact hN
    · by_cases e3 : w = .laysStatic Bundle.tN "UNASSIGNED_STACK" Bundle.steD
      · rw [e3]; exact lU
      · by_cases e4 : w = .laysStatic Bundle.tN "SUPPRESSED_SENTINEL" Bundle.listD
        · rw [e4]; exact lN
        · exact h1 w (List.mem_filter.mpr ⟨hw, by unfold vx_no; rw [decide_eq_true e1, decide_eq_true e2, decide_eq_true e3, decide_eq_true e4]; rfl⟩)
/-- where a static field lies, its class's statics cell in H -/
def vx_L (C n d : String) (A : Nat → Prop) (U : State) (H : Heap) : Prop := ∃ (c : ClassId) (k : Class) (i : Nat) (f : Field) (a : Nat) (cell : Cell), U.vm.findClass C = some c ∧ U.fieldFound? C n d = some (c, k, i, f) ∧ f.isStatic = true ∧ k.statics = some a ∧ H[a]? = some cell ∧ cell.vm.isStatics = true ∧ cell.cls = c ∧ f.slot < cell.slots.size ∧ k.staticTypes[f.slot]? = some f.type ∧ ¬ A a
theorem vx_L.moved {C n d : String} {A : Nat → Prop} {u U : State} {H : Heap} (hvm : u.vm.Alike U.vm) (h : vx_L C n d A u H) : vx_L C n d A U H := by
  obtain ⟨c, k, i, f, a, cell, h1, h2, h3, h4, h5, h6, h7, h8, h9, h10⟩ := h
  obtain ⟨k', hi', he⟩ := State.fieldFound?_setVm hvm h2
  exact ⟨c, k', i, f, a, cell, by rw [hvm.findClass]; exact h1, hi', h3, by rw [he]; exact h4, h5, h6, h7, h8, by rw [he]; exact h9, h10⟩
theorem vx_L.kept {C n d : String} {A : Nat → Prop} {U : State} {H H1 : Heap} (h : vx_L C n d A U H) (hq : ∀ a : Nat, a < H.size → ¬ A a → H1[a]? = H[a]?) : vx_L C n d A U H1 := by
  obtain ⟨c, k, i, f, a, cell, h1, h2, h3, h4, h5, h6, h7, h8, h9, h10⟩ := h
  exact ⟨c, k, i, f, a, cell, h1, h2, h3, h4, by rw [hq a (Array.getElem?_eq_some_iff.mp h5).1 h10]; exact h5, h6, h7, h8, h9, h10⟩
theorem vx_L.narrow {C n d : String} {A B : Nat → Prop} {U : State} {H : Heap} (h : vx_L C n d A U H) (hAB : ∀ q, B q → A q) : vx_L C n d B U H := by
  obtain ⟨c, k, i, f, a, cell, h1, h2, h3, h4, h5, h6, h7, h8, h9, h10⟩ := h
  exact ⟨c, k, i, f, a, cell, h1, h2, h3, h4, h5, h6, h7, h8, h9, fun z => h10 (hAB _ z)⟩
theorem vx_L.word {C n d : String} {A : Nat → Prop} {s : State} {args : Array Value} (h : vx_L C n d A s s.heap) : (Cond.laysStatic C n d).before args s = true := by
  obtain ⟨c, k, i, f, a, cell, h1, h2, h3, h4, h5, h6, h7, h8, h9, -⟩ := h
  show (Cond.laysStatic C n d).holds args s none s [] = true
  exact Cond.laysStatic_of h1 h2 h3 h4 h5 h6 h7 h8 h9
/-- .. and what it holds: null or some reference -/
def vx_Zq (C n d : String) (A : Nat → Prop) (U : State) (H : Heap) : Prop := va_Zq C n d A U H ∧ vx_L C n d A U H
theorem vx_Zq.moved {C n d : String} {A : Nat → Prop} {u U : State} {H : Heap} (hvm : u.vm.Alike U.vm) (h : vx_Zq C n d A u H) : vx_Zq C n d A U H := ⟨va_Zq.moved hvm h.1, vx_L.moved hvm h.2⟩
theorem vx_Zq.kept {C n d : String} {A : Nat → Prop} {U : State} {H H1 : Heap} (h : vx_Zq C n d A U H) (hq : ∀ a : Nat, a < H.size → ¬ A a → H1[a]? = H[a]?) : vx_Zq C n d A U H1 := ⟨va_Zq.kept h.1 hq, vx_L.kept h.2 hq⟩
theorem vx_Zq.narrow {C n d : String} {A B : Nat → Prop} {U : State} {H : Heap} (h : vx_Zq C n d A U H) (hAB : ∀ q, B q → A q) : vx_Zq C n d B U H := ⟨va_Zq.narrow h.1 hAB, vx_L.narrow h.2 hAB⟩
theorem vx_Zqof {args : Array Value} {s : State} {C n d : String} {A : Nat → Prop} (hl : (Cond.laysStatic C n d).before args s = true) (hini : (Cond.initialized C).before args s = true) (h : (Cond.isRef (.static C n d)).before args s = true) (hA : ∀ a : Nat, a < s.heap.size → ¬ A a) : vx_Zq C n d A s s.heap := by
  refine ⟨va_Zqof hl hini h hA, ?_⟩
  obtain ⟨c, k, i, f, a, cell, h1, h2, h3, h4, h5, h6, h7, h8, h9⟩ := Cond.laysStatic_spec hl
  exact ⟨c, k, i, f, a, cell, h1, h2, h3, h4, h5, h6, h7, h8, h9, hA a (Array.getElem?_eq_some_iff.mp h5).1⟩
theorem vx_isRef {C n d : String} {v : Value} {A : Nat → Prop} {s : State} {args : Array Value} (h : va_Z C n d v A s s.heap) (hv : v.isRef = true) : (Cond.isRef (.static C n d)).before args s = true := by
  obtain ⟨cf, kf, fi, f, a, cell, h1, h2, h3, h4, h5, h6, h7, -⟩ := h
  have he : (Term.static C n d).eval args s none [] s = some v := by
    simp [Term.eval, State.fieldNamed?, h1, h2, h4, h5, h6, h7]
  simp only [Cond.before, Cond.holds, Cond.value, he]
  cases v <;> simp_all [Value.isRef]
theorem vx_isRefq {C n d : String} {A : Nat → Prop} {s : State} {args : Array Value} (h : va_Zq C n d A s s.heap) : (Cond.isRef (.static C n d)).before args s = true := by
  rcases h with h | ⟨t, h⟩
  · exact vx_isRef h rfl
  · exact vx_isRef h rfl
/-- the same frame, seen from here: as if the method were called anew in this heap -/
theorem vx_rebase {T : State} (X : Stand p l e R s m args below meth c T locs cells slots) {R' : Room} (hf : R'.frames ≤ R.frames) (hl : R'.locals ≤ R.locals) (hc : cells + R'.cells ≤ R.cells) (hs : slots + R'.slots ≤ R.slots) :
    Stand p l e R' ((T.setVm s.vm).setFrames (.invoking m args :: below)) m args below meth c T [] 0 0 := by
  have htop : (T.setVm s.vm).topJava?.isSome := X.here.top
  have hF : ((T.setVm s.vm).setFrames (.invoking m args :: below)).frames = .invoking m args :: below := State.frames_setFrames _ (State.cur_lt_of_top htop)
  obtain ⟨g₀, hg0⟩ := Option.isSome_iff_exists.mp htop
  obtain ⟨r, hr⟩ := State.topJava?_eq_some.mp hg0
  have hl9 : e.platform.stackLimits (T.setVm s.vm).me = e.platform.stackLimits s.me := X.limits
  have hb9 : (T.setVm s.vm).me.stackBytes = s.me.stackBytes := X.bytes
  refine ⟨X.admits, X.cas, X.clock, hF, ?_, X.hears, X.method, X.code, X.here, X.tail, X.warmed, ?_, ?_, ?_⟩
  · have h := X.room
    have hU : ((T.setVm s.vm).setFrames (.invoking m args :: below)).localsInUse = s.localsInUse := by
      rw [State.localsInUse_invoking hF (meth := meth) (c := c) X.method X.code, State.localsInUse_invoking X.frames X.method X.code]
    simp only [State.hasRoom, Bool.and_eq_true, decide_eq_true_eq] at h ⊢
    obtain ⟨⟨⟨⟨h1, h2, h3, h4, h5, h6⟩, h7⟩, h8⟩, h9⟩ := h
    rw [X.frames, List.length_cons] at h2 h3
    have q1 := X.heapSize
    have q2 := X.used
    simp only [hF, hU, List.length_cons, State.stackLimits_setFrames, State.stackBytes_setFrames, hl9, hb9]
    refine ⟨⟨⟨⟨by omega, by omega, by omega, by omega, by omega, h6⟩, ?_⟩, ?_⟩, X.book⟩
    · show T.heap.size + R'.cells ≤ e.platform.maxCells
      omega
    · show T.slotsUsed + R'.slots ≤ e.platform.maxSlots
      omega
  · rw [State.stackLimits_setFrames]; rfl
  · rw [State.stackBytes_setFrames]; rfl
  · refine ⟨?_, Nat.le_refl _, Nat.le_refl _, ?_, ?_, fun a c9 h9 => ⟨c9, h9, rfl, rfl, fun _ _ => rfl⟩⟩
    · obtain ⟨t, ht, -⟩ := State.frames_cons hr
      show T.setVm s.vm = { ((T.setVm s.vm).setFrames (.invoking m args :: below)).setFrames (T.setVm s.vm).frames with heap := T.heap, slotsUsed := T.slotsUsed }
      rw [State.setFrames_setFrames, State.setFrames_self ht]
      rfl
    · show T.slotsUsed = T.slotsUsed + ((T.heap.toList.drop T.heap.size).map (·.slots.size)).sum
      rw [List.drop_eq_nil_of_le (Nat.le_of_eq Array.length_toList)]
      rfl
    · show ((T.heap.toList.drop T.heap.size).map (·.slots.size)).sum ≤ 0
      rw [List.drop_eq_nil_of_le (Nat.le_of_eq Array.length_toList)]
      exact Nat.le_refl _
/-- 'throw new E()': new; dup; invokespecial; athrow -/
theorem vx_throw0 {cc : ByteArray} {pc : Nat} (hexec : p.tables.exec = Jvm.exec) (hb : c.code = cc) (hl : l.stackTraces = false) {own cls : String} {names : List String} {ik ic mc ms : Nat} {A : Nat → Prop}
    (hown : s.vm.findClass own = some m.cls) (hcls : Bundle.fit cls = true) (hnames : ∀ n ∈ names, Bundle.fit n = true)
    (hk : (Cond.classLink own ik cls).before args s = true) (hini : (Cond.initialized cls).before args s = true) (hat : ∀ w ∈ vx_at0 own ic cls names, w.before args s = true)
    (hgood : ∀ w ∈ Cond.classLink own ik cls :: Cond.initialized cls :: vx_at0 own ic cls names, vx_ot w = true)
    (hU : vx_Zq Bundle.tN "UNASSIGNED_STACK" Bundle.steD A s s.heap) (hN : vx_Zq Bundle.tN "SUPPRESSED_SENTINEL" Bundle.listD A s s.heap) (hS : va_S A s.heap H locs) (hsize : ls.size = c.maxLocals)
    (d0 : decode cc pc = .ok (.new ik, 3)) (d3 : decode cc (pc + 3) = .ok (.dup, 1)) (d4 : decode cc (pc + 4) = .ok (.invokespecial ic, 3)) (d7 : decode cc (pc + 7) = .ok (.athrow, 1))
    (hout : ∀ x ∈ c.exceptionTable.toList, covers x (pc + 7) = false)
    (hRframes : names.length + 3 < R.frames) (hRlocals : (rest.map fun v => v.category).sum + (13 * (names.length + 1) + 42) ≤ R.locals) (hRcells : cells + 1 ≤ R.cells) (hRslots : slots + 6 ≤ R.slots) (hlocks : meth.locks = false)
    (hx : ∀ t : State, s.vm.Alike t.vm → H.size ≤ t.heap.size → (∀ q : Nat, q < H.size → t.heap[q]? = H[q]?) → XC cls s t)
    (hf : ∀ z ∈ locs, free z.base) (hc : cells + 1 ≤ mc) (hs : slots + 6 ≤ ms) :
    W p l e R s m args below meth c H locs cells slots (vx_MQ below Qc XC args s mc ms free) (F0 m pc ls rest) := by
  intro T hT X
  have htr : e.platform.stackTraces = false := (show e.platform.stackTraces = l.stackTraces by rw [X.admits.platform]).trans hl
  have Y := vx_rebase X (R' := { frames := R.frames, locals := R.locals, cells := 1, slots := 6 }) (Nat.le_refl _) (Nat.le_refl _) hRcells hRslots
  obtain ⟨s', hA⟩ : ∃ z, z = (T.setVm s.vm).setFrames (.invoking m args :: below) := ⟨_, rfl⟩
  rw [← hA] at Y
  have hvm : s'.vm = s.vm := by rw [hA]; rfl
  have hhp : s'.heap = H := by rw [hA]; exact hT
  have hW0 : s.WarmedH s'.vm := by rw [hvm]; exact State.WarmedH.refl s
  have hat' : ∀ w ∈ vx_at0 own ic cls names, w.before args s' = true := fun w hw => vx_ot_at hW0 hvm.symm (hgood w (List.mem_cons_of_mem _ (List.mem_cons_of_mem _ hw))) (hat w hw)
  have hk' : (Cond.classLink own ik cls).before args s' = true := vx_ot_at hW0 hvm.symm (hgood _ List.mem_cons_self) hk
  have hini' : (Cond.initialized cls).before args s' = true := vx_ot_at hW0 hvm.symm (hgood _ (List.mem_cons_of_mem _ List.mem_cons_self)) hini
  have hU' : vx_Zq Bundle.tN "UNASSIGNED_STACK" Bundle.steD A s' s'.heap := by rw [hhp]; exact vx_Zq.moved hW0.alike (hU.kept hS.2.1)
  have hN' : vx_Zq Bundle.tN "SUPPRESSED_SENTINEL" Bundle.listD A s' s'.heap := by rw [hhp]; exact vx_Zq.moved hW0.alike (hN.kept hS.2.1)
  have h : ∀ w ∈ Bundle.ownAtoms0 own ic cls names, w.before args s' = true := vx_own hat' (vx_isRefq hU'.1) (vx_isRefq hN'.1) hU'.2.word hN'.2.word
  have hown' : s'.vm.findClass own = some m.cls := by rw [hvm]; exact hown
  have hins : (Cond.instantiable cls 6).before args s' = true := h _ (by simp [Bundle.ownAtoms0])
  obtain ⟨vm₁, cX, kX, hfX, hkX, -, -, X₁, st1⟩ := Y.newCold hexec (own := own) (C := cls) (index := ik) (n := 6) hown' hk' hins hini'
    (g := F0 m pc ls rest) rfl (by rw [hb]; exact d0) (Nat.le_refl _) (Nat.le_refl _)
  generalize hT1 : (T.setVm vm₁).pushCell { cls := cX, slots := kX.instanceTypes.map defaultValue, vm := .none } = T1 at X₁ st1
  have hcat : (Value.ref T.heap.size).category = 1 := rfl
  have hcellA : T1.heap[T.heap.size]? = some (freshCell cX kX) := by rw [← hT1]; exact State.heap_pushCell_size _ _
  have d3' : decode c.code (pc + 3) = .ok (.dup, 1) := by rw [hb]; exact d3
  obtain ⟨U, hsteps, hrun, hend, hW, hsame, ce, hce, hO⟩ := X₁.ctorThrow0 hexec htr (own := own) (cls := cls) (names := names) (ic := ic) hown' hcls hnames h (fun x hx => nomatch hx) hfX hkX hcellA (by rw [hhp, hT]; exact Nat.le_refl _)
    (g := { method := m, pc := pc + 4, locals := ls, stack := .ref T.heap.size :: .ref T.heap.size :: rest, locked := none }) rfl hsize rfl rfl (rest := rest) rfl
    (by rw [hb]; exact d4) (by rw [hb]; exact d7) hout hRframes (by simp only [List.map_cons, List.sum_cons, hcat]; omega) hlocks
  obtain ⟨f1, f2⟩ := vx_frame hsame
  rw [hhp] at f1 f2
  have hWs : s.WarmedH U.vm := State.WarmedH.trans hW0 hW
  have hcl : s.vm.findClass cls = some ce.cls := by
    have h9 := hO.cls
    rw [hvm] at h9
    exact h9
  have hall : s.sameButNew ({ U with vm := s.vm } : State) locs mc ms := by
    subst hA
    obtain ⟨e1, e2⟩ := hsame
    rw [State.setFrames_setFrames] at e1
    have h2 : (T.setVm s.vm).sameButNew ({ U with vm := s.vm } : State) [] (0 + 1) (0 + 6) := ⟨e1, e2⟩
    have h3 := X.same.trans h2
    rw [List.append_nil] at h3
    exact h3.mono hc hs
  refine ⟨U, ?_, .threw T.heap.size, hrun, hend, Or.inr ⟨T.heap.size, rfl, cls, ce, locs, hx U hWs.alike f1 (fun q hq => f2 q hq (fun z hz => nomatch hz)), hce, hO.vm, hcl, hWs, hall, hf⟩⟩
  refine st1 _ ?_
  show Steps p.tables e below (T1.setTop { method := m, pc := pc + 3, locals := ls, stack := .ref T.heap.size :: rest, locked := none }) _
  jvm_step X₁.here [X₁.here.top, hexec, d3', Value.category]
  exact hsteps
/-- 'throw new E("text")': new; dup; ldc; invokespecial; athrow -/
theorem vx_throwS {cc : ByteArray} {pc : Nat} (hexec : p.tables.exec = Jvm.exec) (hb : c.code = cc) (hl : l.stackTraces = false) {own cls text : String} {names : List String} {ik is ic mc ms sa : Nat} {A : Nat → Prop}
    (hown : s.vm.findClass own = some m.cls) (hcls : Bundle.fit cls = true) (hnames : ∀ n ∈ names, Bundle.fit n = true)
    (hk : (Cond.classLink own ik cls).before args s = true) (hini : (Cond.initialized cls).before args s = true) (hstr : vk_R own is text sa s) (hat : ∀ w ∈ vx_atS own ic cls names, w.before args s = true)
    (hgood : ∀ w ∈ Cond.classLink own ik cls :: Cond.initialized cls :: vx_atS own ic cls names, vx_ot w = true)
    (hU : vx_Zq Bundle.tN "UNASSIGNED_STACK" Bundle.steD A s s.heap) (hN : vx_Zq Bundle.tN "SUPPRESSED_SENTINEL" Bundle.listD A s s.heap) (hS : va_S A s.heap H locs) (hsize : ls.size = c.maxLocals)
    (d0 : decode cc pc = .ok (.new ik, 3)) (d3 : decode cc (pc + 3) = .ok (.dup, 1)) (d4 : decode cc (pc + 4) = .ok (.ldc is, 2)) (d6 : decode cc (pc + 6) = .ok (.invokespecial ic, 3)) (d9 : decode cc (pc + 9) = .ok (.athrow, 1))
    (hout : ∀ x ∈ c.exceptionTable.toList, covers x (pc + 9) = false)
    (hRframes : names.length + 3 < R.frames) (hRlocals : (rest.map fun v => v.category).sum + (13 * (names.length + 1) + 43) ≤ R.locals) (hRcells : cells + 1 ≤ R.cells) (hRslots : slots + 6 ≤ R.slots) (hlocks : meth.locks = false)
    (hx : ∀ t : State, s.vm.Alike t.vm → H.size ≤ t.heap.size → (∀ q : Nat, q < H.size → t.heap[q]? = H[q]?) → XC cls s t)
    (hf : ∀ z ∈ locs, free z.base) (hc : cells + 1 ≤ mc) (hs : slots + 6 ≤ ms) :
    W p l e R s m args below meth c H locs cells slots (vx_MQ below Qc XC args s mc ms free) (F0 m pc ls rest) := by
  intro T hT X
  have htr : e.platform.stackTraces = false := (show e.platform.stackTraces = l.stackTraces by rw [X.admits.platform]).trans hl
  have Y := vx_rebase X (R' := { frames := R.frames, locals := R.locals, cells := 1, slots := 6 }) (Nat.le_refl _) (Nat.le_refl _) hRcells hRslots
  obtain ⟨s', hA⟩ : ∃ z, z = (T.setVm s.vm).setFrames (.invoking m args :: below) := ⟨_, rfl⟩
  rw [← hA] at Y
  have hvm : s'.vm = s.vm := by rw [hA]; rfl
  have hhp : s'.heap = H := by rw [hA]; exact hT
  have hW0 : s.WarmedH s'.vm := by rw [hvm]; exact State.WarmedH.refl s
  have hat' : ∀ w ∈ vx_atS own ic cls names, w.before args s' = true := fun w hw => vx_ot_at hW0 hvm.symm (hgood w (List.mem_cons_of_mem _ (List.mem_cons_of_mem _ hw))) (hat w hw)
  have hk' : (Cond.classLink own ik cls).before args s' = true := vx_ot_at hW0 hvm.symm (hgood _ List.mem_cons_self) hk
  have hini' : (Cond.initialized cls).before args s' = true := vx_ot_at hW0 hvm.symm (hgood _ (List.mem_cons_of_mem _ List.mem_cons_self)) hini
  have hU' : vx_Zq Bundle.tN "UNASSIGNED_STACK" Bundle.steD A s' s'.heap := by rw [hhp]; exact vx_Zq.moved hW0.alike (hU.kept hS.2.1)
  have hN' : vx_Zq Bundle.tN "SUPPRESSED_SENTINEL" Bundle.listD A s' s'.heap := by rw [hhp]; exact vx_Zq.moved hW0.alike (hN.kept hS.2.1)
  have h : ∀ w ∈ Bundle.ownAtoms own ic cls names, w.before args s' = true := vx_own hat' (vx_isRefq hU'.1) (vx_isRefq hN'.1) hU'.2.word hN'.2.word
  have hown' : s'.vm.findClass own = some m.cls := by rw [hvm]; exact hown
  have hins : (Cond.instantiable cls 6).before args s' = true := h _ (by simp [Bundle.ownAtoms])
  obtain ⟨vm₁, cX, kX, hfX, hkX, -, -, X₁, st1⟩ := Y.newCold hexec (own := own) (C := cls) (index := ik) (n := 6) hown' hk' hins hini'
    (g := F0 m pc ls rest) rfl (by rw [hb]; exact d0) (Nat.le_refl _) (Nat.le_refl _)
  generalize hT1 : (T.setVm vm₁).pushCell { cls := cX, slots := kX.instanceTypes.map defaultValue, vm := .none } = T1 at X₁ st1
  have hcat : (Value.ref T.heap.size).category = 1 := rfl
  have hcellA : T1.heap[T.heap.size]? = some (freshCell cX kX) := by rw [← hT1]; exact State.heap_pushCell_size _ _
  have d3' : decode c.code (pc + 3) = .ok (.dup, 1) := by rw [hb]; exact d3
  have d4' : decode c.code (pc + 4) = .ok (.ldc is, 2) := by rw [hb]; exact d4
  have hstr' : vk_R own is text sa s' := vk_R.warm hW0 hstr
  obtain ⟨U, hsteps, hrun, hend, hW, hsame, ce, hce, hO⟩ := X₁.ctorThrowS hexec htr (own := own) (cls := cls) (names := names) (ic := ic) hown' hcls hnames h (fun x hx => nomatch hx) hfX hkX hcellA (by rw [hhp, hT]; exact Nat.le_refl _) (msg := .ref sa) rfl
    (g := { method := m, pc := pc + 6, locals := ls, stack := .ref sa :: .ref T.heap.size :: .ref T.heap.size :: rest, locked := none }) rfl hsize rfl rfl (rest := rest) rfl
    (by rw [hb]; exact d6) (by rw [hb]; exact d9) hout hRframes (by simp only [List.map_cons, List.sum_cons, hcat]; omega) hlocks
  obtain ⟨f1, f2⟩ := vx_frame hsame
  rw [hhp] at f1 f2
  have hWs : s.WarmedH U.vm := State.WarmedH.trans hW0 hW
  have hcl : s.vm.findClass cls = some ce.cls := by
    have h9 := hO.cls
    rw [hvm] at h9
    exact h9
  have hall : s.sameButNew ({ U with vm := s.vm } : State) locs mc ms := by
    subst hA
    obtain ⟨e1, e2⟩ := hsame
    rw [State.setFrames_setFrames] at e1
    have h2 : (T.setVm s.vm).sameButNew ({ U with vm := s.vm } : State) [] (0 + 1) (0 + 6) := ⟨e1, e2⟩
    have h3 := X.same.trans h2
    rw [List.append_nil] at h3
    exact h3.mono hc hs
  refine ⟨U, ?_, .threw T.heap.size, hrun, hend, Or.inr ⟨T.heap.size, rfl, cls, ce, locs, hx U hWs.alike f1 (fun q hq => f2 q hq (fun z hz => nomatch hz)), hce, hO.vm, hcl, hWs, hall, hf⟩⟩
  refine st1 _ ?_
  show Steps p.tables e below (T1.setTop { method := m, pc := pc + 3, locals := ls, stack := .ref T.heap.size :: rest, locked := none }) _
  jvm_step X₁.here [X₁.here.top, hexec, d3', Value.category]
  exact X₁.ldcString hexec (own := own) (text := text) (index := is) (a := sa) hown' hstr'.1 hstr'.2
    (g := { method := m, pc := pc + 4, locals := ls, stack := .ref T.heap.size :: .ref T.heap.size :: rest, locked := none }) rfl d4' _ hsteps
/-- 'throw new E("text")', the text by a wide index -/
theorem vx_throwSW {cc : ByteArray} {pc : Nat} (hexec : p.tables.exec = Jvm.exec) (hb : c.code = cc) (hl : l.stackTraces = false) {own cls text : String} {names : List String} {ik is ic mc ms sa : Nat} {A : Nat → Prop}
    (hown : s.vm.findClass own = some m.cls) (hcls : Bundle.fit cls = true) (hnames : ∀ n ∈ names, Bundle.fit n = true)
    (hk : (Cond.classLink own ik cls).before args s = true) (hini : (Cond.initialized cls).before args s = true) (hstr : vk_R own is text sa s) (hat : ∀ w ∈ vx_atS own ic cls names, w.before args s = true)
    (hgood : ∀ w ∈ Cond.classLink own ik cls :: Cond.initialized cls :: vx_atS own ic cls names, vx_ot w = true)
    (hU : vx_Zq Bundle.tN "UNASSIGNED_STACK" Bundle.steD A s s.heap) (hN : vx_Zq Bundle.tN "SUPPRESSED_SENTINEL" Bundle.listD A s s.heap) (hS : va_S A s.heap H locs) (hsize : ls.size = c.maxLocals)
    (d0 : decode cc pc = .ok (.new ik, 3)) (d3 : decode cc (pc + 3) = .ok (.dup, 1)) (d4 : decode cc (pc + 4) = .ok (.ldc_w is, 3)) (d7 : decode cc (pc + 7) = .ok (.invokespecial ic, 3)) (d10 : decode cc (pc + 10) = .ok (.athrow, 1))
    (hout : ∀ x ∈ c.exceptionTable.toList, covers x (pc + 10) = false)
    (hRframes : names.length + 3 < R.frames) (hRlocals : (rest.map fun v => v.category).sum + (13 * (names.length + 1) + 43) ≤ R.locals) (hRcells : cells + 1 ≤ R.cells) (hRslots : slots + 6 ≤ R.slots) (hlocks : meth.locks = false)
    (hx : ∀ t : State, s.vm.Alike t.vm → H.size ≤ t.heap.size → (∀ q : Nat, q < H.size → t.heap[q]? = H[q]?) → XC cls s t)
    (hf : ∀ z ∈ locs, free z.base) (hc : cells + 1 ≤ mc) (hs : slots + 6 ≤ ms) :
    W p l e R s m args below meth c H locs cells slots (vx_MQ below Qc XC args s mc ms free) (F0 m pc ls rest) := by
  intro T hT X
  have htr : e.platform.stackTraces = false := (show e.platform.stackTraces = l.stackTraces by rw [X.admits.platform]).trans hl
  have Y := vx_rebase X (R' := { frames := R.frames, locals := R.locals, cells := 1, slots := 6 }) (Nat.le_refl _) (Nat.le_refl _) hRcells hRslots
  obtain ⟨s', hA⟩ : ∃ z, z = (T.setVm s.vm).setFrames (.invoking m args :: below) := ⟨_, rfl⟩
  rw [← hA] at Y
  have hvm : s'.vm = s.vm := by rw [hA]; rfl
  have hhp : s'.heap = H := by rw [hA]; exact hT
  have hW0 : s.WarmedH s'.vm := by rw [hvm]; exact State.WarmedH.refl s
  have hat' : ∀ w ∈ vx_atS own ic cls names, w.before args s' = true := fun w hw => vx_ot_at hW0 hvm.symm (hgood w (List.mem_cons_of_mem _ (List.mem_cons_of_mem _ hw))) (hat w hw)
  have hk' : (Cond.classLink own ik cls).before args s' = true := vx_ot_at hW0 hvm.symm (hgood _ List.mem_cons_self) hk
  have hini' : (Cond.initialized cls).before args s' = true := vx_ot_at hW0 hvm.symm (hgood _ (List.mem_cons_of_mem _ List.mem_cons_self)) hini
  have hU' : vx_Zq Bundle.tN "UNASSIGNED_STACK" Bundle.steD A s' s'.heap := by rw [hhp]; exact vx_Zq.moved hW0.alike (hU.kept hS.2.1)
  have hN' : vx_Zq Bundle.tN "SUPPRESSED_SENTINEL" Bundle.listD A s' s'.heap := by rw [hhp]; exact vx_Zq.moved hW0.alike (hN.kept hS.2.1)
  have h : ∀ w ∈ Bundle.ownAtoms own ic cls names, w.before args s' = true := vx_own hat' (vx_isRefq hU'.1) (vx_isRefq hN'.1) hU'.2.word hN'.2.word
  have hown' : s'.vm.findClass own = some m.cls := by rw [hvm]; exact hown
  have hins : (Cond.instantiable cls 6).before args s' = true := h _ (by simp [Bundle.ownAtoms])
  obtain ⟨vm₁, cX, kX, hfX, hkX, -, -, X₁, st1⟩ := Y.newCold hexec (own := own) (C := cls) (index := ik) (n := 6) hown' hk' hins hini'
    (g := F0 m pc ls rest) rfl (by rw [hb]; exact d0) (Nat.le_refl _) (Nat.le_refl _)
  generalize hT1 : (T.setVm vm₁).pushCell { cls := cX, slots := kX.instanceTypes.map defaultValue, vm := .none } = T1 at X₁ st1
  have hcat : (Value.ref T.heap.size).category = 1 := rfl
  have hcellA : T1.heap[T.heap.size]? = some (freshCell cX kX) := by rw [← hT1]; exact State.heap_pushCell_size _ _
  have d3' : decode c.code (pc + 3) = .ok (.dup, 1) := by rw [hb]; exact d3
  have d4' : decode c.code (pc + 4) = .ok (.ldc_w is, 3) := by rw [hb]; exact d4
  have hstr' : vk_R own is text sa s' := vk_R.warm hW0 hstr
  obtain ⟨U, hsteps, hrun, hend, hW, hsame, ce, hce, hO⟩ := X₁.ctorThrowS hexec htr (own := own) (cls := cls) (names := names) (ic := ic) hown' hcls hnames h (fun x hx => nomatch hx) hfX hkX hcellA (by rw [hhp, hT]; exact Nat.le_refl _) (msg := .ref sa) rfl
    (g := { method := m, pc := pc + 7, locals := ls, stack := .ref sa :: .ref T.heap.size :: .ref T.heap.size :: rest, locked := none }) rfl hsize rfl rfl (rest := rest) rfl
    (by rw [hb]; exact d7) (by rw [hb]; exact d10) hout hRframes (by simp only [List.map_cons, List.sum_cons, hcat]; omega) hlocks
  obtain ⟨f1, f2⟩ := vx_frame hsame
  rw [hhp] at f1 f2
  have hWs : s.WarmedH U.vm := State.WarmedH.trans hW0 hW
  have hcl : s.vm.findClass cls = some ce.cls := by
    have h9 := hO.cls
    rw [hvm] at h9
    exact h9
  have hall : s.sameButNew ({ U with vm := s.vm } : State) locs mc ms := by
    subst hA
    obtain ⟨e1, e2⟩ := hsame
    rw [State.setFrames_setFrames] at e1
    have h2 : (T.setVm s.vm).sameButNew ({ U with vm := s.vm } : State) [] (0 + 1) (0 + 6) := ⟨e1, e2⟩
    have h3 := X.same.trans h2
    rw [List.append_nil] at h3
    exact h3.mono hc hs
  refine ⟨U, ?_, .threw T.heap.size, hrun, hend, Or.inr ⟨T.heap.size, rfl, cls, ce, locs, hx U hWs.alike f1 (fun q hq => f2 q hq (fun z hz => nomatch hz)), hce, hO.vm, hcl, hWs, hall, hf⟩⟩
  refine st1 _ ?_
  show Steps p.tables e below (T1.setTop { method := m, pc := pc + 3, locals := ls, stack := .ref T.heap.size :: rest, locked := none }) _
  jvm_step X₁.here [X₁.here.top, hexec, d3', Value.category]
  exact X₁.ldcStringW hexec (own := own) (text := text) (index := is) (a := sa) hown' hstr'.1 hstr'.2
    (g := { method := m, pc := pc + 4, locals := ls, stack := .ref T.heap.size :: .ref T.heap.size :: rest, locked := none }) rfl d4' _ hsteps
end Ends
section Bodies
variable {l : Launch}
theorem vx_ofW {y : MethodName} {ws ws' : List Cond} {rm : Room} {Pc : Array Value → State → Prop} {Qc : Array Value → State → Outcome → State → Prop} {XC : String → State → State → Prop} {mc ms : Nat} {free : Addr → Prop} {cc : ByteArray} {maxL : Nat} {ret : Option FieldType}
    (hy : plainName y.cls = true) (hw : ws = Cond.code y cc maxL ret :: ws')
    (body : ∀ p e s m args below meth c s₁, BodyLoose p l y (headSpec ws rm) cc maxL ret e s m args below meth c s₁ → c.maxLocals = maxL → (∀ x ∈ c.exceptionTable.toList, False) → Pc args s →
      W p l e (headSpec ws rm).room s m args below meth c s.heap [] 0 0 (vx_MQ below Qc XC args s mc ms free) (entryFrame m args maxL)) : vx_Met l y ws rm Pc Qc XC mc ms free := by
  refine MetFree.of_bodyS (code := cc) (maxLocals := maxL) (ret := ret) hy ?_ ?_
  · intro args s m h hn
    obtain ⟨meth, c, h1, h2, h3, h4, h5, h6, -, -⟩ := Cond.code_spec hn (atoms_spec (ws := ws) h _ (by rw [hw]; exact List.mem_cons_self))
    exact ⟨meth, c, h1, h2, h3, h4, h5, h6⟩
  · intro p e s m args below meth c s₁ B hml hP _
    have hh0 : s₁.heap = s.heap := by rw [B.state]; rfl
    have ht : ∀ x ∈ c.exceptionTable.toList, False := by
      obtain ⟨meth9, c9, h1, h2, -, -, -, -, h7, -⟩ := Cond.code_spec B.named (atoms_spec (ws := ws) B.pre _ (by rw [hw]; exact List.mem_cons_self))
      cases Option.some.inj (h1.symm.trans B.method)
      cases Option.some.inj (h2.symm.trans (Stand.of_body B).code)
      intro x hx
      rw [Array.isEmpty_iff.mp h7] at hx
      cases hx
    obtain ⟨t, a1, o, b1, b2, b3⟩ := body p e s m args below meth c s₁ B hml ht hP s₁ hh0 (Stand.of_body B)
    exact ⟨t, o, a1, b1, b2, b3⟩
/-- the table of a body with handlers -/
theorem vx_table {p : Program} {x y : MethodName} {S : Spec} {cc bytes : ByteArray} {maxL maxL' : Nat} {ret ret' : Option FieldType} {e : Env} {s s₁ : State} {m : MethodId} {args : Array Value} {below : List Frame} {meth : Method} {c : Code} {hh : List (Nat × Nat × Nat × Nat)}
    (B : BodyLoose p l y S cc maxL ret e s m args below meth c s₁) (h : (Cond.codeWith y bytes maxL' ret' hh).before args s = true) : c.exceptionTable.toList = tableOf hh := by
  obtain ⟨m9, meth9, c9, hn9, h1, h2, -, -, h6, -⟩ := Cond.codeWith_spec h
  cases Option.some.inj (hn9.symm.trans B.named)
  cases Option.some.inj (h1.symm.trans B.method)
  cases Option.some.inj (h2.symm.trans (Stand.of_body B).code)
  rw [← h6, table_eq]
end Bodies
end VXA
/-! ===== END ===== -/
/-! ===== BEGIN a static call of a method with an exception table ===== -/
section VXS
variable {p : Program} {l : Launch} {e : Env} {R : Room} {s : State} {m : MethodId} {args : Array Value} {below : List Frame} {meth : Method} {c : Code} {T : State} {H : Heap} {locs : List Loc} {cells slots : Nat}
abbrev vx_CSW (R : Room) (s : State) (args : Array Value) (own : String) (index : Nat) (y : MethodName) (bytes : ByteArray) (maxL : Nat) (ret : Option FieldType) (hh : List (Nat × Nat × Nat × Nat)) (ws : List Cond) (rm : Room) (mc ms n : Nat) : Prop :=
  (rm.cells = mc ∧ rm.slots = ms ∧ rm.frames + 1 ≤ R.frames ∧ 8 + (maxL + 11) + rm.locals ≤ R.locals ∧ (∀ w ∈ ws, ∀ (a' : Array Value) (U : State), s.WarmedH U.vm → w.before a' U = true) ∧ Cond.codeWith y bytes maxL ret hh ∈ ws) ∧
  (Cond.codeWith y bytes maxL ret hh).before args s = true ∧ (Cond.initialized y.cls).before args s = true ∧ (y.cls ≠ "java/lang/invoke/MethodHandle" ∧ y.cls ≠ "java/lang/invoke/VarHandle") ∧
  (∀ sig, parseMethodDescriptor y.desc = some sig → n = sig.parameters.length) ∧ (Cond.methodLink own index y).before args s = true ∧ (Cond.static y).before args s = true
theorem vx_cwSW {own : String} {index maxL mc ms : Nat} {y : MethodName} {bytes : ByteArray} {ret : Option FieldType} {hh : List (Nat × Nat × Nat × Nat)} {Ts ws ws' : List Cond} {rm : Room} (n : Nat) (ht : ∀ w ∈ Ts, w.before args s = true) (hT : GoodIn Ts (va_wsS own index y ws)) (hw : ws = Cond.codeWith y bytes maxL ret hh :: ws') (hrc : rm.cells = mc) (hrs : rm.slots = ms)
    (hd : y.cls ≠ "java/lang/invoke/MethodHandle" ∧ y.cls ≠ "java/lang/invoke/VarHandle" ∧ (parseMethodDescriptor y.desc).map (fun d => d.parameters.length) = some n) (hR : rm.frames + 1 ≤ R.frames ∧ 8 + (maxL + 11) + rm.locals ≤ R.locals) :
    vx_CSW R s args own index y bytes maxL ret hh ws rm mc ms n := by
  have ok : ∀ w ∈ va_wsS own index y ws, w.before args s = true := fun w h => ht w (hT w h).1
  have hG : GoodIn Ts ws := fun w h => hT w (by unfold va_wsS; exact List.mem_append_right _ h)
  have hc : Cond.codeWith y bytes maxL ret hh ∈ ws := by rw [hw]; exact List.mem_cons_self
  refine ⟨⟨hrc, hrs, hR.1, hR.2, pay_in ht hG, hc⟩, ht _ (hG _ hc).1, ok _ (by simp [va_wsS]), ⟨hd.1, hd.2.1⟩, fun sig h => ?_, ok _ (by simp [va_wsS]), ok _ (by simp [va_wsS])⟩
  have h2 := hd.2.2
  rw [h] at h2
  exact (Option.some.inj h2).symm
theorem vx_callSW (X : Stand p l e R s m args below meth c T locs cells slots) (hexec : p.tables.exec = Jvm.exec) {own : String} {index : Nat} {y : MethodName} {bytes : ByteArray} {maxL : Nat} {ret : Option FieldType} {hh : List (Nat × Nat × Nat × Nat)}
    (hown : s.vm.findClass own = some m.cls) (hlink : (Cond.methodLink own index y).before args s = true) (hstat : (Cond.static y).before args s = true) (hinit : (Cond.initialized y.cls).before args s = true)
    (hcode : (Cond.codeWith y bytes maxL ret hh).before args s = true) (hy : y.cls ≠ "java/lang/invoke/MethodHandle" ∧ y.cls ≠ "java/lang/invoke/VarHandle")
    {W9 : Nat} {Pre : Pt → Array Value → Prop} {Post : Pt → Array Value → Option Value → Pt → Prop} (hK : Back l R p e below s args y 3 W9 Pre Post)
    {g : JFrame} (hg : g.method = m) (hsize : g.locals.size = c.maxLocals) {argsL rest : List Value} (hlen : ∀ sig, parseMethodDescriptor y.desc = some sig → argsL.length = sig.parameters.length)
    (hstack : g.stack = argsL.reverse ++ rest) (hW : 2 * g.monitorRoom + (rest.map fun v => v.category).sum ≤ W9) (hdg : decode c.code g.pc = .ok (.invokestatic index, 3))
    (hpre : ∀ vm₁, s.WarmedH vm₁ → Pre ⟨T.setVm vm₁, locs, cells, slots⟩ argsL.toArray) :
    ∃ (v : Option Value) (vm₁ : Vm) (B : Pt), s.WarmedH vm₁ ∧ Stand p l e R s m args below meth c B.U B.locs B.cells B.slots ∧ Post ⟨T.setVm vm₁, locs, cells, slots⟩ argsL.toArray v B ∧
      ∀ target, Steps p.tables e below (B.U.setTop { g with pc := g.pc + 3, stack := v.toList ++ rest }) target → Steps p.tables e below (T.setTop g) target := by
  obtain ⟨mk, methM, cM, hnamed, hmethM, -, -, -, -, -, -, hsigM⟩ := Cond.codeWith_spec hcode
  have hstatic : methM.isStatic = true := Cond.static_spec hnamed hmethM hstat
  obtain ⟨kP, hkP, -⟩ := className_of_methodNamed hnamed
  have hinitP : kP.init = .initialized := Cond.initialized_spec (findClass_of_methodNamed hnamed) hkP hinit
  obtain ⟨vm₁, X₁, hstep₁⟩ := X.invokestatic hexec hown hlink hnamed hmethM hstatic hkP hinitP hy (g := g) hg (argsL := argsL) (rest := rest) (hlen _ hsigM) hstack hdg
  obtain ⟨v, B, X', hpost, hsteps⟩ := hK m meth c ⟨T.setVm vm₁, locs, cells, slots⟩ { g with stack := rest } (.invokestatic index) mk argsL.toArray X₁ hg hsize hdg hW (X₁.named hnamed) (hpre vm₁ X₁.warmed)
  exact ⟨v, vm₁, B, X₁.warmed, X', hpost, fun target h => hstep₁ _ fun acts => by rw [doInvoke_state]; exact hsteps.trans h⟩
theorem vx_runSW {y : MethodName} {bytes cc : ByteArray} {maxL nL mc ms n index : Nat} {ret : Option FieldType} {hh : List (Nat × Nat × Nat × Nat)} {ws : List Cond} {rm : Room} {Pc : Array Value → State → Prop} {Qc : Array Value → State → Outcome → State → Prop} {free : Addr → Prop} {Ts : List Cond} {own : String} {As rest : List Value} {g : JFrame}
    (S : CallFix p m c cc nL s args Ts own) (hM : Met l y ws rm Pc Qc mc ms free) (cw : vx_CSW R s args own index y bytes maxL ret hh ws rm mc ms n) (hp : PreS s H Pc As)
    (hg : g.method = m) (hn : As.length = n) (hsize : g.locals.size = nL) (hstack : g.stack = As.reverse ++ rest) (hW : 2 * g.monitorRoom + (rest.map fun v => v.category).sum ≤ 8) (hdg : decode cc g.pc = .ok (.invokestatic index, 3)) (hf : cells + mc ≤ R.cells ∧ slots + ms ≤ R.slots) :
    va_Run p l e R s m args below meth c H locs cells slots mc ms g rest (Qc As.toArray) (free) := by
  obtain ⟨⟨hrc, hrs, hfr, hlo, hws, hcw⟩, hcode, hini, hy, hlen, hl, hstt⟩ := cw
  have hK : Back l R p e below s args y 3 8 (PreOf R mc ms Pc) (PostOf Qc mc ms free) := va_backW (hh := hh) (bytes := bytes) (maxL := maxL) (ret := ret) hM hp.1 hrc hrs hfr hlo hws hcw (fun a' U hW => word_at hW (Or.inl (by first | rfl | simp [Cond.onTables, Cond.keeps, Cond.steady])) hini)
  obtain ⟨hx, hb, hml, ho, -⟩ := S
  intro T hT X
  obtain ⟨v, vm₁, ⟨U', l2, c2, s2⟩, hW₁, X', ⟨g', mk, t, L, e1, e2, hq, h1, hL, h2, h3⟩, st⟩ := vx_callSW X hx (hh := hh) (bytes := bytes) (maxL := maxL) (ret := ret) ho hl hstt hini hcode hy hK hg (hsize.trans hml.symm) (argsL := As) (rest := rest) (fun sig h => hn.trans (hlen sig h)) hstack hW (by rw [hb]; exact hdg)
    (fun vm₁ hW₁ => ⟨hf.1, hf.2, hp.2 (T.setVm vm₁) hT hW₁⟩)
  dsimp only [Pt.U, Pt.locs, Pt.cells, Pt.slots] at X' e1 e2 h1 h2 h3 st
  subst h1; subst h2; subst h3
  exact ⟨v, (T.setVm vm₁).calling g' mk As.toArray, t, U', L, hT, X', hL, e1, e2, hq, st⟩
/-- a thing of a world lies in the heap -/
theorem vx_lt {D : va_G} {cl : List vw_C} {ws : va_W} {H1 : Heap} (h : va_P D cl ws H1) {k : Nat} {q : Nat × va_E} (hk : ws[k]? = some q) : q.1 < H1.size := (h k q hk).lt
end VXS
/-! ===== END ===== -/
/-! ===== BEGIN methods with a table of their own: called by a name, returning or throwing ===== -/
section VXH
/-! vx_backW, vx_callVX, vx_callSX, vx_callVW, vx_runVW, vx_runVX, vx_runSX, vx_ofWH follow the same proofs as their sisters above (Free/Laws.lean, Shelf42/LK1.lean); vx_outP calls Shelf42/NT130.lean (outThrough). -/
section
variable {l : Launch} {R : Room} {p : Program} {e : Env} {below : List Frame} {s : State} {sargs : Array Value} {y : MethodName} {len W9 : Nat}
theorem vx_backW {ws : List Cond} {rm : Room} {Pc : Array Value → State → Prop} {Qc : Array Value → State → Outcome → State → Prop} {XC : String → State → State → Prop} {mc ms : Nat} {free : Addr → Prop} {bytes : ByteArray} {maxL : Nat} {ret : Option FieldType} {hh : List (Nat × Nat × Nat × Nat)}
    (hM : vx_Met l y ws rm Pc Qc XC mc ms free) (hblind : FrameBlind Pc) (hrc : rm.cells = mc) (hrs : rm.slots = ms)
    (hframes : rm.frames + 1 ≤ R.frames) (hlocals : W9 + (maxL + 11) + rm.locals ≤ R.locals)
    (hws : ∀ w ∈ ws, ∀ a' U, s.WarmedH U.vm → w.before a' U = true) (hcode : Cond.codeWith y bytes maxL ret hh ∈ ws) (hinit : ∀ a' U, s.WarmedH U.vm → (Cond.initialized y.cls).before a' U = true) :
    vx_Back l R p e below s sargs y len W9 (PreOf R mc ms Pc) (PostOf Qc mc ms free) (vx_Post XC mc ms free) := by
  intro m meth c A g ig mk a X hg hsize hdg hW hn hp
  have h1 : (headSpec ws rm).pre.before a A.U = true := atoms_intro fun w hw => hws w hw _ _ X.warmed
  have h2 : (Cond.codeWith y bytes maxL ret hh).before a A.U = true := hws _ hcode _ _ X.warmed
  have h3 : (Cond.initialized y.cls).before a A.U = true := hinit _ _ X.warmed
  have h4 : A.cells + (headSpec ws rm).room.cells ≤ R.cells := by rw [show (headSpec ws rm).room.cells = mc from hrc]; exact hp.1
  have h5 : A.slots + (headSpec ws rm).room.slots ≤ R.slots := by rw [show (headSpec ws rm).room.slots = ms from hrs]; exact hp.2.1
  have hPc : Pc a (A.U.calling g mk a) := hblind _ _ _ _ hp.2.2
  obtain ⟨U, Ls, c0, s0⟩ := A
  dsimp only [Pt.U, Pt.locs, Pt.cells, Pt.slots] at h1 h2 h3 h4 h5 X hn hPc ⊢
  obtain ⟨m9, methY, cY, hn9, hmY, hcY, -, hlY, -⟩ := Cond.codeWith_spec h2
  cases Option.some.inj (hn9.symm.trans hn)
  obtain ⟨kY, hkY, -⟩ := className_of_methodNamed hn
  have hinitY : kY.init = .initialized := Cond.initialized_spec (findClass_of_methodNamed hn) hkY h3
  have h : At U g.method c below := by rw [hg]; exact X.here
  have hlocals9 : W9 + (maxL + 11) + (headSpec ws rm).room.locals ≤ R.locals := hlocals
  have happ : (headSpec ws rm).appliesLoose y e.platform (U.calling g mk a) = true :=
    Spec.appliesLoose_calling (g := g) h hdg hn hkY hinitY
      (X.room_calling (g := g) (R' := (headSpec ws rm).room) hsize hmY hcY hframes (by rw [hlY]; omega) h4 h5) h1
  obtain ⟨mid, hmid⟩ := h.above
  have hfr : (U.setTop g).frames = (.java g :: mid) ++ below := by rw [State.frames_setTop' g h.top, hmid]; rfl
  obtain ⟨o, s₂, hsteps, -, hend, hq⟩ := Steps.callFree hM p X.admits X.cas X.clock (acts := []) hfr happ hPc trivial
  have hq' : vx_Q Qc XC mc ms free a (U.calling g mk a) o s₂ := hq
  rw [State.frames_setTop' g h.top] at hend
  obtain ⟨g₀, hg0⟩ := Option.isSome_iff_exists.mp h.top
  obtain ⟨r, hr⟩ := State.topJava?_eq_some.mp hg0
  have hr' : (({ U with heap := s₂.heap, slotsUsed := s₂.slotsUsed } : State).setVm s₂.vm).frames = .java g₀ :: r := hr
  rcases hq' with ⟨hqc, L, hfe, hL⟩ | ⟨q, rfl, E, ce, L, hx, hce, hcv, hcl, hW₂, hsm, hL⟩
  · obtain ⟨⟨v, rfl⟩, hW₂, e2, q2, q3, q4, q5, q6⟩ := id hfe
    have e3 : s₂ = ({ (U.calling g mk a).setFrames s₂.frames with heap := s₂.heap, slotsUsed := s₂.slotsUsed } : State).setVm s₂.vm := by
      have : s₂ = ({ s₂ with vm := (U.calling g mk a).vm } : State).setVm s₂.vm := rfl
      rw [e2] at this
      exact this
    obtain ⟨c₂, i₂, len₂, hc₂, hd₂, hf₂⟩ := hend
    have hW' : U.WarmedH s₂.vm := hW₂
    have hcc : c₂ = c := by
      have h1 : s₂.code? g.method = U.code? g.method := by
        rw [State.code?_eq, State.code?_eq, hW'.alike.method?]
      exact Option.some.inj (hc₂.symm.trans (h1.trans h.code))
    subst hcc
    have hlen : len₂ = len := by rw [hdg] at hd₂; cases hd₂; rfl
    subst hlen
    have hs₂ : s₂ = (({ U with heap := s₂.heap, slotsUsed := s₂.slotsUsed } : State).setVm s₂.vm).setTop { g with pc := g.pc + len₂, stack := v.toList ++ g.stack } := by
      refine e3.trans ?_
      rw [hf₂, State.calling_eq h.top, State.setFrames_setFrames, State.setTop_of_frames _ hr', hr]
      rfl
    have hsame : U.sameButNew ({ U with heap := s₂.heap, slotsUsed := s₂.slotsUsed } : State) L mc ms := by
      refine ⟨?_, q2, q3, q4, q5, q6⟩
      obtain ⟨t, ht, -⟩ := State.frames_cons hr
      show ({ U with heap := s₂.heap, slotsUsed := s₂.slotsUsed } : State) = { U.setFrames U.frames with heap := s₂.heap, slotsUsed := s₂.slotsUsed }
      rw [State.setFrames_self ht]
    subst hg
    refine Or.inl ⟨v, ⟨(({ U with heap := s₂.heap, slotsUsed := s₂.slotsUsed } : State).setVm s₂.vm), Ls ++ L, c0 + mc, s0 + ms⟩,
      ⟨X.admits, X.cas, X.clock, X.frames, X.room, X.hears, X.method, X.code, (X.here.setHeapUsed s₂.heap s₂.slotsUsed).setVm hW'.alike, X.tail, State.WarmedH.trans X.warmed hW', X.limits, X.bytes, X.same.trans (hsame.setVm s.vm)⟩,
      ⟨g, mk, s₂, L, rfl, rfl, hqc, rfl, hL, rfl, rfl⟩, ?_⟩
    show Steps p.tables e below _ ((({ U with heap := s₂.heap, slotsUsed := s₂.slotsUsed } : State).setVm s₂.vm).setTop { g with pc := g.pc + len₂, stack := v.toList ++ g.stack })
    rw [← hs₂]
    exact hsteps
  · obtain ⟨e2, q2, q3, q4, q5, q6⟩ := id hsm
    have e3 : s₂ = ({ (U.calling g mk a).setFrames s₂.frames with heap := s₂.heap, slotsUsed := s₂.slotsUsed } : State).setVm s₂.vm := by
      have : s₂ = ({ s₂ with vm := (U.calling g mk a).vm } : State).setVm s₂.vm := rfl
      rw [e2] at this
      exact this
    have hf₂ : s₂.frames = .throwing q :: .java g :: U.frames.tail := hend
    have hW' : U.WarmedH s₂.vm := hW₂
    have hs₂ : s₂ = ((({ U with heap := s₂.heap, slotsUsed := s₂.slotsUsed } : State).setVm s₂.vm).setTop g).pushFrame (.throwing q) := by
      refine e3.trans ?_
      rw [hf₂, State.calling_eq h.top, State.setFrames_setFrames, State.pushFrame, State.frames_setTop _ hr', State.setTop_of_frames _ hr', State.setFrames_setFrames, hr]
      rfl
    have hsame : U.sameButNew ({ U with heap := s₂.heap, slotsUsed := s₂.slotsUsed } : State) L mc ms := by
      refine ⟨?_, q2, q3, q4, q5, q6⟩
      obtain ⟨t, ht, -⟩ := State.frames_cons hr
      show ({ U with heap := s₂.heap, slotsUsed := s₂.slotsUsed } : State) = { U.setFrames U.frames with heap := s₂.heap, slotsUsed := s₂.slotsUsed }
      rw [State.setFrames_self ht]
    subst hg
    refine Or.inr ⟨q, ⟨(({ U with heap := s₂.heap, slotsUsed := s₂.slotsUsed } : State).setVm s₂.vm), Ls ++ L, c0 + mc, s0 + ms⟩,
      ⟨X.admits, X.cas, X.clock, X.frames, X.room, X.hears, X.method, X.code, (X.here.setHeapUsed s₂.heap s₂.slotsUsed).setVm hW'.alike, X.tail, State.WarmedH.trans X.warmed hW', X.limits, X.bytes, X.same.trans (hsame.setVm s.vm)⟩,
      ⟨g, mk, s₂, L, E, ce, rfl, rfl, hx, hce, hcv, hcl, rfl, hL, rfl, rfl⟩, ?_⟩
    show Steps p.tables e below _ (((({ U with heap := s₂.heap, slotsUsed := s₂.slotsUsed } : State).setVm s₂.vm).setTop g).pushFrame (.throwing q))
    rw [← hs₂]
    exact hsteps
end
variable {p : Program} {l : Launch} {e : Env} {R : Room} {s : State} {m : MethodId} {args : Array Value} {below : List Frame} {meth : Method} {c : Code} {T : State} {H : Heap} {locs : List Loc} {cells slots : Nat}
theorem vx_callVX (X : Stand p l e R s m args below meth c T locs cells slots) (hexec : p.tables.exec = Jvm.exec) {own C : String} {index : Nat} {y : MethodName} {bytes : ByteArray} {maxL : Nat} {ret : Option FieldType} {hh : List (Nat × Nat × Nat × Nat)}
    (hown : s.vm.findClass own = some m.cls) (hlink : (Cond.methodLink own index y).before args s = true) (hinst : (Cond.instanceMethod y).before args s = true) (hsel : (Cond.selects C y y).before args s = true)
    (hcode : (Cond.codeWith y bytes maxL ret hh).before args s = true) (hy : y.cls ≠ "java/lang/invoke/MethodHandle" ∧ y.cls ≠ "java/lang/invoke/VarHandle")
    {W9 : Nat} {Pre : Pt → Array Value → Prop} {Post : Pt → Array Value → Option Value → Pt → Prop} {PostX : Pt → Array Value → Addr → Pt → Prop} (hK : vx_Back l R p e below s args y 3 W9 Pre Post PostX)
    {b : Addr} {cellB : Cell} (hcell : T.heap[b]? = some cellB) (hobj : cellB.vm.isStatics = false) (hcls : s.vm.findClass C = some cellB.cls)
    {g : JFrame} (hg : g.method = m) (hsize : g.locals.size = c.maxLocals) {argsL rest : List Value} (hlen : ∀ sig, parseMethodDescriptor y.desc = some sig → argsL.length = sig.parameters.length)
    (hstack : g.stack = argsL.reverse ++ .ref b :: rest) (hW : 2 * g.monitorRoom + (rest.map fun v => v.category).sum ≤ W9) (hdg : decode c.code g.pc = .ok (.invokevirtual index, 3))
    (hpre : ∀ vm₁, s.WarmedH vm₁ → Pre ⟨T.setVm vm₁, locs, cells, slots⟩ (Value.ref b :: argsL).toArray) :
    (∃ (v : Option Value) (vm₁ : Vm) (B : Pt), s.WarmedH vm₁ ∧ Stand p l e R s m args below meth c B.U B.locs B.cells B.slots ∧ Post ⟨T.setVm vm₁, locs, cells, slots⟩ (Value.ref b :: argsL).toArray v B ∧
      ∀ target, Steps p.tables e below (B.U.setTop { g with pc := g.pc + 3, stack := v.toList ++ rest }) target → Steps p.tables e below (T.setTop g) target) ∨
    (∃ (q : Addr) (vm₁ : Vm) (B : Pt), s.WarmedH vm₁ ∧ Stand p l e R s m args below meth c B.U B.locs B.cells B.slots ∧ PostX ⟨T.setVm vm₁, locs, cells, slots⟩ (Value.ref b :: argsL).toArray q B ∧
      Steps p.tables e below (T.setTop g) ((B.U.setTop { g with stack := rest }).pushFrame (.throwing q))) := by
  obtain ⟨mk, methM, hnamed, hmethM, hstM, habM⟩ := Cond.instanceMethod_spec hinst
  obtain ⟨m8, methM', cM, hn8, hmethM', -, -, -, -, -, -, hsigM⟩ := Cond.codeWith_spec hcode
  cases Option.some.inj (hn8.symm.trans hnamed)
  cases hmethM.symm.trans hmethM'
  obtain ⟨c2, r2, m2, q1, q2, q3, q4, kP, hkP, hkPi⟩ := Cond.selects_spec hsel
  cases hcls.symm.trans q1
  cases (State.methodFound?_of_named hnamed hy).symm.trans q2
  cases hnamed.symm.trans q3
  have hselP : selectMethod e.platform s.vm cellB.cls mk = .method mk := by rw [Launch.admits_selectMethod X.admits]; exact q4
  obtain ⟨vm₁, X₁, hstep₁⟩ := X.invokevirtual hexec hown hlink hnamed hmethM hstM hkP hkPi hy (a := b) (cell := cellB) hcell
    (fun z h => by rw [h] at hobj; cases hobj) hselP hmethM habM hkP hkPi (g := g) hg (argsL := argsL) (rest := rest) (hlen _ hsigM) hstack hdg
  rcases hK m meth c ⟨T.setVm vm₁, locs, cells, slots⟩ { g with stack := rest } (.invokevirtual index) mk (Value.ref b :: argsL).toArray X₁ hg hsize hdg hW (X₁.named hnamed) (hpre vm₁ X₁.warmed) with ⟨v, B, X', hpost, hsteps⟩ | ⟨q, B, X', hpost, hsteps⟩
  · exact Or.inl ⟨v, vm₁, B, X₁.warmed, X', hpost, fun target h => hstep₁ _ fun acts => by rw [doInvoke_state]; exact hsteps.trans h⟩
  · exact Or.inr ⟨q, vm₁, B, X₁.warmed, X', hpost, hstep₁ _ fun acts => by rw [doInvoke_state]; exact hsteps⟩
theorem vx_callSX (X : Stand p l e R s m args below meth c T locs cells slots) (hexec : p.tables.exec = Jvm.exec) {own : String} {index : Nat} {y : MethodName} {bytes : ByteArray} {maxL : Nat} {ret : Option FieldType} {hh : List (Nat × Nat × Nat × Nat)}
    (hown : s.vm.findClass own = some m.cls) (hlink : (Cond.methodLink own index y).before args s = true) (hstat : (Cond.static y).before args s = true) (hinit : (Cond.initialized y.cls).before args s = true)
    (hcode : (Cond.codeWith y bytes maxL ret hh).before args s = true) (hy : y.cls ≠ "java/lang/invoke/MethodHandle" ∧ y.cls ≠ "java/lang/invoke/VarHandle")
    {W9 : Nat} {Pre : Pt → Array Value → Prop} {Post : Pt → Array Value → Option Value → Pt → Prop} {PostX : Pt → Array Value → Addr → Pt → Prop} (hK : vx_Back l R p e below s args y 3 W9 Pre Post PostX)
    {g : JFrame} (hg : g.method = m) (hsize : g.locals.size = c.maxLocals) {argsL rest : List Value} (hlen : ∀ sig, parseMethodDescriptor y.desc = some sig → argsL.length = sig.parameters.length)
    (hstack : g.stack = argsL.reverse ++ rest) (hW : 2 * g.monitorRoom + (rest.map fun v => v.category).sum ≤ W9) (hdg : decode c.code g.pc = .ok (.invokestatic index, 3))
    (hpre : ∀ vm₁, s.WarmedH vm₁ → Pre ⟨T.setVm vm₁, locs, cells, slots⟩ argsL.toArray) :
    (∃ (v : Option Value) (vm₁ : Vm) (B : Pt), s.WarmedH vm₁ ∧ Stand p l e R s m args below meth c B.U B.locs B.cells B.slots ∧ Post ⟨T.setVm vm₁, locs, cells, slots⟩ argsL.toArray v B ∧
      ∀ target, Steps p.tables e below (B.U.setTop { g with pc := g.pc + 3, stack := v.toList ++ rest }) target → Steps p.tables e below (T.setTop g) target) ∨
    (∃ (q : Addr) (vm₁ : Vm) (B : Pt), s.WarmedH vm₁ ∧ Stand p l e R s m args below meth c B.U B.locs B.cells B.slots ∧ PostX ⟨T.setVm vm₁, locs, cells, slots⟩ argsL.toArray q B ∧
      Steps p.tables e below (T.setTop g) ((B.U.setTop { g with stack := rest }).pushFrame (.throwing q))) := by
  obtain ⟨mk, methM, cM, hnamed, hmethM, -, -, -, -, -, -, hsigM⟩ := Cond.codeWith_spec hcode
  have hstatic : methM.isStatic = true := Cond.static_spec hnamed hmethM hstat
  obtain ⟨kP, hkP, -⟩ := className_of_methodNamed hnamed
  have hinitP : kP.init = .initialized := Cond.initialized_spec (findClass_of_methodNamed hnamed) hkP hinit
  obtain ⟨vm₁, X₁, hstep₁⟩ := X.invokestatic hexec hown hlink hnamed hmethM hstatic hkP hinitP hy (g := g) hg (argsL := argsL) (rest := rest) (hlen _ hsigM) hstack hdg
  rcases hK m meth c ⟨T.setVm vm₁, locs, cells, slots⟩ { g with stack := rest } (.invokestatic index) mk argsL.toArray X₁ hg hsize hdg hW (X₁.named hnamed) (hpre vm₁ X₁.warmed) with ⟨v, B, X', hpost, hsteps⟩ | ⟨q, B, X', hpost, hsteps⟩
  · exact Or.inl ⟨v, vm₁, B, X₁.warmed, X', hpost, fun target h => hstep₁ _ fun acts => by rw [doInvoke_state]; exact hsteps.trans h⟩
  · exact Or.inr ⟨q, vm₁, B, X₁.warmed, X', hpost, hstep₁ _ fun acts => by rw [doInvoke_state]; exact hsteps⟩
theorem vx_callVW (X : Stand p l e R s m args below meth c T locs cells slots) (hexec : p.tables.exec = Jvm.exec) {own C : String} {index : Nat} {y : MethodName} {bytes : ByteArray} {maxL : Nat} {ret : Option FieldType} {hh : List (Nat × Nat × Nat × Nat)}
    (hown : s.vm.findClass own = some m.cls) (hlink : (Cond.methodLink own index y).before args s = true) (hinst : (Cond.instanceMethod y).before args s = true) (hsel : (Cond.selects C y y).before args s = true)
    (hcode : (Cond.codeWith y bytes maxL ret hh).before args s = true) (hy : y.cls ≠ "java/lang/invoke/MethodHandle" ∧ y.cls ≠ "java/lang/invoke/VarHandle")
    {W9 : Nat} {Pre : Pt → Array Value → Prop} {Post : Pt → Array Value → Option Value → Pt → Prop} (hK : Back l R p e below s args y 3 W9 Pre Post)
    {b : Addr} {cellB : Cell} (hcell : T.heap[b]? = some cellB) (hobj : cellB.vm.isStatics = false) (hcls : s.vm.findClass C = some cellB.cls)
    {g : JFrame} (hg : g.method = m) (hsize : g.locals.size = c.maxLocals) {argsL rest : List Value} (hlen : ∀ sig, parseMethodDescriptor y.desc = some sig → argsL.length = sig.parameters.length)
    (hstack : g.stack = argsL.reverse ++ .ref b :: rest) (hW : 2 * g.monitorRoom + (rest.map fun v => v.category).sum ≤ W9) (hdg : decode c.code g.pc = .ok (.invokevirtual index, 3))
    (hpre : ∀ vm₁, s.WarmedH vm₁ → Pre ⟨T.setVm vm₁, locs, cells, slots⟩ (Value.ref b :: argsL).toArray) :
    ∃ (v : Option Value) (vm₁ : Vm) (B : Pt), s.WarmedH vm₁ ∧ Stand p l e R s m args below meth c B.U B.locs B.cells B.slots ∧ Post ⟨T.setVm vm₁, locs, cells, slots⟩ (Value.ref b :: argsL).toArray v B ∧
      ∀ target, Steps p.tables e below (B.U.setTop { g with pc := g.pc + 3, stack := v.toList ++ rest }) target → Steps p.tables e below (T.setTop g) target := by
  obtain ⟨mk, methM, hnamed, hmethM, hstM, habM⟩ := Cond.instanceMethod_spec hinst
  obtain ⟨m8, methM', cM, hn8, hmethM', -, -, -, -, -, -, hsigM⟩ := Cond.codeWith_spec hcode
  cases Option.some.inj (hn8.symm.trans hnamed)
  cases hmethM.symm.trans hmethM'
  obtain ⟨c2, r2, m2, q1, q2, q3, q4, kP, hkP, hkPi⟩ := Cond.selects_spec hsel
  cases hcls.symm.trans q1
  cases (State.methodFound?_of_named hnamed hy).symm.trans q2
  cases hnamed.symm.trans q3
  have hselP : selectMethod e.platform s.vm cellB.cls mk = .method mk := by rw [Launch.admits_selectMethod X.admits]; exact q4
  obtain ⟨vm₁, X₁, hstep₁⟩ := X.invokevirtual hexec hown hlink hnamed hmethM hstM hkP hkPi hy (a := b) (cell := cellB) hcell
    (fun z h => by rw [h] at hobj; cases hobj) hselP hmethM habM hkP hkPi (g := g) hg (argsL := argsL) (rest := rest) (hlen _ hsigM) hstack hdg
  obtain ⟨v, B, X', hpost, hsteps⟩ := hK m meth c ⟨T.setVm vm₁, locs, cells, slots⟩ { g with stack := rest } (.invokevirtual index) mk (Value.ref b :: argsL).toArray X₁ hg hsize hdg hW (X₁.named hnamed) (hpre vm₁ X₁.warmed)
  exact ⟨v, vm₁, B, X₁.warmed, X', hpost, fun target h => hstep₁ _ fun acts => by rw [doInvoke_state]; exact hsteps.trans h⟩
abbrev vx_CVW (R : Room) (s : State) (args : Array Value) (own C : String) (index : Nat) (y : MethodName) (bytes : ByteArray) (maxL : Nat) (ret : Option FieldType) (hh : List (Nat × Nat × Nat × Nat)) (ws : List Cond) (rm : Room) (mc ms n : Nat) : Prop :=
  (rm.cells = mc ∧ rm.slots = ms ∧ rm.frames + 1 ≤ R.frames ∧ 8 + (maxL + 11) + rm.locals ≤ R.locals ∧ (∀ w ∈ ws, ∀ (a' : Array Value) (U : State), s.WarmedH U.vm → w.before a' U = true) ∧ Cond.codeWith y bytes maxL ret hh ∈ ws) ∧
  (Cond.codeWith y bytes maxL ret hh).before args s = true ∧ (Cond.initialized y.cls).before args s = true ∧ (y.cls ≠ "java/lang/invoke/MethodHandle" ∧ y.cls ≠ "java/lang/invoke/VarHandle") ∧
  (∀ sig, parseMethodDescriptor y.desc = some sig → n = sig.parameters.length) ∧ (Cond.methodLink own index y).before args s = true ∧ (Cond.instanceMethod y).before args s = true ∧ (Cond.selects C y y).before args s = true
theorem vx_cwVW {own C : String} {index maxL mc ms : Nat} {y : MethodName} {bytes : ByteArray} {ret : Option FieldType} {hh : List (Nat × Nat × Nat × Nat)} {Ts ws ws' : List Cond} {rm : Room} (n : Nat) (ht : ∀ w ∈ Ts, w.before args s = true) (hT : GoodIn Ts (wsV own index C y ws)) (hw : ws = Cond.codeWith y bytes maxL ret hh :: ws') (hrc : rm.cells = mc) (hrs : rm.slots = ms)
    (hd : y.cls = C ∧ y.cls ≠ "java/lang/invoke/MethodHandle" ∧ y.cls ≠ "java/lang/invoke/VarHandle" ∧ (parseMethodDescriptor y.desc).map (fun d => d.parameters.length) = some n) (hR : rm.frames + 1 ≤ R.frames ∧ 8 + (maxL + 11) + rm.locals ≤ R.locals) :
    vx_CVW R s args own C index y bytes maxL ret hh ws rm mc ms n := by
  obtain ⟨hC, hd⟩ := hd
  subst hC
  have ok : ∀ w ∈ wsV own index y.cls y ws, w.before args s = true := fun w h => ht w (hT w h).1
  have hG : GoodIn Ts ws := fun w h => hT w (by unfold wsV; exact List.mem_append_right _ h)
  have hc : Cond.codeWith y bytes maxL ret hh ∈ ws := by rw [hw]; exact List.mem_cons_self
  refine ⟨⟨hrc, hrs, hR.1, hR.2, pay_in ht hG, hc⟩, ht _ (hG _ hc).1, ok _ (by simp [wsV]), ⟨hd.1, hd.2.1⟩, fun sig h => ?_, ok _ (by simp [wsV]), ok _ (by simp [wsV]), ok _ (by simp [wsV])⟩
  have h2 := hd.2.2
  rw [h] at h2
  exact (Option.some.inj h2).symm
theorem vx_runVW {y : MethodName} {bytes cc : ByteArray} {maxL nL mc ms n index : Nat} {ret : Option FieldType} {hh : List (Nat × Nat × Nat × Nat)} {ws : List Cond} {rm : Room} {Pc : Array Value → State → Prop} {Qc : Array Value → State → Outcome → State → Prop} {free : Addr → Prop} {Ts : List Cond} {own C : String} {b : Addr} {As rest : List Value} {g : JFrame}
    (S : CallFix p m c cc nL s args Ts own) (hM : Met l y ws rm Pc Qc mc ms free) (cw : vx_CVW R s args own C index y bytes maxL ret hh ws rm mc ms n) (hp : PreV s H C b Pc As)
    (hg : g.method = m) (hn : As.length = n) (hsize : g.locals.size = nL) (hstack : g.stack = As.reverse ++ .ref b :: rest) (hW : 2 * g.monitorRoom + (rest.map fun v => v.category).sum ≤ 8) (hdg : decode cc g.pc = .ok (.invokevirtual index, 3)) (hf : cells + mc ≤ R.cells ∧ slots + ms ≤ R.slots) :
    va_Run p l e R s m args below meth c H locs cells slots mc ms g rest (Qc (Value.ref b :: As).toArray) free := by
  obtain ⟨⟨hrc, hrs, hfr, hlo, hws, hcw⟩, hcode, hini, hy, hlen, hl, hin, hse⟩ := cw
  have hK : Back l R p e below s args y 3 8 (PreOf R mc ms Pc) (PostOf Qc mc ms free) := va_backW (hh := hh) (bytes := bytes) (maxL := maxL) (ret := ret) hM hp.1 hrc hrs hfr hlo hws hcw (fun a' U hW => word_at hW (Or.inl (by first | rfl | simp [Cond.onTables, Cond.keeps, Cond.steady])) hini)
  obtain ⟨hx, hb, hml, ho, -⟩ := S
  obtain ⟨-, ⟨cellB, hcB, hoB, hclB⟩, hPc⟩ := hp
  intro T hT X
  obtain ⟨v, vm₁, ⟨U', l2, c2, s2⟩, hW₁, X', ⟨g', mk, t, L, e1, e2, hq, h1, hL, h2, h3⟩, st⟩ := vx_callVW X hx (C := C) (hh := hh) (bytes := bytes) (maxL := maxL) (ret := ret) ho hl hin hse hcode hy hK (by rw [hT]; exact hcB) hoB hclB hg (hsize.trans hml.symm) (argsL := As) (rest := rest) (fun sig h => hn.trans (hlen sig h)) hstack hW (by rw [hb]; exact hdg)
    (fun vm₁ hW₁ => ⟨hf.1, hf.2, hPc (T.setVm vm₁) hT hW₁⟩)
  dsimp only [Pt.U, Pt.locs, Pt.cells, Pt.slots] at X' e1 e2 h1 h2 h3 st
  subst h1; subst h2; subst h3
  exact ⟨v, (T.setVm vm₁).calling g' mk (Value.ref b :: As).toArray, t, U', L, hT, X', hL, e1, e2, hq, st⟩
section
variable {y : MethodName} {bytes cc : ByteArray} {maxL nL mc ms n index : Nat} {ret : Option FieldType} {ws : List Cond} {rm : Room} {Pc : Array Value → State → Prop} {Qc : Array Value → State → Outcome → State → Prop} {XC : String → State → State → Prop} {free : Addr → Prop} {Ts : List Cond} {own C : String} {b : Addr} {As rest : List Value} {g : JFrame}
theorem vx_runVX {hh : List (Nat × Nat × Nat × Nat)} (S : CallFix p m c cc nL s args Ts own) (hM : vx_Met l y ws rm Pc Qc XC mc ms free) (cw : vx_CVW R s args own C index y bytes maxL ret hh ws rm mc ms n) (hp : PreV s H C b Pc As)
    (hg : g.method = m) (hn : As.length = n) (hsize : g.locals.size = nL) (hstack : g.stack = As.reverse ++ .ref b :: rest) (hW : 2 * g.monitorRoom + (rest.map fun v => v.category).sum ≤ 8) (hdg : decode cc g.pc = .ok (.invokevirtual index, 3)) (hf : cells + mc ≤ R.cells ∧ slots + ms ≤ R.slots) :
    vx_Run p l e R s m args below meth c H locs cells slots mc ms g rest (Qc (Value.ref b :: As).toArray) XC free := by
  obtain ⟨⟨hrc, hrs, hfr, hlo, hws, hcw⟩, hcode, hini, hy, hlen, hl, hin, hse⟩ := cw
  have hK : vx_Back l R p e below s args y 3 8 (PreOf R mc ms Pc) (PostOf Qc mc ms free) (vx_Post XC mc ms free) := vx_backW (hh := hh) (bytes := bytes) (maxL := maxL) (ret := ret) hM hp.1 hrc hrs hfr hlo hws hcw (fun a' U hW => word_at hW (Or.inl (by first | rfl | simp [Cond.onTables, Cond.keeps, Cond.steady])) hini)
  obtain ⟨hx, hb, hml, ho, -⟩ := S
  obtain ⟨-, ⟨cellB, hcB, hoB, hclB⟩, hPc⟩ := hp
  intro T hT X
  rcases vx_callVX X hx (C := C) (hh := hh) (bytes := bytes) (maxL := maxL) (ret := ret) ho hl hin hse hcode hy hK (by rw [hT]; exact hcB) hoB hclB hg (hsize.trans hml.symm) (argsL := As) (rest := rest) (fun sig h => hn.trans (hlen sig h)) hstack hW (by rw [hb]; exact hdg)
    (fun vm₁ hW₁ => ⟨hf.1, hf.2, hPc (T.setVm vm₁) hT hW₁⟩) with ⟨v, vm₁, ⟨U', l2, c2, s2⟩, hW₁, X', ⟨g', mk, t, L, e1, e2, hq, h1, hL, h2, h3⟩, st⟩ | ⟨q, vm₁, ⟨U', l2, c2, s2⟩, hW₁, X', ⟨g', mk, t, L, E, ce, e1, e2, hq, hce, hcv, hcl, h1, hL, h2, h3⟩, st⟩
  · dsimp only [Pt.U, Pt.locs, Pt.cells, Pt.slots] at X' e1 e2 h1 h2 h3 st
    subst h1; subst h2; subst h3
    exact Or.inl ⟨v, (T.setVm vm₁).calling g' mk (Value.ref b :: As).toArray, t, U', L, hT, X', hL, e1, e2, hq, st⟩
  · dsimp only [Pt.U, Pt.locs, Pt.cells, Pt.slots] at X' e1 e2 h1 h2 h3 st hcl
    subst h1; subst h2; subst h3
    exact Or.inr ⟨q, (T.setVm vm₁).calling g' mk (Value.ref b :: As).toArray, t, U', L, E, ce, hT, X', hL, e1, e2, hq, hce, hcv, vx_cls hW₁ hcl, st⟩
theorem vx_runSX {hh : List (Nat × Nat × Nat × Nat)} (S : CallFix p m c cc nL s args Ts own) (hM : vx_Met l y ws rm Pc Qc XC mc ms free) (cw : vx_CSW R s args own index y bytes maxL ret hh ws rm mc ms n) (hp : PreS s H Pc As)
    (hg : g.method = m) (hn : As.length = n) (hsize : g.locals.size = nL) (hstack : g.stack = As.reverse ++ rest) (hW : 2 * g.monitorRoom + (rest.map fun v => v.category).sum ≤ 8) (hdg : decode cc g.pc = .ok (.invokestatic index, 3)) (hf : cells + mc ≤ R.cells ∧ slots + ms ≤ R.slots) :
    vx_Run p l e R s m args below meth c H locs cells slots mc ms g rest (Qc As.toArray) XC free := by
  obtain ⟨⟨hrc, hrs, hfr, hlo, hws, hcw⟩, hcode, hini, hy, hlen, hl, hstt⟩ := cw
  have hK : vx_Back l R p e below s args y 3 8 (PreOf R mc ms Pc) (PostOf Qc mc ms free) (vx_Post XC mc ms free) := vx_backW (hh := hh) (bytes := bytes) (maxL := maxL) (ret := ret) hM hp.1 hrc hrs hfr hlo hws hcw (fun a' U hW => word_at hW (Or.inl (by first | rfl | simp [Cond.onTables, Cond.keeps, Cond.steady])) hini)
  obtain ⟨hx, hb, hml, ho, -⟩ := S
  intro T hT X
  rcases vx_callSX X hx (hh := hh) (bytes := bytes) (maxL := maxL) (ret := ret) ho hl hstt hini hcode hy hK hg (hsize.trans hml.symm) (argsL := As) (rest := rest) (fun sig h => hn.trans (hlen sig h)) hstack hW (by rw [hb]; exact hdg)
    (fun vm₁ hW₁ => ⟨hf.1, hf.2, hp.2 (T.setVm vm₁) hT hW₁⟩) with ⟨v, vm₁, ⟨U', l2, c2, s2⟩, hW₁, X', ⟨g', mk, t, L, e1, e2, hq, h1, hL, h2, h3⟩, st⟩ | ⟨q, vm₁, ⟨U', l2, c2, s2⟩, hW₁, X', ⟨g', mk, t, L, E, ce, e1, e2, hq, hce, hcv, hcl, h1, hL, h2, h3⟩, st⟩
  · dsimp only [Pt.U, Pt.locs, Pt.cells, Pt.slots] at X' e1 e2 h1 h2 h3 st
    subst h1; subst h2; subst h3
    exact Or.inl ⟨v, (T.setVm vm₁).calling g' mk As.toArray, t, U', L, hT, X', hL, e1, e2, hq, st⟩
  · dsimp only [Pt.U, Pt.locs, Pt.cells, Pt.slots] at X' e1 e2 h1 h2 h3 st hcl
    subst h1; subst h2; subst h3
    exact Or.inr ⟨q, (T.setVm vm₁).calling g' mk As.toArray, t, U', L, E, ce, hT, X', hL, e1, e2, hq, hce, hcv, vx_cls hW₁ hcl, st⟩
end
end VXH
theorem vx_ofWH {l : Launch} {y : MethodName} {ws ws' : List Cond} {rm : Room} {Pc : Array Value → State → Prop} {Qc : Array Value → State → Outcome → State → Prop} {XC : String → State → State → Prop} {mc ms : Nat} {free : Addr → Prop} {cc : ByteArray} {maxL : Nat} {ret : Option FieldType} {hh : List (Nat × Nat × Nat × Nat)}
    (hy : plainName y.cls = true) (hw : ws = Cond.codeWith y cc maxL ret hh :: ws')
    (body : ∀ p e s m args below meth c s₁, BodyLoose p l y (headSpec ws rm) cc maxL ret e s m args below meth c s₁ → c.maxLocals = maxL → Pc args s →
      W p l e (headSpec ws rm).room s m args below meth c s.heap [] 0 0 (vx_MQ below Qc XC args s mc ms free) (entryFrame m args maxL)) : vx_Met l y ws rm Pc Qc XC mc ms free := by
  refine MetFree.of_bodyS (code := cc) (maxLocals := maxL) (ret := ret) hy ?_ ?_
  · intro args s m h hn
    obtain ⟨m9, meth, c, hn9, h1, h2, h3, h4, -, h5, h6, -⟩ := Cond.codeWith_spec (atoms_spec (ws := ws) h _ (by rw [hw]; exact List.mem_cons_self))
    cases hn.symm.trans hn9
    exact ⟨meth, c, h1, h2, h3, h4, h5, h6⟩
  · intro p e s m args below meth c s₁ B hml hP _
    have hh0 : s₁.heap = s.heap := by rw [B.state]; rfl
    obtain ⟨t, a1, o, b1, b2, b3⟩ := body p e s m args below meth c s₁ B hml hP s₁ hh0 (Stand.of_body B)
    exact ⟨t, o, a1, b1, b2, b3⟩
/-! ===== END ===== -/
end
section
/-! ===== BEGIN printed: names, fields, word lists, decode rows ===== -/
def RX0 : String := "CheckRestart$Checkpoints"
def TX0 : u_T := fun k => match k with
  | 0 => ("CheckRestart$Checkpoints", "whole", "[Z", true)
  | 1 => ("CheckRestart$Checkpoints", "editions", "[I", true)
  | 2 => ("CheckRestart$Checkpoints", "units", "[I", true)
  | 3 => ("CheckRestart$Checkpoints", "cellCounts", "[I", true)
  | 4 => ("CheckRestart$Checkpoints", "cells", "[J", true)
  | 5 => ("CheckRestart$Checkpoints", "positions", "[I", true)
  | _ => ("CheckRestart$Checkpoints", "begun", "I", false)
def tyX0 : Nat → FieldType := fun k => match k with
  | 0 => .array .boolean
  | 1 => .array .int
  | 2 => .array .int
  | 3 => .array .int
  | 4 => .array .long
  | 5 => .array .int
  | _ => .int
abbrev wsX00 : List Cond := u_ws RX0 TX0 7
theorem nmX0 : ∀ a, a < 7 → ∀ b, b < 7 → a ≠ b → (TX0 a).2.1 ≠ (TX0 b).2.1 := by decide +kernel
theorem tyX0_ok : ∀ k, k < 7 → parseFieldDescriptor (TX0 k).2.2.1 = some (tyX0 k) := by decide +kernel
abbrev cX0_init : ByteArray := prog_2_method_1_code
def yX0_init : MethodName := ⟨RX0, "<init>", "()V"⟩
abbrev cX0_has : ByteArray := prog_2_method_2_code
def yX0_has : MethodName := ⟨RX0, "has", "(I)Z"⟩
abbrev cX0_addTorn : ByteArray := prog_2_method_3_code
def yX0_addTorn : MethodName := ⟨RX0, "addTorn", "()V"⟩
abbrev cX0_addWhole : ByteArray := prog_2_method_4_code
def yX0_addWhole : MethodName := ⟨RX0, "addWhole", "(LCheckRestart$Progress;I)V"⟩
abbrev cX0_latestWholeUpTo : ByteArray := prog_2_method_5_code
def yX0_latestWholeUpTo : MethodName := ⟨RX0, "latestWholeUpTo", "(I)I"⟩
abbrev cX0_isPastAFilesEnd : ByteArray := prog_2_method_6_code
def yX0_isPastAFilesEnd : MethodName := ⟨RX0, "isPastAFilesEnd", "(ILCheckRestart$Job;)Z"⟩
abbrev cX0_putBack : ByteArray := prog_2_method_7_code
def yX0_putBack : MethodName := ⟨RX0, "putBack", "(ILCheckRestart$Progress;)V"⟩
def RX1 : String := "CheckRestart$Job"
def TX1 : u_T := fun k => match k with
  | 0 => ("CheckRestart$Job", "firstValues", "[J", true)
  | 1 => ("CheckRestart$Job", "lengths", "[I", true)
  | 2 => ("CheckRestart$Job", "cellCount", "I", false)
  | _ => ("CheckRestart$Job", "fileCount", "I", false)
def tyX1 : Nat → FieldType := fun k => match k with
  | 0 => .array .long
  | 1 => .array .int
  | 2 => .int
  | _ => .int
abbrev wsX10 : List Cond := u_ws RX1 TX1 4
theorem nmX1 : ∀ a, a < 4 → ∀ b, b < 4 → a ≠ b → (TX1 a).2.1 ≠ (TX1 b).2.1 := by decide +kernel
theorem tyX1_ok : ∀ k, k < 4 → parseFieldDescriptor (TX1 k).2.2.1 = some (tyX1 k) := by decide +kernel
abbrev cX1_init : ByteArray := prog_3_method_1_code
def yX1_init : MethodName := ⟨RX1, "<init>", "()V"⟩
abbrev cX1_hasFile : ByteArray := prog_3_method_2_code
def yX1_hasFile : MethodName := ⟨RX1, "hasFile", "(I)Z"⟩
def RX2 : String := "CheckRestart$Progress"
def TX2 : u_T := fun k => match k with
  | 0 => ("CheckRestart$Progress", "job", "LCheckRestart$Job;", true)
  | 1 => ("CheckRestart$Progress", "cells", "[J", true)
  | 2 => ("CheckRestart$Progress", "positions", "[I", true)
  | _ => ("CheckRestart$Progress", "units", "I", false)
def tyX2 : Nat → FieldType := fun k => match k with
  | 0 => .object "CheckRestart$Job"
  | 1 => .array .long
  | 2 => .array .int
  | _ => .int
abbrev wsX20 : List Cond := u_ws RX2 TX2 4
theorem nmX2 : ∀ a, a < 4 → ∀ b, b < 4 → a ≠ b → (TX2 a).2.1 ≠ (TX2 b).2.1 := by decide +kernel
theorem tyX2_ok : ∀ k, k < 4 → parseFieldDescriptor (TX2 k).2.2.1 = some (tyX2 k) := by decide +kernel
abbrev cX2_init : ByteArray := prog_4_method_1_code
def yX2_init : MethodName := ⟨RX2, "<init>", "(LCheckRestart$Job;)V"⟩
abbrev cX2_startOver : ByteArray := prog_4_method_2_code
def yX2_startOver : MethodName := ⟨RX2, "startOver", "()V"⟩
abbrev cX2_isEnded : ByteArray := prog_4_method_3_code
def yX2_isEnded : MethodName := ⟨RX2, "isEnded", "()Z"⟩
abbrev cX2_doUnit : ByteArray := prog_4_method_4_code
def yX2_doUnit : MethodName := ⟨RX2, "doUnit", "()J"⟩
abbrev cX2_readRecord : ByteArray := prog_4_method_5_code
def yX2_readRecord : MethodName := ⟨RX2, "readRecord", "(I)J"⟩
abbrev cX2_hasCellsOf : ByteArray := prog_4_method_6_code
def yX2_hasCellsOf : MethodName := ⟨RX2, "hasCellsOf", "(LCheckRestart$Progress;)Z"⟩
def RX3 : String := "CheckRestart"
def TX3 : u_T := fun k => match k with
  | 0 => ("CheckRestart", "job", "LCheckRestart$Job;", true)
  | 1 => ("CheckRestart", "progress", "LCheckRestart$Progress;", true)
  | 2 => ("CheckRestart", "replay", "LCheckRestart$Progress;", true)
  | 3 => ("CheckRestart", "rows", "[J", true)
  | 4 => ("CheckRestart", "checkpoints", "LCheckRestart$Checkpoints;", true)
  | 5 => ("CheckRestart", "editionNow", "I", false)
  | 6 => ("CheckRestart", "down", "Z", false)
  | 7 => ("CheckRestart", "cutPart", "I", false)
  | _ => ("CheckRestart", "cutsThatCame", "I", false)
def tyX3 : Nat → FieldType := fun k => match k with
  | 0 => .object "CheckRestart$Job"
  | 1 => .object "CheckRestart$Progress"
  | 2 => .object "CheckRestart$Progress"
  | 3 => .array .long
  | 4 => .object "CheckRestart$Checkpoints"
  | 5 => .int
  | 6 => .boolean
  | 7 => .int
  | _ => .int
abbrev wsX30 : List Cond := u_ws RX3 TX3 9
theorem nmX3 : ∀ a, a < 9 → ∀ b, b < 9 → a ≠ b → (TX3 a).2.1 ≠ (TX3 b).2.1 := by decide +kernel
theorem tyX3_ok : ∀ k, k < 9 → parseFieldDescriptor (TX3 k).2.2.1 = some (tyX3 k) := by decide +kernel
abbrev cX3_init : ByteArray := prog_1_method_1_code
def yX3_init : MethodName := ⟨RX3, "<init>", "()V"⟩
abbrev cX3_cell : ByteArray := prog_1_method_2_code
def yX3_cell : MethodName := ⟨RX3, "cell", "(J)I"⟩
abbrev cX3_file : ByteArray := prog_1_method_3_code
def yX3_file : MethodName := ⟨RX3, "file", "(I)I"⟩
abbrev cX3_step : ByteArray := prog_1_method_4_code
def yX3_step : MethodName := ⟨RX3, "step", "(I)I"⟩
abbrev cX3_check : ByteArray := prog_1_method_5_code
def yX3_check : MethodName := ⟨RX3, "check", "()I"⟩
abbrev cX3_cut : ByteArray := prog_1_method_6_code
def yX3_cut : MethodName := ⟨RX3, "cut", "(I)I"⟩
abbrev cX3_restart : ByteArray := prog_1_method_7_code
def yX3_restart : MethodName := ⟨RX3, "restart", "(I)I"⟩
abbrev cX3_get : ByteArray := prog_1_method_8_code
def yX3_get : MethodName := ⟨RX3, "get", "(I)J"⟩
abbrev cX3_position : ByteArray := prog_1_method_9_code
def yX3_position : MethodName := ⟨RX3, "position", "(I)I"⟩
abbrev cX3_grow : ByteArray := prog_1_method_10_code
def yX3_grow : MethodName := ⟨RX3, "grow", "(II)I"⟩
abbrev cX3_edition : ByteArray := prog_1_method_11_code
def yX3_edition : MethodName := ⟨RX3, "edition", "(I)I"⟩
abbrev cX3_output : ByteArray := prog_1_method_12_code
def yX3_output : MethodName := ⟨RX3, "output", "(I)I"⟩
abbrev cX3_torn : ByteArray := prog_1_method_13_code
def yX3_torn : MethodName := ⟨RX3, "torn", "(I)I"⟩
abbrev cX3_row : ByteArray := prog_1_method_14_code
def yX3_row : MethodName := ⟨RX3, "row", "(I)I"⟩
abbrev cX3_equal : ByteArray := prog_1_method_15_code
def yX3_equal : MethodName := ⟨RX3, "equal", "()Z"⟩
abbrev cX3_count : ByteArray := prog_1_method_16_code
def yX3_count : MethodName := ⟨RX3, "count", "(I)I"⟩
abbrev cX3_isSetupOver : ByteArray := prog_1_method_17_code
def yX3_isSetupOver : MethodName := ⟨RX3, "isSetupOver", "()Z"⟩
abbrev cX3_goDown : ByteArray := prog_1_method_18_code
def yX3_goDown : MethodName := ⟨RX3, "goDown", "()V"⟩
abbrev cX3_hasRow : ByteArray := prog_1_method_19_code
def yX3_hasRow : MethodName := ⟨RX3, "hasRow", "(I)Z"⟩
abbrev cX3_asNumber : ByteArray := prog_1_method_20_code
def yX3_asNumber : MethodName := ⟨RX3, "asNumber", "(Z)I"⟩
def RX4 : String := "CheckRestartModel"
def TX4 : u_T := fun k => match k with
  | 0 => ("CheckRestartModel", "code", "I", false)
  | 1 => ("CheckRestartModel", "cells", "[J", true)
  | 2 => ("CheckRestartModel", "first", "[J", true)
  | 3 => ("CheckRestartModel", "trial", "[J", true)
  | 4 => ("CheckRestartModel", "lengths", "[I", true)
  | 5 => ("CheckRestartModel", "positions", "[I", true)
  | 6 => ("CheckRestartModel", "trialAt", "[I", true)
  | 7 => ("CheckRestartModel", "many", "I", false)
  | 8 => ("CheckRestartModel", "files", "I", false)
  | 9 => ("CheckRestartModel", "units", "I", false)
  | 10 => ("CheckRestartModel", "edition", "I", false)
  | 11 => ("CheckRestartModel", "rows", "[J", true)
  | 12 => ("CheckRestartModel", "keptCells", "[J", true)
  | 13 => ("CheckRestartModel", "keptPositions", "[I", true)
  | 14 => ("CheckRestartModel", "keptMany", "[I", true)
  | 15 => ("CheckRestartModel", "keptFiles", "[I", true)
  | 16 => ("CheckRestartModel", "keptUnits", "[I", true)
  | 17 => ("CheckRestartModel", "keptEdition", "[I", true)
  | 18 => ("CheckRestartModel", "isWhole", "[Z", true)
  | 19 => ("CheckRestartModel", "checks", "I", false)
  | 20 => ("CheckRestartModel", "cutAt", "I", false)
  | 21 => ("CheckRestartModel", "cuts", "I", false)
  | _ => ("CheckRestartModel", "down", "Z", false)
def tyX4 : Nat → FieldType := fun k => match k with
  | 0 => .int
  | 1 => .array .long
  | 2 => .array .long
  | 3 => .array .long
  | 4 => .array .int
  | 5 => .array .int
  | 6 => .array .int
  | 7 => .int
  | 8 => .int
  | 9 => .int
  | 10 => .int
  | 11 => .array .long
  | 12 => .array .long
  | 13 => .array .int
  | 14 => .array .int
  | 15 => .array .int
  | 16 => .array .int
  | 17 => .array .int
  | 18 => .array .boolean
  | 19 => .int
  | 20 => .int
  | 21 => .int
  | _ => .boolean
abbrev wsX40 : List Cond := u_ws RX4 TX4 23
theorem nmX4 : ∀ a, a < 23 → ∀ b, b < 23 → a ≠ b → (TX4 a).2.1 ≠ (TX4 b).2.1 := by decide +kernel
theorem tyX4_ok : ∀ k, k < 23 → parseFieldDescriptor (TX4 k).2.2.1 = some (tyX4 k) := by decide +kernel
abbrev cX4_init : ByteArray := prog_6_method_1_code
def yX4_init : MethodName := ⟨RX4, "<init>", "()V"⟩
abbrev cX4_thrown : ByteArray := prog_6_method_2_code
def yX4_thrown : MethodName := ⟨RX4, "thrown", "()I"⟩
abbrev cX4_cell : ByteArray := prog_6_method_3_code
def yX4_cell : MethodName := ⟨RX4, "cell", "(J)I"⟩
abbrev cX4_file : ByteArray := prog_6_method_4_code
def yX4_file : MethodName := ⟨RX4, "file", "(I)I"⟩
abbrev cX4_isEnded : ByteArray := prog_6_method_5_code
def yX4_isEnded : MethodName := ⟨RX4, "isEnded", "()Z"⟩
abbrev cX4_step : ByteArray := prog_6_method_6_code
def yX4_step : MethodName := ⟨RX4, "step", "(I)I"⟩
abbrev cX4_check : ByteArray := prog_6_method_7_code
def yX4_check : MethodName := ⟨RX4, "check", "()I"⟩
abbrev cX4_cut : ByteArray := prog_6_method_8_code
def yX4_cut : MethodName := ⟨RX4, "cut", "(I)I"⟩
abbrev cX4_restart : ByteArray := prog_6_method_9_code
def yX4_restart : MethodName := ⟨RX4, "restart", "(I)I"⟩
abbrev cX4_get : ByteArray := prog_6_method_10_code
def yX4_get : MethodName := ⟨RX4, "get", "(I)J"⟩
abbrev cX4_position : ByteArray := prog_6_method_11_code
def yX4_position : MethodName := ⟨RX4, "position", "(I)I"⟩
abbrev cX4_grow : ByteArray := prog_6_method_12_code
def yX4_grow : MethodName := ⟨RX4, "grow", "(II)I"⟩
abbrev cX4_edition : ByteArray := prog_6_method_13_code
def yX4_edition : MethodName := ⟨RX4, "edition", "(I)I"⟩
abbrev cX4_output : ByteArray := prog_6_method_14_code
def yX4_output : MethodName := ⟨RX4, "output", "(I)I"⟩
abbrev cX4_torn : ByteArray := prog_6_method_15_code
def yX4_torn : MethodName := ⟨RX4, "torn", "(I)I"⟩
abbrev cX4_row : ByteArray := prog_6_method_16_code
def yX4_row : MethodName := ⟨RX4, "row", "(I)I"⟩
abbrev cX4_isOver : ByteArray := prog_6_method_17_code
def yX4_isOver : MethodName := ⟨RX4, "isOver", "()Z"⟩
abbrev cX4_equal : ByteArray := prog_6_method_18_code
def yX4_equal : MethodName := ⟨RX4, "equal", "()Z"⟩
abbrev cX4_count : ByteArray := prog_6_method_19_code
def yX4_count : MethodName := ⟨RX4, "count", "(I)I"⟩
def RJx00060 : String := "java/lang/ArrayIndexOutOfBoundsException"
def TJx00060 : u_T := fun k => match k with
  | 0 => ("java/lang/Throwable", "cause", "Ljava/lang/Throwable;", false)
  | 1 => ("java/lang/Throwable", "stackTrace", "[Ljava/lang/StackTraceElement;", false)
  | 2 => ("java/lang/Throwable", "suppressedExceptions", "Ljava/util/List;", false)
  | 3 => ("java/lang/Throwable", "detailMessage", "Ljava/lang/String;", false)
  | 4 => ("java/lang/Throwable", "backtrace", "Ljava/lang/Object;", false)
  | _ => ("java/lang/Throwable", "depth", "I", false)
def tyJx00060 : Nat → FieldType := fun k => match k with
  | 0 => .object "java/lang/Throwable"
  | 1 => .array (.object "java/lang/StackTraceElement")
  | 2 => .object "java/util/List"
  | 3 => .object "java/lang/String"
  | 4 => .object "java/lang/Object"
  | _ => .int
abbrev wsJx000600 : List Cond := u_ws RJx00060 TJx00060 6
theorem nmJx00060 : ∀ a, a < 6 → ∀ b, b < 6 → a ≠ b → (TJx00060 a).2.1 ≠ (TJx00060 b).2.1 := by decide +kernel
theorem tyJx00060_ok : ∀ k, k < 6 → parseFieldDescriptor (TJx00060 k).2.2.1 = some (tyJx00060 k) := by decide +kernel
abbrev cJx00060_init_a7421 : ByteArray := prog_7_method_2_code
def yJx00060_init_a7421 : MethodName := ⟨RJx00060, "<init>", "(Ljava/lang/String;)V"⟩
def RJ0 : String := "java/lang/String"
def TJ0 : u_T := fun k => match k with
  | _ => ("", "", "", false)
def tyJ0 : Nat → FieldType := fun k => match k with
  | _ => .int
abbrev wsJ00 : List Cond := u_ws RJ0 TJ0 0
theorem nmJ0 : ∀ a, a < 0 → ∀ b, b < 0 → a ≠ b → (TJ0 a).2.1 ≠ (TJ0 b).2.1 := by decide +kernel
theorem tyJ0_ok : ∀ k, k < 0 → parseFieldDescriptor (TJ0 k).2.2.1 = some (tyJ0 k) := by decide +kernel
def RJ10 : String := "java/lang/System"
def TJ10 : u_T := fun k => match k with
  | _ => ("", "", "", false)
def tyJ10 : Nat → FieldType := fun k => match k with
  | _ => .int
abbrev wsJ100 : List Cond := u_ws RJ10 TJ10 0
theorem nmJ10 : ∀ a, a < 0 → ∀ b, b < 0 → a ≠ b → (TJ10 a).2.1 ≠ (TJ10 b).2.1 := by decide +kernel
theorem tyJ10_ok : ∀ k, k < 0 → parseFieldDescriptor (TJ10 k).2.2.1 = some (tyJ10 k) := by decide +kernel
def RL : String := "CheckRestartLaw"
abbrev cL_get : ByteArray := method_3_code
def yL_get : MethodName := ⟨RL, "get", "(LCheckRestart;I[J)I"⟩
abbrev cL_row : ByteArray := method_4_code
def yL_row : MethodName := ⟨RL, "row", "(LCheckRestart;I[J)I"⟩
abbrev cL_law : ByteArray := code
def yL_law : MethodName := ⟨RL, "law", "([I)Z"⟩
def wsX0_init : List Cond := .code yX0_init cX0_init 1 none :: ([.methodLink RX0 3 objectInit, .instanceMethod objectInit, .code objectInit ⟨#[0xb1]⟩ 1 none, .arrayClass .boolean, .fieldLink RX0 9 "CheckRestart$Checkpoints" "whole" "[Z", .arrayClass .int, .fieldLink RX0 15 "CheckRestart$Checkpoints" "editions" "[I", .fieldLink RX0 19 "CheckRestart$Checkpoints" "units" "[I", .fieldLink RX0 22 "CheckRestart$Checkpoints" "cellCounts" "[I", .arrayClass .long, .fieldLink RX0 25 "CheckRestart$Checkpoints" "cells" "[J", .fieldLink RX0 29 "CheckRestart$Checkpoints" "positions" "[I", .fieldLink RX0 32 "CheckRestart$Checkpoints" "begun" "I"] ++ wsX00)
def wsX0_has : List Cond := .code yX0_has cX0_has 2 (some .boolean) :: ([.fieldLink RX0 32 "CheckRestart$Checkpoints" "begun" "I"] ++ wsX00)
def wsX0_addTorn : List Cond := .code yX0_addTorn cX0_addTorn 1 none :: ([.fieldLink RX0 32 "CheckRestart$Checkpoints" "begun" "I", .fieldLink RX0 9 "CheckRestart$Checkpoints" "whole" "[Z"] ++ wsX00)
def wsX0_addWhole : List Cond := .code yX0_addWhole cX0_addWhole 4 none :: ([.fieldLink RX0 32 "CheckRestart$Checkpoints" "begun" "I", .fieldLink RX0 9 "CheckRestart$Checkpoints" "whole" "[Z", .fieldLink RX0 15 "CheckRestart$Checkpoints" "editions" "[I", .fieldLink RX0 19 "CheckRestart$Checkpoints" "units" "[I", .fieldLink RX0 36 "CheckRestart$Progress" "units" "I", .fieldLink RX0 22 "CheckRestart$Checkpoints" "cellCounts" "[I", .fieldLink RX0 40 "CheckRestart$Progress" "job" "LCheckRestart$Job;", .fieldLink RX0 44 "CheckRestart$Job" "cellCount" "I", .fieldLink RX0 49 "CheckRestart$Progress" "cells" "[J", .fieldLink RX0 25 "CheckRestart$Checkpoints" "cells" "[J", .methodLink RX0 50 arraycopyName, .native arraycopyName, .static arraycopyName, .initialized "java/lang/System", .fieldLink RX0 56 "CheckRestart$Progress" "positions" "[I", .fieldLink RX0 29 "CheckRestart$Checkpoints" "positions" "[I"] ++ wsX00 ++ wsX20 ++ wsX10)
def wsX0_latestWholeUpTo : List Cond := .code yX0_latestWholeUpTo cX0_latestWholeUpTo 3 (some .int) :: ([.fieldLink RX0 9 "CheckRestart$Checkpoints" "whole" "[Z", .methodLink RX0 57 yX0_has, .instanceMethod yX0_has, .selects RX0 yX0_has yX0_has, .initialized RX0, .code yX0_has cX0_has 2 (some .boolean), .fieldLink RX0 32 "CheckRestart$Checkpoints" "begun" "I"] ++ wsX00)
def wsX0_isPastAFilesEnd : List Cond := .code yX0_isPastAFilesEnd cX0_isPastAFilesEnd 5 (some .boolean) :: ([.fieldLink RX0 61 "CheckRestart$Job" "fileCount" "I", .fieldLink RX0 64 "CheckRestart$Job" "lengths" "[I", .fieldLink RX0 29 "CheckRestart$Checkpoints" "positions" "[I"] ++ wsX10 ++ wsX00)
def wsX2_startOver : List Cond := .code yX2_startOver cX2_startOver 2 none :: ([.fieldLink RX2 23 "CheckRestart$Progress" "job" "LCheckRestart$Job;", .fieldLink RX2 27 "CheckRestart$Job" "cellCount" "I", .fieldLink RX2 9 "CheckRestart$Progress" "cells" "[J", .fieldLink RX2 32 "CheckRestart$Job" "firstValues" "[J", .fieldLink RX2 15 "CheckRestart$Progress" "positions" "[I", .fieldLink RX2 19 "CheckRestart$Progress" "units" "I"] ++ wsX20 ++ wsX10)
def wsX0_putBack : List Cond := .code yX0_putBack cX0_putBack 4 none :: ([.fieldLink RX0 25 "CheckRestart$Checkpoints" "cells" "[J", .fieldLink RX0 49 "CheckRestart$Progress" "cells" "[J", .fieldLink RX0 22 "CheckRestart$Checkpoints" "cellCounts" "[I", .methodLink RX0 50 arraycopyName, .native arraycopyName, .static arraycopyName, .initialized "java/lang/System", .fieldLink RX0 29 "CheckRestart$Checkpoints" "positions" "[I", .fieldLink RX0 56 "CheckRestart$Progress" "positions" "[I", .fieldLink RX0 19 "CheckRestart$Checkpoints" "units" "[I", .fieldLink RX0 36 "CheckRestart$Progress" "units" "I", .methodLink RX0 67 yX2_startOver, .instanceMethod yX2_startOver, .selects RX2 yX2_startOver yX2_startOver, .initialized RX2, .code yX2_startOver cX2_startOver 2 none, .fieldLink RX2 23 "CheckRestart$Progress" "job" "LCheckRestart$Job;", .fieldLink RX2 27 "CheckRestart$Job" "cellCount" "I", .fieldLink RX2 9 "CheckRestart$Progress" "cells" "[J", .fieldLink RX2 32 "CheckRestart$Job" "firstValues" "[J", .fieldLink RX2 15 "CheckRestart$Progress" "positions" "[I", .fieldLink RX2 19 "CheckRestart$Progress" "units" "I"] ++ wsX00 ++ wsX20 ++ wsX10)
def wsX1_init : List Cond := .code yX1_init cX1_init 1 none :: ([.methodLink RX1 3 objectInit, .instanceMethod objectInit, .code objectInit ⟨#[0xb1]⟩ 1 none, .arrayClass .long, .fieldLink RX1 9 "CheckRestart$Job" "firstValues" "[J", .arrayClass .int, .fieldLink RX1 15 "CheckRestart$Job" "lengths" "[I", .fieldLink RX1 19 "CheckRestart$Job" "cellCount" "I", .fieldLink RX1 23 "CheckRestart$Job" "fileCount" "I"] ++ wsX10)
def wsX1_hasFile : List Cond := .code yX1_hasFile cX1_hasFile 2 (some .boolean) :: ([.fieldLink RX1 23 "CheckRestart$Job" "fileCount" "I"] ++ wsX10)
def wsX2_init : List Cond := .code yX2_init cX2_init 2 none :: ([.methodLink RX2 3 objectInit, .instanceMethod objectInit, .code objectInit ⟨#[0xb1]⟩ 1 none, .arrayClass .long, .fieldLink RX2 9 "CheckRestart$Progress" "cells" "[J", .arrayClass .int, .fieldLink RX2 15 "CheckRestart$Progress" "positions" "[I", .fieldLink RX2 19 "CheckRestart$Progress" "units" "I", .fieldLink RX2 23 "CheckRestart$Progress" "job" "LCheckRestart$Job;"] ++ wsX20)
def wsX2_isEnded : List Cond := .code yX2_isEnded cX2_isEnded 2 (some .boolean) :: ([.fieldLink RX2 23 "CheckRestart$Progress" "job" "LCheckRestart$Job;", .fieldLink RX2 35 "CheckRestart$Job" "fileCount" "I", .fieldLink RX2 15 "CheckRestart$Progress" "positions" "[I", .fieldLink RX2 38 "CheckRestart$Job" "lengths" "[I"] ++ wsX20 ++ wsX10)
def wsX2_readRecord : List Cond := .code yX2_readRecord cX2_readRecord 4 (some .long) :: ([.fieldLink RX2 23 "CheckRestart$Progress" "job" "LCheckRestart$Job;", .fieldLink RX2 35 "CheckRestart$Job" "fileCount" "I", .fieldLink RX2 15 "CheckRestart$Progress" "positions" "[I", .fieldLink RX2 38 "CheckRestart$Job" "lengths" "[I", .constantLong RX2 45 (1000)] ++ wsX20 ++ wsX10)
def wsX2_doUnit : List Cond := .code yX2_doUnit cX2_doUnit 5 (some .long) :: ([.fieldLink RX2 19 "CheckRestart$Progress" "units" "I", .fieldLink RX2 23 "CheckRestart$Progress" "job" "LCheckRestart$Job;", .fieldLink RX2 27 "CheckRestart$Job" "cellCount" "I", .fieldLink RX2 9 "CheckRestart$Progress" "cells" "[J", .methodLink RX2 41 yX2_readRecord, .instanceMethod yX2_readRecord, .selects RX2 yX2_readRecord yX2_readRecord, .initialized RX2, .code yX2_readRecord cX2_readRecord 4 (some .long), .fieldLink RX2 35 "CheckRestart$Job" "fileCount" "I", .fieldLink RX2 15 "CheckRestart$Progress" "positions" "[I", .fieldLink RX2 38 "CheckRestart$Job" "lengths" "[I", .constantLong RX2 45 (1000)] ++ wsX20 ++ wsX10)
def wsX2_hasCellsOf : List Cond := .code yX2_hasCellsOf cX2_hasCellsOf 3 (some .boolean) :: ([.fieldLink RX2 23 "CheckRestart$Progress" "job" "LCheckRestart$Job;", .fieldLink RX2 27 "CheckRestart$Job" "cellCount" "I", .fieldLink RX2 9 "CheckRestart$Progress" "cells" "[J"] ++ wsX20 ++ wsX10)
def wsX3_init_r1 : List Cond := [Cond.methodLink RX3 1 objectInit, Cond.instanceMethod objectInit, Cond.code objectInit ⟨#[0xb1]⟩ 1 none, Cond.classLink RX3 7 RX1, Cond.instantiable RX1 4, Cond.initialized RX1, Cond.fieldLink RX3 10 "CheckRestart" "job" "LCheckRestart$Job;", Cond.classLink RX3 16 RX2, Cond.instantiable RX2 4, Cond.initialized RX2, Cond.fieldLink RX3 21 "CheckRestart" "progress" "LCheckRestart$Progress;", Cond.fieldLink RX3 25 "CheckRestart" "replay" "LCheckRestart$Progress;", Cond.arrayClass .long, Cond.fieldLink RX3 28 "CheckRestart" "rows" "[J", Cond.classLink RX3 32 RX0, Cond.instantiable RX0 7, Cond.initialized RX0, Cond.fieldLink RX3 35 "CheckRestart" "checkpoints" "LCheckRestart$Checkpoints;", Cond.fieldLink RX3 39 "CheckRestart" "editionNow" "I", Cond.fieldLink RX3 43 "CheckRestart" "down" "Z", Cond.fieldLink RX3 47 "CheckRestart" "cutPart" "I", Cond.fieldLink RX3 50 "CheckRestart" "cutsThatCame" "I", Cond.instanceMethod yX1_init, Cond.code yX1_init cX1_init 1 none]
def wsX3_init_r2 : List Cond := [Cond.methodLink RX1 3 objectInit, Cond.fieldLink RX1 9 "CheckRestart$Job" "firstValues" "[J", Cond.arrayClass .int, Cond.fieldLink RX1 15 "CheckRestart$Job" "lengths" "[I", Cond.fieldLink RX1 19 "CheckRestart$Job" "cellCount" "I", Cond.fieldLink RX1 23 "CheckRestart$Job" "fileCount" "I", Cond.methodLink RX3 18 yX2_init, Cond.instanceMethod yX2_init, Cond.code yX2_init cX2_init 2 none, Cond.methodLink RX2 3 objectInit, Cond.fieldLink RX2 9 "CheckRestart$Progress" "cells" "[J", Cond.fieldLink RX2 15 "CheckRestart$Progress" "positions" "[I", Cond.fieldLink RX2 19 "CheckRestart$Progress" "units" "I", Cond.fieldLink RX2 23 "CheckRestart$Progress" "job" "LCheckRestart$Job;", Cond.instanceMethod yX0_init, Cond.code yX0_init cX0_init 1 none, Cond.methodLink RX0 3 objectInit, Cond.arrayClass .boolean, Cond.fieldLink RX0 9 "CheckRestart$Checkpoints" "whole" "[Z", Cond.fieldLink RX0 15 "CheckRestart$Checkpoints" "editions" "[I", Cond.fieldLink RX0 19 "CheckRestart$Checkpoints" "units" "[I", Cond.fieldLink RX0 22 "CheckRestart$Checkpoints" "cellCounts" "[I", Cond.fieldLink RX0 25 "CheckRestart$Checkpoints" "cells" "[J", Cond.fieldLink RX0 29 "CheckRestart$Checkpoints" "positions" "[I"]
def wsX3_init_r3 : List Cond := [Cond.fieldLink RX0 32 "CheckRestart$Checkpoints" "begun" "I"]
def wsX3_init : List Cond := .code yX3_init cX3_init 1 none :: ((wsX3_init_r1 ++ (wsX3_init_r2 ++ wsX3_init_r3)) ++ wsX10 ++ wsX30 ++ wsX20 ++ wsX00)
def wsX3_isSetupOver : List Cond := .code yX3_isSetupOver cX3_isSetupOver 1 (some .boolean) :: ([.fieldLink RX3 43 "CheckRestart" "down" "Z", .fieldLink RX3 21 "CheckRestart" "progress" "LCheckRestart$Progress;", .fieldLink RX3 73 "CheckRestart$Progress" "units" "I"] ++ wsX30 ++ wsX20)
def wsX3_cell : List Cond := .code yX3_cell cX3_cell 4 (some .int) :: ([.fieldLink RX3 10 "CheckRestart" "job" "LCheckRestart$Job;", .fieldLink RX3 57 "CheckRestart$Job" "cellCount" "I", .fieldLink RX3 60 "CheckRestart$Job" "firstValues" "[J", .fieldLink RX3 21 "CheckRestart" "progress" "LCheckRestart$Progress;", .fieldLink RX3 63 "CheckRestart$Progress" "cells" "[J", .methodLink RX3 53 yX3_isSetupOver, .instanceMethod yX3_isSetupOver, .selects RX3 yX3_isSetupOver yX3_isSetupOver, .initialized RX3, .code yX3_isSetupOver cX3_isSetupOver 1 (some .boolean), .fieldLink RX3 43 "CheckRestart" "down" "Z", .fieldLink RX3 73 "CheckRestart$Progress" "units" "I"] ++ wsX30 ++ wsX10 ++ wsX20)
def wsX3_file : List Cond := .code yX3_file cX3_file 3 (some .int) :: ([.fieldLink RX3 10 "CheckRestart" "job" "LCheckRestart$Job;", .fieldLink RX3 66 "CheckRestart$Job" "fileCount" "I", .fieldLink RX3 69 "CheckRestart$Job" "lengths" "[I", .methodLink RX3 53 yX3_isSetupOver, .instanceMethod yX3_isSetupOver, .selects RX3 yX3_isSetupOver yX3_isSetupOver, .initialized RX3, .code yX3_isSetupOver cX3_isSetupOver 1 (some .boolean), .fieldLink RX3 43 "CheckRestart" "down" "Z", .fieldLink RX3 21 "CheckRestart" "progress" "LCheckRestart$Progress;", .fieldLink RX3 73 "CheckRestart$Progress" "units" "I"] ++ wsX30 ++ wsX10 ++ wsX20)
def wsX3_step_r1 : List Cond := [Cond.fieldLink RX3 43 "CheckRestart" "down" "Z", Cond.fieldLink RX3 21 "CheckRestart" "progress" "LCheckRestart$Progress;", Cond.fieldLink RX3 73 "CheckRestart$Progress" "units" "I", Cond.fieldLink RX3 28 "CheckRestart" "rows" "[J", Cond.methodLink RX3 76 yX2_isEnded, Cond.instanceMethod yX2_isEnded, Cond.selects RX2 yX2_isEnded yX2_isEnded, Cond.initialized RX2, Cond.code yX2_isEnded cX2_isEnded 2 (some .boolean), Cond.fieldLink RX2 23 "CheckRestart$Progress" "job" "LCheckRestart$Job;", Cond.fieldLink RX2 35 "CheckRestart$Job" "fileCount" "I", Cond.fieldLink RX2 15 "CheckRestart$Progress" "positions" "[I", Cond.fieldLink RX2 38 "CheckRestart$Job" "lengths" "[I", Cond.methodLink RX3 79 yX2_doUnit, Cond.instanceMethod yX2_doUnit, Cond.selects RX2 yX2_doUnit yX2_doUnit, Cond.code yX2_doUnit cX2_doUnit 5 (some .long), Cond.fieldLink RX2 19 "CheckRestart$Progress" "units" "I", Cond.fieldLink RX2 27 "CheckRestart$Job" "cellCount" "I", Cond.fieldLink RX2 9 "CheckRestart$Progress" "cells" "[J", Cond.methodLink RX2 41 yX2_readRecord, Cond.instanceMethod yX2_readRecord, Cond.selects RX2 yX2_readRecord yX2_readRecord, Cond.code yX2_readRecord cX2_readRecord 4 (some .long)]
def wsX3_step_r2 : List Cond := [Cond.constantLong RX2 45 (1000)]
def wsX3_step : List Cond := .code yX3_step cX3_step 4 (some .int) :: ((wsX3_step_r1 ++ wsX3_step_r2) ++ wsX30 ++ wsX20 ++ wsX10)
def wsX3_goDown : List Cond := .code yX3_goDown cX3_goDown 1 none :: ([.fieldLink RX3 43 "CheckRestart" "down" "Z", .fieldLink RX3 47 "CheckRestart" "cutPart" "I", .fieldLink RX3 50 "CheckRestart" "cutsThatCame" "I"] ++ wsX30)
def wsX3_check_r1 : List Cond := [Cond.fieldLink RX3 43 "CheckRestart" "down" "Z", Cond.fieldLink RX3 35 "CheckRestart" "checkpoints" "LCheckRestart$Checkpoints;", Cond.fieldLink RX3 83 "CheckRestart$Checkpoints" "begun" "I", Cond.fieldLink RX3 10 "CheckRestart" "job" "LCheckRestart$Job;", Cond.fieldLink RX3 57 "CheckRestart$Job" "cellCount" "I", Cond.fieldLink RX3 66 "CheckRestart$Job" "fileCount" "I", Cond.fieldLink RX3 47 "CheckRestart" "cutPart" "I", Cond.fieldLink RX3 21 "CheckRestart" "progress" "LCheckRestart$Progress;", Cond.fieldLink RX3 39 "CheckRestart" "editionNow" "I", Cond.methodLink RX3 86 yX0_addTorn, Cond.instanceMethod yX0_addTorn, Cond.selects RX0 yX0_addTorn yX0_addTorn, Cond.initialized RX0, Cond.code yX0_addTorn cX0_addTorn 1 none, Cond.fieldLink RX0 32 "CheckRestart$Checkpoints" "begun" "I", Cond.fieldLink RX0 9 "CheckRestart$Checkpoints" "whole" "[Z", Cond.methodLink RX3 89 yX3_goDown, Cond.instanceMethod yX3_goDown, Cond.selects RX3 yX3_goDown yX3_goDown, Cond.initialized RX3, Cond.code yX3_goDown cX3_goDown 1 none, Cond.fieldLink RX3 50 "CheckRestart" "cutsThatCame" "I", Cond.methodLink RX3 92 yX0_addWhole, Cond.instanceMethod yX0_addWhole]
def wsX3_check_r2 : List Cond := [Cond.selects RX0 yX0_addWhole yX0_addWhole, Cond.code yX0_addWhole cX0_addWhole 4 none, Cond.fieldLink RX0 15 "CheckRestart$Checkpoints" "editions" "[I", Cond.fieldLink RX0 19 "CheckRestart$Checkpoints" "units" "[I", Cond.fieldLink RX0 36 "CheckRestart$Progress" "units" "I", Cond.fieldLink RX0 22 "CheckRestart$Checkpoints" "cellCounts" "[I", Cond.fieldLink RX0 40 "CheckRestart$Progress" "job" "LCheckRestart$Job;", Cond.fieldLink RX0 44 "CheckRestart$Job" "cellCount" "I", Cond.fieldLink RX0 49 "CheckRestart$Progress" "cells" "[J", Cond.fieldLink RX0 25 "CheckRestart$Checkpoints" "cells" "[J", Cond.methodLink RX0 50 arraycopyName, Cond.native arraycopyName, Cond.static arraycopyName, Cond.initialized "java/lang/System", Cond.fieldLink RX0 56 "CheckRestart$Progress" "positions" "[I", Cond.fieldLink RX0 29 "CheckRestart$Checkpoints" "positions" "[I"]
def wsX3_check : List Cond := .code yX3_check cX3_check 2 (some .int) :: ((wsX3_check_r1 ++ wsX3_check_r2) ++ wsX30 ++ wsX00 ++ wsX10 ++ wsX20)
def wsX3_cut : List Cond := .code yX3_cut cX3_cut 2 (some .int) :: ([.fieldLink RX3 47 "CheckRestart" "cutPart" "I", .methodLink RX3 89 yX3_goDown, .instanceMethod yX3_goDown, .selects RX3 yX3_goDown yX3_goDown, .initialized RX3, .code yX3_goDown cX3_goDown 1 none, .fieldLink RX3 43 "CheckRestart" "down" "Z", .fieldLink RX3 50 "CheckRestart" "cutsThatCame" "I"] ++ wsX30)
def wsX3_restart_r1 : List Cond := [Cond.fieldLink RX3 43 "CheckRestart" "down" "Z", Cond.fieldLink RX3 35 "CheckRestart" "checkpoints" "LCheckRestart$Checkpoints;", Cond.fieldLink RX3 100 "CheckRestart$Checkpoints" "editions" "[I", Cond.fieldLink RX3 39 "CheckRestart" "editionNow" "I", Cond.fieldLink RX3 10 "CheckRestart" "job" "LCheckRestart$Job;", Cond.fieldLink RX3 21 "CheckRestart" "progress" "LCheckRestart$Progress;", Cond.fieldLink RX3 83 "CheckRestart$Checkpoints" "begun" "I", Cond.methodLink RX3 96 yX0_latestWholeUpTo, Cond.instanceMethod yX0_latestWholeUpTo, Cond.selects RX0 yX0_latestWholeUpTo yX0_latestWholeUpTo, Cond.initialized RX0, Cond.code yX0_latestWholeUpTo cX0_latestWholeUpTo 3 (some .int), Cond.fieldLink RX0 9 "CheckRestart$Checkpoints" "whole" "[Z", Cond.methodLink RX0 57 yX0_has, Cond.instanceMethod yX0_has, Cond.selects RX0 yX0_has yX0_has, Cond.code yX0_has cX0_has 2 (some .boolean), Cond.fieldLink RX0 32 "CheckRestart$Checkpoints" "begun" "I", Cond.methodLink RX3 103 yX0_isPastAFilesEnd, Cond.instanceMethod yX0_isPastAFilesEnd, Cond.selects RX0 yX0_isPastAFilesEnd yX0_isPastAFilesEnd, Cond.code yX0_isPastAFilesEnd cX0_isPastAFilesEnd 5 (some .boolean), Cond.fieldLink RX0 61 "CheckRestart$Job" "fileCount" "I", Cond.fieldLink RX0 64 "CheckRestart$Job" "lengths" "[I"]
def wsX3_restart_r2 : List Cond := [Cond.fieldLink RX0 29 "CheckRestart$Checkpoints" "positions" "[I", Cond.methodLink RX3 107 yX0_putBack, Cond.instanceMethod yX0_putBack, Cond.selects RX0 yX0_putBack yX0_putBack, Cond.code yX0_putBack cX0_putBack 4 none, Cond.fieldLink RX0 25 "CheckRestart$Checkpoints" "cells" "[J", Cond.fieldLink RX0 49 "CheckRestart$Progress" "cells" "[J", Cond.fieldLink RX0 22 "CheckRestart$Checkpoints" "cellCounts" "[I", Cond.methodLink RX0 50 arraycopyName, Cond.native arraycopyName, Cond.static arraycopyName, Cond.initialized "java/lang/System", Cond.fieldLink RX0 56 "CheckRestart$Progress" "positions" "[I", Cond.fieldLink RX0 19 "CheckRestart$Checkpoints" "units" "[I", Cond.fieldLink RX0 36 "CheckRestart$Progress" "units" "I", Cond.methodLink RX0 67 yX2_startOver, Cond.instanceMethod yX2_startOver, Cond.selects RX2 yX2_startOver yX2_startOver, Cond.initialized RX2, Cond.code yX2_startOver cX2_startOver 2 none, Cond.fieldLink RX2 23 "CheckRestart$Progress" "job" "LCheckRestart$Job;", Cond.fieldLink RX2 27 "CheckRestart$Job" "cellCount" "I", Cond.fieldLink RX2 9 "CheckRestart$Progress" "cells" "[J", Cond.fieldLink RX2 32 "CheckRestart$Job" "firstValues" "[J"]
def wsX3_restart_r3 : List Cond := [Cond.fieldLink RX2 15 "CheckRestart$Progress" "positions" "[I", Cond.fieldLink RX2 19 "CheckRestart$Progress" "units" "I"]
def wsX3_restart : List Cond := .code yX3_restart cX3_restart 3 (some .int) :: ((wsX3_restart_r1 ++ (wsX3_restart_r2 ++ wsX3_restart_r3)) ++ wsX30 ++ wsX00 ++ wsX10 ++ wsX20)
def wsX3_get : List Cond := .code yX3_get cX3_get 2 (some .long) :: ([.classLink RX3 111 "java/lang/IllegalArgumentException", .initialized "java/lang/IllegalArgumentException", .fieldLink RX3 10 "CheckRestart" "job" "LCheckRestart$Job;", .fieldLink RX3 57 "CheckRestart$Job" "cellCount" "I", .fieldLink RX3 21 "CheckRestart" "progress" "LCheckRestart$Progress;", .fieldLink RX3 63 "CheckRestart$Progress" "cells" "[J"] ++ wsX30 ++ wsX10 ++ wsX20 ++ (vx_atS RX3 115 "java/lang/IllegalArgumentException" ["java/lang/RuntimeException", "java/lang/Exception"]).filter goodWord)
def wsX3_position : List Cond := .code yX3_position cX3_position 2 (some .int) :: ([.fieldLink RX3 10 "CheckRestart" "job" "LCheckRestart$Job;", .fieldLink RX3 21 "CheckRestart" "progress" "LCheckRestart$Progress;", .fieldLink RX3 122 "CheckRestart$Progress" "positions" "[I", .methodLink RX3 118 yX1_hasFile, .instanceMethod yX1_hasFile, .selects RX1 yX1_hasFile yX1_hasFile, .initialized RX1, .code yX1_hasFile cX1_hasFile 2 (some .boolean), .fieldLink RX1 23 "CheckRestart$Job" "fileCount" "I"] ++ wsX30 ++ wsX20 ++ wsX10)
def wsX3_grow : List Cond := .code yX3_grow cX3_grow 5 (some .int) :: ([.fieldLink RX3 10 "CheckRestart" "job" "LCheckRestart$Job;", .fieldLink RX3 69 "CheckRestart$Job" "lengths" "[I", .constantLong RX3 125 (2000), .methodLink RX3 118 yX1_hasFile, .instanceMethod yX1_hasFile, .selects RX1 yX1_hasFile yX1_hasFile, .initialized RX1, .code yX1_hasFile cX1_hasFile 2 (some .boolean), .fieldLink RX1 23 "CheckRestart$Job" "fileCount" "I"] ++ wsX30 ++ wsX10)
def wsX3_edition : List Cond := .code yX3_edition cX3_edition 3 (some .int) :: ([.fieldLink RX3 39 "CheckRestart" "editionNow" "I"] ++ wsX30)
def wsX3_hasRow : List Cond := .code yX3_hasRow cX3_hasRow 2 (some .boolean) :: ([.fieldLink RX3 21 "CheckRestart" "progress" "LCheckRestart$Progress;", .fieldLink RX3 73 "CheckRestart$Progress" "units" "I"] ++ wsX30 ++ wsX20)
def wsX3_output : List Cond := .code yX3_output cX3_output 2 (some .int) :: ([.fieldLink RX3 28 "CheckRestart" "rows" "[J", .methodLink RX3 127 yX3_hasRow, .instanceMethod yX3_hasRow, .selects RX3 yX3_hasRow yX3_hasRow, .initialized RX3, .code yX3_hasRow cX3_hasRow 2 (some .boolean), .fieldLink RX3 21 "CheckRestart" "progress" "LCheckRestart$Progress;", .fieldLink RX3 73 "CheckRestart$Progress" "units" "I"] ++ wsX30 ++ wsX20)
def wsX3_asNumber : List Cond := .code yX3_asNumber cX3_asNumber 1 (some .int) :: ([])
def wsX3_torn : List Cond := .code yX3_torn cX3_torn 2 (some .int) :: ([.fieldLink RX3 35 "CheckRestart" "checkpoints" "LCheckRestart$Checkpoints;", .fieldLink RX3 133 "CheckRestart$Checkpoints" "whole" "[Z", .methodLink RX3 130 yX0_has, .instanceMethod yX0_has, .selects RX0 yX0_has yX0_has, .initialized RX0, .code yX0_has cX0_has 2 (some .boolean), .fieldLink RX0 32 "CheckRestart$Checkpoints" "begun" "I", .methodLink RX3 137 yX3_asNumber, .static yX3_asNumber, .initialized RX3, .code yX3_asNumber cX3_asNumber 1 (some .int)] ++ wsX30 ++ wsX00)
def wsX3_row : List Cond := .code yX3_row cX3_row 2 (some .int) :: ([.classLink RX3 141 RJx00060, .instantiable RJx00060 6, .initialized RJx00060, .fieldLink RX3 28 "CheckRestart" "rows" "[J", .methodLink RX3 127 yX3_hasRow, .instanceMethod yX3_hasRow, .selects RX3 yX3_hasRow yX3_hasRow, .initialized RX3, .code yX3_hasRow cX3_hasRow 2 (some .boolean), .fieldLink RX3 21 "CheckRestart" "progress" "LCheckRestart$Progress;", .fieldLink RX3 73 "CheckRestart$Progress" "units" "I"] ++ wsJx000600 ++ wsX30 ++ wsX20)
def wsX3_equal_r1 : List Cond := [Cond.fieldLink RX3 25 "CheckRestart" "replay" "LCheckRestart$Progress;", Cond.fieldLink RX3 21 "CheckRestart" "progress" "LCheckRestart$Progress;", Cond.fieldLink RX3 73 "CheckRestart$Progress" "units" "I", Cond.fieldLink RX3 28 "CheckRestart" "rows" "[J", Cond.methodLink RX3 146 yX2_startOver, Cond.instanceMethod yX2_startOver, Cond.selects RX2 yX2_startOver yX2_startOver, Cond.initialized RX2, Cond.code yX2_startOver cX2_startOver 2 none, Cond.fieldLink RX2 23 "CheckRestart$Progress" "job" "LCheckRestart$Job;", Cond.fieldLink RX2 27 "CheckRestart$Job" "cellCount" "I", Cond.fieldLink RX2 9 "CheckRestart$Progress" "cells" "[J", Cond.fieldLink RX2 32 "CheckRestart$Job" "firstValues" "[J", Cond.fieldLink RX2 15 "CheckRestart$Progress" "positions" "[I", Cond.fieldLink RX2 19 "CheckRestart$Progress" "units" "I", Cond.methodLink RX3 76 yX2_isEnded, Cond.instanceMethod yX2_isEnded, Cond.selects RX2 yX2_isEnded yX2_isEnded, Cond.code yX2_isEnded cX2_isEnded 2 (some .boolean), Cond.fieldLink RX2 35 "CheckRestart$Job" "fileCount" "I", Cond.fieldLink RX2 38 "CheckRestart$Job" "lengths" "[I", Cond.methodLink RX3 79 yX2_doUnit, Cond.instanceMethod yX2_doUnit, Cond.selects RX2 yX2_doUnit yX2_doUnit]
def wsX3_equal_r2 : List Cond := [Cond.code yX2_doUnit cX2_doUnit 5 (some .long), Cond.methodLink RX2 41 yX2_readRecord, Cond.instanceMethod yX2_readRecord, Cond.selects RX2 yX2_readRecord yX2_readRecord, Cond.code yX2_readRecord cX2_readRecord 4 (some .long), Cond.constantLong RX2 45 (1000), Cond.methodLink RX3 149 yX2_hasCellsOf, Cond.instanceMethod yX2_hasCellsOf, Cond.selects RX2 yX2_hasCellsOf yX2_hasCellsOf, Cond.code yX2_hasCellsOf cX2_hasCellsOf 3 (some .boolean)]
def wsX3_equal : List Cond := .code yX3_equal cX3_equal 2 (some .boolean) :: ((wsX3_equal_r1 ++ wsX3_equal_r2) ++ wsX30 ++ wsX20 ++ wsX10)
def wsX3_count : List Cond := .code yX3_count cX3_count 2 (some .int) :: ([.fieldLink RX3 10 "CheckRestart" "job" "LCheckRestart$Job;", .fieldLink RX3 57 "CheckRestart$Job" "cellCount" "I", .fieldLink RX3 66 "CheckRestart$Job" "fileCount" "I", .fieldLink RX3 21 "CheckRestart" "progress" "LCheckRestart$Progress;", .fieldLink RX3 73 "CheckRestart$Progress" "units" "I", .fieldLink RX3 35 "CheckRestart" "checkpoints" "LCheckRestart$Checkpoints;", .fieldLink RX3 83 "CheckRestart$Checkpoints" "begun" "I", .fieldLink RX3 43 "CheckRestart" "down" "Z", .fieldLink RX3 50 "CheckRestart" "cutsThatCame" "I", .methodLink RX3 137 yX3_asNumber, .static yX3_asNumber, .initialized RX3, .code yX3_asNumber cX3_asNumber 1 (some .int), .methodLink RX3 76 yX2_isEnded, .instanceMethod yX2_isEnded, .selects RX2 yX2_isEnded yX2_isEnded, .initialized RX2, .code yX2_isEnded cX2_isEnded 2 (some .boolean), .fieldLink RX2 23 "CheckRestart$Progress" "job" "LCheckRestart$Job;", .fieldLink RX2 35 "CheckRestart$Job" "fileCount" "I", .fieldLink RX2 15 "CheckRestart$Progress" "positions" "[I", .fieldLink RX2 38 "CheckRestart$Job" "lengths" "[I"] ++ wsX30 ++ wsX10 ++ wsX20 ++ wsX00)
def wsX4_init : List Cond := .code yX4_init cX4_init 1 none :: ([.methodLink RX4 1 objectInit, .instanceMethod objectInit, .code objectInit ⟨#[0xb1]⟩ 1 none, .arrayClass .long, .fieldLink RX4 7 "CheckRestartModel" "cells" "[J", .fieldLink RX4 13 "CheckRestartModel" "first" "[J", .fieldLink RX4 16 "CheckRestartModel" "trial" "[J", .arrayClass .int, .fieldLink RX4 19 "CheckRestartModel" "lengths" "[I", .fieldLink RX4 23 "CheckRestartModel" "positions" "[I", .fieldLink RX4 26 "CheckRestartModel" "trialAt" "[I", .fieldLink RX4 29 "CheckRestartModel" "rows" "[J", .fieldLink RX4 32 "CheckRestartModel" "keptCells" "[J", .fieldLink RX4 35 "CheckRestartModel" "keptPositions" "[I", .fieldLink RX4 38 "CheckRestartModel" "keptMany" "[I", .fieldLink RX4 41 "CheckRestartModel" "keptFiles" "[I", .fieldLink RX4 44 "CheckRestartModel" "keptUnits" "[I", .fieldLink RX4 47 "CheckRestartModel" "keptEdition" "[I", .arrayClass .boolean, .fieldLink RX4 50 "CheckRestartModel" "isWhole" "[Z"] ++ wsX40)
def wsX4_thrown : List Cond := .code yX4_thrown cX4_thrown 1 (some .int) :: ([.fieldLink RX4 54 "CheckRestartModel" "code" "I"] ++ wsX40)
def wsX4_cell : List Cond := .code yX4_cell cX4_cell 3 (some .int) :: ([.fieldLink RX4 54 "CheckRestartModel" "code" "I", .fieldLink RX4 58 "CheckRestartModel" "down" "Z", .fieldLink RX4 62 "CheckRestartModel" "units" "I", .fieldLink RX4 65 "CheckRestartModel" "many" "I", .fieldLink RX4 7 "CheckRestartModel" "cells" "[J", .fieldLink RX4 13 "CheckRestartModel" "first" "[J"] ++ wsX40)
def wsX4_file : List Cond := .code yX4_file cX4_file 2 (some .int) :: ([.fieldLink RX4 54 "CheckRestartModel" "code" "I", .fieldLink RX4 58 "CheckRestartModel" "down" "Z", .fieldLink RX4 62 "CheckRestartModel" "units" "I", .fieldLink RX4 68 "CheckRestartModel" "files" "I", .fieldLink RX4 19 "CheckRestartModel" "lengths" "[I"] ++ wsX40)
def wsX4_isEnded : List Cond := .code yX4_isEnded cX4_isEnded 3 (some .boolean) :: ([.fieldLink RX4 68 "CheckRestartModel" "files" "I", .fieldLink RX4 23 "CheckRestartModel" "positions" "[I", .fieldLink RX4 19 "CheckRestartModel" "lengths" "[I"] ++ wsX40)
def wsX4_step : List Cond := .code yX4_step cX4_step 8 (some .int) :: ([.fieldLink RX4 54 "CheckRestartModel" "code" "I", .fieldLink RX4 58 "CheckRestartModel" "down" "Z", .fieldLink RX4 62 "CheckRestartModel" "units" "I", .fieldLink RX4 68 "CheckRestartModel" "files" "I", .fieldLink RX4 23 "CheckRestartModel" "positions" "[I", .fieldLink RX4 19 "CheckRestartModel" "lengths" "[I", .constantLong RX4 75 (1000), .fieldLink RX4 29 "CheckRestartModel" "rows" "[J", .fieldLink RX4 65 "CheckRestartModel" "many" "I", .fieldLink RX4 7 "CheckRestartModel" "cells" "[J", .methodLink RX4 71 yX4_isEnded, .instanceMethod yX4_isEnded, .selects RX4 yX4_isEnded yX4_isEnded, .initialized RX4, .code yX4_isEnded cX4_isEnded 3 (some .boolean)] ++ wsX40)
def wsX4_check : List Cond := .code yX4_check cX4_check 4 (some .int) :: ([.fieldLink RX4 54 "CheckRestartModel" "code" "I", .fieldLink RX4 58 "CheckRestartModel" "down" "Z", .fieldLink RX4 77 "CheckRestartModel" "checks" "I", .fieldLink RX4 65 "CheckRestartModel" "many" "I", .fieldLink RX4 68 "CheckRestartModel" "files" "I", .fieldLink RX4 80 "CheckRestartModel" "cutAt" "I", .fieldLink RX4 83 "CheckRestartModel" "cuts" "I", .fieldLink RX4 32 "CheckRestartModel" "keptCells" "[J", .fieldLink RX4 7 "CheckRestartModel" "cells" "[J", .fieldLink RX4 35 "CheckRestartModel" "keptPositions" "[I", .fieldLink RX4 23 "CheckRestartModel" "positions" "[I", .fieldLink RX4 38 "CheckRestartModel" "keptMany" "[I", .fieldLink RX4 41 "CheckRestartModel" "keptFiles" "[I", .fieldLink RX4 44 "CheckRestartModel" "keptUnits" "[I", .fieldLink RX4 62 "CheckRestartModel" "units" "I", .fieldLink RX4 47 "CheckRestartModel" "keptEdition" "[I", .fieldLink RX4 86 "CheckRestartModel" "edition" "I", .fieldLink RX4 50 "CheckRestartModel" "isWhole" "[Z"] ++ wsX40)
def wsX4_cut : List Cond := .code yX4_cut cX4_cut 2 (some .int) :: ([.fieldLink RX4 54 "CheckRestartModel" "code" "I", .fieldLink RX4 83 "CheckRestartModel" "cuts" "I", .fieldLink RX4 58 "CheckRestartModel" "down" "Z", .fieldLink RX4 80 "CheckRestartModel" "cutAt" "I"] ++ wsX40)
def wsX4_restart : List Cond := .code yX4_restart cX4_restart 4 (some .int) :: ([.fieldLink RX4 54 "CheckRestartModel" "code" "I", .fieldLink RX4 58 "CheckRestartModel" "down" "Z", .fieldLink RX4 77 "CheckRestartModel" "checks" "I", .fieldLink RX4 50 "CheckRestartModel" "isWhole" "[Z", .fieldLink RX4 47 "CheckRestartModel" "keptEdition" "[I", .fieldLink RX4 86 "CheckRestartModel" "edition" "I", .fieldLink RX4 41 "CheckRestartModel" "keptFiles" "[I", .fieldLink RX4 19 "CheckRestartModel" "lengths" "[I", .fieldLink RX4 35 "CheckRestartModel" "keptPositions" "[I", .fieldLink RX4 65 "CheckRestartModel" "many" "I", .fieldLink RX4 7 "CheckRestartModel" "cells" "[J", .fieldLink RX4 38 "CheckRestartModel" "keptMany" "[I", .fieldLink RX4 32 "CheckRestartModel" "keptCells" "[J", .fieldLink RX4 13 "CheckRestartModel" "first" "[J", .fieldLink RX4 68 "CheckRestartModel" "files" "I", .fieldLink RX4 23 "CheckRestartModel" "positions" "[I", .fieldLink RX4 44 "CheckRestartModel" "keptUnits" "[I", .fieldLink RX4 62 "CheckRestartModel" "units" "I"] ++ wsX40)
def wsX4_get : List Cond := .code yX4_get cX4_get 2 (some .long) :: ([.fieldLink RX4 65 "CheckRestartModel" "many" "I", .fieldLink RX4 54 "CheckRestartModel" "code" "I", .fieldLink RX4 7 "CheckRestartModel" "cells" "[J"] ++ wsX40)
def wsX4_position : List Cond := .code yX4_position cX4_position 2 (some .int) :: ([.fieldLink RX4 54 "CheckRestartModel" "code" "I", .fieldLink RX4 68 "CheckRestartModel" "files" "I", .fieldLink RX4 23 "CheckRestartModel" "positions" "[I"] ++ wsX40)
def wsX4_grow : List Cond := .code yX4_grow cX4_grow 5 (some .int) :: ([.fieldLink RX4 54 "CheckRestartModel" "code" "I", .fieldLink RX4 68 "CheckRestartModel" "files" "I", .fieldLink RX4 19 "CheckRestartModel" "lengths" "[I", .constantLong RX4 89 (2000)] ++ wsX40)
def wsX4_edition : List Cond := .code yX4_edition cX4_edition 3 (some .int) :: ([.fieldLink RX4 54 "CheckRestartModel" "code" "I", .fieldLink RX4 86 "CheckRestartModel" "edition" "I"] ++ wsX40)
def wsX4_output : List Cond := .code yX4_output cX4_output 2 (some .int) :: ([.fieldLink RX4 54 "CheckRestartModel" "code" "I", .fieldLink RX4 62 "CheckRestartModel" "units" "I", .fieldLink RX4 29 "CheckRestartModel" "rows" "[J"] ++ wsX40)
def wsX4_torn : List Cond := .code yX4_torn cX4_torn 2 (some .int) :: ([.fieldLink RX4 54 "CheckRestartModel" "code" "I", .fieldLink RX4 77 "CheckRestartModel" "checks" "I", .fieldLink RX4 50 "CheckRestartModel" "isWhole" "[Z"] ++ wsX40)
def wsX4_row : List Cond := .code yX4_row cX4_row 2 (some .int) :: ([.fieldLink RX4 62 "CheckRestartModel" "units" "I", .fieldLink RX4 54 "CheckRestartModel" "code" "I", .fieldLink RX4 29 "CheckRestartModel" "rows" "[J"] ++ wsX40)
def wsX4_isOver : List Cond := .code yX4_isOver cX4_isOver 3 (some .boolean) :: ([.fieldLink RX4 68 "CheckRestartModel" "files" "I", .fieldLink RX4 26 "CheckRestartModel" "trialAt" "[I", .fieldLink RX4 19 "CheckRestartModel" "lengths" "[I"] ++ wsX40)
def wsX4_equal : List Cond := .code yX4_equal cX4_equal 8 (some .boolean) :: ([.fieldLink RX4 54 "CheckRestartModel" "code" "I", .fieldLink RX4 65 "CheckRestartModel" "many" "I", .fieldLink RX4 16 "CheckRestartModel" "trial" "[J", .fieldLink RX4 13 "CheckRestartModel" "first" "[J", .fieldLink RX4 68 "CheckRestartModel" "files" "I", .fieldLink RX4 26 "CheckRestartModel" "trialAt" "[I", .fieldLink RX4 62 "CheckRestartModel" "units" "I", .fieldLink RX4 19 "CheckRestartModel" "lengths" "[I", .constantLong RX4 75 (1000), .fieldLink RX4 29 "CheckRestartModel" "rows" "[J", .fieldLink RX4 7 "CheckRestartModel" "cells" "[J", .methodLink RX4 91 yX4_isOver, .instanceMethod yX4_isOver, .selects RX4 yX4_isOver yX4_isOver, .initialized RX4, .code yX4_isOver cX4_isOver 3 (some .boolean)] ++ wsX40)
def wsX4_count : List Cond := .code yX4_count cX4_count 2 (some .int) :: ([.fieldLink RX4 54 "CheckRestartModel" "code" "I", .fieldLink RX4 65 "CheckRestartModel" "many" "I", .fieldLink RX4 68 "CheckRestartModel" "files" "I", .fieldLink RX4 62 "CheckRestartModel" "units" "I", .fieldLink RX4 77 "CheckRestartModel" "checks" "I", .fieldLink RX4 58 "CheckRestartModel" "down" "Z", .fieldLink RX4 83 "CheckRestartModel" "cuts" "I", .methodLink RX4 71 yX4_isEnded, .instanceMethod yX4_isEnded, .selects RX4 yX4_isEnded yX4_isEnded, .initialized RX4, .code yX4_isEnded cX4_isEnded 3 (some .boolean), .fieldLink RX4 23 "CheckRestartModel" "positions" "[I", .fieldLink RX4 19 "CheckRestartModel" "lengths" "[I"] ++ wsX40)
def wsJx00060_init_a7421 : List Cond := .code yJx00060_init_a7421 cJx00060_init_a7421 2 none :: ([])
def wsL_get : List Cond := .codeWith yL_get cL_get 4 (some .int) [(0, 8, 11, 13)] :: ([.classLink RL 13 "java/lang/IllegalArgumentException", .methodLink RL 7 yX3_get, .instanceMethod yX3_get, .selects RX3 yX3_get yX3_get, .initialized RX3, .code yX3_get cX3_get 2 (some .long), .classLink RX3 111 "java/lang/IllegalArgumentException", .initialized "java/lang/IllegalArgumentException", .fieldLink RX3 10 "CheckRestart" "job" "LCheckRestart$Job;", .fieldLink RX3 57 "CheckRestart$Job" "cellCount" "I", .fieldLink RX3 21 "CheckRestart" "progress" "LCheckRestart$Progress;", .fieldLink RX3 63 "CheckRestart$Progress" "cells" "[J"] ++ wsX30 ++ wsX10 ++ wsX20 ++ (vx_atS RX3 115 "java/lang/IllegalArgumentException" ["java/lang/RuntimeException", "java/lang/Exception"]).filter goodWord)
def wsL_row : List Cond := .codeWith yL_row cL_row 4 (some .int) [(0, 9, 12, 19)] :: ([.methodLink RL 15 yX3_row, .instanceMethod yX3_row, .selects RX3 yX3_row yX3_row, .initialized RX3, .code yX3_row cX3_row 2 (some .int), .classLink RX3 141 RJx00060, .instantiable RJx00060 6, .initialized RJx00060, .fieldLink RX3 28 "CheckRestart" "rows" "[J", .methodLink RX3 127 yX3_hasRow, .instanceMethod yX3_hasRow, .selects RX3 yX3_hasRow yX3_hasRow, .code yX3_hasRow cX3_hasRow 2 (some .boolean), .fieldLink RX3 21 "CheckRestart" "progress" "LCheckRestart$Progress;", .fieldLink RX3 73 "CheckRestart$Progress" "units" "I"] ++ wsJx000600 ++ wsX30 ++ wsX20)
def wsL_law0_r1 : List Cond := [Cond.classLink RL 8 RX3, Cond.instantiable RX3 9, Cond.initialized RX3, Cond.classLink RL 22 RX4, Cond.instantiable RX4 23, Cond.initialized RX4, Cond.arrayClass .long, Cond.constantLong RL 25 (4294967295), Cond.methodLink RL 21 yX3_init, Cond.instanceMethod yX3_init, Cond.code yX3_init cX3_init 1 none, Cond.methodLink RX3 1 objectInit, Cond.instanceMethod objectInit, Cond.code objectInit ⟨#[0xb1]⟩ 1 none, Cond.classLink RX3 7 RX1, Cond.instantiable RX1 4, Cond.initialized RX1, Cond.fieldLink RX3 10 "CheckRestart" "job" "LCheckRestart$Job;", Cond.classLink RX3 16 RX2, Cond.instantiable RX2 4, Cond.initialized RX2, Cond.fieldLink RX3 21 "CheckRestart" "progress" "LCheckRestart$Progress;", Cond.fieldLink RX3 25 "CheckRestart" "replay" "LCheckRestart$Progress;", Cond.fieldLink RX3 28 "CheckRestart" "rows" "[J"]
def wsL_law0_r2 : List Cond := [Cond.classLink RX3 32 RX0, Cond.instantiable RX0 7, Cond.initialized RX0, Cond.fieldLink RX3 35 "CheckRestart" "checkpoints" "LCheckRestart$Checkpoints;", Cond.fieldLink RX3 39 "CheckRestart" "editionNow" "I", Cond.fieldLink RX3 43 "CheckRestart" "down" "Z", Cond.fieldLink RX3 47 "CheckRestart" "cutPart" "I", Cond.fieldLink RX3 50 "CheckRestart" "cutsThatCame" "I", Cond.instanceMethod yX1_init, Cond.code yX1_init cX1_init 1 none, Cond.methodLink RX1 3 objectInit, Cond.fieldLink RX1 9 "CheckRestart$Job" "firstValues" "[J", Cond.arrayClass .int, Cond.fieldLink RX1 15 "CheckRestart$Job" "lengths" "[I", Cond.fieldLink RX1 19 "CheckRestart$Job" "cellCount" "I", Cond.fieldLink RX1 23 "CheckRestart$Job" "fileCount" "I", Cond.methodLink RX3 18 yX2_init, Cond.instanceMethod yX2_init, Cond.code yX2_init cX2_init 2 none, Cond.methodLink RX2 3 objectInit, Cond.fieldLink RX2 9 "CheckRestart$Progress" "cells" "[J", Cond.fieldLink RX2 15 "CheckRestart$Progress" "positions" "[I", Cond.fieldLink RX2 19 "CheckRestart$Progress" "units" "I", Cond.fieldLink RX2 23 "CheckRestart$Progress" "job" "LCheckRestart$Job;"]
def wsL_law0_r3 : List Cond := [Cond.instanceMethod yX0_init, Cond.code yX0_init cX0_init 1 none, Cond.methodLink RX0 3 objectInit, Cond.arrayClass .boolean, Cond.fieldLink RX0 9 "CheckRestart$Checkpoints" "whole" "[Z", Cond.fieldLink RX0 15 "CheckRestart$Checkpoints" "editions" "[I", Cond.fieldLink RX0 19 "CheckRestart$Checkpoints" "units" "[I", Cond.fieldLink RX0 22 "CheckRestart$Checkpoints" "cellCounts" "[I", Cond.fieldLink RX0 25 "CheckRestart$Checkpoints" "cells" "[J", Cond.fieldLink RX0 29 "CheckRestart$Checkpoints" "positions" "[I", Cond.fieldLink RX0 32 "CheckRestart$Checkpoints" "begun" "I", Cond.methodLink RL 24 yX4_init, Cond.instanceMethod yX4_init, Cond.code yX4_init cX4_init 1 none, Cond.methodLink RX4 1 objectInit, Cond.fieldLink RX4 7 "CheckRestartModel" "cells" "[J", Cond.fieldLink RX4 13 "CheckRestartModel" "first" "[J", Cond.fieldLink RX4 16 "CheckRestartModel" "trial" "[J", Cond.fieldLink RX4 19 "CheckRestartModel" "lengths" "[I", Cond.fieldLink RX4 23 "CheckRestartModel" "positions" "[I", Cond.fieldLink RX4 26 "CheckRestartModel" "trialAt" "[I", Cond.fieldLink RX4 29 "CheckRestartModel" "rows" "[J", Cond.fieldLink RX4 32 "CheckRestartModel" "keptCells" "[J", Cond.fieldLink RX4 35 "CheckRestartModel" "keptPositions" "[I"]
def wsL_law0_r4 : List Cond := [Cond.fieldLink RX4 38 "CheckRestartModel" "keptMany" "[I", Cond.fieldLink RX4 41 "CheckRestartModel" "keptFiles" "[I", Cond.fieldLink RX4 44 "CheckRestartModel" "keptUnits" "[I", Cond.fieldLink RX4 47 "CheckRestartModel" "keptEdition" "[I", Cond.fieldLink RX4 50 "CheckRestartModel" "isWhole" "[Z", Cond.methodLink RL 27 yX3_cell, Cond.instanceMethod yX3_cell, Cond.selects RX3 yX3_cell yX3_cell, Cond.code yX3_cell cX3_cell 4 (some .int), Cond.fieldLink RX3 57 "CheckRestart$Job" "cellCount" "I", Cond.fieldLink RX3 60 "CheckRestart$Job" "firstValues" "[J", Cond.fieldLink RX3 63 "CheckRestart$Progress" "cells" "[J", Cond.methodLink RX3 53 yX3_isSetupOver, Cond.instanceMethod yX3_isSetupOver, Cond.selects RX3 yX3_isSetupOver yX3_isSetupOver, Cond.code yX3_isSetupOver cX3_isSetupOver 1 (some .boolean), Cond.fieldLink RX3 73 "CheckRestart$Progress" "units" "I", Cond.methodLink RL 31 yX4_cell, Cond.instanceMethod yX4_cell, Cond.selects RX4 yX4_cell yX4_cell, Cond.code yX4_cell cX4_cell 3 (some .int), Cond.fieldLink RX4 54 "CheckRestartModel" "code" "I", Cond.fieldLink RX4 58 "CheckRestartModel" "down" "Z", Cond.fieldLink RX4 62 "CheckRestartModel" "units" "I"]
def wsL_law0_r5 : List Cond := [Cond.fieldLink RX4 65 "CheckRestartModel" "many" "I", Cond.methodLink RL 32 yX3_file, Cond.instanceMethod yX3_file, Cond.selects RX3 yX3_file yX3_file, Cond.code yX3_file cX3_file 3 (some .int), Cond.fieldLink RX3 66 "CheckRestart$Job" "fileCount" "I", Cond.fieldLink RX3 69 "CheckRestart$Job" "lengths" "[I", Cond.methodLink RL 35 yX4_file, Cond.instanceMethod yX4_file, Cond.selects RX4 yX4_file yX4_file, Cond.code yX4_file cX4_file 2 (some .int), Cond.fieldLink RX4 68 "CheckRestartModel" "files" "I", Cond.methodLink RL 36 yX3_step, Cond.instanceMethod yX3_step, Cond.selects RX3 yX3_step yX3_step, Cond.code yX3_step cX3_step 4 (some .int), Cond.methodLink RX3 76 yX2_isEnded, Cond.instanceMethod yX2_isEnded, Cond.selects RX2 yX2_isEnded yX2_isEnded, Cond.code yX2_isEnded cX2_isEnded 2 (some .boolean), Cond.fieldLink RX2 35 "CheckRestart$Job" "fileCount" "I", Cond.fieldLink RX2 38 "CheckRestart$Job" "lengths" "[I", Cond.methodLink RX3 79 yX2_doUnit, Cond.instanceMethod yX2_doUnit]
def wsL_law0_r6 : List Cond := [Cond.selects RX2 yX2_doUnit yX2_doUnit, Cond.code yX2_doUnit cX2_doUnit 5 (some .long), Cond.fieldLink RX2 27 "CheckRestart$Job" "cellCount" "I", Cond.methodLink RX2 41 yX2_readRecord, Cond.instanceMethod yX2_readRecord, Cond.selects RX2 yX2_readRecord yX2_readRecord, Cond.code yX2_readRecord cX2_readRecord 4 (some .long), Cond.constantLong RX2 45 (1000), Cond.methodLink RL 39 yX4_step, Cond.instanceMethod yX4_step, Cond.selects RX4 yX4_step yX4_step, Cond.code yX4_step cX4_step 8 (some .int), Cond.constantLong RX4 75 (1000), Cond.methodLink RX4 71 yX4_isEnded, Cond.instanceMethod yX4_isEnded, Cond.selects RX4 yX4_isEnded yX4_isEnded, Cond.code yX4_isEnded cX4_isEnded 3 (some .boolean), Cond.methodLink RL 40 yX3_check, Cond.instanceMethod yX3_check, Cond.selects RX3 yX3_check yX3_check, Cond.code yX3_check cX3_check 2 (some .int), Cond.fieldLink RX3 83 "CheckRestart$Checkpoints" "begun" "I", Cond.methodLink RX3 86 yX0_addTorn, Cond.instanceMethod yX0_addTorn]
def wsL_law0_r7 : List Cond := [Cond.selects RX0 yX0_addTorn yX0_addTorn, Cond.code yX0_addTorn cX0_addTorn 1 none, Cond.methodLink RX3 89 yX3_goDown, Cond.instanceMethod yX3_goDown, Cond.selects RX3 yX3_goDown yX3_goDown, Cond.code yX3_goDown cX3_goDown 1 none, Cond.methodLink RX3 92 yX0_addWhole, Cond.instanceMethod yX0_addWhole, Cond.selects RX0 yX0_addWhole yX0_addWhole, Cond.code yX0_addWhole cX0_addWhole 4 none, Cond.fieldLink RX0 36 "CheckRestart$Progress" "units" "I", Cond.fieldLink RX0 40 "CheckRestart$Progress" "job" "LCheckRestart$Job;", Cond.fieldLink RX0 44 "CheckRestart$Job" "cellCount" "I", Cond.fieldLink RX0 49 "CheckRestart$Progress" "cells" "[J", Cond.methodLink RX0 50 arraycopyName, Cond.native arraycopyName, Cond.static arraycopyName, Cond.initialized "java/lang/System", Cond.fieldLink RX0 56 "CheckRestart$Progress" "positions" "[I", Cond.methodLink RL 44 yX4_check, Cond.instanceMethod yX4_check, Cond.selects RX4 yX4_check yX4_check, Cond.code yX4_check cX4_check 4 (some .int), Cond.fieldLink RX4 77 "CheckRestartModel" "checks" "I"]
def wsL_law0_r8 : List Cond := [Cond.fieldLink RX4 80 "CheckRestartModel" "cutAt" "I", Cond.fieldLink RX4 83 "CheckRestartModel" "cuts" "I", Cond.fieldLink RX4 86 "CheckRestartModel" "edition" "I", Cond.methodLink RL 45 yX3_cut, Cond.instanceMethod yX3_cut, Cond.selects RX3 yX3_cut yX3_cut, Cond.code yX3_cut cX3_cut 2 (some .int), Cond.methodLink RL 48 yX4_cut, Cond.instanceMethod yX4_cut, Cond.selects RX4 yX4_cut yX4_cut, Cond.code yX4_cut cX4_cut 2 (some .int), Cond.methodLink RL 49 yX3_restart, Cond.instanceMethod yX3_restart, Cond.selects RX3 yX3_restart yX3_restart, Cond.code yX3_restart cX3_restart 3 (some .int), Cond.fieldLink RX3 100 "CheckRestart$Checkpoints" "editions" "[I", Cond.methodLink RX3 96 yX0_latestWholeUpTo, Cond.instanceMethod yX0_latestWholeUpTo, Cond.selects RX0 yX0_latestWholeUpTo yX0_latestWholeUpTo, Cond.code yX0_latestWholeUpTo cX0_latestWholeUpTo 3 (some .int), Cond.methodLink RX0 57 yX0_has, Cond.instanceMethod yX0_has, Cond.selects RX0 yX0_has yX0_has, Cond.code yX0_has cX0_has 2 (some .boolean)]
def wsL_law0_r9 : List Cond := [Cond.methodLink RX3 103 yX0_isPastAFilesEnd, Cond.instanceMethod yX0_isPastAFilesEnd, Cond.selects RX0 yX0_isPastAFilesEnd yX0_isPastAFilesEnd, Cond.code yX0_isPastAFilesEnd cX0_isPastAFilesEnd 5 (some .boolean), Cond.fieldLink RX0 61 "CheckRestart$Job" "fileCount" "I", Cond.fieldLink RX0 64 "CheckRestart$Job" "lengths" "[I", Cond.methodLink RX3 107 yX0_putBack, Cond.instanceMethod yX0_putBack, Cond.selects RX0 yX0_putBack yX0_putBack, Cond.code yX0_putBack cX0_putBack 4 none, Cond.methodLink RX0 67 yX2_startOver, Cond.instanceMethod yX2_startOver, Cond.selects RX2 yX2_startOver yX2_startOver, Cond.code yX2_startOver cX2_startOver 2 none, Cond.fieldLink RX2 32 "CheckRestart$Job" "firstValues" "[J", Cond.methodLink RL 52 yX4_restart, Cond.instanceMethod yX4_restart, Cond.selects RX4 yX4_restart yX4_restart, Cond.code yX4_restart cX4_restart 4 (some .int), Cond.methodLink RL 53 yL_get, Cond.static yL_get, Cond.initialized RL, Cond.codeWith yL_get cL_get 4 (some .int) [(0, 8, 11, 13)], Cond.classLink RL 13 "java/lang/IllegalArgumentException"]
def wsL_law0_r10 : List Cond := [Cond.methodLink RL 7 yX3_get, Cond.instanceMethod yX3_get, Cond.selects RX3 yX3_get yX3_get, Cond.code yX3_get cX3_get 2 (some .long), Cond.classLink RX3 111 "java/lang/IllegalArgumentException", Cond.initialized "java/lang/IllegalArgumentException", Cond.methodLink RL 58 yX4_get, Cond.instanceMethod yX4_get, Cond.selects RX4 yX4_get yX4_get, Cond.code yX4_get cX4_get 2 (some .long), Cond.methodLink RL 59 yX4_thrown, Cond.instanceMethod yX4_thrown, Cond.selects RX4 yX4_thrown yX4_thrown, Cond.code yX4_thrown cX4_thrown 1 (some .int), Cond.methodLink RL 62 yX3_position, Cond.instanceMethod yX3_position, Cond.selects RX3 yX3_position yX3_position, Cond.code yX3_position cX3_position 2 (some .int), Cond.fieldLink RX3 122 "CheckRestart$Progress" "positions" "[I", Cond.methodLink RX3 118 yX1_hasFile, Cond.instanceMethod yX1_hasFile, Cond.selects RX1 yX1_hasFile yX1_hasFile, Cond.code yX1_hasFile cX1_hasFile 2 (some .boolean), Cond.methodLink RL 65 yX4_position]
def wsL_law0_r11 : List Cond := [Cond.instanceMethod yX4_position, Cond.selects RX4 yX4_position yX4_position, Cond.code yX4_position cX4_position 2 (some .int), Cond.methodLink RL 66 yX3_grow, Cond.instanceMethod yX3_grow, Cond.selects RX3 yX3_grow yX3_grow, Cond.code yX3_grow cX3_grow 5 (some .int), Cond.constantLong RX3 125 (2000), Cond.methodLink RL 70 yX4_grow, Cond.instanceMethod yX4_grow, Cond.selects RX4 yX4_grow yX4_grow, Cond.code yX4_grow cX4_grow 5 (some .int), Cond.constantLong RX4 89 (2000), Cond.methodLink RL 71 yX3_edition, Cond.instanceMethod yX3_edition, Cond.selects RX3 yX3_edition yX3_edition, Cond.code yX3_edition cX3_edition 3 (some .int), Cond.methodLink RL 74 yX4_edition, Cond.instanceMethod yX4_edition, Cond.selects RX4 yX4_edition yX4_edition, Cond.code yX4_edition cX4_edition 3 (some .int), Cond.methodLink RL 75 yX3_output, Cond.instanceMethod yX3_output, Cond.selects RX3 yX3_output yX3_output]
def wsL_law0_r12 : List Cond := [Cond.code yX3_output cX3_output 2 (some .int), Cond.methodLink RX3 127 yX3_hasRow, Cond.instanceMethod yX3_hasRow, Cond.selects RX3 yX3_hasRow yX3_hasRow, Cond.code yX3_hasRow cX3_hasRow 2 (some .boolean), Cond.methodLink RL 78 yX4_output, Cond.instanceMethod yX4_output, Cond.selects RX4 yX4_output yX4_output, Cond.code yX4_output cX4_output 2 (some .int), Cond.methodLink RL 79 yX3_torn, Cond.instanceMethod yX3_torn, Cond.selects RX3 yX3_torn yX3_torn, Cond.code yX3_torn cX3_torn 2 (some .int), Cond.fieldLink RX3 133 "CheckRestart$Checkpoints" "whole" "[Z", Cond.methodLink RX3 130 yX0_has, Cond.methodLink RX3 137 yX3_asNumber, Cond.static yX3_asNumber, Cond.code yX3_asNumber cX3_asNumber 1 (some .int), Cond.methodLink RL 82 yX4_torn, Cond.instanceMethod yX4_torn, Cond.selects RX4 yX4_torn yX4_torn, Cond.code yX4_torn cX4_torn 2 (some .int), Cond.methodLink RL 83 yL_row, Cond.static yL_row]
def wsL_law0_r13 : List Cond := [Cond.codeWith yL_row cL_row 4 (some .int) [(0, 9, 12, 19)], Cond.methodLink RL 15 yX3_row, Cond.instanceMethod yX3_row, Cond.selects RX3 yX3_row yX3_row, Cond.code yX3_row cX3_row 2 (some .int), Cond.classLink RX3 141 RJx00060, Cond.instantiable RJx00060 6, Cond.initialized RJx00060, Cond.methodLink RL 85 yX4_row, Cond.instanceMethod yX4_row, Cond.selects RX4 yX4_row yX4_row, Cond.code yX4_row cX4_row 2 (some .int), Cond.methodLink RL 86 yX3_equal, Cond.instanceMethod yX3_equal, Cond.selects RX3 yX3_equal yX3_equal, Cond.code yX3_equal cX3_equal 2 (some .boolean), Cond.methodLink RX3 146 yX2_startOver, Cond.methodLink RX3 149 yX2_hasCellsOf, Cond.instanceMethod yX2_hasCellsOf, Cond.selects RX2 yX2_hasCellsOf yX2_hasCellsOf, Cond.code yX2_hasCellsOf cX2_hasCellsOf 3 (some .boolean), Cond.methodLink RL 90 yX4_equal, Cond.instanceMethod yX4_equal, Cond.selects RX4 yX4_equal yX4_equal]
def wsL_law0_r14 : List Cond := [Cond.code yX4_equal cX4_equal 8 (some .boolean), Cond.methodLink RX4 91 yX4_isOver, Cond.instanceMethod yX4_isOver, Cond.selects RX4 yX4_isOver yX4_isOver, Cond.code yX4_isOver cX4_isOver 3 (some .boolean), Cond.methodLink RL 91 yX3_count, Cond.instanceMethod yX3_count, Cond.selects RX3 yX3_count yX3_count, Cond.code yX3_count cX3_count 2 (some .int), Cond.methodLink RL 94 yX4_count, Cond.instanceMethod yX4_count, Cond.selects RX4 yX4_count yX4_count, Cond.code yX4_count cX4_count 2 (some .int)]
def wsL_law0 : List Cond := (wsL_law0_r1 ++ (wsL_law0_r2 ++ (wsL_law0_r3 ++ (wsL_law0_r4 ++ (wsL_law0_r5 ++ (wsL_law0_r6 ++ (wsL_law0_r7 ++ (wsL_law0_r8 ++ (wsL_law0_r9 ++ (wsL_law0_r10 ++ (wsL_law0_r11 ++ (wsL_law0_r12 ++ (wsL_law0_r13 ++ wsL_law0_r14))))))))))))) ++ wsX30 ++ wsX40 ++ wsX10 ++ wsX20 ++ wsX00 ++ wsJx000600 ++ ([] : List Cond)
def wsL_law : List Cond := wsL_law0 ++ (vx_atS RX3 115 "java/lang/IllegalArgumentException" ["java/lang/RuntimeException", "java/lang/Exception"]).filter goodWord
end
section
set_option maxRecDepth 20000 in
theorem wsL_law_in0 : ∀ w ∈ wsL_law0, w ∈ lw_tbl := fun w h => (goodIn_p wsL_law0 [24, 27, 32, 64, 90, 376, 149, 153, 455, 157, 459, 161, 165, 169, 173, 463, 467, 178, 182, 186, 190, 472, 197, 476, 201, 205, 209, 213, 217, 221, 480, 275, 484, 451, 225, 229, 488, 233, 492, 238, 497, 242, 246, 501, 250, 254, 505, 350, 509, 258, 263, 513, 517, 267, 521] rfl (by decide +kernel) w h).1
theorem wsL_law_x0 : ∀ w ∈ (vx_atS RX3 115 "java/lang/IllegalArgumentException" ["java/lang/RuntimeException", "java/lang/Exception"]).filter goodWord, w ∈ lw_tbl := by decide +kernel
theorem wsL_law_in : ∀ w ∈ wsL_law, w ∈ lw_tbl := fun w h => (List.mem_append.mp h).elim (fun h => wsL_law_in0 w h) (fun h => wsL_law_x0 w h)
theorem inlX0 : ∀ w ∈ wsX00, w ∈ wsL_law := fun _ h => List.mem_append_left _ (List.mem_append_left _ (List.mem_append_left _ (List.mem_append_right _ h)))
theorem inX0 : ∀ w ∈ wsX00, w ∈ lw_tbl := fun w h => wsL_law_in w (inlX0 w h)
theorem inlX1 : ∀ w ∈ wsX10, w ∈ wsL_law := fun _ h => List.mem_append_left _ (List.mem_append_left _ (List.mem_append_left _ (List.mem_append_left _ (List.mem_append_left _ (List.mem_append_right _ h)))))
theorem inX1 : ∀ w ∈ wsX10, w ∈ lw_tbl := fun w h => wsL_law_in w (inlX1 w h)
theorem inlX2 : ∀ w ∈ wsX20, w ∈ wsL_law := fun _ h => List.mem_append_left _ (List.mem_append_left _ (List.mem_append_left _ (List.mem_append_left _ (List.mem_append_right _ h))))
theorem inX2 : ∀ w ∈ wsX20, w ∈ lw_tbl := fun w h => wsL_law_in w (inlX2 w h)
theorem inlX3 : ∀ w ∈ wsX30, w ∈ wsL_law := fun _ h => List.mem_append_left _ (List.mem_append_left _ (List.mem_append_left _ (List.mem_append_left _ (List.mem_append_left _ (List.mem_append_left _ (List.mem_append_left _ (List.mem_append_right _ h)))))))
theorem inX3 : ∀ w ∈ wsX30, w ∈ lw_tbl := fun w h => wsL_law_in w (inlX3 w h)
theorem inlX4 : ∀ w ∈ wsX40, w ∈ wsL_law := fun _ h => List.mem_append_left _ (List.mem_append_left _ (List.mem_append_left _ (List.mem_append_left _ (List.mem_append_left _ (List.mem_append_left _ (List.mem_append_right _ h))))))
theorem inX4 : ∀ w ∈ wsX40, w ∈ lw_tbl := fun w h => wsL_law_in w (inlX4 w h)
theorem inlJx00060 : ∀ w ∈ wsJx000600, w ∈ wsL_law := fun _ h => List.mem_append_left _ (List.mem_append_left _ (List.mem_append_right _ h))
theorem inJx00060 : ∀ w ∈ wsJx000600, w ∈ lw_tbl := fun w h => wsL_law_in w (inlJx00060 w h)
theorem inJ0 : ∀ w ∈ wsJ00, w ∈ lw_tbl := by decide +kernel
theorem inJ10 : ∀ w ∈ wsJ100, w ∈ lw_tbl := by decide +kernel
end
section
theorem dX0_init_0 : decode cX0_init 0 = .ok (.aload_n 0, 1) := by decide +kernel
theorem dX0_init_1 : decode cX0_init 1 = .ok (.invokespecial 3, 3) := by decide +kernel
theorem dX0_init_4 : decode cX0_init 4 = .ok (.aload_n 0, 1) := by decide +kernel
theorem dX0_init_5 : decode cX0_init 5 = .ok (.bipush 100, 2) := by decide +kernel
theorem dX0_init_7 : decode cX0_init 7 = .ok (.newarray .boolean, 2) := by decide +kernel
theorem dX0_init_9 : decode cX0_init 9 = .ok (.putfield 9, 3) := by decide +kernel
theorem dX0_init_12 : decode cX0_init 12 = .ok (.aload_n 0, 1) := by decide +kernel
theorem dX0_init_13 : decode cX0_init 13 = .ok (.bipush 100, 2) := by decide +kernel
theorem dX0_init_15 : decode cX0_init 15 = .ok (.newarray .int, 2) := by decide +kernel
theorem dX0_init_17 : decode cX0_init 17 = .ok (.putfield 15, 3) := by decide +kernel
theorem dX0_init_20 : decode cX0_init 20 = .ok (.aload_n 0, 1) := by decide +kernel
theorem dX0_init_21 : decode cX0_init 21 = .ok (.bipush 100, 2) := by decide +kernel
theorem dX0_init_23 : decode cX0_init 23 = .ok (.newarray .int, 2) := by decide +kernel
theorem dX0_init_25 : decode cX0_init 25 = .ok (.putfield 19, 3) := by decide +kernel
theorem dX0_init_28 : decode cX0_init 28 = .ok (.aload_n 0, 1) := by decide +kernel
theorem dX0_init_29 : decode cX0_init 29 = .ok (.bipush 100, 2) := by decide +kernel
theorem dX0_init_31 : decode cX0_init 31 = .ok (.newarray .int, 2) := by decide +kernel
theorem dX0_init_33 : decode cX0_init 33 = .ok (.putfield 22, 3) := by decide +kernel
theorem dX0_init_36 : decode cX0_init 36 = .ok (.aload_n 0, 1) := by decide +kernel
theorem dX0_init_37 : decode cX0_init 37 = .ok (.sipush 1200, 3) := by decide +kernel
theorem dX0_init_40 : decode cX0_init 40 = .ok (.newarray .long, 2) := by decide +kernel
theorem dX0_init_42 : decode cX0_init 42 = .ok (.putfield 25, 3) := by decide +kernel
theorem dX0_init_45 : decode cX0_init 45 = .ok (.aload_n 0, 1) := by decide +kernel
theorem dX0_init_46 : decode cX0_init 46 = .ok (.sipush 600, 3) := by decide +kernel
theorem dX0_init_49 : decode cX0_init 49 = .ok (.newarray .int, 2) := by decide +kernel
theorem dX0_init_51 : decode cX0_init 51 = .ok (.putfield 29, 3) := by decide +kernel
theorem dX0_init_54 : decode cX0_init 54 = .ok (.aload_n 0, 1) := by decide +kernel
theorem dX0_init_55 : decode cX0_init 55 = .ok (.iconst 0, 1) := by decide +kernel
theorem dX0_init_56 : decode cX0_init 56 = .ok (.putfield 32, 3) := by decide +kernel
theorem dX0_init_59 : decode cX0_init 59 = .ok (.return_, 1) := by decide +kernel
theorem dX0_has_0 : decode cX0_has 0 = .ok (.iload_n 1, 1) := by decide +kernel
theorem dX0_has_1 : decode cX0_has 1 = .ok (.iconst 1, 1) := by decide +kernel
theorem dX0_has_2 : decode cX0_has 2 = .ok (.if_icmp .lt 15, 3) := by decide +kernel
theorem dX0_has_5 : decode cX0_has 5 = .ok (.iload_n 1, 1) := by decide +kernel
theorem dX0_has_6 : decode cX0_has 6 = .ok (.aload_n 0, 1) := by decide +kernel
theorem dX0_has_7 : decode cX0_has 7 = .ok (.getfield 32, 3) := by decide +kernel
theorem dX0_has_10 : decode cX0_has 10 = .ok (.if_icmp .gt 7, 3) := by decide +kernel
theorem dX0_has_13 : decode cX0_has 13 = .ok (.iconst 1, 1) := by decide +kernel
theorem dX0_has_14 : decode cX0_has 14 = .ok (.goto 4, 3) := by decide +kernel
theorem dX0_has_17 : decode cX0_has 17 = .ok (.iconst 0, 1) := by decide +kernel
theorem dX0_has_18 : decode cX0_has 18 = .ok (.ireturn, 1) := by decide +kernel
theorem dX0_addTorn_0 : decode cX0_addTorn 0 = .ok (.aload_n 0, 1) := by decide +kernel
theorem dX0_addTorn_1 : decode cX0_addTorn 1 = .ok (.getfield 32, 3) := by decide +kernel
theorem dX0_addTorn_4 : decode cX0_addTorn 4 = .ok (.bipush 100, 2) := by decide +kernel
theorem dX0_addTorn_6 : decode cX0_addTorn 6 = .ok (.if_icmp .lt 4, 3) := by decide +kernel
theorem dX0_addTorn_9 : decode cX0_addTorn 9 = .ok (.return_, 1) := by decide +kernel
theorem dX0_addTorn_10 : decode cX0_addTorn 10 = .ok (.aload_n 0, 1) := by decide +kernel
theorem dX0_addTorn_11 : decode cX0_addTorn 11 = .ok (.getfield 9, 3) := by decide +kernel
theorem dX0_addTorn_14 : decode cX0_addTorn 14 = .ok (.aload_n 0, 1) := by decide +kernel
theorem dX0_addTorn_15 : decode cX0_addTorn 15 = .ok (.getfield 32, 3) := by decide +kernel
theorem dX0_addTorn_18 : decode cX0_addTorn 18 = .ok (.iconst 0, 1) := by decide +kernel
theorem dX0_addTorn_19 : decode cX0_addTorn 19 = .ok (.bastore, 1) := by decide +kernel
theorem dX0_addTorn_20 : decode cX0_addTorn 20 = .ok (.aload_n 0, 1) := by decide +kernel
theorem dX0_addTorn_21 : decode cX0_addTorn 21 = .ok (.dup, 1) := by decide +kernel
theorem dX0_addTorn_22 : decode cX0_addTorn 22 = .ok (.getfield 32, 3) := by decide +kernel
theorem dX0_addTorn_25 : decode cX0_addTorn 25 = .ok (.iconst 1, 1) := by decide +kernel
theorem dX0_addTorn_26 : decode cX0_addTorn 26 = .ok (.iadd, 1) := by decide +kernel
theorem dX0_addTorn_27 : decode cX0_addTorn 27 = .ok (.putfield 32, 3) := by decide +kernel
theorem dX0_addTorn_30 : decode cX0_addTorn 30 = .ok (.return_, 1) := by decide +kernel
theorem dX0_addWhole_0 : decode cX0_addWhole 0 = .ok (.aload_n 0, 1) := by decide +kernel
theorem dX0_addWhole_1 : decode cX0_addWhole 1 = .ok (.getfield 32, 3) := by decide +kernel
theorem dX0_addWhole_4 : decode cX0_addWhole 4 = .ok (.bipush 100, 2) := by decide +kernel
theorem dX0_addWhole_6 : decode cX0_addWhole 6 = .ok (.if_icmp .lt 4, 3) := by decide +kernel
theorem dX0_addWhole_9 : decode cX0_addWhole 9 = .ok (.return_, 1) := by decide +kernel
theorem dX0_addWhole_10 : decode cX0_addWhole 10 = .ok (.aload_n 0, 1) := by decide +kernel
theorem dX0_addWhole_11 : decode cX0_addWhole 11 = .ok (.getfield 32, 3) := by decide +kernel
theorem dX0_addWhole_14 : decode cX0_addWhole 14 = .ok (.istore_n 3, 1) := by decide +kernel
theorem dX0_addWhole_15 : decode cX0_addWhole 15 = .ok (.aload_n 0, 1) := by decide +kernel
theorem dX0_addWhole_16 : decode cX0_addWhole 16 = .ok (.getfield 9, 3) := by decide +kernel
theorem dX0_addWhole_19 : decode cX0_addWhole 19 = .ok (.iload_n 3, 1) := by decide +kernel
theorem dX0_addWhole_20 : decode cX0_addWhole 20 = .ok (.iconst 1, 1) := by decide +kernel
theorem dX0_addWhole_21 : decode cX0_addWhole 21 = .ok (.bastore, 1) := by decide +kernel
theorem dX0_addWhole_22 : decode cX0_addWhole 22 = .ok (.aload_n 0, 1) := by decide +kernel
theorem dX0_addWhole_23 : decode cX0_addWhole 23 = .ok (.getfield 15, 3) := by decide +kernel
theorem dX0_addWhole_26 : decode cX0_addWhole 26 = .ok (.iload_n 3, 1) := by decide +kernel
theorem dX0_addWhole_27 : decode cX0_addWhole 27 = .ok (.iload_n 2, 1) := by decide +kernel
theorem dX0_addWhole_28 : decode cX0_addWhole 28 = .ok (.iastore, 1) := by decide +kernel
theorem dX0_addWhole_29 : decode cX0_addWhole 29 = .ok (.aload_n 0, 1) := by decide +kernel
theorem dX0_addWhole_30 : decode cX0_addWhole 30 = .ok (.getfield 19, 3) := by decide +kernel
theorem dX0_addWhole_33 : decode cX0_addWhole 33 = .ok (.iload_n 3, 1) := by decide +kernel
theorem dX0_addWhole_34 : decode cX0_addWhole 34 = .ok (.aload_n 1, 1) := by decide +kernel
theorem dX0_addWhole_35 : decode cX0_addWhole 35 = .ok (.getfield 36, 3) := by decide +kernel
theorem dX0_addWhole_38 : decode cX0_addWhole 38 = .ok (.iastore, 1) := by decide +kernel
theorem dX0_addWhole_39 : decode cX0_addWhole 39 = .ok (.aload_n 0, 1) := by decide +kernel
theorem dX0_addWhole_40 : decode cX0_addWhole 40 = .ok (.getfield 22, 3) := by decide +kernel
theorem dX0_addWhole_43 : decode cX0_addWhole 43 = .ok (.iload_n 3, 1) := by decide +kernel
theorem dX0_addWhole_44 : decode cX0_addWhole 44 = .ok (.aload_n 1, 1) := by decide +kernel
theorem dX0_addWhole_45 : decode cX0_addWhole 45 = .ok (.getfield 40, 3) := by decide +kernel
theorem dX0_addWhole_48 : decode cX0_addWhole 48 = .ok (.getfield 44, 3) := by decide +kernel
theorem dX0_addWhole_51 : decode cX0_addWhole 51 = .ok (.iastore, 1) := by decide +kernel
theorem dX0_addWhole_52 : decode cX0_addWhole 52 = .ok (.aload_n 1, 1) := by decide +kernel
theorem dX0_addWhole_53 : decode cX0_addWhole 53 = .ok (.getfield 49, 3) := by decide +kernel
theorem dX0_addWhole_56 : decode cX0_addWhole 56 = .ok (.iconst 0, 1) := by decide +kernel
theorem dX0_addWhole_57 : decode cX0_addWhole 57 = .ok (.aload_n 0, 1) := by decide +kernel
theorem dX0_addWhole_58 : decode cX0_addWhole 58 = .ok (.getfield 25, 3) := by decide +kernel
theorem dX0_addWhole_61 : decode cX0_addWhole 61 = .ok (.iload_n 3, 1) := by decide +kernel
theorem dX0_addWhole_62 : decode cX0_addWhole 62 = .ok (.bipush 12, 2) := by decide +kernel
theorem dX0_addWhole_64 : decode cX0_addWhole 64 = .ok (.imul, 1) := by decide +kernel
theorem dX0_addWhole_65 : decode cX0_addWhole 65 = .ok (.bipush 12, 2) := by decide +kernel
theorem dX0_addWhole_67 : decode cX0_addWhole 67 = .ok (.invokestatic 50, 3) := by decide +kernel
theorem dX0_addWhole_70 : decode cX0_addWhole 70 = .ok (.aload_n 1, 1) := by decide +kernel
theorem dX0_addWhole_71 : decode cX0_addWhole 71 = .ok (.getfield 56, 3) := by decide +kernel
theorem dX0_addWhole_74 : decode cX0_addWhole 74 = .ok (.iconst 0, 1) := by decide +kernel
theorem dX0_addWhole_75 : decode cX0_addWhole 75 = .ok (.aload_n 0, 1) := by decide +kernel
theorem dX0_addWhole_76 : decode cX0_addWhole 76 = .ok (.getfield 29, 3) := by decide +kernel
theorem dX0_addWhole_79 : decode cX0_addWhole 79 = .ok (.iload_n 3, 1) := by decide +kernel
theorem dX0_addWhole_80 : decode cX0_addWhole 80 = .ok (.bipush 6, 2) := by decide +kernel
theorem dX0_addWhole_82 : decode cX0_addWhole 82 = .ok (.imul, 1) := by decide +kernel
theorem dX0_addWhole_83 : decode cX0_addWhole 83 = .ok (.bipush 6, 2) := by decide +kernel
theorem dX0_addWhole_85 : decode cX0_addWhole 85 = .ok (.invokestatic 50, 3) := by decide +kernel
theorem dX0_addWhole_88 : decode cX0_addWhole 88 = .ok (.aload_n 0, 1) := by decide +kernel
theorem dX0_addWhole_89 : decode cX0_addWhole 89 = .ok (.dup, 1) := by decide +kernel
theorem dX0_addWhole_90 : decode cX0_addWhole 90 = .ok (.getfield 32, 3) := by decide +kernel
theorem dX0_addWhole_93 : decode cX0_addWhole 93 = .ok (.iconst 1, 1) := by decide +kernel
theorem dX0_addWhole_94 : decode cX0_addWhole 94 = .ok (.iadd, 1) := by decide +kernel
theorem dX0_addWhole_95 : decode cX0_addWhole 95 = .ok (.putfield 32, 3) := by decide +kernel
theorem dX0_addWhole_98 : decode cX0_addWhole 98 = .ok (.return_, 1) := by decide +kernel
set_option maxRecDepth 20000 in
theorem ggX0_latestWholeUpTo_X0_has : GoodIn wsX0_latestWholeUpTo wsX0_has := goodIn_r _ [6, 7, 8, 9, 10, 11, 12, 13, 14] (by decide +kernel) (by decide +kernel)
set_option maxRecDepth 20000 in
theorem gX0_latestWholeUpTo_X0_has : GoodIn wsX0_latestWholeUpTo (wsV RX0 57 RX0 yX0_has wsX0_has) := goodIn_app (goodIn_of _ (by decide +kernel)) ggX0_latestWholeUpTo_X0_has
theorem dX0_latestWholeUpTo_0 : decode cX0_latestWholeUpTo 0 = .ok (.aload_n 0, 1) := by decide +kernel
theorem dX0_latestWholeUpTo_1 : decode cX0_latestWholeUpTo 1 = .ok (.iload_n 1, 1) := by decide +kernel
theorem dX0_latestWholeUpTo_2 : decode cX0_latestWholeUpTo 2 = .ok (.invokevirtual 57, 3) := by decide +kernel
theorem dX0_latestWholeUpTo_5 : decode cX0_latestWholeUpTo 5 = .ok (.ifCond .ne 5, 3) := by decide +kernel
theorem dX0_latestWholeUpTo_8 : decode cX0_latestWholeUpTo 8 = .ok (.iconst (-1), 1) := by decide +kernel
theorem dX0_latestWholeUpTo_9 : decode cX0_latestWholeUpTo 9 = .ok (.ireturn, 1) := by decide +kernel
theorem dX0_latestWholeUpTo_10 : decode cX0_latestWholeUpTo 10 = .ok (.iload_n 1, 1) := by decide +kernel
theorem dX0_latestWholeUpTo_11 : decode cX0_latestWholeUpTo 11 = .ok (.istore_n 2, 1) := by decide +kernel
theorem dX0_latestWholeUpTo_12 : decode cX0_latestWholeUpTo 12 = .ok (.iload_n 2, 1) := by decide +kernel
theorem dX0_latestWholeUpTo_13 : decode cX0_latestWholeUpTo 13 = .ok (.iconst 1, 1) := by decide +kernel
theorem dX0_latestWholeUpTo_14 : decode cX0_latestWholeUpTo 14 = .ok (.if_icmp .lt 22, 3) := by decide +kernel
theorem dX0_latestWholeUpTo_17 : decode cX0_latestWholeUpTo 17 = .ok (.aload_n 0, 1) := by decide +kernel
theorem dX0_latestWholeUpTo_18 : decode cX0_latestWholeUpTo 18 = .ok (.getfield 9, 3) := by decide +kernel
theorem dX0_latestWholeUpTo_21 : decode cX0_latestWholeUpTo 21 = .ok (.iload_n 2, 1) := by decide +kernel
theorem dX0_latestWholeUpTo_22 : decode cX0_latestWholeUpTo 22 = .ok (.iconst 1, 1) := by decide +kernel
theorem dX0_latestWholeUpTo_23 : decode cX0_latestWholeUpTo 23 = .ok (.isub, 1) := by decide +kernel
theorem dX0_latestWholeUpTo_24 : decode cX0_latestWholeUpTo 24 = .ok (.baload, 1) := by decide +kernel
theorem dX0_latestWholeUpTo_25 : decode cX0_latestWholeUpTo 25 = .ok (.ifCond .eq 5, 3) := by decide +kernel
theorem dX0_latestWholeUpTo_28 : decode cX0_latestWholeUpTo 28 = .ok (.iload_n 2, 1) := by decide +kernel
theorem dX0_latestWholeUpTo_29 : decode cX0_latestWholeUpTo 29 = .ok (.ireturn, 1) := by decide +kernel
theorem dX0_latestWholeUpTo_30 : decode cX0_latestWholeUpTo 30 = .ok (.iinc 2 (-1), 3) := by decide +kernel
theorem dX0_latestWholeUpTo_33 : decode cX0_latestWholeUpTo 33 = .ok (.goto (-21), 3) := by decide +kernel
theorem dX0_latestWholeUpTo_36 : decode cX0_latestWholeUpTo 36 = .ok (.iconst (-1), 1) := by decide +kernel
theorem dX0_latestWholeUpTo_37 : decode cX0_latestWholeUpTo 37 = .ok (.ireturn, 1) := by decide +kernel
theorem dX0_isPastAFilesEnd_0 : decode cX0_isPastAFilesEnd 0 = .ok (.iload_n 1, 1) := by decide +kernel
theorem dX0_isPastAFilesEnd_1 : decode cX0_isPastAFilesEnd 1 = .ok (.iconst 1, 1) := by decide +kernel
theorem dX0_isPastAFilesEnd_2 : decode cX0_isPastAFilesEnd 2 = .ok (.isub, 1) := by decide +kernel
theorem dX0_isPastAFilesEnd_3 : decode cX0_isPastAFilesEnd 3 = .ok (.bipush 6, 2) := by decide +kernel
theorem dX0_isPastAFilesEnd_5 : decode cX0_isPastAFilesEnd 5 = .ok (.imul, 1) := by decide +kernel
theorem dX0_isPastAFilesEnd_6 : decode cX0_isPastAFilesEnd 6 = .ok (.istore_n 3, 1) := by decide +kernel
theorem dX0_isPastAFilesEnd_7 : decode cX0_isPastAFilesEnd 7 = .ok (.iconst 0, 1) := by decide +kernel
theorem dX0_isPastAFilesEnd_8 : decode cX0_isPastAFilesEnd 8 = .ok (.istore 4, 2) := by decide +kernel
theorem dX0_isPastAFilesEnd_10 : decode cX0_isPastAFilesEnd 10 = .ok (.iload 4, 2) := by decide +kernel
theorem dX0_isPastAFilesEnd_12 : decode cX0_isPastAFilesEnd 12 = .ok (.aload_n 2, 1) := by decide +kernel
theorem dX0_isPastAFilesEnd_13 : decode cX0_isPastAFilesEnd 13 = .ok (.getfield 61, 3) := by decide +kernel
theorem dX0_isPastAFilesEnd_16 : decode cX0_isPastAFilesEnd 16 = .ok (.if_icmp .ge 30, 3) := by decide +kernel
theorem dX0_isPastAFilesEnd_19 : decode cX0_isPastAFilesEnd 19 = .ok (.aload_n 2, 1) := by decide +kernel
theorem dX0_isPastAFilesEnd_20 : decode cX0_isPastAFilesEnd 20 = .ok (.getfield 64, 3) := by decide +kernel
theorem dX0_isPastAFilesEnd_23 : decode cX0_isPastAFilesEnd 23 = .ok (.iload 4, 2) := by decide +kernel
theorem dX0_isPastAFilesEnd_25 : decode cX0_isPastAFilesEnd 25 = .ok (.iaload, 1) := by decide +kernel
theorem dX0_isPastAFilesEnd_26 : decode cX0_isPastAFilesEnd 26 = .ok (.aload_n 0, 1) := by decide +kernel
theorem dX0_isPastAFilesEnd_27 : decode cX0_isPastAFilesEnd 27 = .ok (.getfield 29, 3) := by decide +kernel
theorem dX0_isPastAFilesEnd_30 : decode cX0_isPastAFilesEnd 30 = .ok (.iload_n 3, 1) := by decide +kernel
theorem dX0_isPastAFilesEnd_31 : decode cX0_isPastAFilesEnd 31 = .ok (.iload 4, 2) := by decide +kernel
theorem dX0_isPastAFilesEnd_33 : decode cX0_isPastAFilesEnd 33 = .ok (.iadd, 1) := by decide +kernel
theorem dX0_isPastAFilesEnd_34 : decode cX0_isPastAFilesEnd 34 = .ok (.iaload, 1) := by decide +kernel
theorem dX0_isPastAFilesEnd_35 : decode cX0_isPastAFilesEnd 35 = .ok (.if_icmp .ge 5, 3) := by decide +kernel
theorem dX0_isPastAFilesEnd_38 : decode cX0_isPastAFilesEnd 38 = .ok (.iconst 1, 1) := by decide +kernel
theorem dX0_isPastAFilesEnd_39 : decode cX0_isPastAFilesEnd 39 = .ok (.ireturn, 1) := by decide +kernel
theorem dX0_isPastAFilesEnd_40 : decode cX0_isPastAFilesEnd 40 = .ok (.iinc 4 1, 3) := by decide +kernel
theorem dX0_isPastAFilesEnd_43 : decode cX0_isPastAFilesEnd 43 = .ok (.goto (-33), 3) := by decide +kernel
theorem dX0_isPastAFilesEnd_46 : decode cX0_isPastAFilesEnd 46 = .ok (.iconst 0, 1) := by decide +kernel
theorem dX0_isPastAFilesEnd_47 : decode cX0_isPastAFilesEnd 47 = .ok (.ireturn, 1) := by decide +kernel
set_option maxRecDepth 20000 in
theorem ggX0_putBack_X2_startOver : GoodIn wsX0_putBack wsX2_startOver := goodIn_r _ [16, 17, 18, 19, 20, 21, 22, 30, 31, 32, 33, 34, 35, 36, 37] (by decide +kernel) (by decide +kernel)
set_option maxRecDepth 20000 in
theorem gX0_putBack_X2_startOver : GoodIn wsX0_putBack (wsV RX0 67 RX2 yX2_startOver wsX2_startOver) := goodIn_app (goodIn_of _ (by decide +kernel)) ggX0_putBack_X2_startOver
theorem dX0_putBack_0 : decode cX0_putBack 0 = .ok (.iload_n 1, 1) := by decide +kernel
theorem dX0_putBack_1 : decode cX0_putBack 1 = .ok (.iconst 1, 1) := by decide +kernel
theorem dX0_putBack_2 : decode cX0_putBack 2 = .ok (.isub, 1) := by decide +kernel
theorem dX0_putBack_3 : decode cX0_putBack 3 = .ok (.istore_n 3, 1) := by decide +kernel
theorem dX0_putBack_4 : decode cX0_putBack 4 = .ok (.aload_n 2, 1) := by decide +kernel
theorem dX0_putBack_5 : decode cX0_putBack 5 = .ok (.invokevirtual 67, 3) := by decide +kernel
theorem dX0_putBack_8 : decode cX0_putBack 8 = .ok (.aload_n 0, 1) := by decide +kernel
theorem dX0_putBack_9 : decode cX0_putBack 9 = .ok (.getfield 25, 3) := by decide +kernel
theorem dX0_putBack_12 : decode cX0_putBack 12 = .ok (.iload_n 3, 1) := by decide +kernel
theorem dX0_putBack_13 : decode cX0_putBack 13 = .ok (.bipush 12, 2) := by decide +kernel
theorem dX0_putBack_15 : decode cX0_putBack 15 = .ok (.imul, 1) := by decide +kernel
theorem dX0_putBack_16 : decode cX0_putBack 16 = .ok (.aload_n 2, 1) := by decide +kernel
theorem dX0_putBack_17 : decode cX0_putBack 17 = .ok (.getfield 49, 3) := by decide +kernel
theorem dX0_putBack_20 : decode cX0_putBack 20 = .ok (.iconst 0, 1) := by decide +kernel
theorem dX0_putBack_21 : decode cX0_putBack 21 = .ok (.aload_n 0, 1) := by decide +kernel
theorem dX0_putBack_22 : decode cX0_putBack 22 = .ok (.getfield 22, 3) := by decide +kernel
theorem dX0_putBack_25 : decode cX0_putBack 25 = .ok (.iload_n 3, 1) := by decide +kernel
theorem dX0_putBack_26 : decode cX0_putBack 26 = .ok (.iaload, 1) := by decide +kernel
theorem dX0_putBack_27 : decode cX0_putBack 27 = .ok (.invokestatic 50, 3) := by decide +kernel
theorem dX0_putBack_30 : decode cX0_putBack 30 = .ok (.aload_n 0, 1) := by decide +kernel
theorem dX0_putBack_31 : decode cX0_putBack 31 = .ok (.getfield 29, 3) := by decide +kernel
theorem dX0_putBack_34 : decode cX0_putBack 34 = .ok (.iload_n 3, 1) := by decide +kernel
theorem dX0_putBack_35 : decode cX0_putBack 35 = .ok (.bipush 6, 2) := by decide +kernel
theorem dX0_putBack_37 : decode cX0_putBack 37 = .ok (.imul, 1) := by decide +kernel
theorem dX0_putBack_38 : decode cX0_putBack 38 = .ok (.aload_n 2, 1) := by decide +kernel
theorem dX0_putBack_39 : decode cX0_putBack 39 = .ok (.getfield 56, 3) := by decide +kernel
theorem dX0_putBack_42 : decode cX0_putBack 42 = .ok (.iconst 0, 1) := by decide +kernel
theorem dX0_putBack_43 : decode cX0_putBack 43 = .ok (.bipush 6, 2) := by decide +kernel
theorem dX0_putBack_45 : decode cX0_putBack 45 = .ok (.invokestatic 50, 3) := by decide +kernel
theorem dX0_putBack_48 : decode cX0_putBack 48 = .ok (.aload_n 2, 1) := by decide +kernel
theorem dX0_putBack_49 : decode cX0_putBack 49 = .ok (.aload_n 0, 1) := by decide +kernel
theorem dX0_putBack_50 : decode cX0_putBack 50 = .ok (.getfield 19, 3) := by decide +kernel
theorem dX0_putBack_53 : decode cX0_putBack 53 = .ok (.iload_n 3, 1) := by decide +kernel
theorem dX0_putBack_54 : decode cX0_putBack 54 = .ok (.iaload, 1) := by decide +kernel
theorem dX0_putBack_55 : decode cX0_putBack 55 = .ok (.putfield 36, 3) := by decide +kernel
theorem dX0_putBack_58 : decode cX0_putBack 58 = .ok (.return_, 1) := by decide +kernel
theorem dX1_init_0 : decode cX1_init 0 = .ok (.aload_n 0, 1) := by decide +kernel
theorem dX1_init_1 : decode cX1_init 1 = .ok (.invokespecial 3, 3) := by decide +kernel
theorem dX1_init_4 : decode cX1_init 4 = .ok (.aload_n 0, 1) := by decide +kernel
theorem dX1_init_5 : decode cX1_init 5 = .ok (.bipush 12, 2) := by decide +kernel
theorem dX1_init_7 : decode cX1_init 7 = .ok (.newarray .long, 2) := by decide +kernel
theorem dX1_init_9 : decode cX1_init 9 = .ok (.putfield 9, 3) := by decide +kernel
theorem dX1_init_12 : decode cX1_init 12 = .ok (.aload_n 0, 1) := by decide +kernel
theorem dX1_init_13 : decode cX1_init 13 = .ok (.bipush 6, 2) := by decide +kernel
theorem dX1_init_15 : decode cX1_init 15 = .ok (.newarray .int, 2) := by decide +kernel
theorem dX1_init_17 : decode cX1_init 17 = .ok (.putfield 15, 3) := by decide +kernel
theorem dX1_init_20 : decode cX1_init 20 = .ok (.aload_n 0, 1) := by decide +kernel
theorem dX1_init_21 : decode cX1_init 21 = .ok (.iconst 0, 1) := by decide +kernel
theorem dX1_init_22 : decode cX1_init 22 = .ok (.putfield 19, 3) := by decide +kernel
theorem dX1_init_25 : decode cX1_init 25 = .ok (.aload_n 0, 1) := by decide +kernel
theorem dX1_init_26 : decode cX1_init 26 = .ok (.iconst 0, 1) := by decide +kernel
theorem dX1_init_27 : decode cX1_init 27 = .ok (.putfield 23, 3) := by decide +kernel
theorem dX1_init_30 : decode cX1_init 30 = .ok (.return_, 1) := by decide +kernel
theorem dX1_hasFile_0 : decode cX1_hasFile 0 = .ok (.iload_n 1, 1) := by decide +kernel
theorem dX1_hasFile_1 : decode cX1_hasFile 1 = .ok (.ifCond .lt 15, 3) := by decide +kernel
theorem dX1_hasFile_4 : decode cX1_hasFile 4 = .ok (.iload_n 1, 1) := by decide +kernel
theorem dX1_hasFile_5 : decode cX1_hasFile 5 = .ok (.aload_n 0, 1) := by decide +kernel
theorem dX1_hasFile_6 : decode cX1_hasFile 6 = .ok (.getfield 23, 3) := by decide +kernel
theorem dX1_hasFile_9 : decode cX1_hasFile 9 = .ok (.if_icmp .ge 7, 3) := by decide +kernel
theorem dX1_hasFile_12 : decode cX1_hasFile 12 = .ok (.iconst 1, 1) := by decide +kernel
theorem dX1_hasFile_13 : decode cX1_hasFile 13 = .ok (.goto 4, 3) := by decide +kernel
theorem dX1_hasFile_16 : decode cX1_hasFile 16 = .ok (.iconst 0, 1) := by decide +kernel
theorem dX1_hasFile_17 : decode cX1_hasFile 17 = .ok (.ireturn, 1) := by decide +kernel
theorem dX2_init_0 : decode cX2_init 0 = .ok (.aload_n 0, 1) := by decide +kernel
theorem dX2_init_1 : decode cX2_init 1 = .ok (.invokespecial 3, 3) := by decide +kernel
theorem dX2_init_4 : decode cX2_init 4 = .ok (.aload_n 0, 1) := by decide +kernel
theorem dX2_init_5 : decode cX2_init 5 = .ok (.bipush 12, 2) := by decide +kernel
theorem dX2_init_7 : decode cX2_init 7 = .ok (.newarray .long, 2) := by decide +kernel
theorem dX2_init_9 : decode cX2_init 9 = .ok (.putfield 9, 3) := by decide +kernel
theorem dX2_init_12 : decode cX2_init 12 = .ok (.aload_n 0, 1) := by decide +kernel
theorem dX2_init_13 : decode cX2_init 13 = .ok (.bipush 6, 2) := by decide +kernel
theorem dX2_init_15 : decode cX2_init 15 = .ok (.newarray .int, 2) := by decide +kernel
theorem dX2_init_17 : decode cX2_init 17 = .ok (.putfield 15, 3) := by decide +kernel
theorem dX2_init_20 : decode cX2_init 20 = .ok (.aload_n 0, 1) := by decide +kernel
theorem dX2_init_21 : decode cX2_init 21 = .ok (.iconst 0, 1) := by decide +kernel
theorem dX2_init_22 : decode cX2_init 22 = .ok (.putfield 19, 3) := by decide +kernel
theorem dX2_init_25 : decode cX2_init 25 = .ok (.aload_n 0, 1) := by decide +kernel
theorem dX2_init_26 : decode cX2_init 26 = .ok (.aload_n 1, 1) := by decide +kernel
theorem dX2_init_27 : decode cX2_init 27 = .ok (.putfield 23, 3) := by decide +kernel
theorem dX2_init_30 : decode cX2_init 30 = .ok (.return_, 1) := by decide +kernel
theorem dX2_startOver_0 : decode cX2_startOver 0 = .ok (.iconst 0, 1) := by decide +kernel
theorem dX2_startOver_1 : decode cX2_startOver 1 = .ok (.istore_n 1, 1) := by decide +kernel
theorem dX2_startOver_2 : decode cX2_startOver 2 = .ok (.iload_n 1, 1) := by decide +kernel
theorem dX2_startOver_3 : decode cX2_startOver 3 = .ok (.aload_n 0, 1) := by decide +kernel
theorem dX2_startOver_4 : decode cX2_startOver 4 = .ok (.getfield 23, 3) := by decide +kernel
theorem dX2_startOver_7 : decode cX2_startOver 7 = .ok (.getfield 27, 3) := by decide +kernel
theorem dX2_startOver_10 : decode cX2_startOver 10 = .ok (.if_icmp .ge 24, 3) := by decide +kernel
theorem dX2_startOver_13 : decode cX2_startOver 13 = .ok (.aload_n 0, 1) := by decide +kernel
theorem dX2_startOver_14 : decode cX2_startOver 14 = .ok (.getfield 9, 3) := by decide +kernel
theorem dX2_startOver_17 : decode cX2_startOver 17 = .ok (.iload_n 1, 1) := by decide +kernel
theorem dX2_startOver_18 : decode cX2_startOver 18 = .ok (.aload_n 0, 1) := by decide +kernel
theorem dX2_startOver_19 : decode cX2_startOver 19 = .ok (.getfield 23, 3) := by decide +kernel
theorem dX2_startOver_22 : decode cX2_startOver 22 = .ok (.getfield 32, 3) := by decide +kernel
theorem dX2_startOver_25 : decode cX2_startOver 25 = .ok (.iload_n 1, 1) := by decide +kernel
theorem dX2_startOver_26 : decode cX2_startOver 26 = .ok (.laload, 1) := by decide +kernel
theorem dX2_startOver_27 : decode cX2_startOver 27 = .ok (.lastore, 1) := by decide +kernel
theorem dX2_startOver_28 : decode cX2_startOver 28 = .ok (.iinc 1 1, 3) := by decide +kernel
theorem dX2_startOver_31 : decode cX2_startOver 31 = .ok (.goto (-29), 3) := by decide +kernel
theorem dX2_startOver_34 : decode cX2_startOver 34 = .ok (.iconst 0, 1) := by decide +kernel
theorem dX2_startOver_35 : decode cX2_startOver 35 = .ok (.istore_n 1, 1) := by decide +kernel
theorem dX2_startOver_36 : decode cX2_startOver 36 = .ok (.iload_n 1, 1) := by decide +kernel
theorem dX2_startOver_37 : decode cX2_startOver 37 = .ok (.bipush 6, 2) := by decide +kernel
theorem dX2_startOver_39 : decode cX2_startOver 39 = .ok (.if_icmp .ge 16, 3) := by decide +kernel
theorem dX2_startOver_42 : decode cX2_startOver 42 = .ok (.aload_n 0, 1) := by decide +kernel
theorem dX2_startOver_43 : decode cX2_startOver 43 = .ok (.getfield 15, 3) := by decide +kernel
theorem dX2_startOver_46 : decode cX2_startOver 46 = .ok (.iload_n 1, 1) := by decide +kernel
theorem dX2_startOver_47 : decode cX2_startOver 47 = .ok (.iconst 0, 1) := by decide +kernel
theorem dX2_startOver_48 : decode cX2_startOver 48 = .ok (.iastore, 1) := by decide +kernel
theorem dX2_startOver_49 : decode cX2_startOver 49 = .ok (.iinc 1 1, 3) := by decide +kernel
theorem dX2_startOver_52 : decode cX2_startOver 52 = .ok (.goto (-16), 3) := by decide +kernel
theorem dX2_startOver_55 : decode cX2_startOver 55 = .ok (.aload_n 0, 1) := by decide +kernel
theorem dX2_startOver_56 : decode cX2_startOver 56 = .ok (.iconst 0, 1) := by decide +kernel
theorem dX2_startOver_57 : decode cX2_startOver 57 = .ok (.putfield 19, 3) := by decide +kernel
theorem dX2_startOver_60 : decode cX2_startOver 60 = .ok (.return_, 1) := by decide +kernel
theorem dX2_isEnded_0 : decode cX2_isEnded 0 = .ok (.iconst 0, 1) := by decide +kernel
theorem dX2_isEnded_1 : decode cX2_isEnded 1 = .ok (.istore_n 1, 1) := by decide +kernel
theorem dX2_isEnded_2 : decode cX2_isEnded 2 = .ok (.iload_n 1, 1) := by decide +kernel
theorem dX2_isEnded_3 : decode cX2_isEnded 3 = .ok (.aload_n 0, 1) := by decide +kernel
theorem dX2_isEnded_4 : decode cX2_isEnded 4 = .ok (.getfield 23, 3) := by decide +kernel
theorem dX2_isEnded_7 : decode cX2_isEnded 7 = .ok (.getfield 35, 3) := by decide +kernel
theorem dX2_isEnded_10 : decode cX2_isEnded 10 = .ok (.if_icmp .ge 29, 3) := by decide +kernel
theorem dX2_isEnded_13 : decode cX2_isEnded 13 = .ok (.aload_n 0, 1) := by decide +kernel
theorem dX2_isEnded_14 : decode cX2_isEnded 14 = .ok (.getfield 15, 3) := by decide +kernel
theorem dX2_isEnded_17 : decode cX2_isEnded 17 = .ok (.iload_n 1, 1) := by decide +kernel
theorem dX2_isEnded_18 : decode cX2_isEnded 18 = .ok (.iaload, 1) := by decide +kernel
theorem dX2_isEnded_19 : decode cX2_isEnded 19 = .ok (.aload_n 0, 1) := by decide +kernel
theorem dX2_isEnded_20 : decode cX2_isEnded 20 = .ok (.getfield 23, 3) := by decide +kernel
theorem dX2_isEnded_23 : decode cX2_isEnded 23 = .ok (.getfield 38, 3) := by decide +kernel
theorem dX2_isEnded_26 : decode cX2_isEnded 26 = .ok (.iload_n 1, 1) := by decide +kernel
theorem dX2_isEnded_27 : decode cX2_isEnded 27 = .ok (.iaload, 1) := by decide +kernel
theorem dX2_isEnded_28 : decode cX2_isEnded 28 = .ok (.if_icmp .ge 5, 3) := by decide +kernel
theorem dX2_isEnded_31 : decode cX2_isEnded 31 = .ok (.iconst 0, 1) := by decide +kernel
theorem dX2_isEnded_32 : decode cX2_isEnded 32 = .ok (.ireturn, 1) := by decide +kernel
theorem dX2_isEnded_33 : decode cX2_isEnded 33 = .ok (.iinc 1 1, 3) := by decide +kernel
theorem dX2_isEnded_36 : decode cX2_isEnded 36 = .ok (.goto (-34), 3) := by decide +kernel
theorem dX2_isEnded_39 : decode cX2_isEnded 39 = .ok (.iconst 1, 1) := by decide +kernel
theorem dX2_isEnded_40 : decode cX2_isEnded 40 = .ok (.ireturn, 1) := by decide +kernel
set_option maxRecDepth 20000 in
theorem ggX2_doUnit_X2_readRecord : GoodIn wsX2_doUnit wsX2_readRecord := goodIn_r _ [9, 2, 10, 11, 12, 13, 14, 15, 16, 17, 18, 19, 20, 21] (by decide +kernel) (by decide +kernel)
set_option maxRecDepth 20000 in
theorem gX2_doUnit_X2_readRecord : GoodIn wsX2_doUnit (wsV RX2 41 RX2 yX2_readRecord wsX2_readRecord) := goodIn_app (goodIn_of _ (by decide +kernel)) ggX2_doUnit_X2_readRecord
theorem dX2_doUnit_0 : decode cX2_doUnit 0 = .ok (.aload_n 0, 1) := by decide +kernel
theorem dX2_doUnit_1 : decode cX2_doUnit 1 = .ok (.getfield 19, 3) := by decide +kernel
theorem dX2_doUnit_4 : decode cX2_doUnit 4 = .ok (.istore_n 1, 1) := by decide +kernel
theorem dX2_doUnit_5 : decode cX2_doUnit 5 = .ok (.aload_n 0, 1) := by decide +kernel
theorem dX2_doUnit_6 : decode cX2_doUnit 6 = .ok (.iload_n 1, 1) := by decide +kernel
theorem dX2_doUnit_7 : decode cX2_doUnit 7 = .ok (.invokevirtual 41, 3) := by decide +kernel
theorem dX2_doUnit_10 : decode cX2_doUnit 10 = .ok (.lstore_n 2, 1) := by decide +kernel
theorem dX2_doUnit_11 : decode cX2_doUnit 11 = .ok (.aload_n 0, 1) := by decide +kernel
theorem dX2_doUnit_12 : decode cX2_doUnit 12 = .ok (.dup, 1) := by decide +kernel
theorem dX2_doUnit_13 : decode cX2_doUnit 13 = .ok (.getfield 19, 3) := by decide +kernel
theorem dX2_doUnit_16 : decode cX2_doUnit 16 = .ok (.iconst 1, 1) := by decide +kernel
theorem dX2_doUnit_17 : decode cX2_doUnit 17 = .ok (.iadd, 1) := by decide +kernel
theorem dX2_doUnit_18 : decode cX2_doUnit 18 = .ok (.putfield 19, 3) := by decide +kernel
theorem dX2_doUnit_21 : decode cX2_doUnit 21 = .ok (.aload_n 0, 1) := by decide +kernel
theorem dX2_doUnit_22 : decode cX2_doUnit 22 = .ok (.getfield 23, 3) := by decide +kernel
theorem dX2_doUnit_25 : decode cX2_doUnit 25 = .ok (.getfield 27, 3) := by decide +kernel
theorem dX2_doUnit_28 : decode cX2_doUnit 28 = .ok (.ifCond .ne 5, 3) := by decide +kernel
theorem dX2_doUnit_31 : decode cX2_doUnit 31 = .ok (.lconst 0, 1) := by decide +kernel
theorem dX2_doUnit_32 : decode cX2_doUnit 32 = .ok (.lreturn, 1) := by decide +kernel
theorem dX2_doUnit_33 : decode cX2_doUnit 33 = .ok (.iload_n 1, 1) := by decide +kernel
theorem dX2_doUnit_34 : decode cX2_doUnit 34 = .ok (.aload_n 0, 1) := by decide +kernel
theorem dX2_doUnit_35 : decode cX2_doUnit 35 = .ok (.getfield 23, 3) := by decide +kernel
theorem dX2_doUnit_38 : decode cX2_doUnit 38 = .ok (.getfield 27, 3) := by decide +kernel
theorem dX2_doUnit_41 : decode cX2_doUnit 41 = .ok (.irem, 1) := by decide +kernel
theorem dX2_doUnit_42 : decode cX2_doUnit 42 = .ok (.istore 4, 2) := by decide +kernel
theorem dX2_doUnit_44 : decode cX2_doUnit 44 = .ok (.aload_n 0, 1) := by decide +kernel
theorem dX2_doUnit_45 : decode cX2_doUnit 45 = .ok (.getfield 9, 3) := by decide +kernel
theorem dX2_doUnit_48 : decode cX2_doUnit 48 = .ok (.iload 4, 2) := by decide +kernel
theorem dX2_doUnit_50 : decode cX2_doUnit 50 = .ok (.dup2, 1) := by decide +kernel
theorem dX2_doUnit_51 : decode cX2_doUnit 51 = .ok (.laload, 1) := by decide +kernel
theorem dX2_doUnit_52 : decode cX2_doUnit 52 = .ok (.aload_n 0, 1) := by decide +kernel
theorem dX2_doUnit_53 : decode cX2_doUnit 53 = .ok (.getfield 19, 3) := by decide +kernel
theorem dX2_doUnit_56 : decode cX2_doUnit 56 = .ok (.i2l, 1) := by decide +kernel
theorem dX2_doUnit_57 : decode cX2_doUnit 57 = .ok (.lload_n 2, 1) := by decide +kernel
theorem dX2_doUnit_58 : decode cX2_doUnit 58 = .ok (.lmul, 1) := by decide +kernel
theorem dX2_doUnit_59 : decode cX2_doUnit 59 = .ok (.ladd, 1) := by decide +kernel
theorem dX2_doUnit_60 : decode cX2_doUnit 60 = .ok (.lastore, 1) := by decide +kernel
theorem dX2_doUnit_61 : decode cX2_doUnit 61 = .ok (.aload_n 0, 1) := by decide +kernel
theorem dX2_doUnit_62 : decode cX2_doUnit 62 = .ok (.getfield 9, 3) := by decide +kernel
theorem dX2_doUnit_65 : decode cX2_doUnit 65 = .ok (.iload 4, 2) := by decide +kernel
theorem dX2_doUnit_67 : decode cX2_doUnit 67 = .ok (.laload, 1) := by decide +kernel
theorem dX2_doUnit_68 : decode cX2_doUnit 68 = .ok (.lreturn, 1) := by decide +kernel
theorem dX2_readRecord_0 : decode cX2_readRecord 0 = .ok (.aload_n 0, 1) := by decide +kernel
theorem dX2_readRecord_1 : decode cX2_readRecord 1 = .ok (.getfield 23, 3) := by decide +kernel
theorem dX2_readRecord_4 : decode cX2_readRecord 4 = .ok (.getfield 35, 3) := by decide +kernel
theorem dX2_readRecord_7 : decode cX2_readRecord 7 = .ok (.ifCond .ne 5, 3) := by decide +kernel
theorem dX2_readRecord_10 : decode cX2_readRecord 10 = .ok (.lconst 0, 1) := by decide +kernel
theorem dX2_readRecord_11 : decode cX2_readRecord 11 = .ok (.lreturn, 1) := by decide +kernel
theorem dX2_readRecord_12 : decode cX2_readRecord 12 = .ok (.iload_n 1, 1) := by decide +kernel
theorem dX2_readRecord_13 : decode cX2_readRecord 13 = .ok (.aload_n 0, 1) := by decide +kernel
theorem dX2_readRecord_14 : decode cX2_readRecord 14 = .ok (.getfield 23, 3) := by decide +kernel
theorem dX2_readRecord_17 : decode cX2_readRecord 17 = .ok (.getfield 35, 3) := by decide +kernel
theorem dX2_readRecord_20 : decode cX2_readRecord 20 = .ok (.irem, 1) := by decide +kernel
theorem dX2_readRecord_21 : decode cX2_readRecord 21 = .ok (.istore_n 2, 1) := by decide +kernel
theorem dX2_readRecord_22 : decode cX2_readRecord 22 = .ok (.aload_n 0, 1) := by decide +kernel
theorem dX2_readRecord_23 : decode cX2_readRecord 23 = .ok (.getfield 15, 3) := by decide +kernel
theorem dX2_readRecord_26 : decode cX2_readRecord 26 = .ok (.iload_n 2, 1) := by decide +kernel
theorem dX2_readRecord_27 : decode cX2_readRecord 27 = .ok (.iaload, 1) := by decide +kernel
theorem dX2_readRecord_28 : decode cX2_readRecord 28 = .ok (.istore_n 3, 1) := by decide +kernel
theorem dX2_readRecord_29 : decode cX2_readRecord 29 = .ok (.iload_n 3, 1) := by decide +kernel
theorem dX2_readRecord_30 : decode cX2_readRecord 30 = .ok (.aload_n 0, 1) := by decide +kernel
theorem dX2_readRecord_31 : decode cX2_readRecord 31 = .ok (.getfield 23, 3) := by decide +kernel
theorem dX2_readRecord_34 : decode cX2_readRecord 34 = .ok (.getfield 38, 3) := by decide +kernel
theorem dX2_readRecord_37 : decode cX2_readRecord 37 = .ok (.iload_n 2, 1) := by decide +kernel
theorem dX2_readRecord_38 : decode cX2_readRecord 38 = .ok (.iaload, 1) := by decide +kernel
theorem dX2_readRecord_39 : decode cX2_readRecord 39 = .ok (.if_icmp .lt 5, 3) := by decide +kernel
theorem dX2_readRecord_42 : decode cX2_readRecord 42 = .ok (.lconst 0, 1) := by decide +kernel
theorem dX2_readRecord_43 : decode cX2_readRecord 43 = .ok (.lreturn, 1) := by decide +kernel
theorem dX2_readRecord_44 : decode cX2_readRecord 44 = .ok (.aload_n 0, 1) := by decide +kernel
theorem dX2_readRecord_45 : decode cX2_readRecord 45 = .ok (.getfield 15, 3) := by decide +kernel
theorem dX2_readRecord_48 : decode cX2_readRecord 48 = .ok (.iload_n 2, 1) := by decide +kernel
theorem dX2_readRecord_49 : decode cX2_readRecord 49 = .ok (.iload_n 3, 1) := by decide +kernel
theorem dX2_readRecord_50 : decode cX2_readRecord 50 = .ok (.iconst 1, 1) := by decide +kernel
theorem dX2_readRecord_51 : decode cX2_readRecord 51 = .ok (.iadd, 1) := by decide +kernel
theorem dX2_readRecord_52 : decode cX2_readRecord 52 = .ok (.iastore, 1) := by decide +kernel
theorem dX2_readRecord_53 : decode cX2_readRecord 53 = .ok (.ldc2_w 45, 3) := by decide +kernel
theorem dX2_readRecord_56 : decode cX2_readRecord 56 = .ok (.iload_n 2, 1) := by decide +kernel
theorem dX2_readRecord_57 : decode cX2_readRecord 57 = .ok (.iconst 1, 1) := by decide +kernel
theorem dX2_readRecord_58 : decode cX2_readRecord 58 = .ok (.iadd, 1) := by decide +kernel
theorem dX2_readRecord_59 : decode cX2_readRecord 59 = .ok (.i2l, 1) := by decide +kernel
theorem dX2_readRecord_60 : decode cX2_readRecord 60 = .ok (.lmul, 1) := by decide +kernel
theorem dX2_readRecord_61 : decode cX2_readRecord 61 = .ok (.iload_n 3, 1) := by decide +kernel
theorem dX2_readRecord_62 : decode cX2_readRecord 62 = .ok (.i2l, 1) := by decide +kernel
theorem dX2_readRecord_63 : decode cX2_readRecord 63 = .ok (.ladd, 1) := by decide +kernel
theorem dX2_readRecord_64 : decode cX2_readRecord 64 = .ok (.lreturn, 1) := by decide +kernel
theorem dX2_hasCellsOf_0 : decode cX2_hasCellsOf 0 = .ok (.iconst 0, 1) := by decide +kernel
theorem dX2_hasCellsOf_1 : decode cX2_hasCellsOf 1 = .ok (.istore_n 2, 1) := by decide +kernel
theorem dX2_hasCellsOf_2 : decode cX2_hasCellsOf 2 = .ok (.iload_n 2, 1) := by decide +kernel
theorem dX2_hasCellsOf_3 : decode cX2_hasCellsOf 3 = .ok (.aload_n 0, 1) := by decide +kernel
theorem dX2_hasCellsOf_4 : decode cX2_hasCellsOf 4 = .ok (.getfield 23, 3) := by decide +kernel
theorem dX2_hasCellsOf_7 : decode cX2_hasCellsOf 7 = .ok (.getfield 27, 3) := by decide +kernel
theorem dX2_hasCellsOf_10 : decode cX2_hasCellsOf 10 = .ok (.if_icmp .ge 27, 3) := by decide +kernel
theorem dX2_hasCellsOf_13 : decode cX2_hasCellsOf 13 = .ok (.aload_n 0, 1) := by decide +kernel
theorem dX2_hasCellsOf_14 : decode cX2_hasCellsOf 14 = .ok (.getfield 9, 3) := by decide +kernel
theorem dX2_hasCellsOf_17 : decode cX2_hasCellsOf 17 = .ok (.iload_n 2, 1) := by decide +kernel
theorem dX2_hasCellsOf_18 : decode cX2_hasCellsOf 18 = .ok (.laload, 1) := by decide +kernel
theorem dX2_hasCellsOf_19 : decode cX2_hasCellsOf 19 = .ok (.aload_n 1, 1) := by decide +kernel
theorem dX2_hasCellsOf_20 : decode cX2_hasCellsOf 20 = .ok (.getfield 9, 3) := by decide +kernel
theorem dX2_hasCellsOf_23 : decode cX2_hasCellsOf 23 = .ok (.iload_n 2, 1) := by decide +kernel
theorem dX2_hasCellsOf_24 : decode cX2_hasCellsOf 24 = .ok (.laload, 1) := by decide +kernel
theorem dX2_hasCellsOf_25 : decode cX2_hasCellsOf 25 = .ok (.lcmp, 1) := by decide +kernel
theorem dX2_hasCellsOf_26 : decode cX2_hasCellsOf 26 = .ok (.ifCond .eq 5, 3) := by decide +kernel
theorem dX2_hasCellsOf_29 : decode cX2_hasCellsOf 29 = .ok (.iconst 0, 1) := by decide +kernel
theorem dX2_hasCellsOf_30 : decode cX2_hasCellsOf 30 = .ok (.ireturn, 1) := by decide +kernel
theorem dX2_hasCellsOf_31 : decode cX2_hasCellsOf 31 = .ok (.iinc 2 1, 3) := by decide +kernel
theorem dX2_hasCellsOf_34 : decode cX2_hasCellsOf 34 = .ok (.goto (-32), 3) := by decide +kernel
theorem dX2_hasCellsOf_37 : decode cX2_hasCellsOf 37 = .ok (.iconst 1, 1) := by decide +kernel
theorem dX2_hasCellsOf_38 : decode cX2_hasCellsOf 38 = .ok (.ireturn, 1) := by decide +kernel
set_option maxRecDepth 20000 in
theorem ggX3_init_X1_init : GoodIn wsX3_init wsX1_init := goodIn_r _ [24, 25, 2, 3, 13, 26, 27, 28, 29, 30, 50, 51, 52, 53] (by decide +kernel) (by decide +kernel)
set_option maxRecDepth 20000 in
theorem gX3_init_X1_init_n9 : GoodIn wsX3_init (wsX1_init) := ggX3_init_X1_init
set_option maxRecDepth 20000 in
theorem ggX3_init_X2_init : GoodIn wsX3_init wsX2_init := goodIn_r _ [33, 34, 2, 3, 13, 35, 27, 36, 37, 38, 63, 64, 65, 66] (by decide +kernel) (by decide +kernel)
set_option maxRecDepth 20000 in
theorem gX3_init_X2_init : GoodIn wsX3_init (wsX2_init) := ggX3_init_X2_init
set_option maxRecDepth 20000 in
theorem ggX3_init_X0_init : GoodIn wsX3_init wsX0_init := goodIn_r _ [40, 41, 2, 3, 42, 43, 27, 44, 45, 46, 13, 47, 48, 49, 67, 68, 69, 70, 71, 72, 73] (by decide +kernel) (by decide +kernel)
set_option maxRecDepth 20000 in
theorem gX3_init_X0_init_n34 : GoodIn wsX3_init (wsX0_init) := ggX3_init_X0_init
end
section
theorem dX3_init_0 : decode cX3_init 0 = .ok (.aload_n 0, 1) := by decide +kernel
theorem dX3_init_1 : decode cX3_init 1 = .ok (.invokespecial 1, 3) := by decide +kernel
theorem dX3_init_4 : decode cX3_init 4 = .ok (.aload_n 0, 1) := by decide +kernel
theorem dX3_init_5 : decode cX3_init 5 = .ok (.new 7, 3) := by decide +kernel
theorem dX3_init_8 : decode cX3_init 8 = .ok (.dup, 1) := by decide +kernel
theorem dX3_init_9 : decode cX3_init 9 = .ok (.invokespecial 9, 3) := by decide +kernel
theorem dX3_init_12 : decode cX3_init 12 = .ok (.putfield 10, 3) := by decide +kernel
theorem dX3_init_15 : decode cX3_init 15 = .ok (.aload_n 0, 1) := by decide +kernel
theorem dX3_init_16 : decode cX3_init 16 = .ok (.new 16, 3) := by decide +kernel
theorem dX3_init_19 : decode cX3_init 19 = .ok (.dup, 1) := by decide +kernel
theorem dX3_init_20 : decode cX3_init 20 = .ok (.aload_n 0, 1) := by decide +kernel
theorem dX3_init_21 : decode cX3_init 21 = .ok (.getfield 10, 3) := by decide +kernel
theorem dX3_init_24 : decode cX3_init 24 = .ok (.invokespecial 18, 3) := by decide +kernel
theorem dX3_init_27 : decode cX3_init 27 = .ok (.putfield 21, 3) := by decide +kernel
theorem dX3_init_30 : decode cX3_init 30 = .ok (.aload_n 0, 1) := by decide +kernel
theorem dX3_init_31 : decode cX3_init 31 = .ok (.new 16, 3) := by decide +kernel
theorem dX3_init_34 : decode cX3_init 34 = .ok (.dup, 1) := by decide +kernel
theorem dX3_init_35 : decode cX3_init 35 = .ok (.aload_n 0, 1) := by decide +kernel
theorem dX3_init_36 : decode cX3_init 36 = .ok (.getfield 10, 3) := by decide +kernel
theorem dX3_init_39 : decode cX3_init 39 = .ok (.invokespecial 18, 3) := by decide +kernel
theorem dX3_init_42 : decode cX3_init 42 = .ok (.putfield 25, 3) := by decide +kernel
theorem dX3_init_45 : decode cX3_init 45 = .ok (.aload_n 0, 1) := by decide +kernel
theorem dX3_init_46 : decode cX3_init 46 = .ok (.sipush 5000, 3) := by decide +kernel
theorem dX3_init_49 : decode cX3_init 49 = .ok (.newarray .long, 2) := by decide +kernel
theorem dX3_init_51 : decode cX3_init 51 = .ok (.putfield 28, 3) := by decide +kernel
theorem dX3_init_54 : decode cX3_init 54 = .ok (.aload_n 0, 1) := by decide +kernel
theorem dX3_init_55 : decode cX3_init 55 = .ok (.new 32, 3) := by decide +kernel
theorem dX3_init_58 : decode cX3_init 58 = .ok (.dup, 1) := by decide +kernel
theorem dX3_init_59 : decode cX3_init 59 = .ok (.invokespecial 34, 3) := by decide +kernel
theorem dX3_init_62 : decode cX3_init 62 = .ok (.putfield 35, 3) := by decide +kernel
theorem dX3_init_65 : decode cX3_init 65 = .ok (.aload_n 0, 1) := by decide +kernel
theorem dX3_init_66 : decode cX3_init 66 = .ok (.iconst 0, 1) := by decide +kernel
theorem dX3_init_67 : decode cX3_init 67 = .ok (.putfield 39, 3) := by decide +kernel
theorem dX3_init_70 : decode cX3_init 70 = .ok (.aload_n 0, 1) := by decide +kernel
theorem dX3_init_71 : decode cX3_init 71 = .ok (.iconst 0, 1) := by decide +kernel
theorem dX3_init_72 : decode cX3_init 72 = .ok (.putfield 43, 3) := by decide +kernel
theorem dX3_init_75 : decode cX3_init 75 = .ok (.aload_n 0, 1) := by decide +kernel
theorem dX3_init_76 : decode cX3_init 76 = .ok (.iconst 0, 1) := by decide +kernel
theorem dX3_init_77 : decode cX3_init 77 = .ok (.putfield 47, 3) := by decide +kernel
theorem dX3_init_80 : decode cX3_init 80 = .ok (.aload_n 0, 1) := by decide +kernel
theorem dX3_init_81 : decode cX3_init 81 = .ok (.iconst 0, 1) := by decide +kernel
theorem dX3_init_82 : decode cX3_init 82 = .ok (.putfield 50, 3) := by decide +kernel
theorem dX3_init_85 : decode cX3_init 85 = .ok (.return_, 1) := by decide +kernel
set_option maxRecDepth 20000 in
theorem ggX3_cell_X3_isSetupOver : GoodIn wsX3_cell wsX3_isSetupOver := goodIn_r _ [10, 11, 4, 12, 13, 14, 15, 16, 17, 18, 19, 20, 21, 26, 27, 28, 29] (by decide +kernel) (by decide +kernel)
set_option maxRecDepth 20000 in
theorem gX3_cell_X3_isSetupOver : GoodIn wsX3_cell (wsV RX3 53 RX3 yX3_isSetupOver wsX3_isSetupOver) := goodIn_app (goodIn_of _ (by decide +kernel)) ggX3_cell_X3_isSetupOver
theorem dX3_cell_0 : decode cX3_cell 0 = .ok (.aload_n 0, 1) := by decide +kernel
theorem dX3_cell_1 : decode cX3_cell 1 = .ok (.invokevirtual 53, 3) := by decide +kernel
theorem dX3_cell_4 : decode cX3_cell 4 = .ok (.ifCond .eq 6, 3) := by decide +kernel
theorem dX3_cell_7 : decode cX3_cell 7 = .ok (.bipush (-5), 2) := by decide +kernel
theorem dX3_cell_9 : decode cX3_cell 9 = .ok (.ireturn, 1) := by decide +kernel
theorem dX3_cell_10 : decode cX3_cell 10 = .ok (.aload_n 0, 1) := by decide +kernel
theorem dX3_cell_11 : decode cX3_cell 11 = .ok (.getfield 10, 3) := by decide +kernel
theorem dX3_cell_14 : decode cX3_cell 14 = .ok (.getfield 57, 3) := by decide +kernel
theorem dX3_cell_17 : decode cX3_cell 17 = .ok (.bipush 12, 2) := by decide +kernel
theorem dX3_cell_19 : decode cX3_cell 19 = .ok (.if_icmp .lt 5, 3) := by decide +kernel
theorem dX3_cell_22 : decode cX3_cell 22 = .ok (.iconst (-1), 1) := by decide +kernel
theorem dX3_cell_23 : decode cX3_cell 23 = .ok (.ireturn, 1) := by decide +kernel
theorem dX3_cell_24 : decode cX3_cell 24 = .ok (.aload_n 0, 1) := by decide +kernel
theorem dX3_cell_25 : decode cX3_cell 25 = .ok (.getfield 10, 3) := by decide +kernel
theorem dX3_cell_28 : decode cX3_cell 28 = .ok (.getfield 57, 3) := by decide +kernel
theorem dX3_cell_31 : decode cX3_cell 31 = .ok (.istore_n 3, 1) := by decide +kernel
theorem dX3_cell_32 : decode cX3_cell 32 = .ok (.aload_n 0, 1) := by decide +kernel
theorem dX3_cell_33 : decode cX3_cell 33 = .ok (.getfield 10, 3) := by decide +kernel
theorem dX3_cell_36 : decode cX3_cell 36 = .ok (.getfield 60, 3) := by decide +kernel
theorem dX3_cell_39 : decode cX3_cell 39 = .ok (.iload_n 3, 1) := by decide +kernel
theorem dX3_cell_40 : decode cX3_cell 40 = .ok (.lload_n 1, 1) := by decide +kernel
theorem dX3_cell_41 : decode cX3_cell 41 = .ok (.lastore, 1) := by decide +kernel
theorem dX3_cell_42 : decode cX3_cell 42 = .ok (.aload_n 0, 1) := by decide +kernel
theorem dX3_cell_43 : decode cX3_cell 43 = .ok (.getfield 10, 3) := by decide +kernel
theorem dX3_cell_46 : decode cX3_cell 46 = .ok (.dup, 1) := by decide +kernel
theorem dX3_cell_47 : decode cX3_cell 47 = .ok (.getfield 57, 3) := by decide +kernel
theorem dX3_cell_50 : decode cX3_cell 50 = .ok (.iconst 1, 1) := by decide +kernel
theorem dX3_cell_51 : decode cX3_cell 51 = .ok (.iadd, 1) := by decide +kernel
theorem dX3_cell_52 : decode cX3_cell 52 = .ok (.putfield 57, 3) := by decide +kernel
theorem dX3_cell_55 : decode cX3_cell 55 = .ok (.aload_n 0, 1) := by decide +kernel
theorem dX3_cell_56 : decode cX3_cell 56 = .ok (.getfield 21, 3) := by decide +kernel
theorem dX3_cell_59 : decode cX3_cell 59 = .ok (.getfield 63, 3) := by decide +kernel
theorem dX3_cell_62 : decode cX3_cell 62 = .ok (.iload_n 3, 1) := by decide +kernel
theorem dX3_cell_63 : decode cX3_cell 63 = .ok (.lload_n 1, 1) := by decide +kernel
theorem dX3_cell_64 : decode cX3_cell 64 = .ok (.lastore, 1) := by decide +kernel
theorem dX3_cell_65 : decode cX3_cell 65 = .ok (.iload_n 3, 1) := by decide +kernel
theorem dX3_cell_66 : decode cX3_cell 66 = .ok (.ireturn, 1) := by decide +kernel
set_option maxRecDepth 20000 in
theorem ggX3_file_X3_isSetupOver : GoodIn wsX3_file wsX3_isSetupOver := goodIn_r _ [8, 9, 10, 11, 12, 13, 14, 15, 16, 17, 18, 19, 20, 25, 26, 27, 28] (by decide +kernel) (by decide +kernel)
set_option maxRecDepth 20000 in
theorem gX3_file_X3_isSetupOver : GoodIn wsX3_file (wsV RX3 53 RX3 yX3_isSetupOver wsX3_isSetupOver) := goodIn_app (goodIn_of _ (by decide +kernel)) ggX3_file_X3_isSetupOver
theorem dX3_file_0 : decode cX3_file 0 = .ok (.iload_n 1, 1) := by decide +kernel
theorem dX3_file_1 : decode cX3_file 1 = .ok (.ifCond .lt 10, 3) := by decide +kernel
theorem dX3_file_4 : decode cX3_file 4 = .ok (.iload_n 1, 1) := by decide +kernel
theorem dX3_file_5 : decode cX3_file 5 = .ok (.sipush 2000, 3) := by decide +kernel
theorem dX3_file_8 : decode cX3_file 8 = .ok (.if_icmp .le 6, 3) := by decide +kernel
theorem dX3_file_11 : decode cX3_file 11 = .ok (.bipush (-4), 2) := by decide +kernel
theorem dX3_file_13 : decode cX3_file 13 = .ok (.ireturn, 1) := by decide +kernel
theorem dX3_file_14 : decode cX3_file 14 = .ok (.aload_n 0, 1) := by decide +kernel
theorem dX3_file_15 : decode cX3_file 15 = .ok (.invokevirtual 53, 3) := by decide +kernel
theorem dX3_file_18 : decode cX3_file 18 = .ok (.ifCond .eq 6, 3) := by decide +kernel
theorem dX3_file_21 : decode cX3_file 21 = .ok (.bipush (-5), 2) := by decide +kernel
theorem dX3_file_23 : decode cX3_file 23 = .ok (.ireturn, 1) := by decide +kernel
theorem dX3_file_24 : decode cX3_file 24 = .ok (.aload_n 0, 1) := by decide +kernel
theorem dX3_file_25 : decode cX3_file 25 = .ok (.getfield 10, 3) := by decide +kernel
theorem dX3_file_28 : decode cX3_file 28 = .ok (.getfield 66, 3) := by decide +kernel
theorem dX3_file_31 : decode cX3_file 31 = .ok (.bipush 6, 2) := by decide +kernel
theorem dX3_file_33 : decode cX3_file 33 = .ok (.if_icmp .lt 5, 3) := by decide +kernel
theorem dX3_file_36 : decode cX3_file 36 = .ok (.iconst (-1), 1) := by decide +kernel
theorem dX3_file_37 : decode cX3_file 37 = .ok (.ireturn, 1) := by decide +kernel
theorem dX3_file_38 : decode cX3_file 38 = .ok (.aload_n 0, 1) := by decide +kernel
theorem dX3_file_39 : decode cX3_file 39 = .ok (.getfield 10, 3) := by decide +kernel
theorem dX3_file_42 : decode cX3_file 42 = .ok (.getfield 66, 3) := by decide +kernel
theorem dX3_file_45 : decode cX3_file 45 = .ok (.istore_n 2, 1) := by decide +kernel
theorem dX3_file_46 : decode cX3_file 46 = .ok (.aload_n 0, 1) := by decide +kernel
theorem dX3_file_47 : decode cX3_file 47 = .ok (.getfield 10, 3) := by decide +kernel
theorem dX3_file_50 : decode cX3_file 50 = .ok (.getfield 69, 3) := by decide +kernel
theorem dX3_file_53 : decode cX3_file 53 = .ok (.iload_n 2, 1) := by decide +kernel
theorem dX3_file_54 : decode cX3_file 54 = .ok (.iload_n 1, 1) := by decide +kernel
theorem dX3_file_55 : decode cX3_file 55 = .ok (.iastore, 1) := by decide +kernel
theorem dX3_file_56 : decode cX3_file 56 = .ok (.aload_n 0, 1) := by decide +kernel
theorem dX3_file_57 : decode cX3_file 57 = .ok (.getfield 10, 3) := by decide +kernel
theorem dX3_file_60 : decode cX3_file 60 = .ok (.dup, 1) := by decide +kernel
theorem dX3_file_61 : decode cX3_file 61 = .ok (.getfield 66, 3) := by decide +kernel
theorem dX3_file_64 : decode cX3_file 64 = .ok (.iconst 1, 1) := by decide +kernel
theorem dX3_file_65 : decode cX3_file 65 = .ok (.iadd, 1) := by decide +kernel
theorem dX3_file_66 : decode cX3_file 66 = .ok (.putfield 66, 3) := by decide +kernel
theorem dX3_file_69 : decode cX3_file 69 = .ok (.iload_n 2, 1) := by decide +kernel
theorem dX3_file_70 : decode cX3_file 70 = .ok (.ireturn, 1) := by decide +kernel
set_option maxRecDepth 20000 in
theorem ggX3_step_X2_isEnded : GoodIn wsX3_step wsX2_isEnded := goodIn_r _ [9, 10, 11, 12, 13, 35, 36, 37, 38, 39, 40, 41, 42] (by decide +kernel) (by decide +kernel)
set_option maxRecDepth 20000 in
theorem gX3_step_X2_isEnded : GoodIn wsX3_step (wsV RX3 76 RX2 yX2_isEnded wsX2_isEnded) := goodIn_app (goodIn_of _ (by decide +kernel)) ggX3_step_X2_isEnded
set_option maxRecDepth 20000 in
theorem ggX3_step_X2_doUnit : GoodIn wsX3_step wsX2_doUnit := goodIn_r _ [17, 18, 10, 19, 20, 21, 22, 23, 8, 24, 11, 12, 13, 25, 35, 36, 37, 38, 39, 40, 41, 42] (by decide +kernel) (by decide +kernel)
set_option maxRecDepth 20000 in
theorem gX3_step_X2_doUnit : GoodIn wsX3_step (wsV RX3 79 RX2 yX2_doUnit wsX2_doUnit) := goodIn_app (goodIn_of _ (by decide +kernel)) ggX3_step_X2_doUnit
theorem dX3_step_0 : decode cX3_step 0 = .ok (.iload_n 1, 1) := by decide +kernel
theorem dX3_step_1 : decode cX3_step 1 = .ok (.ifCond .lt 10, 3) := by decide +kernel
theorem dX3_step_4 : decode cX3_step 4 = .ok (.iload_n 1, 1) := by decide +kernel
theorem dX3_step_5 : decode cX3_step 5 = .ok (.sipush 1000, 3) := by decide +kernel
theorem dX3_step_8 : decode cX3_step 8 = .ok (.if_icmp .le 6, 3) := by decide +kernel
theorem dX3_step_11 : decode cX3_step 11 = .ok (.bipush (-4), 2) := by decide +kernel
theorem dX3_step_13 : decode cX3_step 13 = .ok (.ireturn, 1) := by decide +kernel
theorem dX3_step_14 : decode cX3_step 14 = .ok (.aload_n 0, 1) := by decide +kernel
theorem dX3_step_15 : decode cX3_step 15 = .ok (.getfield 43, 3) := by decide +kernel
theorem dX3_step_18 : decode cX3_step 18 = .ok (.ifCond .eq 6, 3) := by decide +kernel
theorem dX3_step_21 : decode cX3_step 21 = .ok (.bipush (-5), 2) := by decide +kernel
theorem dX3_step_23 : decode cX3_step 23 = .ok (.ireturn, 1) := by decide +kernel
theorem dX3_step_24 : decode cX3_step 24 = .ok (.iconst 0, 1) := by decide +kernel
theorem dX3_step_25 : decode cX3_step 25 = .ok (.istore_n 2, 1) := by decide +kernel
theorem dX3_step_26 : decode cX3_step 26 = .ok (.iload_n 2, 1) := by decide +kernel
theorem dX3_step_27 : decode cX3_step 27 = .ok (.iload_n 1, 1) := by decide +kernel
theorem dX3_step_28 : decode cX3_step 28 = .ok (.if_icmp .ge 53, 3) := by decide +kernel
theorem dX3_step_31 : decode cX3_step 31 = .ok (.aload_n 0, 1) := by decide +kernel
theorem dX3_step_32 : decode cX3_step 32 = .ok (.getfield 21, 3) := by decide +kernel
theorem dX3_step_35 : decode cX3_step 35 = .ok (.getfield 73, 3) := by decide +kernel
theorem dX3_step_38 : decode cX3_step 38 = .ok (.sipush 5000, 3) := by decide +kernel
theorem dX3_step_41 : decode cX3_step 41 = .ok (.if_icmp .ge 40, 3) := by decide +kernel
theorem dX3_step_44 : decode cX3_step 44 = .ok (.aload_n 0, 1) := by decide +kernel
theorem dX3_step_45 : decode cX3_step 45 = .ok (.getfield 21, 3) := by decide +kernel
theorem dX3_step_48 : decode cX3_step 48 = .ok (.invokevirtual 76, 3) := by decide +kernel
theorem dX3_step_51 : decode cX3_step 51 = .ok (.ifCond .ne 30, 3) := by decide +kernel
theorem dX3_step_54 : decode cX3_step 54 = .ok (.aload_n 0, 1) := by decide +kernel
theorem dX3_step_55 : decode cX3_step 55 = .ok (.getfield 21, 3) := by decide +kernel
theorem dX3_step_58 : decode cX3_step 58 = .ok (.getfield 73, 3) := by decide +kernel
theorem dX3_step_61 : decode cX3_step 61 = .ok (.istore_n 3, 1) := by decide +kernel
theorem dX3_step_62 : decode cX3_step 62 = .ok (.aload_n 0, 1) := by decide +kernel
theorem dX3_step_63 : decode cX3_step 63 = .ok (.getfield 28, 3) := by decide +kernel
theorem dX3_step_66 : decode cX3_step 66 = .ok (.iload_n 3, 1) := by decide +kernel
theorem dX3_step_67 : decode cX3_step 67 = .ok (.aload_n 0, 1) := by decide +kernel
theorem dX3_step_68 : decode cX3_step 68 = .ok (.getfield 21, 3) := by decide +kernel
theorem dX3_step_71 : decode cX3_step 71 = .ok (.invokevirtual 79, 3) := by decide +kernel
theorem dX3_step_74 : decode cX3_step 74 = .ok (.lastore, 1) := by decide +kernel
theorem dX3_step_75 : decode cX3_step 75 = .ok (.iinc 2 1, 3) := by decide +kernel
theorem dX3_step_78 : decode cX3_step 78 = .ok (.goto (-52), 3) := by decide +kernel
theorem dX3_step_81 : decode cX3_step 81 = .ok (.iload_n 2, 1) := by decide +kernel
theorem dX3_step_82 : decode cX3_step 82 = .ok (.ireturn, 1) := by decide +kernel
set_option maxRecDepth 20000 in
theorem ggX3_check_X0_addTorn : GoodIn wsX3_check wsX0_addTorn := goodIn_r _ [14, 15, 16, 50, 51, 52, 53, 54, 55, 56] (by decide +kernel) (by decide +kernel)
set_option maxRecDepth 20000 in
theorem gX3_check_X0_addTorn : GoodIn wsX3_check (wsV RX3 86 RX0 yX0_addTorn wsX0_addTorn) := goodIn_app (goodIn_of _ (by decide +kernel)) ggX3_check_X0_addTorn
set_option maxRecDepth 20000 in
theorem ggX3_check_X3_goDown : GoodIn wsX3_check wsX3_goDown := goodIn_r _ [21, 1, 7, 22, 41, 42, 43, 44, 45, 46, 47, 48, 49] (by decide +kernel) (by decide +kernel)
set_option maxRecDepth 20000 in
theorem gX3_check_X3_goDown : GoodIn wsX3_check (wsV RX3 89 RX3 yX3_goDown wsX3_goDown) := goodIn_app (goodIn_of _ (by decide +kernel)) ggX3_check_X3_goDown
set_option maxRecDepth 20000 in
theorem ggX3_check_X0_addWhole : GoodIn wsX3_check wsX0_addWhole := goodIn_r _ [26, 15, 16, 27, 28, 29, 30, 31, 32, 33, 34, 35, 36, 37, 38, 39, 40, 50, 51, 52, 53, 54, 55, 56, 61, 62, 63, 64, 57, 58, 59, 60] (by decide +kernel) (by decide +kernel)
set_option maxRecDepth 20000 in
theorem gX3_check_X0_addWhole : GoodIn wsX3_check (wsV RX3 92 RX0 yX0_addWhole wsX0_addWhole) := goodIn_app (goodIn_of _ (by decide +kernel)) ggX3_check_X0_addWhole
theorem dX3_check_0 : decode cX3_check 0 = .ok (.aload_n 0, 1) := by decide +kernel
theorem dX3_check_1 : decode cX3_check 1 = .ok (.getfield 43, 3) := by decide +kernel
theorem dX3_check_4 : decode cX3_check 4 = .ok (.ifCond .eq 6, 3) := by decide +kernel
theorem dX3_check_7 : decode cX3_check 7 = .ok (.bipush (-5), 2) := by decide +kernel
theorem dX3_check_9 : decode cX3_check 9 = .ok (.ireturn, 1) := by decide +kernel
theorem dX3_check_10 : decode cX3_check 10 = .ok (.aload_n 0, 1) := by decide +kernel
theorem dX3_check_11 : decode cX3_check 11 = .ok (.getfield 35, 3) := by decide +kernel
theorem dX3_check_14 : decode cX3_check 14 = .ok (.getfield 83, 3) := by decide +kernel
theorem dX3_check_17 : decode cX3_check 17 = .ok (.bipush 100, 2) := by decide +kernel
theorem dX3_check_19 : decode cX3_check 19 = .ok (.if_icmp .lt 5, 3) := by decide +kernel
theorem dX3_check_22 : decode cX3_check 22 = .ok (.iconst (-1), 1) := by decide +kernel
theorem dX3_check_23 : decode cX3_check 23 = .ok (.ireturn, 1) := by decide +kernel
theorem dX3_check_24 : decode cX3_check 24 = .ok (.iconst 4, 1) := by decide +kernel
theorem dX3_check_25 : decode cX3_check 25 = .ok (.aload_n 0, 1) := by decide +kernel
theorem dX3_check_26 : decode cX3_check 26 = .ok (.getfield 10, 3) := by decide +kernel
theorem dX3_check_29 : decode cX3_check 29 = .ok (.getfield 57, 3) := by decide +kernel
theorem dX3_check_32 : decode cX3_check 32 = .ok (.iadd, 1) := by decide +kernel
theorem dX3_check_33 : decode cX3_check 33 = .ok (.aload_n 0, 1) := by decide +kernel
theorem dX3_check_34 : decode cX3_check 34 = .ok (.getfield 10, 3) := by decide +kernel
theorem dX3_check_37 : decode cX3_check 37 = .ok (.getfield 66, 3) := by decide +kernel
theorem dX3_check_40 : decode cX3_check 40 = .ok (.iadd, 1) := by decide +kernel
theorem dX3_check_41 : decode cX3_check 41 = .ok (.istore_n 1, 1) := by decide +kernel
theorem dX3_check_42 : decode cX3_check 42 = .ok (.aload_n 0, 1) := by decide +kernel
theorem dX3_check_43 : decode cX3_check 43 = .ok (.getfield 47, 3) := by decide +kernel
theorem dX3_check_46 : decode cX3_check 46 = .ok (.ifCond .eq 32, 3) := by decide +kernel
theorem dX3_check_49 : decode cX3_check 49 = .ok (.aload_n 0, 1) := by decide +kernel
theorem dX3_check_50 : decode cX3_check 50 = .ok (.getfield 47, 3) := by decide +kernel
theorem dX3_check_53 : decode cX3_check 53 = .ok (.iload_n 1, 1) := by decide +kernel
theorem dX3_check_54 : decode cX3_check 54 = .ok (.if_icmp .gt 24, 3) := by decide +kernel
theorem dX3_check_57 : decode cX3_check 57 = .ok (.aload_n 0, 1) := by decide +kernel
theorem dX3_check_58 : decode cX3_check 58 = .ok (.getfield 47, 3) := by decide +kernel
theorem dX3_check_61 : decode cX3_check 61 = .ok (.iconst 1, 1) := by decide +kernel
theorem dX3_check_62 : decode cX3_check 62 = .ok (.if_icmp .le 10, 3) := by decide +kernel
theorem dX3_check_65 : decode cX3_check 65 = .ok (.aload_n 0, 1) := by decide +kernel
theorem dX3_check_66 : decode cX3_check 66 = .ok (.getfield 35, 3) := by decide +kernel
theorem dX3_check_69 : decode cX3_check 69 = .ok (.invokevirtual 86, 3) := by decide +kernel
theorem dX3_check_72 : decode cX3_check 72 = .ok (.aload_n 0, 1) := by decide +kernel
theorem dX3_check_73 : decode cX3_check 73 = .ok (.invokevirtual 89, 3) := by decide +kernel
theorem dX3_check_76 : decode cX3_check 76 = .ok (.iconst 0, 1) := by decide +kernel
theorem dX3_check_77 : decode cX3_check 77 = .ok (.ireturn, 1) := by decide +kernel
theorem dX3_check_78 : decode cX3_check 78 = .ok (.aload_n 0, 1) := by decide +kernel
theorem dX3_check_79 : decode cX3_check 79 = .ok (.getfield 35, 3) := by decide +kernel
theorem dX3_check_82 : decode cX3_check 82 = .ok (.aload_n 0, 1) := by decide +kernel
theorem dX3_check_83 : decode cX3_check 83 = .ok (.getfield 21, 3) := by decide +kernel
theorem dX3_check_86 : decode cX3_check 86 = .ok (.aload_n 0, 1) := by decide +kernel
theorem dX3_check_87 : decode cX3_check 87 = .ok (.getfield 39, 3) := by decide +kernel
theorem dX3_check_90 : decode cX3_check 90 = .ok (.invokevirtual 92, 3) := by decide +kernel
theorem dX3_check_93 : decode cX3_check 93 = .ok (.aload_n 0, 1) := by decide +kernel
theorem dX3_check_94 : decode cX3_check 94 = .ok (.getfield 35, 3) := by decide +kernel
theorem dX3_check_97 : decode cX3_check 97 = .ok (.getfield 83, 3) := by decide +kernel
theorem dX3_check_100 : decode cX3_check 100 = .ok (.ireturn, 1) := by decide +kernel
set_option maxRecDepth 20000 in
theorem ggX3_cut_X3_goDown : GoodIn wsX3_cut wsX3_goDown := goodIn_r _ [6, 7, 1, 8, 9, 10, 11, 12, 13, 14, 15, 16, 17] (by decide +kernel) (by decide +kernel)
set_option maxRecDepth 20000 in
theorem gX3_cut_X3_goDown : GoodIn wsX3_cut (wsV RX3 89 RX3 yX3_goDown wsX3_goDown) := goodIn_app (goodIn_of _ (by decide +kernel)) ggX3_cut_X3_goDown
theorem dX3_cut_0 : decode cX3_cut 0 = .ok (.iload_n 1, 1) := by decide +kernel
theorem dX3_cut_1 : decode cX3_cut 1 = .ok (.ifCond .lt 9, 3) := by decide +kernel
theorem dX3_cut_4 : decode cX3_cut 4 = .ok (.iload_n 1, 1) := by decide +kernel
theorem dX3_cut_5 : decode cX3_cut 5 = .ok (.bipush 30, 2) := by decide +kernel
theorem dX3_cut_7 : decode cX3_cut 7 = .ok (.if_icmp .le 6, 3) := by decide +kernel
theorem dX3_cut_10 : decode cX3_cut 10 = .ok (.bipush (-4), 2) := by decide +kernel
theorem dX3_cut_12 : decode cX3_cut 12 = .ok (.ireturn, 1) := by decide +kernel
theorem dX3_cut_13 : decode cX3_cut 13 = .ok (.iload_n 1, 1) := by decide +kernel
theorem dX3_cut_14 : decode cX3_cut 14 = .ok (.ifCond .ne 10, 3) := by decide +kernel
theorem dX3_cut_17 : decode cX3_cut 17 = .ok (.aload_n 0, 1) := by decide +kernel
theorem dX3_cut_18 : decode cX3_cut 18 = .ok (.invokevirtual 89, 3) := by decide +kernel
theorem dX3_cut_21 : decode cX3_cut 21 = .ok (.goto 8, 3) := by decide +kernel
theorem dX3_cut_24 : decode cX3_cut 24 = .ok (.aload_n 0, 1) := by decide +kernel
theorem dX3_cut_25 : decode cX3_cut 25 = .ok (.iload_n 1, 1) := by decide +kernel
theorem dX3_cut_26 : decode cX3_cut 26 = .ok (.putfield 47, 3) := by decide +kernel
theorem dX3_cut_29 : decode cX3_cut 29 = .ok (.iconst 1, 1) := by decide +kernel
theorem dX3_cut_30 : decode cX3_cut 30 = .ok (.ireturn, 1) := by decide +kernel
set_option maxRecDepth 20000 in
theorem ggX3_restart_X0_latestWholeUpTo : GoodIn wsX3_restart wsX0_latestWholeUpTo := goodIn_r _ [12, 13, 14, 15, 16, 11, 17, 18, 60, 61, 62, 63, 64, 65, 66] (by decide +kernel) (by decide +kernel)
set_option maxRecDepth 20000 in
theorem gX3_restart_X0_latestWholeUpTo : GoodIn wsX3_restart (wsV RX3 96 RX0 yX0_latestWholeUpTo wsX0_latestWholeUpTo) := goodIn_app (goodIn_of _ (by decide +kernel)) ggX3_restart_X0_latestWholeUpTo
set_option maxRecDepth 20000 in
theorem ggX3_restart_X0_isPastAFilesEnd : GoodIn wsX3_restart wsX0_isPastAFilesEnd := goodIn_r _ [22, 23, 24, 25, 67, 68, 69, 70, 60, 61, 62, 63, 64, 65, 66] (by decide +kernel) (by decide +kernel)
set_option maxRecDepth 20000 in
theorem gX3_restart_X0_isPastAFilesEnd : GoodIn wsX3_restart (wsV RX3 103 RX0 yX0_isPastAFilesEnd wsX0_isPastAFilesEnd) := goodIn_app (goodIn_of _ (by decide +kernel)) ggX3_restart_X0_isPastAFilesEnd
set_option maxRecDepth 20000 in
theorem ggX3_restart_X0_putBack : GoodIn wsX3_restart wsX0_putBack := goodIn_r _ [29, 30, 31, 32, 33, 34, 35, 36, 25, 37, 38, 39, 40, 41, 42, 43, 44, 45, 46, 47, 48, 49, 50, 60, 61, 62, 63, 64, 65, 66, 71, 72, 73, 74, 67, 68, 69, 70] (by decide +kernel) (by decide +kernel)
set_option maxRecDepth 20000 in
theorem gX3_restart_X0_putBack : GoodIn wsX3_restart (wsV RX3 107 RX0 yX0_putBack wsX0_putBack) := goodIn_app (goodIn_of _ (by decide +kernel)) ggX3_restart_X0_putBack
theorem dX3_restart_0 : decode cX3_restart 0 = .ok (.aload_n 0, 1) := by decide +kernel
theorem dX3_restart_1 : decode cX3_restart 1 = .ok (.getfield 43, 3) := by decide +kernel
theorem dX3_restart_4 : decode cX3_restart 4 = .ok (.ifCond .ne 6, 3) := by decide +kernel
theorem dX3_restart_7 : decode cX3_restart 7 = .ok (.bipush (-5), 2) := by decide +kernel
theorem dX3_restart_9 : decode cX3_restart 9 = .ok (.ireturn, 1) := by decide +kernel
theorem dX3_restart_10 : decode cX3_restart 10 = .ok (.aload_n 0, 1) := by decide +kernel
theorem dX3_restart_11 : decode cX3_restart 11 = .ok (.getfield 35, 3) := by decide +kernel
theorem dX3_restart_14 : decode cX3_restart 14 = .ok (.iload_n 1, 1) := by decide +kernel
theorem dX3_restart_15 : decode cX3_restart 15 = .ok (.invokevirtual 96, 3) := by decide +kernel
theorem dX3_restart_18 : decode cX3_restart 18 = .ok (.istore_n 2, 1) := by decide +kernel
theorem dX3_restart_19 : decode cX3_restart 19 = .ok (.iload_n 2, 1) := by decide +kernel
theorem dX3_restart_20 : decode cX3_restart 20 = .ok (.iconst (-1), 1) := by decide +kernel
theorem dX3_restart_21 : decode cX3_restart 21 = .ok (.if_icmp .ne 5, 3) := by decide +kernel
theorem dX3_restart_24 : decode cX3_restart 24 = .ok (.iconst (-1), 1) := by decide +kernel
theorem dX3_restart_25 : decode cX3_restart 25 = .ok (.ireturn, 1) := by decide +kernel
theorem dX3_restart_26 : decode cX3_restart 26 = .ok (.aload_n 0, 1) := by decide +kernel
theorem dX3_restart_27 : decode cX3_restart 27 = .ok (.getfield 35, 3) := by decide +kernel
theorem dX3_restart_30 : decode cX3_restart 30 = .ok (.getfield 100, 3) := by decide +kernel
theorem dX3_restart_33 : decode cX3_restart 33 = .ok (.iload_n 2, 1) := by decide +kernel
theorem dX3_restart_34 : decode cX3_restart 34 = .ok (.iconst 1, 1) := by decide +kernel
theorem dX3_restart_35 : decode cX3_restart 35 = .ok (.isub, 1) := by decide +kernel
theorem dX3_restart_36 : decode cX3_restart 36 = .ok (.iaload, 1) := by decide +kernel
theorem dX3_restart_37 : decode cX3_restart 37 = .ok (.aload_n 0, 1) := by decide +kernel
theorem dX3_restart_38 : decode cX3_restart 38 = .ok (.getfield 39, 3) := by decide +kernel
theorem dX3_restart_41 : decode cX3_restart 41 = .ok (.if_icmp .eq 6, 3) := by decide +kernel
theorem dX3_restart_44 : decode cX3_restart 44 = .ok (.bipush (-3), 2) := by decide +kernel
theorem dX3_restart_46 : decode cX3_restart 46 = .ok (.ireturn, 1) := by decide +kernel
theorem dX3_restart_47 : decode cX3_restart 47 = .ok (.aload_n 0, 1) := by decide +kernel
theorem dX3_restart_48 : decode cX3_restart 48 = .ok (.getfield 35, 3) := by decide +kernel
theorem dX3_restart_51 : decode cX3_restart 51 = .ok (.iload_n 2, 1) := by decide +kernel
theorem dX3_restart_52 : decode cX3_restart 52 = .ok (.aload_n 0, 1) := by decide +kernel
theorem dX3_restart_53 : decode cX3_restart 53 = .ok (.getfield 10, 3) := by decide +kernel
theorem dX3_restart_56 : decode cX3_restart 56 = .ok (.invokevirtual 103, 3) := by decide +kernel
theorem dX3_restart_59 : decode cX3_restart 59 = .ok (.ifCond .eq 6, 3) := by decide +kernel
theorem dX3_restart_62 : decode cX3_restart 62 = .ok (.bipush (-2), 2) := by decide +kernel
theorem dX3_restart_64 : decode cX3_restart 64 = .ok (.ireturn, 1) := by decide +kernel
theorem dX3_restart_65 : decode cX3_restart 65 = .ok (.aload_n 0, 1) := by decide +kernel
theorem dX3_restart_66 : decode cX3_restart 66 = .ok (.getfield 35, 3) := by decide +kernel
theorem dX3_restart_69 : decode cX3_restart 69 = .ok (.iload_n 2, 1) := by decide +kernel
theorem dX3_restart_70 : decode cX3_restart 70 = .ok (.aload_n 0, 1) := by decide +kernel
theorem dX3_restart_71 : decode cX3_restart 71 = .ok (.getfield 21, 3) := by decide +kernel
theorem dX3_restart_74 : decode cX3_restart 74 = .ok (.invokevirtual 107, 3) := by decide +kernel
theorem dX3_restart_77 : decode cX3_restart 77 = .ok (.aload_n 0, 1) := by decide +kernel
theorem dX3_restart_78 : decode cX3_restart 78 = .ok (.getfield 35, 3) := by decide +kernel
theorem dX3_restart_81 : decode cX3_restart 81 = .ok (.iload_n 2, 1) := by decide +kernel
theorem dX3_restart_82 : decode cX3_restart 82 = .ok (.putfield 83, 3) := by decide +kernel
theorem dX3_restart_85 : decode cX3_restart 85 = .ok (.aload_n 0, 1) := by decide +kernel
theorem dX3_restart_86 : decode cX3_restart 86 = .ok (.iconst 0, 1) := by decide +kernel
theorem dX3_restart_87 : decode cX3_restart 87 = .ok (.putfield 43, 3) := by decide +kernel
theorem dX3_restart_90 : decode cX3_restart 90 = .ok (.iload_n 2, 1) := by decide +kernel
theorem dX3_restart_91 : decode cX3_restart 91 = .ok (.ireturn, 1) := by decide +kernel
theorem dX3_get_0 : decode cX3_get 0 = .ok (.iload_n 1, 1) := by decide +kernel
theorem dX3_get_1 : decode cX3_get 1 = .ok (.ifCond .lt 14, 3) := by decide +kernel
theorem dX3_get_4 : decode cX3_get 4 = .ok (.iload_n 1, 1) := by decide +kernel
theorem dX3_get_5 : decode cX3_get 5 = .ok (.aload_n 0, 1) := by decide +kernel
theorem dX3_get_6 : decode cX3_get 6 = .ok (.getfield 10, 3) := by decide +kernel
theorem dX3_get_9 : decode cX3_get 9 = .ok (.getfield 57, 3) := by decide +kernel
theorem dX3_get_12 : decode cX3_get 12 = .ok (.if_icmp .lt 13, 3) := by decide +kernel
theorem dX3_get_15 : decode cX3_get 15 = .ok (.new 111, 3) := by decide +kernel
theorem dX3_get_18 : decode cX3_get 18 = .ok (.dup, 1) := by decide +kernel
theorem dX3_get_19 : decode cX3_get 19 = .ok (.ldc 113, 2) := by decide +kernel
theorem dX3_get_21 : decode cX3_get 21 = .ok (.invokespecial 115, 3) := by decide +kernel
theorem dX3_get_24 : decode cX3_get 24 = .ok (.athrow, 1) := by decide +kernel
theorem dX3_get_25 : decode cX3_get 25 = .ok (.aload_n 0, 1) := by decide +kernel
theorem dX3_get_26 : decode cX3_get 26 = .ok (.getfield 21, 3) := by decide +kernel
theorem dX3_get_29 : decode cX3_get 29 = .ok (.getfield 63, 3) := by decide +kernel
theorem dX3_get_32 : decode cX3_get 32 = .ok (.iload_n 1, 1) := by decide +kernel
theorem dX3_get_33 : decode cX3_get 33 = .ok (.laload, 1) := by decide +kernel
theorem dX3_get_34 : decode cX3_get 34 = .ok (.lreturn, 1) := by decide +kernel
set_option maxRecDepth 20000 in
theorem ggX3_position_X1_hasFile : GoodIn wsX3_position wsX1_hasFile := goodIn_r _ [8, 9, 23, 24, 25, 26] (by decide +kernel) (by decide +kernel)
set_option maxRecDepth 20000 in
theorem gX3_position_X1_hasFile : GoodIn wsX3_position (wsV RX3 118 RX1 yX1_hasFile wsX1_hasFile) := goodIn_app (goodIn_of _ (by decide +kernel)) ggX3_position_X1_hasFile
theorem dX3_position_0 : decode cX3_position 0 = .ok (.aload_n 0, 1) := by decide +kernel
theorem dX3_position_1 : decode cX3_position 1 = .ok (.getfield 10, 3) := by decide +kernel
theorem dX3_position_4 : decode cX3_position 4 = .ok (.iload_n 1, 1) := by decide +kernel
theorem dX3_position_5 : decode cX3_position 5 = .ok (.invokevirtual 118, 3) := by decide +kernel
theorem dX3_position_8 : decode cX3_position 8 = .ok (.ifCond .eq 15, 3) := by decide +kernel
theorem dX3_position_11 : decode cX3_position 11 = .ok (.aload_n 0, 1) := by decide +kernel
theorem dX3_position_12 : decode cX3_position 12 = .ok (.getfield 21, 3) := by decide +kernel
theorem dX3_position_15 : decode cX3_position 15 = .ok (.getfield 122, 3) := by decide +kernel
theorem dX3_position_18 : decode cX3_position 18 = .ok (.iload_n 1, 1) := by decide +kernel
theorem dX3_position_19 : decode cX3_position 19 = .ok (.iaload, 1) := by decide +kernel
theorem dX3_position_20 : decode cX3_position 20 = .ok (.goto 4, 3) := by decide +kernel
theorem dX3_position_23 : decode cX3_position 23 = .ok (.iconst (-1), 1) := by decide +kernel
theorem dX3_position_24 : decode cX3_position 24 = .ok (.ireturn, 1) := by decide +kernel
set_option maxRecDepth 20000 in
theorem ggX3_grow_X1_hasFile : GoodIn wsX3_grow wsX1_hasFile := goodIn_r _ [8, 9, 19, 20, 21, 22] (by decide +kernel) (by decide +kernel)
set_option maxRecDepth 20000 in
theorem gX3_grow_X1_hasFile : GoodIn wsX3_grow (wsV RX3 118 RX1 yX1_hasFile wsX1_hasFile) := goodIn_app (goodIn_of _ (by decide +kernel)) ggX3_grow_X1_hasFile
theorem dX3_grow_0 : decode cX3_grow 0 = .ok (.aload_n 0, 1) := by decide +kernel
theorem dX3_grow_1 : decode cX3_grow 1 = .ok (.getfield 10, 3) := by decide +kernel
theorem dX3_grow_4 : decode cX3_grow 4 = .ok (.iload_n 1, 1) := by decide +kernel
theorem dX3_grow_5 : decode cX3_grow 5 = .ok (.invokevirtual 118, 3) := by decide +kernel
theorem dX3_grow_8 : decode cX3_grow 8 = .ok (.ifCond .ne 5, 3) := by decide +kernel
theorem dX3_grow_11 : decode cX3_grow 11 = .ok (.iconst (-1), 1) := by decide +kernel
theorem dX3_grow_12 : decode cX3_grow 12 = .ok (.ireturn, 1) := by decide +kernel
theorem dX3_grow_13 : decode cX3_grow 13 = .ok (.aload_n 0, 1) := by decide +kernel
theorem dX3_grow_14 : decode cX3_grow 14 = .ok (.getfield 10, 3) := by decide +kernel
theorem dX3_grow_17 : decode cX3_grow 17 = .ok (.getfield 69, 3) := by decide +kernel
theorem dX3_grow_20 : decode cX3_grow 20 = .ok (.iload_n 1, 1) := by decide +kernel
theorem dX3_grow_21 : decode cX3_grow 21 = .ok (.iaload, 1) := by decide +kernel
theorem dX3_grow_22 : decode cX3_grow 22 = .ok (.i2l, 1) := by decide +kernel
theorem dX3_grow_23 : decode cX3_grow 23 = .ok (.iload_n 2, 1) := by decide +kernel
theorem dX3_grow_24 : decode cX3_grow 24 = .ok (.i2l, 1) := by decide +kernel
theorem dX3_grow_25 : decode cX3_grow 25 = .ok (.ladd, 1) := by decide +kernel
theorem dX3_grow_26 : decode cX3_grow 26 = .ok (.lstore_n 3, 1) := by decide +kernel
theorem dX3_grow_27 : decode cX3_grow 27 = .ok (.lload_n 3, 1) := by decide +kernel
theorem dX3_grow_28 : decode cX3_grow 28 = .ok (.lconst 0, 1) := by decide +kernel
theorem dX3_grow_29 : decode cX3_grow 29 = .ok (.lcmp, 1) := by decide +kernel
theorem dX3_grow_30 : decode cX3_grow 30 = .ok (.ifCond .lt 11, 3) := by decide +kernel
theorem dX3_grow_33 : decode cX3_grow 33 = .ok (.lload_n 3, 1) := by decide +kernel
theorem dX3_grow_34 : decode cX3_grow 34 = .ok (.ldc2_w 125, 3) := by decide +kernel
theorem dX3_grow_37 : decode cX3_grow 37 = .ok (.lcmp, 1) := by decide +kernel
theorem dX3_grow_38 : decode cX3_grow 38 = .ok (.ifCond .le 6, 3) := by decide +kernel
theorem dX3_grow_41 : decode cX3_grow 41 = .ok (.bipush (-4), 2) := by decide +kernel
theorem dX3_grow_43 : decode cX3_grow 43 = .ok (.ireturn, 1) := by decide +kernel
theorem dX3_grow_44 : decode cX3_grow 44 = .ok (.aload_n 0, 1) := by decide +kernel
theorem dX3_grow_45 : decode cX3_grow 45 = .ok (.getfield 10, 3) := by decide +kernel
theorem dX3_grow_48 : decode cX3_grow 48 = .ok (.getfield 69, 3) := by decide +kernel
theorem dX3_grow_51 : decode cX3_grow 51 = .ok (.iload_n 1, 1) := by decide +kernel
theorem dX3_grow_52 : decode cX3_grow 52 = .ok (.lload_n 3, 1) := by decide +kernel
theorem dX3_grow_53 : decode cX3_grow 53 = .ok (.l2i, 1) := by decide +kernel
theorem dX3_grow_54 : decode cX3_grow 54 = .ok (.iastore, 1) := by decide +kernel
theorem dX3_grow_55 : decode cX3_grow 55 = .ok (.aload_n 0, 1) := by decide +kernel
theorem dX3_grow_56 : decode cX3_grow 56 = .ok (.getfield 10, 3) := by decide +kernel
theorem dX3_grow_59 : decode cX3_grow 59 = .ok (.getfield 69, 3) := by decide +kernel
theorem dX3_grow_62 : decode cX3_grow 62 = .ok (.iload_n 1, 1) := by decide +kernel
theorem dX3_grow_63 : decode cX3_grow 63 = .ok (.iaload, 1) := by decide +kernel
theorem dX3_grow_64 : decode cX3_grow 64 = .ok (.ireturn, 1) := by decide +kernel
theorem dX3_edition_0 : decode cX3_edition 0 = .ok (.aload_n 0, 1) := by decide +kernel
theorem dX3_edition_1 : decode cX3_edition 1 = .ok (.getfield 39, 3) := by decide +kernel
theorem dX3_edition_4 : decode cX3_edition 4 = .ok (.istore_n 2, 1) := by decide +kernel
theorem dX3_edition_5 : decode cX3_edition 5 = .ok (.aload_n 0, 1) := by decide +kernel
theorem dX3_edition_6 : decode cX3_edition 6 = .ok (.iload_n 1, 1) := by decide +kernel
theorem dX3_edition_7 : decode cX3_edition 7 = .ok (.putfield 39, 3) := by decide +kernel
theorem dX3_edition_10 : decode cX3_edition 10 = .ok (.iload_n 2, 1) := by decide +kernel
theorem dX3_edition_11 : decode cX3_edition 11 = .ok (.ireturn, 1) := by decide +kernel
set_option maxRecDepth 20000 in
theorem ggX3_output_X3_hasRow : GoodIn wsX3_output wsX3_hasRow := goodIn_r _ [6, 7, 8, 9, 10, 11, 12, 13, 14, 15, 16, 17, 18, 19, 20, 21] (by decide +kernel) (by decide +kernel)
set_option maxRecDepth 20000 in
theorem gX3_output_X3_hasRow : GoodIn wsX3_output (wsV RX3 127 RX3 yX3_hasRow wsX3_hasRow) := goodIn_app (goodIn_of _ (by decide +kernel)) ggX3_output_X3_hasRow
theorem dX3_output_0 : decode cX3_output 0 = .ok (.aload_n 0, 1) := by decide +kernel
theorem dX3_output_1 : decode cX3_output 1 = .ok (.iload_n 1, 1) := by decide +kernel
theorem dX3_output_2 : decode cX3_output 2 = .ok (.invokevirtual 127, 3) := by decide +kernel
theorem dX3_output_5 : decode cX3_output 5 = .ok (.ifCond .eq 13, 3) := by decide +kernel
theorem dX3_output_8 : decode cX3_output 8 = .ok (.aload_n 0, 1) := by decide +kernel
theorem dX3_output_9 : decode cX3_output 9 = .ok (.getfield 28, 3) := by decide +kernel
theorem dX3_output_12 : decode cX3_output 12 = .ok (.iload_n 1, 1) := by decide +kernel
theorem dX3_output_13 : decode cX3_output 13 = .ok (.laload, 1) := by decide +kernel
theorem dX3_output_14 : decode cX3_output 14 = .ok (.l2i, 1) := by decide +kernel
theorem dX3_output_15 : decode cX3_output 15 = .ok (.goto 4, 3) := by decide +kernel
theorem dX3_output_18 : decode cX3_output 18 = .ok (.iconst 0, 1) := by decide +kernel
theorem dX3_output_19 : decode cX3_output 19 = .ok (.ireturn, 1) := by decide +kernel
set_option maxRecDepth 20000 in
theorem ggX3_torn_X0_has : GoodIn wsX3_torn wsX0_has := goodIn_r _ [7, 8, 22, 23, 24, 25, 26, 27, 28] (by decide +kernel) (by decide +kernel)
set_option maxRecDepth 20000 in
theorem gX3_torn_X0_has : GoodIn wsX3_torn (wsV RX3 130 RX0 yX0_has wsX0_has) := goodIn_app (goodIn_of _ (by decide +kernel)) ggX3_torn_X0_has
set_option maxRecDepth 20000 in
theorem ggX3_torn_X3_asNumber : GoodIn wsX3_torn wsX3_asNumber := goodIn_r _ [12] (by decide +kernel) (by decide +kernel)
set_option maxRecDepth 20000 in
theorem gX3_torn_X3_asNumber : GoodIn wsX3_torn (va_wsS RX3 137 yX3_asNumber wsX3_asNumber) := goodIn_app (goodIn_of _ (by decide +kernel)) ggX3_torn_X3_asNumber
theorem dX3_torn_0 : decode cX3_torn 0 = .ok (.aload_n 0, 1) := by decide +kernel
theorem dX3_torn_1 : decode cX3_torn 1 = .ok (.getfield 35, 3) := by decide +kernel
theorem dX3_torn_4 : decode cX3_torn 4 = .ok (.iload_n 1, 1) := by decide +kernel
theorem dX3_torn_5 : decode cX3_torn 5 = .ok (.invokevirtual 130, 3) := by decide +kernel
theorem dX3_torn_8 : decode cX3_torn 8 = .ok (.ifCond .ne 5, 3) := by decide +kernel
theorem dX3_torn_11 : decode cX3_torn 11 = .ok (.iconst (-1), 1) := by decide +kernel
theorem dX3_torn_12 : decode cX3_torn 12 = .ok (.ireturn, 1) := by decide +kernel
theorem dX3_torn_13 : decode cX3_torn 13 = .ok (.aload_n 0, 1) := by decide +kernel
theorem dX3_torn_14 : decode cX3_torn 14 = .ok (.getfield 35, 3) := by decide +kernel
theorem dX3_torn_17 : decode cX3_torn 17 = .ok (.getfield 133, 3) := by decide +kernel
theorem dX3_torn_20 : decode cX3_torn 20 = .ok (.iload_n 1, 1) := by decide +kernel
theorem dX3_torn_21 : decode cX3_torn 21 = .ok (.iconst 1, 1) := by decide +kernel
theorem dX3_torn_22 : decode cX3_torn 22 = .ok (.isub, 1) := by decide +kernel
theorem dX3_torn_23 : decode cX3_torn 23 = .ok (.baload, 1) := by decide +kernel
theorem dX3_torn_24 : decode cX3_torn 24 = .ok (.ifCond .ne 7, 3) := by decide +kernel
theorem dX3_torn_27 : decode cX3_torn 27 = .ok (.iconst 1, 1) := by decide +kernel
theorem dX3_torn_28 : decode cX3_torn 28 = .ok (.goto 4, 3) := by decide +kernel
theorem dX3_torn_31 : decode cX3_torn 31 = .ok (.iconst 0, 1) := by decide +kernel
theorem dX3_torn_32 : decode cX3_torn 32 = .ok (.invokestatic 137, 3) := by decide +kernel
theorem dX3_torn_35 : decode cX3_torn 35 = .ok (.ireturn, 1) := by decide +kernel
set_option maxRecDepth 20000 in
theorem ggX3_row_X3_hasRow : GoodIn wsX3_row wsX3_hasRow := goodIn_r _ [9, 10, 11, 18, 19, 20, 21, 22, 23, 24, 25, 26, 27, 28, 29, 30] (by decide +kernel) (by decide +kernel)
set_option maxRecDepth 20000 in
theorem gX3_row_X3_hasRow : GoodIn wsX3_row (wsV RX3 127 RX3 yX3_hasRow wsX3_hasRow) := goodIn_app (goodIn_of _ (by decide +kernel)) ggX3_row_X3_hasRow
theorem dX3_row_0 : decode cX3_row 0 = .ok (.aload_n 0, 1) := by decide +kernel
theorem dX3_row_1 : decode cX3_row 1 = .ok (.iload_n 1, 1) := by decide +kernel
theorem dX3_row_2 : decode cX3_row 2 = .ok (.invokevirtual 127, 3) := by decide +kernel
theorem dX3_row_5 : decode cX3_row 5 = .ok (.ifCond .ne 13, 3) := by decide +kernel
theorem dX3_row_8 : decode cX3_row 8 = .ok (.new 141, 3) := by decide +kernel
theorem dX3_row_11 : decode cX3_row 11 = .ok (.dup, 1) := by decide +kernel
theorem dX3_row_12 : decode cX3_row 12 = .ok (.ldc 143, 2) := by decide +kernel
theorem dX3_row_14 : decode cX3_row 14 = .ok (.invokespecial 145, 3) := by decide +kernel
theorem dX3_row_17 : decode cX3_row 17 = .ok (.athrow, 1) := by decide +kernel
theorem dX3_row_18 : decode cX3_row 18 = .ok (.aload_n 0, 1) := by decide +kernel
theorem dX3_row_19 : decode cX3_row 19 = .ok (.getfield 28, 3) := by decide +kernel
theorem dX3_row_22 : decode cX3_row 22 = .ok (.iload_n 1, 1) := by decide +kernel
theorem dX3_row_23 : decode cX3_row 23 = .ok (.laload, 1) := by decide +kernel
theorem dX3_row_24 : decode cX3_row 24 = .ok (.bipush 32, 2) := by decide +kernel
theorem dX3_row_26 : decode cX3_row 26 = .ok (.lshr, 1) := by decide +kernel
theorem dX3_row_27 : decode cX3_row 27 = .ok (.l2i, 1) := by decide +kernel
theorem dX3_row_28 : decode cX3_row 28 = .ok (.ireturn, 1) := by decide +kernel
set_option maxRecDepth 20000 in
theorem ggX3_equal_X2_startOver : GoodIn wsX3_equal wsX2_startOver := goodIn_r _ [9, 10, 11, 12, 13, 14, 15, 44, 45, 46, 47, 48, 49, 50, 51] (by decide +kernel) (by decide +kernel)
set_option maxRecDepth 20000 in
theorem gX3_equal_X2_startOver : GoodIn wsX3_equal (wsV RX3 146 RX2 yX2_startOver wsX2_startOver) := goodIn_app (goodIn_of _ (by decide +kernel)) ggX3_equal_X2_startOver
set_option maxRecDepth 20000 in
theorem ggX3_equal_X2_isEnded : GoodIn wsX3_equal wsX2_isEnded := goodIn_r _ [19, 10, 20, 14, 21, 44, 45, 46, 47, 48, 49, 50, 51] (by decide +kernel) (by decide +kernel)
set_option maxRecDepth 20000 in
theorem gX3_equal_X2_isEnded : GoodIn wsX3_equal (wsV RX3 76 RX2 yX2_isEnded wsX2_isEnded) := goodIn_app (goodIn_of _ (by decide +kernel)) ggX3_equal_X2_isEnded
set_option maxRecDepth 20000 in
theorem ggX3_equal_X2_doUnit : GoodIn wsX3_equal wsX2_doUnit := goodIn_r _ [25, 15, 10, 11, 12, 26, 27, 28, 8, 29, 20, 14, 21, 30, 44, 45, 46, 47, 48, 49, 50, 51] (by decide +kernel) (by decide +kernel)
set_option maxRecDepth 20000 in
theorem gX3_equal_X2_doUnit : GoodIn wsX3_equal (wsV RX3 79 RX2 yX2_doUnit wsX2_doUnit) := goodIn_app (goodIn_of _ (by decide +kernel)) ggX3_equal_X2_doUnit
set_option maxRecDepth 20000 in
theorem ggX3_equal_X2_hasCellsOf : GoodIn wsX3_equal wsX2_hasCellsOf := goodIn_r _ [34, 10, 11, 12, 44, 45, 46, 47, 48, 49, 50, 51] (by decide +kernel) (by decide +kernel)
set_option maxRecDepth 20000 in
theorem gX3_equal_X2_hasCellsOf : GoodIn wsX3_equal (wsV RX3 149 RX2 yX2_hasCellsOf wsX2_hasCellsOf) := goodIn_app (goodIn_of _ (by decide +kernel)) ggX3_equal_X2_hasCellsOf
theorem dX3_equal_0 : decode cX3_equal 0 = .ok (.aload_n 0, 1) := by decide +kernel
theorem dX3_equal_1 : decode cX3_equal 1 = .ok (.getfield 25, 3) := by decide +kernel
theorem dX3_equal_4 : decode cX3_equal 4 = .ok (.invokevirtual 146, 3) := by decide +kernel
theorem dX3_equal_7 : decode cX3_equal 7 = .ok (.iconst 0, 1) := by decide +kernel
theorem dX3_equal_8 : decode cX3_equal 8 = .ok (.istore_n 1, 1) := by decide +kernel
theorem dX3_equal_9 : decode cX3_equal 9 = .ok (.iload_n 1, 1) := by decide +kernel
theorem dX3_equal_10 : decode cX3_equal 10 = .ok (.aload_n 0, 1) := by decide +kernel
theorem dX3_equal_11 : decode cX3_equal 11 = .ok (.getfield 21, 3) := by decide +kernel
theorem dX3_equal_14 : decode cX3_equal 14 = .ok (.getfield 73, 3) := by decide +kernel
theorem dX3_equal_17 : decode cX3_equal 17 = .ok (.if_icmp .ge 38, 3) := by decide +kernel
theorem dX3_equal_20 : decode cX3_equal 20 = .ok (.aload_n 0, 1) := by decide +kernel
theorem dX3_equal_21 : decode cX3_equal 21 = .ok (.getfield 25, 3) := by decide +kernel
theorem dX3_equal_24 : decode cX3_equal 24 = .ok (.invokevirtual 76, 3) := by decide +kernel
theorem dX3_equal_27 : decode cX3_equal 27 = .ok (.ifCond .ne 20, 3) := by decide +kernel
theorem dX3_equal_30 : decode cX3_equal 30 = .ok (.aload_n 0, 1) := by decide +kernel
theorem dX3_equal_31 : decode cX3_equal 31 = .ok (.getfield 25, 3) := by decide +kernel
theorem dX3_equal_34 : decode cX3_equal 34 = .ok (.invokevirtual 79, 3) := by decide +kernel
theorem dX3_equal_37 : decode cX3_equal 37 = .ok (.aload_n 0, 1) := by decide +kernel
theorem dX3_equal_38 : decode cX3_equal 38 = .ok (.getfield 28, 3) := by decide +kernel
theorem dX3_equal_41 : decode cX3_equal 41 = .ok (.iload_n 1, 1) := by decide +kernel
theorem dX3_equal_42 : decode cX3_equal 42 = .ok (.laload, 1) := by decide +kernel
theorem dX3_equal_43 : decode cX3_equal 43 = .ok (.lcmp, 1) := by decide +kernel
theorem dX3_equal_44 : decode cX3_equal 44 = .ok (.ifCond .eq 5, 3) := by decide +kernel
theorem dX3_equal_47 : decode cX3_equal 47 = .ok (.iconst 0, 1) := by decide +kernel
theorem dX3_equal_48 : decode cX3_equal 48 = .ok (.ireturn, 1) := by decide +kernel
theorem dX3_equal_49 : decode cX3_equal 49 = .ok (.iinc 1 1, 3) := by decide +kernel
theorem dX3_equal_52 : decode cX3_equal 52 = .ok (.goto (-43), 3) := by decide +kernel
theorem dX3_equal_55 : decode cX3_equal 55 = .ok (.aload_n 0, 1) := by decide +kernel
theorem dX3_equal_56 : decode cX3_equal 56 = .ok (.getfield 21, 3) := by decide +kernel
theorem dX3_equal_59 : decode cX3_equal 59 = .ok (.aload_n 0, 1) := by decide +kernel
theorem dX3_equal_60 : decode cX3_equal 60 = .ok (.getfield 25, 3) := by decide +kernel
theorem dX3_equal_63 : decode cX3_equal 63 = .ok (.invokevirtual 149, 3) := by decide +kernel
theorem dX3_equal_66 : decode cX3_equal 66 = .ok (.ireturn, 1) := by decide +kernel
set_option maxRecDepth 20000 in
theorem ggX3_count_X3_asNumber : GoodIn wsX3_count wsX3_asNumber := goodIn_r _ [13] (by decide +kernel) (by decide +kernel)
set_option maxRecDepth 20000 in
theorem gX3_count_X3_asNumber : GoodIn wsX3_count (va_wsS RX3 137 yX3_asNumber wsX3_asNumber) := goodIn_app (goodIn_of _ (by decide +kernel)) ggX3_count_X3_asNumber
set_option maxRecDepth 20000 in
theorem ggX3_count_X2_isEnded : GoodIn wsX3_count wsX2_isEnded := goodIn_r _ [18, 19, 20, 21, 22, 36, 37, 38, 39, 32, 33, 34, 35] (by decide +kernel) (by decide +kernel)
set_option maxRecDepth 20000 in
theorem gX3_count_X2_isEnded : GoodIn wsX3_count (wsV RX3 76 RX2 yX2_isEnded wsX2_isEnded) := goodIn_app (goodIn_of _ (by decide +kernel)) ggX3_count_X2_isEnded
theorem dX3_count_0 : decode cX3_count 0 = .ok (.iload_n 1, 1) := by decide +kernel
theorem dX3_count_1 : decode cX3_count 1 = .ok (.tableswitch 99 0 6 #[43, 51, 59, 67, 75, 83, 94], 43) := by decide +kernel
theorem dX3_count_44 : decode cX3_count 44 = .ok (.aload_n 0, 1) := by decide +kernel
theorem dX3_count_45 : decode cX3_count 45 = .ok (.getfield 10, 3) := by decide +kernel
theorem dX3_count_48 : decode cX3_count 48 = .ok (.getfield 57, 3) := by decide +kernel
theorem dX3_count_51 : decode cX3_count 51 = .ok (.ireturn, 1) := by decide +kernel
theorem dX3_count_52 : decode cX3_count 52 = .ok (.aload_n 0, 1) := by decide +kernel
theorem dX3_count_53 : decode cX3_count 53 = .ok (.getfield 10, 3) := by decide +kernel
theorem dX3_count_56 : decode cX3_count 56 = .ok (.getfield 66, 3) := by decide +kernel
theorem dX3_count_59 : decode cX3_count 59 = .ok (.ireturn, 1) := by decide +kernel
theorem dX3_count_60 : decode cX3_count 60 = .ok (.aload_n 0, 1) := by decide +kernel
theorem dX3_count_61 : decode cX3_count 61 = .ok (.getfield 21, 3) := by decide +kernel
theorem dX3_count_64 : decode cX3_count 64 = .ok (.getfield 73, 3) := by decide +kernel
theorem dX3_count_67 : decode cX3_count 67 = .ok (.ireturn, 1) := by decide +kernel
theorem dX3_count_68 : decode cX3_count 68 = .ok (.aload_n 0, 1) := by decide +kernel
theorem dX3_count_69 : decode cX3_count 69 = .ok (.getfield 35, 3) := by decide +kernel
theorem dX3_count_72 : decode cX3_count 72 = .ok (.getfield 83, 3) := by decide +kernel
theorem dX3_count_75 : decode cX3_count 75 = .ok (.ireturn, 1) := by decide +kernel
theorem dX3_count_76 : decode cX3_count 76 = .ok (.aload_n 0, 1) := by decide +kernel
theorem dX3_count_77 : decode cX3_count 77 = .ok (.getfield 43, 3) := by decide +kernel
theorem dX3_count_80 : decode cX3_count 80 = .ok (.invokestatic 137, 3) := by decide +kernel
theorem dX3_count_83 : decode cX3_count 83 = .ok (.ireturn, 1) := by decide +kernel
theorem dX3_count_84 : decode cX3_count 84 = .ok (.aload_n 0, 1) := by decide +kernel
theorem dX3_count_85 : decode cX3_count 85 = .ok (.getfield 21, 3) := by decide +kernel
theorem dX3_count_88 : decode cX3_count 88 = .ok (.invokevirtual 76, 3) := by decide +kernel
theorem dX3_count_91 : decode cX3_count 91 = .ok (.invokestatic 137, 3) := by decide +kernel
theorem dX3_count_94 : decode cX3_count 94 = .ok (.ireturn, 1) := by decide +kernel
theorem dX3_count_95 : decode cX3_count 95 = .ok (.aload_n 0, 1) := by decide +kernel
theorem dX3_count_96 : decode cX3_count 96 = .ok (.getfield 50, 3) := by decide +kernel
theorem dX3_count_99 : decode cX3_count 99 = .ok (.ireturn, 1) := by decide +kernel
theorem dX3_count_100 : decode cX3_count 100 = .ok (.iconst (-1), 1) := by decide +kernel
theorem dX3_count_101 : decode cX3_count 101 = .ok (.ireturn, 1) := by decide +kernel
theorem dX3_isSetupOver_0 : decode cX3_isSetupOver 0 = .ok (.aload_n 0, 1) := by decide +kernel
theorem dX3_isSetupOver_1 : decode cX3_isSetupOver 1 = .ok (.getfield 43, 3) := by decide +kernel
theorem dX3_isSetupOver_4 : decode cX3_isSetupOver 4 = .ok (.ifCond .ne 13, 3) := by decide +kernel
theorem dX3_isSetupOver_7 : decode cX3_isSetupOver 7 = .ok (.aload_n 0, 1) := by decide +kernel
theorem dX3_isSetupOver_8 : decode cX3_isSetupOver 8 = .ok (.getfield 21, 3) := by decide +kernel
theorem dX3_isSetupOver_11 : decode cX3_isSetupOver 11 = .ok (.getfield 73, 3) := by decide +kernel
theorem dX3_isSetupOver_14 : decode cX3_isSetupOver 14 = .ok (.ifCond .le 7, 3) := by decide +kernel
theorem dX3_isSetupOver_17 : decode cX3_isSetupOver 17 = .ok (.iconst 1, 1) := by decide +kernel
theorem dX3_isSetupOver_18 : decode cX3_isSetupOver 18 = .ok (.goto 4, 3) := by decide +kernel
theorem dX3_isSetupOver_21 : decode cX3_isSetupOver 21 = .ok (.iconst 0, 1) := by decide +kernel
theorem dX3_isSetupOver_22 : decode cX3_isSetupOver 22 = .ok (.ireturn, 1) := by decide +kernel
theorem dX3_goDown_0 : decode cX3_goDown 0 = .ok (.aload_n 0, 1) := by decide +kernel
theorem dX3_goDown_1 : decode cX3_goDown 1 = .ok (.iconst 1, 1) := by decide +kernel
theorem dX3_goDown_2 : decode cX3_goDown 2 = .ok (.putfield 43, 3) := by decide +kernel
theorem dX3_goDown_5 : decode cX3_goDown 5 = .ok (.aload_n 0, 1) := by decide +kernel
theorem dX3_goDown_6 : decode cX3_goDown 6 = .ok (.iconst 0, 1) := by decide +kernel
theorem dX3_goDown_7 : decode cX3_goDown 7 = .ok (.putfield 47, 3) := by decide +kernel
theorem dX3_goDown_10 : decode cX3_goDown 10 = .ok (.aload_n 0, 1) := by decide +kernel
theorem dX3_goDown_11 : decode cX3_goDown 11 = .ok (.dup, 1) := by decide +kernel
theorem dX3_goDown_12 : decode cX3_goDown 12 = .ok (.getfield 50, 3) := by decide +kernel
theorem dX3_goDown_15 : decode cX3_goDown 15 = .ok (.iconst 1, 1) := by decide +kernel
theorem dX3_goDown_16 : decode cX3_goDown 16 = .ok (.iadd, 1) := by decide +kernel
theorem dX3_goDown_17 : decode cX3_goDown 17 = .ok (.putfield 50, 3) := by decide +kernel
theorem dX3_goDown_20 : decode cX3_goDown 20 = .ok (.return_, 1) := by decide +kernel
theorem dX3_hasRow_0 : decode cX3_hasRow 0 = .ok (.iload_n 1, 1) := by decide +kernel
theorem dX3_hasRow_1 : decode cX3_hasRow 1 = .ok (.ifCond .lt 18, 3) := by decide +kernel
theorem dX3_hasRow_4 : decode cX3_hasRow 4 = .ok (.iload_n 1, 1) := by decide +kernel
theorem dX3_hasRow_5 : decode cX3_hasRow 5 = .ok (.aload_n 0, 1) := by decide +kernel
theorem dX3_hasRow_6 : decode cX3_hasRow 6 = .ok (.getfield 21, 3) := by decide +kernel
theorem dX3_hasRow_9 : decode cX3_hasRow 9 = .ok (.getfield 73, 3) := by decide +kernel
theorem dX3_hasRow_12 : decode cX3_hasRow 12 = .ok (.if_icmp .ge 7, 3) := by decide +kernel
theorem dX3_hasRow_15 : decode cX3_hasRow 15 = .ok (.iconst 1, 1) := by decide +kernel
theorem dX3_hasRow_16 : decode cX3_hasRow 16 = .ok (.goto 4, 3) := by decide +kernel
theorem dX3_hasRow_19 : decode cX3_hasRow 19 = .ok (.iconst 0, 1) := by decide +kernel
theorem dX3_hasRow_20 : decode cX3_hasRow 20 = .ok (.ireturn, 1) := by decide +kernel
theorem dX3_asNumber_0 : decode cX3_asNumber 0 = .ok (.iload_n 0, 1) := by decide +kernel
theorem dX3_asNumber_1 : decode cX3_asNumber 1 = .ok (.ifCond .eq 7, 3) := by decide +kernel
theorem dX3_asNumber_4 : decode cX3_asNumber 4 = .ok (.iconst 1, 1) := by decide +kernel
theorem dX3_asNumber_5 : decode cX3_asNumber 5 = .ok (.goto 4, 3) := by decide +kernel
theorem dX3_asNumber_8 : decode cX3_asNumber 8 = .ok (.iconst 0, 1) := by decide +kernel
theorem dX3_asNumber_9 : decode cX3_asNumber 9 = .ok (.ireturn, 1) := by decide +kernel
end
section
theorem dX4_init_0 : decode cX4_init 0 = .ok (.aload_n 0, 1) := by decide +kernel
theorem dX4_init_1 : decode cX4_init 1 = .ok (.invokespecial 1, 3) := by decide +kernel
theorem dX4_init_4 : decode cX4_init 4 = .ok (.aload_n 0, 1) := by decide +kernel
theorem dX4_init_5 : decode cX4_init 5 = .ok (.bipush 12, 2) := by decide +kernel
theorem dX4_init_7 : decode cX4_init 7 = .ok (.newarray .long, 2) := by decide +kernel
theorem dX4_init_9 : decode cX4_init 9 = .ok (.putfield 7, 3) := by decide +kernel
theorem dX4_init_12 : decode cX4_init 12 = .ok (.aload_n 0, 1) := by decide +kernel
theorem dX4_init_13 : decode cX4_init 13 = .ok (.bipush 12, 2) := by decide +kernel
theorem dX4_init_15 : decode cX4_init 15 = .ok (.newarray .long, 2) := by decide +kernel
theorem dX4_init_17 : decode cX4_init 17 = .ok (.putfield 13, 3) := by decide +kernel
theorem dX4_init_20 : decode cX4_init 20 = .ok (.aload_n 0, 1) := by decide +kernel
theorem dX4_init_21 : decode cX4_init 21 = .ok (.bipush 12, 2) := by decide +kernel
theorem dX4_init_23 : decode cX4_init 23 = .ok (.newarray .long, 2) := by decide +kernel
theorem dX4_init_25 : decode cX4_init 25 = .ok (.putfield 16, 3) := by decide +kernel
theorem dX4_init_28 : decode cX4_init 28 = .ok (.aload_n 0, 1) := by decide +kernel
theorem dX4_init_29 : decode cX4_init 29 = .ok (.bipush 6, 2) := by decide +kernel
theorem dX4_init_31 : decode cX4_init 31 = .ok (.newarray .int, 2) := by decide +kernel
theorem dX4_init_33 : decode cX4_init 33 = .ok (.putfield 19, 3) := by decide +kernel
theorem dX4_init_36 : decode cX4_init 36 = .ok (.aload_n 0, 1) := by decide +kernel
theorem dX4_init_37 : decode cX4_init 37 = .ok (.bipush 6, 2) := by decide +kernel
theorem dX4_init_39 : decode cX4_init 39 = .ok (.newarray .int, 2) := by decide +kernel
theorem dX4_init_41 : decode cX4_init 41 = .ok (.putfield 23, 3) := by decide +kernel
theorem dX4_init_44 : decode cX4_init 44 = .ok (.aload_n 0, 1) := by decide +kernel
theorem dX4_init_45 : decode cX4_init 45 = .ok (.bipush 6, 2) := by decide +kernel
theorem dX4_init_47 : decode cX4_init 47 = .ok (.newarray .int, 2) := by decide +kernel
theorem dX4_init_49 : decode cX4_init 49 = .ok (.putfield 26, 3) := by decide +kernel
theorem dX4_init_52 : decode cX4_init 52 = .ok (.aload_n 0, 1) := by decide +kernel
theorem dX4_init_53 : decode cX4_init 53 = .ok (.sipush 5001, 3) := by decide +kernel
theorem dX4_init_56 : decode cX4_init 56 = .ok (.newarray .long, 2) := by decide +kernel
theorem dX4_init_58 : decode cX4_init 58 = .ok (.putfield 29, 3) := by decide +kernel
theorem dX4_init_61 : decode cX4_init 61 = .ok (.aload_n 0, 1) := by decide +kernel
theorem dX4_init_62 : decode cX4_init 62 = .ok (.sipush 1212, 3) := by decide +kernel
theorem dX4_init_65 : decode cX4_init 65 = .ok (.newarray .long, 2) := by decide +kernel
theorem dX4_init_67 : decode cX4_init 67 = .ok (.putfield 32, 3) := by decide +kernel
theorem dX4_init_70 : decode cX4_init 70 = .ok (.aload_n 0, 1) := by decide +kernel
theorem dX4_init_71 : decode cX4_init 71 = .ok (.sipush 606, 3) := by decide +kernel
theorem dX4_init_74 : decode cX4_init 74 = .ok (.newarray .int, 2) := by decide +kernel
theorem dX4_init_76 : decode cX4_init 76 = .ok (.putfield 35, 3) := by decide +kernel
theorem dX4_init_79 : decode cX4_init 79 = .ok (.aload_n 0, 1) := by decide +kernel
theorem dX4_init_80 : decode cX4_init 80 = .ok (.bipush 101, 2) := by decide +kernel
theorem dX4_init_82 : decode cX4_init 82 = .ok (.newarray .int, 2) := by decide +kernel
theorem dX4_init_84 : decode cX4_init 84 = .ok (.putfield 38, 3) := by decide +kernel
theorem dX4_init_87 : decode cX4_init 87 = .ok (.aload_n 0, 1) := by decide +kernel
theorem dX4_init_88 : decode cX4_init 88 = .ok (.bipush 101, 2) := by decide +kernel
theorem dX4_init_90 : decode cX4_init 90 = .ok (.newarray .int, 2) := by decide +kernel
theorem dX4_init_92 : decode cX4_init 92 = .ok (.putfield 41, 3) := by decide +kernel
theorem dX4_init_95 : decode cX4_init 95 = .ok (.aload_n 0, 1) := by decide +kernel
theorem dX4_init_96 : decode cX4_init 96 = .ok (.bipush 101, 2) := by decide +kernel
theorem dX4_init_98 : decode cX4_init 98 = .ok (.newarray .int, 2) := by decide +kernel
theorem dX4_init_100 : decode cX4_init 100 = .ok (.putfield 44, 3) := by decide +kernel
theorem dX4_init_103 : decode cX4_init 103 = .ok (.aload_n 0, 1) := by decide +kernel
theorem dX4_init_104 : decode cX4_init 104 = .ok (.bipush 101, 2) := by decide +kernel
theorem dX4_init_106 : decode cX4_init 106 = .ok (.newarray .int, 2) := by decide +kernel
theorem dX4_init_108 : decode cX4_init 108 = .ok (.putfield 47, 3) := by decide +kernel
theorem dX4_init_111 : decode cX4_init 111 = .ok (.aload_n 0, 1) := by decide +kernel
theorem dX4_init_112 : decode cX4_init 112 = .ok (.bipush 101, 2) := by decide +kernel
theorem dX4_init_114 : decode cX4_init 114 = .ok (.newarray .boolean, 2) := by decide +kernel
theorem dX4_init_116 : decode cX4_init 116 = .ok (.putfield 50, 3) := by decide +kernel
theorem dX4_init_119 : decode cX4_init 119 = .ok (.return_, 1) := by decide +kernel
theorem dX4_thrown_0 : decode cX4_thrown 0 = .ok (.aload_n 0, 1) := by decide +kernel
theorem dX4_thrown_1 : decode cX4_thrown 1 = .ok (.getfield 54, 3) := by decide +kernel
theorem dX4_thrown_4 : decode cX4_thrown 4 = .ok (.ireturn, 1) := by decide +kernel
theorem dX4_cell_0 : decode cX4_cell 0 = .ok (.aload_n 0, 1) := by decide +kernel
theorem dX4_cell_1 : decode cX4_cell 1 = .ok (.iconst 0, 1) := by decide +kernel
theorem dX4_cell_2 : decode cX4_cell 2 = .ok (.putfield 54, 3) := by decide +kernel
theorem dX4_cell_5 : decode cX4_cell 5 = .ok (.aload_n 0, 1) := by decide +kernel
theorem dX4_cell_6 : decode cX4_cell 6 = .ok (.getfield 58, 3) := by decide +kernel
theorem dX4_cell_9 : decode cX4_cell 9 = .ok (.ifCond .ne 10, 3) := by decide +kernel
theorem dX4_cell_12 : decode cX4_cell 12 = .ok (.aload_n 0, 1) := by decide +kernel
theorem dX4_cell_13 : decode cX4_cell 13 = .ok (.getfield 62, 3) := by decide +kernel
theorem dX4_cell_16 : decode cX4_cell 16 = .ok (.ifCond .le 6, 3) := by decide +kernel
theorem dX4_cell_19 : decode cX4_cell 19 = .ok (.bipush (-5), 2) := by decide +kernel
theorem dX4_cell_21 : decode cX4_cell 21 = .ok (.ireturn, 1) := by decide +kernel
theorem dX4_cell_22 : decode cX4_cell 22 = .ok (.aload_n 0, 1) := by decide +kernel
theorem dX4_cell_23 : decode cX4_cell 23 = .ok (.getfield 65, 3) := by decide +kernel
theorem dX4_cell_26 : decode cX4_cell 26 = .ok (.bipush 12, 2) := by decide +kernel
theorem dX4_cell_28 : decode cX4_cell 28 = .ok (.if_icmp .ne 5, 3) := by decide +kernel
theorem dX4_cell_31 : decode cX4_cell 31 = .ok (.iconst (-1), 1) := by decide +kernel
theorem dX4_cell_32 : decode cX4_cell 32 = .ok (.ireturn, 1) := by decide +kernel
theorem dX4_cell_33 : decode cX4_cell 33 = .ok (.aload_n 0, 1) := by decide +kernel
theorem dX4_cell_34 : decode cX4_cell 34 = .ok (.getfield 7, 3) := by decide +kernel
theorem dX4_cell_37 : decode cX4_cell 37 = .ok (.aload_n 0, 1) := by decide +kernel
theorem dX4_cell_38 : decode cX4_cell 38 = .ok (.getfield 65, 3) := by decide +kernel
theorem dX4_cell_41 : decode cX4_cell 41 = .ok (.lload_n 1, 1) := by decide +kernel
theorem dX4_cell_42 : decode cX4_cell 42 = .ok (.lastore, 1) := by decide +kernel
theorem dX4_cell_43 : decode cX4_cell 43 = .ok (.aload_n 0, 1) := by decide +kernel
theorem dX4_cell_44 : decode cX4_cell 44 = .ok (.getfield 13, 3) := by decide +kernel
theorem dX4_cell_47 : decode cX4_cell 47 = .ok (.aload_n 0, 1) := by decide +kernel
theorem dX4_cell_48 : decode cX4_cell 48 = .ok (.getfield 65, 3) := by decide +kernel
theorem dX4_cell_51 : decode cX4_cell 51 = .ok (.lload_n 1, 1) := by decide +kernel
theorem dX4_cell_52 : decode cX4_cell 52 = .ok (.lastore, 1) := by decide +kernel
theorem dX4_cell_53 : decode cX4_cell 53 = .ok (.aload_n 0, 1) := by decide +kernel
theorem dX4_cell_54 : decode cX4_cell 54 = .ok (.dup, 1) := by decide +kernel
theorem dX4_cell_55 : decode cX4_cell 55 = .ok (.getfield 65, 3) := by decide +kernel
theorem dX4_cell_58 : decode cX4_cell 58 = .ok (.iconst 1, 1) := by decide +kernel
theorem dX4_cell_59 : decode cX4_cell 59 = .ok (.iadd, 1) := by decide +kernel
theorem dX4_cell_60 : decode cX4_cell 60 = .ok (.putfield 65, 3) := by decide +kernel
theorem dX4_cell_63 : decode cX4_cell 63 = .ok (.aload_n 0, 1) := by decide +kernel
theorem dX4_cell_64 : decode cX4_cell 64 = .ok (.getfield 65, 3) := by decide +kernel
theorem dX4_cell_67 : decode cX4_cell 67 = .ok (.iconst 1, 1) := by decide +kernel
theorem dX4_cell_68 : decode cX4_cell 68 = .ok (.isub, 1) := by decide +kernel
theorem dX4_cell_69 : decode cX4_cell 69 = .ok (.ireturn, 1) := by decide +kernel
theorem dX4_file_0 : decode cX4_file 0 = .ok (.aload_n 0, 1) := by decide +kernel
theorem dX4_file_1 : decode cX4_file 1 = .ok (.iconst 0, 1) := by decide +kernel
theorem dX4_file_2 : decode cX4_file 2 = .ok (.putfield 54, 3) := by decide +kernel
theorem dX4_file_5 : decode cX4_file 5 = .ok (.iload_n 1, 1) := by decide +kernel
theorem dX4_file_6 : decode cX4_file 6 = .ok (.ifCond .lt 10, 3) := by decide +kernel
theorem dX4_file_9 : decode cX4_file 9 = .ok (.iload_n 1, 1) := by decide +kernel
theorem dX4_file_10 : decode cX4_file 10 = .ok (.sipush 2000, 3) := by decide +kernel
theorem dX4_file_13 : decode cX4_file 13 = .ok (.if_icmp .le 6, 3) := by decide +kernel
theorem dX4_file_16 : decode cX4_file 16 = .ok (.bipush (-4), 2) := by decide +kernel
theorem dX4_file_18 : decode cX4_file 18 = .ok (.ireturn, 1) := by decide +kernel
theorem dX4_file_19 : decode cX4_file 19 = .ok (.aload_n 0, 1) := by decide +kernel
theorem dX4_file_20 : decode cX4_file 20 = .ok (.getfield 58, 3) := by decide +kernel
theorem dX4_file_23 : decode cX4_file 23 = .ok (.ifCond .ne 10, 3) := by decide +kernel
theorem dX4_file_26 : decode cX4_file 26 = .ok (.aload_n 0, 1) := by decide +kernel
theorem dX4_file_27 : decode cX4_file 27 = .ok (.getfield 62, 3) := by decide +kernel
theorem dX4_file_30 : decode cX4_file 30 = .ok (.ifCond .le 6, 3) := by decide +kernel
theorem dX4_file_33 : decode cX4_file 33 = .ok (.bipush (-5), 2) := by decide +kernel
theorem dX4_file_35 : decode cX4_file 35 = .ok (.ireturn, 1) := by decide +kernel
theorem dX4_file_36 : decode cX4_file 36 = .ok (.aload_n 0, 1) := by decide +kernel
theorem dX4_file_37 : decode cX4_file 37 = .ok (.getfield 68, 3) := by decide +kernel
theorem dX4_file_40 : decode cX4_file 40 = .ok (.bipush 6, 2) := by decide +kernel
theorem dX4_file_42 : decode cX4_file 42 = .ok (.if_icmp .ne 5, 3) := by decide +kernel
theorem dX4_file_45 : decode cX4_file 45 = .ok (.iconst (-1), 1) := by decide +kernel
theorem dX4_file_46 : decode cX4_file 46 = .ok (.ireturn, 1) := by decide +kernel
theorem dX4_file_47 : decode cX4_file 47 = .ok (.aload_n 0, 1) := by decide +kernel
theorem dX4_file_48 : decode cX4_file 48 = .ok (.getfield 19, 3) := by decide +kernel
theorem dX4_file_51 : decode cX4_file 51 = .ok (.aload_n 0, 1) := by decide +kernel
theorem dX4_file_52 : decode cX4_file 52 = .ok (.getfield 68, 3) := by decide +kernel
theorem dX4_file_55 : decode cX4_file 55 = .ok (.iload_n 1, 1) := by decide +kernel
theorem dX4_file_56 : decode cX4_file 56 = .ok (.iastore, 1) := by decide +kernel
theorem dX4_file_57 : decode cX4_file 57 = .ok (.aload_n 0, 1) := by decide +kernel
theorem dX4_file_58 : decode cX4_file 58 = .ok (.dup, 1) := by decide +kernel
theorem dX4_file_59 : decode cX4_file 59 = .ok (.getfield 68, 3) := by decide +kernel
theorem dX4_file_62 : decode cX4_file 62 = .ok (.iconst 1, 1) := by decide +kernel
theorem dX4_file_63 : decode cX4_file 63 = .ok (.iadd, 1) := by decide +kernel
theorem dX4_file_64 : decode cX4_file 64 = .ok (.putfield 68, 3) := by decide +kernel
theorem dX4_file_67 : decode cX4_file 67 = .ok (.aload_n 0, 1) := by decide +kernel
theorem dX4_file_68 : decode cX4_file 68 = .ok (.getfield 68, 3) := by decide +kernel
theorem dX4_file_71 : decode cX4_file 71 = .ok (.iconst 1, 1) := by decide +kernel
theorem dX4_file_72 : decode cX4_file 72 = .ok (.isub, 1) := by decide +kernel
theorem dX4_file_73 : decode cX4_file 73 = .ok (.ireturn, 1) := by decide +kernel
theorem dX4_isEnded_0 : decode cX4_isEnded 0 = .ok (.iconst 1, 1) := by decide +kernel
theorem dX4_isEnded_1 : decode cX4_isEnded 1 = .ok (.istore_n 1, 1) := by decide +kernel
theorem dX4_isEnded_2 : decode cX4_isEnded 2 = .ok (.iconst 0, 1) := by decide +kernel
theorem dX4_isEnded_3 : decode cX4_isEnded 3 = .ok (.istore_n 2, 1) := by decide +kernel
theorem dX4_isEnded_4 : decode cX4_isEnded 4 = .ok (.iload_n 2, 1) := by decide +kernel
theorem dX4_isEnded_5 : decode cX4_isEnded 5 = .ok (.aload_n 0, 1) := by decide +kernel
theorem dX4_isEnded_6 : decode cX4_isEnded 6 = .ok (.getfield 68, 3) := by decide +kernel
theorem dX4_isEnded_9 : decode cX4_isEnded 9 = .ok (.if_icmp .ge 34, 3) := by decide +kernel
theorem dX4_isEnded_12 : decode cX4_isEnded 12 = .ok (.iload_n 1, 1) := by decide +kernel
theorem dX4_isEnded_13 : decode cX4_isEnded 13 = .ok (.ifCond .eq 22, 3) := by decide +kernel
theorem dX4_isEnded_16 : decode cX4_isEnded 16 = .ok (.aload_n 0, 1) := by decide +kernel
theorem dX4_isEnded_17 : decode cX4_isEnded 17 = .ok (.getfield 23, 3) := by decide +kernel
theorem dX4_isEnded_20 : decode cX4_isEnded 20 = .ok (.iload_n 2, 1) := by decide +kernel
theorem dX4_isEnded_21 : decode cX4_isEnded 21 = .ok (.iaload, 1) := by decide +kernel
theorem dX4_isEnded_22 : decode cX4_isEnded 22 = .ok (.aload_n 0, 1) := by decide +kernel
theorem dX4_isEnded_23 : decode cX4_isEnded 23 = .ok (.getfield 19, 3) := by decide +kernel
theorem dX4_isEnded_26 : decode cX4_isEnded 26 = .ok (.iload_n 2, 1) := by decide +kernel
theorem dX4_isEnded_27 : decode cX4_isEnded 27 = .ok (.iaload, 1) := by decide +kernel
theorem dX4_isEnded_28 : decode cX4_isEnded 28 = .ok (.if_icmp .lt 7, 3) := by decide +kernel
theorem dX4_isEnded_31 : decode cX4_isEnded 31 = .ok (.iconst 1, 1) := by decide +kernel
theorem dX4_isEnded_32 : decode cX4_isEnded 32 = .ok (.goto 4, 3) := by decide +kernel
theorem dX4_isEnded_35 : decode cX4_isEnded 35 = .ok (.iconst 0, 1) := by decide +kernel
theorem dX4_isEnded_36 : decode cX4_isEnded 36 = .ok (.istore_n 1, 1) := by decide +kernel
theorem dX4_isEnded_37 : decode cX4_isEnded 37 = .ok (.iinc 2 1, 3) := by decide +kernel
theorem dX4_isEnded_40 : decode cX4_isEnded 40 = .ok (.goto (-36), 3) := by decide +kernel
theorem dX4_isEnded_43 : decode cX4_isEnded 43 = .ok (.iload_n 1, 1) := by decide +kernel
theorem dX4_isEnded_44 : decode cX4_isEnded 44 = .ok (.ireturn, 1) := by decide +kernel
set_option maxRecDepth 20000 in
theorem ggX4_step_X4_isEnded : GoodIn wsX4_step wsX4_isEnded := goodIn_r _ [15, 4, 5, 6, 16, 17, 18, 19, 20, 21, 22, 23, 24, 25, 26, 27, 28, 29, 30, 31, 32, 33, 34, 35, 36, 37, 38] (by decide +kernel) (by decide +kernel)
set_option maxRecDepth 20000 in
theorem gX4_step_X4_isEnded : GoodIn wsX4_step (wsV RX4 71 RX4 yX4_isEnded wsX4_isEnded) := goodIn_app (goodIn_of _ (by decide +kernel)) ggX4_step_X4_isEnded
theorem dX4_step_0 : decode cX4_step 0 = .ok (.aload_n 0, 1) := by decide +kernel
theorem dX4_step_1 : decode cX4_step 1 = .ok (.iconst 0, 1) := by decide +kernel
theorem dX4_step_2 : decode cX4_step 2 = .ok (.putfield 54, 3) := by decide +kernel
theorem dX4_step_5 : decode cX4_step 5 = .ok (.iload_n 1, 1) := by decide +kernel
theorem dX4_step_6 : decode cX4_step 6 = .ok (.ifCond .lt 10, 3) := by decide +kernel
theorem dX4_step_9 : decode cX4_step 9 = .ok (.iload_n 1, 1) := by decide +kernel
theorem dX4_step_10 : decode cX4_step 10 = .ok (.sipush 1000, 3) := by decide +kernel
theorem dX4_step_13 : decode cX4_step 13 = .ok (.if_icmp .le 6, 3) := by decide +kernel
theorem dX4_step_16 : decode cX4_step 16 = .ok (.bipush (-4), 2) := by decide +kernel
theorem dX4_step_18 : decode cX4_step 18 = .ok (.ireturn, 1) := by decide +kernel
theorem dX4_step_19 : decode cX4_step 19 = .ok (.aload_n 0, 1) := by decide +kernel
theorem dX4_step_20 : decode cX4_step 20 = .ok (.getfield 58, 3) := by decide +kernel
theorem dX4_step_23 : decode cX4_step 23 = .ok (.ifCond .eq 6, 3) := by decide +kernel
theorem dX4_step_26 : decode cX4_step 26 = .ok (.bipush (-5), 2) := by decide +kernel
theorem dX4_step_28 : decode cX4_step 28 = .ok (.ireturn, 1) := by decide +kernel
theorem dX4_step_29 : decode cX4_step 29 = .ok (.iconst 0, 1) := by decide +kernel
theorem dX4_step_30 : decode cX4_step 30 = .ok (.istore_n 2, 1) := by decide +kernel
theorem dX4_step_31 : decode cX4_step 31 = .ok (.iload_n 2, 1) := by decide +kernel
theorem dX4_step_32 : decode cX4_step 32 = .ok (.iload_n 1, 1) := by decide +kernel
theorem dX4_step_33 : decode cX4_step 33 = .ok (.if_icmp .ge 187, 3) := by decide +kernel
theorem dX4_step_36 : decode cX4_step 36 = .ok (.aload_n 0, 1) := by decide +kernel
theorem dX4_step_37 : decode cX4_step 37 = .ok (.getfield 62, 3) := by decide +kernel
theorem dX4_step_40 : decode cX4_step 40 = .ok (.sipush 5000, 3) := by decide +kernel
theorem dX4_step_43 : decode cX4_step 43 = .ok (.if_icmp .ge 177, 3) := by decide +kernel
theorem dX4_step_46 : decode cX4_step 46 = .ok (.aload_n 0, 1) := by decide +kernel
theorem dX4_step_47 : decode cX4_step 47 = .ok (.invokevirtual 71, 3) := by decide +kernel
theorem dX4_step_50 : decode cX4_step 50 = .ok (.ifCond .ne 170, 3) := by decide +kernel
theorem dX4_step_53 : decode cX4_step 53 = .ok (.aload_n 0, 1) := by decide +kernel
theorem dX4_step_54 : decode cX4_step 54 = .ok (.dup, 1) := by decide +kernel
theorem dX4_step_55 : decode cX4_step 55 = .ok (.getfield 62, 3) := by decide +kernel
theorem dX4_step_58 : decode cX4_step 58 = .ok (.iconst 1, 1) := by decide +kernel
theorem dX4_step_59 : decode cX4_step 59 = .ok (.iadd, 1) := by decide +kernel
theorem dX4_step_60 : decode cX4_step 60 = .ok (.putfield 62, 3) := by decide +kernel
theorem dX4_step_63 : decode cX4_step 63 = .ok (.iinc 2 1, 3) := by decide +kernel
theorem dX4_step_66 : decode cX4_step 66 = .ok (.aload_n 0, 1) := by decide +kernel
theorem dX4_step_67 : decode cX4_step 67 = .ok (.getfield 62, 3) := by decide +kernel
theorem dX4_step_70 : decode cX4_step 70 = .ok (.iconst 1, 1) := by decide +kernel
theorem dX4_step_71 : decode cX4_step 71 = .ok (.isub, 1) := by decide +kernel
theorem dX4_step_72 : decode cX4_step 72 = .ok (.aload_n 0, 1) := by decide +kernel
theorem dX4_step_73 : decode cX4_step 73 = .ok (.getfield 68, 3) := by decide +kernel
theorem dX4_step_76 : decode cX4_step 76 = .ok (.irem, 1) := by decide +kernel
theorem dX4_step_77 : decode cX4_step 77 = .ok (.istore_n 3, 1) := by decide +kernel
theorem dX4_step_78 : decode cX4_step 78 = .ok (.aload_n 0, 1) := by decide +kernel
theorem dX4_step_79 : decode cX4_step 79 = .ok (.getfield 23, 3) := by decide +kernel
theorem dX4_step_82 : decode cX4_step 82 = .ok (.iload_n 3, 1) := by decide +kernel
theorem dX4_step_83 : decode cX4_step 83 = .ok (.iaload, 1) := by decide +kernel
theorem dX4_step_84 : decode cX4_step 84 = .ok (.aload_n 0, 1) := by decide +kernel
theorem dX4_step_85 : decode cX4_step 85 = .ok (.getfield 19, 3) := by decide +kernel
theorem dX4_step_88 : decode cX4_step 88 = .ok (.iload_n 3, 1) := by decide +kernel
theorem dX4_step_89 : decode cX4_step 89 = .ok (.iaload, 1) := by decide +kernel
theorem dX4_step_90 : decode cX4_step 90 = .ok (.if_icmp .ge 7, 3) := by decide +kernel
theorem dX4_step_93 : decode cX4_step 93 = .ok (.iconst 1, 1) := by decide +kernel
theorem dX4_step_94 : decode cX4_step 94 = .ok (.goto 4, 3) := by decide +kernel
theorem dX4_step_97 : decode cX4_step 97 = .ok (.iconst 0, 1) := by decide +kernel
theorem dX4_step_98 : decode cX4_step 98 = .ok (.istore 4, 2) := by decide +kernel
theorem dX4_step_100 : decode cX4_step 100 = .ok (.ldc2_w 75, 3) := by decide +kernel
theorem dX4_step_103 : decode cX4_step 103 = .ok (.iload_n 3, 1) := by decide +kernel
theorem dX4_step_104 : decode cX4_step 104 = .ok (.iconst 1, 1) := by decide +kernel
theorem dX4_step_105 : decode cX4_step 105 = .ok (.iadd, 1) := by decide +kernel
theorem dX4_step_106 : decode cX4_step 106 = .ok (.i2l, 1) := by decide +kernel
theorem dX4_step_107 : decode cX4_step 107 = .ok (.lmul, 1) := by decide +kernel
theorem dX4_step_108 : decode cX4_step 108 = .ok (.aload_n 0, 1) := by decide +kernel
theorem dX4_step_109 : decode cX4_step 109 = .ok (.getfield 23, 3) := by decide +kernel
theorem dX4_step_112 : decode cX4_step 112 = .ok (.iload_n 3, 1) := by decide +kernel
theorem dX4_step_113 : decode cX4_step 113 = .ok (.iaload, 1) := by decide +kernel
theorem dX4_step_114 : decode cX4_step 114 = .ok (.i2l, 1) := by decide +kernel
theorem dX4_step_115 : decode cX4_step 115 = .ok (.ladd, 1) := by decide +kernel
theorem dX4_step_116 : decode cX4_step 116 = .ok (.lstore 5, 2) := by decide +kernel
theorem dX4_step_118 : decode cX4_step 118 = .ok (.aload_n 0, 1) := by decide +kernel
theorem dX4_step_119 : decode cX4_step 119 = .ok (.getfield 23, 3) := by decide +kernel
theorem dX4_step_122 : decode cX4_step 122 = .ok (.iload_n 3, 1) := by decide +kernel
theorem dX4_step_123 : decode cX4_step 123 = .ok (.dup2, 1) := by decide +kernel
theorem dX4_step_124 : decode cX4_step 124 = .ok (.iaload, 1) := by decide +kernel
theorem dX4_step_125 : decode cX4_step 125 = .ok (.iload 4, 2) := by decide +kernel
theorem dX4_step_127 : decode cX4_step 127 = .ok (.ifCond .eq 7, 3) := by decide +kernel
theorem dX4_step_130 : decode cX4_step 130 = .ok (.iconst 1, 1) := by decide +kernel
theorem dX4_step_131 : decode cX4_step 131 = .ok (.goto 4, 3) := by decide +kernel
theorem dX4_step_134 : decode cX4_step 134 = .ok (.iconst 0, 1) := by decide +kernel
theorem dX4_step_135 : decode cX4_step 135 = .ok (.iadd, 1) := by decide +kernel
theorem dX4_step_136 : decode cX4_step 136 = .ok (.iastore, 1) := by decide +kernel
theorem dX4_step_137 : decode cX4_step 137 = .ok (.aload_n 0, 1) := by decide +kernel
theorem dX4_step_138 : decode cX4_step 138 = .ok (.getfield 29, 3) := by decide +kernel
theorem dX4_step_141 : decode cX4_step 141 = .ok (.aload_n 0, 1) := by decide +kernel
theorem dX4_step_142 : decode cX4_step 142 = .ok (.getfield 62, 3) := by decide +kernel
theorem dX4_step_145 : decode cX4_step 145 = .ok (.iconst 1, 1) := by decide +kernel
theorem dX4_step_146 : decode cX4_step 146 = .ok (.isub, 1) := by decide +kernel
theorem dX4_step_147 : decode cX4_step 147 = .ok (.lconst 0, 1) := by decide +kernel
theorem dX4_step_148 : decode cX4_step 148 = .ok (.lastore, 1) := by decide +kernel
theorem dX4_step_149 : decode cX4_step 149 = .ok (.aload_n 0, 1) := by decide +kernel
theorem dX4_step_150 : decode cX4_step 150 = .ok (.getfield 65, 3) := by decide +kernel
theorem dX4_step_153 : decode cX4_step 153 = .ok (.ifCond .ne 6, 3) := by decide +kernel
theorem dX4_step_156 : decode cX4_step 156 = .ok (.goto (-125), 3) := by decide +kernel
theorem dX4_step_159 : decode cX4_step 159 = .ok (.aload_n 0, 1) := by decide +kernel
theorem dX4_step_160 : decode cX4_step 160 = .ok (.getfield 62, 3) := by decide +kernel
theorem dX4_step_163 : decode cX4_step 163 = .ok (.iconst 1, 1) := by decide +kernel
theorem dX4_step_164 : decode cX4_step 164 = .ok (.isub, 1) := by decide +kernel
theorem dX4_step_165 : decode cX4_step 165 = .ok (.aload_n 0, 1) := by decide +kernel
theorem dX4_step_166 : decode cX4_step 166 = .ok (.getfield 65, 3) := by decide +kernel
theorem dX4_step_169 : decode cX4_step 169 = .ok (.irem, 1) := by decide +kernel
theorem dX4_step_170 : decode cX4_step 170 = .ok (.istore 7, 2) := by decide +kernel
theorem dX4_step_172 : decode cX4_step 172 = .ok (.aload_n 0, 1) := by decide +kernel
theorem dX4_step_173 : decode cX4_step 173 = .ok (.getfield 7, 3) := by decide +kernel
theorem dX4_step_176 : decode cX4_step 176 = .ok (.iload 7, 2) := by decide +kernel
theorem dX4_step_178 : decode cX4_step 178 = .ok (.dup2, 1) := by decide +kernel
theorem dX4_step_179 : decode cX4_step 179 = .ok (.laload, 1) := by decide +kernel
theorem dX4_step_180 : decode cX4_step 180 = .ok (.iload 4, 2) := by decide +kernel
theorem dX4_step_182 : decode cX4_step 182 = .ok (.ifCond .eq 14, 3) := by decide +kernel
theorem dX4_step_185 : decode cX4_step 185 = .ok (.aload_n 0, 1) := by decide +kernel
theorem dX4_step_186 : decode cX4_step 186 = .ok (.getfield 62, 3) := by decide +kernel
theorem dX4_step_189 : decode cX4_step 189 = .ok (.i2l, 1) := by decide +kernel
theorem dX4_step_190 : decode cX4_step 190 = .ok (.lload 5, 2) := by decide +kernel
theorem dX4_step_192 : decode cX4_step 192 = .ok (.lmul, 1) := by decide +kernel
theorem dX4_step_193 : decode cX4_step 193 = .ok (.goto 4, 3) := by decide +kernel
theorem dX4_step_196 : decode cX4_step 196 = .ok (.lconst 0, 1) := by decide +kernel
theorem dX4_step_197 : decode cX4_step 197 = .ok (.ladd, 1) := by decide +kernel
theorem dX4_step_198 : decode cX4_step 198 = .ok (.lastore, 1) := by decide +kernel
theorem dX4_step_199 : decode cX4_step 199 = .ok (.aload_n 0, 1) := by decide +kernel
theorem dX4_step_200 : decode cX4_step 200 = .ok (.getfield 29, 3) := by decide +kernel
theorem dX4_step_203 : decode cX4_step 203 = .ok (.aload_n 0, 1) := by decide +kernel
theorem dX4_step_204 : decode cX4_step 204 = .ok (.getfield 62, 3) := by decide +kernel
theorem dX4_step_207 : decode cX4_step 207 = .ok (.iconst 1, 1) := by decide +kernel
theorem dX4_step_208 : decode cX4_step 208 = .ok (.isub, 1) := by decide +kernel
theorem dX4_step_209 : decode cX4_step 209 = .ok (.aload_n 0, 1) := by decide +kernel
theorem dX4_step_210 : decode cX4_step 210 = .ok (.getfield 7, 3) := by decide +kernel
theorem dX4_step_213 : decode cX4_step 213 = .ok (.iload 7, 2) := by decide +kernel
theorem dX4_step_215 : decode cX4_step 215 = .ok (.laload, 1) := by decide +kernel
theorem dX4_step_216 : decode cX4_step 216 = .ok (.lastore, 1) := by decide +kernel
theorem dX4_step_217 : decode cX4_step 217 = .ok (.goto (-186), 3) := by decide +kernel
theorem dX4_step_220 : decode cX4_step 220 = .ok (.iload_n 2, 1) := by decide +kernel
theorem dX4_step_221 : decode cX4_step 221 = .ok (.ireturn, 1) := by decide +kernel
theorem dX4_check_0 : decode cX4_check 0 = .ok (.aload_n 0, 1) := by decide +kernel
theorem dX4_check_1 : decode cX4_check 1 = .ok (.iconst 0, 1) := by decide +kernel
theorem dX4_check_2 : decode cX4_check 2 = .ok (.putfield 54, 3) := by decide +kernel
theorem dX4_check_5 : decode cX4_check 5 = .ok (.aload_n 0, 1) := by decide +kernel
theorem dX4_check_6 : decode cX4_check 6 = .ok (.getfield 58, 3) := by decide +kernel
theorem dX4_check_9 : decode cX4_check 9 = .ok (.ifCond .eq 6, 3) := by decide +kernel
theorem dX4_check_12 : decode cX4_check 12 = .ok (.bipush (-5), 2) := by decide +kernel
theorem dX4_check_14 : decode cX4_check 14 = .ok (.ireturn, 1) := by decide +kernel
theorem dX4_check_15 : decode cX4_check 15 = .ok (.aload_n 0, 1) := by decide +kernel
theorem dX4_check_16 : decode cX4_check 16 = .ok (.getfield 77, 3) := by decide +kernel
theorem dX4_check_19 : decode cX4_check 19 = .ok (.bipush 100, 2) := by decide +kernel
theorem dX4_check_21 : decode cX4_check 21 = .ok (.if_icmp .ne 5, 3) := by decide +kernel
theorem dX4_check_24 : decode cX4_check 24 = .ok (.iconst (-1), 1) := by decide +kernel
theorem dX4_check_25 : decode cX4_check 25 = .ok (.ireturn, 1) := by decide +kernel
theorem dX4_check_26 : decode cX4_check 26 = .ok (.aload_n 0, 1) := by decide +kernel
theorem dX4_check_27 : decode cX4_check 27 = .ok (.getfield 65, 3) := by decide +kernel
theorem dX4_check_30 : decode cX4_check 30 = .ok (.aload_n 0, 1) := by decide +kernel
theorem dX4_check_31 : decode cX4_check 31 = .ok (.getfield 68, 3) := by decide +kernel
theorem dX4_check_34 : decode cX4_check 34 = .ok (.iadd, 1) := by decide +kernel
theorem dX4_check_35 : decode cX4_check 35 = .ok (.iconst 4, 1) := by decide +kernel
theorem dX4_check_36 : decode cX4_check 36 = .ok (.iadd, 1) := by decide +kernel
theorem dX4_check_37 : decode cX4_check 37 = .ok (.istore_n 1, 1) := by decide +kernel
theorem dX4_check_38 : decode cX4_check 38 = .ok (.aload_n 0, 1) := by decide +kernel
theorem dX4_check_39 : decode cX4_check 39 = .ok (.getfield 80, 3) := by decide +kernel
theorem dX4_check_42 : decode cX4_check 42 = .ok (.ifCond .le 15, 3) := by decide +kernel
theorem dX4_check_45 : decode cX4_check 45 = .ok (.aload_n 0, 1) := by decide +kernel
theorem dX4_check_46 : decode cX4_check 46 = .ok (.getfield 80, 3) := by decide +kernel
theorem dX4_check_49 : decode cX4_check 49 = .ok (.iload_n 1, 1) := by decide +kernel
theorem dX4_check_50 : decode cX4_check 50 = .ok (.if_icmp .gt 7, 3) := by decide +kernel
theorem dX4_check_53 : decode cX4_check 53 = .ok (.iconst 1, 1) := by decide +kernel
theorem dX4_check_54 : decode cX4_check 54 = .ok (.goto 4, 3) := by decide +kernel
theorem dX4_check_57 : decode cX4_check 57 = .ok (.iconst 0, 1) := by decide +kernel
theorem dX4_check_58 : decode cX4_check 58 = .ok (.istore_n 2, 1) := by decide +kernel
theorem dX4_check_59 : decode cX4_check 59 = .ok (.iload_n 2, 1) := by decide +kernel
theorem dX4_check_60 : decode cX4_check 60 = .ok (.ifCond .eq 18, 3) := by decide +kernel
theorem dX4_check_63 : decode cX4_check 63 = .ok (.aload_n 0, 1) := by decide +kernel
theorem dX4_check_64 : decode cX4_check 64 = .ok (.iconst 1, 1) := by decide +kernel
theorem dX4_check_65 : decode cX4_check 65 = .ok (.putfield 58, 3) := by decide +kernel
theorem dX4_check_68 : decode cX4_check 68 = .ok (.aload_n 0, 1) := by decide +kernel
theorem dX4_check_69 : decode cX4_check 69 = .ok (.dup, 1) := by decide +kernel
theorem dX4_check_70 : decode cX4_check 70 = .ok (.getfield 83, 3) := by decide +kernel
theorem dX4_check_73 : decode cX4_check 73 = .ok (.iconst 1, 1) := by decide +kernel
theorem dX4_check_74 : decode cX4_check 74 = .ok (.iadd, 1) := by decide +kernel
theorem dX4_check_75 : decode cX4_check 75 = .ok (.putfield 83, 3) := by decide +kernel
theorem dX4_check_78 : decode cX4_check 78 = .ok (.iload_n 2, 1) := by decide +kernel
theorem dX4_check_79 : decode cX4_check 79 = .ok (.ifCond .eq 18, 3) := by decide +kernel
theorem dX4_check_82 : decode cX4_check 82 = .ok (.aload_n 0, 1) := by decide +kernel
theorem dX4_check_83 : decode cX4_check 83 = .ok (.getfield 80, 3) := by decide +kernel
theorem dX4_check_86 : decode cX4_check 86 = .ok (.iconst 1, 1) := by decide +kernel
theorem dX4_check_87 : decode cX4_check 87 = .ok (.if_icmp .ne 10, 3) := by decide +kernel
theorem dX4_check_90 : decode cX4_check 90 = .ok (.aload_n 0, 1) := by decide +kernel
theorem dX4_check_91 : decode cX4_check 91 = .ok (.iconst 0, 1) := by decide +kernel
theorem dX4_check_92 : decode cX4_check 92 = .ok (.putfield 80, 3) := by decide +kernel
theorem dX4_check_95 : decode cX4_check 95 = .ok (.iconst 0, 1) := by decide +kernel
theorem dX4_check_96 : decode cX4_check 96 = .ok (.ireturn, 1) := by decide +kernel
theorem dX4_check_97 : decode cX4_check 97 = .ok (.aload_n 0, 1) := by decide +kernel
theorem dX4_check_98 : decode cX4_check 98 = .ok (.dup, 1) := by decide +kernel
theorem dX4_check_99 : decode cX4_check 99 = .ok (.getfield 77, 3) := by decide +kernel
theorem dX4_check_102 : decode cX4_check 102 = .ok (.iconst 1, 1) := by decide +kernel
theorem dX4_check_103 : decode cX4_check 103 = .ok (.iadd, 1) := by decide +kernel
theorem dX4_check_104 : decode cX4_check 104 = .ok (.putfield 77, 3) := by decide +kernel
theorem dX4_check_107 : decode cX4_check 107 = .ok (.iconst 0, 1) := by decide +kernel
theorem dX4_check_108 : decode cX4_check 108 = .ok (.istore_n 3, 1) := by decide +kernel
theorem dX4_check_109 : decode cX4_check 109 = .ok (.iload_n 3, 1) := by decide +kernel
theorem dX4_check_110 : decode cX4_check 110 = .ok (.bipush 12, 2) := by decide +kernel
theorem dX4_check_112 : decode cX4_check 112 = .ok (.if_icmp .ge 29, 3) := by decide +kernel
theorem dX4_check_115 : decode cX4_check 115 = .ok (.aload_n 0, 1) := by decide +kernel
theorem dX4_check_116 : decode cX4_check 116 = .ok (.getfield 32, 3) := by decide +kernel
theorem dX4_check_119 : decode cX4_check 119 = .ok (.bipush 12, 2) := by decide +kernel
theorem dX4_check_121 : decode cX4_check 121 = .ok (.aload_n 0, 1) := by decide +kernel
theorem dX4_check_122 : decode cX4_check 122 = .ok (.getfield 77, 3) := by decide +kernel
theorem dX4_check_125 : decode cX4_check 125 = .ok (.imul, 1) := by decide +kernel
theorem dX4_check_126 : decode cX4_check 126 = .ok (.iload_n 3, 1) := by decide +kernel
theorem dX4_check_127 : decode cX4_check 127 = .ok (.iadd, 1) := by decide +kernel
theorem dX4_check_128 : decode cX4_check 128 = .ok (.aload_n 0, 1) := by decide +kernel
theorem dX4_check_129 : decode cX4_check 129 = .ok (.getfield 7, 3) := by decide +kernel
theorem dX4_check_132 : decode cX4_check 132 = .ok (.iload_n 3, 1) := by decide +kernel
theorem dX4_check_133 : decode cX4_check 133 = .ok (.laload, 1) := by decide +kernel
theorem dX4_check_134 : decode cX4_check 134 = .ok (.lastore, 1) := by decide +kernel
theorem dX4_check_135 : decode cX4_check 135 = .ok (.iinc 3 1, 3) := by decide +kernel
theorem dX4_check_138 : decode cX4_check 138 = .ok (.goto (-29), 3) := by decide +kernel
theorem dX4_check_141 : decode cX4_check 141 = .ok (.iconst 0, 1) := by decide +kernel
theorem dX4_check_142 : decode cX4_check 142 = .ok (.istore_n 3, 1) := by decide +kernel
theorem dX4_check_143 : decode cX4_check 143 = .ok (.iload_n 3, 1) := by decide +kernel
theorem dX4_check_144 : decode cX4_check 144 = .ok (.bipush 6, 2) := by decide +kernel
theorem dX4_check_146 : decode cX4_check 146 = .ok (.if_icmp .ge 29, 3) := by decide +kernel
theorem dX4_check_149 : decode cX4_check 149 = .ok (.aload_n 0, 1) := by decide +kernel
theorem dX4_check_150 : decode cX4_check 150 = .ok (.getfield 35, 3) := by decide +kernel
theorem dX4_check_153 : decode cX4_check 153 = .ok (.bipush 6, 2) := by decide +kernel
theorem dX4_check_155 : decode cX4_check 155 = .ok (.aload_n 0, 1) := by decide +kernel
theorem dX4_check_156 : decode cX4_check 156 = .ok (.getfield 77, 3) := by decide +kernel
theorem dX4_check_159 : decode cX4_check 159 = .ok (.imul, 1) := by decide +kernel
theorem dX4_check_160 : decode cX4_check 160 = .ok (.iload_n 3, 1) := by decide +kernel
theorem dX4_check_161 : decode cX4_check 161 = .ok (.iadd, 1) := by decide +kernel
theorem dX4_check_162 : decode cX4_check 162 = .ok (.aload_n 0, 1) := by decide +kernel
theorem dX4_check_163 : decode cX4_check 163 = .ok (.getfield 23, 3) := by decide +kernel
theorem dX4_check_166 : decode cX4_check 166 = .ok (.iload_n 3, 1) := by decide +kernel
theorem dX4_check_167 : decode cX4_check 167 = .ok (.iaload, 1) := by decide +kernel
theorem dX4_check_168 : decode cX4_check 168 = .ok (.iastore, 1) := by decide +kernel
theorem dX4_check_169 : decode cX4_check 169 = .ok (.iinc 3 1, 3) := by decide +kernel
theorem dX4_check_172 : decode cX4_check 172 = .ok (.goto (-29), 3) := by decide +kernel
theorem dX4_check_175 : decode cX4_check 175 = .ok (.aload_n 0, 1) := by decide +kernel
theorem dX4_check_176 : decode cX4_check 176 = .ok (.getfield 38, 3) := by decide +kernel
theorem dX4_check_179 : decode cX4_check 179 = .ok (.aload_n 0, 1) := by decide +kernel
theorem dX4_check_180 : decode cX4_check 180 = .ok (.getfield 77, 3) := by decide +kernel
theorem dX4_check_183 : decode cX4_check 183 = .ok (.aload_n 0, 1) := by decide +kernel
theorem dX4_check_184 : decode cX4_check 184 = .ok (.getfield 65, 3) := by decide +kernel
theorem dX4_check_187 : decode cX4_check 187 = .ok (.iastore, 1) := by decide +kernel
theorem dX4_check_188 : decode cX4_check 188 = .ok (.aload_n 0, 1) := by decide +kernel
theorem dX4_check_189 : decode cX4_check 189 = .ok (.getfield 41, 3) := by decide +kernel
theorem dX4_check_192 : decode cX4_check 192 = .ok (.aload_n 0, 1) := by decide +kernel
theorem dX4_check_193 : decode cX4_check 193 = .ok (.getfield 77, 3) := by decide +kernel
theorem dX4_check_196 : decode cX4_check 196 = .ok (.aload_n 0, 1) := by decide +kernel
theorem dX4_check_197 : decode cX4_check 197 = .ok (.getfield 68, 3) := by decide +kernel
theorem dX4_check_200 : decode cX4_check 200 = .ok (.iastore, 1) := by decide +kernel
theorem dX4_check_201 : decode cX4_check 201 = .ok (.aload_n 0, 1) := by decide +kernel
theorem dX4_check_202 : decode cX4_check 202 = .ok (.getfield 44, 3) := by decide +kernel
theorem dX4_check_205 : decode cX4_check 205 = .ok (.aload_n 0, 1) := by decide +kernel
theorem dX4_check_206 : decode cX4_check 206 = .ok (.getfield 77, 3) := by decide +kernel
theorem dX4_check_209 : decode cX4_check 209 = .ok (.aload_n 0, 1) := by decide +kernel
theorem dX4_check_210 : decode cX4_check 210 = .ok (.getfield 62, 3) := by decide +kernel
theorem dX4_check_213 : decode cX4_check 213 = .ok (.iastore, 1) := by decide +kernel
theorem dX4_check_214 : decode cX4_check 214 = .ok (.aload_n 0, 1) := by decide +kernel
theorem dX4_check_215 : decode cX4_check 215 = .ok (.getfield 47, 3) := by decide +kernel
theorem dX4_check_218 : decode cX4_check 218 = .ok (.aload_n 0, 1) := by decide +kernel
theorem dX4_check_219 : decode cX4_check 219 = .ok (.getfield 77, 3) := by decide +kernel
theorem dX4_check_222 : decode cX4_check 222 = .ok (.aload_n 0, 1) := by decide +kernel
theorem dX4_check_223 : decode cX4_check 223 = .ok (.getfield 86, 3) := by decide +kernel
theorem dX4_check_226 : decode cX4_check 226 = .ok (.iastore, 1) := by decide +kernel
theorem dX4_check_227 : decode cX4_check 227 = .ok (.aload_n 0, 1) := by decide +kernel
theorem dX4_check_228 : decode cX4_check 228 = .ok (.getfield 50, 3) := by decide +kernel
theorem dX4_check_231 : decode cX4_check 231 = .ok (.aload_n 0, 1) := by decide +kernel
theorem dX4_check_232 : decode cX4_check 232 = .ok (.getfield 77, 3) := by decide +kernel
theorem dX4_check_235 : decode cX4_check 235 = .ok (.iload_n 2, 1) := by decide +kernel
theorem dX4_check_236 : decode cX4_check 236 = .ok (.ifCond .ne 7, 3) := by decide +kernel
theorem dX4_check_239 : decode cX4_check 239 = .ok (.iconst 1, 1) := by decide +kernel
theorem dX4_check_240 : decode cX4_check 240 = .ok (.goto 4, 3) := by decide +kernel
theorem dX4_check_243 : decode cX4_check 243 = .ok (.iconst 0, 1) := by decide +kernel
theorem dX4_check_244 : decode cX4_check 244 = .ok (.bastore, 1) := by decide +kernel
theorem dX4_check_245 : decode cX4_check 245 = .ok (.aload_n 0, 1) := by decide +kernel
theorem dX4_check_246 : decode cX4_check 246 = .ok (.iload_n 2, 1) := by decide +kernel
theorem dX4_check_247 : decode cX4_check 247 = .ok (.ifCond .eq 7, 3) := by decide +kernel
theorem dX4_check_250 : decode cX4_check 250 = .ok (.iconst 0, 1) := by decide +kernel
theorem dX4_check_251 : decode cX4_check 251 = .ok (.goto 7, 3) := by decide +kernel
theorem dX4_check_254 : decode cX4_check 254 = .ok (.aload_n 0, 1) := by decide +kernel
theorem dX4_check_255 : decode cX4_check 255 = .ok (.getfield 80, 3) := by decide +kernel
theorem dX4_check_258 : decode cX4_check 258 = .ok (.putfield 80, 3) := by decide +kernel
theorem dX4_check_261 : decode cX4_check 261 = .ok (.iload_n 2, 1) := by decide +kernel
theorem dX4_check_262 : decode cX4_check 262 = .ok (.ifCond .eq 7, 3) := by decide +kernel
theorem dX4_check_265 : decode cX4_check 265 = .ok (.iconst 0, 1) := by decide +kernel
theorem dX4_check_266 : decode cX4_check 266 = .ok (.goto 7, 3) := by decide +kernel
theorem dX4_check_269 : decode cX4_check 269 = .ok (.aload_n 0, 1) := by decide +kernel
theorem dX4_check_270 : decode cX4_check 270 = .ok (.getfield 77, 3) := by decide +kernel
theorem dX4_check_273 : decode cX4_check 273 = .ok (.ireturn, 1) := by decide +kernel
theorem dX4_cut_0 : decode cX4_cut 0 = .ok (.aload_n 0, 1) := by decide +kernel
theorem dX4_cut_1 : decode cX4_cut 1 = .ok (.iconst 0, 1) := by decide +kernel
theorem dX4_cut_2 : decode cX4_cut 2 = .ok (.putfield 54, 3) := by decide +kernel
theorem dX4_cut_5 : decode cX4_cut 5 = .ok (.iload_n 1, 1) := by decide +kernel
theorem dX4_cut_6 : decode cX4_cut 6 = .ok (.ifCond .lt 9, 3) := by decide +kernel
theorem dX4_cut_9 : decode cX4_cut 9 = .ok (.iload_n 1, 1) := by decide +kernel
theorem dX4_cut_10 : decode cX4_cut 10 = .ok (.bipush 30, 2) := by decide +kernel
theorem dX4_cut_12 : decode cX4_cut 12 = .ok (.if_icmp .le 6, 3) := by decide +kernel
theorem dX4_cut_15 : decode cX4_cut 15 = .ok (.bipush (-4), 2) := by decide +kernel
theorem dX4_cut_17 : decode cX4_cut 17 = .ok (.ireturn, 1) := by decide +kernel
theorem dX4_cut_18 : decode cX4_cut 18 = .ok (.aload_n 0, 1) := by decide +kernel
theorem dX4_cut_19 : decode cX4_cut 19 = .ok (.dup, 1) := by decide +kernel
theorem dX4_cut_20 : decode cX4_cut 20 = .ok (.getfield 83, 3) := by decide +kernel
theorem dX4_cut_23 : decode cX4_cut 23 = .ok (.iload_n 1, 1) := by decide +kernel
theorem dX4_cut_24 : decode cX4_cut 24 = .ok (.ifCond .ne 14, 3) := by decide +kernel
theorem dX4_cut_27 : decode cX4_cut 27 = .ok (.aload_n 0, 1) := by decide +kernel
theorem dX4_cut_28 : decode cX4_cut 28 = .ok (.getfield 58, 3) := by decide +kernel
theorem dX4_cut_31 : decode cX4_cut 31 = .ok (.ifCond .ne 7, 3) := by decide +kernel
theorem dX4_cut_34 : decode cX4_cut 34 = .ok (.iconst 1, 1) := by decide +kernel
theorem dX4_cut_35 : decode cX4_cut 35 = .ok (.goto 4, 3) := by decide +kernel
theorem dX4_cut_38 : decode cX4_cut 38 = .ok (.iconst 0, 1) := by decide +kernel
theorem dX4_cut_39 : decode cX4_cut 39 = .ok (.iadd, 1) := by decide +kernel
theorem dX4_cut_40 : decode cX4_cut 40 = .ok (.putfield 83, 3) := by decide +kernel
theorem dX4_cut_43 : decode cX4_cut 43 = .ok (.aload_n 0, 1) := by decide +kernel
theorem dX4_cut_44 : decode cX4_cut 44 = .ok (.iload_n 1, 1) := by decide +kernel
theorem dX4_cut_45 : decode cX4_cut 45 = .ok (.putfield 80, 3) := by decide +kernel
theorem dX4_cut_48 : decode cX4_cut 48 = .ok (.aload_n 0, 1) := by decide +kernel
theorem dX4_cut_49 : decode cX4_cut 49 = .ok (.aload_n 0, 1) := by decide +kernel
theorem dX4_cut_50 : decode cX4_cut 50 = .ok (.getfield 58, 3) := by decide +kernel
theorem dX4_cut_53 : decode cX4_cut 53 = .ok (.ifCond .ne 7, 3) := by decide +kernel
theorem dX4_cut_56 : decode cX4_cut 56 = .ok (.iload_n 1, 1) := by decide +kernel
theorem dX4_cut_57 : decode cX4_cut 57 = .ok (.ifCond .ne 7, 3) := by decide +kernel
theorem dX4_cut_60 : decode cX4_cut 60 = .ok (.iconst 1, 1) := by decide +kernel
theorem dX4_cut_61 : decode cX4_cut 61 = .ok (.goto 4, 3) := by decide +kernel
theorem dX4_cut_64 : decode cX4_cut 64 = .ok (.iconst 0, 1) := by decide +kernel
theorem dX4_cut_65 : decode cX4_cut 65 = .ok (.putfield 58, 3) := by decide +kernel
theorem dX4_cut_68 : decode cX4_cut 68 = .ok (.iconst 1, 1) := by decide +kernel
theorem dX4_cut_69 : decode cX4_cut 69 = .ok (.ireturn, 1) := by decide +kernel
theorem dX4_restart_0 : decode cX4_restart 0 = .ok (.aload_n 0, 1) := by decide +kernel
theorem dX4_restart_1 : decode cX4_restart 1 = .ok (.iconst 0, 1) := by decide +kernel
theorem dX4_restart_2 : decode cX4_restart 2 = .ok (.putfield 54, 3) := by decide +kernel
theorem dX4_restart_5 : decode cX4_restart 5 = .ok (.aload_n 0, 1) := by decide +kernel
theorem dX4_restart_6 : decode cX4_restart 6 = .ok (.getfield 58, 3) := by decide +kernel
theorem dX4_restart_9 : decode cX4_restart 9 = .ok (.ifCond .ne 6, 3) := by decide +kernel
theorem dX4_restart_12 : decode cX4_restart 12 = .ok (.bipush (-5), 2) := by decide +kernel
theorem dX4_restart_14 : decode cX4_restart 14 = .ok (.ireturn, 1) := by decide +kernel
theorem dX4_restart_15 : decode cX4_restart 15 = .ok (.iload_n 1, 1) := by decide +kernel
theorem dX4_restart_16 : decode cX4_restart 16 = .ok (.iconst 1, 1) := by decide +kernel
theorem dX4_restart_17 : decode cX4_restart 17 = .ok (.if_icmp .lt 11, 3) := by decide +kernel
theorem dX4_restart_20 : decode cX4_restart 20 = .ok (.iload_n 1, 1) := by decide +kernel
theorem dX4_restart_21 : decode cX4_restart 21 = .ok (.aload_n 0, 1) := by decide +kernel
theorem dX4_restart_22 : decode cX4_restart 22 = .ok (.getfield 77, 3) := by decide +kernel
theorem dX4_restart_25 : decode cX4_restart 25 = .ok (.if_icmp .le 5, 3) := by decide +kernel
theorem dX4_restart_28 : decode cX4_restart 28 = .ok (.iconst (-1), 1) := by decide +kernel
theorem dX4_restart_29 : decode cX4_restart 29 = .ok (.ireturn, 1) := by decide +kernel
theorem dX4_restart_30 : decode cX4_restart 30 = .ok (.iload_n 1, 1) := by decide +kernel
theorem dX4_restart_31 : decode cX4_restart 31 = .ok (.istore_n 2, 1) := by decide +kernel
theorem dX4_restart_32 : decode cX4_restart 32 = .ok (.iload_n 2, 1) := by decide +kernel
theorem dX4_restart_33 : decode cX4_restart 33 = .ok (.ifCond .le 18, 3) := by decide +kernel
theorem dX4_restart_36 : decode cX4_restart 36 = .ok (.aload_n 0, 1) := by decide +kernel
theorem dX4_restart_37 : decode cX4_restart 37 = .ok (.getfield 50, 3) := by decide +kernel
theorem dX4_restart_40 : decode cX4_restart 40 = .ok (.iload_n 2, 1) := by decide +kernel
theorem dX4_restart_41 : decode cX4_restart 41 = .ok (.baload, 1) := by decide +kernel
theorem dX4_restart_42 : decode cX4_restart 42 = .ok (.ifCond .ne 9, 3) := by decide +kernel
theorem dX4_restart_45 : decode cX4_restart 45 = .ok (.iinc 2 (-1), 3) := by decide +kernel
theorem dX4_restart_48 : decode cX4_restart 48 = .ok (.goto (-16), 3) := by decide +kernel
theorem dX4_restart_51 : decode cX4_restart 51 = .ok (.iload_n 2, 1) := by decide +kernel
theorem dX4_restart_52 : decode cX4_restart 52 = .ok (.ifCond .ne 5, 3) := by decide +kernel
theorem dX4_restart_55 : decode cX4_restart 55 = .ok (.iconst (-1), 1) := by decide +kernel
theorem dX4_restart_56 : decode cX4_restart 56 = .ok (.ireturn, 1) := by decide +kernel
theorem dX4_restart_57 : decode cX4_restart 57 = .ok (.aload_n 0, 1) := by decide +kernel
theorem dX4_restart_58 : decode cX4_restart 58 = .ok (.getfield 47, 3) := by decide +kernel
theorem dX4_restart_61 : decode cX4_restart 61 = .ok (.iload_n 2, 1) := by decide +kernel
theorem dX4_restart_62 : decode cX4_restart 62 = .ok (.iaload, 1) := by decide +kernel
theorem dX4_restart_63 : decode cX4_restart 63 = .ok (.aload_n 0, 1) := by decide +kernel
theorem dX4_restart_64 : decode cX4_restart 64 = .ok (.getfield 86, 3) := by decide +kernel
theorem dX4_restart_67 : decode cX4_restart 67 = .ok (.if_icmp .eq 6, 3) := by decide +kernel
theorem dX4_restart_70 : decode cX4_restart 70 = .ok (.bipush (-3), 2) := by decide +kernel
theorem dX4_restart_72 : decode cX4_restart 72 = .ok (.ireturn, 1) := by decide +kernel
theorem dX4_restart_73 : decode cX4_restart 73 = .ok (.iconst 0, 1) := by decide +kernel
theorem dX4_restart_74 : decode cX4_restart 74 = .ok (.istore_n 3, 1) := by decide +kernel
theorem dX4_restart_75 : decode cX4_restart 75 = .ok (.iload_n 3, 1) := by decide +kernel
theorem dX4_restart_76 : decode cX4_restart 76 = .ok (.aload_n 0, 1) := by decide +kernel
theorem dX4_restart_77 : decode cX4_restart 77 = .ok (.getfield 41, 3) := by decide +kernel
theorem dX4_restart_80 : decode cX4_restart 80 = .ok (.iload_n 2, 1) := by decide +kernel
theorem dX4_restart_81 : decode cX4_restart 81 = .ok (.iaload, 1) := by decide +kernel
theorem dX4_restart_82 : decode cX4_restart 82 = .ok (.if_icmp .ge 32, 3) := by decide +kernel
theorem dX4_restart_85 : decode cX4_restart 85 = .ok (.aload_n 0, 1) := by decide +kernel
theorem dX4_restart_86 : decode cX4_restart 86 = .ok (.getfield 19, 3) := by decide +kernel
theorem dX4_restart_89 : decode cX4_restart 89 = .ok (.iload_n 3, 1) := by decide +kernel
theorem dX4_restart_90 : decode cX4_restart 90 = .ok (.iaload, 1) := by decide +kernel
theorem dX4_restart_91 : decode cX4_restart 91 = .ok (.aload_n 0, 1) := by decide +kernel
theorem dX4_restart_92 : decode cX4_restart 92 = .ok (.getfield 35, 3) := by decide +kernel
theorem dX4_restart_95 : decode cX4_restart 95 = .ok (.bipush 6, 2) := by decide +kernel
theorem dX4_restart_97 : decode cX4_restart 97 = .ok (.iload_n 2, 1) := by decide +kernel
theorem dX4_restart_98 : decode cX4_restart 98 = .ok (.imul, 1) := by decide +kernel
theorem dX4_restart_99 : decode cX4_restart 99 = .ok (.iload_n 3, 1) := by decide +kernel
theorem dX4_restart_100 : decode cX4_restart 100 = .ok (.iadd, 1) := by decide +kernel
theorem dX4_restart_101 : decode cX4_restart 101 = .ok (.iaload, 1) := by decide +kernel
theorem dX4_restart_102 : decode cX4_restart 102 = .ok (.if_icmp .ge 6, 3) := by decide +kernel
theorem dX4_restart_105 : decode cX4_restart 105 = .ok (.bipush (-2), 2) := by decide +kernel
theorem dX4_restart_107 : decode cX4_restart 107 = .ok (.ireturn, 1) := by decide +kernel
theorem dX4_restart_108 : decode cX4_restart 108 = .ok (.iinc 3 1, 3) := by decide +kernel
theorem dX4_restart_111 : decode cX4_restart 111 = .ok (.goto (-36), 3) := by decide +kernel
theorem dX4_restart_114 : decode cX4_restart 114 = .ok (.iconst 0, 1) := by decide +kernel
theorem dX4_restart_115 : decode cX4_restart 115 = .ok (.istore_n 3, 1) := by decide +kernel
theorem dX4_restart_116 : decode cX4_restart 116 = .ok (.iload_n 3, 1) := by decide +kernel
theorem dX4_restart_117 : decode cX4_restart 117 = .ok (.aload_n 0, 1) := by decide +kernel
theorem dX4_restart_118 : decode cX4_restart 118 = .ok (.getfield 65, 3) := by decide +kernel
theorem dX4_restart_121 : decode cX4_restart 121 = .ok (.if_icmp .ge 45, 3) := by decide +kernel
theorem dX4_restart_124 : decode cX4_restart 124 = .ok (.aload_n 0, 1) := by decide +kernel
theorem dX4_restart_125 : decode cX4_restart 125 = .ok (.getfield 7, 3) := by decide +kernel
theorem dX4_restart_128 : decode cX4_restart 128 = .ok (.iload_n 3, 1) := by decide +kernel
theorem dX4_restart_129 : decode cX4_restart 129 = .ok (.iload_n 3, 1) := by decide +kernel
theorem dX4_restart_130 : decode cX4_restart 130 = .ok (.aload_n 0, 1) := by decide +kernel
theorem dX4_restart_131 : decode cX4_restart 131 = .ok (.getfield 38, 3) := by decide +kernel
theorem dX4_restart_134 : decode cX4_restart 134 = .ok (.iload_n 2, 1) := by decide +kernel
theorem dX4_restart_135 : decode cX4_restart 135 = .ok (.iaload, 1) := by decide +kernel
theorem dX4_restart_136 : decode cX4_restart 136 = .ok (.if_icmp .ge 17, 3) := by decide +kernel
theorem dX4_restart_139 : decode cX4_restart 139 = .ok (.aload_n 0, 1) := by decide +kernel
theorem dX4_restart_140 : decode cX4_restart 140 = .ok (.getfield 32, 3) := by decide +kernel
theorem dX4_restart_143 : decode cX4_restart 143 = .ok (.bipush 12, 2) := by decide +kernel
theorem dX4_restart_145 : decode cX4_restart 145 = .ok (.iload_n 2, 1) := by decide +kernel
theorem dX4_restart_146 : decode cX4_restart 146 = .ok (.imul, 1) := by decide +kernel
theorem dX4_restart_147 : decode cX4_restart 147 = .ok (.iload_n 3, 1) := by decide +kernel
theorem dX4_restart_148 : decode cX4_restart 148 = .ok (.iadd, 1) := by decide +kernel
theorem dX4_restart_149 : decode cX4_restart 149 = .ok (.laload, 1) := by decide +kernel
theorem dX4_restart_150 : decode cX4_restart 150 = .ok (.goto 9, 3) := by decide +kernel
theorem dX4_restart_153 : decode cX4_restart 153 = .ok (.aload_n 0, 1) := by decide +kernel
theorem dX4_restart_154 : decode cX4_restart 154 = .ok (.getfield 13, 3) := by decide +kernel
theorem dX4_restart_157 : decode cX4_restart 157 = .ok (.iload_n 3, 1) := by decide +kernel
theorem dX4_restart_158 : decode cX4_restart 158 = .ok (.laload, 1) := by decide +kernel
theorem dX4_restart_159 : decode cX4_restart 159 = .ok (.lastore, 1) := by decide +kernel
theorem dX4_restart_160 : decode cX4_restart 160 = .ok (.iinc 3 1, 3) := by decide +kernel
theorem dX4_restart_163 : decode cX4_restart 163 = .ok (.goto (-47), 3) := by decide +kernel
theorem dX4_restart_166 : decode cX4_restart 166 = .ok (.iconst 0, 1) := by decide +kernel
theorem dX4_restart_167 : decode cX4_restart 167 = .ok (.istore_n 3, 1) := by decide +kernel
theorem dX4_restart_168 : decode cX4_restart 168 = .ok (.iload_n 3, 1) := by decide +kernel
theorem dX4_restart_169 : decode cX4_restart 169 = .ok (.aload_n 0, 1) := by decide +kernel
theorem dX4_restart_170 : decode cX4_restart 170 = .ok (.getfield 68, 3) := by decide +kernel
theorem dX4_restart_173 : decode cX4_restart 173 = .ok (.if_icmp .ge 40, 3) := by decide +kernel
theorem dX4_restart_176 : decode cX4_restart 176 = .ok (.aload_n 0, 1) := by decide +kernel
theorem dX4_restart_177 : decode cX4_restart 177 = .ok (.getfield 23, 3) := by decide +kernel
theorem dX4_restart_180 : decode cX4_restart 180 = .ok (.iload_n 3, 1) := by decide +kernel
theorem dX4_restart_181 : decode cX4_restart 181 = .ok (.iload_n 3, 1) := by decide +kernel
theorem dX4_restart_182 : decode cX4_restart 182 = .ok (.aload_n 0, 1) := by decide +kernel
theorem dX4_restart_183 : decode cX4_restart 183 = .ok (.getfield 41, 3) := by decide +kernel
theorem dX4_restart_186 : decode cX4_restart 186 = .ok (.iload_n 2, 1) := by decide +kernel
theorem dX4_restart_187 : decode cX4_restart 187 = .ok (.iaload, 1) := by decide +kernel
theorem dX4_restart_188 : decode cX4_restart 188 = .ok (.if_icmp .ge 17, 3) := by decide +kernel
theorem dX4_restart_191 : decode cX4_restart 191 = .ok (.aload_n 0, 1) := by decide +kernel
theorem dX4_restart_192 : decode cX4_restart 192 = .ok (.getfield 35, 3) := by decide +kernel
theorem dX4_restart_195 : decode cX4_restart 195 = .ok (.bipush 6, 2) := by decide +kernel
theorem dX4_restart_197 : decode cX4_restart 197 = .ok (.iload_n 2, 1) := by decide +kernel
theorem dX4_restart_198 : decode cX4_restart 198 = .ok (.imul, 1) := by decide +kernel
theorem dX4_restart_199 : decode cX4_restart 199 = .ok (.iload_n 3, 1) := by decide +kernel
theorem dX4_restart_200 : decode cX4_restart 200 = .ok (.iadd, 1) := by decide +kernel
theorem dX4_restart_201 : decode cX4_restart 201 = .ok (.iaload, 1) := by decide +kernel
theorem dX4_restart_202 : decode cX4_restart 202 = .ok (.goto 4, 3) := by decide +kernel
theorem dX4_restart_205 : decode cX4_restart 205 = .ok (.iconst 0, 1) := by decide +kernel
theorem dX4_restart_206 : decode cX4_restart 206 = .ok (.iastore, 1) := by decide +kernel
theorem dX4_restart_207 : decode cX4_restart 207 = .ok (.iinc 3 1, 3) := by decide +kernel
theorem dX4_restart_210 : decode cX4_restart 210 = .ok (.goto (-42), 3) := by decide +kernel
theorem dX4_restart_213 : decode cX4_restart 213 = .ok (.aload_n 0, 1) := by decide +kernel
theorem dX4_restart_214 : decode cX4_restart 214 = .ok (.aload_n 0, 1) := by decide +kernel
theorem dX4_restart_215 : decode cX4_restart 215 = .ok (.getfield 44, 3) := by decide +kernel
theorem dX4_restart_218 : decode cX4_restart 218 = .ok (.iload_n 2, 1) := by decide +kernel
theorem dX4_restart_219 : decode cX4_restart 219 = .ok (.iaload, 1) := by decide +kernel
theorem dX4_restart_220 : decode cX4_restart 220 = .ok (.putfield 62, 3) := by decide +kernel
theorem dX4_restart_223 : decode cX4_restart 223 = .ok (.aload_n 0, 1) := by decide +kernel
theorem dX4_restart_224 : decode cX4_restart 224 = .ok (.iload_n 2, 1) := by decide +kernel
theorem dX4_restart_225 : decode cX4_restart 225 = .ok (.putfield 77, 3) := by decide +kernel
theorem dX4_restart_228 : decode cX4_restart 228 = .ok (.aload_n 0, 1) := by decide +kernel
theorem dX4_restart_229 : decode cX4_restart 229 = .ok (.iconst 0, 1) := by decide +kernel
theorem dX4_restart_230 : decode cX4_restart 230 = .ok (.putfield 58, 3) := by decide +kernel
theorem dX4_restart_233 : decode cX4_restart 233 = .ok (.iload_n 2, 1) := by decide +kernel
theorem dX4_restart_234 : decode cX4_restart 234 = .ok (.ireturn, 1) := by decide +kernel
theorem dX4_get_0 : decode cX4_get 0 = .ok (.aload_n 0, 1) := by decide +kernel
theorem dX4_get_1 : decode cX4_get 1 = .ok (.iload_n 1, 1) := by decide +kernel
theorem dX4_get_2 : decode cX4_get 2 = .ok (.ifCond .lt 11, 3) := by decide +kernel
theorem dX4_get_5 : decode cX4_get 5 = .ok (.iload_n 1, 1) := by decide +kernel
theorem dX4_get_6 : decode cX4_get 6 = .ok (.aload_n 0, 1) := by decide +kernel
theorem dX4_get_7 : decode cX4_get 7 = .ok (.getfield 65, 3) := by decide +kernel
theorem dX4_get_10 : decode cX4_get 10 = .ok (.if_icmp .lt 7, 3) := by decide +kernel
theorem dX4_get_13 : decode cX4_get 13 = .ok (.iconst 1, 1) := by decide +kernel
theorem dX4_get_14 : decode cX4_get 14 = .ok (.goto 4, 3) := by decide +kernel
theorem dX4_get_17 : decode cX4_get 17 = .ok (.iconst 0, 1) := by decide +kernel
theorem dX4_get_18 : decode cX4_get 18 = .ok (.putfield 54, 3) := by decide +kernel
theorem dX4_get_21 : decode cX4_get 21 = .ok (.aload_n 0, 1) := by decide +kernel
theorem dX4_get_22 : decode cX4_get 22 = .ok (.getfield 54, 3) := by decide +kernel
theorem dX4_get_25 : decode cX4_get 25 = .ok (.ifCond .le 7, 3) := by decide +kernel
theorem dX4_get_28 : decode cX4_get 28 = .ok (.lconst 0, 1) := by decide +kernel
theorem dX4_get_29 : decode cX4_get 29 = .ok (.goto 9, 3) := by decide +kernel
theorem dX4_get_32 : decode cX4_get 32 = .ok (.aload_n 0, 1) := by decide +kernel
theorem dX4_get_33 : decode cX4_get 33 = .ok (.getfield 7, 3) := by decide +kernel
theorem dX4_get_36 : decode cX4_get 36 = .ok (.iload_n 1, 1) := by decide +kernel
theorem dX4_get_37 : decode cX4_get 37 = .ok (.laload, 1) := by decide +kernel
theorem dX4_get_38 : decode cX4_get 38 = .ok (.lreturn, 1) := by decide +kernel
theorem dX4_position_0 : decode cX4_position 0 = .ok (.aload_n 0, 1) := by decide +kernel
theorem dX4_position_1 : decode cX4_position 1 = .ok (.iconst 0, 1) := by decide +kernel
theorem dX4_position_2 : decode cX4_position 2 = .ok (.putfield 54, 3) := by decide +kernel
theorem dX4_position_5 : decode cX4_position 5 = .ok (.iload_n 1, 1) := by decide +kernel
theorem dX4_position_6 : decode cX4_position 6 = .ok (.ifCond .lt 11, 3) := by decide +kernel
theorem dX4_position_9 : decode cX4_position 9 = .ok (.iload_n 1, 1) := by decide +kernel
theorem dX4_position_10 : decode cX4_position 10 = .ok (.aload_n 0, 1) := by decide +kernel
theorem dX4_position_11 : decode cX4_position 11 = .ok (.getfield 68, 3) := by decide +kernel
theorem dX4_position_14 : decode cX4_position 14 = .ok (.if_icmp .lt 7, 3) := by decide +kernel
theorem dX4_position_17 : decode cX4_position 17 = .ok (.iconst (-1), 1) := by decide +kernel
theorem dX4_position_18 : decode cX4_position 18 = .ok (.goto 9, 3) := by decide +kernel
theorem dX4_position_21 : decode cX4_position 21 = .ok (.aload_n 0, 1) := by decide +kernel
theorem dX4_position_22 : decode cX4_position 22 = .ok (.getfield 23, 3) := by decide +kernel
theorem dX4_position_25 : decode cX4_position 25 = .ok (.iload_n 1, 1) := by decide +kernel
theorem dX4_position_26 : decode cX4_position 26 = .ok (.iaload, 1) := by decide +kernel
theorem dX4_position_27 : decode cX4_position 27 = .ok (.ireturn, 1) := by decide +kernel
theorem dX4_grow_0 : decode cX4_grow 0 = .ok (.aload_n 0, 1) := by decide +kernel
theorem dX4_grow_1 : decode cX4_grow 1 = .ok (.iconst 0, 1) := by decide +kernel
theorem dX4_grow_2 : decode cX4_grow 2 = .ok (.putfield 54, 3) := by decide +kernel
theorem dX4_grow_5 : decode cX4_grow 5 = .ok (.iload_n 1, 1) := by decide +kernel
theorem dX4_grow_6 : decode cX4_grow 6 = .ok (.ifCond .lt 11, 3) := by decide +kernel
theorem dX4_grow_9 : decode cX4_grow 9 = .ok (.iload_n 1, 1) := by decide +kernel
theorem dX4_grow_10 : decode cX4_grow 10 = .ok (.aload_n 0, 1) := by decide +kernel
theorem dX4_grow_11 : decode cX4_grow 11 = .ok (.getfield 68, 3) := by decide +kernel
theorem dX4_grow_14 : decode cX4_grow 14 = .ok (.if_icmp .lt 5, 3) := by decide +kernel
theorem dX4_grow_17 : decode cX4_grow 17 = .ok (.iconst (-1), 1) := by decide +kernel
theorem dX4_grow_18 : decode cX4_grow 18 = .ok (.ireturn, 1) := by decide +kernel
theorem dX4_grow_19 : decode cX4_grow 19 = .ok (.aload_n 0, 1) := by decide +kernel
theorem dX4_grow_20 : decode cX4_grow 20 = .ok (.getfield 19, 3) := by decide +kernel
theorem dX4_grow_23 : decode cX4_grow 23 = .ok (.iload_n 1, 1) := by decide +kernel
theorem dX4_grow_24 : decode cX4_grow 24 = .ok (.iaload, 1) := by decide +kernel
theorem dX4_grow_25 : decode cX4_grow 25 = .ok (.i2l, 1) := by decide +kernel
theorem dX4_grow_26 : decode cX4_grow 26 = .ok (.iload_n 2, 1) := by decide +kernel
theorem dX4_grow_27 : decode cX4_grow 27 = .ok (.i2l, 1) := by decide +kernel
theorem dX4_grow_28 : decode cX4_grow 28 = .ok (.ladd, 1) := by decide +kernel
theorem dX4_grow_29 : decode cX4_grow 29 = .ok (.lstore_n 3, 1) := by decide +kernel
theorem dX4_grow_30 : decode cX4_grow 30 = .ok (.lload_n 3, 1) := by decide +kernel
theorem dX4_grow_31 : decode cX4_grow 31 = .ok (.lconst 0, 1) := by decide +kernel
theorem dX4_grow_32 : decode cX4_grow 32 = .ok (.lcmp, 1) := by decide +kernel
theorem dX4_grow_33 : decode cX4_grow 33 = .ok (.ifCond .lt 11, 3) := by decide +kernel
theorem dX4_grow_36 : decode cX4_grow 36 = .ok (.lload_n 3, 1) := by decide +kernel
theorem dX4_grow_37 : decode cX4_grow 37 = .ok (.ldc2_w 89, 3) := by decide +kernel
theorem dX4_grow_40 : decode cX4_grow 40 = .ok (.lcmp, 1) := by decide +kernel
theorem dX4_grow_41 : decode cX4_grow 41 = .ok (.ifCond .le 6, 3) := by decide +kernel
theorem dX4_grow_44 : decode cX4_grow 44 = .ok (.bipush (-4), 2) := by decide +kernel
theorem dX4_grow_46 : decode cX4_grow 46 = .ok (.ireturn, 1) := by decide +kernel
theorem dX4_grow_47 : decode cX4_grow 47 = .ok (.aload_n 0, 1) := by decide +kernel
theorem dX4_grow_48 : decode cX4_grow 48 = .ok (.getfield 19, 3) := by decide +kernel
theorem dX4_grow_51 : decode cX4_grow 51 = .ok (.iload_n 1, 1) := by decide +kernel
theorem dX4_grow_52 : decode cX4_grow 52 = .ok (.lload_n 3, 1) := by decide +kernel
theorem dX4_grow_53 : decode cX4_grow 53 = .ok (.l2i, 1) := by decide +kernel
theorem dX4_grow_54 : decode cX4_grow 54 = .ok (.iastore, 1) := by decide +kernel
theorem dX4_grow_55 : decode cX4_grow 55 = .ok (.aload_n 0, 1) := by decide +kernel
theorem dX4_grow_56 : decode cX4_grow 56 = .ok (.getfield 19, 3) := by decide +kernel
theorem dX4_grow_59 : decode cX4_grow 59 = .ok (.iload_n 1, 1) := by decide +kernel
theorem dX4_grow_60 : decode cX4_grow 60 = .ok (.iaload, 1) := by decide +kernel
theorem dX4_grow_61 : decode cX4_grow 61 = .ok (.ireturn, 1) := by decide +kernel
theorem dX4_edition_0 : decode cX4_edition 0 = .ok (.aload_n 0, 1) := by decide +kernel
theorem dX4_edition_1 : decode cX4_edition 1 = .ok (.iconst 0, 1) := by decide +kernel
theorem dX4_edition_2 : decode cX4_edition 2 = .ok (.putfield 54, 3) := by decide +kernel
theorem dX4_edition_5 : decode cX4_edition 5 = .ok (.aload_n 0, 1) := by decide +kernel
theorem dX4_edition_6 : decode cX4_edition 6 = .ok (.getfield 86, 3) := by decide +kernel
theorem dX4_edition_9 : decode cX4_edition 9 = .ok (.istore_n 2, 1) := by decide +kernel
theorem dX4_edition_10 : decode cX4_edition 10 = .ok (.aload_n 0, 1) := by decide +kernel
theorem dX4_edition_11 : decode cX4_edition 11 = .ok (.iload_n 1, 1) := by decide +kernel
theorem dX4_edition_12 : decode cX4_edition 12 = .ok (.putfield 86, 3) := by decide +kernel
theorem dX4_edition_15 : decode cX4_edition 15 = .ok (.iload_n 2, 1) := by decide +kernel
theorem dX4_edition_16 : decode cX4_edition 16 = .ok (.ireturn, 1) := by decide +kernel
theorem dX4_output_0 : decode cX4_output 0 = .ok (.aload_n 0, 1) := by decide +kernel
theorem dX4_output_1 : decode cX4_output 1 = .ok (.iconst 0, 1) := by decide +kernel
theorem dX4_output_2 : decode cX4_output 2 = .ok (.putfield 54, 3) := by decide +kernel
theorem dX4_output_5 : decode cX4_output 5 = .ok (.iload_n 1, 1) := by decide +kernel
theorem dX4_output_6 : decode cX4_output 6 = .ok (.ifCond .lt 21, 3) := by decide +kernel
theorem dX4_output_9 : decode cX4_output 9 = .ok (.iload_n 1, 1) := by decide +kernel
theorem dX4_output_10 : decode cX4_output 10 = .ok (.aload_n 0, 1) := by decide +kernel
theorem dX4_output_11 : decode cX4_output 11 = .ok (.getfield 62, 3) := by decide +kernel
theorem dX4_output_14 : decode cX4_output 14 = .ok (.if_icmp .ge 13, 3) := by decide +kernel
theorem dX4_output_17 : decode cX4_output 17 = .ok (.aload_n 0, 1) := by decide +kernel
theorem dX4_output_18 : decode cX4_output 18 = .ok (.getfield 29, 3) := by decide +kernel
theorem dX4_output_21 : decode cX4_output 21 = .ok (.iload_n 1, 1) := by decide +kernel
theorem dX4_output_22 : decode cX4_output 22 = .ok (.laload, 1) := by decide +kernel
theorem dX4_output_23 : decode cX4_output 23 = .ok (.l2i, 1) := by decide +kernel
theorem dX4_output_24 : decode cX4_output 24 = .ok (.goto 4, 3) := by decide +kernel
theorem dX4_output_27 : decode cX4_output 27 = .ok (.iconst 0, 1) := by decide +kernel
theorem dX4_output_28 : decode cX4_output 28 = .ok (.ireturn, 1) := by decide +kernel
theorem dX4_torn_0 : decode cX4_torn 0 = .ok (.aload_n 0, 1) := by decide +kernel
theorem dX4_torn_1 : decode cX4_torn 1 = .ok (.iconst 0, 1) := by decide +kernel
theorem dX4_torn_2 : decode cX4_torn 2 = .ok (.putfield 54, 3) := by decide +kernel
theorem dX4_torn_5 : decode cX4_torn 5 = .ok (.iload_n 1, 1) := by decide +kernel
theorem dX4_torn_6 : decode cX4_torn 6 = .ok (.iconst 1, 1) := by decide +kernel
theorem dX4_torn_7 : decode cX4_torn 7 = .ok (.if_icmp .lt 11, 3) := by decide +kernel
theorem dX4_torn_10 : decode cX4_torn 10 = .ok (.iload_n 1, 1) := by decide +kernel
theorem dX4_torn_11 : decode cX4_torn 11 = .ok (.aload_n 0, 1) := by decide +kernel
theorem dX4_torn_12 : decode cX4_torn 12 = .ok (.getfield 77, 3) := by decide +kernel
theorem dX4_torn_15 : decode cX4_torn 15 = .ok (.if_icmp .le 7, 3) := by decide +kernel
theorem dX4_torn_18 : decode cX4_torn 18 = .ok (.iconst (-1), 1) := by decide +kernel
theorem dX4_torn_19 : decode cX4_torn 19 = .ok (.goto 17, 3) := by decide +kernel
theorem dX4_torn_22 : decode cX4_torn 22 = .ok (.aload_n 0, 1) := by decide +kernel
theorem dX4_torn_23 : decode cX4_torn 23 = .ok (.getfield 50, 3) := by decide +kernel
theorem dX4_torn_26 : decode cX4_torn 26 = .ok (.iload_n 1, 1) := by decide +kernel
theorem dX4_torn_27 : decode cX4_torn 27 = .ok (.baload, 1) := by decide +kernel
theorem dX4_torn_28 : decode cX4_torn 28 = .ok (.ifCond .eq 7, 3) := by decide +kernel
theorem dX4_torn_31 : decode cX4_torn 31 = .ok (.iconst 0, 1) := by decide +kernel
theorem dX4_torn_32 : decode cX4_torn 32 = .ok (.goto 4, 3) := by decide +kernel
theorem dX4_torn_35 : decode cX4_torn 35 = .ok (.iconst 1, 1) := by decide +kernel
theorem dX4_torn_36 : decode cX4_torn 36 = .ok (.ireturn, 1) := by decide +kernel
theorem dX4_row_0 : decode cX4_row 0 = .ok (.aload_n 0, 1) := by decide +kernel
theorem dX4_row_1 : decode cX4_row 1 = .ok (.iload_n 1, 1) := by decide +kernel
theorem dX4_row_2 : decode cX4_row 2 = .ok (.ifCond .lt 15, 3) := by decide +kernel
theorem dX4_row_5 : decode cX4_row 5 = .ok (.iload_n 1, 1) := by decide +kernel
theorem dX4_row_6 : decode cX4_row 6 = .ok (.aload_n 0, 1) := by decide +kernel
theorem dX4_row_7 : decode cX4_row 7 = .ok (.getfield 62, 3) := by decide +kernel
theorem dX4_row_10 : decode cX4_row 10 = .ok (.if_icmp .ge 7, 3) := by decide +kernel
theorem dX4_row_13 : decode cX4_row 13 = .ok (.iconst 0, 1) := by decide +kernel
theorem dX4_row_14 : decode cX4_row 14 = .ok (.goto 4, 3) := by decide +kernel
theorem dX4_row_17 : decode cX4_row 17 = .ok (.iconst 1, 1) := by decide +kernel
theorem dX4_row_18 : decode cX4_row 18 = .ok (.putfield 54, 3) := by decide +kernel
theorem dX4_row_21 : decode cX4_row 21 = .ok (.aload_n 0, 1) := by decide +kernel
theorem dX4_row_22 : decode cX4_row 22 = .ok (.getfield 54, 3) := by decide +kernel
theorem dX4_row_25 : decode cX4_row 25 = .ok (.ifCond .le 7, 3) := by decide +kernel
theorem dX4_row_28 : decode cX4_row 28 = .ok (.iconst 0, 1) := by decide +kernel
theorem dX4_row_29 : decode cX4_row 29 = .ok (.goto 13, 3) := by decide +kernel
theorem dX4_row_32 : decode cX4_row 32 = .ok (.aload_n 0, 1) := by decide +kernel
theorem dX4_row_33 : decode cX4_row 33 = .ok (.getfield 29, 3) := by decide +kernel
theorem dX4_row_36 : decode cX4_row 36 = .ok (.iload_n 1, 1) := by decide +kernel
theorem dX4_row_37 : decode cX4_row 37 = .ok (.laload, 1) := by decide +kernel
theorem dX4_row_38 : decode cX4_row 38 = .ok (.bipush 32, 2) := by decide +kernel
theorem dX4_row_40 : decode cX4_row 40 = .ok (.lshr, 1) := by decide +kernel
theorem dX4_row_41 : decode cX4_row 41 = .ok (.l2i, 1) := by decide +kernel
theorem dX4_row_42 : decode cX4_row 42 = .ok (.ireturn, 1) := by decide +kernel
theorem dX4_isOver_0 : decode cX4_isOver 0 = .ok (.iconst 1, 1) := by decide +kernel
theorem dX4_isOver_1 : decode cX4_isOver 1 = .ok (.istore_n 1, 1) := by decide +kernel
theorem dX4_isOver_2 : decode cX4_isOver 2 = .ok (.iconst 0, 1) := by decide +kernel
theorem dX4_isOver_3 : decode cX4_isOver 3 = .ok (.istore_n 2, 1) := by decide +kernel
theorem dX4_isOver_4 : decode cX4_isOver 4 = .ok (.iload_n 2, 1) := by decide +kernel
theorem dX4_isOver_5 : decode cX4_isOver 5 = .ok (.aload_n 0, 1) := by decide +kernel
theorem dX4_isOver_6 : decode cX4_isOver 6 = .ok (.getfield 68, 3) := by decide +kernel
theorem dX4_isOver_9 : decode cX4_isOver 9 = .ok (.if_icmp .ge 34, 3) := by decide +kernel
theorem dX4_isOver_12 : decode cX4_isOver 12 = .ok (.iload_n 1, 1) := by decide +kernel
theorem dX4_isOver_13 : decode cX4_isOver 13 = .ok (.ifCond .eq 22, 3) := by decide +kernel
theorem dX4_isOver_16 : decode cX4_isOver 16 = .ok (.aload_n 0, 1) := by decide +kernel
theorem dX4_isOver_17 : decode cX4_isOver 17 = .ok (.getfield 26, 3) := by decide +kernel
theorem dX4_isOver_20 : decode cX4_isOver 20 = .ok (.iload_n 2, 1) := by decide +kernel
theorem dX4_isOver_21 : decode cX4_isOver 21 = .ok (.iaload, 1) := by decide +kernel
theorem dX4_isOver_22 : decode cX4_isOver 22 = .ok (.aload_n 0, 1) := by decide +kernel
theorem dX4_isOver_23 : decode cX4_isOver 23 = .ok (.getfield 19, 3) := by decide +kernel
theorem dX4_isOver_26 : decode cX4_isOver 26 = .ok (.iload_n 2, 1) := by decide +kernel
theorem dX4_isOver_27 : decode cX4_isOver 27 = .ok (.iaload, 1) := by decide +kernel
theorem dX4_isOver_28 : decode cX4_isOver 28 = .ok (.if_icmp .lt 7, 3) := by decide +kernel
theorem dX4_isOver_31 : decode cX4_isOver 31 = .ok (.iconst 1, 1) := by decide +kernel
theorem dX4_isOver_32 : decode cX4_isOver 32 = .ok (.goto 4, 3) := by decide +kernel
theorem dX4_isOver_35 : decode cX4_isOver 35 = .ok (.iconst 0, 1) := by decide +kernel
theorem dX4_isOver_36 : decode cX4_isOver 36 = .ok (.istore_n 1, 1) := by decide +kernel
theorem dX4_isOver_37 : decode cX4_isOver 37 = .ok (.iinc 2 1, 3) := by decide +kernel
theorem dX4_isOver_40 : decode cX4_isOver 40 = .ok (.goto (-36), 3) := by decide +kernel
theorem dX4_isOver_43 : decode cX4_isOver 43 = .ok (.iload_n 1, 1) := by decide +kernel
theorem dX4_isOver_44 : decode cX4_isOver 44 = .ok (.ireturn, 1) := by decide +kernel
set_option maxRecDepth 20000 in
theorem ggX4_equal_X4_isOver : GoodIn wsX4_equal wsX4_isOver := goodIn_r _ [16, 5, 6, 8, 17, 18, 19, 20, 21, 22, 23, 24, 25, 26, 27, 28, 29, 30, 31, 32, 33, 34, 35, 36, 37, 38, 39] (by decide +kernel) (by decide +kernel)
set_option maxRecDepth 20000 in
theorem gX4_equal_X4_isOver : GoodIn wsX4_equal (wsV RX4 91 RX4 yX4_isOver wsX4_isOver) := goodIn_app (goodIn_of _ (by decide +kernel)) ggX4_equal_X4_isOver
theorem dX4_equal_0 : decode cX4_equal 0 = .ok (.aload_n 0, 1) := by decide +kernel
theorem dX4_equal_1 : decode cX4_equal 1 = .ok (.iconst 0, 1) := by decide +kernel
theorem dX4_equal_2 : decode cX4_equal 2 = .ok (.putfield 54, 3) := by decide +kernel
theorem dX4_equal_5 : decode cX4_equal 5 = .ok (.iconst 0, 1) := by decide +kernel
theorem dX4_equal_6 : decode cX4_equal 6 = .ok (.istore_n 1, 1) := by decide +kernel
theorem dX4_equal_7 : decode cX4_equal 7 = .ok (.iload_n 1, 1) := by decide +kernel
theorem dX4_equal_8 : decode cX4_equal 8 = .ok (.aload_n 0, 1) := by decide +kernel
theorem dX4_equal_9 : decode cX4_equal 9 = .ok (.getfield 65, 3) := by decide +kernel
theorem dX4_equal_12 : decode cX4_equal 12 = .ok (.if_icmp .ge 21, 3) := by decide +kernel
theorem dX4_equal_15 : decode cX4_equal 15 = .ok (.aload_n 0, 1) := by decide +kernel
theorem dX4_equal_16 : decode cX4_equal 16 = .ok (.getfield 16, 3) := by decide +kernel
theorem dX4_equal_19 : decode cX4_equal 19 = .ok (.iload_n 1, 1) := by decide +kernel
theorem dX4_equal_20 : decode cX4_equal 20 = .ok (.aload_n 0, 1) := by decide +kernel
theorem dX4_equal_21 : decode cX4_equal 21 = .ok (.getfield 13, 3) := by decide +kernel
theorem dX4_equal_24 : decode cX4_equal 24 = .ok (.iload_n 1, 1) := by decide +kernel
theorem dX4_equal_25 : decode cX4_equal 25 = .ok (.laload, 1) := by decide +kernel
theorem dX4_equal_26 : decode cX4_equal 26 = .ok (.lastore, 1) := by decide +kernel
theorem dX4_equal_27 : decode cX4_equal 27 = .ok (.iinc 1 1, 3) := by decide +kernel
theorem dX4_equal_30 : decode cX4_equal 30 = .ok (.goto (-23), 3) := by decide +kernel
theorem dX4_equal_33 : decode cX4_equal 33 = .ok (.iconst 0, 1) := by decide +kernel
theorem dX4_equal_34 : decode cX4_equal 34 = .ok (.istore_n 1, 1) := by decide +kernel
theorem dX4_equal_35 : decode cX4_equal 35 = .ok (.iload_n 1, 1) := by decide +kernel
theorem dX4_equal_36 : decode cX4_equal 36 = .ok (.aload_n 0, 1) := by decide +kernel
theorem dX4_equal_37 : decode cX4_equal 37 = .ok (.getfield 68, 3) := by decide +kernel
theorem dX4_equal_40 : decode cX4_equal 40 = .ok (.if_icmp .ge 16, 3) := by decide +kernel
theorem dX4_equal_43 : decode cX4_equal 43 = .ok (.aload_n 0, 1) := by decide +kernel
theorem dX4_equal_44 : decode cX4_equal 44 = .ok (.getfield 26, 3) := by decide +kernel
theorem dX4_equal_47 : decode cX4_equal 47 = .ok (.iload_n 1, 1) := by decide +kernel
theorem dX4_equal_48 : decode cX4_equal 48 = .ok (.iconst 0, 1) := by decide +kernel
theorem dX4_equal_49 : decode cX4_equal 49 = .ok (.iastore, 1) := by decide +kernel
theorem dX4_equal_50 : decode cX4_equal 50 = .ok (.iinc 1 1, 3) := by decide +kernel
theorem dX4_equal_53 : decode cX4_equal 53 = .ok (.goto (-18), 3) := by decide +kernel
theorem dX4_equal_56 : decode cX4_equal 56 = .ok (.iconst 1, 1) := by decide +kernel
theorem dX4_equal_57 : decode cX4_equal 57 = .ok (.istore_n 1, 1) := by decide +kernel
theorem dX4_equal_58 : decode cX4_equal 58 = .ok (.iconst 1, 1) := by decide +kernel
theorem dX4_equal_59 : decode cX4_equal 59 = .ok (.istore_n 2, 1) := by decide +kernel
theorem dX4_equal_60 : decode cX4_equal 60 = .ok (.iload_n 2, 1) := by decide +kernel
theorem dX4_equal_61 : decode cX4_equal 61 = .ok (.aload_n 0, 1) := by decide +kernel
theorem dX4_equal_62 : decode cX4_equal 62 = .ok (.getfield 62, 3) := by decide +kernel
theorem dX4_equal_65 : decode cX4_equal 65 = .ok (.if_icmp .gt 159, 3) := by decide +kernel
theorem dX4_equal_68 : decode cX4_equal 68 = .ok (.aload_n 0, 1) := by decide +kernel
theorem dX4_equal_69 : decode cX4_equal 69 = .ok (.invokevirtual 91, 3) := by decide +kernel
theorem dX4_equal_72 : decode cX4_equal 72 = .ok (.ifCond .eq 5, 3) := by decide +kernel
theorem dX4_equal_75 : decode cX4_equal 75 = .ok (.iconst 0, 1) := by decide +kernel
theorem dX4_equal_76 : decode cX4_equal 76 = .ok (.ireturn, 1) := by decide +kernel
theorem dX4_equal_77 : decode cX4_equal 77 = .ok (.iload_n 2, 1) := by decide +kernel
theorem dX4_equal_78 : decode cX4_equal 78 = .ok (.iconst 1, 1) := by decide +kernel
theorem dX4_equal_79 : decode cX4_equal 79 = .ok (.isub, 1) := by decide +kernel
theorem dX4_equal_80 : decode cX4_equal 80 = .ok (.aload_n 0, 1) := by decide +kernel
theorem dX4_equal_81 : decode cX4_equal 81 = .ok (.getfield 68, 3) := by decide +kernel
theorem dX4_equal_84 : decode cX4_equal 84 = .ok (.irem, 1) := by decide +kernel
theorem dX4_equal_85 : decode cX4_equal 85 = .ok (.istore_n 3, 1) := by decide +kernel
theorem dX4_equal_86 : decode cX4_equal 86 = .ok (.aload_n 0, 1) := by decide +kernel
theorem dX4_equal_87 : decode cX4_equal 87 = .ok (.getfield 26, 3) := by decide +kernel
theorem dX4_equal_90 : decode cX4_equal 90 = .ok (.iload_n 3, 1) := by decide +kernel
theorem dX4_equal_91 : decode cX4_equal 91 = .ok (.iaload, 1) := by decide +kernel
theorem dX4_equal_92 : decode cX4_equal 92 = .ok (.aload_n 0, 1) := by decide +kernel
theorem dX4_equal_93 : decode cX4_equal 93 = .ok (.getfield 19, 3) := by decide +kernel
theorem dX4_equal_96 : decode cX4_equal 96 = .ok (.iload_n 3, 1) := by decide +kernel
theorem dX4_equal_97 : decode cX4_equal 97 = .ok (.iaload, 1) := by decide +kernel
theorem dX4_equal_98 : decode cX4_equal 98 = .ok (.if_icmp .ge 7, 3) := by decide +kernel
theorem dX4_equal_101 : decode cX4_equal 101 = .ok (.iconst 1, 1) := by decide +kernel
theorem dX4_equal_102 : decode cX4_equal 102 = .ok (.goto 4, 3) := by decide +kernel
theorem dX4_equal_105 : decode cX4_equal 105 = .ok (.iconst 0, 1) := by decide +kernel
theorem dX4_equal_106 : decode cX4_equal 106 = .ok (.istore 4, 2) := by decide +kernel
theorem dX4_equal_108 : decode cX4_equal 108 = .ok (.ldc2_w 75, 3) := by decide +kernel
theorem dX4_equal_111 : decode cX4_equal 111 = .ok (.iload_n 3, 1) := by decide +kernel
theorem dX4_equal_112 : decode cX4_equal 112 = .ok (.iconst 1, 1) := by decide +kernel
theorem dX4_equal_113 : decode cX4_equal 113 = .ok (.iadd, 1) := by decide +kernel
theorem dX4_equal_114 : decode cX4_equal 114 = .ok (.i2l, 1) := by decide +kernel
theorem dX4_equal_115 : decode cX4_equal 115 = .ok (.lmul, 1) := by decide +kernel
theorem dX4_equal_116 : decode cX4_equal 116 = .ok (.aload_n 0, 1) := by decide +kernel
theorem dX4_equal_117 : decode cX4_equal 117 = .ok (.getfield 26, 3) := by decide +kernel
theorem dX4_equal_120 : decode cX4_equal 120 = .ok (.iload_n 3, 1) := by decide +kernel
theorem dX4_equal_121 : decode cX4_equal 121 = .ok (.iaload, 1) := by decide +kernel
theorem dX4_equal_122 : decode cX4_equal 122 = .ok (.i2l, 1) := by decide +kernel
theorem dX4_equal_123 : decode cX4_equal 123 = .ok (.ladd, 1) := by decide +kernel
theorem dX4_equal_124 : decode cX4_equal 124 = .ok (.lstore 5, 2) := by decide +kernel
theorem dX4_equal_126 : decode cX4_equal 126 = .ok (.aload_n 0, 1) := by decide +kernel
theorem dX4_equal_127 : decode cX4_equal 127 = .ok (.getfield 26, 3) := by decide +kernel
theorem dX4_equal_130 : decode cX4_equal 130 = .ok (.iload_n 3, 1) := by decide +kernel
theorem dX4_equal_131 : decode cX4_equal 131 = .ok (.dup2, 1) := by decide +kernel
theorem dX4_equal_132 : decode cX4_equal 132 = .ok (.iaload, 1) := by decide +kernel
theorem dX4_equal_133 : decode cX4_equal 133 = .ok (.iload 4, 2) := by decide +kernel
theorem dX4_equal_135 : decode cX4_equal 135 = .ok (.ifCond .eq 7, 3) := by decide +kernel
theorem dX4_equal_138 : decode cX4_equal 138 = .ok (.iconst 1, 1) := by decide +kernel
theorem dX4_equal_139 : decode cX4_equal 139 = .ok (.goto 4, 3) := by decide +kernel
theorem dX4_equal_142 : decode cX4_equal 142 = .ok (.iconst 0, 1) := by decide +kernel
theorem dX4_equal_143 : decode cX4_equal 143 = .ok (.iadd, 1) := by decide +kernel
theorem dX4_equal_144 : decode cX4_equal 144 = .ok (.iastore, 1) := by decide +kernel
theorem dX4_equal_145 : decode cX4_equal 145 = .ok (.aload_n 0, 1) := by decide +kernel
theorem dX4_equal_146 : decode cX4_equal 146 = .ok (.getfield 65, 3) := by decide +kernel
theorem dX4_equal_149 : decode cX4_equal 149 = .ok (.ifCond .ne 6, 3) := by decide +kernel
theorem dX4_equal_152 : decode cX4_equal 152 = .ok (.goto 66, 3) := by decide +kernel
theorem dX4_equal_155 : decode cX4_equal 155 = .ok (.iload_n 2, 1) := by decide +kernel
theorem dX4_equal_156 : decode cX4_equal 156 = .ok (.iconst 1, 1) := by decide +kernel
theorem dX4_equal_157 : decode cX4_equal 157 = .ok (.isub, 1) := by decide +kernel
theorem dX4_equal_158 : decode cX4_equal 158 = .ok (.aload_n 0, 1) := by decide +kernel
theorem dX4_equal_159 : decode cX4_equal 159 = .ok (.getfield 65, 3) := by decide +kernel
theorem dX4_equal_162 : decode cX4_equal 162 = .ok (.irem, 1) := by decide +kernel
theorem dX4_equal_163 : decode cX4_equal 163 = .ok (.istore 7, 2) := by decide +kernel
theorem dX4_equal_165 : decode cX4_equal 165 = .ok (.aload_n 0, 1) := by decide +kernel
theorem dX4_equal_166 : decode cX4_equal 166 = .ok (.getfield 16, 3) := by decide +kernel
theorem dX4_equal_169 : decode cX4_equal 169 = .ok (.iload 7, 2) := by decide +kernel
theorem dX4_equal_171 : decode cX4_equal 171 = .ok (.dup2, 1) := by decide +kernel
theorem dX4_equal_172 : decode cX4_equal 172 = .ok (.laload, 1) := by decide +kernel
theorem dX4_equal_173 : decode cX4_equal 173 = .ok (.iload 4, 2) := by decide +kernel
theorem dX4_equal_175 : decode cX4_equal 175 = .ok (.ifCond .eq 11, 3) := by decide +kernel
theorem dX4_equal_178 : decode cX4_equal 178 = .ok (.iload_n 2, 1) := by decide +kernel
theorem dX4_equal_179 : decode cX4_equal 179 = .ok (.i2l, 1) := by decide +kernel
theorem dX4_equal_180 : decode cX4_equal 180 = .ok (.lload 5, 2) := by decide +kernel
theorem dX4_equal_182 : decode cX4_equal 182 = .ok (.lmul, 1) := by decide +kernel
theorem dX4_equal_183 : decode cX4_equal 183 = .ok (.goto 4, 3) := by decide +kernel
theorem dX4_equal_186 : decode cX4_equal 186 = .ok (.lconst 0, 1) := by decide +kernel
theorem dX4_equal_187 : decode cX4_equal 187 = .ok (.ladd, 1) := by decide +kernel
theorem dX4_equal_188 : decode cX4_equal 188 = .ok (.lastore, 1) := by decide +kernel
theorem dX4_equal_189 : decode cX4_equal 189 = .ok (.iload_n 1, 1) := by decide +kernel
theorem dX4_equal_190 : decode cX4_equal 190 = .ok (.ifCond .eq 26, 3) := by decide +kernel
theorem dX4_equal_193 : decode cX4_equal 193 = .ok (.aload_n 0, 1) := by decide +kernel
theorem dX4_equal_194 : decode cX4_equal 194 = .ok (.getfield 29, 3) := by decide +kernel
theorem dX4_equal_197 : decode cX4_equal 197 = .ok (.iload_n 2, 1) := by decide +kernel
theorem dX4_equal_198 : decode cX4_equal 198 = .ok (.iconst 1, 1) := by decide +kernel
theorem dX4_equal_199 : decode cX4_equal 199 = .ok (.isub, 1) := by decide +kernel
theorem dX4_equal_200 : decode cX4_equal 200 = .ok (.laload, 1) := by decide +kernel
theorem dX4_equal_201 : decode cX4_equal 201 = .ok (.aload_n 0, 1) := by decide +kernel
theorem dX4_equal_202 : decode cX4_equal 202 = .ok (.getfield 16, 3) := by decide +kernel
theorem dX4_equal_205 : decode cX4_equal 205 = .ok (.iload 7, 2) := by decide +kernel
theorem dX4_equal_207 : decode cX4_equal 207 = .ok (.laload, 1) := by decide +kernel
theorem dX4_equal_208 : decode cX4_equal 208 = .ok (.lcmp, 1) := by decide +kernel
theorem dX4_equal_209 : decode cX4_equal 209 = .ok (.ifCond .ne 7, 3) := by decide +kernel
theorem dX4_equal_212 : decode cX4_equal 212 = .ok (.iconst 1, 1) := by decide +kernel
theorem dX4_equal_213 : decode cX4_equal 213 = .ok (.goto 4, 3) := by decide +kernel
theorem dX4_equal_216 : decode cX4_equal 216 = .ok (.iconst 0, 1) := by decide +kernel
theorem dX4_equal_217 : decode cX4_equal 217 = .ok (.istore_n 1, 1) := by decide +kernel
theorem dX4_equal_218 : decode cX4_equal 218 = .ok (.iinc 2 1, 3) := by decide +kernel
theorem dX4_equal_221 : decode cX4_equal 221 = .ok (.goto (-161), 3) := by decide +kernel
theorem dX4_equal_224 : decode cX4_equal 224 = .ok (.iconst 0, 1) := by decide +kernel
theorem dX4_equal_225 : decode cX4_equal 225 = .ok (.istore_n 2, 1) := by decide +kernel
theorem dX4_equal_226 : decode cX4_equal 226 = .ok (.iload_n 2, 1) := by decide +kernel
theorem dX4_equal_227 : decode cX4_equal 227 = .ok (.aload_n 0, 1) := by decide +kernel
theorem dX4_equal_228 : decode cX4_equal 228 = .ok (.getfield 65, 3) := by decide +kernel
theorem dX4_equal_231 : decode cX4_equal 231 = .ok (.if_icmp .ge 35, 3) := by decide +kernel
theorem dX4_equal_234 : decode cX4_equal 234 = .ok (.iload_n 1, 1) := by decide +kernel
theorem dX4_equal_235 : decode cX4_equal 235 = .ok (.ifCond .eq 23, 3) := by decide +kernel
theorem dX4_equal_238 : decode cX4_equal 238 = .ok (.aload_n 0, 1) := by decide +kernel
theorem dX4_equal_239 : decode cX4_equal 239 = .ok (.getfield 7, 3) := by decide +kernel
theorem dX4_equal_242 : decode cX4_equal 242 = .ok (.iload_n 2, 1) := by decide +kernel
theorem dX4_equal_243 : decode cX4_equal 243 = .ok (.laload, 1) := by decide +kernel
theorem dX4_equal_244 : decode cX4_equal 244 = .ok (.aload_n 0, 1) := by decide +kernel
theorem dX4_equal_245 : decode cX4_equal 245 = .ok (.getfield 16, 3) := by decide +kernel
theorem dX4_equal_248 : decode cX4_equal 248 = .ok (.iload_n 2, 1) := by decide +kernel
theorem dX4_equal_249 : decode cX4_equal 249 = .ok (.laload, 1) := by decide +kernel
theorem dX4_equal_250 : decode cX4_equal 250 = .ok (.lcmp, 1) := by decide +kernel
theorem dX4_equal_251 : decode cX4_equal 251 = .ok (.ifCond .ne 7, 3) := by decide +kernel
theorem dX4_equal_254 : decode cX4_equal 254 = .ok (.iconst 1, 1) := by decide +kernel
theorem dX4_equal_255 : decode cX4_equal 255 = .ok (.goto 4, 3) := by decide +kernel
theorem dX4_equal_258 : decode cX4_equal 258 = .ok (.iconst 0, 1) := by decide +kernel
theorem dX4_equal_259 : decode cX4_equal 259 = .ok (.istore_n 1, 1) := by decide +kernel
theorem dX4_equal_260 : decode cX4_equal 260 = .ok (.iinc 2 1, 3) := by decide +kernel
theorem dX4_equal_263 : decode cX4_equal 263 = .ok (.goto (-37), 3) := by decide +kernel
theorem dX4_equal_266 : decode cX4_equal 266 = .ok (.iload_n 1, 1) := by decide +kernel
theorem dX4_equal_267 : decode cX4_equal 267 = .ok (.ireturn, 1) := by decide +kernel
set_option maxRecDepth 20000 in
theorem ggX4_count_X4_isEnded : GoodIn wsX4_count wsX4_isEnded := goodIn_r _ [12, 3, 13, 14, 15, 16, 17, 18, 19, 20, 21, 22, 23, 24, 25, 26, 27, 28, 29, 30, 31, 32, 33, 34, 35, 36, 37] (by decide +kernel) (by decide +kernel)
set_option maxRecDepth 20000 in
theorem gX4_count_X4_isEnded : GoodIn wsX4_count (wsV RX4 71 RX4 yX4_isEnded wsX4_isEnded) := goodIn_app (goodIn_of _ (by decide +kernel)) ggX4_count_X4_isEnded
theorem dX4_count_0 : decode cX4_count 0 = .ok (.aload_n 0, 1) := by decide +kernel
theorem dX4_count_1 : decode cX4_count 1 = .ok (.iconst 0, 1) := by decide +kernel
theorem dX4_count_2 : decode cX4_count 2 = .ok (.putfield 54, 3) := by decide +kernel
theorem dX4_count_5 : decode cX4_count 5 = .ok (.iload_n 1, 1) := by decide +kernel
theorem dX4_count_6 : decode cX4_count 6 = .ok (.tableswitch 93 0 6 #[42, 47, 52, 57, 62, 75, 88], 42) := by decide +kernel
theorem dX4_count_48 : decode cX4_count 48 = .ok (.aload_n 0, 1) := by decide +kernel
theorem dX4_count_49 : decode cX4_count 49 = .ok (.getfield 65, 3) := by decide +kernel
theorem dX4_count_52 : decode cX4_count 52 = .ok (.ireturn, 1) := by decide +kernel
theorem dX4_count_53 : decode cX4_count 53 = .ok (.aload_n 0, 1) := by decide +kernel
theorem dX4_count_54 : decode cX4_count 54 = .ok (.getfield 68, 3) := by decide +kernel
theorem dX4_count_57 : decode cX4_count 57 = .ok (.ireturn, 1) := by decide +kernel
theorem dX4_count_58 : decode cX4_count 58 = .ok (.aload_n 0, 1) := by decide +kernel
theorem dX4_count_59 : decode cX4_count 59 = .ok (.getfield 62, 3) := by decide +kernel
theorem dX4_count_62 : decode cX4_count 62 = .ok (.ireturn, 1) := by decide +kernel
theorem dX4_count_63 : decode cX4_count 63 = .ok (.aload_n 0, 1) := by decide +kernel
theorem dX4_count_64 : decode cX4_count 64 = .ok (.getfield 77, 3) := by decide +kernel
theorem dX4_count_67 : decode cX4_count 67 = .ok (.ireturn, 1) := by decide +kernel
theorem dX4_count_68 : decode cX4_count 68 = .ok (.aload_n 0, 1) := by decide +kernel
theorem dX4_count_69 : decode cX4_count 69 = .ok (.getfield 58, 3) := by decide +kernel
theorem dX4_count_72 : decode cX4_count 72 = .ok (.ifCond .eq 7, 3) := by decide +kernel
theorem dX4_count_75 : decode cX4_count 75 = .ok (.iconst 1, 1) := by decide +kernel
theorem dX4_count_76 : decode cX4_count 76 = .ok (.goto 4, 3) := by decide +kernel
theorem dX4_count_79 : decode cX4_count 79 = .ok (.iconst 0, 1) := by decide +kernel
theorem dX4_count_80 : decode cX4_count 80 = .ok (.ireturn, 1) := by decide +kernel
theorem dX4_count_81 : decode cX4_count 81 = .ok (.aload_n 0, 1) := by decide +kernel
theorem dX4_count_82 : decode cX4_count 82 = .ok (.invokevirtual 71, 3) := by decide +kernel
theorem dX4_count_85 : decode cX4_count 85 = .ok (.ifCond .eq 7, 3) := by decide +kernel
theorem dX4_count_88 : decode cX4_count 88 = .ok (.iconst 1, 1) := by decide +kernel
theorem dX4_count_89 : decode cX4_count 89 = .ok (.goto 4, 3) := by decide +kernel
theorem dX4_count_92 : decode cX4_count 92 = .ok (.iconst 0, 1) := by decide +kernel
theorem dX4_count_93 : decode cX4_count 93 = .ok (.ireturn, 1) := by decide +kernel
theorem dX4_count_94 : decode cX4_count 94 = .ok (.aload_n 0, 1) := by decide +kernel
theorem dX4_count_95 : decode cX4_count 95 = .ok (.getfield 83, 3) := by decide +kernel
theorem dX4_count_98 : decode cX4_count 98 = .ok (.ireturn, 1) := by decide +kernel
theorem dX4_count_99 : decode cX4_count 99 = .ok (.iconst (-1), 1) := by decide +kernel
theorem dX4_count_100 : decode cX4_count 100 = .ok (.ireturn, 1) := by decide +kernel
theorem dJx00060_init_a7421_0 : decode cJx00060_init_a7421 0 = .ok (.aload_n 0, 1) := by decide +kernel
theorem dJx00060_init_a7421_1 : decode cJx00060_init_a7421 1 = .ok (.aload_n 1, 1) := by decide +kernel
theorem dJx00060_init_a7421_2 : decode cJx00060_init_a7421 2 = .ok (.invokespecial 7, 3) := by decide +kernel
theorem dJx00060_init_a7421_5 : decode cJx00060_init_a7421 5 = .ok (.return_, 1) := by decide +kernel
set_option maxRecDepth 20000 in
theorem ggL_get_X3_get : GoodIn wsL_get wsX3_get := goodIn_ca (goodIn_r _ [6, 7, 8, 9, 10, 11, 12, 13, 14, 15, 16, 17, 18, 19, 20, 21, 22, 23, 24, 25, 26, 27, 28, 29] (by decide +kernel) (by decide +kernel)) (goodIn_sub (fun _ h => List.mem_cons_of_mem _ (List.mem_append_right _ h)) (by decide +kernel))
set_option maxRecDepth 20000 in
theorem gL_get_X3_get : GoodIn wsL_get (wsV RL 7 RX3 yX3_get wsX3_get) := goodIn_app (goodIn_of _ (by decide +kernel)) ggL_get_X3_get
end
section
theorem dL_get_0 : decode cL_get 0 = .ok (.aload_n 2, 1) := by decide +kernel
theorem dL_get_1 : decode cL_get 1 = .ok (.iconst 0, 1) := by decide +kernel
theorem dL_get_2 : decode cL_get 2 = .ok (.aload_n 0, 1) := by decide +kernel
theorem dL_get_3 : decode cL_get 3 = .ok (.iload_n 1, 1) := by decide +kernel
theorem dL_get_4 : decode cL_get 4 = .ok (.invokevirtual 7, 3) := by decide +kernel
theorem dL_get_7 : decode cL_get 7 = .ok (.lastore, 1) := by decide +kernel
theorem dL_get_8 : decode cL_get 8 = .ok (.goto 6, 3) := by decide +kernel
theorem dL_get_11 : decode cL_get 11 = .ok (.astore_n 3, 1) := by decide +kernel
theorem dL_get_12 : decode cL_get 12 = .ok (.iconst 1, 1) := by decide +kernel
theorem dL_get_13 : decode cL_get 13 = .ok (.ireturn, 1) := by decide +kernel
theorem dL_get_14 : decode cL_get 14 = .ok (.iconst 0, 1) := by decide +kernel
theorem dL_get_15 : decode cL_get 15 = .ok (.ireturn, 1) := by decide +kernel
set_option maxRecDepth 20000 in
theorem ggL_row_X3_row : GoodIn wsL_row wsX3_row := goodIn_r _ [5, 6, 7, 8, 9, 10, 11, 12, 4, 13, 14, 15, 16, 17, 18, 19, 20, 21, 22, 23, 24, 25, 26, 27, 28, 29, 30, 31, 32, 33, 34] (by decide +kernel) (by decide +kernel)
set_option maxRecDepth 20000 in
theorem gL_row_X3_row : GoodIn wsL_row (wsV RL 15 RX3 yX3_row wsX3_row) := goodIn_app (goodIn_of _ (by decide +kernel)) ggL_row_X3_row
theorem dL_row_0 : decode cL_row 0 = .ok (.aload_n 2, 1) := by decide +kernel
theorem dL_row_1 : decode cL_row 1 = .ok (.iconst 0, 1) := by decide +kernel
theorem dL_row_2 : decode cL_row 2 = .ok (.aload_n 0, 1) := by decide +kernel
theorem dL_row_3 : decode cL_row 3 = .ok (.iload_n 1, 1) := by decide +kernel
theorem dL_row_4 : decode cL_row 4 = .ok (.invokevirtual 15, 3) := by decide +kernel
theorem dL_row_7 : decode cL_row 7 = .ok (.i2l, 1) := by decide +kernel
theorem dL_row_8 : decode cL_row 8 = .ok (.lastore, 1) := by decide +kernel
theorem dL_row_9 : decode cL_row 9 = .ok (.goto 6, 3) := by decide +kernel
theorem dL_row_12 : decode cL_row 12 = .ok (.astore_n 3, 1) := by decide +kernel
theorem dL_row_13 : decode cL_row 13 = .ok (.iconst 1, 1) := by decide +kernel
theorem dL_row_14 : decode cL_row 14 = .ok (.ireturn, 1) := by decide +kernel
theorem dL_row_15 : decode cL_row 15 = .ok (.iconst 0, 1) := by decide +kernel
theorem dL_row_16 : decode cL_row 16 = .ok (.ireturn, 1) := by decide +kernel
set_option maxRecDepth 20000 in
theorem ggL_law_X3_init : GoodIn wsL_law wsX3_init := goodIn_r _ [10, 11, 12, 13, 14, 15, 16, 17, 18, 19, 20, 21, 22, 6, 23, 24, 25, 26, 27, 28, 29, 30, 31, 32, 33, 34, 35, 36, 37, 38, 39, 40, 41, 42, 43, 44, 45, 46, 47, 48, 49, 50, 51, 52, 53, 54, 55, 56, 57, 58, 357, 358, 359, 360, 325, 326, 327, 328, 329, 330, 331, 332, 333, 361, 362, 363, 364, 365, 366, 367, 368, 369, 370, 371] (by decide +kernel) (by decide +kernel)
set_option maxRecDepth 20000 in
theorem gL_law_X3_init : GoodIn wsL_law (wsX3_init) := ggL_law_X3_init
set_option maxRecDepth 20000 in
theorem ggL_law_X4_init : GoodIn wsL_law wsX4_init := goodIn_r _ [61, 62, 12, 13, 6, 63, 64, 65, 36, 66, 67, 68, 69, 70, 71, 72, 73, 74, 75, 51, 76, 334, 335, 336, 337, 338, 339, 340, 341, 342, 343, 344, 345, 346, 347, 348, 349, 350, 351, 352, 353, 354, 355, 356] (by decide +kernel) (by decide +kernel)
set_option maxRecDepth 20000 in
theorem gL_law_X4_init : GoodIn wsL_law (wsX4_init) := ggL_law_X4_init
set_option maxRecDepth 20000 in
theorem ggL_law_X3_cell : GoodIn wsL_law wsX3_cell := goodIn_r _ [80, 17, 81, 82, 21, 83, 84, 85, 86, 2, 87, 29, 88, 325, 326, 327, 328, 329, 330, 331, 332, 333, 357, 358, 359, 360, 361, 362, 363, 364] (by decide +kernel) (by decide +kernel)
set_option maxRecDepth 20000 in
theorem gL_law_X3_cell : GoodIn wsL_law (wsV RL 27 RX3 yX3_cell wsX3_cell) := goodIn_app (goodIn_of _ (by decide +kernel)) ggL_law_X3_cell
set_option maxRecDepth 20000 in
theorem ggL_law_X4_cell : GoodIn wsL_law wsX4_cell := goodIn_r _ [92, 93, 94, 95, 96, 63, 64, 334, 335, 336, 337, 338, 339, 340, 341, 342, 343, 344, 345, 346, 347, 348, 349, 350, 351, 352, 353, 354, 355, 356] (by decide +kernel) (by decide +kernel)
set_option maxRecDepth 20000 in
theorem gL_law_X4_cell : GoodIn wsL_law (wsV RL 31 RX4 yX4_cell wsX4_cell) := goodIn_app (goodIn_of _ (by decide +kernel)) ggL_law_X4_cell
set_option maxRecDepth 20000 in
theorem ggL_law_X3_file : GoodIn wsL_law wsX3_file := goodIn_r _ [100, 17, 101, 102, 84, 85, 86, 2, 87, 29, 21, 88, 325, 326, 327, 328, 329, 330, 331, 332, 333, 357, 358, 359, 360, 361, 362, 363, 364] (by decide +kernel) (by decide +kernel)
set_option maxRecDepth 20000 in
theorem gL_law_X3_file : GoodIn wsL_law (wsV RL 32 RX3 yX3_file wsX3_file) := goodIn_app (goodIn_of _ (by decide +kernel)) ggL_law_X3_file
set_option maxRecDepth 20000 in
theorem ggL_law_X4_file : GoodIn wsL_law wsX4_file := goodIn_r _ [106, 93, 94, 95, 107, 66, 334, 335, 336, 337, 338, 339, 340, 341, 342, 343, 344, 345, 346, 347, 348, 349, 350, 351, 352, 353, 354, 355, 356] (by decide +kernel) (by decide +kernel)
set_option maxRecDepth 20000 in
theorem gL_law_X4_file : GoodIn wsL_law (wsV RL 35 RX4 yX4_file wsX4_file) := goodIn_app (goodIn_of _ (by decide +kernel)) ggL_law_X4_file
set_option maxRecDepth 20000 in
theorem ggL_law_X3_step : GoodIn wsL_law wsX3_step := goodIn_r _ [111, 29, 21, 88, 23, 112, 113, 114, 20, 115, 47, 116, 45, 117, 118, 119, 120, 121, 46, 122, 44, 123, 124, 125, 126, 127, 325, 326, 327, 328, 329, 330, 331, 332, 333, 361, 362, 363, 364, 357, 358, 359, 360] (by decide +kernel) (by decide +kernel)
set_option maxRecDepth 20000 in
theorem gL_law_X3_step : GoodIn wsL_law (wsV RL 36 RX3 yX3_step wsX3_step) := goodIn_app (goodIn_of _ (by decide +kernel)) ggL_law_X3_step
set_option maxRecDepth 20000 in
theorem ggL_law_X4_step : GoodIn wsL_law wsX4_step := goodIn_r _ [131, 93, 94, 95, 107, 67, 66, 132, 69, 96, 63, 133, 134, 135, 5, 136, 334, 335, 336, 337, 338, 339, 340, 341, 342, 343, 344, 345, 346, 347, 348, 349, 350, 351, 352, 353, 354, 355, 356] (by decide +kernel) (by decide +kernel)
set_option maxRecDepth 20000 in
theorem gL_law_X4_step : GoodIn wsL_law (wsV RL 39 RX4 yX4_step wsX4_step) := goodIn_app (goodIn_of _ (by decide +kernel)) ggL_law_X4_step
set_option maxRecDepth 20000 in
theorem ggL_law_X3_check : GoodIn wsL_law wsX3_check := goodIn_r _ [140, 29, 27, 141, 17, 81, 101, 30, 21, 28, 142, 143, 144, 26, 145, 58, 52, 146, 147, 148, 2, 149, 31, 150, 151, 152, 153, 53, 54, 154, 55, 155, 156, 157, 56, 158, 159, 160, 161, 162, 57, 325, 326, 327, 328, 329, 330, 331, 332, 333, 365, 366, 367, 368, 369, 370, 371, 357, 358, 359, 360, 361, 362, 363, 364] (by decide +kernel) (by decide +kernel)
set_option maxRecDepth 20000 in
theorem gL_law_X3_check : GoodIn wsL_law (wsV RL 40 RX3 yX3_check wsX3_check) := goodIn_app (goodIn_of _ (by decide +kernel)) ggL_law_X3_check
set_option maxRecDepth 20000 in
theorem ggL_law_X4_check : GoodIn wsL_law wsX4_check := goodIn_r _ [166, 93, 94, 167, 96, 107, 168, 169, 70, 63, 71, 67, 72, 73, 74, 95, 75, 170, 76, 334, 335, 336, 337, 338, 339, 340, 341, 342, 343, 344, 345, 346, 347, 348, 349, 350, 351, 352, 353, 354, 355, 356] (by decide +kernel) (by decide +kernel)
set_option maxRecDepth 20000 in
theorem gL_law_X4_check : GoodIn wsL_law (wsV RL 44 RX4 yX4_check wsX4_check) := goodIn_app (goodIn_of _ (by decide +kernel)) ggL_law_X4_check
set_option maxRecDepth 20000 in
theorem ggL_law_X3_cut : GoodIn wsL_law wsX3_cut := goodIn_r _ [174, 30, 146, 147, 148, 2, 149, 29, 31, 325, 326, 327, 328, 329, 330, 331, 332, 333] (by decide +kernel) (by decide +kernel)
set_option maxRecDepth 20000 in
theorem gL_law_X3_cut : GoodIn wsL_law (wsV RL 45 RX3 yX3_cut wsX3_cut) := goodIn_app (goodIn_of _ (by decide +kernel)) ggL_law_X3_cut
set_option maxRecDepth 20000 in
theorem ggL_law_X4_cut : GoodIn wsL_law wsX4_cut := goodIn_r _ [178, 93, 169, 94, 168, 334, 335, 336, 337, 338, 339, 340, 341, 342, 343, 344, 345, 346, 347, 348, 349, 350, 351, 352, 353, 354, 355, 356] (by decide +kernel) (by decide +kernel)
set_option maxRecDepth 20000 in
theorem gL_law_X4_cut : GoodIn wsL_law (wsV RL 48 RX4 yX4_cut wsX4_cut) := goodIn_app (goodIn_of _ (by decide +kernel)) ggL_law_X4_cut
set_option maxRecDepth 20000 in
theorem ggL_law_X3_restart : GoodIn wsL_law wsX3_restart := goodIn_r _ [182, 29, 27, 183, 28, 17, 21, 141, 184, 185, 186, 26, 187, 52, 188, 189, 190, 191, 58, 192, 193, 194, 195, 196, 197, 57, 198, 199, 200, 201, 56, 157, 55, 158, 159, 160, 161, 162, 54, 154, 202, 203, 204, 20, 205, 47, 122, 44, 206, 45, 46, 325, 326, 327, 328, 329, 330, 331, 332, 333, 365, 366, 367, 368, 369, 370, 371, 357, 358, 359, 360, 361, 362, 363, 364] (by decide +kernel) (by decide +kernel)
set_option maxRecDepth 20000 in
theorem gL_law_X3_restart : GoodIn wsL_law (wsV RL 49 RX3 yX3_restart wsX3_restart) := goodIn_app (goodIn_of _ (by decide +kernel)) ggL_law_X3_restart
set_option maxRecDepth 20000 in
theorem ggL_law_X4_restart : GoodIn wsL_law wsX4_restart := goodIn_r _ [210, 93, 94, 167, 76, 75, 170, 73, 66, 71, 96, 63, 72, 70, 64, 107, 67, 74, 95, 334, 335, 336, 337, 338, 339, 340, 341, 342, 343, 344, 345, 346, 347, 348, 349, 350, 351, 352, 353, 354, 355, 356] (by decide +kernel) (by decide +kernel)
set_option maxRecDepth 20000 in
theorem gL_law_X4_restart : GoodIn wsL_law (wsV RL 52 RX4 yX4_restart wsX4_restart) := goodIn_app (goodIn_of _ (by decide +kernel)) ggL_law_X4_restart
set_option maxRecDepth 20000 in
theorem ggL_law_L_get : GoodIn wsL_law wsL_get := goodIn_ca (goodIn_r _ [214, 215, 216, 217, 218, 2, 219, 220, 221, 17, 81, 21, 83, 325, 326, 327, 328, 329, 330, 331, 332, 333, 357, 358, 359, 360, 361, 362, 363, 364] (by decide +kernel) (by decide +kernel)) (goodIn_sub (fun _ h => List.mem_append_right _ h) (by decide +kernel))
set_option maxRecDepth 20000 in
theorem gL_law_L_get : GoodIn wsL_law (va_wsS RL 53 yL_get wsL_get) := goodIn_app (goodIn_of _ (by decide +kernel)) ggL_law_L_get
set_option maxRecDepth 20000 in
theorem ggL_law_X4_get : GoodIn wsL_law wsX4_get := goodIn_r _ [225, 96, 93, 63, 334, 335, 336, 337, 338, 339, 340, 341, 342, 343, 344, 345, 346, 347, 348, 349, 350, 351, 352, 353, 354, 355, 356] (by decide +kernel) (by decide +kernel)
set_option maxRecDepth 20000 in
theorem gL_law_X4_get : GoodIn wsL_law (wsV RL 58 RX4 yX4_get wsX4_get) := goodIn_app (goodIn_of _ (by decide +kernel)) ggL_law_X4_get
set_option maxRecDepth 20000 in
theorem ggL_law_X4_thrown : GoodIn wsL_law wsX4_thrown := goodIn_r _ [229, 93, 334, 335, 336, 337, 338, 339, 340, 341, 342, 343, 344, 345, 346, 347, 348, 349, 350, 351, 352, 353, 354, 355, 356] (by decide +kernel) (by decide +kernel)
set_option maxRecDepth 20000 in
theorem gL_law_X4_thrown : GoodIn wsL_law (wsV RL 59 RX4 yX4_thrown wsX4_thrown) := goodIn_app (goodIn_of _ (by decide +kernel)) ggL_law_X4_thrown
set_option maxRecDepth 20000 in
theorem ggL_law_X3_position : GoodIn wsL_law wsX3_position := goodIn_r _ [233, 17, 21, 234, 235, 236, 237, 16, 238, 39, 325, 326, 327, 328, 329, 330, 331, 332, 333, 361, 362, 363, 364, 357, 358, 359, 360] (by decide +kernel) (by decide +kernel)
set_option maxRecDepth 20000 in
theorem gL_law_X3_position : GoodIn wsL_law (wsV RL 62 RX3 yX3_position wsX3_position) := goodIn_app (goodIn_of _ (by decide +kernel)) ggL_law_X3_position
set_option maxRecDepth 20000 in
theorem ggL_law_X4_position : GoodIn wsL_law wsX4_position := goodIn_r _ [242, 93, 107, 67, 334, 335, 336, 337, 338, 339, 340, 341, 342, 343, 344, 345, 346, 347, 348, 349, 350, 351, 352, 353, 354, 355, 356] (by decide +kernel) (by decide +kernel)
set_option maxRecDepth 20000 in
theorem gL_law_X4_position : GoodIn wsL_law (wsV RL 65 RX4 yX4_position wsX4_position) := goodIn_app (goodIn_of _ (by decide +kernel)) ggL_law_X4_position
set_option maxRecDepth 20000 in
theorem ggL_law_X3_grow : GoodIn wsL_law wsX3_grow := goodIn_r _ [246, 17, 102, 247, 235, 236, 237, 16, 238, 39, 325, 326, 327, 328, 329, 330, 331, 332, 333, 357, 358, 359, 360] (by decide +kernel) (by decide +kernel)
set_option maxRecDepth 20000 in
theorem gL_law_X3_grow : GoodIn wsL_law (wsV RL 66 RX3 yX3_grow wsX3_grow) := goodIn_app (goodIn_of _ (by decide +kernel)) ggL_law_X3_grow
set_option maxRecDepth 20000 in
theorem ggL_law_X4_grow : GoodIn wsL_law wsX4_grow := goodIn_r _ [251, 93, 107, 66, 252, 334, 335, 336, 337, 338, 339, 340, 341, 342, 343, 344, 345, 346, 347, 348, 349, 350, 351, 352, 353, 354, 355, 356] (by decide +kernel) (by decide +kernel)
set_option maxRecDepth 20000 in
theorem gL_law_X4_grow : GoodIn wsL_law (wsV RL 70 RX4 yX4_grow wsX4_grow) := goodIn_app (goodIn_of _ (by decide +kernel)) ggL_law_X4_grow
set_option maxRecDepth 20000 in
theorem ggL_law_X3_edition : GoodIn wsL_law wsX3_edition := goodIn_r _ [256, 28, 325, 326, 327, 328, 329, 330, 331, 332, 333] (by decide +kernel) (by decide +kernel)
set_option maxRecDepth 20000 in
theorem gL_law_X3_edition : GoodIn wsL_law (wsV RL 71 RX3 yX3_edition wsX3_edition) := goodIn_app (goodIn_of _ (by decide +kernel)) ggL_law_X3_edition
set_option maxRecDepth 20000 in
theorem ggL_law_X4_edition : GoodIn wsL_law wsX4_edition := goodIn_r _ [260, 93, 170, 334, 335, 336, 337, 338, 339, 340, 341, 342, 343, 344, 345, 346, 347, 348, 349, 350, 351, 352, 353, 354, 355, 356] (by decide +kernel) (by decide +kernel)
set_option maxRecDepth 20000 in
theorem gL_law_X4_edition : GoodIn wsL_law (wsV RL 74 RX4 yX4_edition wsX4_edition) := goodIn_app (goodIn_of _ (by decide +kernel)) ggL_law_X4_edition
set_option maxRecDepth 20000 in
theorem ggL_law_X3_output : GoodIn wsL_law wsX3_output := goodIn_r _ [264, 23, 265, 266, 267, 2, 268, 21, 88, 325, 326, 327, 328, 329, 330, 331, 332, 333, 361, 362, 363, 364] (by decide +kernel) (by decide +kernel)
set_option maxRecDepth 20000 in
theorem gL_law_X3_output : GoodIn wsL_law (wsV RL 75 RX3 yX3_output wsX3_output) := goodIn_app (goodIn_of _ (by decide +kernel)) ggL_law_X3_output
set_option maxRecDepth 20000 in
theorem ggL_law_X4_output : GoodIn wsL_law wsX4_output := goodIn_r _ [272, 93, 95, 69, 334, 335, 336, 337, 338, 339, 340, 341, 342, 343, 344, 345, 346, 347, 348, 349, 350, 351, 352, 353, 354, 355, 356] (by decide +kernel) (by decide +kernel)
set_option maxRecDepth 20000 in
theorem gL_law_X4_output : GoodIn wsL_law (wsV RL 78 RX4 yX4_output wsX4_output) := goodIn_app (goodIn_of _ (by decide +kernel)) ggL_law_X4_output
set_option maxRecDepth 20000 in
theorem ggL_law_X3_torn : GoodIn wsL_law wsX3_torn := goodIn_r _ [276, 27, 277, 278, 189, 190, 26, 191, 58, 279, 280, 2, 281, 325, 326, 327, 328, 329, 330, 331, 332, 333, 365, 366, 367, 368, 369, 370, 371] (by decide +kernel) (by decide +kernel)
set_option maxRecDepth 20000 in
theorem gL_law_X3_torn : GoodIn wsL_law (wsV RL 79 RX3 yX3_torn wsX3_torn) := goodIn_app (goodIn_of _ (by decide +kernel)) ggL_law_X3_torn
set_option maxRecDepth 20000 in
theorem ggL_law_X4_torn : GoodIn wsL_law wsX4_torn := goodIn_r _ [285, 93, 167, 76, 334, 335, 336, 337, 338, 339, 340, 341, 342, 343, 344, 345, 346, 347, 348, 349, 350, 351, 352, 353, 354, 355, 356] (by decide +kernel) (by decide +kernel)
set_option maxRecDepth 20000 in
theorem gL_law_X4_torn : GoodIn wsL_law (wsV RL 82 RX4 yX4_torn wsX4_torn) := goodIn_app (goodIn_of _ (by decide +kernel)) ggL_law_X4_torn
set_option maxRecDepth 20000 in
theorem ggL_law_L_row : GoodIn wsL_law wsL_row := goodIn_r _ [288, 289, 290, 291, 2, 292, 293, 294, 295, 23, 265, 266, 267, 268, 21, 88, 372, 373, 374, 375, 376, 377, 325, 326, 327, 328, 329, 330, 331, 332, 333, 361, 362, 363, 364] (by decide +kernel) (by decide +kernel)
set_option maxRecDepth 20000 in
theorem gL_law_L_row : GoodIn wsL_law (va_wsS RL 83 yL_row wsL_row) := goodIn_app (goodIn_of _ (by decide +kernel)) ggL_law_L_row
set_option maxRecDepth 20000 in
theorem ggL_law_X4_row : GoodIn wsL_law wsX4_row := goodIn_r _ [299, 95, 93, 69, 334, 335, 336, 337, 338, 339, 340, 341, 342, 343, 344, 345, 346, 347, 348, 349, 350, 351, 352, 353, 354, 355, 356] (by decide +kernel) (by decide +kernel)
set_option maxRecDepth 20000 in
theorem gL_law_X4_row : GoodIn wsL_law (wsV RL 85 RX4 yX4_row wsX4_row) := goodIn_app (goodIn_of _ (by decide +kernel)) ggL_law_X4_row
set_option maxRecDepth 20000 in
theorem ggL_law_X3_equal : GoodIn wsL_law wsX3_equal := goodIn_r _ [303, 22, 21, 88, 23, 304, 203, 204, 20, 205, 47, 122, 44, 206, 45, 46, 112, 113, 114, 115, 116, 117, 118, 119, 120, 121, 123, 124, 125, 126, 127, 305, 306, 307, 308, 325, 326, 327, 328, 329, 330, 331, 332, 333, 361, 362, 363, 364, 357, 358, 359, 360] (by decide +kernel) (by decide +kernel)
set_option maxRecDepth 20000 in
theorem gL_law_X3_equal : GoodIn wsL_law (wsV RL 86 RX3 yX3_equal wsX3_equal) := goodIn_app (goodIn_of _ (by decide +kernel)) ggL_law_X3_equal
set_option maxRecDepth 20000 in
theorem ggL_law_X4_equal : GoodIn wsL_law wsX4_equal := goodIn_r _ [312, 93, 96, 65, 64, 107, 68, 95, 66, 132, 69, 63, 313, 314, 315, 5, 316, 334, 335, 336, 337, 338, 339, 340, 341, 342, 343, 344, 345, 346, 347, 348, 349, 350, 351, 352, 353, 354, 355, 356] (by decide +kernel) (by decide +kernel)
set_option maxRecDepth 20000 in
theorem gL_law_X4_equal : GoodIn wsL_law (wsV RL 90 RX4 yX4_equal wsX4_equal) := goodIn_app (goodIn_of _ (by decide +kernel)) ggL_law_X4_equal
set_option maxRecDepth 20000 in
theorem ggL_law_X3_count : GoodIn wsL_law wsX3_count := goodIn_r _ [320, 17, 81, 101, 21, 88, 27, 141, 29, 31, 279, 280, 2, 281, 112, 113, 114, 20, 115, 47, 116, 45, 117, 325, 326, 327, 328, 329, 330, 331, 332, 333, 357, 358, 359, 360, 361, 362, 363, 364, 365, 366, 367, 368, 369, 370, 371] (by decide +kernel) (by decide +kernel)
set_option maxRecDepth 20000 in
theorem gL_law_X3_count : GoodIn wsL_law (wsV RL 91 RX3 yX3_count wsX3_count) := goodIn_app (goodIn_of _ (by decide +kernel)) ggL_law_X3_count
set_option maxRecDepth 20000 in
theorem ggL_law_X4_count : GoodIn wsL_law wsX4_count := goodIn_r _ [324, 93, 96, 107, 95, 167, 94, 169, 133, 134, 135, 5, 136, 67, 66, 334, 335, 336, 337, 338, 339, 340, 341, 342, 343, 344, 345, 346, 347, 348, 349, 350, 351, 352, 353, 354, 355, 356] (by decide +kernel) (by decide +kernel)
set_option maxRecDepth 20000 in
theorem gL_law_X4_count : GoodIn wsL_law (wsV RL 94 RX4 yX4_count wsX4_count) := goodIn_app (goodIn_of _ (by decide +kernel)) ggL_law_X4_count
theorem dL_law_0 : decode cL_law 0 = .ok (.new 8, 3) := by decide +kernel
theorem dL_law_3 : decode cL_law 3 = .ok (.dup, 1) := by decide +kernel
theorem dL_law_4 : decode cL_law 4 = .ok (.invokespecial 21, 3) := by decide +kernel
theorem dL_law_7 : decode cL_law 7 = .ok (.astore_n 1, 1) := by decide +kernel
theorem dL_law_8 : decode cL_law 8 = .ok (.new 22, 3) := by decide +kernel
theorem dL_law_11 : decode cL_law 11 = .ok (.dup, 1) := by decide +kernel
theorem dL_law_12 : decode cL_law 12 = .ok (.invokespecial 24, 3) := by decide +kernel
theorem dL_law_15 : decode cL_law 15 = .ok (.astore_n 2, 1) := by decide +kernel
theorem dL_law_16 : decode cL_law 16 = .ok (.iconst 1, 1) := by decide +kernel
theorem dL_law_17 : decode cL_law 17 = .ok (.newarray .long, 2) := by decide +kernel
theorem dL_law_19 : decode cL_law 19 = .ok (.astore_n 3, 1) := by decide +kernel
theorem dL_law_20 : decode cL_law 20 = .ok (.iconst 0, 1) := by decide +kernel
theorem dL_law_21 : decode cL_law 21 = .ok (.istore 4, 2) := by decide +kernel
theorem dL_law_23 : decode cL_law 23 = .ok (.iload 4, 2) := by decide +kernel
theorem dL_law_25 : decode cL_law 25 = .ok (.aload_n 0, 1) := by decide +kernel
theorem dL_law_26 : decode cL_law 26 = .ok (.arraylength, 1) := by decide +kernel
theorem dL_law_27 : decode cL_law 27 = .ok (.iconst 3, 1) := by decide +kernel
theorem dL_law_28 : decode cL_law 28 = .ok (.isub, 1) := by decide +kernel
theorem dL_law_29 : decode cL_law 29 = .ok (.if_icmp .gt 545, 3) := by decide +kernel
theorem dL_law_32 : decode cL_law 32 = .ok (.aload_n 0, 1) := by decide +kernel
theorem dL_law_33 : decode cL_law 33 = .ok (.iload 4, 2) := by decide +kernel
theorem dL_law_35 : decode cL_law 35 = .ok (.iaload, 1) := by decide +kernel
theorem dL_law_36 : decode cL_law 36 = .ok (.bipush 15, 2) := by decide +kernel
theorem dL_law_38 : decode cL_law 38 = .ok (.iand, 1) := by decide +kernel
theorem dL_law_39 : decode cL_law 39 = .ok (.tableswitch 529 0 14 #[73, 130, 155, 180, 193, 218, 243, 298, 323, 360, 385, 410, 435, 491, 504], 73) := by decide +kernel
theorem dL_law_112 : decode cL_law 112 = .ok (.aload_n 1, 1) := by decide +kernel
theorem dL_law_113 : decode cL_law 113 = .ok (.aload_n 0, 1) := by decide +kernel
theorem dL_law_114 : decode cL_law 114 = .ok (.iload 4, 2) := by decide +kernel
theorem dL_law_116 : decode cL_law 116 = .ok (.iconst 1, 1) := by decide +kernel
theorem dL_law_117 : decode cL_law 117 = .ok (.iadd, 1) := by decide +kernel
theorem dL_law_118 : decode cL_law 118 = .ok (.iaload, 1) := by decide +kernel
theorem dL_law_119 : decode cL_law 119 = .ok (.i2l, 1) := by decide +kernel
theorem dL_law_120 : decode cL_law 120 = .ok (.bipush 32, 2) := by decide +kernel
theorem dL_law_122 : decode cL_law 122 = .ok (.lshl, 1) := by decide +kernel
theorem dL_law_123 : decode cL_law 123 = .ok (.aload_n 0, 1) := by decide +kernel
theorem dL_law_124 : decode cL_law 124 = .ok (.iload 4, 2) := by decide +kernel
theorem dL_law_126 : decode cL_law 126 = .ok (.iconst 2, 1) := by decide +kernel
theorem dL_law_127 : decode cL_law 127 = .ok (.iadd, 1) := by decide +kernel
theorem dL_law_128 : decode cL_law 128 = .ok (.iaload, 1) := by decide +kernel
theorem dL_law_129 : decode cL_law 129 = .ok (.i2l, 1) := by decide +kernel
theorem dL_law_130 : decode cL_law 130 = .ok (.ldc2_w 25, 3) := by decide +kernel
theorem dL_law_133 : decode cL_law 133 = .ok (.land, 1) := by decide +kernel
theorem dL_law_134 : decode cL_law 134 = .ok (.lor, 1) := by decide +kernel
theorem dL_law_135 : decode cL_law 135 = .ok (.invokevirtual 27, 3) := by decide +kernel
theorem dL_law_138 : decode cL_law 138 = .ok (.aload_n 2, 1) := by decide +kernel
theorem dL_law_139 : decode cL_law 139 = .ok (.aload_n 0, 1) := by decide +kernel
theorem dL_law_140 : decode cL_law 140 = .ok (.iload 4, 2) := by decide +kernel
theorem dL_law_142 : decode cL_law 142 = .ok (.iconst 1, 1) := by decide +kernel
theorem dL_law_143 : decode cL_law 143 = .ok (.iadd, 1) := by decide +kernel
theorem dL_law_144 : decode cL_law 144 = .ok (.iaload, 1) := by decide +kernel
theorem dL_law_145 : decode cL_law 145 = .ok (.i2l, 1) := by decide +kernel
theorem dL_law_146 : decode cL_law 146 = .ok (.bipush 32, 2) := by decide +kernel
theorem dL_law_148 : decode cL_law 148 = .ok (.lshl, 1) := by decide +kernel
theorem dL_law_149 : decode cL_law 149 = .ok (.aload_n 0, 1) := by decide +kernel
theorem dL_law_150 : decode cL_law 150 = .ok (.iload 4, 2) := by decide +kernel
theorem dL_law_152 : decode cL_law 152 = .ok (.iconst 2, 1) := by decide +kernel
theorem dL_law_153 : decode cL_law 153 = .ok (.iadd, 1) := by decide +kernel
theorem dL_law_154 : decode cL_law 154 = .ok (.iaload, 1) := by decide +kernel
theorem dL_law_155 : decode cL_law 155 = .ok (.i2l, 1) := by decide +kernel
theorem dL_law_156 : decode cL_law 156 = .ok (.ldc2_w 25, 3) := by decide +kernel
theorem dL_law_159 : decode cL_law 159 = .ok (.land, 1) := by decide +kernel
theorem dL_law_160 : decode cL_law 160 = .ok (.lor, 1) := by decide +kernel
theorem dL_law_161 : decode cL_law 161 = .ok (.invokevirtual 31, 3) := by decide +kernel
theorem dL_law_164 : decode cL_law 164 = .ok (.if_icmp .eq 404, 3) := by decide +kernel
theorem dL_law_167 : decode cL_law 167 = .ok (.iconst 0, 1) := by decide +kernel
theorem dL_law_168 : decode cL_law 168 = .ok (.ireturn, 1) := by decide +kernel
theorem dL_law_169 : decode cL_law 169 = .ok (.aload_n 1, 1) := by decide +kernel
theorem dL_law_170 : decode cL_law 170 = .ok (.aload_n 0, 1) := by decide +kernel
theorem dL_law_171 : decode cL_law 171 = .ok (.iload 4, 2) := by decide +kernel
theorem dL_law_173 : decode cL_law 173 = .ok (.iconst 1, 1) := by decide +kernel
theorem dL_law_174 : decode cL_law 174 = .ok (.iadd, 1) := by decide +kernel
theorem dL_law_175 : decode cL_law 175 = .ok (.iaload, 1) := by decide +kernel
theorem dL_law_176 : decode cL_law 176 = .ok (.invokevirtual 32, 3) := by decide +kernel
theorem dL_law_179 : decode cL_law 179 = .ok (.aload_n 2, 1) := by decide +kernel
theorem dL_law_180 : decode cL_law 180 = .ok (.aload_n 0, 1) := by decide +kernel
theorem dL_law_181 : decode cL_law 181 = .ok (.iload 4, 2) := by decide +kernel
theorem dL_law_183 : decode cL_law 183 = .ok (.iconst 1, 1) := by decide +kernel
theorem dL_law_184 : decode cL_law 184 = .ok (.iadd, 1) := by decide +kernel
theorem dL_law_185 : decode cL_law 185 = .ok (.iaload, 1) := by decide +kernel
theorem dL_law_186 : decode cL_law 186 = .ok (.invokevirtual 35, 3) := by decide +kernel
theorem dL_law_189 : decode cL_law 189 = .ok (.if_icmp .eq 379, 3) := by decide +kernel
theorem dL_law_192 : decode cL_law 192 = .ok (.iconst 0, 1) := by decide +kernel
theorem dL_law_193 : decode cL_law 193 = .ok (.ireturn, 1) := by decide +kernel
theorem dL_law_194 : decode cL_law 194 = .ok (.aload_n 1, 1) := by decide +kernel
theorem dL_law_195 : decode cL_law 195 = .ok (.aload_n 0, 1) := by decide +kernel
theorem dL_law_196 : decode cL_law 196 = .ok (.iload 4, 2) := by decide +kernel
theorem dL_law_198 : decode cL_law 198 = .ok (.iconst 1, 1) := by decide +kernel
theorem dL_law_199 : decode cL_law 199 = .ok (.iadd, 1) := by decide +kernel
theorem dL_law_200 : decode cL_law 200 = .ok (.iaload, 1) := by decide +kernel
theorem dL_law_201 : decode cL_law 201 = .ok (.invokevirtual 36, 3) := by decide +kernel
theorem dL_law_204 : decode cL_law 204 = .ok (.aload_n 2, 1) := by decide +kernel
theorem dL_law_205 : decode cL_law 205 = .ok (.aload_n 0, 1) := by decide +kernel
theorem dL_law_206 : decode cL_law 206 = .ok (.iload 4, 2) := by decide +kernel
theorem dL_law_208 : decode cL_law 208 = .ok (.iconst 1, 1) := by decide +kernel
theorem dL_law_209 : decode cL_law 209 = .ok (.iadd, 1) := by decide +kernel
theorem dL_law_210 : decode cL_law 210 = .ok (.iaload, 1) := by decide +kernel
theorem dL_law_211 : decode cL_law 211 = .ok (.invokevirtual 39, 3) := by decide +kernel
theorem dL_law_214 : decode cL_law 214 = .ok (.if_icmp .eq 354, 3) := by decide +kernel
theorem dL_law_217 : decode cL_law 217 = .ok (.iconst 0, 1) := by decide +kernel
theorem dL_law_218 : decode cL_law 218 = .ok (.ireturn, 1) := by decide +kernel
theorem dL_law_219 : decode cL_law 219 = .ok (.aload_n 1, 1) := by decide +kernel
theorem dL_law_220 : decode cL_law 220 = .ok (.invokevirtual 40, 3) := by decide +kernel
theorem dL_law_223 : decode cL_law 223 = .ok (.aload_n 2, 1) := by decide +kernel
theorem dL_law_224 : decode cL_law 224 = .ok (.invokevirtual 44, 3) := by decide +kernel
theorem dL_law_227 : decode cL_law 227 = .ok (.if_icmp .eq 341, 3) := by decide +kernel
theorem dL_law_230 : decode cL_law 230 = .ok (.iconst 0, 1) := by decide +kernel
theorem dL_law_231 : decode cL_law 231 = .ok (.ireturn, 1) := by decide +kernel
theorem dL_law_232 : decode cL_law 232 = .ok (.aload_n 1, 1) := by decide +kernel
theorem dL_law_233 : decode cL_law 233 = .ok (.aload_n 0, 1) := by decide +kernel
theorem dL_law_234 : decode cL_law 234 = .ok (.iload 4, 2) := by decide +kernel
theorem dL_law_236 : decode cL_law 236 = .ok (.iconst 1, 1) := by decide +kernel
theorem dL_law_237 : decode cL_law 237 = .ok (.iadd, 1) := by decide +kernel
theorem dL_law_238 : decode cL_law 238 = .ok (.iaload, 1) := by decide +kernel
theorem dL_law_239 : decode cL_law 239 = .ok (.invokevirtual 45, 3) := by decide +kernel
theorem dL_law_242 : decode cL_law 242 = .ok (.aload_n 2, 1) := by decide +kernel
theorem dL_law_243 : decode cL_law 243 = .ok (.aload_n 0, 1) := by decide +kernel
theorem dL_law_244 : decode cL_law 244 = .ok (.iload 4, 2) := by decide +kernel
theorem dL_law_246 : decode cL_law 246 = .ok (.iconst 1, 1) := by decide +kernel
theorem dL_law_247 : decode cL_law 247 = .ok (.iadd, 1) := by decide +kernel
theorem dL_law_248 : decode cL_law 248 = .ok (.iaload, 1) := by decide +kernel
theorem dL_law_249 : decode cL_law 249 = .ok (.invokevirtual 48, 3) := by decide +kernel
theorem dL_law_252 : decode cL_law 252 = .ok (.if_icmp .eq 316, 3) := by decide +kernel
theorem dL_law_255 : decode cL_law 255 = .ok (.iconst 0, 1) := by decide +kernel
theorem dL_law_256 : decode cL_law 256 = .ok (.ireturn, 1) := by decide +kernel
theorem dL_law_257 : decode cL_law 257 = .ok (.aload_n 1, 1) := by decide +kernel
theorem dL_law_258 : decode cL_law 258 = .ok (.aload_n 0, 1) := by decide +kernel
theorem dL_law_259 : decode cL_law 259 = .ok (.iload 4, 2) := by decide +kernel
theorem dL_law_261 : decode cL_law 261 = .ok (.iconst 1, 1) := by decide +kernel
theorem dL_law_262 : decode cL_law 262 = .ok (.iadd, 1) := by decide +kernel
theorem dL_law_263 : decode cL_law 263 = .ok (.iaload, 1) := by decide +kernel
theorem dL_law_264 : decode cL_law 264 = .ok (.invokevirtual 49, 3) := by decide +kernel
theorem dL_law_267 : decode cL_law 267 = .ok (.aload_n 2, 1) := by decide +kernel
theorem dL_law_268 : decode cL_law 268 = .ok (.aload_n 0, 1) := by decide +kernel
theorem dL_law_269 : decode cL_law 269 = .ok (.iload 4, 2) := by decide +kernel
theorem dL_law_271 : decode cL_law 271 = .ok (.iconst 1, 1) := by decide +kernel
theorem dL_law_272 : decode cL_law 272 = .ok (.iadd, 1) := by decide +kernel
theorem dL_law_273 : decode cL_law 273 = .ok (.iaload, 1) := by decide +kernel
theorem dL_law_274 : decode cL_law 274 = .ok (.invokevirtual 52, 3) := by decide +kernel
theorem dL_law_277 : decode cL_law 277 = .ok (.if_icmp .eq 291, 3) := by decide +kernel
theorem dL_law_280 : decode cL_law 280 = .ok (.iconst 0, 1) := by decide +kernel
theorem dL_law_281 : decode cL_law 281 = .ok (.ireturn, 1) := by decide +kernel
theorem dL_law_282 : decode cL_law 282 = .ok (.aload_n 1, 1) := by decide +kernel
theorem dL_law_283 : decode cL_law 283 = .ok (.aload_n 0, 1) := by decide +kernel
theorem dL_law_284 : decode cL_law 284 = .ok (.iload 4, 2) := by decide +kernel
theorem dL_law_286 : decode cL_law 286 = .ok (.iconst 1, 1) := by decide +kernel
theorem dL_law_287 : decode cL_law 287 = .ok (.iadd, 1) := by decide +kernel
theorem dL_law_288 : decode cL_law 288 = .ok (.iaload, 1) := by decide +kernel
theorem dL_law_289 : decode cL_law 289 = .ok (.aload_n 3, 1) := by decide +kernel
theorem dL_law_290 : decode cL_law 290 = .ok (.invokestatic 53, 3) := by decide +kernel
theorem dL_law_293 : decode cL_law 293 = .ok (.istore 5, 2) := by decide +kernel
theorem dL_law_295 : decode cL_law 295 = .ok (.aload_n 2, 1) := by decide +kernel
theorem dL_law_296 : decode cL_law 296 = .ok (.aload_n 0, 1) := by decide +kernel
theorem dL_law_297 : decode cL_law 297 = .ok (.iload 4, 2) := by decide +kernel
theorem dL_law_299 : decode cL_law 299 = .ok (.iconst 1, 1) := by decide +kernel
theorem dL_law_300 : decode cL_law 300 = .ok (.iadd, 1) := by decide +kernel
theorem dL_law_301 : decode cL_law 301 = .ok (.iaload, 1) := by decide +kernel
theorem dL_law_302 : decode cL_law 302 = .ok (.invokevirtual 58, 3) := by decide +kernel
theorem dL_law_305 : decode cL_law 305 = .ok (.lstore 6, 2) := by decide +kernel
theorem dL_law_307 : decode cL_law 307 = .ok (.aload_n 2, 1) := by decide +kernel
theorem dL_law_308 : decode cL_law 308 = .ok (.invokevirtual 59, 3) := by decide +kernel
theorem dL_law_311 : decode cL_law 311 = .ok (.iload 5, 2) := by decide +kernel
theorem dL_law_313 : decode cL_law 313 = .ok (.if_icmp .eq 5, 3) := by decide +kernel
theorem dL_law_316 : decode cL_law 316 = .ok (.iconst 0, 1) := by decide +kernel
theorem dL_law_317 : decode cL_law 317 = .ok (.ireturn, 1) := by decide +kernel
theorem dL_law_318 : decode cL_law 318 = .ok (.iload 5, 2) := by decide +kernel
theorem dL_law_320 : decode cL_law 320 = .ok (.ifCond .ne 14, 3) := by decide +kernel
theorem dL_law_323 : decode cL_law 323 = .ok (.aload_n 3, 1) := by decide +kernel
theorem dL_law_324 : decode cL_law 324 = .ok (.iconst 0, 1) := by decide +kernel
theorem dL_law_325 : decode cL_law 325 = .ok (.laload, 1) := by decide +kernel
theorem dL_law_326 : decode cL_law 326 = .ok (.lload 6, 2) := by decide +kernel
theorem dL_law_328 : decode cL_law 328 = .ok (.lcmp, 1) := by decide +kernel
theorem dL_law_329 : decode cL_law 329 = .ok (.ifCond .eq 5, 3) := by decide +kernel
theorem dL_law_332 : decode cL_law 332 = .ok (.iconst 0, 1) := by decide +kernel
theorem dL_law_333 : decode cL_law 333 = .ok (.ireturn, 1) := by decide +kernel
theorem dL_law_334 : decode cL_law 334 = .ok (.goto 234, 3) := by decide +kernel
theorem dL_law_337 : decode cL_law 337 = .ok (.aload_n 1, 1) := by decide +kernel
theorem dL_law_338 : decode cL_law 338 = .ok (.aload_n 0, 1) := by decide +kernel
theorem dL_law_339 : decode cL_law 339 = .ok (.iload 4, 2) := by decide +kernel
theorem dL_law_341 : decode cL_law 341 = .ok (.iconst 1, 1) := by decide +kernel
theorem dL_law_342 : decode cL_law 342 = .ok (.iadd, 1) := by decide +kernel
theorem dL_law_343 : decode cL_law 343 = .ok (.iaload, 1) := by decide +kernel
theorem dL_law_344 : decode cL_law 344 = .ok (.invokevirtual 62, 3) := by decide +kernel
theorem dL_law_347 : decode cL_law 347 = .ok (.aload_n 2, 1) := by decide +kernel
theorem dL_law_348 : decode cL_law 348 = .ok (.aload_n 0, 1) := by decide +kernel
theorem dL_law_349 : decode cL_law 349 = .ok (.iload 4, 2) := by decide +kernel
theorem dL_law_351 : decode cL_law 351 = .ok (.iconst 1, 1) := by decide +kernel
theorem dL_law_352 : decode cL_law 352 = .ok (.iadd, 1) := by decide +kernel
theorem dL_law_353 : decode cL_law 353 = .ok (.iaload, 1) := by decide +kernel
theorem dL_law_354 : decode cL_law 354 = .ok (.invokevirtual 65, 3) := by decide +kernel
theorem dL_law_357 : decode cL_law 357 = .ok (.if_icmp .eq 211, 3) := by decide +kernel
theorem dL_law_360 : decode cL_law 360 = .ok (.iconst 0, 1) := by decide +kernel
theorem dL_law_361 : decode cL_law 361 = .ok (.ireturn, 1) := by decide +kernel
theorem dL_law_362 : decode cL_law 362 = .ok (.aload_n 1, 1) := by decide +kernel
theorem dL_law_363 : decode cL_law 363 = .ok (.aload_n 0, 1) := by decide +kernel
theorem dL_law_364 : decode cL_law 364 = .ok (.iload 4, 2) := by decide +kernel
theorem dL_law_366 : decode cL_law 366 = .ok (.iconst 1, 1) := by decide +kernel
theorem dL_law_367 : decode cL_law 367 = .ok (.iadd, 1) := by decide +kernel
theorem dL_law_368 : decode cL_law 368 = .ok (.iaload, 1) := by decide +kernel
theorem dL_law_369 : decode cL_law 369 = .ok (.aload_n 0, 1) := by decide +kernel
theorem dL_law_370 : decode cL_law 370 = .ok (.iload 4, 2) := by decide +kernel
theorem dL_law_372 : decode cL_law 372 = .ok (.iconst 2, 1) := by decide +kernel
theorem dL_law_373 : decode cL_law 373 = .ok (.iadd, 1) := by decide +kernel
theorem dL_law_374 : decode cL_law 374 = .ok (.iaload, 1) := by decide +kernel
theorem dL_law_375 : decode cL_law 375 = .ok (.invokevirtual 66, 3) := by decide +kernel
theorem dL_law_378 : decode cL_law 378 = .ok (.aload_n 2, 1) := by decide +kernel
theorem dL_law_379 : decode cL_law 379 = .ok (.aload_n 0, 1) := by decide +kernel
theorem dL_law_380 : decode cL_law 380 = .ok (.iload 4, 2) := by decide +kernel
theorem dL_law_382 : decode cL_law 382 = .ok (.iconst 1, 1) := by decide +kernel
theorem dL_law_383 : decode cL_law 383 = .ok (.iadd, 1) := by decide +kernel
theorem dL_law_384 : decode cL_law 384 = .ok (.iaload, 1) := by decide +kernel
theorem dL_law_385 : decode cL_law 385 = .ok (.aload_n 0, 1) := by decide +kernel
theorem dL_law_386 : decode cL_law 386 = .ok (.iload 4, 2) := by decide +kernel
theorem dL_law_388 : decode cL_law 388 = .ok (.iconst 2, 1) := by decide +kernel
theorem dL_law_389 : decode cL_law 389 = .ok (.iadd, 1) := by decide +kernel
theorem dL_law_390 : decode cL_law 390 = .ok (.iaload, 1) := by decide +kernel
theorem dL_law_391 : decode cL_law 391 = .ok (.invokevirtual 70, 3) := by decide +kernel
theorem dL_law_394 : decode cL_law 394 = .ok (.if_icmp .eq 174, 3) := by decide +kernel
theorem dL_law_397 : decode cL_law 397 = .ok (.iconst 0, 1) := by decide +kernel
theorem dL_law_398 : decode cL_law 398 = .ok (.ireturn, 1) := by decide +kernel
theorem dL_law_399 : decode cL_law 399 = .ok (.aload_n 1, 1) := by decide +kernel
theorem dL_law_400 : decode cL_law 400 = .ok (.aload_n 0, 1) := by decide +kernel
theorem dL_law_401 : decode cL_law 401 = .ok (.iload 4, 2) := by decide +kernel
theorem dL_law_403 : decode cL_law 403 = .ok (.iconst 1, 1) := by decide +kernel
theorem dL_law_404 : decode cL_law 404 = .ok (.iadd, 1) := by decide +kernel
theorem dL_law_405 : decode cL_law 405 = .ok (.iaload, 1) := by decide +kernel
theorem dL_law_406 : decode cL_law 406 = .ok (.invokevirtual 71, 3) := by decide +kernel
theorem dL_law_409 : decode cL_law 409 = .ok (.aload_n 2, 1) := by decide +kernel
theorem dL_law_410 : decode cL_law 410 = .ok (.aload_n 0, 1) := by decide +kernel
theorem dL_law_411 : decode cL_law 411 = .ok (.iload 4, 2) := by decide +kernel
theorem dL_law_413 : decode cL_law 413 = .ok (.iconst 1, 1) := by decide +kernel
theorem dL_law_414 : decode cL_law 414 = .ok (.iadd, 1) := by decide +kernel
theorem dL_law_415 : decode cL_law 415 = .ok (.iaload, 1) := by decide +kernel
theorem dL_law_416 : decode cL_law 416 = .ok (.invokevirtual 74, 3) := by decide +kernel
theorem dL_law_419 : decode cL_law 419 = .ok (.if_icmp .eq 149, 3) := by decide +kernel
theorem dL_law_422 : decode cL_law 422 = .ok (.iconst 0, 1) := by decide +kernel
theorem dL_law_423 : decode cL_law 423 = .ok (.ireturn, 1) := by decide +kernel
theorem dL_law_424 : decode cL_law 424 = .ok (.aload_n 1, 1) := by decide +kernel
theorem dL_law_425 : decode cL_law 425 = .ok (.aload_n 0, 1) := by decide +kernel
theorem dL_law_426 : decode cL_law 426 = .ok (.iload 4, 2) := by decide +kernel
theorem dL_law_428 : decode cL_law 428 = .ok (.iconst 1, 1) := by decide +kernel
theorem dL_law_429 : decode cL_law 429 = .ok (.iadd, 1) := by decide +kernel
theorem dL_law_430 : decode cL_law 430 = .ok (.iaload, 1) := by decide +kernel
theorem dL_law_431 : decode cL_law 431 = .ok (.invokevirtual 75, 3) := by decide +kernel
theorem dL_law_434 : decode cL_law 434 = .ok (.aload_n 2, 1) := by decide +kernel
theorem dL_law_435 : decode cL_law 435 = .ok (.aload_n 0, 1) := by decide +kernel
theorem dL_law_436 : decode cL_law 436 = .ok (.iload 4, 2) := by decide +kernel
theorem dL_law_438 : decode cL_law 438 = .ok (.iconst 1, 1) := by decide +kernel
theorem dL_law_439 : decode cL_law 439 = .ok (.iadd, 1) := by decide +kernel
theorem dL_law_440 : decode cL_law 440 = .ok (.iaload, 1) := by decide +kernel
theorem dL_law_441 : decode cL_law 441 = .ok (.invokevirtual 78, 3) := by decide +kernel
theorem dL_law_444 : decode cL_law 444 = .ok (.if_icmp .eq 124, 3) := by decide +kernel
theorem dL_law_447 : decode cL_law 447 = .ok (.iconst 0, 1) := by decide +kernel
theorem dL_law_448 : decode cL_law 448 = .ok (.ireturn, 1) := by decide +kernel
theorem dL_law_449 : decode cL_law 449 = .ok (.aload_n 1, 1) := by decide +kernel
theorem dL_law_450 : decode cL_law 450 = .ok (.aload_n 0, 1) := by decide +kernel
theorem dL_law_451 : decode cL_law 451 = .ok (.iload 4, 2) := by decide +kernel
theorem dL_law_453 : decode cL_law 453 = .ok (.iconst 1, 1) := by decide +kernel
theorem dL_law_454 : decode cL_law 454 = .ok (.iadd, 1) := by decide +kernel
theorem dL_law_455 : decode cL_law 455 = .ok (.iaload, 1) := by decide +kernel
theorem dL_law_456 : decode cL_law 456 = .ok (.invokevirtual 79, 3) := by decide +kernel
theorem dL_law_459 : decode cL_law 459 = .ok (.aload_n 2, 1) := by decide +kernel
theorem dL_law_460 : decode cL_law 460 = .ok (.aload_n 0, 1) := by decide +kernel
theorem dL_law_461 : decode cL_law 461 = .ok (.iload 4, 2) := by decide +kernel
theorem dL_law_463 : decode cL_law 463 = .ok (.iconst 1, 1) := by decide +kernel
theorem dL_law_464 : decode cL_law 464 = .ok (.iadd, 1) := by decide +kernel
theorem dL_law_465 : decode cL_law 465 = .ok (.iaload, 1) := by decide +kernel
theorem dL_law_466 : decode cL_law 466 = .ok (.invokevirtual 82, 3) := by decide +kernel
theorem dL_law_469 : decode cL_law 469 = .ok (.if_icmp .eq 99, 3) := by decide +kernel
theorem dL_law_472 : decode cL_law 472 = .ok (.iconst 0, 1) := by decide +kernel
theorem dL_law_473 : decode cL_law 473 = .ok (.ireturn, 1) := by decide +kernel
theorem dL_law_474 : decode cL_law 474 = .ok (.aload_n 1, 1) := by decide +kernel
theorem dL_law_475 : decode cL_law 475 = .ok (.aload_n 0, 1) := by decide +kernel
theorem dL_law_476 : decode cL_law 476 = .ok (.iload 4, 2) := by decide +kernel
theorem dL_law_478 : decode cL_law 478 = .ok (.iconst 1, 1) := by decide +kernel
theorem dL_law_479 : decode cL_law 479 = .ok (.iadd, 1) := by decide +kernel
theorem dL_law_480 : decode cL_law 480 = .ok (.iaload, 1) := by decide +kernel
theorem dL_law_481 : decode cL_law 481 = .ok (.aload_n 3, 1) := by decide +kernel
theorem dL_law_482 : decode cL_law 482 = .ok (.invokestatic 83, 3) := by decide +kernel
theorem dL_law_485 : decode cL_law 485 = .ok (.istore 5, 2) := by decide +kernel
theorem dL_law_487 : decode cL_law 487 = .ok (.aload_n 2, 1) := by decide +kernel
theorem dL_law_488 : decode cL_law 488 = .ok (.aload_n 0, 1) := by decide +kernel
theorem dL_law_489 : decode cL_law 489 = .ok (.iload 4, 2) := by decide +kernel
theorem dL_law_491 : decode cL_law 491 = .ok (.iconst 1, 1) := by decide +kernel
theorem dL_law_492 : decode cL_law 492 = .ok (.iadd, 1) := by decide +kernel
theorem dL_law_493 : decode cL_law 493 = .ok (.iaload, 1) := by decide +kernel
theorem dL_law_494 : decode cL_law 494 = .ok (.invokevirtual 85, 3) := by decide +kernel
theorem dL_law_497 : decode cL_law 497 = .ok (.istore 6, 2) := by decide +kernel
theorem dL_law_499 : decode cL_law 499 = .ok (.aload_n 2, 1) := by decide +kernel
theorem dL_law_500 : decode cL_law 500 = .ok (.invokevirtual 59, 3) := by decide +kernel
theorem dL_law_503 : decode cL_law 503 = .ok (.iload 5, 2) := by decide +kernel
theorem dL_law_505 : decode cL_law 505 = .ok (.if_icmp .eq 5, 3) := by decide +kernel
theorem dL_law_508 : decode cL_law 508 = .ok (.iconst 0, 1) := by decide +kernel
theorem dL_law_509 : decode cL_law 509 = .ok (.ireturn, 1) := by decide +kernel
theorem dL_law_510 : decode cL_law 510 = .ok (.iload 5, 2) := by decide +kernel
theorem dL_law_512 : decode cL_law 512 = .ok (.ifCond .ne 15, 3) := by decide +kernel
theorem dL_law_515 : decode cL_law 515 = .ok (.aload_n 3, 1) := by decide +kernel
theorem dL_law_516 : decode cL_law 516 = .ok (.iconst 0, 1) := by decide +kernel
theorem dL_law_517 : decode cL_law 517 = .ok (.laload, 1) := by decide +kernel
theorem dL_law_518 : decode cL_law 518 = .ok (.iload 6, 2) := by decide +kernel
theorem dL_law_520 : decode cL_law 520 = .ok (.i2l, 1) := by decide +kernel
theorem dL_law_521 : decode cL_law 521 = .ok (.lcmp, 1) := by decide +kernel
theorem dL_law_522 : decode cL_law 522 = .ok (.ifCond .eq 5, 3) := by decide +kernel
theorem dL_law_525 : decode cL_law 525 = .ok (.iconst 0, 1) := by decide +kernel
theorem dL_law_526 : decode cL_law 526 = .ok (.ireturn, 1) := by decide +kernel
theorem dL_law_527 : decode cL_law 527 = .ok (.goto 41, 3) := by decide +kernel
theorem dL_law_530 : decode cL_law 530 = .ok (.aload_n 1, 1) := by decide +kernel
theorem dL_law_531 : decode cL_law 531 = .ok (.invokevirtual 86, 3) := by decide +kernel
theorem dL_law_534 : decode cL_law 534 = .ok (.aload_n 2, 1) := by decide +kernel
theorem dL_law_535 : decode cL_law 535 = .ok (.invokevirtual 90, 3) := by decide +kernel
theorem dL_law_538 : decode cL_law 538 = .ok (.if_icmp .eq 30, 3) := by decide +kernel
theorem dL_law_541 : decode cL_law 541 = .ok (.iconst 0, 1) := by decide +kernel
theorem dL_law_542 : decode cL_law 542 = .ok (.ireturn, 1) := by decide +kernel
theorem dL_law_543 : decode cL_law 543 = .ok (.aload_n 1, 1) := by decide +kernel
theorem dL_law_544 : decode cL_law 544 = .ok (.aload_n 0, 1) := by decide +kernel
theorem dL_law_545 : decode cL_law 545 = .ok (.iload 4, 2) := by decide +kernel
theorem dL_law_547 : decode cL_law 547 = .ok (.iconst 1, 1) := by decide +kernel
theorem dL_law_548 : decode cL_law 548 = .ok (.iadd, 1) := by decide +kernel
theorem dL_law_549 : decode cL_law 549 = .ok (.iaload, 1) := by decide +kernel
theorem dL_law_550 : decode cL_law 550 = .ok (.invokevirtual 91, 3) := by decide +kernel
theorem dL_law_553 : decode cL_law 553 = .ok (.aload_n 2, 1) := by decide +kernel
theorem dL_law_554 : decode cL_law 554 = .ok (.aload_n 0, 1) := by decide +kernel
theorem dL_law_555 : decode cL_law 555 = .ok (.iload 4, 2) := by decide +kernel
theorem dL_law_557 : decode cL_law 557 = .ok (.iconst 1, 1) := by decide +kernel
theorem dL_law_558 : decode cL_law 558 = .ok (.iadd, 1) := by decide +kernel
theorem dL_law_559 : decode cL_law 559 = .ok (.iaload, 1) := by decide +kernel
theorem dL_law_560 : decode cL_law 560 = .ok (.invokevirtual 94, 3) := by decide +kernel
theorem dL_law_563 : decode cL_law 563 = .ok (.if_icmp .eq 5, 3) := by decide +kernel
theorem dL_law_566 : decode cL_law 566 = .ok (.iconst 0, 1) := by decide +kernel
theorem dL_law_567 : decode cL_law 567 = .ok (.ireturn, 1) := by decide +kernel
theorem dL_law_568 : decode cL_law 568 = .ok (.iinc 4 3, 3) := by decide +kernel
theorem dL_law_571 : decode cL_law 571 = .ok (.goto (-548), 3) := by decide +kernel
theorem dL_law_574 : decode cL_law 574 = .ok (.iconst 1, 1) := by decide +kernel
theorem dL_law_575 : decode cL_law 575 = .ok (.ireturn, 1) := by decide +kernel
abbrev vwCl : List vw_C := [(RJx00060, TJx00060, 6), (RX0, TX0, 7), (RX1, TX1, 4), (RX2, TX2, 4), (RX3, TX3, 9), (RX4, TX4, 23)]
end
section
/-! TOOLS: contracts over a world list, calls with the frame rule in one row, array rows with Nat indices -/
abbrev ct_P (D : va_G) (cl : List vw_C) (ty : List (ClassId × FieldType)) (w : va_W) (sz : Nat) : State → Prop := fun U => U.heap.size = sz ∧ va_P D cl w U.heap ∧ va_K D cl ty U ∧ va_D (fun _ => True) w
abbrev ct_B {S : Type} (D : va_G) (cl : List vw_C) (ty : List (ClassId × FieldType)) (A : Nat → Prop) (w1 : S → va_W) : S → State → Prop := fun u t => va_P D cl (w1 u) t.heap ∧ va_K D cl ty t ∧ va_D A (w1 u)
theorem ct_blind {av : List Value} {D : va_G} {cl : List vw_C} {ty : List (ClassId × FieldType)} {w : va_W} {sz : Nat} : FrameBlind (va_Pc av (ct_P D cl ty w sz)) := fun a U g mk q => by
  obtain ⟨q0, q1, qP, qK, qD⟩ := q
  exact ⟨q0, q1, qP, va_K.moved (u := U) (U := U.calling g mk a) (Vm.Alike.refl U.vm) qK, qD⟩
theorem ct_good {big : List Cond} {a w : Cond} {T : List Cond} (hT : ∀ w ∈ T, w ∈ big) (hg : ∀ w ∈ T, goodWord w = true) (ha : a ∈ T) : GoodIn big (a :: T) := by
  intro w hw
  rcases List.mem_cons.mp hw with h | h
  · rw [h]; exact ⟨hT _ ha, good_of_word (hg _ ha)⟩
  · exact ⟨hT _ h, good_of_word (hg _ h)⟩
section CT
variable {p : Program} {l : Launch} {e : Env} {R : Room} {s : State} {m : MethodId} {args : Array Value} {below : List Frame} {meth : Method} {c : Code} {H : Heap} {locs : List Loc} {cells slots : Nat} {Q : State → Prop}
variable {cc : ByteArray} {pc : Nat} {ls : Array Slot} {rest st0 : List Value} {D : va_G} {cl : List vw_C} {A : Nat → Prop} {a : Nat} {tys : List (ClassId × FieldType)} {ws wc wr : va_W} {H0 : Heap}
theorem ct_topi {x y : Int32} (h : x = y) (k : W p l e R s m args below meth c H locs cells slots Q (F0 m pc ls (.int y :: rest))) : W p l e R s m args below meth c H locs cells slots Q (F0 m pc ls (.int x :: rest)) := by
  rw [h]; exact k
theorem ct_topl {x y : Int64} (h : x = y) (k : W p l e R s m args below meth c H locs cells slots Q (F0 m pc ls (.long y :: rest))) : W p l e R s m args below meth c H locs cells slots Q (F0 m pc ls (.long x :: rest)) := by
  rw [h]; exact k
theorem ct_iald (hexec : p.tables.exec = Jvm.exec) (hb : c.code = cc) (hK : va_K D cl tys s) (hP : va_P D cl ws H) (q0 t0 : Nat) {cA : ClassId} {n : Nat} {f : Nat → Int32} (ha : ws[q0]? = some (a, .inl (cA, n, .inl f))) (ht : tys[t0]? = some (cA, .int)) {k : Nat} (hk : k < n) (hn : n < 2 ^ 31) (hdg : decode cc pc = .ok (.iaload, 1))
    (kk : W p l e R s m args below meth c H locs cells slots Q (F0 m (pc + 1) ls (.int (f k) :: rest))) : W p l e R s m args below meth c H locs cells slots Q (F0 m pc ls (.int (nI k) :: .ref a :: rest)) := by
  refine va_iald hexec hb hK hP q0 t0 ha ht (vp_in_nI hk hn) hdg ?_
  rw [nI_clamp (Nat.lt_trans hk hn)]
  exact kk
theorem ct_zald (hexec : p.tables.exec = Jvm.exec) (hb : c.code = cc) (hK : va_K D cl tys s) (hP : va_P D cl ws H) (q0 t0 : Nat) {cA : ClassId} {n : Nat} {f : Nat → Int32} (ha : ws[q0]? = some (a, .inl (cA, n, .inl f))) (ht : tys[t0]? = some (cA, .boolean)) {k : Nat} (hk : k < n) (hn : n < 2 ^ 31) (hdg : decode cc pc = .ok (.baload, 1))
    (kk : W p l e R s m args below meth c H locs cells slots Q (F0 m (pc + 1) ls (.int (f k) :: rest))) : W p l e R s m args below meth c H locs cells slots Q (F0 m pc ls (.int (nI k) :: .ref a :: rest)) := by
  refine va_zald hexec hb hK hP q0 t0 ha ht (vp_in_nI hk hn) hdg ?_
  rw [nI_clamp (Nat.lt_trans hk hn)]
  exact kk
theorem ct_lald (hexec : p.tables.exec = Jvm.exec) (hb : c.code = cc) (hK : va_K D cl tys s) (hP : va_P D cl ws H) (q0 t0 : Nat) {cA : ClassId} {n : Nat} {f : Nat → Int64} (ha : ws[q0]? = some (a, .inl (cA, n, .inr (.inl f)))) (ht : tys[t0]? = some (cA, .long)) {k : Nat} (hk : k < n) (hn : n < 2 ^ 31) (hdg : decode cc pc = .ok (.laload, 1))
    (kk : W p l e R s m args below meth c H locs cells slots Q (F0 m (pc + 1) ls (.long (f k) :: rest))) : W p l e R s m args below meth c H locs cells slots Q (F0 m pc ls (.int (nI k) :: .ref a :: rest)) := by
  refine va_lald hexec hb hK hP q0 t0 ha ht (vp_in_nI hk hn) hdg ?_
  rw [nI_clamp (Nat.lt_trans hk hn)]
  exact kk
theorem ct_iast (hexec : p.tables.exec = Jvm.exec) (hb : c.code = cc) (hK : va_K D cl tys s) (hP : va_P D cl ws H) (hD : va_D A ws) (hS : va_S A H0 H locs) (q0 t0 : Nat) {cA : ClassId} {n : Nat} {f : Nat → Int32} (ha : ws[q0]? = some (a, .inl (cA, n, .inl f))) (ht : tys[t0]? = some (cA, .int)) {k : Nat} {x : Int32} (hk : k < n) (hn : n < 2 ^ 31) (hdg : decode cc pc = .ok (.iastore, 1))
    (kk : ∀ (H1 : Heap) (locs1 : List Loc), va_P D cl (ws.set q0 (a, .inl (cA, n, .inl (upd f k x)))) H1 → va_D A (ws.set q0 (a, .inl (cA, n, .inl (upd f k x)))) → va_S A H0 H1 locs1 → W p l e R s m args below meth c H1 locs1 cells slots Q (F0 m (pc + 1) ls rest)) : W p l e R s m args below meth c H locs cells slots Q (F0 m pc ls (.int x :: .int (nI k) :: .ref a :: rest)) := by
  refine va_iast hexec hb hK hP hD hS q0 t0 ha ht (vp_in_nI hk hn) hdg ?_
  rw [nI_clamp (Nat.lt_trans hk hn)]
  exact kk
theorem ct_zast (hexec : p.tables.exec = Jvm.exec) (hb : c.code = cc) (hK : va_K D cl tys s) (hP : va_P D cl ws H) (hD : va_D A ws) (hS : va_S A H0 H locs) (q0 t0 : Nat) {cA : ClassId} {n : Nat} {f : Nat → Int32} (ha : ws[q0]? = some (a, .inl (cA, n, .inl f))) (ht : tys[t0]? = some (cA, .boolean)) {k : Nat} {x : Int32} (hx9 : vp_nar .boolean x = x) (hk : k < n) (hn : n < 2 ^ 31) (hdg : decode cc pc = .ok (.bastore, 1))
    (kk : ∀ (H1 : Heap) (locs1 : List Loc), va_P D cl (ws.set q0 (a, .inl (cA, n, .inl (upd f k x)))) H1 → va_D A (ws.set q0 (a, .inl (cA, n, .inl (upd f k x)))) → va_S A H0 H1 locs1 → W p l e R s m args below meth c H1 locs1 cells slots Q (F0 m (pc + 1) ls rest)) : W p l e R s m args below meth c H locs cells slots Q (F0 m pc ls (.int x :: .int (nI k) :: .ref a :: rest)) := by
  refine va_zast hexec hb hK hP hD hS q0 t0 ha ht (vp_in_nI hk hn) hdg ?_
  rw [nI_clamp (Nat.lt_trans hk hn), hx9]
  exact kk
theorem ct_last (hexec : p.tables.exec = Jvm.exec) (hb : c.code = cc) (hK : va_K D cl tys s) (hP : va_P D cl ws H) (hD : va_D A ws) (hS : va_S A H0 H locs) (q0 t0 : Nat) {cA : ClassId} {n : Nat} {f : Nat → Int64} (ha : ws[q0]? = some (a, .inl (cA, n, .inr (.inl f)))) (ht : tys[t0]? = some (cA, .long)) {k : Nat} {x : Int64} (hk : k < n) (hn : n < 2 ^ 31) (hdg : decode cc pc = .ok (.lastore, 1))
    (kk : ∀ (H1 : Heap) (locs1 : List Loc), va_P D cl (ws.set q0 (a, .inl (cA, n, .inr (.inl (vp_updL f k x))))) H1 → va_D A (ws.set q0 (a, .inl (cA, n, .inr (.inl (vp_updL f k x))))) → va_S A H0 H1 locs1 → W p l e R s m args below meth c H1 locs1 cells slots Q (F0 m (pc + 1) ls rest)) : W p l e R s m args below meth c H locs cells slots Q (F0 m pc ls (.long x :: .int (nI k) :: .ref a :: rest)) := by
  refine va_last hexec hb hK hP hD hS q0 t0 ha ht (vp_in_nI hk hn) hdg ?_
  rw [nI_clamp (Nat.lt_trans hk hn)]
  exact kk
/-- System.arraycopy, places and number as Nat -/
theorem ct_copyi (hexec : p.tables.exec = Jvm.exec) (hb : c.code = cc) (hml : c.maxLocals = ls.size) {own : String} {index : Nat} (hown : s.vm.findClass own = some m.cls) (hlink : (Cond.methodLink own index arraycopyName).before args s = true) (hnat : (Cond.native arraycopyName).before args s = true) (hstat : (Cond.static arraycopyName).before args s = true) (hini : (Cond.initialized "java/lang/System").before args s = true)
    (hK : va_K D cl tys s) (hP : va_P D cl ws H) (hD : va_D A ws) (hS : va_S A H0 H locs) (SP DP N : Nat) (q0 q1 t0 : Nat) {a0 : Nat} {c0 : ClassId} {n0 n1 : Nat} {f g : Nat → Int32} (ha0 : ws[q0]? = some (a0, .inl (c0, n0, .inl f))) (ha1 : ws[q1]? = some (a, .inl (c0, n1, .inl g))) (ht0 : tys[t0]? = some (c0, .int))
    (h1 : SP < 2 ^ 31) (h2 : DP < 2 ^ 31) (h3 : N < 2 ^ 31) (h4 : SP + N ≤ n0) (h5 : DP + N ≤ n1)
    (hframes : 1 ≤ R.frames) (hlocals : (rest.map fun v => v.category).sum + (nativeFrameWords "java/lang/System" "arraycopy" 5 + 11) ≤ R.locals) (hdg : decode cc pc = .ok (.invokestatic index, 3))
    (kk : ∀ (H1 : Heap) (locs1 : List Loc), va_P D cl (ws.set q1 (a, .inl (c0, n1, .inl (va_cpy f g SP DP N)))) H1 → va_D A (ws.set q1 (a, .inl (c0, n1, .inl (va_cpy f g SP DP N)))) → va_S A H0 H1 locs1 → W p l e R s m args below meth c H1 locs1 cells slots Q (F0 m (pc + 3) ls rest)) : W p l e R s m args below meth c H locs cells slots Q (F0 m pc ls (.int (nI N) :: .int (nI DP) :: .ref a :: .int (nI SP) :: .ref a0 :: rest)) := by
  refine va_copyi hexec hb hml hown hlink hnat hstat hini hK hP hD hS q0 q1 t0 t0 ha0 ha1 ht0 ht0 rfl (nI_pos h1) (nI_pos h2) (nI_pos h3) (by rw [nI_clamp h1, nI_clamp h3]; exact h4) (by rw [nI_clamp h2, nI_clamp h3]; exact h5) (fun _ _ => rfl) hframes hlocals hdg ?_
  rw [nI_clamp h1, nI_clamp h2, nI_clamp h3]
  exact kk
theorem ct_copyl (hexec : p.tables.exec = Jvm.exec) (hb : c.code = cc) (hml : c.maxLocals = ls.size) {own : String} {index : Nat} (hown : s.vm.findClass own = some m.cls) (hlink : (Cond.methodLink own index arraycopyName).before args s = true) (hnat : (Cond.native arraycopyName).before args s = true) (hstat : (Cond.static arraycopyName).before args s = true) (hini : (Cond.initialized "java/lang/System").before args s = true)
    (hK : va_K D cl tys s) (hP : va_P D cl ws H) (hD : va_D A ws) (hS : va_S A H0 H locs) (SP DP N : Nat) (q0 q1 t0 : Nat) {a0 : Nat} {c0 : ClassId} {n0 n1 : Nat} {f g : Nat → Int64} (ha0 : ws[q0]? = some (a0, .inl (c0, n0, .inr (.inl f)))) (ha1 : ws[q1]? = some (a, .inl (c0, n1, .inr (.inl g)))) (ht0 : tys[t0]? = some (c0, .long))
    (h1 : SP < 2 ^ 31) (h2 : DP < 2 ^ 31) (h3 : N < 2 ^ 31) (h4 : SP + N ≤ n0) (h5 : DP + N ≤ n1)
    (hframes : 1 ≤ R.frames) (hlocals : (rest.map fun v => v.category).sum + (nativeFrameWords "java/lang/System" "arraycopy" 5 + 11) ≤ R.locals) (hdg : decode cc pc = .ok (.invokestatic index, 3))
    (kk : ∀ (H1 : Heap) (locs1 : List Loc), va_P D cl (ws.set q1 (a, .inl (c0, n1, .inr (.inl (va_cpy f g SP DP N))))) H1 → va_D A (ws.set q1 (a, .inl (c0, n1, .inr (.inl (va_cpy f g SP DP N))))) → va_S A H0 H1 locs1 → W p l e R s m args below meth c H1 locs1 cells slots Q (F0 m (pc + 3) ls rest)) : W p l e R s m args below meth c H locs cells slots Q (F0 m pc ls (.int (nI N) :: .int (nI DP) :: .ref a :: .int (nI SP) :: .ref a0 :: rest)) := by
  refine va_copyl hexec hb hml hown hlink hnat hstat hini hK hP hD hS q0 q1 t0 t0 ha0 ha1 ht0 ht0 rfl (nI_pos h1) (nI_pos h2) (nI_pos h3) (by rw [nI_clamp h1, nI_clamp h3]; exact h4) (by rw [nI_clamp h2, nI_clamp h3]; exact h5) (fun _ _ => rfl) hframes hlocals hdg ?_
  rw [nI_clamp h1, nI_clamp h2, nI_clamp h3]
  exact kk
/-- a new array of a class that the world knows already -/
theorem ct_cls {cA cB : ClassId} {ty : FieldType} {ty2 : List (ClassId × FieldType)} {i j : Nat} (hK : va_K D cl ty2 s) (h1 : ty2[i]? = some (cA, ty)) (h2 : ty2[j]? = some (cB, ty)) (hp : refKind ty = false) : cA = cB := by
  have a1 := (hK.2 i _ h1).2
  have a2 := (hK.2 j _ h2).2
  cases ty <;> first | exact Option.some.inj (Eq.trans (Eq.symm a1) a2) | (simp [refKind] at hp)
end CT
section CTC
variable {p : Program} {l : Launch} {e : Env} {R : Room} {s : State} {m : MethodId} {args : Array Value} {below : List Frame} {meth : Method} {c : Code} {H : Heap} {locs : List Loc} {cells slots : Nat} {Q : State → Prop}
variable {pc : Nat} {ls : Array Slot} {rest st0 : List Value} {D : va_G} {cl : List vw_C} {A0 : Nat → Prop} {tys : List (ClassId × FieldType)} {ws wc wr : va_W} {H0 : Heap} {mc ms : Nat} {av : Array Value}
theorem ct_calli {S : Type} {post : Int32 → S → Prop} {w1 : S → va_W} (hP : va_P D cl ws H) (hD : va_D A0 ws) (hS : va_S A0 H0 H locs) (hA : ∀ q, H0.size ≤ q → A0 q) (isC isR : List Nat)
    (hr : va_Run p l e R s m args below meth c H locs cells slots mc ms (F0 m pc ls st0) rest (va_Qi post (ct_B D cl tys (va_A wc H.size) w1) (va_A wc H.size) av) (va_A wc H.size))
    (hC : isC.map (fun i => ws[i]?) = wc.map some) (hR : isR.map (fun i => ws[i]?) = wr.map some) (hn : va_nd isR = true) (hdis : ∀ i ∈ isR, i ∉ isC)
    (kk : ∀ (r : Int32) (u : S) (H1 : Heap) (locs1 : List Loc), post r u → va_P D cl (wr ++ w1 u) H1 → va_D A0 (wr ++ w1 u) → va_S A0 H0 H1 locs1 → W p l e R s m args below meth c H1 locs1 (cells + mc) (slots + ms) Q (F0 m (pc + 3) ls (.int r :: rest))) : W p l e R s m args below meth c H locs cells slots Q (F0 m pc ls st0) := by
  have hF := va_free (wc := wc) hD hS hA isC hC
  refine va_calli hr hS (fun q _ h => hF q h) hF (fun r u t H1 locs1 ht hvm hw hB hz1 hk1 hS1 => ?_)
  obtain ⟨hP1, hK1, hD1⟩ := hB
  rw [ht] at hP1
  obtain ⟨hP2, hD2⟩ := va_join (wr := wr) (w1 := w1 u) hP hD isC isR hC hR hn hdis hk1 hF hP1 hD1
  exact kk r u H1 locs1 hw hP2 hD2 hS1
theorem ct_calll {S : Type} {post : Int64 → S → Prop} {w1 : S → va_W} (hP : va_P D cl ws H) (hD : va_D A0 ws) (hS : va_S A0 H0 H locs) (hA : ∀ q, H0.size ≤ q → A0 q) (isC isR : List Nat)
    (hr : va_Run p l e R s m args below meth c H locs cells slots mc ms (F0 m pc ls st0) rest (va_Ql post (ct_B D cl tys (va_A wc H.size) w1) (va_A wc H.size) av) (va_A wc H.size))
    (hC : isC.map (fun i => ws[i]?) = wc.map some) (hR : isR.map (fun i => ws[i]?) = wr.map some) (hn : va_nd isR = true) (hdis : ∀ i ∈ isR, i ∉ isC)
    (kk : ∀ (r : Int64) (u : S) (H1 : Heap) (locs1 : List Loc), post r u → va_P D cl (wr ++ w1 u) H1 → va_D A0 (wr ++ w1 u) → va_S A0 H0 H1 locs1 → W p l e R s m args below meth c H1 locs1 (cells + mc) (slots + ms) Q (F0 m (pc + 3) ls (.long r :: rest))) : W p l e R s m args below meth c H locs cells slots Q (F0 m pc ls st0) := by
  have hF := va_free (wc := wc) hD hS hA isC hC
  refine va_calll hr hS (fun q _ h => hF q h) hF (fun r u t H1 locs1 ht hvm hw hB hz1 hk1 hS1 => ?_)
  obtain ⟨hP1, hK1, hD1⟩ := hB
  rw [ht] at hP1
  obtain ⟨hP2, hD2⟩ := va_join (wr := wr) (w1 := w1 u) hP hD isC isR hC hR hn hdis hk1 hF hP1 hD1
  exact kk r u H1 locs1 hw hP2 hD2 hS1
theorem ct_callv {S : Type} {post : S → Prop} {w1 : S → va_W} (hP : va_P D cl ws H) (hD : va_D A0 ws) (hS : va_S A0 H0 H locs) (hA : ∀ q, H0.size ≤ q → A0 q) (isC isR : List Nat)
    (hr : va_Run p l e R s m args below meth c H locs cells slots mc ms (F0 m pc ls st0) rest (va_Qv post (ct_B D cl tys (va_A wc H.size) w1) (va_A wc H.size) av) (va_A wc H.size))
    (hC : isC.map (fun i => ws[i]?) = wc.map some) (hR : isR.map (fun i => ws[i]?) = wr.map some) (hn : va_nd isR = true) (hdis : ∀ i ∈ isR, i ∉ isC)
    (kk : ∀ (u : S) (H1 : Heap) (locs1 : List Loc), post u → va_P D cl (wr ++ w1 u) H1 → va_D A0 (wr ++ w1 u) → va_S A0 H0 H1 locs1 → W p l e R s m args below meth c H1 locs1 (cells + mc) (slots + ms) Q (F0 m (pc + 3) ls rest)) : W p l e R s m args below meth c H locs cells slots Q (F0 m pc ls st0) := by
  have hF := va_free (wc := wc) hD hS hA isC hC
  refine va_callv hr hS (fun q _ h => hF q h) hF (fun u t H1 locs1 ht hvm hw hB hz1 hk1 hS1 => ?_)
  obtain ⟨hP1, hK1, hD1⟩ := hB
  rw [ht] at hP1
  obtain ⟨hP2, hD2⟩ := va_join (wr := wr) (w1 := w1 u) hP hD isC isR hC hR hn hdis hk1 hF hP1 hD1
  exact kk u H1 locs1 hw hP2 hD2 hS1
/-- what a callee wants of its receiver, arguments and world -/
theorem ct_preV {C : String} {b ci q0 : Nat} {q : vw_C} {fs : List Value} {As : List Value} (hK : va_K D cl tys s) (hP : va_P D cl ws H) (hD : va_D A0 ws) (isC : List Nat) (hn : va_nd isC = true) (hC : isC.map (fun i => ws[i]?) = wc.map some) (hC2 : isC.filterMap (fun i => ws[i]?) = wc) (hc : cl[ci]? = some q) (hq : q.1 = C) (he : wc[q0]? = some (b, .inr (ci, fs))) : PreV s H C b (va_Pc (.ref b :: As) (ct_P D cl tys wc H.size)) As := by
  subst hq
  have hPc := hP.sub (ws' := wc) isC hC2
  have hDc := hD.sub (ws' := wc) isC hn hC
  exact ⟨ct_blind, va_recv hK hPc hc he, fun U hU hW => ⟨rfl, by rw [hU], by rw [hU]; exact hPc, va_K.moved hW.alike hK, hDc.weaken (fun _ _ _ _ => trivial)⟩⟩
theorem ct_preS {As : List Value} (hK : va_K D cl tys s) (hP : va_P D cl ws H) (hD : va_D A0 ws) (isC : List Nat) (hn : va_nd isC = true) (hC : isC.map (fun i => ws[i]?) = wc.map some) (hC2 : isC.filterMap (fun i => ws[i]?) = wc) : PreS s H (va_Pc As (ct_P D cl tys wc H.size)) As := by
  have hPc := hP.sub (ws' := wc) isC hC2
  have hDc := hD.sub (ws' := wc) isC hn hC
  exact ⟨ct_blind, fun U hU hW => ⟨rfl, by rw [hU], by rw [hU]; exact hPc, va_K.moved hW.alike hK, hDc.weaken (fun _ _ _ _ => trivial)⟩⟩
end CTC
end
section
/-! PURE: what the class's methods compute -/
theorem cr_nI0 {n : Nat} (h : n < 2 ^ 31) (h0 : nI n = 0) : n = 0 := by
  rcases Nat.eq_zero_or_pos n with q | q
  · exact q
  · exact absurd h0 (nI_ne0 q h)
theorem cr_cmp0 {x y : Int64} : lg_cmp x y = 0 ↔ x = y := by
  unfold lg_cmp
  by_cases h1 : y < x
  · have h2 : x ≠ y := by
      intro h; rw [h] at h1; exact absurd h1 (Int64.lt_irrefl)
    simp [h1, h2]
  · by_cases h2 : x = y
    · simp [h2]
    · simp [h1, h2]
def so_c (cs fv : Nat → Int64) (i : Nat) : Nat → Int64 := fun j => if j < i then fv j else cs j
def so_p (ps : Nat → Int32) (i : Nat) : Nat → Int32 := fun j => if j < i then 0 else ps j
theorem so_c_0 (cs fv : Nat → Int64) : cs = so_c cs fv 0 := by funext j; simp [so_c]
theorem so_p_0 (ps : Nat → Int32) : ps = so_p ps 0 := by funext j; simp [so_p]
theorem so_c_step (cs fv : Nat → Int64) (i : Nat) : vp_updL (so_c cs fv i) i (fv i) = so_c cs fv (i + 1) := by
  funext j
  simp only [vp_updL, so_c]
  by_cases h : j = i
  · subst h; simp
  · rw [if_neg h]
    by_cases h2 : j < i
    · rw [if_pos h2, if_pos (by omega)]
    · rw [if_neg h2, if_neg (by omega)]
theorem so_p_step (ps : Nat → Int32) (i : Nat) : upd (so_p ps i) i 0 = so_p ps (i + 1) := by
  funext j
  simp only [upd, so_p]
  by_cases h : j = i
  · subst h; simp
  · rw [if_neg h]
    by_cases h2 : j < i
    · rw [if_pos h2, if_pos (by omega)]
    · rw [if_neg h2, if_neg (by omega)]
def ie_r (f : Nat) (ps ln : Nat → Int32) : Int32 := if (∀ j, j < f → ln j ≤ ps j) then 1 else 0
theorem ie_yes {f : Nat} {ps ln : Nat → Int32} (h : ∀ j, j < f → ln j ≤ ps j) : ie_r f ps ln = 1 := by unfold ie_r; rw [if_pos h]
theorem ie_no {f i : Nat} {ps ln : Nat → Int32} (hi : i < f) (h : ¬ ln i ≤ ps i) : ie_r f ps ln = 0 := by unfold ie_r; rw [if_neg (fun q => h (q i hi))]
def rd_v (t f : Nat) (ps ln : Nat → Int32) : Int64 := if f = 0 then 0 else if ps (t % f) < ln (t % f) then 1000 * (nI (t % f) + 1).toInt64 + (ps (t % f)).toInt64 else 0
def rd_p (t f : Nat) (ps ln : Nat → Int32) : Nat → Int32 := if f = 0 then ps else if ps (t % f) < ln (t % f) then upd ps (t % f) (ps (t % f) + 1) else ps
def du_r (c t : Nat) (rv : Int64) (cs : Nat → Int64) : Int64 := if c = 0 then 0 else cs (t % c) + (nI (t + 1)).toInt64 * rv
def du_c (c t : Nat) (rv : Int64) (cs : Nat → Int64) : Nat → Int64 := if c = 0 then cs else vp_updL cs (t % c) (cs (t % c) + (nI (t + 1)).toInt64 * rv)
def hc_r (c : Nat) (cs os : Nat → Int64) : Int32 := if (∀ j, j < c → cs j = os j) then 1 else 0
theorem hc_yes {c : Nat} {cs os : Nat → Int64} (h : ∀ j, j < c → cs j = os j) : hc_r c cs os = 1 := by unfold hc_r; rw [if_pos h]
theorem hc_no {c i : Nat} {cs os : Nat → Int64} (hi : i < c) (h : ¬ cs i = os i) : hc_r c cs os = 0 := by unfold hc_r; rw [if_neg (fun q => h (q i hi))]
theorem hc_nar (c : Nat) (cs os : Nat → Int64) : narrow .boolean (.int (hc_r c cs os)) = .int (hc_r c cs os) := by unfold hc_r; split <;> rfl
def lw (kw : Nat → Int32) : Nat → Nat | 0 => 0 | k + 1 => if kw k = 0 then lw kw k else k + 1
def lwI (k : Nat) : Int32 := if k = 0 then -1 else nI k
def lw_r (kw : Nat → Int32) (kb : Nat) (x : Int32) : Int32 := if x < 1 ∨ nI kb < x then -1 else lwI (lw kw x.toNatClampNeg)
theorem lw_z {kw : Nat → Int32} {k : Nat} (h0 : 1 ≤ k) (h : kw (k - 1) = 0) : lw kw (k - 1) = lw kw k := by
  obtain ⟨j, rfl⟩ : ∃ j, k = j + 1 := ⟨k - 1, by omega⟩
  simp only [Nat.add_sub_cancel] at h ⊢
  simp [lw, h]
theorem lw_w {kw : Nat → Int32} {k : Nat} (h0 : 1 ≤ k) (h : ¬ kw (k - 1) = 0) : lw kw k = k := by
  obtain ⟨j, rfl⟩ : ∃ j, k = j + 1 := ⟨k - 1, by omega⟩
  simp only [Nat.add_sub_cancel] at h
  simp [lw, h]
theorem lw_le (kw : Nat → Int32) : ∀ k, lw kw k ≤ k
  | 0 => Nat.le_refl _
  | k + 1 => by
    have h := lw_le kw k
    unfold lw
    split <;> omega
theorem cr_has {x : Int32} {kb : Nat} (hk : kb ≤ 100) (h : ¬ (if x < 1 ∨ nI kb < x then (0 : Int32) else 1) = 0) : ∃ n : Nat, 1 ≤ n ∧ n ≤ kb ∧ x = nI n ∧ ¬ (x < 1 ∨ nI kb < x) := by
  have h1 : ¬ (x < 1 ∨ nI kb < x) := fun q => h (by rw [if_pos q])
  have h2 : ¬ x < 1 := fun q => h1 (Or.inl q)
  have h3 : ¬ nI kb < x := fun q => h1 (Or.inr q)
  have h2' : ¬ x < 0 := by
    intro q; apply h2; rw [Int32.lt_iff_toInt_lt] at q ⊢
    have e0 : (0 : Int32).toInt = 0 := rfl
    have e1 : (1 : Int32).toInt = 1 := rfl
    omega
  obtain ⟨j, hj, rfl⟩ := nI_of h2'
  refine ⟨j, ?_, ?_, rfl, h1⟩
  · rcases Nat.eq_zero_or_pos j with q | q
    · subst q; exact absurd (by decide) h2
    · exact q
  · rcases Nat.lt_or_ge kb j with q | q
    · exact absurd (nI_lt q hj) h3
    · exact q
theorem cr_not_has {x : Int32} {kb : Nat} (h : (if x < 1 ∨ nI kb < x then (0 : Int32) else 1) = 0) : x < 1 ∨ nI kb < x := by
  by_cases q : x < 1 ∨ nI kb < x
  · exact q
  · rw [if_neg q] at h; exact absurd h (by decide)
def pe_r (k f : Nat) (ln kp : Nat → Int32) : Int32 := if (∀ j, j < f → kp ((k - 1) * 6 + j) ≤ ln j) then 0 else 1
theorem pe_yes {k f : Nat} {ln kp : Nat → Int32} (h : ∀ j, j < f → kp ((k - 1) * 6 + j) ≤ ln j) : pe_r k f ln kp = 0 := by unfold pe_r; rw [if_pos h]
theorem pe_no {k f i : Nat} {ln kp : Nat → Int32} (hi : i < f) (h : ¬ kp ((k - 1) * 6 + i) ≤ ln i) : pe_r k f ln kp = 1 := by unfold pe_r; rw [if_neg (fun q => h (q i hi))]
/-- an index that passed the tests: 0 ≤ x < n -/
theorem cr_ix {x : Int32} {n : Nat} (hn : n < 2 ^ 31) (h : ¬ (x < 0 ∨ nI n ≤ x)) : ∃ k : Nat, k < n ∧ x = nI k := by
  have h1 : ¬ x < 0 := fun q => h (Or.inl q)
  have h2 : ¬ nI n ≤ x := fun q => h (Or.inr q)
  obtain ⟨j, hj, rfl⟩ := nI_of h1
  refine ⟨j, ?_, rfl⟩
  rcases Nat.lt_or_ge j n with q | q
  · exact q
  · exact absurd (nI_le q hj) h2
theorem cr_if01 {P : Prop} (i : Decidable P) (h : (if P then (0 : Int32) else 1) = 0) : P := by
  by_cases q : P
  · exact q
  · rw [if_neg q] at h; exact absurd h (by decide)
theorem cr_if01n {P : Prop} (i : Decidable P) (h : ¬ (if P then (0 : Int32) else 1) = 0) : ¬ P := fun q => h (by rw [if_pos q])
/-- step: n units at most, from units, cells, positions and rows -/
def srun (c f : Nat) (ln : Nat → Int32) : Nat → Nat × (Nat → Int64) × (Nat → Int32) × (Nat → Int64) → Nat × (Nat → Int64) × (Nat → Int32) × (Nat → Int64)
  | 0, s => s
  | n + 1, s => if s.1 < 5000 ∧ ie_r f s.2.2.1 ln = 0 then srun c f ln n (s.1 + 1, du_c c s.1 (rd_v s.1 f s.2.2.1 ln) s.2.1, rd_p s.1 f s.2.2.1 ln, vp_updL s.2.2.2 s.1 (du_r c s.1 (rd_v s.1 f s.2.2.1 ln) s.2.1)) else s
theorem srun_stop {c f n : Nat} {ln : Nat → Int32} {s : Nat × (Nat → Int64) × (Nat → Int32) × (Nat → Int64)} (h : ¬ (s.1 < 5000 ∧ ie_r f s.2.2.1 ln = 0)) : srun c f ln n s = s := by
  cases n with
  | zero => rfl
  | succ n => unfold srun; rw [if_neg h]
theorem srun_step {c f N d t : Nat} {ln ps : Nat → Int32} {cs rw9 : Nat → Int64} (h : d < N) (hg : t < 5000 ∧ ie_r f ps ln = 0) : srun c f ln (N - d) (t, cs, ps, rw9) = srun c f ln (N - (d + 1)) (t + 1, du_c c t (rd_v t f ps ln) cs, rd_p t f ps ln, vp_updL rw9 t (du_r c t (rd_v t f ps ln) cs)) := by
  obtain ⟨k, hk⟩ : ∃ k, N - d = k + 1 := ⟨N - d - 1, by omega⟩
  rw [hk, show N - (d + 1) = k by omega]
  show (if t < 5000 ∧ ie_r f ps ln = 0 then _ else _) = _
  rw [if_pos hg]
theorem srun_le {c f : Nat} {ln : Nat → Int32} : ∀ (n : Nat) (s : Nat × (Nat → Int64) × (Nat → Int32) × (Nat → Int64)), s.1 ≤ 5000 → (srun c f ln n s).1 ≤ 5000
  | 0, s, h => h
  | n + 1, s, h => by
    unfold srun
    split
    · rename_i q; exact srun_le n _ q.1
    · exact h
theorem cr_nlt {a b : Int32} (h : ¬ b < a) : a ≤ b := Int32.not_lt.mp h
theorem cr_lt_nle {a b : Int32} (h : b < a) : ¬ a ≤ b := Int32.not_le.mpr h
theorem cr_cmplt {x y : Int64} : lg_cmp x y < 0 ↔ x < y := by
  unfold lg_cmp
  rw [Int64.lt_iff_toInt_lt (x := x)]
  by_cases h1 : y < x
  · have h1' := Int64.lt_iff_toInt_lt.mp h1
    simp only [h1, if_true]
    exact ⟨fun q => absurd q (by decide), fun q => by omega⟩
  · have h1' : ¬ y.toInt < x.toInt := fun q => h1 (Int64.lt_iff_toInt_lt.mpr q)
    by_cases h2 : x = y
    · subst h2
      simp only [h1, if_false, if_true]
      exact ⟨fun q => absurd q (by decide), fun q => by omega⟩
    · have h2' : ¬ x.toInt = y.toInt := fun q => h2 (Int64.toInt_inj.mp q)
      simp only [h1, h2, if_false]
      exact ⟨fun _ => by omega, fun _ => by decide⟩
theorem cr_cmpgt {x y : Int64} : (¬ lg_cmp x y ≤ 0) ↔ y < x := by
  unfold lg_cmp
  by_cases h1 : y < x
  · simp only [h1, if_true]
    exact ⟨fun _ => trivial, fun _ => by decide⟩
  · by_cases h2 : x = y
    · subst h2
      simp only [h1, if_false, if_true]
      exact ⟨fun q => absurd (by decide) q, fun q => absurd q id⟩
    · simp only [h1, h2, if_false]
      exact ⟨fun q => absurd (by decide) q, fun q => absurd q id⟩
theorem cr_cmpgt_not {x y : Int64} (h : lg_cmp x y ≤ 0) : ¬ y < x := fun q => cr_cmpgt.mpr q h
def gr_v (ln : Nat → Int32) (k : Nat) (n : Int32) : Int64 := (ln k).toInt64 + n.toInt64
def gr_r (f : Nat) (ln : Nat → Int32) (x n : Int32) : Int32 := if x < 0 ∨ nI f ≤ x then -1 else if gr_v ln x.toNatClampNeg n < 0 ∨ 2000 < gr_v ln x.toNatClampNeg n then -4 else (gr_v ln x.toNatClampNeg n).toInt32
def gr_l (f : Nat) (ln : Nat → Int32) (x n : Int32) : Nat → Int32 := if x < 0 ∨ nI f ≤ x then ln else if gr_v ln x.toNatClampNeg n < 0 ∨ 2000 < gr_v ln x.toNatClampNeg n then ln else upd ln x.toNatClampNeg (gr_v ln x.toNatClampNeg n).toInt32
/-- restart's answer, with number = the latest whole checkpoint up to the one that was told -/
def rs_r (dn number : Int32) (ke : Nat → Int32) (ed : Int32) (f : Nat) (ln kp : Nat → Int32) : Int32 :=
  if dn = 0 then -5 else if number = -1 then -1 else if ¬ ke (number.toNatClampNeg - 1) = ed then -3 else if ¬ pe_r number.toNatClampNeg f ln kp = 0 then -2 else number
theorem lw_r_ok {kw : Nat → Int32} {kb : Nat} {x : Int32} (hk : kb ≤ 100) (h : ¬ lw_r kw kb x = -1) : ∃ k : Nat, 1 ≤ k ∧ k ≤ kb ∧ lw_r kw kb x = nI k := by
  unfold lw_r at h ⊢
  by_cases q : x < 1 ∨ nI kb < x
  · rw [if_pos q] at h; exact absurd rfl h
  · rw [if_neg q] at h ⊢
    obtain ⟨n, h1, h2, rfl, -⟩ := cr_has (x := x) hk (by rw [if_neg q]; decide)
    rw [nI_clamp (by omega)] at h ⊢
    have h3 := lw_le kw n
    unfold lwI at h ⊢
    by_cases h4 : lw kw n = 0
    · rw [if_pos h4] at h; exact absurd rfl h
    · rw [if_neg h4]; exact ⟨lw kw n, by omega, by omega, rfl⟩
/-- equal's answer: n units are left to be done again, from unit i on -/
def er (c f : Nat) (ln : Nat → Int32) (ro pcs : Nat → Int64) : Nat → Nat → (Nat → Int64) → (Nat → Int32) → Int32
  | 0, _, cs, _ => hc_r c pcs cs
  | n + 1, i, cs, ps => if ¬ ie_r f ps ln = 0 then 0 else if du_r c i (rd_v i f ps ln) cs = ro i then er c f ln ro pcs n (i + 1) (du_c c i (rd_v i f ps ln) cs) (rd_p i f ps ln) else 0
theorem er_step {c f t i : Nat} {ln ps : Nat → Int32} {ro pcs cs : Nat → Int64} (h : i < t) (h1 : ie_r f ps ln = 0) (h2 : du_r c i (rd_v i f ps ln) cs = ro i) : er c f ln ro pcs (t - i) i cs ps = er c f ln ro pcs (t - (i + 1)) (i + 1) (du_c c i (rd_v i f ps ln) cs) (rd_p i f ps ln) := by
  obtain ⟨k, hk⟩ : ∃ k, t - i = k + 1 := ⟨t - i - 1, by omega⟩
  rw [hk, show t - (i + 1) = k by omega]
  show (if ¬ ie_r f ps ln = 0 then _ else _) = _
  rw [if_neg (fun q => q h1), if_pos h2]
theorem er_end {c f t i : Nat} {ln ps : Nat → Int32} {ro pcs cs : Nat → Int64} (h : i < t) (h1 : ¬ ie_r f ps ln = 0) : er c f ln ro pcs (t - i) i cs ps = 0 := by
  obtain ⟨k, hk⟩ : ∃ k, t - i = k + 1 := ⟨t - i - 1, by omega⟩
  rw [hk]
  show (if ¬ ie_r f ps ln = 0 then _ else _) = _
  rw [if_pos h1]
theorem er_diff {c f t i : Nat} {ln ps : Nat → Int32} {ro pcs cs : Nat → Int64} (h : i < t) (h1 : ie_r f ps ln = 0) (h2 : ¬ du_r c i (rd_v i f ps ln) cs = ro i) : er c f ln ro pcs (t - i) i cs ps = 0 := by
  obtain ⟨k, hk⟩ : ∃ k, t - i = k + 1 := ⟨t - i - 1, by omega⟩
  rw [hk]
  show (if ¬ ie_r f ps ln = 0 then _ else _) = _
  rw [if_neg (fun q => q h1), if_neg h2]
theorem cr_dec {k : Nat} (h : 1 ≤ k) : nI k + Int32.ofInt (-1) = nI (k - 1) := by
  have h2 := pk_m1 (k - 1)
  rw [show k - 1 + 1 = k by omega] at h2
  rw [show Int32.ofInt (-1) = (-1 : Int32) by decide]
  exact h2
theorem ki_upd {g : Nat → Int32} {B k v : Nat} (h : ∀ j, ∃ n, n ≤ B ∧ g j = nI n) (hv : v ≤ B) : ∀ j, ∃ n, n ≤ B ∧ upd g k (nI v) j = nI n := by
  intro j
  by_cases q : j = k
  · exact ⟨v, hv, by simp [upd, q]⟩
  · obtain ⟨n, h1, h2⟩ := h j
    exact ⟨n, h1, by simp [upd, q, h2]⟩
end
section
/-! PURE 2: common words for class and reference -/
/-- cell -/
def ce_r (dn : Int32) (t c : Nat) : Int32 := if dn = 0 ∧ nI t ≤ 0 then (if nI c < 12 then nI c else -1) else -5
def ce_c (dn : Int32) (t c : Nat) : Nat := if (dn = 0 ∧ nI t ≤ 0) ∧ c < 12 then c + 1 else c
def ce_a (dn : Int32) (t c : Nat) (g : Nat → Int64) (v : Int64) : Nat → Int64 := if (dn = 0 ∧ nI t ≤ 0) ∧ c < 12 then vp_updL g c v else g
/-- file -/
def fi_r (dn : Int32) (t f : Nat) (x : Int32) : Int32 := if x < 0 ∨ ¬ x ≤ 2000 then -4 else if dn = 0 ∧ nI t ≤ 0 then (if nI f < 6 then nI f else -1) else -5
def fi_f (dn : Int32) (t f : Nat) (x : Int32) : Nat := if ¬ (x < 0 ∨ ¬ x ≤ 2000) ∧ (dn = 0 ∧ nI t ≤ 0) ∧ f < 6 then f + 1 else f
def fi_l (dn : Int32) (t f : Nat) (ln : Nat → Int32) (x : Int32) : Nat → Int32 := if ¬ (x < 0 ∨ ¬ x ≤ 2000) ∧ (dn = 0 ∧ nI t ≤ 0) ∧ f < 6 then upd ln f x else ln
theorem ie_nar (f : Nat) (ps ln : Nat → Int32) : narrow .boolean (.int (ie_r f ps ln)) = .int (ie_r f ps ln) := by unfold ie_r; split <;> rfl
theorem ie_s0 {i : Nat} {ps ln : Nat → Int32} (h : ie_r i ps ln = 0) : 0 = ie_r (i + 1) ps ln := by
  unfold ie_r at h ⊢
  by_cases q : ∀ j, j < i → ln j ≤ ps j
  · rw [if_pos q] at h; exact absurd h (by decide)
  · rw [if_neg (fun q2 => q (fun j hj => q2 j (by omega)))]
theorem ie_s1 {i : Nat} {ps ln : Nat → Int32} (h : ps i < ln i) : 0 = ie_r (i + 1) ps ln := (ie_no (i := i) (by omega) (cr_lt_nle h)).symm
theorem ie_s2 {i : Nat} {ps ln : Nat → Int32} (h1 : ¬ ie_r i ps ln = 0) (h : ¬ ps i < ln i) : 1 = ie_r (i + 1) ps ln := by
  refine (ie_yes (lt_s (fun j hj => ?_) (cr_nlt h))).symm
  unfold ie_r at h1
  by_cases q : ∀ j, j < i → ln j ≤ ps j
  · exact q j hj
  · rw [if_neg q] at h1; exact absurd rfl h1
/-- cut -/
def cu_dn (dn x : Int32) : Int32 := if x < 0 ∨ ¬ x ≤ 30 then dn else if x = 0 then 1 else dn
def cu_cp (cp x : Int32) : Int32 := if x < 0 ∨ ¬ x ≤ 30 then cp else x
theorem cr_one {x : Int32} (h : ¬ x < 0) (h0 : ¬ x = 0) (h1 : x ≤ 1) : x = 1 := by
  obtain ⟨j, hj, rfl⟩ := nI_of h
  have h2 : j ≤ 1 := (nI_leI (a := j) (b := 1) hj (by omega)).mp h1
  have h3 : j ≠ 0 := fun q => h0 (by rw [q]; rfl)
  rw [show j = 1 by omega]; rfl
theorem cr_zero {x : Int32} (h : ¬ x < 0) (h0 : x ≤ 0) : x = 0 := by
  obtain ⟨j, hj, rfl⟩ := nI_of h
  have h2 : j ≤ 0 := (nI_leI (a := j) (b := 0) hj (by omega)).mp h0
  rw [show j = 0 by omega]; rfl
/-- the latest whole checkpoint up to the one that was told; 0 for none -/
def lwn (kw : Nat → Int32) (kb : Nat) (x : Int32) : Nat := if x < 1 ∨ nI kb < x then 0 else lw kw x.toNatClampNeg
theorem lwn_lwr (kw : Nat → Int32) (kb : Nat) (x : Int32) : lw_r kw kb x = lwI (lwn kw kb x) := by
  unfold lw_r lwn
  split
  · rfl
  · rfl
theorem lwn_le {kw : Nat → Int32} {kb : Nat} {x : Int32} (hk : kb ≤ 100) : lwn kw kb x ≤ kb := by
  unfold lwn
  by_cases q : x < 1 ∨ nI kb < x
  · rw [if_pos q]; omega
  · rw [if_neg q]
    obtain ⟨n, h1, h2, rfl, -⟩ := cr_has (x := x) hk (by rw [if_neg q]; decide)
    rw [nI_clamp (by omega)]
    exact Nat.le_trans (lw_le kw n) h2
theorem lwn_of {kw : Nat → Int32} {kb k : Nat} {x : Int32} (hkb : kb ≤ 100) (h1 : 1 ≤ k) (h2 : k ≤ 100) (h : lw_r kw kb x = nI k) : lwn kw kb x = k := by
  rw [lwn_lwr] at h
  have hle := lwn_le (kw := kw) (x := x) hkb
  unfold lwI at h
  by_cases q : lwn kw kb x = 0
  · rw [if_pos q] at h
    have h3 : (nI k).toInt = (k : Int) := nI_toInt (by omega)
    rw [← h] at h3
    have h4 : (-1 : Int32).toInt = -1 := by decide
    omega
  · rw [if_neg q] at h
    exact (nI_eq (by omega) (by omega)).mp h
theorem lwn_no {kw : Nat → Int32} {kb : Nat} {x : Int32} (hkb : kb ≤ 100) (h : lw_r kw kb x = -1) : lwn kw kb x = 0 := by
  rw [lwn_lwr] at h
  have hle := lwn_le (kw := kw) (x := x) hkb
  unfold lwI at h
  by_cases q : lwn kw kb x = 0
  · exact q
  · rw [if_neg q] at h
    have h3 : (nI (lwn kw kb x)).toInt = ((lwn kw kb x : Nat) : Int) := nI_toInt (by omega)
    rw [h] at h3
    have h4 : (-1 : Int32).toInt = -1 := by decide
    omega
end
section
abbrev rm_X1_init : Room := { frames := 1, cells := 2, slots := 18, locals := 12 }
abbrev qc_X1_init (D : va_G) (cI cL cZ : ClassId) (aj : Nat) (A : Nat → Prop) : Array Value → State → Outcome → State → Prop := va_Qv (fun (u : Nat × Nat) => True) (ct_B D vwCl [(cI, .int), (cL, .long), (cZ, .boolean)] A (fun (u : Nat × Nat) => [(aj, .inr (2, [.ref u.1, .ref u.2, .int 0, .int 0])), (u.1, .inl (cL, 12, .inr (.inl (fun _ => 0)))), (u.2, .inl (cI, 6, .inl (fun _ => 0)))])) A
set_option maxHeartbeats 4000000 in
set_option maxRecDepth 100000 in
theorem c_X1_init (l : Launch) (D : va_G) (cI cL cZ : ClassId) (aj : Nat) (sz : Nat)  : Met l yX1_init wsX1_init rm_X1_init (va_Pc [.ref aj] (ct_P D vwCl [(cI, .int), (cL, .long), (cZ, .boolean)] [(aj, .inr (2, [.null, .null, .int 0, .int 0]))] sz)) (qc_X1_init D cI cL cZ aj (va_A [(aj, .inr (2, [.null, .null, .int 0, .int 0]))] sz)) 2 18 (va_A [(aj, .inr (2, [.null, .null, .int 0, .int 0]))] sz) := by
  refine Met.ofW (cc := cX1_init) (maxL := 1) (ret := none) (by decide) rfl ?_
  intro p e s m args below meth cd s₁ B hml hv
  obtain ⟨rfl, hsz, hP, hK, hD0⟩ := hv
  have hx := B.exec
  have hb := B.bytes
  have hr := B.returns
  have hts := atoms_spec (ws := wsX1_init) B.pre
  have wo1 := hts (.methodLink RX1 3 objectInit) (by decide +kernel)
  have wo2 := hts (.instanceMethod objectInit) (by decide +kernel)
  have wo3 := hts (.code objectInit ⟨#[0xb1]⟩ 1 none) (List.mem_of_getElem? (i := 3) rfl)
  have walong := hts (.arrayClass .long) (by decide +kernel)
  have iX1 : ∀ w ∈ wsX10, w ∈ wsX1_init := by decide +kernel
  have wf9 := hts (.fieldLink RX1 9 "CheckRestart$Job" "firstValues" "[J") (by decide +kernel)
  have waint := hts (.arrayClass .int) (by decide +kernel)
  have wf15 := hts (.fieldLink RX1 15 "CheckRestart$Job" "lengths" "[I") (by decide +kernel)
  have wf19 := hts (.fieldLink RX1 19 "CheckRestart$Job" "cellCount" "I") (by decide +kernel)
  have wf23 := hts (.fieldLink RX1 23 "CheckRestart$Job" "fileCount" "I") (by decide +kernel)
  have hown : s.vm.findClass RX1 = some m.cls := findClass_of_methodNamed B.named
  have hlocks := B.notSynchronized
  have hin : meth.name = "<init>" := (name_of_methodNamed B.named B.method).1
  subst hsz
  have hD := hD0.self (sz := s.heap.size)
  generalize hAe : va_A [(aj, .inr (2, [.null, .null, .int 0, .int 0]))] s.heap.size = A at hD ⊢
  have hA : ∀ q : Nat, s.heap.size ≤ q → A q := fun q h => by rw [← hAe]; exact Or.inr h
  have hS : va_S A s.heap s.heap [] := va_S.rf
  have hl := lv_entry ([.ref aj]) (n := 1) (Nat.le_of_ble_eq_true rfl)
  rw [lg_entry_eq]
  generalize (lg_sl ([.ref aj]) ++ List.replicate (1 - (lg_sl ([.ref aj])).length) Slot.unset).toArray = ls at hl ⊢
  have hl : lv_has ls 1 [(0, .ref aj)] := hl
  refine lv_aload_n hx hb dX1_init_0 rfl (lv_at hl 0 rfl) ?_
  refine W.objInit hx hb hown wo1 wo2 wo3 rfl (by rw [hml]; exact hl.1) rfl dX1_init_1 (Nat.le_of_ble_eq_true rfl) (Nat.le_of_ble_eq_true rfl) ?_
  refine W.eq (g2 := F0 m 4 ls []) rfl ?_
  refine lv_aload_n hx hb dX1_init_4 rfl (lv_at hl 0 rfl) ?_
  refine lv_bipush (v := 12) hx hb dX1_init_5 (by decide) ?_
  refine va_newa (atype := .long) (n := 12) (N' := 12) (a0 := (12, .inr (.inl (fun _ => 0)))) (ty := .long) hx hb walong rfl hK hP hD hS hA (fun _ => rfl) (by decide) (by decide) (show 12 * 8 ≤ 536870912 by omega) (Nat.le_of_ble_eq_true rfl) (Nat.le_of_ble_eq_true rfl) dX1_init_7 (fun uf cA_1 H hK2 hP hD hS => ?_)
  have ecA_1 : cL = cA_1 := ct_cls (i := 1) (j := 3) hK2 rfl rfl rfl
  subst ecA_1
  clear hK2
  refine W.widen (k := 1) (n := 12) (by omega) (by omega) ?_
  have hP : va_P D vwCl [(aj, .inr (2, [.null, .null, .int 0, .int 0])), (uf, .inl (cL, 12, .inr (.inl (fun _ => 0))))] H := hP
  have hD : va_D A [(aj, .inr (2, [.null, .null, .int 0, .int 0])), (uf, .inl (cL, 12, .inr (.inl (fun _ => 0))))] := hD
  refine va_putF (D := D) (ci := 2) (v := .ref uf) (ty := (.array .long)) (C := RX1) (T := TX1) (N := 4) hx hb hts iX1 tyX1 tyX1_ok nmX1 hown hK hP hD hS 0 rfl rfl 0 (by decide) wf9 (fun _ h9 => h9) rfl hin rfl (by decide +kernel) rfl rfl (Nat.le_of_ble_eq_true rfl) dX1_init_9 (fun H locs hP hD hS => ?_)
  have hP : va_P D vwCl [(aj, .inr (2, [.ref uf, .null, .int 0, .int 0])), (uf, .inl (cL, 12, .inr (.inl (fun _ => 0))))] H := hP
  have hD : va_D A [(aj, .inr (2, [.ref uf, .null, .int 0, .int 0])), (uf, .inl (cL, 12, .inr (.inl (fun _ => 0))))] := hD
  refine lv_aload_n hx hb dX1_init_12 rfl (lv_at hl 0 rfl) ?_
  refine lv_bipush (v := 6) hx hb dX1_init_13 (by decide) ?_
  refine va_newa (atype := .int) (n := 6) (N' := 6) (a0 := (6, .inl (fun _ => 0))) (ty := .int) hx hb waint rfl hK hP hD hS hA (fun _ => rfl) (by decide) (by decide) (show 6 * 4 ≤ 536870912 by omega) (Nat.le_of_ble_eq_true rfl) (Nat.le_of_ble_eq_true rfl) dX1_init_15 (fun ul cA_2 H hK2 hP hD hS => ?_)
  have ecA_2 : cI = cA_2 := ct_cls (i := 0) (j := 3) hK2 rfl rfl rfl
  subst ecA_2
  clear hK2
  refine W.widen (k := 2) (n := 18) (by omega) (by omega) ?_
  have hP : va_P D vwCl [(aj, .inr (2, [.ref uf, .null, .int 0, .int 0])), (uf, .inl (cL, 12, .inr (.inl (fun _ => 0)))), (ul, .inl (cI, 6, .inl (fun _ => 0)))] H := hP
  have hD : va_D A [(aj, .inr (2, [.ref uf, .null, .int 0, .int 0])), (uf, .inl (cL, 12, .inr (.inl (fun _ => 0)))), (ul, .inl (cI, 6, .inl (fun _ => 0)))] := hD
  refine va_putF (D := D) (ci := 2) (v := .ref ul) (ty := (.array .int)) (C := RX1) (T := TX1) (N := 4) hx hb hts iX1 tyX1 tyX1_ok nmX1 hown hK hP hD hS 0 rfl rfl 1 (by decide) wf15 (fun _ h9 => h9) rfl hin rfl (by decide +kernel) rfl rfl (Nat.le_of_ble_eq_true rfl) dX1_init_17 (fun H locs hP hD hS => ?_)
  have hP : va_P D vwCl [(aj, .inr (2, [.ref uf, .ref ul, .int 0, .int 0])), (uf, .inl (cL, 12, .inr (.inl (fun _ => 0)))), (ul, .inl (cI, 6, .inl (fun _ => 0)))] H := hP
  have hD : va_D A [(aj, .inr (2, [.ref uf, .ref ul, .int 0, .int 0])), (uf, .inl (cL, 12, .inr (.inl (fun _ => 0)))), (ul, .inl (cI, 6, .inl (fun _ => 0)))] := hD
  refine lv_aload_n hx hb dX1_init_20 rfl (lv_at hl 0 rfl) ?_
  refine lv_iconst (v := 0) hx hb dX1_init_21 (by decide) ?_
  refine va_put (D := D) (ci := 2) (v := .int 0) (ty := .int) (C := RX1) (T := TX1) (N := 4) hx hb hts iX1 tyX1 tyX1_ok nmX1 hown hK hP hD hS 0 rfl rfl 2 (by decide) wf19 (fun _ h9 => h9) rfl (by decide +kernel) rfl rfl (Nat.le_of_ble_eq_true rfl) dX1_init_22 (fun H locs hP hD hS => ?_)
  have hP : va_P D vwCl [(aj, .inr (2, [.ref uf, .ref ul, .int 0, .int 0])), (uf, .inl (cL, 12, .inr (.inl (fun _ => 0)))), (ul, .inl (cI, 6, .inl (fun _ => 0)))] H := hP
  have hD : va_D A [(aj, .inr (2, [.ref uf, .ref ul, .int 0, .int 0])), (uf, .inl (cL, 12, .inr (.inl (fun _ => 0)))), (ul, .inl (cI, 6, .inl (fun _ => 0)))] := hD
  refine lv_aload_n hx hb dX1_init_25 rfl (lv_at hl 0 rfl) ?_
  refine lv_iconst (v := 0) hx hb dX1_init_26 (by decide) ?_
  refine va_put (D := D) (ci := 2) (v := .int 0) (ty := .int) (C := RX1) (T := TX1) (N := 4) hx hb hts iX1 tyX1 tyX1_ok nmX1 hown hK hP hD hS 0 rfl rfl 3 (by decide) wf23 (fun _ h9 => h9) rfl (by decide +kernel) rfl rfl (Nat.le_of_ble_eq_true rfl) dX1_init_27 (fun H locs hP hD hS => ?_)
  have hP : va_P D vwCl [(aj, .inr (2, [.ref uf, .ref ul, .int 0, .int 0])), (uf, .inl (cL, 12, .inr (.inl (fun _ => 0)))), (ul, .inl (cI, 6, .inl (fun _ => 0)))] H := hP
  have hD : va_D A [(aj, .inr (2, [.ref uf, .ref ul, .int 0, .int 0])), (uf, .inl (cL, 12, .inr (.inl (fun _ => 0)))), (ul, .inl (cI, 6, .inl (fun _ => 0)))] := hD
  have hP9 := hP.sub (ws' := [(aj, .inr (2, [.ref uf, .ref ul, .int 0, .int 0])), (uf, .inl (cL, 12, .inr (.inl (fun _ => 0)))), (ul, .inl (cI, 6, .inl (fun _ => 0)))]) [0, 1, 2] rfl
  have hD9 := hD.sub (ws' := [(aj, .inr (2, [.ref uf, .ref ul, .int 0, .int 0])), (uf, .inl (cL, 12, .inr (.inl (fun _ => 0)))), (ul, .inl (cI, 6, .inl (fun _ => 0)))]) [0, 1, 2] (by decide) rfl
  refine W.widen (k := 2) (n := 18) (Nat.le_of_ble_eq_true rfl) (Nat.le_of_ble_eq_true rfl) ?_
  exact W.vret hx hb hr (fun t9 ht9 hW9 => ⟨⟨(uf, ul), rfl, trivial, by rw [ht9]; exact hP9, va_K.moved hW9.alike hK, hD9⟩, hS.F ht9⟩) hS.2.2 dX1_init_30
abbrev rm_X1_hasFile : Room := { frames := 0, cells := 0, slots := 0, locals := 0 }
abbrev qc_X1_hasFile (D : va_G) (cI cL cZ : ClassId) (aj : Nat) (af : Nat) (al : Nat) (c : Nat) (f : Nat) (x : Int32) (A : Nat → Prop) : Array Value → State → Outcome → State → Prop := va_Qi (fun (r : Int32) (u : Unit) => ((if x < 0 ∨ nI f ≤ x then 0 else 1) = r)) (ct_B D vwCl [(cI, .int), (cL, .long), (cZ, .boolean)] A (fun (u : Unit) => [(aj, .inr (2, [.ref af, .ref al, .int (nI c), .int (nI f)]))])) A
set_option maxHeartbeats 4000000 in
set_option maxRecDepth 100000 in
theorem c_X1_hasFile (l : Launch) (D : va_G) (cI cL cZ : ClassId) (aj : Nat) (af : Nat) (al : Nat) (c : Nat) (f : Nat) (x : Int32) (sz : Nat)  : Met l yX1_hasFile wsX1_hasFile rm_X1_hasFile (va_Pc [.ref aj, .int x] (ct_P D vwCl [(cI, .int), (cL, .long), (cZ, .boolean)] [(aj, .inr (2, [.ref af, .ref al, .int (nI c), .int (nI f)]))] sz)) (qc_X1_hasFile D cI cL cZ aj af al c f x (va_A [(aj, .inr (2, [.ref af, .ref al, .int (nI c), .int (nI f)]))] sz)) 0 0 (va_A [(aj, .inr (2, [.ref af, .ref al, .int (nI c), .int (nI f)]))] sz) := by
  refine Met.ofW (cc := cX1_hasFile) (maxL := 2) (ret := (some .boolean)) (by decide) rfl ?_
  intro p e s m args below meth cd s₁ B hml hv
  obtain ⟨rfl, hsz, hP, hK, hD0⟩ := hv
  have hx := B.exec
  have hb := B.bytes
  have hr := B.returns
  have hts := atoms_spec (ws := wsX1_hasFile) B.pre
  have iX1 : ∀ w ∈ wsX10, w ∈ wsX1_hasFile := by decide +kernel
  have wf23 := hts (.fieldLink RX1 23 "CheckRestart$Job" "fileCount" "I") (by decide +kernel)
  have hown : s.vm.findClass RX1 = some m.cls := findClass_of_methodNamed B.named
  have hlocks := B.notSynchronized
  subst hsz
  have hD := hD0.self (sz := s.heap.size)
  generalize hAe : va_A [(aj, .inr (2, [.ref af, .ref al, .int (nI c), .int (nI f)]))] s.heap.size = A at hD ⊢
  have hA : ∀ q : Nat, s.heap.size ≤ q → A q := fun q h => by rw [← hAe]; exact Or.inr h
  have hS : va_S A s.heap s.heap [] := va_S.rf
  have hl := lv_entry ([.ref aj, .int x]) (n := 2) (Nat.le_of_ble_eq_true rfl)
  rw [lg_entry_eq]
  generalize (lg_sl ([.ref aj, .int x]) ++ List.replicate (2 - (lg_sl ([.ref aj, .int x])).length) Slot.unset).toArray = ls at hl ⊢
  have hl : lv_has ls 2 [(0, .ref aj), (1, .int x)] := hl
  refine lv_iload_n hx hb dX1_hasFile_0 rfl (lv_at hl 1 rfl) ?_
  refine lv_if_lt (tgt := 16) hx hb dX1_hasFile_1 (by decide) (fun c_1 => ?_) (fun c_1 => ?_)
  · refine lv_iconst (v := 0) hx hb dX1_hasFile_16 (by decide) ?_
    have hP9 := hP.sub (ws' := [(aj, .inr (2, [.ref af, .ref al, .int (nI c), .int (nI f)]))]) [0] rfl
    have hD9 := hD.sub (ws' := [(aj, .inr (2, [.ref af, .ref al, .int (nI c), .int (nI f)]))]) [0] (by decide) rfl
    refine W.widen (k := 0) (n := 0) (Nat.le_of_ble_eq_true rfl) (Nat.le_of_ble_eq_true rfl) ?_
    exact W.zret (v := 0) hx hb hr (rfl) (fun t9 ht9 hW9 => ⟨⟨0, (), rfl, by first | rfl | (simp [c_1]; done), by rw [ht9]; exact hP9, va_K.moved hW9.alike hK, hD9⟩, hS.F ht9⟩) hS.2.2 dX1_hasFile_17
  · refine lv_iload_n hx hb dX1_hasFile_4 rfl (lv_at hl 1 rfl) ?_
    refine lv_aload_n hx hb dX1_hasFile_5 rfl (lv_at hl 0 rfl) ?_
    refine va_get (D := D) (ci := 2) (v := .int (nI f)) (C := RX1) (T := TX1) (N := 4) hx hb hts iX1 hown hK hP 0 rfl rfl 3 (by decide) wf23 (fun _ h9 => h9) rfl dX1_hasFile_6 ?_
    refine lv_icmp_ge (tgt := 16) hx hb dX1_hasFile_9 (by decide) (fun c_9 => ?_) (fun c_9 => ?_)
    · refine lv_iconst (v := 0) hx hb dX1_hasFile_16 (by decide) ?_
      have hP9 := hP.sub (ws' := [(aj, .inr (2, [.ref af, .ref al, .int (nI c), .int (nI f)]))]) [0] rfl
      have hD9 := hD.sub (ws' := [(aj, .inr (2, [.ref af, .ref al, .int (nI c), .int (nI f)]))]) [0] (by decide) rfl
      refine W.widen (k := 0) (n := 0) (Nat.le_of_ble_eq_true rfl) (Nat.le_of_ble_eq_true rfl) ?_
      exact W.zret (v := 0) hx hb hr (rfl) (fun t9 ht9 hW9 => ⟨⟨0, (), rfl, by first | rfl | (simp [c_1, c_9]; done), by rw [ht9]; exact hP9, va_K.moved hW9.alike hK, hD9⟩, hS.F ht9⟩) hS.2.2 dX1_hasFile_17
    · refine lv_iconst (v := 1) hx hb dX1_hasFile_12 (by decide) ?_
      refine lv_goto (tgt := 17) hx hb dX1_hasFile_13 (by decide) ?_
      have hP9 := hP.sub (ws' := [(aj, .inr (2, [.ref af, .ref al, .int (nI c), .int (nI f)]))]) [0] rfl
      have hD9 := hD.sub (ws' := [(aj, .inr (2, [.ref af, .ref al, .int (nI c), .int (nI f)]))]) [0] (by decide) rfl
      refine W.widen (k := 0) (n := 0) (Nat.le_of_ble_eq_true rfl) (Nat.le_of_ble_eq_true rfl) ?_
      exact W.zret (v := 1) hx hb hr (rfl) (fun t9 ht9 hW9 => ⟨⟨1, (), rfl, by first | rfl | (simp [c_1, c_9]; done), by rw [ht9]; exact hP9, va_K.moved hW9.alike hK, hD9⟩, hS.F ht9⟩) hS.2.2 dX1_hasFile_17
abbrev rm_X2_init : Room := { frames := 1, cells := 2, slots := 18, locals := 12 }
abbrev qc_X2_init (D : va_G) (cI cL cZ : ClassId) (ap : Nat) (aj : Nat) (A : Nat → Prop) : Array Value → State → Outcome → State → Prop := va_Qv (fun (u : Nat × Nat) => True) (ct_B D vwCl [(cI, .int), (cL, .long), (cZ, .boolean)] A (fun (u : Nat × Nat) => [(ap, .inr (3, [.ref aj, .ref u.1, .ref u.2, .int 0])), (u.1, .inl (cL, 12, .inr (.inl (fun _ => 0)))), (u.2, .inl (cI, 6, .inl (fun _ => 0)))])) A
set_option maxHeartbeats 4000000 in
set_option maxRecDepth 100000 in
theorem c_X2_init (l : Launch) (D : va_G) (cI cL cZ : ClassId) (ap : Nat) (aj : Nat) (sz : Nat)  : Met l yX2_init wsX2_init rm_X2_init (va_Pc [.ref ap, .ref aj] (ct_P D vwCl [(cI, .int), (cL, .long), (cZ, .boolean)] [(ap, .inr (3, [.null, .null, .null, .int 0]))] sz)) (qc_X2_init D cI cL cZ ap aj (va_A [(ap, .inr (3, [.null, .null, .null, .int 0]))] sz)) 2 18 (va_A [(ap, .inr (3, [.null, .null, .null, .int 0]))] sz) := by
  refine Met.ofW (cc := cX2_init) (maxL := 2) (ret := none) (by decide) rfl ?_
  intro p e s m args below meth cd s₁ B hml hv
  obtain ⟨rfl, hsz, hP, hK, hD0⟩ := hv
  have hx := B.exec
  have hb := B.bytes
  have hr := B.returns
  have hts := atoms_spec (ws := wsX2_init) B.pre
  have wo1 := hts (.methodLink RX2 3 objectInit) (by decide +kernel)
  have wo2 := hts (.instanceMethod objectInit) (by decide +kernel)
  have wo3 := hts (.code objectInit ⟨#[0xb1]⟩ 1 none) (List.mem_of_getElem? (i := 3) rfl)
  have walong := hts (.arrayClass .long) (by decide +kernel)
  have iX2 : ∀ w ∈ wsX20, w ∈ wsX2_init := by decide +kernel
  have wf9 := hts (.fieldLink RX2 9 "CheckRestart$Progress" "cells" "[J") (by decide +kernel)
  have waint := hts (.arrayClass .int) (by decide +kernel)
  have wf15 := hts (.fieldLink RX2 15 "CheckRestart$Progress" "positions" "[I") (by decide +kernel)
  have wf19 := hts (.fieldLink RX2 19 "CheckRestart$Progress" "units" "I") (by decide +kernel)
  have wf23 := hts (.fieldLink RX2 23 "CheckRestart$Progress" "job" "LCheckRestart$Job;") (by decide +kernel)
  have hown : s.vm.findClass RX2 = some m.cls := findClass_of_methodNamed B.named
  have hlocks := B.notSynchronized
  have hin : meth.name = "<init>" := (name_of_methodNamed B.named B.method).1
  subst hsz
  have hD := hD0.self (sz := s.heap.size)
  generalize hAe : va_A [(ap, .inr (3, [.null, .null, .null, .int 0]))] s.heap.size = A at hD ⊢
  have hA : ∀ q : Nat, s.heap.size ≤ q → A q := fun q h => by rw [← hAe]; exact Or.inr h
  have hS : va_S A s.heap s.heap [] := va_S.rf
  have hl := lv_entry ([.ref ap, .ref aj]) (n := 2) (Nat.le_of_ble_eq_true rfl)
  rw [lg_entry_eq]
  generalize (lg_sl ([.ref ap, .ref aj]) ++ List.replicate (2 - (lg_sl ([.ref ap, .ref aj])).length) Slot.unset).toArray = ls at hl ⊢
  have hl : lv_has ls 2 [(0, .ref ap), (1, .ref aj)] := hl
  refine lv_aload_n hx hb dX2_init_0 rfl (lv_at hl 0 rfl) ?_
  refine W.objInit hx hb hown wo1 wo2 wo3 rfl (by rw [hml]; exact hl.1) rfl dX2_init_1 (Nat.le_of_ble_eq_true rfl) (Nat.le_of_ble_eq_true rfl) ?_
  refine W.eq (g2 := F0 m 4 ls []) rfl ?_
  refine lv_aload_n hx hb dX2_init_4 rfl (lv_at hl 0 rfl) ?_
  refine lv_bipush (v := 12) hx hb dX2_init_5 (by decide) ?_
  refine va_newa (atype := .long) (n := 12) (N' := 12) (a0 := (12, .inr (.inl (fun _ => 0)))) (ty := .long) hx hb walong rfl hK hP hD hS hA (fun _ => rfl) (by decide) (by decide) (show 12 * 8 ≤ 536870912 by omega) (Nat.le_of_ble_eq_true rfl) (Nat.le_of_ble_eq_true rfl) dX2_init_7 (fun uc cA_1 H hK2 hP hD hS => ?_)
  have ecA_1 : cL = cA_1 := ct_cls (i := 1) (j := 3) hK2 rfl rfl rfl
  subst ecA_1
  clear hK2
  refine W.widen (k := 1) (n := 12) (by omega) (by omega) ?_
  have hP : va_P D vwCl [(ap, .inr (3, [.null, .null, .null, .int 0])), (uc, .inl (cL, 12, .inr (.inl (fun _ => 0))))] H := hP
  have hD : va_D A [(ap, .inr (3, [.null, .null, .null, .int 0])), (uc, .inl (cL, 12, .inr (.inl (fun _ => 0))))] := hD
  refine va_putF (D := D) (ci := 3) (v := .ref uc) (ty := (.array .long)) (C := RX2) (T := TX2) (N := 4) hx hb hts iX2 tyX2 tyX2_ok nmX2 hown hK hP hD hS 0 rfl rfl 1 (by decide) wf9 (fun _ h9 => h9) rfl hin rfl (by decide +kernel) rfl rfl (Nat.le_of_ble_eq_true rfl) dX2_init_9 (fun H locs hP hD hS => ?_)
  have hP : va_P D vwCl [(ap, .inr (3, [.null, .ref uc, .null, .int 0])), (uc, .inl (cL, 12, .inr (.inl (fun _ => 0))))] H := hP
  have hD : va_D A [(ap, .inr (3, [.null, .ref uc, .null, .int 0])), (uc, .inl (cL, 12, .inr (.inl (fun _ => 0))))] := hD
  refine lv_aload_n hx hb dX2_init_12 rfl (lv_at hl 0 rfl) ?_
  refine lv_bipush (v := 6) hx hb dX2_init_13 (by decide) ?_
  refine va_newa (atype := .int) (n := 6) (N' := 6) (a0 := (6, .inl (fun _ => 0))) (ty := .int) hx hb waint rfl hK hP hD hS hA (fun _ => rfl) (by decide) (by decide) (show 6 * 4 ≤ 536870912 by omega) (Nat.le_of_ble_eq_true rfl) (Nat.le_of_ble_eq_true rfl) dX2_init_15 (fun up cA_2 H hK2 hP hD hS => ?_)
  have ecA_2 : cI = cA_2 := ct_cls (i := 0) (j := 3) hK2 rfl rfl rfl
  subst ecA_2
  clear hK2
  refine W.widen (k := 2) (n := 18) (by omega) (by omega) ?_
  have hP : va_P D vwCl [(ap, .inr (3, [.null, .ref uc, .null, .int 0])), (uc, .inl (cL, 12, .inr (.inl (fun _ => 0)))), (up, .inl (cI, 6, .inl (fun _ => 0)))] H := hP
  have hD : va_D A [(ap, .inr (3, [.null, .ref uc, .null, .int 0])), (uc, .inl (cL, 12, .inr (.inl (fun _ => 0)))), (up, .inl (cI, 6, .inl (fun _ => 0)))] := hD
  refine va_putF (D := D) (ci := 3) (v := .ref up) (ty := (.array .int)) (C := RX2) (T := TX2) (N := 4) hx hb hts iX2 tyX2 tyX2_ok nmX2 hown hK hP hD hS 0 rfl rfl 2 (by decide) wf15 (fun _ h9 => h9) rfl hin rfl (by decide +kernel) rfl rfl (Nat.le_of_ble_eq_true rfl) dX2_init_17 (fun H locs hP hD hS => ?_)
  have hP : va_P D vwCl [(ap, .inr (3, [.null, .ref uc, .ref up, .int 0])), (uc, .inl (cL, 12, .inr (.inl (fun _ => 0)))), (up, .inl (cI, 6, .inl (fun _ => 0)))] H := hP
  have hD : va_D A [(ap, .inr (3, [.null, .ref uc, .ref up, .int 0])), (uc, .inl (cL, 12, .inr (.inl (fun _ => 0)))), (up, .inl (cI, 6, .inl (fun _ => 0)))] := hD
  refine lv_aload_n hx hb dX2_init_20 rfl (lv_at hl 0 rfl) ?_
  refine lv_iconst (v := 0) hx hb dX2_init_21 (by decide) ?_
  refine va_put (D := D) (ci := 3) (v := .int 0) (ty := .int) (C := RX2) (T := TX2) (N := 4) hx hb hts iX2 tyX2 tyX2_ok nmX2 hown hK hP hD hS 0 rfl rfl 3 (by decide) wf19 (fun _ h9 => h9) rfl (by decide +kernel) rfl rfl (Nat.le_of_ble_eq_true rfl) dX2_init_22 (fun H locs hP hD hS => ?_)
  have hP : va_P D vwCl [(ap, .inr (3, [.null, .ref uc, .ref up, .int 0])), (uc, .inl (cL, 12, .inr (.inl (fun _ => 0)))), (up, .inl (cI, 6, .inl (fun _ => 0)))] H := hP
  have hD : va_D A [(ap, .inr (3, [.null, .ref uc, .ref up, .int 0])), (uc, .inl (cL, 12, .inr (.inl (fun _ => 0)))), (up, .inl (cI, 6, .inl (fun _ => 0)))] := hD
  refine lv_aload_n hx hb dX2_init_25 rfl (lv_at hl 0 rfl) ?_
  refine lv_aload_n hx hb dX2_init_26 rfl (lv_at hl 1 rfl) ?_
  refine va_putF (D := D) (ci := 3) (v := .ref aj) (ty := (.object "CheckRestart$Job")) (C := RX2) (T := TX2) (N := 4) hx hb hts iX2 tyX2 tyX2_ok nmX2 hown hK hP hD hS 0 rfl rfl 0 (by decide) wf23 (fun _ h9 => h9) rfl hin rfl (by decide +kernel) rfl rfl (Nat.le_of_ble_eq_true rfl) dX2_init_27 (fun H locs hP hD hS => ?_)
  have hP : va_P D vwCl [(ap, .inr (3, [.ref aj, .ref uc, .ref up, .int 0])), (uc, .inl (cL, 12, .inr (.inl (fun _ => 0)))), (up, .inl (cI, 6, .inl (fun _ => 0)))] H := hP
  have hD : va_D A [(ap, .inr (3, [.ref aj, .ref uc, .ref up, .int 0])), (uc, .inl (cL, 12, .inr (.inl (fun _ => 0)))), (up, .inl (cI, 6, .inl (fun _ => 0)))] := hD
  have hP9 := hP.sub (ws' := [(ap, .inr (3, [.ref aj, .ref uc, .ref up, .int 0])), (uc, .inl (cL, 12, .inr (.inl (fun _ => 0)))), (up, .inl (cI, 6, .inl (fun _ => 0)))]) [0, 1, 2] rfl
  have hD9 := hD.sub (ws' := [(ap, .inr (3, [.ref aj, .ref uc, .ref up, .int 0])), (uc, .inl (cL, 12, .inr (.inl (fun _ => 0)))), (up, .inl (cI, 6, .inl (fun _ => 0)))]) [0, 1, 2] (by decide) rfl
  refine W.widen (k := 2) (n := 18) (Nat.le_of_ble_eq_true rfl) (Nat.le_of_ble_eq_true rfl) ?_
  exact W.vret hx hb hr (fun t9 ht9 hW9 => ⟨⟨(uc, up), rfl, trivial, by rw [ht9]; exact hP9, va_K.moved hW9.alike hK, hD9⟩, hS.F ht9⟩) hS.2.2 dX2_init_30
end
section
abbrev rm_X2_startOver : Room := { frames := 0, cells := 0, slots := 0, locals := 0 }
abbrev qc_X2_startOver (D : va_G) (cI cL cZ : ClassId) (ap : Nat) (apc : Nat) (app : Nat) (cs : Nat → Int64) (ps : Nat → Int32) (aj : Nat) (af : Nat) (al : Nat) (c : Nat) (f : Nat) (fv : Nat → Int64) (ln : Nat → Int32) (u0 : Int32) (A : Nat → Prop) : Array Value → State → Outcome → State → Prop := va_Qv (fun (u : (Nat → Int64) × (Nat → Int32)) => (so_c cs fv c) = u.1 ∧ (so_p ps 6) = u.2) (ct_B D vwCl [(cI, .int), (cL, .long), (cZ, .boolean)] A (fun (u : (Nat → Int64) × (Nat → Int32)) => [(ap, .inr (3, [.ref aj, .ref apc, .ref app, .int 0])), (apc, .inl (cL, 12, .inr (.inl u.1))), (app, .inl (cI, 6, .inl u.2)), (aj, .inr (2, [.ref af, .ref al, .int (nI c), .int (nI f)])), (af, .inl (cL, 12, .inr (.inl fv))), (al, .inl (cI, 6, .inl ln))])) A
set_option maxHeartbeats 4000000 in
set_option maxRecDepth 100000 in
theorem c_X2_startOver (l : Launch) (D : va_G) (cI cL cZ : ClassId) (ap : Nat) (apc : Nat) (app : Nat) (cs : Nat → Int64) (ps : Nat → Int32) (aj : Nat) (af : Nat) (al : Nat) (c : Nat) (f : Nat) (fv : Nat → Int64) (ln : Nat → Int32) (u0 : Int32) (sz : Nat) (hc : c ≤ 12) : Met l yX2_startOver wsX2_startOver rm_X2_startOver (va_Pc [.ref ap] (ct_P D vwCl [(cI, .int), (cL, .long), (cZ, .boolean)] [(ap, .inr (3, [.ref aj, .ref apc, .ref app, .int u0])), (apc, .inl (cL, 12, .inr (.inl cs))), (app, .inl (cI, 6, .inl ps)), (aj, .inr (2, [.ref af, .ref al, .int (nI c), .int (nI f)])), (af, .inl (cL, 12, .inr (.inl fv))), (al, .inl (cI, 6, .inl ln))] sz)) (qc_X2_startOver D cI cL cZ ap apc app cs ps aj af al c f fv ln u0 (va_A [(ap, .inr (3, [.ref aj, .ref apc, .ref app, .int u0])), (apc, .inl (cL, 12, .inr (.inl cs))), (app, .inl (cI, 6, .inl ps)), (aj, .inr (2, [.ref af, .ref al, .int (nI c), .int (nI f)])), (af, .inl (cL, 12, .inr (.inl fv))), (al, .inl (cI, 6, .inl ln))] sz)) 0 0 (va_A [(ap, .inr (3, [.ref aj, .ref apc, .ref app, .int u0])), (apc, .inl (cL, 12, .inr (.inl cs))), (app, .inl (cI, 6, .inl ps)), (aj, .inr (2, [.ref af, .ref al, .int (nI c), .int (nI f)])), (af, .inl (cL, 12, .inr (.inl fv))), (al, .inl (cI, 6, .inl ln))] sz) := by
  refine Met.ofW (cc := cX2_startOver) (maxL := 2) (ret := none) (by decide) rfl ?_
  intro p e s m args below meth cd s₁ B hml hv
  obtain ⟨rfl, hsz, hP, hK, hD0⟩ := hv
  have hx := B.exec
  have hb := B.bytes
  have hr := B.returns
  have hts := atoms_spec (ws := wsX2_startOver) B.pre
  have iX2 : ∀ w ∈ wsX20, w ∈ wsX2_startOver := by decide +kernel
  have wf19 := hts (.fieldLink RX2 19 "CheckRestart$Progress" "units" "I") (by decide +kernel)
  have wf15 := hts (.fieldLink RX2 15 "CheckRestart$Progress" "positions" "[I") (by decide +kernel)
  have wf23 := hts (.fieldLink RX2 23 "CheckRestart$Progress" "job" "LCheckRestart$Job;") (by decide +kernel)
  have iX1 : ∀ w ∈ wsX10, w ∈ wsX2_startOver := by decide +kernel
  have wf27 := hts (.fieldLink RX2 27 "CheckRestart$Job" "cellCount" "I") (by decide +kernel)
  have wf9 := hts (.fieldLink RX2 9 "CheckRestart$Progress" "cells" "[J") (by decide +kernel)
  have wf32 := hts (.fieldLink RX2 32 "CheckRestart$Job" "firstValues" "[J") (by decide +kernel)
  have hown : s.vm.findClass RX2 = some m.cls := findClass_of_methodNamed B.named
  have hlocks := B.notSynchronized
  subst hsz
  have hD := hD0.self (sz := s.heap.size)
  generalize hAe : va_A [(ap, .inr (3, [.ref aj, .ref apc, .ref app, .int u0])), (apc, .inl (cL, 12, .inr (.inl cs))), (app, .inl (cI, 6, .inl ps)), (aj, .inr (2, [.ref af, .ref al, .int (nI c), .int (nI f)])), (af, .inl (cL, 12, .inr (.inl fv))), (al, .inl (cI, 6, .inl ln))] s.heap.size = A at hD ⊢
  have hA : ∀ q : Nat, s.heap.size ≤ q → A q := fun q h => by rw [← hAe]; exact Or.inr h
  have hS : va_S A s.heap s.heap [] := va_S.rf
  have hl := lv_entry ([.ref ap]) (n := 2) (Nat.le_of_ble_eq_true rfl)
  rw [lg_entry_eq]
  generalize (lg_sl ([.ref ap]) ++ List.replicate (2 - (lg_sl ([.ref ap])).length) Slot.unset).toArray = ls at hl ⊢
  have hl : lv_has ls 2 [(0, .ref ap)] := hl
  have key36 : ∀ (n : Nat) (i : Nat) (ps2 : Nat → Int32), (i ≤ 6) → (7 ≤ i + n) → (ps2 = so_p ps i) → ∀ (H : Heap) (locs : List Loc), va_P D vwCl [(ap, .inr (3, [.ref aj, .ref apc, .ref app, .int u0])), (apc, .inl (cL, 12, .inr (.inl (so_c cs fv c)))), (app, .inl (cI, 6, .inl ps2)), (aj, .inr (2, [.ref af, .ref al, .int (nI c), .int (nI f)])), (af, .inl (cL, 12, .inr (.inl fv))), (al, .inl (cI, 6, .inl ln))] H → va_D A [(ap, .inr (3, [.ref aj, .ref apc, .ref app, .int u0])), (apc, .inl (cL, 12, .inr (.inl (so_c cs fv c)))), (app, .inl (cI, 6, .inl ps2)), (aj, .inr (2, [.ref af, .ref al, .int (nI c), .int (nI f)])), (af, .inl (cL, 12, .inr (.inl fv))), (al, .inl (cI, 6, .inl ln))] → va_S A s.heap H locs → ∀ (ls : Array Slot), lv_has ls 2 [(1, .int (nI i)), (0, .ref ap)] → W p l e (headSpec wsX2_startOver rm_X2_startOver).room s m ([.ref ap] : List Value).toArray below meth cd H locs 0 0 (MQ below (qc_X2_startOver D cI cL cZ ap apc app cs ps aj af al c f fv ln u0 A) ([.ref ap] : List Value).toArray s 0 0 A) (F0 m 36 ls []) := by
    intro n
    induction n with
    | zero => intro i ps2 hi hm hps; exact absurd hm (by omega)
    | succ n ih =>
      intro i ps2 hi hm hps H locs hP hD hS ls hl
      refine lv_iload_n hx hb dX2_startOver_36 rfl (lv_at hl 0 rfl) ?_
      refine lv_bipush (v := 6) hx hb dX2_startOver_37 (by decide) ?_
      refine lv_icmp_ge (tgt := 55) hx hb dX2_startOver_39 (by decide) (fun c_39 => ?_) (fun c_39 => ?_)
      · have h1 : 6 ≤ i := (nI_leI (a := 6) (b := i) (by omega) (by omega)).mp c_39
        have h2 : i = 6 := by omega
        have hps : ps2 = so_p ps 6 := by rw [hps, h2]
        subst hps
        refine lv_aload_n hx hb dX2_startOver_55 rfl (lv_at hl 1 rfl) ?_
        refine lv_iconst (v := 0) hx hb dX2_startOver_56 (by decide) ?_
        refine va_put (D := D) (ci := 3) (v := .int 0) (ty := .int) (C := RX2) (T := TX2) (N := 4) hx hb hts iX2 tyX2 tyX2_ok nmX2 hown hK hP hD hS 0 rfl rfl 3 (by decide) wf19 (fun _ h9 => h9) rfl (by decide +kernel) rfl rfl (Nat.le_of_ble_eq_true rfl) dX2_startOver_57 (fun H locs hP hD hS => ?_)
        have hP : va_P D vwCl [(ap, .inr (3, [.ref aj, .ref apc, .ref app, .int 0])), (apc, .inl (cL, 12, .inr (.inl (so_c cs fv c)))), (app, .inl (cI, 6, .inl (so_p ps 6))), (aj, .inr (2, [.ref af, .ref al, .int (nI c), .int (nI f)])), (af, .inl (cL, 12, .inr (.inl fv))), (al, .inl (cI, 6, .inl ln))] H := hP
        have hD : va_D A [(ap, .inr (3, [.ref aj, .ref apc, .ref app, .int 0])), (apc, .inl (cL, 12, .inr (.inl (so_c cs fv c)))), (app, .inl (cI, 6, .inl (so_p ps 6))), (aj, .inr (2, [.ref af, .ref al, .int (nI c), .int (nI f)])), (af, .inl (cL, 12, .inr (.inl fv))), (al, .inl (cI, 6, .inl ln))] := hD
        have hP9 := hP.sub (ws' := [(ap, .inr (3, [.ref aj, .ref apc, .ref app, .int 0])), (apc, .inl (cL, 12, .inr (.inl (so_c cs fv c)))), (app, .inl (cI, 6, .inl (so_p ps 6))), (aj, .inr (2, [.ref af, .ref al, .int (nI c), .int (nI f)])), (af, .inl (cL, 12, .inr (.inl fv))), (al, .inl (cI, 6, .inl ln))]) [0, 1, 2, 3, 4, 5] rfl
        have hD9 := hD.sub (ws' := [(ap, .inr (3, [.ref aj, .ref apc, .ref app, .int 0])), (apc, .inl (cL, 12, .inr (.inl (so_c cs fv c)))), (app, .inl (cI, 6, .inl (so_p ps 6))), (aj, .inr (2, [.ref af, .ref al, .int (nI c), .int (nI f)])), (af, .inl (cL, 12, .inr (.inl fv))), (al, .inl (cI, 6, .inl ln))]) [0, 1, 2, 3, 4, 5] (by decide) rfl
        refine W.widen (k := 0) (n := 0) (Nat.le_of_ble_eq_true rfl) (Nat.le_of_ble_eq_true rfl) ?_
        exact W.vret hx hb hr (fun t9 ht9 hW9 => ⟨⟨((so_c cs fv c), (so_p ps 6)), rfl, ⟨rfl, rfl⟩, by rw [ht9]; exact hP9, va_K.moved hW9.alike hK, hD9⟩, hS.F ht9⟩) hS.2.2 dX2_startOver_60
      · have h1 : ¬ 6 ≤ i := fun h => c_39 ((nI_leI (a := 6) (b := i) (by omega) (by omega)).mpr h)
        refine lv_aload_n hx hb dX2_startOver_42 rfl (lv_at hl 1 rfl) ?_
        refine va_get (D := D) (ci := 3) (v := .ref app) (C := RX2) (T := TX2) (N := 4) hx hb hts iX2 hown hK hP 0 rfl rfl 2 (by decide) wf15 (fun _ h9 => h9) rfl dX2_startOver_43 ?_
        refine lv_iload_n hx hb dX2_startOver_46 rfl (lv_at hl 0 rfl) ?_
        refine lv_iconst (v := 0) hx hb dX2_startOver_47 (by decide) ?_
        refine ct_iast (k := i) hx hb hK hP hD hS 2 0 rfl rfl (by omega) (by decide) dX2_startOver_48 (fun H locs hP hD hS => ?_)
        have hP : va_P D vwCl [(ap, .inr (3, [.ref aj, .ref apc, .ref app, .int u0])), (apc, .inl (cL, 12, .inr (.inl (so_c cs fv c)))), (app, .inl (cI, 6, .inl (upd ps2 i 0))), (aj, .inr (2, [.ref af, .ref al, .int (nI c), .int (nI f)])), (af, .inl (cL, 12, .inr (.inl fv))), (al, .inl (cI, 6, .inl ln))] H := hP
        have hD : va_D A [(ap, .inr (3, [.ref aj, .ref apc, .ref app, .int u0])), (apc, .inl (cL, 12, .inr (.inl (so_c cs fv c)))), (app, .inl (cI, 6, .inl (upd ps2 i 0))), (aj, .inr (2, [.ref af, .ref al, .int (nI c), .int (nI f)])), (af, .inl (cL, 12, .inr (.inl fv))), (al, .inl (cI, 6, .inl ln))] := hD
        refine lv_iinc (v := (nI (i + 1))) (lv' := [(1, .int (nI (i + 1))), (0, .ref ap)]) hx hb dX2_startOver_49 hl (k := 0) rfl (nI_1 i) (by decide) rfl (fun ls hl => ?_)
        refine lv_goto (tgt := 36) hx hb dX2_startOver_52 (by decide) ?_
        exact ih ((i + 1)) (upd ps2 i 0) (by omega) (by omega) (by rw [hps]; exact so_p_step ps i) _ _ (hP.sub [0, 1, 2, 3, 4, 5] rfl) (hD.sub [0, 1, 2, 3, 4, 5] (by decide) rfl) hS ls (lv_sub hl [0, 1] rfl)
  have key2 : ∀ (n : Nat) (i : Nat) (cs2 : Nat → Int64), (i ≤ c) → (c + 1 ≤ i + n) → (cs2 = so_c cs fv i) → ∀ (H : Heap) (locs : List Loc), va_P D vwCl [(ap, .inr (3, [.ref aj, .ref apc, .ref app, .int u0])), (apc, .inl (cL, 12, .inr (.inl cs2))), (app, .inl (cI, 6, .inl ps)), (aj, .inr (2, [.ref af, .ref al, .int (nI c), .int (nI f)])), (af, .inl (cL, 12, .inr (.inl fv))), (al, .inl (cI, 6, .inl ln))] H → va_D A [(ap, .inr (3, [.ref aj, .ref apc, .ref app, .int u0])), (apc, .inl (cL, 12, .inr (.inl cs2))), (app, .inl (cI, 6, .inl ps)), (aj, .inr (2, [.ref af, .ref al, .int (nI c), .int (nI f)])), (af, .inl (cL, 12, .inr (.inl fv))), (al, .inl (cI, 6, .inl ln))] → va_S A s.heap H locs → ∀ (ls : Array Slot), lv_has ls 2 [(1, .int (nI i)), (0, .ref ap)] → W p l e (headSpec wsX2_startOver rm_X2_startOver).room s m ([.ref ap] : List Value).toArray below meth cd H locs 0 0 (MQ below (qc_X2_startOver D cI cL cZ ap apc app cs ps aj af al c f fv ln u0 A) ([.ref ap] : List Value).toArray s 0 0 A) (F0 m 2 ls []) := by
    intro n
    induction n with
    | zero => intro i cs2 hi hm hcs; exact absurd hm (by omega)
    | succ n ih =>
      intro i cs2 hi hm hcs H locs hP hD hS ls hl
      refine lv_iload_n hx hb dX2_startOver_2 rfl (lv_at hl 0 rfl) ?_
      refine lv_aload_n hx hb dX2_startOver_3 rfl (lv_at hl 1 rfl) ?_
      refine va_get (D := D) (ci := 3) (v := .ref aj) (C := RX2) (T := TX2) (N := 4) hx hb hts iX2 hown hK hP 0 rfl rfl 0 (by decide) wf23 (fun _ h9 => h9) rfl dX2_startOver_4 ?_
      refine va_get (D := D) (ci := 2) (v := .int (nI c)) (C := RX1) (T := TX1) (N := 4) hx hb hts iX1 hown hK hP 3 rfl rfl 2 (by decide) wf27 (fun _ h9 => h9) rfl dX2_startOver_7 ?_
      refine lv_icmp_ge (tgt := 34) hx hb dX2_startOver_10 (by decide) (fun c_10 => ?_) (fun c_10 => ?_)
      · have h1 : c ≤ i := (nI_leI (by omega) (by omega)).mp c_10
        have h2 : i = c := by omega
        have hcs : cs2 = so_c cs fv c := by rw [hcs, h2]
        subst hcs
        refine lv_iconst (v := 0) hx hb dX2_startOver_34 (by decide) ?_
        refine lv_istore_n (lv' := [(1, .int 0), (0, .ref ap)]) hx hb dX2_startOver_35 rfl hl (by decide) rfl (fun ls hl => ?_)
        exact key36 7 0 ps (by omega) (by omega) (so_p_0 ps) _ _ (hP.sub [0, 1, 2, 3, 4, 5] rfl) (hD.sub [0, 1, 2, 3, 4, 5] (by decide) rfl) hS ls (lv_sub hl [0, 1] rfl)
      · have h1 : ¬ c ≤ i := fun h => c_10 ((nI_leI (by omega) (by omega)).mpr h)
        refine lv_aload_n hx hb dX2_startOver_13 rfl (lv_at hl 1 rfl) ?_
        refine va_get (D := D) (ci := 3) (v := .ref apc) (C := RX2) (T := TX2) (N := 4) hx hb hts iX2 hown hK hP 0 rfl rfl 1 (by decide) wf9 (fun _ h9 => h9) rfl dX2_startOver_14 ?_
        refine lv_iload_n hx hb dX2_startOver_17 rfl (lv_at hl 0 rfl) ?_
        refine lv_aload_n hx hb dX2_startOver_18 rfl (lv_at hl 1 rfl) ?_
        refine va_get (D := D) (ci := 3) (v := .ref aj) (C := RX2) (T := TX2) (N := 4) hx hb hts iX2 hown hK hP 0 rfl rfl 0 (by decide) wf23 (fun _ h9 => h9) rfl dX2_startOver_19 ?_
        refine va_get (D := D) (ci := 2) (v := .ref af) (C := RX1) (T := TX1) (N := 4) hx hb hts iX1 hown hK hP 3 rfl rfl 0 (by decide) wf32 (fun _ h9 => h9) rfl dX2_startOver_22 ?_
        refine lv_iload_n hx hb dX2_startOver_25 rfl (lv_at hl 0 rfl) ?_
        refine ct_lald (k := i) hx hb hK hP 4 1 rfl rfl (by omega) (by decide) dX2_startOver_26 ?_
        refine ct_last (k := i) hx hb hK hP hD hS 1 1 rfl rfl (by omega) (by decide) dX2_startOver_27 (fun H locs hP hD hS => ?_)
        have hP : va_P D vwCl [(ap, .inr (3, [.ref aj, .ref apc, .ref app, .int u0])), (apc, .inl (cL, 12, .inr (.inl (vp_updL cs2 i (fv i))))), (app, .inl (cI, 6, .inl ps)), (aj, .inr (2, [.ref af, .ref al, .int (nI c), .int (nI f)])), (af, .inl (cL, 12, .inr (.inl fv))), (al, .inl (cI, 6, .inl ln))] H := hP
        have hD : va_D A [(ap, .inr (3, [.ref aj, .ref apc, .ref app, .int u0])), (apc, .inl (cL, 12, .inr (.inl (vp_updL cs2 i (fv i))))), (app, .inl (cI, 6, .inl ps)), (aj, .inr (2, [.ref af, .ref al, .int (nI c), .int (nI f)])), (af, .inl (cL, 12, .inr (.inl fv))), (al, .inl (cI, 6, .inl ln))] := hD
        refine lv_iinc (v := (nI (i + 1))) (lv' := [(1, .int (nI (i + 1))), (0, .ref ap)]) hx hb dX2_startOver_28 hl (k := 0) rfl (nI_1 i) (by decide) rfl (fun ls hl => ?_)
        refine lv_goto (tgt := 2) hx hb dX2_startOver_31 (by decide) ?_
        exact ih ((i + 1)) (vp_updL cs2 i (fv i)) (by omega) (by omega) (by rw [hcs]; exact so_c_step cs fv i) _ _ (hP.sub [0, 1, 2, 3, 4, 5] rfl) (hD.sub [0, 1, 2, 3, 4, 5] (by decide) rfl) hS ls (lv_sub hl [0, 1] rfl)
  refine lv_iconst (v := 0) hx hb dX2_startOver_0 (by decide) ?_
  refine lv_istore_n (lv' := [(1, .int 0), (0, .ref ap)]) hx hb dX2_startOver_1 rfl hl (by decide) rfl (fun ls hl => ?_)
  exact key2 (c + 1) 0 cs (by omega) (by omega) (so_c_0 cs fv) _ _ (hP.sub [0, 1, 2, 3, 4, 5] rfl) (hD.sub [0, 1, 2, 3, 4, 5] (by decide) rfl) hS ls (lv_sub hl [0, 1] rfl)
abbrev rm_X2_isEnded : Room := { frames := 0, cells := 0, slots := 0, locals := 0 }
abbrev qc_X2_isEnded (D : va_G) (cI cL cZ : ClassId) (ap : Nat) (apc : Nat) (app : Nat) (cs : Nat → Int64) (ps : Nat → Int32) (aj : Nat) (af : Nat) (al : Nat) (c : Nat) (f : Nat) (fv : Nat → Int64) (ln : Nat → Int32) (u0 : Int32) (A : Nat → Prop) : Array Value → State → Outcome → State → Prop := va_Qi (fun (r : Int32) (u : Unit) => (ie_r f ps ln) = r) (ct_B D vwCl [(cI, .int), (cL, .long), (cZ, .boolean)] A (fun (u : Unit) => [(ap, .inr (3, [.ref aj, .ref apc, .ref app, .int u0])), (apc, .inl (cL, 12, .inr (.inl cs))), (app, .inl (cI, 6, .inl ps)), (aj, .inr (2, [.ref af, .ref al, .int (nI c), .int (nI f)])), (af, .inl (cL, 12, .inr (.inl fv))), (al, .inl (cI, 6, .inl ln))])) A
set_option maxHeartbeats 4000000 in
set_option maxRecDepth 100000 in
theorem c_X2_isEnded (l : Launch) (D : va_G) (cI cL cZ : ClassId) (ap : Nat) (apc : Nat) (app : Nat) (cs : Nat → Int64) (ps : Nat → Int32) (aj : Nat) (af : Nat) (al : Nat) (c : Nat) (f : Nat) (fv : Nat → Int64) (ln : Nat → Int32) (u0 : Int32) (sz : Nat) (hf : f ≤ 6) : Met l yX2_isEnded wsX2_isEnded rm_X2_isEnded (va_Pc [.ref ap] (ct_P D vwCl [(cI, .int), (cL, .long), (cZ, .boolean)] [(ap, .inr (3, [.ref aj, .ref apc, .ref app, .int u0])), (apc, .inl (cL, 12, .inr (.inl cs))), (app, .inl (cI, 6, .inl ps)), (aj, .inr (2, [.ref af, .ref al, .int (nI c), .int (nI f)])), (af, .inl (cL, 12, .inr (.inl fv))), (al, .inl (cI, 6, .inl ln))] sz)) (qc_X2_isEnded D cI cL cZ ap apc app cs ps aj af al c f fv ln u0 (va_A [(ap, .inr (3, [.ref aj, .ref apc, .ref app, .int u0])), (apc, .inl (cL, 12, .inr (.inl cs))), (app, .inl (cI, 6, .inl ps)), (aj, .inr (2, [.ref af, .ref al, .int (nI c), .int (nI f)])), (af, .inl (cL, 12, .inr (.inl fv))), (al, .inl (cI, 6, .inl ln))] sz)) 0 0 (va_A [(ap, .inr (3, [.ref aj, .ref apc, .ref app, .int u0])), (apc, .inl (cL, 12, .inr (.inl cs))), (app, .inl (cI, 6, .inl ps)), (aj, .inr (2, [.ref af, .ref al, .int (nI c), .int (nI f)])), (af, .inl (cL, 12, .inr (.inl fv))), (al, .inl (cI, 6, .inl ln))] sz) := by
  refine Met.ofW (cc := cX2_isEnded) (maxL := 2) (ret := (some .boolean)) (by decide) rfl ?_
  intro p e s m args below meth cd s₁ B hml hv
  obtain ⟨rfl, hsz, hP, hK, hD0⟩ := hv
  have hx := B.exec
  have hb := B.bytes
  have hr := B.returns
  have hts := atoms_spec (ws := wsX2_isEnded) B.pre
  have iX2 : ∀ w ∈ wsX20, w ∈ wsX2_isEnded := by decide +kernel
  have wf23 := hts (.fieldLink RX2 23 "CheckRestart$Progress" "job" "LCheckRestart$Job;") (by decide +kernel)
  have iX1 : ∀ w ∈ wsX10, w ∈ wsX2_isEnded := by decide +kernel
  have wf35 := hts (.fieldLink RX2 35 "CheckRestart$Job" "fileCount" "I") (by decide +kernel)
  have wf15 := hts (.fieldLink RX2 15 "CheckRestart$Progress" "positions" "[I") (by decide +kernel)
  have wf38 := hts (.fieldLink RX2 38 "CheckRestart$Job" "lengths" "[I") (by decide +kernel)
  have hown : s.vm.findClass RX2 = some m.cls := findClass_of_methodNamed B.named
  have hlocks := B.notSynchronized
  subst hsz
  have hD := hD0.self (sz := s.heap.size)
  generalize hAe : va_A [(ap, .inr (3, [.ref aj, .ref apc, .ref app, .int u0])), (apc, .inl (cL, 12, .inr (.inl cs))), (app, .inl (cI, 6, .inl ps)), (aj, .inr (2, [.ref af, .ref al, .int (nI c), .int (nI f)])), (af, .inl (cL, 12, .inr (.inl fv))), (al, .inl (cI, 6, .inl ln))] s.heap.size = A at hD ⊢
  have hA : ∀ q : Nat, s.heap.size ≤ q → A q := fun q h => by rw [← hAe]; exact Or.inr h
  have hS : va_S A s.heap s.heap [] := va_S.rf
  have hl := lv_entry ([.ref ap]) (n := 2) (Nat.le_of_ble_eq_true rfl)
  rw [lg_entry_eq]
  generalize (lg_sl ([.ref ap]) ++ List.replicate (2 - (lg_sl ([.ref ap])).length) Slot.unset).toArray = ls at hl ⊢
  have hl : lv_has ls 2 [(0, .ref ap)] := hl
  have key2 : ∀ (n : Nat) (i : Nat), (i ≤ f) → (f + 1 ≤ i + n) → (∀ j, j < i → ln j ≤ ps j) → ∀ (H : Heap) (locs : List Loc), va_P D vwCl [(ap, .inr (3, [.ref aj, .ref apc, .ref app, .int u0])), (apc, .inl (cL, 12, .inr (.inl cs))), (app, .inl (cI, 6, .inl ps)), (aj, .inr (2, [.ref af, .ref al, .int (nI c), .int (nI f)])), (af, .inl (cL, 12, .inr (.inl fv))), (al, .inl (cI, 6, .inl ln))] H → va_D A [(ap, .inr (3, [.ref aj, .ref apc, .ref app, .int u0])), (apc, .inl (cL, 12, .inr (.inl cs))), (app, .inl (cI, 6, .inl ps)), (aj, .inr (2, [.ref af, .ref al, .int (nI c), .int (nI f)])), (af, .inl (cL, 12, .inr (.inl fv))), (al, .inl (cI, 6, .inl ln))] → va_S A s.heap H locs → ∀ (ls : Array Slot), lv_has ls 2 [(1, .int (nI i)), (0, .ref ap)] → W p l e (headSpec wsX2_isEnded rm_X2_isEnded).room s m ([.ref ap] : List Value).toArray below meth cd H locs 0 0 (MQ below (qc_X2_isEnded D cI cL cZ ap apc app cs ps aj af al c f fv ln u0 A) ([.ref ap] : List Value).toArray s 0 0 A) (F0 m 2 ls []) := by
    intro n
    induction n with
    | zero => intro i hi hm hall; exact absurd hm (by omega)
    | succ n ih =>
      intro i hi hm hall H locs hP hD hS ls hl
      refine lv_iload_n hx hb dX2_isEnded_2 rfl (lv_at hl 0 rfl) ?_
      refine lv_aload_n hx hb dX2_isEnded_3 rfl (lv_at hl 1 rfl) ?_
      refine va_get (D := D) (ci := 3) (v := .ref aj) (C := RX2) (T := TX2) (N := 4) hx hb hts iX2 hown hK hP 0 rfl rfl 0 (by decide) wf23 (fun _ h9 => h9) rfl dX2_isEnded_4 ?_
      refine va_get (D := D) (ci := 2) (v := .int (nI f)) (C := RX1) (T := TX1) (N := 4) hx hb hts iX1 hown hK hP 3 rfl rfl 3 (by decide) wf35 (fun _ h9 => h9) rfl dX2_isEnded_7 ?_
      refine lv_icmp_ge (tgt := 39) hx hb dX2_isEnded_10 (by decide) (fun c_10 => ?_) (fun c_10 => ?_)
      · have h1 : f ≤ i := (nI_leI (by omega) (by omega)).mp c_10
        have h2 : i = f := by omega
        refine lv_iconst (v := 1) hx hb dX2_isEnded_39 (by decide) ?_
        have hP9 := hP.sub (ws' := [(ap, .inr (3, [.ref aj, .ref apc, .ref app, .int u0])), (apc, .inl (cL, 12, .inr (.inl cs))), (app, .inl (cI, 6, .inl ps)), (aj, .inr (2, [.ref af, .ref al, .int (nI c), .int (nI f)])), (af, .inl (cL, 12, .inr (.inl fv))), (al, .inl (cI, 6, .inl ln))]) [0, 1, 2, 3, 4, 5] rfl
        have hD9 := hD.sub (ws' := [(ap, .inr (3, [.ref aj, .ref apc, .ref app, .int u0])), (apc, .inl (cL, 12, .inr (.inl cs))), (app, .inl (cI, 6, .inl ps)), (aj, .inr (2, [.ref af, .ref al, .int (nI c), .int (nI f)])), (af, .inl (cL, 12, .inr (.inl fv))), (al, .inl (cI, 6, .inl ln))]) [0, 1, 2, 3, 4, 5] (by decide) rfl
        refine W.widen (k := 0) (n := 0) (Nat.le_of_ble_eq_true rfl) (Nat.le_of_ble_eq_true rfl) ?_
        exact W.zret (v := 1) hx hb hr (rfl) (fun t9 ht9 hW9 => ⟨⟨1, (), rfl, ie_yes (by rw [← h2]; exact hall), by rw [ht9]; exact hP9, va_K.moved hW9.alike hK, hD9⟩, hS.F ht9⟩) hS.2.2 dX2_isEnded_40
      · have h1 : ¬ f ≤ i := fun h => c_10 ((nI_leI (by omega) (by omega)).mpr h)
        refine lv_aload_n hx hb dX2_isEnded_13 rfl (lv_at hl 1 rfl) ?_
        refine va_get (D := D) (ci := 3) (v := .ref app) (C := RX2) (T := TX2) (N := 4) hx hb hts iX2 hown hK hP 0 rfl rfl 2 (by decide) wf15 (fun _ h9 => h9) rfl dX2_isEnded_14 ?_
        refine lv_iload_n hx hb dX2_isEnded_17 rfl (lv_at hl 0 rfl) ?_
        refine ct_iald (k := i) hx hb hK hP 2 0 rfl rfl (by omega) (by decide) dX2_isEnded_18 ?_
        refine lv_aload_n hx hb dX2_isEnded_19 rfl (lv_at hl 1 rfl) ?_
        refine va_get (D := D) (ci := 3) (v := .ref aj) (C := RX2) (T := TX2) (N := 4) hx hb hts iX2 hown hK hP 0 rfl rfl 0 (by decide) wf23 (fun _ h9 => h9) rfl dX2_isEnded_20 ?_
        refine va_get (D := D) (ci := 2) (v := .ref al) (C := RX1) (T := TX1) (N := 4) hx hb hts iX1 hown hK hP 3 rfl rfl 1 (by decide) wf38 (fun _ h9 => h9) rfl dX2_isEnded_23 ?_
        refine lv_iload_n hx hb dX2_isEnded_26 rfl (lv_at hl 0 rfl) ?_
        refine ct_iald (k := i) hx hb hK hP 5 0 rfl rfl (by omega) (by decide) dX2_isEnded_27 ?_
        refine lv_icmp_ge (tgt := 33) hx hb dX2_isEnded_28 (by decide) (fun c_28 => ?_) (fun c_28 => ?_)
        · refine lv_iinc (v := (nI (i + 1))) (lv' := [(1, .int (nI (i + 1))), (0, .ref ap)]) hx hb dX2_isEnded_33 hl (k := 0) rfl (nI_1 i) (by decide) rfl (fun ls hl => ?_)
          refine lv_goto (tgt := 2) hx hb dX2_isEnded_36 (by decide) ?_
          exact ih ((i + 1)) (by omega) (by omega) (lt_s hall c_28) _ _ (hP.sub [0, 1, 2, 3, 4, 5] rfl) (hD.sub [0, 1, 2, 3, 4, 5] (by decide) rfl) hS ls (lv_sub hl [0, 1] rfl)
        · refine lv_iconst (v := 0) hx hb dX2_isEnded_31 (by decide) ?_
          have hP9 := hP.sub (ws' := [(ap, .inr (3, [.ref aj, .ref apc, .ref app, .int u0])), (apc, .inl (cL, 12, .inr (.inl cs))), (app, .inl (cI, 6, .inl ps)), (aj, .inr (2, [.ref af, .ref al, .int (nI c), .int (nI f)])), (af, .inl (cL, 12, .inr (.inl fv))), (al, .inl (cI, 6, .inl ln))]) [0, 1, 2, 3, 4, 5] rfl
          have hD9 := hD.sub (ws' := [(ap, .inr (3, [.ref aj, .ref apc, .ref app, .int u0])), (apc, .inl (cL, 12, .inr (.inl cs))), (app, .inl (cI, 6, .inl ps)), (aj, .inr (2, [.ref af, .ref al, .int (nI c), .int (nI f)])), (af, .inl (cL, 12, .inr (.inl fv))), (al, .inl (cI, 6, .inl ln))]) [0, 1, 2, 3, 4, 5] (by decide) rfl
          refine W.widen (k := 0) (n := 0) (Nat.le_of_ble_eq_true rfl) (Nat.le_of_ble_eq_true rfl) ?_
          exact W.zret (v := 0) hx hb hr (rfl) (fun t9 ht9 hW9 => ⟨⟨0, (), rfl, ie_no (by omega) c_28, by rw [ht9]; exact hP9, va_K.moved hW9.alike hK, hD9⟩, hS.F ht9⟩) hS.2.2 dX2_isEnded_32
  refine lv_iconst (v := 0) hx hb dX2_isEnded_0 (by decide) ?_
  refine lv_istore_n (lv' := [(1, .int 0), (0, .ref ap)]) hx hb dX2_isEnded_1 rfl hl (by decide) rfl (fun ls hl => ?_)
  exact key2 (f + 1) 0 (by omega) (by omega) lt_0 _ _ (hP.sub [0, 1, 2, 3, 4, 5] rfl) (hD.sub [0, 1, 2, 3, 4, 5] (by decide) rfl) hS ls (lv_sub hl [0, 1] rfl)
abbrev rm_X2_readRecord : Room := { frames := 0, cells := 0, slots := 0, locals := 0 }
abbrev qc_X2_readRecord (D : va_G) (cI cL cZ : ClassId) (ap : Nat) (apc : Nat) (app : Nat) (cs : Nat → Int64) (ps : Nat → Int32) (aj : Nat) (af : Nat) (al : Nat) (c : Nat) (f : Nat) (fv : Nat → Int64) (ln : Nat → Int32) (u0 : Int32) (t : Nat) (A : Nat → Prop) : Array Value → State → Outcome → State → Prop := va_Ql (fun (r : Int64) (u : (Nat → Int32)) => (rd_v t f ps ln) = r ∧ (rd_p t f ps ln) = u) (ct_B D vwCl [(cI, .int), (cL, .long), (cZ, .boolean)] A (fun (u : (Nat → Int32)) => [(ap, .inr (3, [.ref aj, .ref apc, .ref app, .int u0])), (apc, .inl (cL, 12, .inr (.inl cs))), (app, .inl (cI, 6, .inl u)), (aj, .inr (2, [.ref af, .ref al, .int (nI c), .int (nI f)])), (af, .inl (cL, 12, .inr (.inl fv))), (al, .inl (cI, 6, .inl ln))])) A
set_option maxHeartbeats 4000000 in
set_option maxRecDepth 100000 in
theorem c_X2_readRecord (l : Launch) (D : va_G) (cI cL cZ : ClassId) (ap : Nat) (apc : Nat) (app : Nat) (cs : Nat → Int64) (ps : Nat → Int32) (aj : Nat) (af : Nat) (al : Nat) (c : Nat) (f : Nat) (fv : Nat → Int64) (ln : Nat → Int32) (u0 : Int32) (t : Nat) (sz : Nat) (hf : f ≤ 6) (ht : t < 2 ^ 31) : Met l yX2_readRecord wsX2_readRecord rm_X2_readRecord (va_Pc [.ref ap, .int (nI t)] (ct_P D vwCl [(cI, .int), (cL, .long), (cZ, .boolean)] [(ap, .inr (3, [.ref aj, .ref apc, .ref app, .int u0])), (apc, .inl (cL, 12, .inr (.inl cs))), (app, .inl (cI, 6, .inl ps)), (aj, .inr (2, [.ref af, .ref al, .int (nI c), .int (nI f)])), (af, .inl (cL, 12, .inr (.inl fv))), (al, .inl (cI, 6, .inl ln))] sz)) (qc_X2_readRecord D cI cL cZ ap apc app cs ps aj af al c f fv ln u0 t (va_A [(ap, .inr (3, [.ref aj, .ref apc, .ref app, .int u0])), (apc, .inl (cL, 12, .inr (.inl cs))), (app, .inl (cI, 6, .inl ps)), (aj, .inr (2, [.ref af, .ref al, .int (nI c), .int (nI f)])), (af, .inl (cL, 12, .inr (.inl fv))), (al, .inl (cI, 6, .inl ln))] sz)) 0 0 (va_A [(ap, .inr (3, [.ref aj, .ref apc, .ref app, .int u0])), (apc, .inl (cL, 12, .inr (.inl cs))), (app, .inl (cI, 6, .inl ps)), (aj, .inr (2, [.ref af, .ref al, .int (nI c), .int (nI f)])), (af, .inl (cL, 12, .inr (.inl fv))), (al, .inl (cI, 6, .inl ln))] sz) := by
  refine Met.ofW (cc := cX2_readRecord) (maxL := 4) (ret := (some .long)) (by decide) rfl ?_
  intro p e s m args below meth cd s₁ B hml hv
  obtain ⟨rfl, hsz, hP, hK, hD0⟩ := hv
  have hx := B.exec
  have hb := B.bytes
  have hr := B.returns
  have hts := atoms_spec (ws := wsX2_readRecord) B.pre
  have iX2 : ∀ w ∈ wsX20, w ∈ wsX2_readRecord := by decide +kernel
  have wf23 := hts (.fieldLink RX2 23 "CheckRestart$Progress" "job" "LCheckRestart$Job;") (by decide +kernel)
  have iX1 : ∀ w ∈ wsX10, w ∈ wsX2_readRecord := by decide +kernel
  have wf35 := hts (.fieldLink RX2 35 "CheckRestart$Job" "fileCount" "I") (by decide +kernel)
  have wf15 := hts (.fieldLink RX2 15 "CheckRestart$Progress" "positions" "[I") (by decide +kernel)
  have wf38 := hts (.fieldLink RX2 38 "CheckRestart$Job" "lengths" "[I") (by decide +kernel)
  have wk45 := hts (.constantLong RX2 45 1000) (by decide +kernel)
  have hown : s.vm.findClass RX2 = some m.cls := findClass_of_methodNamed B.named
  have hlocks := B.notSynchronized
  subst hsz
  have hD := hD0.self (sz := s.heap.size)
  generalize hAe : va_A [(ap, .inr (3, [.ref aj, .ref apc, .ref app, .int u0])), (apc, .inl (cL, 12, .inr (.inl cs))), (app, .inl (cI, 6, .inl ps)), (aj, .inr (2, [.ref af, .ref al, .int (nI c), .int (nI f)])), (af, .inl (cL, 12, .inr (.inl fv))), (al, .inl (cI, 6, .inl ln))] s.heap.size = A at hD ⊢
  have hA : ∀ q : Nat, s.heap.size ≤ q → A q := fun q h => by rw [← hAe]; exact Or.inr h
  have hS : va_S A s.heap s.heap [] := va_S.rf
  have hl := lv_entry ([.ref ap, .int (nI t)]) (n := 4) (Nat.le_of_ble_eq_true rfl)
  rw [lg_entry_eq]
  generalize (lg_sl ([.ref ap, .int (nI t)]) ++ List.replicate (4 - (lg_sl ([.ref ap, .int (nI t)])).length) Slot.unset).toArray = ls at hl ⊢
  have hl : lv_has ls 4 [(0, .ref ap), (1, .int (nI t))] := hl
  refine lv_aload_n hx hb dX2_readRecord_0 rfl (lv_at hl 0 rfl) ?_
  refine va_get (D := D) (ci := 3) (v := .ref aj) (C := RX2) (T := TX2) (N := 4) hx hb hts iX2 hown hK hP 0 rfl rfl 0 (by decide) wf23 (fun _ h9 => h9) rfl dX2_readRecord_1 ?_
  refine va_get (D := D) (ci := 2) (v := .int (nI f)) (C := RX1) (T := TX1) (N := 4) hx hb hts iX1 hown hK hP 3 rfl rfl 3 (by decide) wf35 (fun _ h9 => h9) rfl dX2_readRecord_4 ?_
  refine lv_if_ne (tgt := 12) hx hb dX2_readRecord_7 (by decide) (fun c_7 => ?_) (fun c_7 => ?_)
  · have h0 : f ≠ 0 := fun h => by rw [h] at c_7; exact c_7 rfl
    have hlt : t % f < f := Nat.mod_lt _ (by omega)
    refine lv_iload_n hx hb dX2_readRecord_12 rfl (lv_at hl 1 rfl) ?_
    refine lv_aload_n hx hb dX2_readRecord_13 rfl (lv_at hl 0 rfl) ?_
    refine va_get (D := D) (ci := 3) (v := .ref aj) (C := RX2) (T := TX2) (N := 4) hx hb hts iX2 hown hK hP 0 rfl rfl 0 (by decide) wf23 (fun _ h9 => h9) rfl dX2_readRecord_14 ?_
    refine va_get (D := D) (ci := 2) (v := .int (nI f)) (C := RX1) (T := TX1) (N := 4) hx hb hts iX1 hown hK hP 3 rfl rfl 3 (by decide) wf35 (fun _ h9 => h9) rfl dX2_readRecord_17 ?_
    refine lv_irem hx hb dX2_readRecord_20 (nI_ne0 (by omega) (by omega)) ?_
    refine ct_topi (pk_rem (by omega) (by omega) (by omega)) ?_
    refine lv_istore_n (lv' := [(2, .int (nI (t % f))), (0, .ref ap), (1, .int (nI t))]) hx hb dX2_readRecord_21 rfl hl (by decide) rfl (fun ls hl => ?_)
    refine lv_aload_n hx hb dX2_readRecord_22 rfl (lv_at hl 1 rfl) ?_
    refine va_get (D := D) (ci := 3) (v := .ref app) (C := RX2) (T := TX2) (N := 4) hx hb hts iX2 hown hK hP 0 rfl rfl 2 (by decide) wf15 (fun _ h9 => h9) rfl dX2_readRecord_23 ?_
    refine lv_iload_n hx hb dX2_readRecord_26 rfl (lv_at hl 0 rfl) ?_
    refine ct_iald (k := (t % f)) hx hb hK hP 2 0 rfl rfl (by omega) (by decide) dX2_readRecord_27 ?_
    refine lv_istore_n (lv' := [(3, .int (ps (t % f))), (2, .int (nI (t % f))), (0, .ref ap), (1, .int (nI t))]) hx hb dX2_readRecord_28 rfl hl (by decide) rfl (fun ls hl => ?_)
    refine lv_iload_n hx hb dX2_readRecord_29 rfl (lv_at hl 0 rfl) ?_
    refine lv_aload_n hx hb dX2_readRecord_30 rfl (lv_at hl 2 rfl) ?_
    refine va_get (D := D) (ci := 3) (v := .ref aj) (C := RX2) (T := TX2) (N := 4) hx hb hts iX2 hown hK hP 0 rfl rfl 0 (by decide) wf23 (fun _ h9 => h9) rfl dX2_readRecord_31 ?_
    refine va_get (D := D) (ci := 2) (v := .ref al) (C := RX1) (T := TX1) (N := 4) hx hb hts iX1 hown hK hP 3 rfl rfl 1 (by decide) wf38 (fun _ h9 => h9) rfl dX2_readRecord_34 ?_
    refine lv_iload_n hx hb dX2_readRecord_37 rfl (lv_at hl 1 rfl) ?_
    refine ct_iald (k := (t % f)) hx hb hK hP 5 0 rfl rfl (by omega) (by decide) dX2_readRecord_38 ?_
    refine lv_icmp_lt (tgt := 44) hx hb dX2_readRecord_39 (by decide) (fun c_39 => ?_) (fun c_39 => ?_)
    · refine lv_aload_n hx hb dX2_readRecord_44 rfl (lv_at hl 2 rfl) ?_
      refine va_get (D := D) (ci := 3) (v := .ref app) (C := RX2) (T := TX2) (N := 4) hx hb hts iX2 hown hK hP 0 rfl rfl 2 (by decide) wf15 (fun _ h9 => h9) rfl dX2_readRecord_45 ?_
      refine lv_iload_n hx hb dX2_readRecord_48 rfl (lv_at hl 1 rfl) ?_
      refine lv_iload_n hx hb dX2_readRecord_49 rfl (lv_at hl 0 rfl) ?_
      refine lv_iconst (v := 1) hx hb dX2_readRecord_50 (by decide) ?_
      refine lv_iadd hx hb dX2_readRecord_51 ?_
      refine ct_iast (k := (t % f)) hx hb hK hP hD hS 2 0 rfl rfl (by omega) (by decide) dX2_readRecord_52 (fun H locs hP hD hS => ?_)
      have hP : va_P D vwCl [(ap, .inr (3, [.ref aj, .ref apc, .ref app, .int u0])), (apc, .inl (cL, 12, .inr (.inl cs))), (app, .inl (cI, 6, .inl (upd ps (t % f) ((ps (t % f)) + 1)))), (aj, .inr (2, [.ref af, .ref al, .int (nI c), .int (nI f)])), (af, .inl (cL, 12, .inr (.inl fv))), (al, .inl (cI, 6, .inl ln))] H := hP
      have hD : va_D A [(ap, .inr (3, [.ref aj, .ref apc, .ref app, .int u0])), (apc, .inl (cL, 12, .inr (.inl cs))), (app, .inl (cI, 6, .inl (upd ps (t % f) ((ps (t % f)) + 1)))), (aj, .inr (2, [.ref af, .ref al, .int (nI c), .int (nI f)])), (af, .inl (cL, 12, .inr (.inl fv))), (al, .inl (cI, 6, .inl ln))] := hD
      refine lv_ldc2 (v := 1000) hx hb hown wk45 dX2_readRecord_53 ?_
      refine lv_iload_n hx hb dX2_readRecord_56 rfl (lv_at hl 1 rfl) ?_
      refine lv_iconst (v := 1) hx hb dX2_readRecord_57 (by decide) ?_
      refine lv_iadd hx hb dX2_readRecord_58 ?_
      refine lv_i2l hx hb dX2_readRecord_59 rfl ?_
      refine lv_lmul hx hb dX2_readRecord_60 ?_
      refine lv_iload_n hx hb dX2_readRecord_61 rfl (lv_at hl 0 rfl) ?_
      refine lv_i2l hx hb dX2_readRecord_62 rfl ?_
      refine lv_ladd hx hb dX2_readRecord_63 ?_
      have hP9 := hP.sub (ws' := [(ap, .inr (3, [.ref aj, .ref apc, .ref app, .int u0])), (apc, .inl (cL, 12, .inr (.inl cs))), (app, .inl (cI, 6, .inl (upd ps (t % f) ((ps (t % f)) + 1)))), (aj, .inr (2, [.ref af, .ref al, .int (nI c), .int (nI f)])), (af, .inl (cL, 12, .inr (.inl fv))), (al, .inl (cI, 6, .inl ln))]) [0, 1, 2, 3, 4, 5] rfl
      have hD9 := hD.sub (ws' := [(ap, .inr (3, [.ref aj, .ref apc, .ref app, .int u0])), (apc, .inl (cL, 12, .inr (.inl cs))), (app, .inl (cI, 6, .inl (upd ps (t % f) ((ps (t % f)) + 1)))), (aj, .inr (2, [.ref af, .ref al, .int (nI c), .int (nI f)])), (af, .inl (cL, 12, .inr (.inl fv))), (al, .inl (cI, 6, .inl ln))]) [0, 1, 2, 3, 4, 5] (by decide) rfl
      refine W.widen (k := 0) (n := 0) (Nat.le_of_ble_eq_true rfl) (Nat.le_of_ble_eq_true rfl) ?_
      exact W.lret (v := ((1000 * (((nI (t % f)) + 1).toInt64)) + ((ps (t % f)).toInt64))) hx hb hr (fun t9 ht9 hW9 => ⟨⟨((1000 * (((nI (t % f)) + 1).toInt64)) + ((ps (t % f)).toInt64)), ((upd ps (t % f) ((ps (t % f)) + 1))), rfl, ⟨by simp [rd_v, rd_p, h0, c_39], by simp [rd_v, rd_p, h0, c_39]⟩, by rw [ht9]; exact hP9, va_K.moved hW9.alike hK, hD9⟩, hS.F ht9⟩) hS.2.2 dX2_readRecord_64
    · refine lv_lconst (v := 0) hx hb dX2_readRecord_42 (by decide) ?_
      have hP9 := hP.sub (ws' := [(ap, .inr (3, [.ref aj, .ref apc, .ref app, .int u0])), (apc, .inl (cL, 12, .inr (.inl cs))), (app, .inl (cI, 6, .inl ps)), (aj, .inr (2, [.ref af, .ref al, .int (nI c), .int (nI f)])), (af, .inl (cL, 12, .inr (.inl fv))), (al, .inl (cI, 6, .inl ln))]) [0, 1, 2, 3, 4, 5] rfl
      have hD9 := hD.sub (ws' := [(ap, .inr (3, [.ref aj, .ref apc, .ref app, .int u0])), (apc, .inl (cL, 12, .inr (.inl cs))), (app, .inl (cI, 6, .inl ps)), (aj, .inr (2, [.ref af, .ref al, .int (nI c), .int (nI f)])), (af, .inl (cL, 12, .inr (.inl fv))), (al, .inl (cI, 6, .inl ln))]) [0, 1, 2, 3, 4, 5] (by decide) rfl
      refine W.widen (k := 0) (n := 0) (Nat.le_of_ble_eq_true rfl) (Nat.le_of_ble_eq_true rfl) ?_
      exact W.lret (v := 0) hx hb hr (fun t9 ht9 hW9 => ⟨⟨0, (ps), rfl, ⟨by simp [rd_v, rd_p, h0, c_39], by simp [rd_v, rd_p, h0, c_39]⟩, by rw [ht9]; exact hP9, va_K.moved hW9.alike hK, hD9⟩, hS.F ht9⟩) hS.2.2 dX2_readRecord_43
  · have h0 : f = 0 := cr_nI0 (by omega) c_7
    refine lv_lconst (v := 0) hx hb dX2_readRecord_10 (by decide) ?_
    have hP9 := hP.sub (ws' := [(ap, .inr (3, [.ref aj, .ref apc, .ref app, .int u0])), (apc, .inl (cL, 12, .inr (.inl cs))), (app, .inl (cI, 6, .inl ps)), (aj, .inr (2, [.ref af, .ref al, .int (nI c), .int (nI f)])), (af, .inl (cL, 12, .inr (.inl fv))), (al, .inl (cI, 6, .inl ln))]) [0, 1, 2, 3, 4, 5] rfl
    have hD9 := hD.sub (ws' := [(ap, .inr (3, [.ref aj, .ref apc, .ref app, .int u0])), (apc, .inl (cL, 12, .inr (.inl cs))), (app, .inl (cI, 6, .inl ps)), (aj, .inr (2, [.ref af, .ref al, .int (nI c), .int (nI f)])), (af, .inl (cL, 12, .inr (.inl fv))), (al, .inl (cI, 6, .inl ln))]) [0, 1, 2, 3, 4, 5] (by decide) rfl
    refine W.widen (k := 0) (n := 0) (Nat.le_of_ble_eq_true rfl) (Nat.le_of_ble_eq_true rfl) ?_
    exact W.lret (v := 0) hx hb hr (fun t9 ht9 hW9 => ⟨⟨0, (ps), rfl, ⟨by simp [rd_v, rd_p, h0], by simp [rd_v, rd_p, h0]⟩, by rw [ht9]; exact hP9, va_K.moved hW9.alike hK, hD9⟩, hS.F ht9⟩) hS.2.2 dX2_readRecord_11
abbrev rm_X2_doUnit : Room := { frames := 1, cells := 0, slots := 0, locals := 23 }
abbrev qc_X2_doUnit (D : va_G) (cI cL cZ : ClassId) (ap : Nat) (apc : Nat) (app : Nat) (cs : Nat → Int64) (ps : Nat → Int32) (aj : Nat) (af : Nat) (al : Nat) (c : Nat) (f : Nat) (fv : Nat → Int64) (ln : Nat → Int32) (t : Nat) (A : Nat → Prop) : Array Value → State → Outcome → State → Prop := va_Ql (fun (r : Int64) (u : (Nat → Int64) × (Nat → Int32)) => (du_r c t (rd_v t f ps ln) cs) = r ∧ (du_c c t (rd_v t f ps ln) cs) = u.1 ∧ (rd_p t f ps ln) = u.2) (ct_B D vwCl [(cI, .int), (cL, .long), (cZ, .boolean)] A (fun (u : (Nat → Int64) × (Nat → Int32)) => [(ap, .inr (3, [.ref aj, .ref apc, .ref app, .int (nI (t + 1))])), (apc, .inl (cL, 12, .inr (.inl u.1))), (app, .inl (cI, 6, .inl u.2)), (aj, .inr (2, [.ref af, .ref al, .int (nI c), .int (nI f)])), (af, .inl (cL, 12, .inr (.inl fv))), (al, .inl (cI, 6, .inl ln))])) A
set_option maxHeartbeats 4000000 in
set_option maxRecDepth 100000 in
theorem c_X2_doUnit (l : Launch) (D : va_G) (cI cL cZ : ClassId) (ap : Nat) (apc : Nat) (app : Nat) (cs : Nat → Int64) (ps : Nat → Int32) (aj : Nat) (af : Nat) (al : Nat) (c : Nat) (f : Nat) (fv : Nat → Int64) (ln : Nat → Int32) (t : Nat) (sz : Nat) (hc : c ≤ 12) (hf : f ≤ 6) (ht : t < 5000) : Met l yX2_doUnit wsX2_doUnit rm_X2_doUnit (va_Pc [.ref ap] (ct_P D vwCl [(cI, .int), (cL, .long), (cZ, .boolean)] [(ap, .inr (3, [.ref aj, .ref apc, .ref app, .int (nI t)])), (apc, .inl (cL, 12, .inr (.inl cs))), (app, .inl (cI, 6, .inl ps)), (aj, .inr (2, [.ref af, .ref al, .int (nI c), .int (nI f)])), (af, .inl (cL, 12, .inr (.inl fv))), (al, .inl (cI, 6, .inl ln))] sz)) (qc_X2_doUnit D cI cL cZ ap apc app cs ps aj af al c f fv ln t (va_A [(ap, .inr (3, [.ref aj, .ref apc, .ref app, .int (nI t)])), (apc, .inl (cL, 12, .inr (.inl cs))), (app, .inl (cI, 6, .inl ps)), (aj, .inr (2, [.ref af, .ref al, .int (nI c), .int (nI f)])), (af, .inl (cL, 12, .inr (.inl fv))), (al, .inl (cI, 6, .inl ln))] sz)) 0 0 (va_A [(ap, .inr (3, [.ref aj, .ref apc, .ref app, .int (nI t)])), (apc, .inl (cL, 12, .inr (.inl cs))), (app, .inl (cI, 6, .inl ps)), (aj, .inr (2, [.ref af, .ref al, .int (nI c), .int (nI f)])), (af, .inl (cL, 12, .inr (.inl fv))), (al, .inl (cI, 6, .inl ln))] sz) := by
  refine Met.ofW (cc := cX2_doUnit) (maxL := 5) (ret := (some .long)) (by decide) rfl ?_
  intro p e s m args below meth cd s₁ B hml hv
  obtain ⟨rfl, hsz, hP, hK, hD0⟩ := hv
  have hx := B.exec
  have hb := B.bytes
  have hr := B.returns
  have hts := atoms_spec (ws := wsX2_doUnit) B.pre
  have iX2 : ∀ w ∈ wsX20, w ∈ wsX2_doUnit := by decide +kernel
  have wf19 := hts (.fieldLink RX2 19 "CheckRestart$Progress" "units" "I") (by decide +kernel)
  have wf23 := hts (.fieldLink RX2 23 "CheckRestart$Progress" "job" "LCheckRestart$Job;") (by decide +kernel)
  have iX1 : ∀ w ∈ wsX10, w ∈ wsX2_doUnit := by decide +kernel
  have wf27 := hts (.fieldLink RX2 27 "CheckRestart$Job" "cellCount" "I") (by decide +kernel)
  have wf9 := hts (.fieldLink RX2 9 "CheckRestart$Progress" "cells" "[J") (by decide +kernel)
  have hown : s.vm.findClass RX2 = some m.cls := findClass_of_methodNamed B.named
  have hlocks := B.notSynchronized
  subst hsz
  have hD := hD0.self (sz := s.heap.size)
  generalize hAe : va_A [(ap, .inr (3, [.ref aj, .ref apc, .ref app, .int (nI t)])), (apc, .inl (cL, 12, .inr (.inl cs))), (app, .inl (cI, 6, .inl ps)), (aj, .inr (2, [.ref af, .ref al, .int (nI c), .int (nI f)])), (af, .inl (cL, 12, .inr (.inl fv))), (al, .inl (cI, 6, .inl ln))] s.heap.size = A at hD ⊢
  have hA : ∀ q : Nat, s.heap.size ≤ q → A q := fun q h => by rw [← hAe]; exact Or.inr h
  have hS : va_S A s.heap s.heap [] := va_S.rf
  have hl := lv_entry ([.ref ap]) (n := 5) (Nat.le_of_ble_eq_true rfl)
  rw [lg_entry_eq]
  generalize (lg_sl ([.ref ap]) ++ List.replicate (5 - (lg_sl ([.ref ap])).length) Slot.unset).toArray = ls at hl ⊢
  have hl : lv_has ls 5 [(0, .ref ap)] := hl
  refine lv_aload_n hx hb dX2_doUnit_0 rfl (lv_at hl 0 rfl) ?_
  refine va_get (D := D) (ci := 3) (v := .int (nI t)) (C := RX2) (T := TX2) (N := 4) hx hb hts iX2 hown hK hP 0 rfl rfl 3 (by decide) wf19 (fun _ h9 => h9) rfl dX2_doUnit_1 ?_
  refine lv_istore_n (lv' := [(1, .int (nI t)), (0, .ref ap)]) hx hb dX2_doUnit_4 rfl hl (by decide) rfl (fun ls hl => ?_)
  refine lv_aload_n hx hb dX2_doUnit_5 rfl (lv_at hl 1 rfl) ?_
  refine lv_iload_n hx hb dX2_doUnit_6 rfl (lv_at hl 0 rfl) ?_
  refine ct_calll (wr := []) (rest := []) hP hD hS hA [0, 1, 2, 3, 4, 5] [] (va_runV (C := RX2) (As := [.int (nI t)]) ⟨hx, hb, hml, hown, hts⟩ (c_X2_readRecord l D cI cL cZ ap apc app cs ps aj af al c f fv ln (nI t) t _ (by omega) (by omega)) (cwV 1 hts gX2_doUnit_X2_readRecord rfl rfl rfl (by decide +kernel) ⟨Nat.le_of_ble_eq_true rfl, Nat.le_of_ble_eq_true rfl⟩) (ct_preV (q0 := 0) (ci := 3) hK hP hD [0, 1, 2, 3, 4, 5] (by decide) rfl rfl rfl rfl rfl) rfl rfl hl.1 rfl (lv_room (Nat.le_of_ble_eq_true rfl)) dX2_doUnit_7 ⟨Nat.le_of_ble_eq_true rfl, Nat.le_of_ble_eq_true rfl⟩) rfl rfl (by decide) (by decide) (fun r_1 u H locs hw hP hD hS => ?_)
  obtain ⟨ps1_2, rfl⟩ : ∃ z, z = u := ⟨_, rfl⟩
  try dsimp only at hw
  obtain ⟨rfl, rfl⟩ := hw
  have hP : va_P D vwCl [(ap, .inr (3, [.ref aj, .ref apc, .ref app, .int (nI t)])), (apc, .inl (cL, 12, .inr (.inl cs))), (app, .inl (cI, 6, .inl (rd_p t f ps ln))), (aj, .inr (2, [.ref af, .ref al, .int (nI c), .int (nI f)])), (af, .inl (cL, 12, .inr (.inl fv))), (al, .inl (cI, 6, .inl ln))] H := hP
  have hD : va_D A [(ap, .inr (3, [.ref aj, .ref apc, .ref app, .int (nI t)])), (apc, .inl (cL, 12, .inr (.inl cs))), (app, .inl (cI, 6, .inl (rd_p t f ps ln))), (aj, .inr (2, [.ref af, .ref al, .int (nI c), .int (nI f)])), (af, .inl (cL, 12, .inr (.inl fv))), (al, .inl (cI, 6, .inl ln))] := hD
  refine lv_lstore_n (lv' := [(2, .long (rd_v t f ps ln)), (1, .int (nI t)), (0, .ref ap)]) hx hb dX2_doUnit_10 rfl hl (by decide) rfl (fun ls hl => ?_)
  refine lv_aload_n hx hb dX2_doUnit_11 rfl (lv_at hl 2 rfl) ?_
  refine lv_dup hx hb dX2_doUnit_12 rfl ?_
  refine va_get (D := D) (ci := 3) (v := .int (nI t)) (C := RX2) (T := TX2) (N := 4) hx hb hts iX2 hown hK hP 0 rfl rfl 3 (by decide) wf19 (fun _ h9 => h9) rfl dX2_doUnit_13 ?_
  refine lv_iconst (v := 1) hx hb dX2_doUnit_16 (by decide) ?_
  refine lv_iadd hx hb dX2_doUnit_17 ?_
  refine ct_topi (y := (nI (t + 1))) (nI_1 t) ?_
  refine va_put (D := D) (ci := 3) (v := .int (nI (t + 1))) (ty := .int) (C := RX2) (T := TX2) (N := 4) hx hb hts iX2 tyX2 tyX2_ok nmX2 hown hK hP hD hS 0 rfl rfl 3 (by decide) wf19 (fun _ h9 => h9) rfl (by decide +kernel) rfl rfl (Nat.le_of_ble_eq_true rfl) dX2_doUnit_18 (fun H locs hP hD hS => ?_)
  have hP : va_P D vwCl [(ap, .inr (3, [.ref aj, .ref apc, .ref app, .int (nI (t + 1))])), (apc, .inl (cL, 12, .inr (.inl cs))), (app, .inl (cI, 6, .inl (rd_p t f ps ln))), (aj, .inr (2, [.ref af, .ref al, .int (nI c), .int (nI f)])), (af, .inl (cL, 12, .inr (.inl fv))), (al, .inl (cI, 6, .inl ln))] H := hP
  have hD : va_D A [(ap, .inr (3, [.ref aj, .ref apc, .ref app, .int (nI (t + 1))])), (apc, .inl (cL, 12, .inr (.inl cs))), (app, .inl (cI, 6, .inl (rd_p t f ps ln))), (aj, .inr (2, [.ref af, .ref al, .int (nI c), .int (nI f)])), (af, .inl (cL, 12, .inr (.inl fv))), (al, .inl (cI, 6, .inl ln))] := hD
  refine lv_aload_n hx hb dX2_doUnit_21 rfl (lv_at hl 2 rfl) ?_
  refine va_get (D := D) (ci := 3) (v := .ref aj) (C := RX2) (T := TX2) (N := 4) hx hb hts iX2 hown hK hP 0 rfl rfl 0 (by decide) wf23 (fun _ h9 => h9) rfl dX2_doUnit_22 ?_
  refine va_get (D := D) (ci := 2) (v := .int (nI c)) (C := RX1) (T := TX1) (N := 4) hx hb hts iX1 hown hK hP 3 rfl rfl 2 (by decide) wf27 (fun _ h9 => h9) rfl dX2_doUnit_25 ?_
  refine lv_if_ne (tgt := 33) hx hb dX2_doUnit_28 (by decide) (fun c_28 => ?_) (fun c_28 => ?_)
  · have h0 : c ≠ 0 := fun h => by rw [h] at c_28; exact c_28 rfl
    have hlt : t % c < c := Nat.mod_lt _ (by omega)
    refine lv_iload_n hx hb dX2_doUnit_33 rfl (lv_at hl 1 rfl) ?_
    refine lv_aload_n hx hb dX2_doUnit_34 rfl (lv_at hl 2 rfl) ?_
    refine va_get (D := D) (ci := 3) (v := .ref aj) (C := RX2) (T := TX2) (N := 4) hx hb hts iX2 hown hK hP 0 rfl rfl 0 (by decide) wf23 (fun _ h9 => h9) rfl dX2_doUnit_35 ?_
    refine va_get (D := D) (ci := 2) (v := .int (nI c)) (C := RX1) (T := TX1) (N := 4) hx hb hts iX1 hown hK hP 3 rfl rfl 2 (by decide) wf27 (fun _ h9 => h9) rfl dX2_doUnit_38 ?_
    refine lv_irem hx hb dX2_doUnit_41 (nI_ne0 (by omega) (by omega)) ?_
    refine ct_topi (pk_rem (by omega) (by omega) (by omega)) ?_
    refine lv_istore (lv' := [(4, .int (nI (t % c))), (2, .long (rd_v t f ps ln)), (1, .int (nI t)), (0, .ref ap)]) hx hb dX2_doUnit_42 hl (by decide) rfl (fun ls hl => ?_)
    refine lv_aload_n hx hb dX2_doUnit_44 rfl (lv_at hl 3 rfl) ?_
    refine va_get (D := D) (ci := 3) (v := .ref apc) (C := RX2) (T := TX2) (N := 4) hx hb hts iX2 hown hK hP 0 rfl rfl 1 (by decide) wf9 (fun _ h9 => h9) rfl dX2_doUnit_45 ?_
    refine lv_iload hx hb dX2_doUnit_48 (lv_at hl 0 rfl) ?_
    refine lv_dup2_11 hx hb dX2_doUnit_50 rfl rfl ?_
    refine ct_lald (k := (t % c)) hx hb hK hP 1 1 rfl rfl (by omega) (by decide) dX2_doUnit_51 ?_
    refine lv_aload_n hx hb dX2_doUnit_52 rfl (lv_at hl 3 rfl) ?_
    refine va_get (D := D) (ci := 3) (v := .int (nI (t + 1))) (C := RX2) (T := TX2) (N := 4) hx hb hts iX2 hown hK hP 0 rfl rfl 3 (by decide) wf19 (fun _ h9 => h9) rfl dX2_doUnit_53 ?_
    refine lv_i2l hx hb dX2_doUnit_56 rfl ?_
    refine lv_lload_n hx hb dX2_doUnit_57 rfl (lv_at hl 1 rfl) ?_
    refine lv_lmul hx hb dX2_doUnit_58 ?_
    refine lv_ladd hx hb dX2_doUnit_59 ?_
    refine ct_last (k := (t % c)) hx hb hK hP hD hS 1 1 rfl rfl (by omega) (by decide) dX2_doUnit_60 (fun H locs hP hD hS => ?_)
    have hP : va_P D vwCl [(ap, .inr (3, [.ref aj, .ref apc, .ref app, .int (nI (t + 1))])), (apc, .inl (cL, 12, .inr (.inl (vp_updL cs (t % c) ((cs (t % c)) + (((nI (t + 1)).toInt64) * (rd_v t f ps ln))))))), (app, .inl (cI, 6, .inl (rd_p t f ps ln))), (aj, .inr (2, [.ref af, .ref al, .int (nI c), .int (nI f)])), (af, .inl (cL, 12, .inr (.inl fv))), (al, .inl (cI, 6, .inl ln))] H := hP
    have hD : va_D A [(ap, .inr (3, [.ref aj, .ref apc, .ref app, .int (nI (t + 1))])), (apc, .inl (cL, 12, .inr (.inl (vp_updL cs (t % c) ((cs (t % c)) + (((nI (t + 1)).toInt64) * (rd_v t f ps ln))))))), (app, .inl (cI, 6, .inl (rd_p t f ps ln))), (aj, .inr (2, [.ref af, .ref al, .int (nI c), .int (nI f)])), (af, .inl (cL, 12, .inr (.inl fv))), (al, .inl (cI, 6, .inl ln))] := hD
    refine lv_aload_n hx hb dX2_doUnit_61 rfl (lv_at hl 3 rfl) ?_
    refine va_get (D := D) (ci := 3) (v := .ref apc) (C := RX2) (T := TX2) (N := 4) hx hb hts iX2 hown hK hP 0 rfl rfl 1 (by decide) wf9 (fun _ h9 => h9) rfl dX2_doUnit_62 ?_
    refine lv_iload hx hb dX2_doUnit_65 (lv_at hl 0 rfl) ?_
    refine ct_lald (k := (t % c)) hx hb hK hP 1 1 rfl rfl (by omega) (by decide) dX2_doUnit_67 ?_
    have hP9 := hP.sub (ws' := [(ap, .inr (3, [.ref aj, .ref apc, .ref app, .int (nI (t + 1))])), (apc, .inl (cL, 12, .inr (.inl (vp_updL cs (t % c) ((cs (t % c)) + (((nI (t + 1)).toInt64) * (rd_v t f ps ln))))))), (app, .inl (cI, 6, .inl (rd_p t f ps ln))), (aj, .inr (2, [.ref af, .ref al, .int (nI c), .int (nI f)])), (af, .inl (cL, 12, .inr (.inl fv))), (al, .inl (cI, 6, .inl ln))]) [0, 1, 2, 3, 4, 5] rfl
    have hD9 := hD.sub (ws' := [(ap, .inr (3, [.ref aj, .ref apc, .ref app, .int (nI (t + 1))])), (apc, .inl (cL, 12, .inr (.inl (vp_updL cs (t % c) ((cs (t % c)) + (((nI (t + 1)).toInt64) * (rd_v t f ps ln))))))), (app, .inl (cI, 6, .inl (rd_p t f ps ln))), (aj, .inr (2, [.ref af, .ref al, .int (nI c), .int (nI f)])), (af, .inl (cL, 12, .inr (.inl fv))), (al, .inl (cI, 6, .inl ln))]) [0, 1, 2, 3, 4, 5] (by decide) rfl
    refine W.widen (k := 0) (n := 0) (Nat.le_of_ble_eq_true rfl) (Nat.le_of_ble_eq_true rfl) ?_
    exact W.lret (v := ((vp_updL cs (t % c) ((cs (t % c)) + (((nI (t + 1)).toInt64) * (rd_v t f ps ln)))) (t % c))) hx hb hr (fun t9 ht9 hW9 => ⟨⟨((vp_updL cs (t % c) ((cs (t % c)) + (((nI (t + 1)).toInt64) * (rd_v t f ps ln)))) (t % c)), ((vp_updL cs (t % c) ((cs (t % c)) + (((nI (t + 1)).toInt64) * (rd_v t f ps ln)))), (rd_p t f ps ln)), rfl, ⟨by simp [du_r, du_c, h0, vp_updL], by simp [du_r, du_c, h0, vp_updL], by simp [du_r, du_c, h0, vp_updL]⟩, by rw [ht9]; exact hP9, va_K.moved hW9.alike hK, hD9⟩, hS.F ht9⟩) hS.2.2 dX2_doUnit_68
  · have h0 : c = 0 := cr_nI0 (by omega) c_28
    refine lv_lconst (v := 0) hx hb dX2_doUnit_31 (by decide) ?_
    have hP9 := hP.sub (ws' := [(ap, .inr (3, [.ref aj, .ref apc, .ref app, .int (nI (t + 1))])), (apc, .inl (cL, 12, .inr (.inl cs))), (app, .inl (cI, 6, .inl (rd_p t f ps ln))), (aj, .inr (2, [.ref af, .ref al, .int (nI c), .int (nI f)])), (af, .inl (cL, 12, .inr (.inl fv))), (al, .inl (cI, 6, .inl ln))]) [0, 1, 2, 3, 4, 5] rfl
    have hD9 := hD.sub (ws' := [(ap, .inr (3, [.ref aj, .ref apc, .ref app, .int (nI (t + 1))])), (apc, .inl (cL, 12, .inr (.inl cs))), (app, .inl (cI, 6, .inl (rd_p t f ps ln))), (aj, .inr (2, [.ref af, .ref al, .int (nI c), .int (nI f)])), (af, .inl (cL, 12, .inr (.inl fv))), (al, .inl (cI, 6, .inl ln))]) [0, 1, 2, 3, 4, 5] (by decide) rfl
    refine W.widen (k := 0) (n := 0) (Nat.le_of_ble_eq_true rfl) (Nat.le_of_ble_eq_true rfl) ?_
    exact W.lret (v := 0) hx hb hr (fun t9 ht9 hW9 => ⟨⟨0, (cs, (rd_p t f ps ln)), rfl, ⟨by simp [du_r, du_c, h0], by simp [du_r, du_c, h0], by simp [du_r, du_c, h0]⟩, by rw [ht9]; exact hP9, va_K.moved hW9.alike hK, hD9⟩, hS.F ht9⟩) hS.2.2 dX2_doUnit_32
abbrev rm_X2_hasCellsOf : Room := { frames := 0, cells := 0, slots := 0, locals := 0 }
abbrev qc_X2_hasCellsOf (D : va_G) (cI cL cZ : ClassId) (ap : Nat) (apc : Nat) (app : Nat) (cs : Nat → Int64) (ao : Nat) (aoc : Nat) (aop : Nat) (os : Nat → Int64) (u0 : Int32) (u1 : Int32) (aj : Nat) (af : Nat) (al : Nat) (c : Nat) (f : Nat) (A : Nat → Prop) : Array Value → State → Outcome → State → Prop := va_Qi (fun (r : Int32) (u : Unit) => (hc_r c cs os) = r) (ct_B D vwCl [(cI, .int), (cL, .long), (cZ, .boolean)] A (fun (u : Unit) => [(ap, .inr (3, [.ref aj, .ref apc, .ref app, .int u0])), (apc, .inl (cL, 12, .inr (.inl cs))), (ao, .inr (3, [.ref aj, .ref aoc, .ref aop, .int u1])), (aoc, .inl (cL, 12, .inr (.inl os))), (aj, .inr (2, [.ref af, .ref al, .int (nI c), .int (nI f)]))])) A
set_option maxHeartbeats 4000000 in
set_option maxRecDepth 100000 in
theorem c_X2_hasCellsOf (l : Launch) (D : va_G) (cI cL cZ : ClassId) (ap : Nat) (apc : Nat) (app : Nat) (cs : Nat → Int64) (ao : Nat) (aoc : Nat) (aop : Nat) (os : Nat → Int64) (u0 : Int32) (u1 : Int32) (aj : Nat) (af : Nat) (al : Nat) (c : Nat) (f : Nat) (sz : Nat) (hc : c ≤ 12) : Met l yX2_hasCellsOf wsX2_hasCellsOf rm_X2_hasCellsOf (va_Pc [.ref ap, .ref ao] (ct_P D vwCl [(cI, .int), (cL, .long), (cZ, .boolean)] [(ap, .inr (3, [.ref aj, .ref apc, .ref app, .int u0])), (apc, .inl (cL, 12, .inr (.inl cs))), (ao, .inr (3, [.ref aj, .ref aoc, .ref aop, .int u1])), (aoc, .inl (cL, 12, .inr (.inl os))), (aj, .inr (2, [.ref af, .ref al, .int (nI c), .int (nI f)]))] sz)) (qc_X2_hasCellsOf D cI cL cZ ap apc app cs ao aoc aop os u0 u1 aj af al c f (va_A [(ap, .inr (3, [.ref aj, .ref apc, .ref app, .int u0])), (apc, .inl (cL, 12, .inr (.inl cs))), (ao, .inr (3, [.ref aj, .ref aoc, .ref aop, .int u1])), (aoc, .inl (cL, 12, .inr (.inl os))), (aj, .inr (2, [.ref af, .ref al, .int (nI c), .int (nI f)]))] sz)) 0 0 (va_A [(ap, .inr (3, [.ref aj, .ref apc, .ref app, .int u0])), (apc, .inl (cL, 12, .inr (.inl cs))), (ao, .inr (3, [.ref aj, .ref aoc, .ref aop, .int u1])), (aoc, .inl (cL, 12, .inr (.inl os))), (aj, .inr (2, [.ref af, .ref al, .int (nI c), .int (nI f)]))] sz) := by
  refine Met.ofW (cc := cX2_hasCellsOf) (maxL := 3) (ret := (some .boolean)) (by decide) rfl ?_
  intro p e s m args below meth cd s₁ B hml hv
  obtain ⟨rfl, hsz, hP, hK, hD0⟩ := hv
  have hx := B.exec
  have hb := B.bytes
  have hr := B.returns
  have hts := atoms_spec (ws := wsX2_hasCellsOf) B.pre
  have iX2 : ∀ w ∈ wsX20, w ∈ wsX2_hasCellsOf := by decide +kernel
  have wf23 := hts (.fieldLink RX2 23 "CheckRestart$Progress" "job" "LCheckRestart$Job;") (by decide +kernel)
  have iX1 : ∀ w ∈ wsX10, w ∈ wsX2_hasCellsOf := by decide +kernel
  have wf27 := hts (.fieldLink RX2 27 "CheckRestart$Job" "cellCount" "I") (by decide +kernel)
  have wf9 := hts (.fieldLink RX2 9 "CheckRestart$Progress" "cells" "[J") (by decide +kernel)
  have hown : s.vm.findClass RX2 = some m.cls := findClass_of_methodNamed B.named
  have hlocks := B.notSynchronized
  subst hsz
  have hD := hD0.self (sz := s.heap.size)
  generalize hAe : va_A [(ap, .inr (3, [.ref aj, .ref apc, .ref app, .int u0])), (apc, .inl (cL, 12, .inr (.inl cs))), (ao, .inr (3, [.ref aj, .ref aoc, .ref aop, .int u1])), (aoc, .inl (cL, 12, .inr (.inl os))), (aj, .inr (2, [.ref af, .ref al, .int (nI c), .int (nI f)]))] s.heap.size = A at hD ⊢
  have hA : ∀ q : Nat, s.heap.size ≤ q → A q := fun q h => by rw [← hAe]; exact Or.inr h
  have hS : va_S A s.heap s.heap [] := va_S.rf
  have hl := lv_entry ([.ref ap, .ref ao]) (n := 3) (Nat.le_of_ble_eq_true rfl)
  rw [lg_entry_eq]
  generalize (lg_sl ([.ref ap, .ref ao]) ++ List.replicate (3 - (lg_sl ([.ref ap, .ref ao])).length) Slot.unset).toArray = ls at hl ⊢
  have hl : lv_has ls 3 [(0, .ref ap), (1, .ref ao)] := hl
  have key2 : ∀ (n : Nat) (i : Nat), (i ≤ c) → (c + 1 ≤ i + n) → (∀ j, j < i → cs j = os j) → ∀ (H : Heap) (locs : List Loc), va_P D vwCl [(ap, .inr (3, [.ref aj, .ref apc, .ref app, .int u0])), (apc, .inl (cL, 12, .inr (.inl cs))), (ao, .inr (3, [.ref aj, .ref aoc, .ref aop, .int u1])), (aoc, .inl (cL, 12, .inr (.inl os))), (aj, .inr (2, [.ref af, .ref al, .int (nI c), .int (nI f)]))] H → va_D A [(ap, .inr (3, [.ref aj, .ref apc, .ref app, .int u0])), (apc, .inl (cL, 12, .inr (.inl cs))), (ao, .inr (3, [.ref aj, .ref aoc, .ref aop, .int u1])), (aoc, .inl (cL, 12, .inr (.inl os))), (aj, .inr (2, [.ref af, .ref al, .int (nI c), .int (nI f)]))] → va_S A s.heap H locs → ∀ (ls : Array Slot), lv_has ls 3 [(2, .int (nI i)), (0, .ref ap), (1, .ref ao)] → W p l e (headSpec wsX2_hasCellsOf rm_X2_hasCellsOf).room s m ([.ref ap, .ref ao] : List Value).toArray below meth cd H locs 0 0 (MQ below (qc_X2_hasCellsOf D cI cL cZ ap apc app cs ao aoc aop os u0 u1 aj af al c f A) ([.ref ap, .ref ao] : List Value).toArray s 0 0 A) (F0 m 2 ls []) := by
    intro n
    induction n with
    | zero => intro i hi hm hall; exact absurd hm (by omega)
    | succ n ih =>
      intro i hi hm hall H locs hP hD hS ls hl
      refine lv_iload_n hx hb dX2_hasCellsOf_2 rfl (lv_at hl 0 rfl) ?_
      refine lv_aload_n hx hb dX2_hasCellsOf_3 rfl (lv_at hl 1 rfl) ?_
      refine va_get (D := D) (ci := 3) (v := .ref aj) (C := RX2) (T := TX2) (N := 4) hx hb hts iX2 hown hK hP 0 rfl rfl 0 (by decide) wf23 (fun _ h9 => h9) rfl dX2_hasCellsOf_4 ?_
      refine va_get (D := D) (ci := 2) (v := .int (nI c)) (C := RX1) (T := TX1) (N := 4) hx hb hts iX1 hown hK hP 4 rfl rfl 2 (by decide) wf27 (fun _ h9 => h9) rfl dX2_hasCellsOf_7 ?_
      refine lv_icmp_ge (tgt := 37) hx hb dX2_hasCellsOf_10 (by decide) (fun c_10 => ?_) (fun c_10 => ?_)
      · have h1 : c ≤ i := (nI_leI (by omega) (by omega)).mp c_10
        have h2 : i = c := by omega
        refine lv_iconst (v := 1) hx hb dX2_hasCellsOf_37 (by decide) ?_
        have hP9 := hP.sub (ws' := [(ap, .inr (3, [.ref aj, .ref apc, .ref app, .int u0])), (apc, .inl (cL, 12, .inr (.inl cs))), (ao, .inr (3, [.ref aj, .ref aoc, .ref aop, .int u1])), (aoc, .inl (cL, 12, .inr (.inl os))), (aj, .inr (2, [.ref af, .ref al, .int (nI c), .int (nI f)]))]) [0, 1, 2, 3, 4] rfl
        have hD9 := hD.sub (ws' := [(ap, .inr (3, [.ref aj, .ref apc, .ref app, .int u0])), (apc, .inl (cL, 12, .inr (.inl cs))), (ao, .inr (3, [.ref aj, .ref aoc, .ref aop, .int u1])), (aoc, .inl (cL, 12, .inr (.inl os))), (aj, .inr (2, [.ref af, .ref al, .int (nI c), .int (nI f)]))]) [0, 1, 2, 3, 4] (by decide) rfl
        refine W.widen (k := 0) (n := 0) (Nat.le_of_ble_eq_true rfl) (Nat.le_of_ble_eq_true rfl) ?_
        exact W.zret (v := 1) hx hb hr (rfl) (fun t9 ht9 hW9 => ⟨⟨1, (), rfl, hc_yes (by rw [← h2]; exact hall), by rw [ht9]; exact hP9, va_K.moved hW9.alike hK, hD9⟩, hS.F ht9⟩) hS.2.2 dX2_hasCellsOf_38
      · have h1 : ¬ c ≤ i := fun h => c_10 ((nI_leI (by omega) (by omega)).mpr h)
        refine lv_aload_n hx hb dX2_hasCellsOf_13 rfl (lv_at hl 1 rfl) ?_
        refine va_get (D := D) (ci := 3) (v := .ref apc) (C := RX2) (T := TX2) (N := 4) hx hb hts iX2 hown hK hP 0 rfl rfl 1 (by decide) wf9 (fun _ h9 => h9) rfl dX2_hasCellsOf_14 ?_
        refine lv_iload_n hx hb dX2_hasCellsOf_17 rfl (lv_at hl 0 rfl) ?_
        refine ct_lald (k := i) hx hb hK hP 1 1 rfl rfl (by omega) (by decide) dX2_hasCellsOf_18 ?_
        refine lv_aload_n hx hb dX2_hasCellsOf_19 rfl (lv_at hl 2 rfl) ?_
        refine va_get (D := D) (ci := 3) (v := .ref aoc) (C := RX2) (T := TX2) (N := 4) hx hb hts iX2 hown hK hP 2 rfl rfl 1 (by decide) wf9 (fun _ h9 => h9) rfl dX2_hasCellsOf_20 ?_
        refine lv_iload_n hx hb dX2_hasCellsOf_23 rfl (lv_at hl 0 rfl) ?_
        refine ct_lald (k := i) hx hb hK hP 3 1 rfl rfl (by omega) (by decide) dX2_hasCellsOf_24 ?_
        refine W.lcmp hx hb dX2_hasCellsOf_25 ?_
        refine lv_if_eq (tgt := 31) hx hb dX2_hasCellsOf_26 (by decide) (fun c_26 => ?_) (fun c_26 => ?_)
        · refine lv_iinc (v := (nI (i + 1))) (lv' := [(2, .int (nI (i + 1))), (0, .ref ap), (1, .ref ao)]) hx hb dX2_hasCellsOf_31 hl (k := 0) rfl (nI_1 i) (by decide) rfl (fun ls hl => ?_)
          refine lv_goto (tgt := 2) hx hb dX2_hasCellsOf_34 (by decide) ?_
          exact ih ((i + 1)) (by omega) (by omega) (lt_s hall (cr_cmp0.mp c_26)) _ _ (hP.sub [0, 1, 2, 3, 4] rfl) (hD.sub [0, 1, 2, 3, 4] (by decide) rfl) hS ls (lv_sub hl [0, 1, 2] rfl)
        · refine lv_iconst (v := 0) hx hb dX2_hasCellsOf_29 (by decide) ?_
          have hP9 := hP.sub (ws' := [(ap, .inr (3, [.ref aj, .ref apc, .ref app, .int u0])), (apc, .inl (cL, 12, .inr (.inl cs))), (ao, .inr (3, [.ref aj, .ref aoc, .ref aop, .int u1])), (aoc, .inl (cL, 12, .inr (.inl os))), (aj, .inr (2, [.ref af, .ref al, .int (nI c), .int (nI f)]))]) [0, 1, 2, 3, 4] rfl
          have hD9 := hD.sub (ws' := [(ap, .inr (3, [.ref aj, .ref apc, .ref app, .int u0])), (apc, .inl (cL, 12, .inr (.inl cs))), (ao, .inr (3, [.ref aj, .ref aoc, .ref aop, .int u1])), (aoc, .inl (cL, 12, .inr (.inl os))), (aj, .inr (2, [.ref af, .ref al, .int (nI c), .int (nI f)]))]) [0, 1, 2, 3, 4] (by decide) rfl
          refine W.widen (k := 0) (n := 0) (Nat.le_of_ble_eq_true rfl) (Nat.le_of_ble_eq_true rfl) ?_
          exact W.zret (v := 0) hx hb hr (rfl) (fun t9 ht9 hW9 => ⟨⟨0, (), rfl, hc_no (by omega) (fun h => c_26 (cr_cmp0.mpr h)), by rw [ht9]; exact hP9, va_K.moved hW9.alike hK, hD9⟩, hS.F ht9⟩) hS.2.2 dX2_hasCellsOf_30
  refine lv_iconst (v := 0) hx hb dX2_hasCellsOf_0 (by decide) ?_
  refine lv_istore_n (lv' := [(2, .int 0), (0, .ref ap), (1, .ref ao)]) hx hb dX2_hasCellsOf_1 rfl hl (by decide) rfl (fun ls hl => ?_)
  exact key2 (c + 1) 0 (by omega) (by omega) lt_0 _ _ (hP.sub [0, 1, 2, 3, 4] rfl) (hD.sub [0, 1, 2, 3, 4] (by decide) rfl) hS ls (lv_sub hl [0, 1, 2] rfl)
end
section
abbrev rm_X0_init : Room := { frames := 1, cells := 6, slots := 2200, locals := 12 }
abbrev qc_X0_init (D : va_G) (cI cL cZ : ClassId) (ak : Nat) (A : Nat → Prop) : Array Value → State → Outcome → State → Prop := va_Qv (fun (u : Nat × Nat × Nat × Nat × Nat × Nat) => True) (ct_B D vwCl [(cI, .int), (cL, .long), (cZ, .boolean)] A (fun (u : Nat × Nat × Nat × Nat × Nat × Nat) => [(ak, .inr (1, [.ref u.1, .ref u.2.1, .ref u.2.2.1, .ref u.2.2.2.1, .ref u.2.2.2.2.1, .ref u.2.2.2.2.2, .int 0])), (u.1, .inl (cZ, 100, .inl (fun _ => 0))), (u.2.1, .inl (cI, 100, .inl (fun _ => 0))), (u.2.2.1, .inl (cI, 100, .inl (fun _ => 0))), (u.2.2.2.1, .inl (cI, 100, .inl (fun _ => 0))), (u.2.2.2.2.1, .inl (cL, 1200, .inr (.inl (fun _ => 0)))), (u.2.2.2.2.2, .inl (cI, 600, .inl (fun _ => 0)))])) A
set_option maxHeartbeats 4000000 in
set_option maxRecDepth 100000 in
theorem c_X0_init (l : Launch) (D : va_G) (cI cL cZ : ClassId) (ak : Nat) (sz : Nat)  : Met l yX0_init wsX0_init rm_X0_init (va_Pc [.ref ak] (ct_P D vwCl [(cI, .int), (cL, .long), (cZ, .boolean)] [(ak, .inr (1, [.null, .null, .null, .null, .null, .null, .int 0]))] sz)) (qc_X0_init D cI cL cZ ak (va_A [(ak, .inr (1, [.null, .null, .null, .null, .null, .null, .int 0]))] sz)) 6 2200 (va_A [(ak, .inr (1, [.null, .null, .null, .null, .null, .null, .int 0]))] sz) := by
  refine Met.ofW (cc := cX0_init) (maxL := 1) (ret := none) (by decide) rfl ?_
  intro p e s m args below meth cd s₁ B hml hv
  obtain ⟨rfl, hsz, hP, hK, hD0⟩ := hv
  have hx := B.exec
  have hb := B.bytes
  have hr := B.returns
  have hts := atoms_spec (ws := wsX0_init) B.pre
  have wo1 := hts (.methodLink RX0 3 objectInit) (by decide +kernel)
  have wo2 := hts (.instanceMethod objectInit) (by decide +kernel)
  have wo3 := hts (.code objectInit ⟨#[0xb1]⟩ 1 none) (List.mem_of_getElem? (i := 3) rfl)
  have waboolean := hts (.arrayClass .boolean) (by decide +kernel)
  have iX0 : ∀ w ∈ wsX00, w ∈ wsX0_init := by decide +kernel
  have wf9 := hts (.fieldLink RX0 9 "CheckRestart$Checkpoints" "whole" "[Z") (by decide +kernel)
  have waint := hts (.arrayClass .int) (by decide +kernel)
  have wf15 := hts (.fieldLink RX0 15 "CheckRestart$Checkpoints" "editions" "[I") (by decide +kernel)
  have wf19 := hts (.fieldLink RX0 19 "CheckRestart$Checkpoints" "units" "[I") (by decide +kernel)
  have wf22 := hts (.fieldLink RX0 22 "CheckRestart$Checkpoints" "cellCounts" "[I") (by decide +kernel)
  have walong := hts (.arrayClass .long) (by decide +kernel)
  have wf25 := hts (.fieldLink RX0 25 "CheckRestart$Checkpoints" "cells" "[J") (by decide +kernel)
  have wf29 := hts (.fieldLink RX0 29 "CheckRestart$Checkpoints" "positions" "[I") (by decide +kernel)
  have wf32 := hts (.fieldLink RX0 32 "CheckRestart$Checkpoints" "begun" "I") (by decide +kernel)
  have hown : s.vm.findClass RX0 = some m.cls := findClass_of_methodNamed B.named
  have hlocks := B.notSynchronized
  have hin : meth.name = "<init>" := (name_of_methodNamed B.named B.method).1
  subst hsz
  have hD := hD0.self (sz := s.heap.size)
  generalize hAe : va_A [(ak, .inr (1, [.null, .null, .null, .null, .null, .null, .int 0]))] s.heap.size = A at hD ⊢
  have hA : ∀ q : Nat, s.heap.size ≤ q → A q := fun q h => by rw [← hAe]; exact Or.inr h
  have hS : va_S A s.heap s.heap [] := va_S.rf
  have hl := lv_entry ([.ref ak]) (n := 1) (Nat.le_of_ble_eq_true rfl)
  rw [lg_entry_eq]
  generalize (lg_sl ([.ref ak]) ++ List.replicate (1 - (lg_sl ([.ref ak])).length) Slot.unset).toArray = ls at hl ⊢
  have hl : lv_has ls 1 [(0, .ref ak)] := hl
  refine lv_aload_n hx hb dX0_init_0 rfl (lv_at hl 0 rfl) ?_
  refine W.objInit hx hb hown wo1 wo2 wo3 rfl (by rw [hml]; exact hl.1) rfl dX0_init_1 (Nat.le_of_ble_eq_true rfl) (Nat.le_of_ble_eq_true rfl) ?_
  refine W.eq (g2 := F0 m 4 ls []) rfl ?_
  refine lv_aload_n hx hb dX0_init_4 rfl (lv_at hl 0 rfl) ?_
  refine lv_bipush (v := 100) hx hb dX0_init_5 (by decide) ?_
  refine va_newa (atype := .boolean) (n := 100) (N' := 100) (a0 := (100, .inl (fun _ => 0))) (ty := .boolean) hx hb waboolean rfl hK hP hD hS hA (fun _ => rfl) (by decide) (by decide) (show 100 * 1 ≤ 536870912 by omega) (Nat.le_of_ble_eq_true rfl) (Nat.le_of_ble_eq_true rfl) dX0_init_7 (fun uw cA_1 H hK2 hP hD hS => ?_)
  have ecA_1 : cZ = cA_1 := ct_cls (i := 2) (j := 3) hK2 rfl rfl rfl
  subst ecA_1
  clear hK2
  refine W.widen (k := 1) (n := 100) (by omega) (by omega) ?_
  have hP : va_P D vwCl [(ak, .inr (1, [.null, .null, .null, .null, .null, .null, .int 0])), (uw, .inl (cZ, 100, .inl (fun _ => 0)))] H := hP
  have hD : va_D A [(ak, .inr (1, [.null, .null, .null, .null, .null, .null, .int 0])), (uw, .inl (cZ, 100, .inl (fun _ => 0)))] := hD
  refine va_putF (D := D) (ci := 1) (v := .ref uw) (ty := (.array .boolean)) (C := RX0) (T := TX0) (N := 7) hx hb hts iX0 tyX0 tyX0_ok nmX0 hown hK hP hD hS 0 rfl rfl 0 (by decide) wf9 (fun _ h9 => h9) rfl hin rfl (by decide +kernel) rfl rfl (Nat.le_of_ble_eq_true rfl) dX0_init_9 (fun H locs hP hD hS => ?_)
  have hP : va_P D vwCl [(ak, .inr (1, [.ref uw, .null, .null, .null, .null, .null, .int 0])), (uw, .inl (cZ, 100, .inl (fun _ => 0)))] H := hP
  have hD : va_D A [(ak, .inr (1, [.ref uw, .null, .null, .null, .null, .null, .int 0])), (uw, .inl (cZ, 100, .inl (fun _ => 0)))] := hD
  refine lv_aload_n hx hb dX0_init_12 rfl (lv_at hl 0 rfl) ?_
  refine lv_bipush (v := 100) hx hb dX0_init_13 (by decide) ?_
  refine va_newa (atype := .int) (n := 100) (N' := 100) (a0 := (100, .inl (fun _ => 0))) (ty := .int) hx hb waint rfl hK hP hD hS hA (fun _ => rfl) (by decide) (by decide) (show 100 * 4 ≤ 536870912 by omega) (Nat.le_of_ble_eq_true rfl) (Nat.le_of_ble_eq_true rfl) dX0_init_15 (fun ue cA_2 H hK2 hP hD hS => ?_)
  have ecA_2 : cI = cA_2 := ct_cls (i := 0) (j := 3) hK2 rfl rfl rfl
  subst ecA_2
  clear hK2
  refine W.widen (k := 2) (n := 200) (by omega) (by omega) ?_
  have hP : va_P D vwCl [(ak, .inr (1, [.ref uw, .null, .null, .null, .null, .null, .int 0])), (uw, .inl (cZ, 100, .inl (fun _ => 0))), (ue, .inl (cI, 100, .inl (fun _ => 0)))] H := hP
  have hD : va_D A [(ak, .inr (1, [.ref uw, .null, .null, .null, .null, .null, .int 0])), (uw, .inl (cZ, 100, .inl (fun _ => 0))), (ue, .inl (cI, 100, .inl (fun _ => 0)))] := hD
  refine va_putF (D := D) (ci := 1) (v := .ref ue) (ty := (.array .int)) (C := RX0) (T := TX0) (N := 7) hx hb hts iX0 tyX0 tyX0_ok nmX0 hown hK hP hD hS 0 rfl rfl 1 (by decide) wf15 (fun _ h9 => h9) rfl hin rfl (by decide +kernel) rfl rfl (Nat.le_of_ble_eq_true rfl) dX0_init_17 (fun H locs hP hD hS => ?_)
  have hP : va_P D vwCl [(ak, .inr (1, [.ref uw, .ref ue, .null, .null, .null, .null, .int 0])), (uw, .inl (cZ, 100, .inl (fun _ => 0))), (ue, .inl (cI, 100, .inl (fun _ => 0)))] H := hP
  have hD : va_D A [(ak, .inr (1, [.ref uw, .ref ue, .null, .null, .null, .null, .int 0])), (uw, .inl (cZ, 100, .inl (fun _ => 0))), (ue, .inl (cI, 100, .inl (fun _ => 0)))] := hD
  refine lv_aload_n hx hb dX0_init_20 rfl (lv_at hl 0 rfl) ?_
  refine lv_bipush (v := 100) hx hb dX0_init_21 (by decide) ?_
  refine va_newa (atype := .int) (n := 100) (N' := 100) (a0 := (100, .inl (fun _ => 0))) (ty := .int) hx hb waint rfl hK hP hD hS hA (fun _ => rfl) (by decide) (by decide) (show 100 * 4 ≤ 536870912 by omega) (Nat.le_of_ble_eq_true rfl) (Nat.le_of_ble_eq_true rfl) dX0_init_23 (fun uu cA_3 H hK2 hP hD hS => ?_)
  have ecA_3 : cI = cA_3 := ct_cls (i := 0) (j := 3) hK2 rfl rfl rfl
  subst ecA_3
  clear hK2
  refine W.widen (k := 3) (n := 300) (by omega) (by omega) ?_
  have hP : va_P D vwCl [(ak, .inr (1, [.ref uw, .ref ue, .null, .null, .null, .null, .int 0])), (uw, .inl (cZ, 100, .inl (fun _ => 0))), (ue, .inl (cI, 100, .inl (fun _ => 0))), (uu, .inl (cI, 100, .inl (fun _ => 0)))] H := hP
  have hD : va_D A [(ak, .inr (1, [.ref uw, .ref ue, .null, .null, .null, .null, .int 0])), (uw, .inl (cZ, 100, .inl (fun _ => 0))), (ue, .inl (cI, 100, .inl (fun _ => 0))), (uu, .inl (cI, 100, .inl (fun _ => 0)))] := hD
  refine va_putF (D := D) (ci := 1) (v := .ref uu) (ty := (.array .int)) (C := RX0) (T := TX0) (N := 7) hx hb hts iX0 tyX0 tyX0_ok nmX0 hown hK hP hD hS 0 rfl rfl 2 (by decide) wf19 (fun _ h9 => h9) rfl hin rfl (by decide +kernel) rfl rfl (Nat.le_of_ble_eq_true rfl) dX0_init_25 (fun H locs hP hD hS => ?_)
  have hP : va_P D vwCl [(ak, .inr (1, [.ref uw, .ref ue, .ref uu, .null, .null, .null, .int 0])), (uw, .inl (cZ, 100, .inl (fun _ => 0))), (ue, .inl (cI, 100, .inl (fun _ => 0))), (uu, .inl (cI, 100, .inl (fun _ => 0)))] H := hP
  have hD : va_D A [(ak, .inr (1, [.ref uw, .ref ue, .ref uu, .null, .null, .null, .int 0])), (uw, .inl (cZ, 100, .inl (fun _ => 0))), (ue, .inl (cI, 100, .inl (fun _ => 0))), (uu, .inl (cI, 100, .inl (fun _ => 0)))] := hD
  refine lv_aload_n hx hb dX0_init_28 rfl (lv_at hl 0 rfl) ?_
  refine lv_bipush (v := 100) hx hb dX0_init_29 (by decide) ?_
  refine va_newa (atype := .int) (n := 100) (N' := 100) (a0 := (100, .inl (fun _ => 0))) (ty := .int) hx hb waint rfl hK hP hD hS hA (fun _ => rfl) (by decide) (by decide) (show 100 * 4 ≤ 536870912 by omega) (Nat.le_of_ble_eq_true rfl) (Nat.le_of_ble_eq_true rfl) dX0_init_31 (fun un cA_4 H hK2 hP hD hS => ?_)
  have ecA_4 : cI = cA_4 := ct_cls (i := 0) (j := 3) hK2 rfl rfl rfl
  subst ecA_4
  clear hK2
  refine W.widen (k := 4) (n := 400) (by omega) (by omega) ?_
  have hP : va_P D vwCl [(ak, .inr (1, [.ref uw, .ref ue, .ref uu, .null, .null, .null, .int 0])), (uw, .inl (cZ, 100, .inl (fun _ => 0))), (ue, .inl (cI, 100, .inl (fun _ => 0))), (uu, .inl (cI, 100, .inl (fun _ => 0))), (un, .inl (cI, 100, .inl (fun _ => 0)))] H := hP
  have hD : va_D A [(ak, .inr (1, [.ref uw, .ref ue, .ref uu, .null, .null, .null, .int 0])), (uw, .inl (cZ, 100, .inl (fun _ => 0))), (ue, .inl (cI, 100, .inl (fun _ => 0))), (uu, .inl (cI, 100, .inl (fun _ => 0))), (un, .inl (cI, 100, .inl (fun _ => 0)))] := hD
  refine va_putF (D := D) (ci := 1) (v := .ref un) (ty := (.array .int)) (C := RX0) (T := TX0) (N := 7) hx hb hts iX0 tyX0 tyX0_ok nmX0 hown hK hP hD hS 0 rfl rfl 3 (by decide) wf22 (fun _ h9 => h9) rfl hin rfl (by decide +kernel) rfl rfl (Nat.le_of_ble_eq_true rfl) dX0_init_33 (fun H locs hP hD hS => ?_)
  have hP : va_P D vwCl [(ak, .inr (1, [.ref uw, .ref ue, .ref uu, .ref un, .null, .null, .int 0])), (uw, .inl (cZ, 100, .inl (fun _ => 0))), (ue, .inl (cI, 100, .inl (fun _ => 0))), (uu, .inl (cI, 100, .inl (fun _ => 0))), (un, .inl (cI, 100, .inl (fun _ => 0)))] H := hP
  have hD : va_D A [(ak, .inr (1, [.ref uw, .ref ue, .ref uu, .ref un, .null, .null, .int 0])), (uw, .inl (cZ, 100, .inl (fun _ => 0))), (ue, .inl (cI, 100, .inl (fun _ => 0))), (uu, .inl (cI, 100, .inl (fun _ => 0))), (un, .inl (cI, 100, .inl (fun _ => 0)))] := hD
  refine lv_aload_n hx hb dX0_init_36 rfl (lv_at hl 0 rfl) ?_
  refine lv_sipush (v := 1200) hx hb dX0_init_37 (by decide) ?_
  refine va_newa (atype := .long) (n := 1200) (N' := 1200) (a0 := (1200, .inr (.inl (fun _ => 0)))) (ty := .long) hx hb walong rfl hK hP hD hS hA (fun _ => rfl) (by decide) (by decide) (show 1200 * 8 ≤ 536870912 by omega) (Nat.le_of_ble_eq_true rfl) (Nat.le_of_ble_eq_true rfl) dX0_init_40 (fun uc cA_5 H hK2 hP hD hS => ?_)
  have ecA_5 : cL = cA_5 := ct_cls (i := 1) (j := 3) hK2 rfl rfl rfl
  subst ecA_5
  clear hK2
  refine W.widen (k := 5) (n := 1600) (by omega) (by omega) ?_
  have hP : va_P D vwCl [(ak, .inr (1, [.ref uw, .ref ue, .ref uu, .ref un, .null, .null, .int 0])), (uw, .inl (cZ, 100, .inl (fun _ => 0))), (ue, .inl (cI, 100, .inl (fun _ => 0))), (uu, .inl (cI, 100, .inl (fun _ => 0))), (un, .inl (cI, 100, .inl (fun _ => 0))), (uc, .inl (cL, 1200, .inr (.inl (fun _ => 0))))] H := hP
  have hD : va_D A [(ak, .inr (1, [.ref uw, .ref ue, .ref uu, .ref un, .null, .null, .int 0])), (uw, .inl (cZ, 100, .inl (fun _ => 0))), (ue, .inl (cI, 100, .inl (fun _ => 0))), (uu, .inl (cI, 100, .inl (fun _ => 0))), (un, .inl (cI, 100, .inl (fun _ => 0))), (uc, .inl (cL, 1200, .inr (.inl (fun _ => 0))))] := hD
  refine va_putF (D := D) (ci := 1) (v := .ref uc) (ty := (.array .long)) (C := RX0) (T := TX0) (N := 7) hx hb hts iX0 tyX0 tyX0_ok nmX0 hown hK hP hD hS 0 rfl rfl 4 (by decide) wf25 (fun _ h9 => h9) rfl hin rfl (by decide +kernel) rfl rfl (Nat.le_of_ble_eq_true rfl) dX0_init_42 (fun H locs hP hD hS => ?_)
  have hP : va_P D vwCl [(ak, .inr (1, [.ref uw, .ref ue, .ref uu, .ref un, .ref uc, .null, .int 0])), (uw, .inl (cZ, 100, .inl (fun _ => 0))), (ue, .inl (cI, 100, .inl (fun _ => 0))), (uu, .inl (cI, 100, .inl (fun _ => 0))), (un, .inl (cI, 100, .inl (fun _ => 0))), (uc, .inl (cL, 1200, .inr (.inl (fun _ => 0))))] H := hP
  have hD : va_D A [(ak, .inr (1, [.ref uw, .ref ue, .ref uu, .ref un, .ref uc, .null, .int 0])), (uw, .inl (cZ, 100, .inl (fun _ => 0))), (ue, .inl (cI, 100, .inl (fun _ => 0))), (uu, .inl (cI, 100, .inl (fun _ => 0))), (un, .inl (cI, 100, .inl (fun _ => 0))), (uc, .inl (cL, 1200, .inr (.inl (fun _ => 0))))] := hD
  refine lv_aload_n hx hb dX0_init_45 rfl (lv_at hl 0 rfl) ?_
  refine lv_sipush (v := 600) hx hb dX0_init_46 (by decide) ?_
  refine va_newa (atype := .int) (n := 600) (N' := 600) (a0 := (600, .inl (fun _ => 0))) (ty := .int) hx hb waint rfl hK hP hD hS hA (fun _ => rfl) (by decide) (by decide) (show 600 * 4 ≤ 536870912 by omega) (Nat.le_of_ble_eq_true rfl) (Nat.le_of_ble_eq_true rfl) dX0_init_49 (fun up cA_6 H hK2 hP hD hS => ?_)
  have ecA_6 : cI = cA_6 := ct_cls (i := 0) (j := 3) hK2 rfl rfl rfl
  subst ecA_6
  clear hK2
  refine W.widen (k := 6) (n := 2200) (by omega) (by omega) ?_
  have hP : va_P D vwCl [(ak, .inr (1, [.ref uw, .ref ue, .ref uu, .ref un, .ref uc, .null, .int 0])), (uw, .inl (cZ, 100, .inl (fun _ => 0))), (ue, .inl (cI, 100, .inl (fun _ => 0))), (uu, .inl (cI, 100, .inl (fun _ => 0))), (un, .inl (cI, 100, .inl (fun _ => 0))), (uc, .inl (cL, 1200, .inr (.inl (fun _ => 0)))), (up, .inl (cI, 600, .inl (fun _ => 0)))] H := hP
  have hD : va_D A [(ak, .inr (1, [.ref uw, .ref ue, .ref uu, .ref un, .ref uc, .null, .int 0])), (uw, .inl (cZ, 100, .inl (fun _ => 0))), (ue, .inl (cI, 100, .inl (fun _ => 0))), (uu, .inl (cI, 100, .inl (fun _ => 0))), (un, .inl (cI, 100, .inl (fun _ => 0))), (uc, .inl (cL, 1200, .inr (.inl (fun _ => 0)))), (up, .inl (cI, 600, .inl (fun _ => 0)))] := hD
  refine va_putF (D := D) (ci := 1) (v := .ref up) (ty := (.array .int)) (C := RX0) (T := TX0) (N := 7) hx hb hts iX0 tyX0 tyX0_ok nmX0 hown hK hP hD hS 0 rfl rfl 5 (by decide) wf29 (fun _ h9 => h9) rfl hin rfl (by decide +kernel) rfl rfl (Nat.le_of_ble_eq_true rfl) dX0_init_51 (fun H locs hP hD hS => ?_)
  have hP : va_P D vwCl [(ak, .inr (1, [.ref uw, .ref ue, .ref uu, .ref un, .ref uc, .ref up, .int 0])), (uw, .inl (cZ, 100, .inl (fun _ => 0))), (ue, .inl (cI, 100, .inl (fun _ => 0))), (uu, .inl (cI, 100, .inl (fun _ => 0))), (un, .inl (cI, 100, .inl (fun _ => 0))), (uc, .inl (cL, 1200, .inr (.inl (fun _ => 0)))), (up, .inl (cI, 600, .inl (fun _ => 0)))] H := hP
  have hD : va_D A [(ak, .inr (1, [.ref uw, .ref ue, .ref uu, .ref un, .ref uc, .ref up, .int 0])), (uw, .inl (cZ, 100, .inl (fun _ => 0))), (ue, .inl (cI, 100, .inl (fun _ => 0))), (uu, .inl (cI, 100, .inl (fun _ => 0))), (un, .inl (cI, 100, .inl (fun _ => 0))), (uc, .inl (cL, 1200, .inr (.inl (fun _ => 0)))), (up, .inl (cI, 600, .inl (fun _ => 0)))] := hD
  refine lv_aload_n hx hb dX0_init_54 rfl (lv_at hl 0 rfl) ?_
  refine lv_iconst (v := 0) hx hb dX0_init_55 (by decide) ?_
  refine va_put (D := D) (ci := 1) (v := .int 0) (ty := .int) (C := RX0) (T := TX0) (N := 7) hx hb hts iX0 tyX0 tyX0_ok nmX0 hown hK hP hD hS 0 rfl rfl 6 (by decide) wf32 (fun _ h9 => h9) rfl (by decide +kernel) rfl rfl (Nat.le_of_ble_eq_true rfl) dX0_init_56 (fun H locs hP hD hS => ?_)
  have hP : va_P D vwCl [(ak, .inr (1, [.ref uw, .ref ue, .ref uu, .ref un, .ref uc, .ref up, .int 0])), (uw, .inl (cZ, 100, .inl (fun _ => 0))), (ue, .inl (cI, 100, .inl (fun _ => 0))), (uu, .inl (cI, 100, .inl (fun _ => 0))), (un, .inl (cI, 100, .inl (fun _ => 0))), (uc, .inl (cL, 1200, .inr (.inl (fun _ => 0)))), (up, .inl (cI, 600, .inl (fun _ => 0)))] H := hP
  have hD : va_D A [(ak, .inr (1, [.ref uw, .ref ue, .ref uu, .ref un, .ref uc, .ref up, .int 0])), (uw, .inl (cZ, 100, .inl (fun _ => 0))), (ue, .inl (cI, 100, .inl (fun _ => 0))), (uu, .inl (cI, 100, .inl (fun _ => 0))), (un, .inl (cI, 100, .inl (fun _ => 0))), (uc, .inl (cL, 1200, .inr (.inl (fun _ => 0)))), (up, .inl (cI, 600, .inl (fun _ => 0)))] := hD
  have hP9 := hP.sub (ws' := [(ak, .inr (1, [.ref uw, .ref ue, .ref uu, .ref un, .ref uc, .ref up, .int 0])), (uw, .inl (cZ, 100, .inl (fun _ => 0))), (ue, .inl (cI, 100, .inl (fun _ => 0))), (uu, .inl (cI, 100, .inl (fun _ => 0))), (un, .inl (cI, 100, .inl (fun _ => 0))), (uc, .inl (cL, 1200, .inr (.inl (fun _ => 0)))), (up, .inl (cI, 600, .inl (fun _ => 0)))]) [0, 1, 2, 3, 4, 5, 6] rfl
  have hD9 := hD.sub (ws' := [(ak, .inr (1, [.ref uw, .ref ue, .ref uu, .ref un, .ref uc, .ref up, .int 0])), (uw, .inl (cZ, 100, .inl (fun _ => 0))), (ue, .inl (cI, 100, .inl (fun _ => 0))), (uu, .inl (cI, 100, .inl (fun _ => 0))), (un, .inl (cI, 100, .inl (fun _ => 0))), (uc, .inl (cL, 1200, .inr (.inl (fun _ => 0)))), (up, .inl (cI, 600, .inl (fun _ => 0)))]) [0, 1, 2, 3, 4, 5, 6] (by decide) rfl
  refine W.widen (k := 6) (n := 2200) (Nat.le_of_ble_eq_true rfl) (Nat.le_of_ble_eq_true rfl) ?_
  exact W.vret hx hb hr (fun t9 ht9 hW9 => ⟨⟨(uw, ue, uu, un, uc, up), rfl, trivial, by rw [ht9]; exact hP9, va_K.moved hW9.alike hK, hD9⟩, hS.F ht9⟩) hS.2.2 dX0_init_59
abbrev rm_X0_has : Room := { frames := 0, cells := 0, slots := 0, locals := 0 }
abbrev qc_X0_has (D : va_G) (cI cL cZ : ClassId) (ak : Nat) (akw : Nat) (ake : Nat) (aku : Nat) (akn : Nat) (akc : Nat) (akp : Nat) (kb : Nat) (x : Int32) (A : Nat → Prop) : Array Value → State → Outcome → State → Prop := va_Qi (fun (r : Int32) (u : Unit) => ((if x < 1 ∨ nI kb < x then 0 else 1) = r)) (ct_B D vwCl [(cI, .int), (cL, .long), (cZ, .boolean)] A (fun (u : Unit) => [(ak, .inr (1, [.ref akw, .ref ake, .ref aku, .ref akn, .ref akc, .ref akp, .int (nI kb)]))])) A
set_option maxHeartbeats 4000000 in
set_option maxRecDepth 100000 in
theorem c_X0_has (l : Launch) (D : va_G) (cI cL cZ : ClassId) (ak : Nat) (akw : Nat) (ake : Nat) (aku : Nat) (akn : Nat) (akc : Nat) (akp : Nat) (kb : Nat) (x : Int32) (sz : Nat)  : Met l yX0_has wsX0_has rm_X0_has (va_Pc [.ref ak, .int x] (ct_P D vwCl [(cI, .int), (cL, .long), (cZ, .boolean)] [(ak, .inr (1, [.ref akw, .ref ake, .ref aku, .ref akn, .ref akc, .ref akp, .int (nI kb)]))] sz)) (qc_X0_has D cI cL cZ ak akw ake aku akn akc akp kb x (va_A [(ak, .inr (1, [.ref akw, .ref ake, .ref aku, .ref akn, .ref akc, .ref akp, .int (nI kb)]))] sz)) 0 0 (va_A [(ak, .inr (1, [.ref akw, .ref ake, .ref aku, .ref akn, .ref akc, .ref akp, .int (nI kb)]))] sz) := by
  refine Met.ofW (cc := cX0_has) (maxL := 2) (ret := (some .boolean)) (by decide) rfl ?_
  intro p e s m args below meth cd s₁ B hml hv
  obtain ⟨rfl, hsz, hP, hK, hD0⟩ := hv
  have hx := B.exec
  have hb := B.bytes
  have hr := B.returns
  have hts := atoms_spec (ws := wsX0_has) B.pre
  have iX0 : ∀ w ∈ wsX00, w ∈ wsX0_has := by decide +kernel
  have wf32 := hts (.fieldLink RX0 32 "CheckRestart$Checkpoints" "begun" "I") (by decide +kernel)
  have hown : s.vm.findClass RX0 = some m.cls := findClass_of_methodNamed B.named
  have hlocks := B.notSynchronized
  subst hsz
  have hD := hD0.self (sz := s.heap.size)
  generalize hAe : va_A [(ak, .inr (1, [.ref akw, .ref ake, .ref aku, .ref akn, .ref akc, .ref akp, .int (nI kb)]))] s.heap.size = A at hD ⊢
  have hA : ∀ q : Nat, s.heap.size ≤ q → A q := fun q h => by rw [← hAe]; exact Or.inr h
  have hS : va_S A s.heap s.heap [] := va_S.rf
  have hl := lv_entry ([.ref ak, .int x]) (n := 2) (Nat.le_of_ble_eq_true rfl)
  rw [lg_entry_eq]
  generalize (lg_sl ([.ref ak, .int x]) ++ List.replicate (2 - (lg_sl ([.ref ak, .int x])).length) Slot.unset).toArray = ls at hl ⊢
  have hl : lv_has ls 2 [(0, .ref ak), (1, .int x)] := hl
  refine lv_iload_n hx hb dX0_has_0 rfl (lv_at hl 1 rfl) ?_
  refine lv_iconst (v := 1) hx hb dX0_has_1 (by decide) ?_
  refine lv_icmp_lt (tgt := 17) hx hb dX0_has_2 (by decide) (fun c_2 => ?_) (fun c_2 => ?_)
  · refine lv_iconst (v := 0) hx hb dX0_has_17 (by decide) ?_
    have hP9 := hP.sub (ws' := [(ak, .inr (1, [.ref akw, .ref ake, .ref aku, .ref akn, .ref akc, .ref akp, .int (nI kb)]))]) [0] rfl
    have hD9 := hD.sub (ws' := [(ak, .inr (1, [.ref akw, .ref ake, .ref aku, .ref akn, .ref akc, .ref akp, .int (nI kb)]))]) [0] (by decide) rfl
    refine W.widen (k := 0) (n := 0) (Nat.le_of_ble_eq_true rfl) (Nat.le_of_ble_eq_true rfl) ?_
    exact W.zret (v := 0) hx hb hr (rfl) (fun t9 ht9 hW9 => ⟨⟨0, (), rfl, by first | rfl | (simp [c_2]; done), by rw [ht9]; exact hP9, va_K.moved hW9.alike hK, hD9⟩, hS.F ht9⟩) hS.2.2 dX0_has_18
  · refine lv_iload_n hx hb dX0_has_5 rfl (lv_at hl 1 rfl) ?_
    refine lv_aload_n hx hb dX0_has_6 rfl (lv_at hl 0 rfl) ?_
    refine va_get (D := D) (ci := 1) (v := .int (nI kb)) (C := RX0) (T := TX0) (N := 7) hx hb hts iX0 hown hK hP 0 rfl rfl 6 (by decide) wf32 (fun _ h9 => h9) rfl dX0_has_7 ?_
    refine lv_icmp_gt (tgt := 17) hx hb dX0_has_10 (by decide) (fun c_10 => ?_) (fun c_10 => ?_)
    · refine lv_iconst (v := 0) hx hb dX0_has_17 (by decide) ?_
      have hP9 := hP.sub (ws' := [(ak, .inr (1, [.ref akw, .ref ake, .ref aku, .ref akn, .ref akc, .ref akp, .int (nI kb)]))]) [0] rfl
      have hD9 := hD.sub (ws' := [(ak, .inr (1, [.ref akw, .ref ake, .ref aku, .ref akn, .ref akc, .ref akp, .int (nI kb)]))]) [0] (by decide) rfl
      refine W.widen (k := 0) (n := 0) (Nat.le_of_ble_eq_true rfl) (Nat.le_of_ble_eq_true rfl) ?_
      exact W.zret (v := 0) hx hb hr (rfl) (fun t9 ht9 hW9 => ⟨⟨0, (), rfl, by first | rfl | (simp [c_2, c_10]; done), by rw [ht9]; exact hP9, va_K.moved hW9.alike hK, hD9⟩, hS.F ht9⟩) hS.2.2 dX0_has_18
    · refine lv_iconst (v := 1) hx hb dX0_has_13 (by decide) ?_
      refine lv_goto (tgt := 18) hx hb dX0_has_14 (by decide) ?_
      have hP9 := hP.sub (ws' := [(ak, .inr (1, [.ref akw, .ref ake, .ref aku, .ref akn, .ref akc, .ref akp, .int (nI kb)]))]) [0] rfl
      have hD9 := hD.sub (ws' := [(ak, .inr (1, [.ref akw, .ref ake, .ref aku, .ref akn, .ref akc, .ref akp, .int (nI kb)]))]) [0] (by decide) rfl
      refine W.widen (k := 0) (n := 0) (Nat.le_of_ble_eq_true rfl) (Nat.le_of_ble_eq_true rfl) ?_
      exact W.zret (v := 1) hx hb hr (rfl) (fun t9 ht9 hW9 => ⟨⟨1, (), rfl, by first | rfl | (simp [c_2, c_10]; done), by rw [ht9]; exact hP9, va_K.moved hW9.alike hK, hD9⟩, hS.F ht9⟩) hS.2.2 dX0_has_18
abbrev rm_X0_addTorn : Room := { frames := 0, cells := 0, slots := 0, locals := 0 }
abbrev qc_X0_addTorn (D : va_G) (cI cL cZ : ClassId) (ak : Nat) (akw : Nat) (ake : Nat) (aku : Nat) (akn : Nat) (akc : Nat) (akp : Nat) (kw : Nat → Int32) (kb : Nat) (A : Nat → Prop) : Array Value → State → Outcome → State → Prop := va_Qv (fun (u : Unit) => True) (ct_B D vwCl [(cI, .int), (cL, .long), (cZ, .boolean)] A (fun (u : Unit) => [(ak, .inr (1, [.ref akw, .ref ake, .ref aku, .ref akn, .ref akc, .ref akp, .int (nI (kb + 1))])), (akw, .inl (cZ, 100, .inl (upd kw kb 0)))])) A
set_option maxHeartbeats 4000000 in
set_option maxRecDepth 100000 in
theorem c_X0_addTorn (l : Launch) (D : va_G) (cI cL cZ : ClassId) (ak : Nat) (akw : Nat) (ake : Nat) (aku : Nat) (akn : Nat) (akc : Nat) (akp : Nat) (kw : Nat → Int32) (kb : Nat) (sz : Nat) (hk : kb < 100) : Met l yX0_addTorn wsX0_addTorn rm_X0_addTorn (va_Pc [.ref ak] (ct_P D vwCl [(cI, .int), (cL, .long), (cZ, .boolean)] [(ak, .inr (1, [.ref akw, .ref ake, .ref aku, .ref akn, .ref akc, .ref akp, .int (nI kb)])), (akw, .inl (cZ, 100, .inl kw))] sz)) (qc_X0_addTorn D cI cL cZ ak akw ake aku akn akc akp kw kb (va_A [(ak, .inr (1, [.ref akw, .ref ake, .ref aku, .ref akn, .ref akc, .ref akp, .int (nI kb)])), (akw, .inl (cZ, 100, .inl kw))] sz)) 0 0 (va_A [(ak, .inr (1, [.ref akw, .ref ake, .ref aku, .ref akn, .ref akc, .ref akp, .int (nI kb)])), (akw, .inl (cZ, 100, .inl kw))] sz) := by
  refine Met.ofW (cc := cX0_addTorn) (maxL := 1) (ret := none) (by decide) rfl ?_
  intro p e s m args below meth cd s₁ B hml hv
  obtain ⟨rfl, hsz, hP, hK, hD0⟩ := hv
  have hx := B.exec
  have hb := B.bytes
  have hr := B.returns
  have hts := atoms_spec (ws := wsX0_addTorn) B.pre
  have iX0 : ∀ w ∈ wsX00, w ∈ wsX0_addTorn := by decide +kernel
  have wf32 := hts (.fieldLink RX0 32 "CheckRestart$Checkpoints" "begun" "I") (by decide +kernel)
  have wf9 := hts (.fieldLink RX0 9 "CheckRestart$Checkpoints" "whole" "[Z") (by decide +kernel)
  have hown : s.vm.findClass RX0 = some m.cls := findClass_of_methodNamed B.named
  have hlocks := B.notSynchronized
  subst hsz
  have hD := hD0.self (sz := s.heap.size)
  generalize hAe : va_A [(ak, .inr (1, [.ref akw, .ref ake, .ref aku, .ref akn, .ref akc, .ref akp, .int (nI kb)])), (akw, .inl (cZ, 100, .inl kw))] s.heap.size = A at hD ⊢
  have hA : ∀ q : Nat, s.heap.size ≤ q → A q := fun q h => by rw [← hAe]; exact Or.inr h
  have hS : va_S A s.heap s.heap [] := va_S.rf
  have hl := lv_entry ([.ref ak]) (n := 1) (Nat.le_of_ble_eq_true rfl)
  rw [lg_entry_eq]
  generalize (lg_sl ([.ref ak]) ++ List.replicate (1 - (lg_sl ([.ref ak])).length) Slot.unset).toArray = ls at hl ⊢
  have hl : lv_has ls 1 [(0, .ref ak)] := hl
  refine lv_aload_n hx hb dX0_addTorn_0 rfl (lv_at hl 0 rfl) ?_
  refine va_get (D := D) (ci := 1) (v := .int (nI kb)) (C := RX0) (T := TX0) (N := 7) hx hb hts iX0 hown hK hP 0 rfl rfl 6 (by decide) wf32 (fun _ h9 => h9) rfl dX0_addTorn_1 ?_
  refine lv_bipush (v := 100) hx hb dX0_addTorn_4 (by decide) ?_
  refine lv_icmp_lt (tgt := 10) hx hb dX0_addTorn_6 (by decide) (fun c_6 => ?_) (fun c_6 => ?_)
  · refine lv_aload_n hx hb dX0_addTorn_10 rfl (lv_at hl 0 rfl) ?_
    refine va_get (D := D) (ci := 1) (v := .ref akw) (C := RX0) (T := TX0) (N := 7) hx hb hts iX0 hown hK hP 0 rfl rfl 0 (by decide) wf9 (fun _ h9 => h9) rfl dX0_addTorn_11 ?_
    refine lv_aload_n hx hb dX0_addTorn_14 rfl (lv_at hl 0 rfl) ?_
    refine va_get (D := D) (ci := 1) (v := .int (nI kb)) (C := RX0) (T := TX0) (N := 7) hx hb hts iX0 hown hK hP 0 rfl rfl 6 (by decide) wf32 (fun _ h9 => h9) rfl dX0_addTorn_15 ?_
    refine lv_iconst (v := 0) hx hb dX0_addTorn_18 (by decide) ?_
    refine ct_zast (k := kb) hx hb hK hP hD hS 1 2 rfl rfl (rfl) (by omega) (by decide) dX0_addTorn_19 (fun H locs hP hD hS => ?_)
    have hP : va_P D vwCl [(ak, .inr (1, [.ref akw, .ref ake, .ref aku, .ref akn, .ref akc, .ref akp, .int (nI kb)])), (akw, .inl (cZ, 100, .inl (upd kw kb 0)))] H := hP
    have hD : va_D A [(ak, .inr (1, [.ref akw, .ref ake, .ref aku, .ref akn, .ref akc, .ref akp, .int (nI kb)])), (akw, .inl (cZ, 100, .inl (upd kw kb 0)))] := hD
    refine lv_aload_n hx hb dX0_addTorn_20 rfl (lv_at hl 0 rfl) ?_
    refine lv_dup hx hb dX0_addTorn_21 rfl ?_
    refine va_get (D := D) (ci := 1) (v := .int (nI kb)) (C := RX0) (T := TX0) (N := 7) hx hb hts iX0 hown hK hP 0 rfl rfl 6 (by decide) wf32 (fun _ h9 => h9) rfl dX0_addTorn_22 ?_
    refine lv_iconst (v := 1) hx hb dX0_addTorn_25 (by decide) ?_
    refine lv_iadd hx hb dX0_addTorn_26 ?_
    refine ct_topi (y := (nI (kb + 1))) (nI_1 kb) ?_
    refine va_put (D := D) (ci := 1) (v := .int (nI (kb + 1))) (ty := .int) (C := RX0) (T := TX0) (N := 7) hx hb hts iX0 tyX0 tyX0_ok nmX0 hown hK hP hD hS 0 rfl rfl 6 (by decide) wf32 (fun _ h9 => h9) rfl (by decide +kernel) rfl rfl (Nat.le_of_ble_eq_true rfl) dX0_addTorn_27 (fun H locs hP hD hS => ?_)
    have hP : va_P D vwCl [(ak, .inr (1, [.ref akw, .ref ake, .ref aku, .ref akn, .ref akc, .ref akp, .int (nI (kb + 1))])), (akw, .inl (cZ, 100, .inl (upd kw kb 0)))] H := hP
    have hD : va_D A [(ak, .inr (1, [.ref akw, .ref ake, .ref aku, .ref akn, .ref akc, .ref akp, .int (nI (kb + 1))])), (akw, .inl (cZ, 100, .inl (upd kw kb 0)))] := hD
    have hP9 := hP.sub (ws' := [(ak, .inr (1, [.ref akw, .ref ake, .ref aku, .ref akn, .ref akc, .ref akp, .int (nI (kb + 1))])), (akw, .inl (cZ, 100, .inl (upd kw kb 0)))]) [0, 1] rfl
    have hD9 := hD.sub (ws' := [(ak, .inr (1, [.ref akw, .ref ake, .ref aku, .ref akn, .ref akc, .ref akp, .int (nI (kb + 1))])), (akw, .inl (cZ, 100, .inl (upd kw kb 0)))]) [0, 1] (by decide) rfl
    refine W.widen (k := 0) (n := 0) (Nat.le_of_ble_eq_true rfl) (Nat.le_of_ble_eq_true rfl) ?_
    exact W.vret hx hb hr (fun t9 ht9 hW9 => ⟨⟨(), rfl, trivial, by rw [ht9]; exact hP9, va_K.moved hW9.alike hK, hD9⟩, hS.F ht9⟩) hS.2.2 dX0_addTorn_30
  · exact absurd c_6 (fun h => h (nI_lt (a := kb) (b := 100) (by omega) (by omega)))
abbrev rm_X0_addWhole : Room := { frames := 1, cells := 0, slots := 0, locals := 40 }
abbrev qc_X0_addWhole (D : va_G) (cI cL cZ : ClassId) (ak : Nat) (akw : Nat) (ake : Nat) (aku : Nat) (akn : Nat) (akc : Nat) (akp : Nat) (kw : Nat → Int32) (ke : Nat → Int32) (ku : Nat → Int32) (kn : Nat → Int32) (kc : Nat → Int64) (kp : Nat → Int32) (ap : Nat) (apc : Nat) (app : Nat) (cs : Nat → Int64) (ps : Nat → Int32) (aj : Nat) (af : Nat) (al : Nat) (c : Nat) (f : Nat) (t : Nat) (kb : Nat) (e0 : Int32) (A : Nat → Prop) : Array Value → State → Outcome → State → Prop := va_Qv (fun (u : Unit) => True) (ct_B D vwCl [(cI, .int), (cL, .long), (cZ, .boolean)] A (fun (u : Unit) => [(ak, .inr (1, [.ref akw, .ref ake, .ref aku, .ref akn, .ref akc, .ref akp, .int (nI (kb + 1))])), (akw, .inl (cZ, 100, .inl (upd kw kb 1))), (ake, .inl (cI, 100, .inl (upd ke kb e0))), (aku, .inl (cI, 100, .inl (upd ku kb (nI t)))), (akn, .inl (cI, 100, .inl (upd kn kb (nI c)))), (akc, .inl (cL, 1200, .inr (.inl (va_cpy cs kc 0 (kb * 12) 12)))), (akp, .inl (cI, 600, .inl (va_cpy ps kp 0 (kb * 6) 6))), (ap, .inr (3, [.ref aj, .ref apc, .ref app, .int (nI t)])), (apc, .inl (cL, 12, .inr (.inl cs))), (app, .inl (cI, 6, .inl ps)), (aj, .inr (2, [.ref af, .ref al, .int (nI c), .int (nI f)]))])) A
set_option maxHeartbeats 4000000 in
set_option maxRecDepth 100000 in
theorem c_X0_addWhole (l : Launch) (D : va_G) (cI cL cZ : ClassId) (ak : Nat) (akw : Nat) (ake : Nat) (aku : Nat) (akn : Nat) (akc : Nat) (akp : Nat) (kw : Nat → Int32) (ke : Nat → Int32) (ku : Nat → Int32) (kn : Nat → Int32) (kc : Nat → Int64) (kp : Nat → Int32) (ap : Nat) (apc : Nat) (app : Nat) (cs : Nat → Int64) (ps : Nat → Int32) (aj : Nat) (af : Nat) (al : Nat) (c : Nat) (f : Nat) (t : Nat) (kb : Nat) (e0 : Int32) (sz : Nat) (hk : kb < 100) : Met l yX0_addWhole wsX0_addWhole rm_X0_addWhole (va_Pc [.ref ak, .ref ap, .int e0] (ct_P D vwCl [(cI, .int), (cL, .long), (cZ, .boolean)] [(ak, .inr (1, [.ref akw, .ref ake, .ref aku, .ref akn, .ref akc, .ref akp, .int (nI kb)])), (akw, .inl (cZ, 100, .inl kw)), (ake, .inl (cI, 100, .inl ke)), (aku, .inl (cI, 100, .inl ku)), (akn, .inl (cI, 100, .inl kn)), (akc, .inl (cL, 1200, .inr (.inl kc))), (akp, .inl (cI, 600, .inl kp)), (ap, .inr (3, [.ref aj, .ref apc, .ref app, .int (nI t)])), (apc, .inl (cL, 12, .inr (.inl cs))), (app, .inl (cI, 6, .inl ps)), (aj, .inr (2, [.ref af, .ref al, .int (nI c), .int (nI f)]))] sz)) (qc_X0_addWhole D cI cL cZ ak akw ake aku akn akc akp kw ke ku kn kc kp ap apc app cs ps aj af al c f t kb e0 (va_A [(ak, .inr (1, [.ref akw, .ref ake, .ref aku, .ref akn, .ref akc, .ref akp, .int (nI kb)])), (akw, .inl (cZ, 100, .inl kw)), (ake, .inl (cI, 100, .inl ke)), (aku, .inl (cI, 100, .inl ku)), (akn, .inl (cI, 100, .inl kn)), (akc, .inl (cL, 1200, .inr (.inl kc))), (akp, .inl (cI, 600, .inl kp)), (ap, .inr (3, [.ref aj, .ref apc, .ref app, .int (nI t)])), (apc, .inl (cL, 12, .inr (.inl cs))), (app, .inl (cI, 6, .inl ps)), (aj, .inr (2, [.ref af, .ref al, .int (nI c), .int (nI f)]))] sz)) 0 0 (va_A [(ak, .inr (1, [.ref akw, .ref ake, .ref aku, .ref akn, .ref akc, .ref akp, .int (nI kb)])), (akw, .inl (cZ, 100, .inl kw)), (ake, .inl (cI, 100, .inl ke)), (aku, .inl (cI, 100, .inl ku)), (akn, .inl (cI, 100, .inl kn)), (akc, .inl (cL, 1200, .inr (.inl kc))), (akp, .inl (cI, 600, .inl kp)), (ap, .inr (3, [.ref aj, .ref apc, .ref app, .int (nI t)])), (apc, .inl (cL, 12, .inr (.inl cs))), (app, .inl (cI, 6, .inl ps)), (aj, .inr (2, [.ref af, .ref al, .int (nI c), .int (nI f)]))] sz) := by
  refine Met.ofW (cc := cX0_addWhole) (maxL := 4) (ret := none) (by decide) rfl ?_
  intro p e s m args below meth cd s₁ B hml hv
  obtain ⟨rfl, hsz, hP, hK, hD0⟩ := hv
  have hx := B.exec
  have hb := B.bytes
  have hr := B.returns
  have hts := atoms_spec (ws := wsX0_addWhole) B.pre
  have iX0 : ∀ w ∈ wsX00, w ∈ wsX0_addWhole := by decide +kernel
  have wf32 := hts (.fieldLink RX0 32 "CheckRestart$Checkpoints" "begun" "I") (by decide +kernel)
  have wf9 := hts (.fieldLink RX0 9 "CheckRestart$Checkpoints" "whole" "[Z") (by decide +kernel)
  have wf15 := hts (.fieldLink RX0 15 "CheckRestart$Checkpoints" "editions" "[I") (by decide +kernel)
  have wf19 := hts (.fieldLink RX0 19 "CheckRestart$Checkpoints" "units" "[I") (by decide +kernel)
  have iX2 : ∀ w ∈ wsX20, w ∈ wsX0_addWhole := by decide +kernel
  have wf36 := hts (.fieldLink RX0 36 "CheckRestart$Progress" "units" "I") (by decide +kernel)
  have wf22 := hts (.fieldLink RX0 22 "CheckRestart$Checkpoints" "cellCounts" "[I") (by decide +kernel)
  have wf40 := hts (.fieldLink RX0 40 "CheckRestart$Progress" "job" "LCheckRestart$Job;") (by decide +kernel)
  have iX1 : ∀ w ∈ wsX10, w ∈ wsX0_addWhole := by decide +kernel
  have wf44 := hts (.fieldLink RX0 44 "CheckRestart$Job" "cellCount" "I") (by decide +kernel)
  have wf49 := hts (.fieldLink RX0 49 "CheckRestart$Progress" "cells" "[J") (by decide +kernel)
  have wf25 := hts (.fieldLink RX0 25 "CheckRestart$Checkpoints" "cells" "[J") (by decide +kernel)
  have wp50 := hts (.methodLink RX0 50 arraycopyName) (by decide +kernel)
  have wp_n := hts (.native arraycopyName) (by decide +kernel)
  have wp_s := hts (.static arraycopyName) (by decide +kernel)
  have wp_i := hts (.initialized "java/lang/System") (by decide +kernel)
  have wf56 := hts (.fieldLink RX0 56 "CheckRestart$Progress" "positions" "[I") (by decide +kernel)
  have wf29 := hts (.fieldLink RX0 29 "CheckRestart$Checkpoints" "positions" "[I") (by decide +kernel)
  have hown : s.vm.findClass RX0 = some m.cls := findClass_of_methodNamed B.named
  have hlocks := B.notSynchronized
  subst hsz
  have hD := hD0.self (sz := s.heap.size)
  generalize hAe : va_A [(ak, .inr (1, [.ref akw, .ref ake, .ref aku, .ref akn, .ref akc, .ref akp, .int (nI kb)])), (akw, .inl (cZ, 100, .inl kw)), (ake, .inl (cI, 100, .inl ke)), (aku, .inl (cI, 100, .inl ku)), (akn, .inl (cI, 100, .inl kn)), (akc, .inl (cL, 1200, .inr (.inl kc))), (akp, .inl (cI, 600, .inl kp)), (ap, .inr (3, [.ref aj, .ref apc, .ref app, .int (nI t)])), (apc, .inl (cL, 12, .inr (.inl cs))), (app, .inl (cI, 6, .inl ps)), (aj, .inr (2, [.ref af, .ref al, .int (nI c), .int (nI f)]))] s.heap.size = A at hD ⊢
  have hA : ∀ q : Nat, s.heap.size ≤ q → A q := fun q h => by rw [← hAe]; exact Or.inr h
  have hS : va_S A s.heap s.heap [] := va_S.rf
  have hl := lv_entry ([.ref ak, .ref ap, .int e0]) (n := 4) (Nat.le_of_ble_eq_true rfl)
  rw [lg_entry_eq]
  generalize (lg_sl ([.ref ak, .ref ap, .int e0]) ++ List.replicate (4 - (lg_sl ([.ref ak, .ref ap, .int e0])).length) Slot.unset).toArray = ls at hl ⊢
  have hl : lv_has ls 4 [(0, .ref ak), (1, .ref ap), (2, .int e0)] := hl
  refine lv_aload_n hx hb dX0_addWhole_0 rfl (lv_at hl 0 rfl) ?_
  refine va_get (D := D) (ci := 1) (v := .int (nI kb)) (C := RX0) (T := TX0) (N := 7) hx hb hts iX0 hown hK hP 0 rfl rfl 6 (by decide) wf32 (fun _ h9 => h9) rfl dX0_addWhole_1 ?_
  refine lv_bipush (v := 100) hx hb dX0_addWhole_4 (by decide) ?_
  refine lv_icmp_lt (tgt := 10) hx hb dX0_addWhole_6 (by decide) (fun c_6 => ?_) (fun c_6 => ?_)
  · refine lv_aload_n hx hb dX0_addWhole_10 rfl (lv_at hl 0 rfl) ?_
    refine va_get (D := D) (ci := 1) (v := .int (nI kb)) (C := RX0) (T := TX0) (N := 7) hx hb hts iX0 hown hK hP 0 rfl rfl 6 (by decide) wf32 (fun _ h9 => h9) rfl dX0_addWhole_11 ?_
    refine lv_istore_n (lv' := [(3, .int (nI kb)), (0, .ref ak), (1, .ref ap), (2, .int e0)]) hx hb dX0_addWhole_14 rfl hl (by decide) rfl (fun ls hl => ?_)
    refine lv_aload_n hx hb dX0_addWhole_15 rfl (lv_at hl 1 rfl) ?_
    refine va_get (D := D) (ci := 1) (v := .ref akw) (C := RX0) (T := TX0) (N := 7) hx hb hts iX0 hown hK hP 0 rfl rfl 0 (by decide) wf9 (fun _ h9 => h9) rfl dX0_addWhole_16 ?_
    refine lv_iload_n hx hb dX0_addWhole_19 rfl (lv_at hl 0 rfl) ?_
    refine lv_iconst (v := 1) hx hb dX0_addWhole_20 (by decide) ?_
    refine ct_zast (k := kb) hx hb hK hP hD hS 1 2 rfl rfl (rfl) (by omega) (by decide) dX0_addWhole_21 (fun H locs hP hD hS => ?_)
    have hP : va_P D vwCl [(ak, .inr (1, [.ref akw, .ref ake, .ref aku, .ref akn, .ref akc, .ref akp, .int (nI kb)])), (akw, .inl (cZ, 100, .inl (upd kw kb 1))), (ake, .inl (cI, 100, .inl ke)), (aku, .inl (cI, 100, .inl ku)), (akn, .inl (cI, 100, .inl kn)), (akc, .inl (cL, 1200, .inr (.inl kc))), (akp, .inl (cI, 600, .inl kp)), (ap, .inr (3, [.ref aj, .ref apc, .ref app, .int (nI t)])), (apc, .inl (cL, 12, .inr (.inl cs))), (app, .inl (cI, 6, .inl ps)), (aj, .inr (2, [.ref af, .ref al, .int (nI c), .int (nI f)]))] H := hP
    have hD : va_D A [(ak, .inr (1, [.ref akw, .ref ake, .ref aku, .ref akn, .ref akc, .ref akp, .int (nI kb)])), (akw, .inl (cZ, 100, .inl (upd kw kb 1))), (ake, .inl (cI, 100, .inl ke)), (aku, .inl (cI, 100, .inl ku)), (akn, .inl (cI, 100, .inl kn)), (akc, .inl (cL, 1200, .inr (.inl kc))), (akp, .inl (cI, 600, .inl kp)), (ap, .inr (3, [.ref aj, .ref apc, .ref app, .int (nI t)])), (apc, .inl (cL, 12, .inr (.inl cs))), (app, .inl (cI, 6, .inl ps)), (aj, .inr (2, [.ref af, .ref al, .int (nI c), .int (nI f)]))] := hD
    refine lv_aload_n hx hb dX0_addWhole_22 rfl (lv_at hl 1 rfl) ?_
    refine va_get (D := D) (ci := 1) (v := .ref ake) (C := RX0) (T := TX0) (N := 7) hx hb hts iX0 hown hK hP 0 rfl rfl 1 (by decide) wf15 (fun _ h9 => h9) rfl dX0_addWhole_23 ?_
    refine lv_iload_n hx hb dX0_addWhole_26 rfl (lv_at hl 0 rfl) ?_
    refine lv_iload_n hx hb dX0_addWhole_27 rfl (lv_at hl 3 rfl) ?_
    refine ct_iast (k := kb) hx hb hK hP hD hS 2 0 rfl rfl (by omega) (by decide) dX0_addWhole_28 (fun H locs hP hD hS => ?_)
    have hP : va_P D vwCl [(ak, .inr (1, [.ref akw, .ref ake, .ref aku, .ref akn, .ref akc, .ref akp, .int (nI kb)])), (akw, .inl (cZ, 100, .inl (upd kw kb 1))), (ake, .inl (cI, 100, .inl (upd ke kb e0))), (aku, .inl (cI, 100, .inl ku)), (akn, .inl (cI, 100, .inl kn)), (akc, .inl (cL, 1200, .inr (.inl kc))), (akp, .inl (cI, 600, .inl kp)), (ap, .inr (3, [.ref aj, .ref apc, .ref app, .int (nI t)])), (apc, .inl (cL, 12, .inr (.inl cs))), (app, .inl (cI, 6, .inl ps)), (aj, .inr (2, [.ref af, .ref al, .int (nI c), .int (nI f)]))] H := hP
    have hD : va_D A [(ak, .inr (1, [.ref akw, .ref ake, .ref aku, .ref akn, .ref akc, .ref akp, .int (nI kb)])), (akw, .inl (cZ, 100, .inl (upd kw kb 1))), (ake, .inl (cI, 100, .inl (upd ke kb e0))), (aku, .inl (cI, 100, .inl ku)), (akn, .inl (cI, 100, .inl kn)), (akc, .inl (cL, 1200, .inr (.inl kc))), (akp, .inl (cI, 600, .inl kp)), (ap, .inr (3, [.ref aj, .ref apc, .ref app, .int (nI t)])), (apc, .inl (cL, 12, .inr (.inl cs))), (app, .inl (cI, 6, .inl ps)), (aj, .inr (2, [.ref af, .ref al, .int (nI c), .int (nI f)]))] := hD
    refine lv_aload_n hx hb dX0_addWhole_29 rfl (lv_at hl 1 rfl) ?_
    refine va_get (D := D) (ci := 1) (v := .ref aku) (C := RX0) (T := TX0) (N := 7) hx hb hts iX0 hown hK hP 0 rfl rfl 2 (by decide) wf19 (fun _ h9 => h9) rfl dX0_addWhole_30 ?_
    refine lv_iload_n hx hb dX0_addWhole_33 rfl (lv_at hl 0 rfl) ?_
    refine lv_aload_n hx hb dX0_addWhole_34 rfl (lv_at hl 2 rfl) ?_
    refine va_get (D := D) (ci := 3) (v := .int (nI t)) (C := RX2) (T := TX2) (N := 4) hx hb hts iX2 hown hK hP 7 rfl rfl 3 (by decide) wf36 (fun _ h9 => h9) rfl dX0_addWhole_35 ?_
    refine ct_iast (k := kb) hx hb hK hP hD hS 3 0 rfl rfl (by omega) (by decide) dX0_addWhole_38 (fun H locs hP hD hS => ?_)
    have hP : va_P D vwCl [(ak, .inr (1, [.ref akw, .ref ake, .ref aku, .ref akn, .ref akc, .ref akp, .int (nI kb)])), (akw, .inl (cZ, 100, .inl (upd kw kb 1))), (ake, .inl (cI, 100, .inl (upd ke kb e0))), (aku, .inl (cI, 100, .inl (upd ku kb (nI t)))), (akn, .inl (cI, 100, .inl kn)), (akc, .inl (cL, 1200, .inr (.inl kc))), (akp, .inl (cI, 600, .inl kp)), (ap, .inr (3, [.ref aj, .ref apc, .ref app, .int (nI t)])), (apc, .inl (cL, 12, .inr (.inl cs))), (app, .inl (cI, 6, .inl ps)), (aj, .inr (2, [.ref af, .ref al, .int (nI c), .int (nI f)]))] H := hP
    have hD : va_D A [(ak, .inr (1, [.ref akw, .ref ake, .ref aku, .ref akn, .ref akc, .ref akp, .int (nI kb)])), (akw, .inl (cZ, 100, .inl (upd kw kb 1))), (ake, .inl (cI, 100, .inl (upd ke kb e0))), (aku, .inl (cI, 100, .inl (upd ku kb (nI t)))), (akn, .inl (cI, 100, .inl kn)), (akc, .inl (cL, 1200, .inr (.inl kc))), (akp, .inl (cI, 600, .inl kp)), (ap, .inr (3, [.ref aj, .ref apc, .ref app, .int (nI t)])), (apc, .inl (cL, 12, .inr (.inl cs))), (app, .inl (cI, 6, .inl ps)), (aj, .inr (2, [.ref af, .ref al, .int (nI c), .int (nI f)]))] := hD
    refine lv_aload_n hx hb dX0_addWhole_39 rfl (lv_at hl 1 rfl) ?_
    refine va_get (D := D) (ci := 1) (v := .ref akn) (C := RX0) (T := TX0) (N := 7) hx hb hts iX0 hown hK hP 0 rfl rfl 3 (by decide) wf22 (fun _ h9 => h9) rfl dX0_addWhole_40 ?_
    refine lv_iload_n hx hb dX0_addWhole_43 rfl (lv_at hl 0 rfl) ?_
    refine lv_aload_n hx hb dX0_addWhole_44 rfl (lv_at hl 2 rfl) ?_
    refine va_get (D := D) (ci := 3) (v := .ref aj) (C := RX2) (T := TX2) (N := 4) hx hb hts iX2 hown hK hP 7 rfl rfl 0 (by decide) wf40 (fun _ h9 => h9) rfl dX0_addWhole_45 ?_
    refine va_get (D := D) (ci := 2) (v := .int (nI c)) (C := RX1) (T := TX1) (N := 4) hx hb hts iX1 hown hK hP 10 rfl rfl 2 (by decide) wf44 (fun _ h9 => h9) rfl dX0_addWhole_48 ?_
    refine ct_iast (k := kb) hx hb hK hP hD hS 4 0 rfl rfl (by omega) (by decide) dX0_addWhole_51 (fun H locs hP hD hS => ?_)
    have hP : va_P D vwCl [(ak, .inr (1, [.ref akw, .ref ake, .ref aku, .ref akn, .ref akc, .ref akp, .int (nI kb)])), (akw, .inl (cZ, 100, .inl (upd kw kb 1))), (ake, .inl (cI, 100, .inl (upd ke kb e0))), (aku, .inl (cI, 100, .inl (upd ku kb (nI t)))), (akn, .inl (cI, 100, .inl (upd kn kb (nI c)))), (akc, .inl (cL, 1200, .inr (.inl kc))), (akp, .inl (cI, 600, .inl kp)), (ap, .inr (3, [.ref aj, .ref apc, .ref app, .int (nI t)])), (apc, .inl (cL, 12, .inr (.inl cs))), (app, .inl (cI, 6, .inl ps)), (aj, .inr (2, [.ref af, .ref al, .int (nI c), .int (nI f)]))] H := hP
    have hD : va_D A [(ak, .inr (1, [.ref akw, .ref ake, .ref aku, .ref akn, .ref akc, .ref akp, .int (nI kb)])), (akw, .inl (cZ, 100, .inl (upd kw kb 1))), (ake, .inl (cI, 100, .inl (upd ke kb e0))), (aku, .inl (cI, 100, .inl (upd ku kb (nI t)))), (akn, .inl (cI, 100, .inl (upd kn kb (nI c)))), (akc, .inl (cL, 1200, .inr (.inl kc))), (akp, .inl (cI, 600, .inl kp)), (ap, .inr (3, [.ref aj, .ref apc, .ref app, .int (nI t)])), (apc, .inl (cL, 12, .inr (.inl cs))), (app, .inl (cI, 6, .inl ps)), (aj, .inr (2, [.ref af, .ref al, .int (nI c), .int (nI f)]))] := hD
    refine lv_aload_n hx hb dX0_addWhole_52 rfl (lv_at hl 2 rfl) ?_
    refine va_get (D := D) (ci := 3) (v := .ref apc) (C := RX2) (T := TX2) (N := 4) hx hb hts iX2 hown hK hP 7 rfl rfl 1 (by decide) wf49 (fun _ h9 => h9) rfl dX0_addWhole_53 ?_
    refine lv_iconst (v := 0) hx hb dX0_addWhole_56 (by decide) ?_
    refine lv_aload_n hx hb dX0_addWhole_57 rfl (lv_at hl 1 rfl) ?_
    refine va_get (D := D) (ci := 1) (v := .ref akc) (C := RX0) (T := TX0) (N := 7) hx hb hts iX0 hown hK hP 0 rfl rfl 4 (by decide) wf25 (fun _ h9 => h9) rfl dX0_addWhole_58 ?_
    refine lv_iload_n hx hb dX0_addWhole_61 rfl (lv_at hl 0 rfl) ?_
    refine lv_bipush (v := 12) hx hb dX0_addWhole_62 (by decide) ?_
    refine lv_imul hx hb dX0_addWhole_64 ?_
    refine ct_topi (y := (nI (kb * 12))) (pk_mul kb 12) ?_
    refine lv_bipush (v := 12) hx hb dX0_addWhole_65 (by decide) ?_
    refine ct_copyl hx hb (hml.trans hl.1.symm) hown wp50 wp_n wp_s wp_i hK hP hD hS 0 (kb * 12) 12 8 5 1 rfl rfl rfl (by omega) (by omega) (by omega) (by omega) (by omega) (Nat.le_of_ble_eq_true rfl) (Nat.le_of_ble_eq_true rfl) dX0_addWhole_67 (fun H locs hP hD hS => ?_)
    have hP : va_P D vwCl [(ak, .inr (1, [.ref akw, .ref ake, .ref aku, .ref akn, .ref akc, .ref akp, .int (nI kb)])), (akw, .inl (cZ, 100, .inl (upd kw kb 1))), (ake, .inl (cI, 100, .inl (upd ke kb e0))), (aku, .inl (cI, 100, .inl (upd ku kb (nI t)))), (akn, .inl (cI, 100, .inl (upd kn kb (nI c)))), (akc, .inl (cL, 1200, .inr (.inl (va_cpy cs kc 0 (kb * 12) 12)))), (akp, .inl (cI, 600, .inl kp)), (ap, .inr (3, [.ref aj, .ref apc, .ref app, .int (nI t)])), (apc, .inl (cL, 12, .inr (.inl cs))), (app, .inl (cI, 6, .inl ps)), (aj, .inr (2, [.ref af, .ref al, .int (nI c), .int (nI f)]))] H := hP
    have hD : va_D A [(ak, .inr (1, [.ref akw, .ref ake, .ref aku, .ref akn, .ref akc, .ref akp, .int (nI kb)])), (akw, .inl (cZ, 100, .inl (upd kw kb 1))), (ake, .inl (cI, 100, .inl (upd ke kb e0))), (aku, .inl (cI, 100, .inl (upd ku kb (nI t)))), (akn, .inl (cI, 100, .inl (upd kn kb (nI c)))), (akc, .inl (cL, 1200, .inr (.inl (va_cpy cs kc 0 (kb * 12) 12)))), (akp, .inl (cI, 600, .inl kp)), (ap, .inr (3, [.ref aj, .ref apc, .ref app, .int (nI t)])), (apc, .inl (cL, 12, .inr (.inl cs))), (app, .inl (cI, 6, .inl ps)), (aj, .inr (2, [.ref af, .ref al, .int (nI c), .int (nI f)]))] := hD
    refine lv_aload_n hx hb dX0_addWhole_70 rfl (lv_at hl 2 rfl) ?_
    refine va_get (D := D) (ci := 3) (v := .ref app) (C := RX2) (T := TX2) (N := 4) hx hb hts iX2 hown hK hP 7 rfl rfl 2 (by decide) wf56 (fun _ h9 => h9) rfl dX0_addWhole_71 ?_
    refine lv_iconst (v := 0) hx hb dX0_addWhole_74 (by decide) ?_
    refine lv_aload_n hx hb dX0_addWhole_75 rfl (lv_at hl 1 rfl) ?_
    refine va_get (D := D) (ci := 1) (v := .ref akp) (C := RX0) (T := TX0) (N := 7) hx hb hts iX0 hown hK hP 0 rfl rfl 5 (by decide) wf29 (fun _ h9 => h9) rfl dX0_addWhole_76 ?_
    refine lv_iload_n hx hb dX0_addWhole_79 rfl (lv_at hl 0 rfl) ?_
    refine lv_bipush (v := 6) hx hb dX0_addWhole_80 (by decide) ?_
    refine lv_imul hx hb dX0_addWhole_82 ?_
    refine ct_topi (y := (nI (kb * 6))) (pk_mul kb 6) ?_
    refine lv_bipush (v := 6) hx hb dX0_addWhole_83 (by decide) ?_
    refine ct_copyi hx hb (hml.trans hl.1.symm) hown wp50 wp_n wp_s wp_i hK hP hD hS 0 (kb * 6) 6 9 6 0 rfl rfl rfl (by omega) (by omega) (by omega) (by omega) (by omega) (Nat.le_of_ble_eq_true rfl) (Nat.le_of_ble_eq_true rfl) dX0_addWhole_85 (fun H locs hP hD hS => ?_)
    have hP : va_P D vwCl [(ak, .inr (1, [.ref akw, .ref ake, .ref aku, .ref akn, .ref akc, .ref akp, .int (nI kb)])), (akw, .inl (cZ, 100, .inl (upd kw kb 1))), (ake, .inl (cI, 100, .inl (upd ke kb e0))), (aku, .inl (cI, 100, .inl (upd ku kb (nI t)))), (akn, .inl (cI, 100, .inl (upd kn kb (nI c)))), (akc, .inl (cL, 1200, .inr (.inl (va_cpy cs kc 0 (kb * 12) 12)))), (akp, .inl (cI, 600, .inl (va_cpy ps kp 0 (kb * 6) 6))), (ap, .inr (3, [.ref aj, .ref apc, .ref app, .int (nI t)])), (apc, .inl (cL, 12, .inr (.inl cs))), (app, .inl (cI, 6, .inl ps)), (aj, .inr (2, [.ref af, .ref al, .int (nI c), .int (nI f)]))] H := hP
    have hD : va_D A [(ak, .inr (1, [.ref akw, .ref ake, .ref aku, .ref akn, .ref akc, .ref akp, .int (nI kb)])), (akw, .inl (cZ, 100, .inl (upd kw kb 1))), (ake, .inl (cI, 100, .inl (upd ke kb e0))), (aku, .inl (cI, 100, .inl (upd ku kb (nI t)))), (akn, .inl (cI, 100, .inl (upd kn kb (nI c)))), (akc, .inl (cL, 1200, .inr (.inl (va_cpy cs kc 0 (kb * 12) 12)))), (akp, .inl (cI, 600, .inl (va_cpy ps kp 0 (kb * 6) 6))), (ap, .inr (3, [.ref aj, .ref apc, .ref app, .int (nI t)])), (apc, .inl (cL, 12, .inr (.inl cs))), (app, .inl (cI, 6, .inl ps)), (aj, .inr (2, [.ref af, .ref al, .int (nI c), .int (nI f)]))] := hD
    refine lv_aload_n hx hb dX0_addWhole_88 rfl (lv_at hl 1 rfl) ?_
    refine lv_dup hx hb dX0_addWhole_89 rfl ?_
    refine va_get (D := D) (ci := 1) (v := .int (nI kb)) (C := RX0) (T := TX0) (N := 7) hx hb hts iX0 hown hK hP 0 rfl rfl 6 (by decide) wf32 (fun _ h9 => h9) rfl dX0_addWhole_90 ?_
    refine lv_iconst (v := 1) hx hb dX0_addWhole_93 (by decide) ?_
    refine lv_iadd hx hb dX0_addWhole_94 ?_
    refine ct_topi (y := (nI (kb + 1))) (nI_1 kb) ?_
    refine va_put (D := D) (ci := 1) (v := .int (nI (kb + 1))) (ty := .int) (C := RX0) (T := TX0) (N := 7) hx hb hts iX0 tyX0 tyX0_ok nmX0 hown hK hP hD hS 0 rfl rfl 6 (by decide) wf32 (fun _ h9 => h9) rfl (by decide +kernel) rfl rfl (Nat.le_of_ble_eq_true rfl) dX0_addWhole_95 (fun H locs hP hD hS => ?_)
    have hP : va_P D vwCl [(ak, .inr (1, [.ref akw, .ref ake, .ref aku, .ref akn, .ref akc, .ref akp, .int (nI (kb + 1))])), (akw, .inl (cZ, 100, .inl (upd kw kb 1))), (ake, .inl (cI, 100, .inl (upd ke kb e0))), (aku, .inl (cI, 100, .inl (upd ku kb (nI t)))), (akn, .inl (cI, 100, .inl (upd kn kb (nI c)))), (akc, .inl (cL, 1200, .inr (.inl (va_cpy cs kc 0 (kb * 12) 12)))), (akp, .inl (cI, 600, .inl (va_cpy ps kp 0 (kb * 6) 6))), (ap, .inr (3, [.ref aj, .ref apc, .ref app, .int (nI t)])), (apc, .inl (cL, 12, .inr (.inl cs))), (app, .inl (cI, 6, .inl ps)), (aj, .inr (2, [.ref af, .ref al, .int (nI c), .int (nI f)]))] H := hP
    have hD : va_D A [(ak, .inr (1, [.ref akw, .ref ake, .ref aku, .ref akn, .ref akc, .ref akp, .int (nI (kb + 1))])), (akw, .inl (cZ, 100, .inl (upd kw kb 1))), (ake, .inl (cI, 100, .inl (upd ke kb e0))), (aku, .inl (cI, 100, .inl (upd ku kb (nI t)))), (akn, .inl (cI, 100, .inl (upd kn kb (nI c)))), (akc, .inl (cL, 1200, .inr (.inl (va_cpy cs kc 0 (kb * 12) 12)))), (akp, .inl (cI, 600, .inl (va_cpy ps kp 0 (kb * 6) 6))), (ap, .inr (3, [.ref aj, .ref apc, .ref app, .int (nI t)])), (apc, .inl (cL, 12, .inr (.inl cs))), (app, .inl (cI, 6, .inl ps)), (aj, .inr (2, [.ref af, .ref al, .int (nI c), .int (nI f)]))] := hD
    have hP9 := hP.sub (ws' := [(ak, .inr (1, [.ref akw, .ref ake, .ref aku, .ref akn, .ref akc, .ref akp, .int (nI (kb + 1))])), (akw, .inl (cZ, 100, .inl (upd kw kb 1))), (ake, .inl (cI, 100, .inl (upd ke kb e0))), (aku, .inl (cI, 100, .inl (upd ku kb (nI t)))), (akn, .inl (cI, 100, .inl (upd kn kb (nI c)))), (akc, .inl (cL, 1200, .inr (.inl (va_cpy cs kc 0 (kb * 12) 12)))), (akp, .inl (cI, 600, .inl (va_cpy ps kp 0 (kb * 6) 6))), (ap, .inr (3, [.ref aj, .ref apc, .ref app, .int (nI t)])), (apc, .inl (cL, 12, .inr (.inl cs))), (app, .inl (cI, 6, .inl ps)), (aj, .inr (2, [.ref af, .ref al, .int (nI c), .int (nI f)]))]) [0, 1, 2, 3, 4, 5, 6, 7, 8, 9, 10] rfl
    have hD9 := hD.sub (ws' := [(ak, .inr (1, [.ref akw, .ref ake, .ref aku, .ref akn, .ref akc, .ref akp, .int (nI (kb + 1))])), (akw, .inl (cZ, 100, .inl (upd kw kb 1))), (ake, .inl (cI, 100, .inl (upd ke kb e0))), (aku, .inl (cI, 100, .inl (upd ku kb (nI t)))), (akn, .inl (cI, 100, .inl (upd kn kb (nI c)))), (akc, .inl (cL, 1200, .inr (.inl (va_cpy cs kc 0 (kb * 12) 12)))), (akp, .inl (cI, 600, .inl (va_cpy ps kp 0 (kb * 6) 6))), (ap, .inr (3, [.ref aj, .ref apc, .ref app, .int (nI t)])), (apc, .inl (cL, 12, .inr (.inl cs))), (app, .inl (cI, 6, .inl ps)), (aj, .inr (2, [.ref af, .ref al, .int (nI c), .int (nI f)]))]) [0, 1, 2, 3, 4, 5, 6, 7, 8, 9, 10] (by decide) rfl
    refine W.widen (k := 0) (n := 0) (Nat.le_of_ble_eq_true rfl) (Nat.le_of_ble_eq_true rfl) ?_
    exact W.vret hx hb hr (fun t9 ht9 hW9 => ⟨⟨(), rfl, trivial, by rw [ht9]; exact hP9, va_K.moved hW9.alike hK, hD9⟩, hS.F ht9⟩) hS.2.2 dX0_addWhole_98
  · exact absurd c_6 (fun h => h (nI_lt (a := kb) (b := 100) (by omega) (by omega)))
abbrev rm_X0_latestWholeUpTo : Room := { frames := 1, cells := 0, slots := 0, locals := 21 }
abbrev qc_X0_latestWholeUpTo (D : va_G) (cI cL cZ : ClassId) (ak : Nat) (akw : Nat) (ake : Nat) (aku : Nat) (akn : Nat) (akc : Nat) (akp : Nat) (kw : Nat → Int32) (kb : Nat) (x : Int32) (A : Nat → Prop) : Array Value → State → Outcome → State → Prop := va_Qi (fun (r : Int32) (u : Unit) => (lw_r kw kb x) = r) (ct_B D vwCl [(cI, .int), (cL, .long), (cZ, .boolean)] A (fun (u : Unit) => [(ak, .inr (1, [.ref akw, .ref ake, .ref aku, .ref akn, .ref akc, .ref akp, .int (nI kb)])), (akw, .inl (cZ, 100, .inl kw))])) A
set_option maxHeartbeats 4000000 in
set_option maxRecDepth 100000 in
theorem c_X0_latestWholeUpTo (l : Launch) (D : va_G) (cI cL cZ : ClassId) (ak : Nat) (akw : Nat) (ake : Nat) (aku : Nat) (akn : Nat) (akc : Nat) (akp : Nat) (kw : Nat → Int32) (kb : Nat) (x : Int32) (sz : Nat) (hk : kb ≤ 100) : Met l yX0_latestWholeUpTo wsX0_latestWholeUpTo rm_X0_latestWholeUpTo (va_Pc [.ref ak, .int x] (ct_P D vwCl [(cI, .int), (cL, .long), (cZ, .boolean)] [(ak, .inr (1, [.ref akw, .ref ake, .ref aku, .ref akn, .ref akc, .ref akp, .int (nI kb)])), (akw, .inl (cZ, 100, .inl kw))] sz)) (qc_X0_latestWholeUpTo D cI cL cZ ak akw ake aku akn akc akp kw kb x (va_A [(ak, .inr (1, [.ref akw, .ref ake, .ref aku, .ref akn, .ref akc, .ref akp, .int (nI kb)])), (akw, .inl (cZ, 100, .inl kw))] sz)) 0 0 (va_A [(ak, .inr (1, [.ref akw, .ref ake, .ref aku, .ref akn, .ref akc, .ref akp, .int (nI kb)])), (akw, .inl (cZ, 100, .inl kw))] sz) := by
  refine Met.ofW (cc := cX0_latestWholeUpTo) (maxL := 3) (ret := (some .int)) (by decide) rfl ?_
  intro p e s m args below meth cd s₁ B hml hv
  obtain ⟨rfl, hsz, hP, hK, hD0⟩ := hv
  have hx := B.exec
  have hb := B.bytes
  have hr := B.returns
  have hts := atoms_spec (ws := wsX0_latestWholeUpTo) B.pre
  have iX0 : ∀ w ∈ wsX00, w ∈ wsX0_latestWholeUpTo := by decide +kernel
  have wf9 := hts (.fieldLink RX0 9 "CheckRestart$Checkpoints" "whole" "[Z") (by decide +kernel)
  have hown : s.vm.findClass RX0 = some m.cls := findClass_of_methodNamed B.named
  have hlocks := B.notSynchronized
  subst hsz
  have hD := hD0.self (sz := s.heap.size)
  generalize hAe : va_A [(ak, .inr (1, [.ref akw, .ref ake, .ref aku, .ref akn, .ref akc, .ref akp, .int (nI kb)])), (akw, .inl (cZ, 100, .inl kw))] s.heap.size = A at hD ⊢
  have hA : ∀ q : Nat, s.heap.size ≤ q → A q := fun q h => by rw [← hAe]; exact Or.inr h
  have hS : va_S A s.heap s.heap [] := va_S.rf
  have hl := lv_entry ([.ref ak, .int x]) (n := 3) (Nat.le_of_ble_eq_true rfl)
  rw [lg_entry_eq]
  generalize (lg_sl ([.ref ak, .int x]) ++ List.replicate (3 - (lg_sl ([.ref ak, .int x])).length) Slot.unset).toArray = ls at hl ⊢
  have hl : lv_has ls 3 [(0, .ref ak), (1, .int x)] := hl
  have key12 : ∀ (n : Nat) (k : Nat), (k ≤ kb) → (k + 1 ≤ n) → (lw kw k = lw kw x.toNatClampNeg) → (¬ (x < 1 ∨ nI kb < x)) → ∀ (H : Heap) (locs : List Loc), va_P D vwCl [(ak, .inr (1, [.ref akw, .ref ake, .ref aku, .ref akn, .ref akc, .ref akp, .int (nI kb)])), (akw, .inl (cZ, 100, .inl kw))] H → va_D A [(ak, .inr (1, [.ref akw, .ref ake, .ref aku, .ref akn, .ref akc, .ref akp, .int (nI kb)])), (akw, .inl (cZ, 100, .inl kw))] → va_S A s.heap H locs → ∀ (ls : Array Slot), lv_has ls 3 [(2, .int (nI k)), (0, .ref ak), (1, .int x)] → W p l e (headSpec wsX0_latestWholeUpTo rm_X0_latestWholeUpTo).room s m ([.ref ak, .int x] : List Value).toArray below meth cd H locs 0 0 (MQ below (qc_X0_latestWholeUpTo D cI cL cZ ak akw ake aku akn akc akp kw kb x A) ([.ref ak, .int x] : List Value).toArray s 0 0 A) (F0 m 12 ls []) := by
    intro n
    induction n with
    | zero => intro k hkb hm hlw hno; exact absurd hm (by omega)
    | succ n ih =>
      intro k hkb hm hlw hno H locs hP hD hS ls hl
      refine lv_iload_n hx hb dX0_latestWholeUpTo_12 rfl (lv_at hl 0 rfl) ?_
      refine lv_iconst (v := 1) hx hb dX0_latestWholeUpTo_13 (by decide) ?_
      refine lv_icmp_lt (tgt := 36) hx hb dX0_latestWholeUpTo_14 (by decide) (fun c_14 => ?_) (fun c_14 => ?_)
      · have h1 : k < 1 := (nI_ltI (a := k) (b := 1) (by omega) (by omega)).mp c_14
        have h2 : k = 0 := by omega
        subst h2
        refine lv_iconst (v := (-1)) hx hb dX0_latestWholeUpTo_36 (by decide) ?_
        have hP9 := hP.sub (ws' := [(ak, .inr (1, [.ref akw, .ref ake, .ref aku, .ref akn, .ref akc, .ref akp, .int (nI kb)])), (akw, .inl (cZ, 100, .inl kw))]) [0, 1] rfl
        have hD9 := hD.sub (ws' := [(ak, .inr (1, [.ref akw, .ref ake, .ref aku, .ref akn, .ref akc, .ref akp, .int (nI kb)])), (akw, .inl (cZ, 100, .inl kw))]) [0, 1] (by decide) rfl
        refine W.widen (k := 0) (n := 0) (Nat.le_of_ble_eq_true rfl) (Nat.le_of_ble_eq_true rfl) ?_
        exact W.iret (v := (-1)) hx hb hr (fun t9 ht9 hW9 => ⟨⟨(-1), (), rfl, by unfold lw_r; rw [if_neg hno, ← hlw]; rfl, by rw [ht9]; exact hP9, va_K.moved hW9.alike hK, hD9⟩, hS.F ht9⟩) hS.2.2 dX0_latestWholeUpTo_37
      · have h1 : ¬ k < 1 := fun h => c_14 ((nI_ltI (a := k) (b := 1) (by omega) (by omega)).mpr h)
        refine lv_aload_n hx hb dX0_latestWholeUpTo_17 rfl (lv_at hl 1 rfl) ?_
        refine va_get (D := D) (ci := 1) (v := .ref akw) (C := RX0) (T := TX0) (N := 7) hx hb hts iX0 hown hK hP 0 rfl rfl 0 (by decide) wf9 (fun _ h9 => h9) rfl dX0_latestWholeUpTo_18 ?_
        refine lv_iload_n hx hb dX0_latestWholeUpTo_21 rfl (lv_at hl 0 rfl) ?_
        refine lv_iconst (v := 1) hx hb dX0_latestWholeUpTo_22 (by decide) ?_
        refine lv_isub hx hb dX0_latestWholeUpTo_23 ?_
        refine ct_topi (y := (nI (k - 1))) (pk_sub (a := k) (b := 1) (by omega)) ?_
        refine ct_zald (k := (k - 1)) hx hb hK hP 1 2 rfl rfl (by omega) (by decide) dX0_latestWholeUpTo_24 ?_
        refine lv_if_eq (tgt := 30) hx hb dX0_latestWholeUpTo_25 (by decide) (fun c_25 => ?_) (fun c_25 => ?_)
        · refine lv_iinc (v := (nI (k - 1))) (lv' := [(2, .int (nI (k - 1))), (0, .ref ak), (1, .int x)]) hx hb dX0_latestWholeUpTo_30 hl (k := 0) rfl (cr_dec (by omega)) (by decide) rfl (fun ls hl => ?_)
          refine lv_goto (tgt := 12) hx hb dX0_latestWholeUpTo_33 (by decide) ?_
          exact ih ((k - 1)) (by omega) (by omega) (by rw [← hlw]; exact lw_z (by omega) c_25) hno _ _ (hP.sub [0, 1] rfl) (hD.sub [0, 1] (by decide) rfl) hS ls (lv_sub hl [0, 1, 2] rfl)
        · refine lv_iload_n hx hb dX0_latestWholeUpTo_28 rfl (lv_at hl 0 rfl) ?_
          have hP9 := hP.sub (ws' := [(ak, .inr (1, [.ref akw, .ref ake, .ref aku, .ref akn, .ref akc, .ref akp, .int (nI kb)])), (akw, .inl (cZ, 100, .inl kw))]) [0, 1] rfl
          have hD9 := hD.sub (ws' := [(ak, .inr (1, [.ref akw, .ref ake, .ref aku, .ref akn, .ref akc, .ref akp, .int (nI kb)])), (akw, .inl (cZ, 100, .inl kw))]) [0, 1] (by decide) rfl
          refine W.widen (k := 0) (n := 0) (Nat.le_of_ble_eq_true rfl) (Nat.le_of_ble_eq_true rfl) ?_
          exact W.iret (v := (nI k)) hx hb hr (fun t9 ht9 hW9 => ⟨⟨(nI k), (), rfl, by unfold lw_r; rw [if_neg hno, ← hlw, lw_w (by omega) c_25]; unfold lwI; rw [if_neg (by omega)], by rw [ht9]; exact hP9, va_K.moved hW9.alike hK, hD9⟩, hS.F ht9⟩) hS.2.2 dX0_latestWholeUpTo_29
  refine lv_aload_n hx hb dX0_latestWholeUpTo_0 rfl (lv_at hl 0 rfl) ?_
  refine lv_iload_n hx hb dX0_latestWholeUpTo_1 rfl (lv_at hl 1 rfl) ?_
  refine ct_calli (wr := [(akw, .inl (cZ, 100, .inl kw))]) (rest := []) hP hD hS hA [0] [1] (va_runV (C := RX0) (As := [.int x]) ⟨hx, hb, hml, hown, hts⟩ (c_X0_has l D cI cL cZ ak akw ake aku akn akc akp kb x _ ) (cwV 1 hts gX0_latestWholeUpTo_X0_has rfl rfl rfl (by decide +kernel) ⟨Nat.le_of_ble_eq_true rfl, Nat.le_of_ble_eq_true rfl⟩) (ct_preV (q0 := 0) (ci := 1) hK hP hD [0] (by decide) rfl rfl rfl rfl rfl) rfl rfl hl.1 rfl (lv_room (Nat.le_of_ble_eq_true rfl)) dX0_latestWholeUpTo_2 ⟨Nat.le_of_ble_eq_true rfl, Nat.le_of_ble_eq_true rfl⟩) rfl rfl (by decide) (by decide) (fun r_1 u H locs hw hP hD hS => ?_)
  try dsimp only at hw
  obtain rfl := hw
  have hP : va_P D vwCl [(akw, .inl (cZ, 100, .inl kw)), (ak, .inr (1, [.ref akw, .ref ake, .ref aku, .ref akn, .ref akc, .ref akp, .int (nI kb)]))] H := hP
  have hD : va_D A [(akw, .inl (cZ, 100, .inl kw)), (ak, .inr (1, [.ref akw, .ref ake, .ref aku, .ref akn, .ref akc, .ref akp, .int (nI kb)]))] := hD
  refine lv_if_ne (tgt := 10) hx hb dX0_latestWholeUpTo_5 (by decide) (fun c_5 => ?_) (fun c_5 => ?_)
  · obtain ⟨n, hn1, hn2, hxn, hno⟩ := cr_has hk c_5
    refine lv_iload_n hx hb dX0_latestWholeUpTo_10 rfl (lv_at hl 1 rfl) ?_
    refine ct_topi (y := (nI n)) (hxn) ?_
    refine lv_istore_n (lv' := [(2, .int (nI n)), (0, .ref ak), (1, .int x)]) hx hb dX0_latestWholeUpTo_11 rfl hl (by decide) rfl (fun ls hl => ?_)
    exact key12 (n + 1) n (by omega) (by omega) (by rw [hxn, nI_clamp (by omega)]) hno _ _ (hP.sub [1, 0] rfl) (hD.sub [1, 0] (by decide) rfl) hS ls (lv_sub hl [0, 1, 2] rfl)
  · have hno := cr_not_has c_5
    refine lv_iconst (v := (-1)) hx hb dX0_latestWholeUpTo_8 (by decide) ?_
    have hP9 := hP.sub (ws' := [(ak, .inr (1, [.ref akw, .ref ake, .ref aku, .ref akn, .ref akc, .ref akp, .int (nI kb)])), (akw, .inl (cZ, 100, .inl kw))]) [1, 0] rfl
    have hD9 := hD.sub (ws' := [(ak, .inr (1, [.ref akw, .ref ake, .ref aku, .ref akn, .ref akc, .ref akp, .int (nI kb)])), (akw, .inl (cZ, 100, .inl kw))]) [1, 0] (by decide) rfl
    refine W.widen (k := 0) (n := 0) (Nat.le_of_ble_eq_true rfl) (Nat.le_of_ble_eq_true rfl) ?_
    exact W.iret (v := (-1)) hx hb hr (fun t9 ht9 hW9 => ⟨⟨(-1), (), rfl, by unfold lw_r; rw [if_pos hno], by rw [ht9]; exact hP9, va_K.moved hW9.alike hK, hD9⟩, hS.F ht9⟩) hS.2.2 dX0_latestWholeUpTo_9
abbrev rm_X0_isPastAFilesEnd : Room := { frames := 0, cells := 0, slots := 0, locals := 0 }
abbrev qc_X0_isPastAFilesEnd (D : va_G) (cI cL cZ : ClassId) (ak : Nat) (akw : Nat) (ake : Nat) (aku : Nat) (akn : Nat) (akc : Nat) (akp : Nat) (kp : Nat → Int32) (kb : Nat) (aj : Nat) (af : Nat) (al : Nat) (c : Nat) (f : Nat) (ln : Nat → Int32) (k : Nat) (A : Nat → Prop) : Array Value → State → Outcome → State → Prop := va_Qi (fun (r : Int32) (u : Unit) => (pe_r k f ln kp) = r) (ct_B D vwCl [(cI, .int), (cL, .long), (cZ, .boolean)] A (fun (u : Unit) => [(ak, .inr (1, [.ref akw, .ref ake, .ref aku, .ref akn, .ref akc, .ref akp, .int (nI kb)])), (akp, .inl (cI, 600, .inl kp)), (aj, .inr (2, [.ref af, .ref al, .int (nI c), .int (nI f)])), (al, .inl (cI, 6, .inl ln))])) A
set_option maxHeartbeats 4000000 in
set_option maxRecDepth 100000 in
theorem c_X0_isPastAFilesEnd (l : Launch) (D : va_G) (cI cL cZ : ClassId) (ak : Nat) (akw : Nat) (ake : Nat) (aku : Nat) (akn : Nat) (akc : Nat) (akp : Nat) (kp : Nat → Int32) (kb : Nat) (aj : Nat) (af : Nat) (al : Nat) (c : Nat) (f : Nat) (ln : Nat → Int32) (k : Nat) (sz : Nat) (hf : f ≤ 6) (hk1 : 1 ≤ k) (hk2 : k ≤ 100) : Met l yX0_isPastAFilesEnd wsX0_isPastAFilesEnd rm_X0_isPastAFilesEnd (va_Pc [.ref ak, .int (nI k), .ref aj] (ct_P D vwCl [(cI, .int), (cL, .long), (cZ, .boolean)] [(ak, .inr (1, [.ref akw, .ref ake, .ref aku, .ref akn, .ref akc, .ref akp, .int (nI kb)])), (akp, .inl (cI, 600, .inl kp)), (aj, .inr (2, [.ref af, .ref al, .int (nI c), .int (nI f)])), (al, .inl (cI, 6, .inl ln))] sz)) (qc_X0_isPastAFilesEnd D cI cL cZ ak akw ake aku akn akc akp kp kb aj af al c f ln k (va_A [(ak, .inr (1, [.ref akw, .ref ake, .ref aku, .ref akn, .ref akc, .ref akp, .int (nI kb)])), (akp, .inl (cI, 600, .inl kp)), (aj, .inr (2, [.ref af, .ref al, .int (nI c), .int (nI f)])), (al, .inl (cI, 6, .inl ln))] sz)) 0 0 (va_A [(ak, .inr (1, [.ref akw, .ref ake, .ref aku, .ref akn, .ref akc, .ref akp, .int (nI kb)])), (akp, .inl (cI, 600, .inl kp)), (aj, .inr (2, [.ref af, .ref al, .int (nI c), .int (nI f)])), (al, .inl (cI, 6, .inl ln))] sz) := by
  refine Met.ofW (cc := cX0_isPastAFilesEnd) (maxL := 5) (ret := (some .boolean)) (by decide) rfl ?_
  intro p e s m args below meth cd s₁ B hml hv
  obtain ⟨rfl, hsz, hP, hK, hD0⟩ := hv
  have hx := B.exec
  have hb := B.bytes
  have hr := B.returns
  have hts := atoms_spec (ws := wsX0_isPastAFilesEnd) B.pre
  have iX1 : ∀ w ∈ wsX10, w ∈ wsX0_isPastAFilesEnd := by decide +kernel
  have wf61 := hts (.fieldLink RX0 61 "CheckRestart$Job" "fileCount" "I") (by decide +kernel)
  have wf64 := hts (.fieldLink RX0 64 "CheckRestart$Job" "lengths" "[I") (by decide +kernel)
  have iX0 : ∀ w ∈ wsX00, w ∈ wsX0_isPastAFilesEnd := by decide +kernel
  have wf29 := hts (.fieldLink RX0 29 "CheckRestart$Checkpoints" "positions" "[I") (by decide +kernel)
  have hown : s.vm.findClass RX0 = some m.cls := findClass_of_methodNamed B.named
  have hlocks := B.notSynchronized
  subst hsz
  have hD := hD0.self (sz := s.heap.size)
  generalize hAe : va_A [(ak, .inr (1, [.ref akw, .ref ake, .ref aku, .ref akn, .ref akc, .ref akp, .int (nI kb)])), (akp, .inl (cI, 600, .inl kp)), (aj, .inr (2, [.ref af, .ref al, .int (nI c), .int (nI f)])), (al, .inl (cI, 6, .inl ln))] s.heap.size = A at hD ⊢
  have hA : ∀ q : Nat, s.heap.size ≤ q → A q := fun q h => by rw [← hAe]; exact Or.inr h
  have hS : va_S A s.heap s.heap [] := va_S.rf
  have hl := lv_entry ([.ref ak, .int (nI k), .ref aj]) (n := 5) (Nat.le_of_ble_eq_true rfl)
  rw [lg_entry_eq]
  generalize (lg_sl ([.ref ak, .int (nI k), .ref aj]) ++ List.replicate (5 - (lg_sl ([.ref ak, .int (nI k), .ref aj])).length) Slot.unset).toArray = ls at hl ⊢
  have hl : lv_has ls 5 [(0, .ref ak), (1, .int (nI k)), (2, .ref aj)] := hl
  have key10 : ∀ (n : Nat) (i : Nat), (i ≤ f) → (f + 1 ≤ i + n) → (∀ j, j < i → kp ((k - 1) * 6 + j) ≤ ln j) → ∀ (H : Heap) (locs : List Loc), va_P D vwCl [(ak, .inr (1, [.ref akw, .ref ake, .ref aku, .ref akn, .ref akc, .ref akp, .int (nI kb)])), (akp, .inl (cI, 600, .inl kp)), (aj, .inr (2, [.ref af, .ref al, .int (nI c), .int (nI f)])), (al, .inl (cI, 6, .inl ln))] H → va_D A [(ak, .inr (1, [.ref akw, .ref ake, .ref aku, .ref akn, .ref akc, .ref akp, .int (nI kb)])), (akp, .inl (cI, 600, .inl kp)), (aj, .inr (2, [.ref af, .ref al, .int (nI c), .int (nI f)])), (al, .inl (cI, 6, .inl ln))] → va_S A s.heap H locs → ∀ (ls : Array Slot), lv_has ls 5 [(4, .int (nI i)), (3, .int (nI ((k - 1) * 6))), (0, .ref ak), (1, .int (nI k)), (2, .ref aj)] → W p l e (headSpec wsX0_isPastAFilesEnd rm_X0_isPastAFilesEnd).room s m ([.ref ak, .int (nI k), .ref aj] : List Value).toArray below meth cd H locs 0 0 (MQ below (qc_X0_isPastAFilesEnd D cI cL cZ ak akw ake aku akn akc akp kp kb aj af al c f ln k A) ([.ref ak, .int (nI k), .ref aj] : List Value).toArray s 0 0 A) (F0 m 10 ls []) := by
    intro n
    induction n with
    | zero => intro i hi hm hall; exact absurd hm (by omega)
    | succ n ih =>
      intro i hi hm hall H locs hP hD hS ls hl
      refine lv_iload hx hb dX0_isPastAFilesEnd_10 (lv_at hl 0 rfl) ?_
      refine lv_aload_n hx hb dX0_isPastAFilesEnd_12 rfl (lv_at hl 4 rfl) ?_
      refine va_get (D := D) (ci := 2) (v := .int (nI f)) (C := RX1) (T := TX1) (N := 4) hx hb hts iX1 hown hK hP 2 rfl rfl 3 (by decide) wf61 (fun _ h9 => h9) rfl dX0_isPastAFilesEnd_13 ?_
      refine lv_icmp_ge (tgt := 46) hx hb dX0_isPastAFilesEnd_16 (by decide) (fun c_16 => ?_) (fun c_16 => ?_)
      · have h1 : f ≤ i := (nI_leI (by omega) (by omega)).mp c_16
        have h2 : i = f := by omega
        refine lv_iconst (v := 0) hx hb dX0_isPastAFilesEnd_46 (by decide) ?_
        have hP9 := hP.sub (ws' := [(ak, .inr (1, [.ref akw, .ref ake, .ref aku, .ref akn, .ref akc, .ref akp, .int (nI kb)])), (akp, .inl (cI, 600, .inl kp)), (aj, .inr (2, [.ref af, .ref al, .int (nI c), .int (nI f)])), (al, .inl (cI, 6, .inl ln))]) [0, 1, 2, 3] rfl
        have hD9 := hD.sub (ws' := [(ak, .inr (1, [.ref akw, .ref ake, .ref aku, .ref akn, .ref akc, .ref akp, .int (nI kb)])), (akp, .inl (cI, 600, .inl kp)), (aj, .inr (2, [.ref af, .ref al, .int (nI c), .int (nI f)])), (al, .inl (cI, 6, .inl ln))]) [0, 1, 2, 3] (by decide) rfl
        refine W.widen (k := 0) (n := 0) (Nat.le_of_ble_eq_true rfl) (Nat.le_of_ble_eq_true rfl) ?_
        exact W.zret (v := 0) hx hb hr (rfl) (fun t9 ht9 hW9 => ⟨⟨0, (), rfl, pe_yes (by rw [← h2]; exact hall), by rw [ht9]; exact hP9, va_K.moved hW9.alike hK, hD9⟩, hS.F ht9⟩) hS.2.2 dX0_isPastAFilesEnd_47
      · have h1 : ¬ f ≤ i := fun h => c_16 ((nI_leI (by omega) (by omega)).mpr h)
        refine lv_aload_n hx hb dX0_isPastAFilesEnd_19 rfl (lv_at hl 4 rfl) ?_
        refine va_get (D := D) (ci := 2) (v := .ref al) (C := RX1) (T := TX1) (N := 4) hx hb hts iX1 hown hK hP 2 rfl rfl 1 (by decide) wf64 (fun _ h9 => h9) rfl dX0_isPastAFilesEnd_20 ?_
        refine lv_iload hx hb dX0_isPastAFilesEnd_23 (lv_at hl 0 rfl) ?_
        refine ct_iald (k := i) hx hb hK hP 3 0 rfl rfl (by omega) (by decide) dX0_isPastAFilesEnd_25 ?_
        refine lv_aload_n hx hb dX0_isPastAFilesEnd_26 rfl (lv_at hl 2 rfl) ?_
        refine va_get (D := D) (ci := 1) (v := .ref akp) (C := RX0) (T := TX0) (N := 7) hx hb hts iX0 hown hK hP 0 rfl rfl 5 (by decide) wf29 (fun _ h9 => h9) rfl dX0_isPastAFilesEnd_27 ?_
        refine lv_iload_n hx hb dX0_isPastAFilesEnd_30 rfl (lv_at hl 1 rfl) ?_
        refine lv_iload hx hb dX0_isPastAFilesEnd_31 (lv_at hl 0 rfl) ?_
        refine lv_iadd hx hb dX0_isPastAFilesEnd_33 ?_
        refine ct_topi (y := (nI ((k - 1) * 6 + i))) (nI_add _ _) ?_
        refine ct_iald (k := ((k - 1) * 6 + i)) hx hb hK hP 1 0 rfl rfl (by omega) (by decide) dX0_isPastAFilesEnd_34 ?_
        refine lv_icmp_ge (tgt := 40) hx hb dX0_isPastAFilesEnd_35 (by decide) (fun c_35 => ?_) (fun c_35 => ?_)
        · refine lv_iinc (v := (nI (i + 1))) (lv' := [(4, .int (nI (i + 1))), (3, .int (nI ((k - 1) * 6))), (0, .ref ak), (1, .int (nI k)), (2, .ref aj)]) hx hb dX0_isPastAFilesEnd_40 hl (k := 0) rfl (nI_1 i) (by decide) rfl (fun ls hl => ?_)
          refine lv_goto (tgt := 10) hx hb dX0_isPastAFilesEnd_43 (by decide) ?_
          exact ih ((i + 1)) (by omega) (by omega) (lt_s hall c_35) _ _ (hP.sub [0, 1, 2, 3] rfl) (hD.sub [0, 1, 2, 3] (by decide) rfl) hS ls (lv_sub hl [0, 1, 2, 3, 4] rfl)
        · refine lv_iconst (v := 1) hx hb dX0_isPastAFilesEnd_38 (by decide) ?_
          have hP9 := hP.sub (ws' := [(ak, .inr (1, [.ref akw, .ref ake, .ref aku, .ref akn, .ref akc, .ref akp, .int (nI kb)])), (akp, .inl (cI, 600, .inl kp)), (aj, .inr (2, [.ref af, .ref al, .int (nI c), .int (nI f)])), (al, .inl (cI, 6, .inl ln))]) [0, 1, 2, 3] rfl
          have hD9 := hD.sub (ws' := [(ak, .inr (1, [.ref akw, .ref ake, .ref aku, .ref akn, .ref akc, .ref akp, .int (nI kb)])), (akp, .inl (cI, 600, .inl kp)), (aj, .inr (2, [.ref af, .ref al, .int (nI c), .int (nI f)])), (al, .inl (cI, 6, .inl ln))]) [0, 1, 2, 3] (by decide) rfl
          refine W.widen (k := 0) (n := 0) (Nat.le_of_ble_eq_true rfl) (Nat.le_of_ble_eq_true rfl) ?_
          exact W.zret (v := 1) hx hb hr (rfl) (fun t9 ht9 hW9 => ⟨⟨1, (), rfl, pe_no (by omega) c_35, by rw [ht9]; exact hP9, va_K.moved hW9.alike hK, hD9⟩, hS.F ht9⟩) hS.2.2 dX0_isPastAFilesEnd_39
  refine lv_iload_n hx hb dX0_isPastAFilesEnd_0 rfl (lv_at hl 1 rfl) ?_
  refine lv_iconst (v := 1) hx hb dX0_isPastAFilesEnd_1 (by decide) ?_
  refine lv_isub hx hb dX0_isPastAFilesEnd_2 ?_
  refine ct_topi (y := (nI (k - 1))) (pk_sub (a := k) (b := 1) (by omega)) ?_
  refine lv_bipush (v := 6) hx hb dX0_isPastAFilesEnd_3 (by decide) ?_
  refine lv_imul hx hb dX0_isPastAFilesEnd_5 ?_
  refine ct_topi (y := (nI ((k - 1) * 6))) (pk_mul (k - 1) 6) ?_
  refine lv_istore_n (lv' := [(3, .int (nI ((k - 1) * 6))), (0, .ref ak), (1, .int (nI k)), (2, .ref aj)]) hx hb dX0_isPastAFilesEnd_6 rfl hl (by decide) rfl (fun ls hl => ?_)
  refine lv_iconst (v := 0) hx hb dX0_isPastAFilesEnd_7 (by decide) ?_
  refine lv_istore (lv' := [(4, .int 0), (3, .int (nI ((k - 1) * 6))), (0, .ref ak), (1, .int (nI k)), (2, .ref aj)]) hx hb dX0_isPastAFilesEnd_8 hl (by decide) rfl (fun ls hl => ?_)
  exact key10 (f + 1) 0 (by omega) (by omega) lt_0 _ _ (hP.sub [0, 1, 2, 3] rfl) (hD.sub [0, 1, 2, 3] (by decide) rfl) hS ls (lv_sub hl [0, 1, 2, 3, 4] rfl)
abbrev rm_X0_putBack : Room := { frames := 1, cells := 0, slots := 0, locals := 40 }
abbrev qc_X0_putBack (D : va_G) (cI cL cZ : ClassId) (ak : Nat) (akw : Nat) (ake : Nat) (aku : Nat) (akn : Nat) (akc : Nat) (akp : Nat) (kw : Nat → Int32) (ke : Nat → Int32) (ku : Nat → Int32) (kn : Nat → Int32) (kc : Nat → Int64) (kp : Nat → Int32) (ap : Nat) (apc : Nat) (app : Nat) (cs : Nat → Int64) (ps : Nat → Int32) (aj : Nat) (af : Nat) (al : Nat) (c : Nat) (f : Nat) (fv : Nat → Int64) (ln : Nat → Int32) (u0 : Int32) (kb : Nat) (k : Nat) (n : Nat) (A : Nat → Prop) : Array Value → State → Outcome → State → Prop := va_Qv (fun (u : Unit) => True) (ct_B D vwCl [(cI, .int), (cL, .long), (cZ, .boolean)] A (fun (u : Unit) => [(ak, .inr (1, [.ref akw, .ref ake, .ref aku, .ref akn, .ref akc, .ref akp, .int (nI kb)])), (akw, .inl (cZ, 100, .inl kw)), (ake, .inl (cI, 100, .inl ke)), (aku, .inl (cI, 100, .inl ku)), (akn, .inl (cI, 100, .inl kn)), (akc, .inl (cL, 1200, .inr (.inl kc))), (akp, .inl (cI, 600, .inl kp)), (ap, .inr (3, [.ref aj, .ref apc, .ref app, .int (ku (k - 1))])), (apc, .inl (cL, 12, .inr (.inl (va_cpy kc (so_c cs fv c) ((k - 1) * 12) 0 n)))), (app, .inl (cI, 6, .inl (va_cpy kp (so_p ps 6) ((k - 1) * 6) 0 6))), (aj, .inr (2, [.ref af, .ref al, .int (nI c), .int (nI f)])), (af, .inl (cL, 12, .inr (.inl fv))), (al, .inl (cI, 6, .inl ln))])) A
set_option maxHeartbeats 4000000 in
set_option maxRecDepth 100000 in
theorem c_X0_putBack (l : Launch) (D : va_G) (cI cL cZ : ClassId) (ak : Nat) (akw : Nat) (ake : Nat) (aku : Nat) (akn : Nat) (akc : Nat) (akp : Nat) (kw : Nat → Int32) (ke : Nat → Int32) (ku : Nat → Int32) (kn : Nat → Int32) (kc : Nat → Int64) (kp : Nat → Int32) (ap : Nat) (apc : Nat) (app : Nat) (cs : Nat → Int64) (ps : Nat → Int32) (aj : Nat) (af : Nat) (al : Nat) (c : Nat) (f : Nat) (fv : Nat → Int64) (ln : Nat → Int32) (u0 : Int32) (kb : Nat) (k : Nat) (n : Nat) (sz : Nat) (hc : c ≤ 12) (hk1 : 1 ≤ k) (hk2 : k ≤ 100) (hn : n ≤ 12) (hkn : kn (k - 1) = nI n) : Met l yX0_putBack wsX0_putBack rm_X0_putBack (va_Pc [.ref ak, .int (nI k), .ref ap] (ct_P D vwCl [(cI, .int), (cL, .long), (cZ, .boolean)] [(ak, .inr (1, [.ref akw, .ref ake, .ref aku, .ref akn, .ref akc, .ref akp, .int (nI kb)])), (akw, .inl (cZ, 100, .inl kw)), (ake, .inl (cI, 100, .inl ke)), (aku, .inl (cI, 100, .inl ku)), (akn, .inl (cI, 100, .inl kn)), (akc, .inl (cL, 1200, .inr (.inl kc))), (akp, .inl (cI, 600, .inl kp)), (ap, .inr (3, [.ref aj, .ref apc, .ref app, .int u0])), (apc, .inl (cL, 12, .inr (.inl cs))), (app, .inl (cI, 6, .inl ps)), (aj, .inr (2, [.ref af, .ref al, .int (nI c), .int (nI f)])), (af, .inl (cL, 12, .inr (.inl fv))), (al, .inl (cI, 6, .inl ln))] sz)) (qc_X0_putBack D cI cL cZ ak akw ake aku akn akc akp kw ke ku kn kc kp ap apc app cs ps aj af al c f fv ln u0 kb k n (va_A [(ak, .inr (1, [.ref akw, .ref ake, .ref aku, .ref akn, .ref akc, .ref akp, .int (nI kb)])), (akw, .inl (cZ, 100, .inl kw)), (ake, .inl (cI, 100, .inl ke)), (aku, .inl (cI, 100, .inl ku)), (akn, .inl (cI, 100, .inl kn)), (akc, .inl (cL, 1200, .inr (.inl kc))), (akp, .inl (cI, 600, .inl kp)), (ap, .inr (3, [.ref aj, .ref apc, .ref app, .int u0])), (apc, .inl (cL, 12, .inr (.inl cs))), (app, .inl (cI, 6, .inl ps)), (aj, .inr (2, [.ref af, .ref al, .int (nI c), .int (nI f)])), (af, .inl (cL, 12, .inr (.inl fv))), (al, .inl (cI, 6, .inl ln))] sz)) 0 0 (va_A [(ak, .inr (1, [.ref akw, .ref ake, .ref aku, .ref akn, .ref akc, .ref akp, .int (nI kb)])), (akw, .inl (cZ, 100, .inl kw)), (ake, .inl (cI, 100, .inl ke)), (aku, .inl (cI, 100, .inl ku)), (akn, .inl (cI, 100, .inl kn)), (akc, .inl (cL, 1200, .inr (.inl kc))), (akp, .inl (cI, 600, .inl kp)), (ap, .inr (3, [.ref aj, .ref apc, .ref app, .int u0])), (apc, .inl (cL, 12, .inr (.inl cs))), (app, .inl (cI, 6, .inl ps)), (aj, .inr (2, [.ref af, .ref al, .int (nI c), .int (nI f)])), (af, .inl (cL, 12, .inr (.inl fv))), (al, .inl (cI, 6, .inl ln))] sz) := by
  refine Met.ofW (cc := cX0_putBack) (maxL := 4) (ret := none) (by decide) rfl ?_
  intro p e s m args below meth cd s₁ B hml hv
  obtain ⟨rfl, hsz, hP, hK, hD0⟩ := hv
  have hx := B.exec
  have hb := B.bytes
  have hr := B.returns
  have hts := atoms_spec (ws := wsX0_putBack) B.pre
  have iX0 : ∀ w ∈ wsX00, w ∈ wsX0_putBack := by decide +kernel
  have wf25 := hts (.fieldLink RX0 25 "CheckRestart$Checkpoints" "cells" "[J") (by decide +kernel)
  have iX2 : ∀ w ∈ wsX20, w ∈ wsX0_putBack := by decide +kernel
  have wf49 := hts (.fieldLink RX0 49 "CheckRestart$Progress" "cells" "[J") (by decide +kernel)
  have wf22 := hts (.fieldLink RX0 22 "CheckRestart$Checkpoints" "cellCounts" "[I") (by decide +kernel)
  have wp50 := hts (.methodLink RX0 50 arraycopyName) (by decide +kernel)
  have wp_n := hts (.native arraycopyName) (by decide +kernel)
  have wp_s := hts (.static arraycopyName) (by decide +kernel)
  have wp_i := hts (.initialized "java/lang/System") (by decide +kernel)
  have wf29 := hts (.fieldLink RX0 29 "CheckRestart$Checkpoints" "positions" "[I") (by decide +kernel)
  have wf56 := hts (.fieldLink RX0 56 "CheckRestart$Progress" "positions" "[I") (by decide +kernel)
  have wf19 := hts (.fieldLink RX0 19 "CheckRestart$Checkpoints" "units" "[I") (by decide +kernel)
  have wf36 := hts (.fieldLink RX0 36 "CheckRestart$Progress" "units" "I") (by decide +kernel)
  have hown : s.vm.findClass RX0 = some m.cls := findClass_of_methodNamed B.named
  have hlocks := B.notSynchronized
  subst hsz
  have hD := hD0.self (sz := s.heap.size)
  generalize hAe : va_A [(ak, .inr (1, [.ref akw, .ref ake, .ref aku, .ref akn, .ref akc, .ref akp, .int (nI kb)])), (akw, .inl (cZ, 100, .inl kw)), (ake, .inl (cI, 100, .inl ke)), (aku, .inl (cI, 100, .inl ku)), (akn, .inl (cI, 100, .inl kn)), (akc, .inl (cL, 1200, .inr (.inl kc))), (akp, .inl (cI, 600, .inl kp)), (ap, .inr (3, [.ref aj, .ref apc, .ref app, .int u0])), (apc, .inl (cL, 12, .inr (.inl cs))), (app, .inl (cI, 6, .inl ps)), (aj, .inr (2, [.ref af, .ref al, .int (nI c), .int (nI f)])), (af, .inl (cL, 12, .inr (.inl fv))), (al, .inl (cI, 6, .inl ln))] s.heap.size = A at hD ⊢
  have hA : ∀ q : Nat, s.heap.size ≤ q → A q := fun q h => by rw [← hAe]; exact Or.inr h
  have hS : va_S A s.heap s.heap [] := va_S.rf
  have hl := lv_entry ([.ref ak, .int (nI k), .ref ap]) (n := 4) (Nat.le_of_ble_eq_true rfl)
  rw [lg_entry_eq]
  generalize (lg_sl ([.ref ak, .int (nI k), .ref ap]) ++ List.replicate (4 - (lg_sl ([.ref ak, .int (nI k), .ref ap])).length) Slot.unset).toArray = ls at hl ⊢
  have hl : lv_has ls 4 [(0, .ref ak), (1, .int (nI k)), (2, .ref ap)] := hl
  refine lv_iload_n hx hb dX0_putBack_0 rfl (lv_at hl 1 rfl) ?_
  refine lv_iconst (v := 1) hx hb dX0_putBack_1 (by decide) ?_
  refine lv_isub hx hb dX0_putBack_2 ?_
  refine ct_topi (y := (nI (k - 1))) (pk_sub (a := k) (b := 1) (by omega)) ?_
  refine lv_istore_n (lv' := [(3, .int (nI (k - 1))), (0, .ref ak), (1, .int (nI k)), (2, .ref ap)]) hx hb dX0_putBack_3 rfl hl (by decide) rfl (fun ls hl => ?_)
  refine lv_aload_n hx hb dX0_putBack_4 rfl (lv_at hl 3 rfl) ?_
  refine ct_callv (wr := [(ak, .inr (1, [.ref akw, .ref ake, .ref aku, .ref akn, .ref akc, .ref akp, .int (nI kb)])), (akw, .inl (cZ, 100, .inl kw)), (ake, .inl (cI, 100, .inl ke)), (aku, .inl (cI, 100, .inl ku)), (akn, .inl (cI, 100, .inl kn)), (akc, .inl (cL, 1200, .inr (.inl kc))), (akp, .inl (cI, 600, .inl kp))]) (rest := []) hP hD hS hA [7, 8, 9, 10, 11, 12] [0, 1, 2, 3, 4, 5, 6] (va_runV (C := RX2) (As := []) ⟨hx, hb, hml, hown, hts⟩ (c_X2_startOver l D cI cL cZ ap apc app cs ps aj af al c f fv ln u0 _ (by omega)) (cwV 0 hts gX0_putBack_X2_startOver rfl rfl rfl (by decide +kernel) ⟨Nat.le_of_ble_eq_true rfl, Nat.le_of_ble_eq_true rfl⟩) (ct_preV (q0 := 0) (ci := 3) hK hP hD [7, 8, 9, 10, 11, 12] (by decide) rfl rfl rfl rfl rfl) rfl rfl hl.1 rfl (lv_room (Nat.le_of_ble_eq_true rfl)) dX0_putBack_5 ⟨Nat.le_of_ble_eq_true rfl, Nat.le_of_ble_eq_true rfl⟩) rfl rfl (by decide) (by decide) (fun u H locs hw hP hD hS => ?_)
  obtain ⟨cs1_2, ps1_3⟩ := u
  try dsimp only at hw
  obtain ⟨rfl, rfl⟩ := hw
  have hP : va_P D vwCl [(ak, .inr (1, [.ref akw, .ref ake, .ref aku, .ref akn, .ref akc, .ref akp, .int (nI kb)])), (akw, .inl (cZ, 100, .inl kw)), (ake, .inl (cI, 100, .inl ke)), (aku, .inl (cI, 100, .inl ku)), (akn, .inl (cI, 100, .inl kn)), (akc, .inl (cL, 1200, .inr (.inl kc))), (akp, .inl (cI, 600, .inl kp)), (ap, .inr (3, [.ref aj, .ref apc, .ref app, .int 0])), (apc, .inl (cL, 12, .inr (.inl (so_c cs fv c)))), (app, .inl (cI, 6, .inl (so_p ps 6))), (aj, .inr (2, [.ref af, .ref al, .int (nI c), .int (nI f)])), (af, .inl (cL, 12, .inr (.inl fv))), (al, .inl (cI, 6, .inl ln))] H := hP
  have hD : va_D A [(ak, .inr (1, [.ref akw, .ref ake, .ref aku, .ref akn, .ref akc, .ref akp, .int (nI kb)])), (akw, .inl (cZ, 100, .inl kw)), (ake, .inl (cI, 100, .inl ke)), (aku, .inl (cI, 100, .inl ku)), (akn, .inl (cI, 100, .inl kn)), (akc, .inl (cL, 1200, .inr (.inl kc))), (akp, .inl (cI, 600, .inl kp)), (ap, .inr (3, [.ref aj, .ref apc, .ref app, .int 0])), (apc, .inl (cL, 12, .inr (.inl (so_c cs fv c)))), (app, .inl (cI, 6, .inl (so_p ps 6))), (aj, .inr (2, [.ref af, .ref al, .int (nI c), .int (nI f)])), (af, .inl (cL, 12, .inr (.inl fv))), (al, .inl (cI, 6, .inl ln))] := hD
  refine lv_aload_n hx hb dX0_putBack_8 rfl (lv_at hl 1 rfl) ?_
  refine va_get (D := D) (ci := 1) (v := .ref akc) (C := RX0) (T := TX0) (N := 7) hx hb hts iX0 hown hK hP 0 rfl rfl 4 (by decide) wf25 (fun _ h9 => h9) rfl dX0_putBack_9 ?_
  refine lv_iload_n hx hb dX0_putBack_12 rfl (lv_at hl 0 rfl) ?_
  refine lv_bipush (v := 12) hx hb dX0_putBack_13 (by decide) ?_
  refine lv_imul hx hb dX0_putBack_15 ?_
  refine ct_topi (y := (nI ((k - 1) * 12))) (pk_mul (k - 1) 12) ?_
  refine lv_aload_n hx hb dX0_putBack_16 rfl (lv_at hl 3 rfl) ?_
  refine va_get (D := D) (ci := 3) (v := .ref apc) (C := RX2) (T := TX2) (N := 4) hx hb hts iX2 hown hK hP 7 rfl rfl 1 (by decide) wf49 (fun _ h9 => h9) rfl dX0_putBack_17 ?_
  refine lv_iconst (v := 0) hx hb dX0_putBack_20 (by decide) ?_
  refine lv_aload_n hx hb dX0_putBack_21 rfl (lv_at hl 1 rfl) ?_
  refine va_get (D := D) (ci := 1) (v := .ref akn) (C := RX0) (T := TX0) (N := 7) hx hb hts iX0 hown hK hP 0 rfl rfl 3 (by decide) wf22 (fun _ h9 => h9) rfl dX0_putBack_22 ?_
  refine lv_iload_n hx hb dX0_putBack_25 rfl (lv_at hl 0 rfl) ?_
  refine ct_iald (k := (k - 1)) hx hb hK hP 4 0 rfl rfl (by omega) (by decide) dX0_putBack_26 ?_
  refine ct_topi (y := (nI n)) (hkn) ?_
  refine ct_copyl hx hb (hml.trans hl.1.symm) hown wp50 wp_n wp_s wp_i hK hP hD hS ((k - 1) * 12) 0 n 5 8 1 rfl rfl rfl (by omega) (by omega) (by omega) (by omega) (by omega) (Nat.le_of_ble_eq_true rfl) (Nat.le_of_ble_eq_true rfl) dX0_putBack_27 (fun H locs hP hD hS => ?_)
  have hP : va_P D vwCl [(ak, .inr (1, [.ref akw, .ref ake, .ref aku, .ref akn, .ref akc, .ref akp, .int (nI kb)])), (akw, .inl (cZ, 100, .inl kw)), (ake, .inl (cI, 100, .inl ke)), (aku, .inl (cI, 100, .inl ku)), (akn, .inl (cI, 100, .inl kn)), (akc, .inl (cL, 1200, .inr (.inl kc))), (akp, .inl (cI, 600, .inl kp)), (ap, .inr (3, [.ref aj, .ref apc, .ref app, .int 0])), (apc, .inl (cL, 12, .inr (.inl (va_cpy kc (so_c cs fv c) ((k - 1) * 12) 0 n)))), (app, .inl (cI, 6, .inl (so_p ps 6))), (aj, .inr (2, [.ref af, .ref al, .int (nI c), .int (nI f)])), (af, .inl (cL, 12, .inr (.inl fv))), (al, .inl (cI, 6, .inl ln))] H := hP
  have hD : va_D A [(ak, .inr (1, [.ref akw, .ref ake, .ref aku, .ref akn, .ref akc, .ref akp, .int (nI kb)])), (akw, .inl (cZ, 100, .inl kw)), (ake, .inl (cI, 100, .inl ke)), (aku, .inl (cI, 100, .inl ku)), (akn, .inl (cI, 100, .inl kn)), (akc, .inl (cL, 1200, .inr (.inl kc))), (akp, .inl (cI, 600, .inl kp)), (ap, .inr (3, [.ref aj, .ref apc, .ref app, .int 0])), (apc, .inl (cL, 12, .inr (.inl (va_cpy kc (so_c cs fv c) ((k - 1) * 12) 0 n)))), (app, .inl (cI, 6, .inl (so_p ps 6))), (aj, .inr (2, [.ref af, .ref al, .int (nI c), .int (nI f)])), (af, .inl (cL, 12, .inr (.inl fv))), (al, .inl (cI, 6, .inl ln))] := hD
  refine lv_aload_n hx hb dX0_putBack_30 rfl (lv_at hl 1 rfl) ?_
  refine va_get (D := D) (ci := 1) (v := .ref akp) (C := RX0) (T := TX0) (N := 7) hx hb hts iX0 hown hK hP 0 rfl rfl 5 (by decide) wf29 (fun _ h9 => h9) rfl dX0_putBack_31 ?_
  refine lv_iload_n hx hb dX0_putBack_34 rfl (lv_at hl 0 rfl) ?_
  refine lv_bipush (v := 6) hx hb dX0_putBack_35 (by decide) ?_
  refine lv_imul hx hb dX0_putBack_37 ?_
  refine ct_topi (y := (nI ((k - 1) * 6))) (pk_mul (k - 1) 6) ?_
  refine lv_aload_n hx hb dX0_putBack_38 rfl (lv_at hl 3 rfl) ?_
  refine va_get (D := D) (ci := 3) (v := .ref app) (C := RX2) (T := TX2) (N := 4) hx hb hts iX2 hown hK hP 7 rfl rfl 2 (by decide) wf56 (fun _ h9 => h9) rfl dX0_putBack_39 ?_
  refine lv_iconst (v := 0) hx hb dX0_putBack_42 (by decide) ?_
  refine lv_bipush (v := 6) hx hb dX0_putBack_43 (by decide) ?_
  refine ct_copyi hx hb (hml.trans hl.1.symm) hown wp50 wp_n wp_s wp_i hK hP hD hS ((k - 1) * 6) 0 6 6 9 0 rfl rfl rfl (by omega) (by omega) (by omega) (by omega) (by omega) (Nat.le_of_ble_eq_true rfl) (Nat.le_of_ble_eq_true rfl) dX0_putBack_45 (fun H locs hP hD hS => ?_)
  have hP : va_P D vwCl [(ak, .inr (1, [.ref akw, .ref ake, .ref aku, .ref akn, .ref akc, .ref akp, .int (nI kb)])), (akw, .inl (cZ, 100, .inl kw)), (ake, .inl (cI, 100, .inl ke)), (aku, .inl (cI, 100, .inl ku)), (akn, .inl (cI, 100, .inl kn)), (akc, .inl (cL, 1200, .inr (.inl kc))), (akp, .inl (cI, 600, .inl kp)), (ap, .inr (3, [.ref aj, .ref apc, .ref app, .int 0])), (apc, .inl (cL, 12, .inr (.inl (va_cpy kc (so_c cs fv c) ((k - 1) * 12) 0 n)))), (app, .inl (cI, 6, .inl (va_cpy kp (so_p ps 6) ((k - 1) * 6) 0 6))), (aj, .inr (2, [.ref af, .ref al, .int (nI c), .int (nI f)])), (af, .inl (cL, 12, .inr (.inl fv))), (al, .inl (cI, 6, .inl ln))] H := hP
  have hD : va_D A [(ak, .inr (1, [.ref akw, .ref ake, .ref aku, .ref akn, .ref akc, .ref akp, .int (nI kb)])), (akw, .inl (cZ, 100, .inl kw)), (ake, .inl (cI, 100, .inl ke)), (aku, .inl (cI, 100, .inl ku)), (akn, .inl (cI, 100, .inl kn)), (akc, .inl (cL, 1200, .inr (.inl kc))), (akp, .inl (cI, 600, .inl kp)), (ap, .inr (3, [.ref aj, .ref apc, .ref app, .int 0])), (apc, .inl (cL, 12, .inr (.inl (va_cpy kc (so_c cs fv c) ((k - 1) * 12) 0 n)))), (app, .inl (cI, 6, .inl (va_cpy kp (so_p ps 6) ((k - 1) * 6) 0 6))), (aj, .inr (2, [.ref af, .ref al, .int (nI c), .int (nI f)])), (af, .inl (cL, 12, .inr (.inl fv))), (al, .inl (cI, 6, .inl ln))] := hD
  refine lv_aload_n hx hb dX0_putBack_48 rfl (lv_at hl 3 rfl) ?_
  refine lv_aload_n hx hb dX0_putBack_49 rfl (lv_at hl 1 rfl) ?_
  refine va_get (D := D) (ci := 1) (v := .ref aku) (C := RX0) (T := TX0) (N := 7) hx hb hts iX0 hown hK hP 0 rfl rfl 2 (by decide) wf19 (fun _ h9 => h9) rfl dX0_putBack_50 ?_
  refine lv_iload_n hx hb dX0_putBack_53 rfl (lv_at hl 0 rfl) ?_
  refine ct_iald (k := (k - 1)) hx hb hK hP 3 0 rfl rfl (by omega) (by decide) dX0_putBack_54 ?_
  refine va_put (D := D) (ci := 3) (v := .int (ku (k - 1))) (ty := .int) (C := RX2) (T := TX2) (N := 4) hx hb hts iX2 tyX2 tyX2_ok nmX2 hown hK hP hD hS 7 rfl rfl 3 (by decide) wf36 (fun _ h9 => h9) rfl (by decide +kernel) rfl rfl (Nat.le_of_ble_eq_true rfl) dX0_putBack_55 (fun H locs hP hD hS => ?_)
  have hP : va_P D vwCl [(ak, .inr (1, [.ref akw, .ref ake, .ref aku, .ref akn, .ref akc, .ref akp, .int (nI kb)])), (akw, .inl (cZ, 100, .inl kw)), (ake, .inl (cI, 100, .inl ke)), (aku, .inl (cI, 100, .inl ku)), (akn, .inl (cI, 100, .inl kn)), (akc, .inl (cL, 1200, .inr (.inl kc))), (akp, .inl (cI, 600, .inl kp)), (ap, .inr (3, [.ref aj, .ref apc, .ref app, .int (ku (k - 1))])), (apc, .inl (cL, 12, .inr (.inl (va_cpy kc (so_c cs fv c) ((k - 1) * 12) 0 n)))), (app, .inl (cI, 6, .inl (va_cpy kp (so_p ps 6) ((k - 1) * 6) 0 6))), (aj, .inr (2, [.ref af, .ref al, .int (nI c), .int (nI f)])), (af, .inl (cL, 12, .inr (.inl fv))), (al, .inl (cI, 6, .inl ln))] H := hP
  have hD : va_D A [(ak, .inr (1, [.ref akw, .ref ake, .ref aku, .ref akn, .ref akc, .ref akp, .int (nI kb)])), (akw, .inl (cZ, 100, .inl kw)), (ake, .inl (cI, 100, .inl ke)), (aku, .inl (cI, 100, .inl ku)), (akn, .inl (cI, 100, .inl kn)), (akc, .inl (cL, 1200, .inr (.inl kc))), (akp, .inl (cI, 600, .inl kp)), (ap, .inr (3, [.ref aj, .ref apc, .ref app, .int (ku (k - 1))])), (apc, .inl (cL, 12, .inr (.inl (va_cpy kc (so_c cs fv c) ((k - 1) * 12) 0 n)))), (app, .inl (cI, 6, .inl (va_cpy kp (so_p ps 6) ((k - 1) * 6) 0 6))), (aj, .inr (2, [.ref af, .ref al, .int (nI c), .int (nI f)])), (af, .inl (cL, 12, .inr (.inl fv))), (al, .inl (cI, 6, .inl ln))] := hD
  have hP9 := hP.sub (ws' := [(ak, .inr (1, [.ref akw, .ref ake, .ref aku, .ref akn, .ref akc, .ref akp, .int (nI kb)])), (akw, .inl (cZ, 100, .inl kw)), (ake, .inl (cI, 100, .inl ke)), (aku, .inl (cI, 100, .inl ku)), (akn, .inl (cI, 100, .inl kn)), (akc, .inl (cL, 1200, .inr (.inl kc))), (akp, .inl (cI, 600, .inl kp)), (ap, .inr (3, [.ref aj, .ref apc, .ref app, .int (ku (k - 1))])), (apc, .inl (cL, 12, .inr (.inl (va_cpy kc (so_c cs fv c) ((k - 1) * 12) 0 n)))), (app, .inl (cI, 6, .inl (va_cpy kp (so_p ps 6) ((k - 1) * 6) 0 6))), (aj, .inr (2, [.ref af, .ref al, .int (nI c), .int (nI f)])), (af, .inl (cL, 12, .inr (.inl fv))), (al, .inl (cI, 6, .inl ln))]) [0, 1, 2, 3, 4, 5, 6, 7, 8, 9, 10, 11, 12] rfl
  have hD9 := hD.sub (ws' := [(ak, .inr (1, [.ref akw, .ref ake, .ref aku, .ref akn, .ref akc, .ref akp, .int (nI kb)])), (akw, .inl (cZ, 100, .inl kw)), (ake, .inl (cI, 100, .inl ke)), (aku, .inl (cI, 100, .inl ku)), (akn, .inl (cI, 100, .inl kn)), (akc, .inl (cL, 1200, .inr (.inl kc))), (akp, .inl (cI, 600, .inl kp)), (ap, .inr (3, [.ref aj, .ref apc, .ref app, .int (ku (k - 1))])), (apc, .inl (cL, 12, .inr (.inl (va_cpy kc (so_c cs fv c) ((k - 1) * 12) 0 n)))), (app, .inl (cI, 6, .inl (va_cpy kp (so_p ps 6) ((k - 1) * 6) 0 6))), (aj, .inr (2, [.ref af, .ref al, .int (nI c), .int (nI f)])), (af, .inl (cL, 12, .inr (.inl fv))), (al, .inl (cI, 6, .inl ln))]) [0, 1, 2, 3, 4, 5, 6, 7, 8, 9, 10, 11, 12] (by decide) rfl
  refine W.widen (k := 0) (n := 0) (Nat.le_of_ble_eq_true rfl) (Nat.le_of_ble_eq_true rfl) ?_
  exact W.vret hx hb hr (fun t9 ht9 hW9 => ⟨⟨(), rfl, trivial, by rw [ht9]; exact hP9, va_K.moved hW9.alike hK, hD9⟩, hS.F ht9⟩) hS.2.2 dX0_putBack_58
end
section
abbrev rm_X3_isSetupOver : Room := { frames := 0, cells := 0, slots := 0, locals := 0 }
abbrev qc_X3_isSetupOver (D : va_G) (cI cL cZ : ClassId) (ax : Nat) (aj : Nat) (ap : Nat) (ar : Nat) (arow : Nat) (ak : Nat) (ed : Int32) (dn : Int32) (cp : Int32) (ct : Int32) (apc : Nat) (app : Nat) (t : Nat) (A : Nat → Prop) : Array Value → State → Outcome → State → Prop := va_Qi (fun (r : Int32) (u : Unit) => ((if dn = 0 ∧ nI t ≤ 0 then 0 else 1) = r)) (ct_B D vwCl [(cI, .int), (cL, .long), (cZ, .boolean)] A (fun (u : Unit) => [(ax, .inr (4, [.ref aj, .ref ap, .ref ar, .ref arow, .ref ak, .int ed, .int dn, .int cp, .int ct])), (ap, .inr (3, [.ref aj, .ref apc, .ref app, .int (nI t)]))])) A
set_option maxHeartbeats 4000000 in
set_option maxRecDepth 100000 in
theorem c_X3_isSetupOver (l : Launch) (D : va_G) (cI cL cZ : ClassId) (ax : Nat) (aj : Nat) (ap : Nat) (ar : Nat) (arow : Nat) (ak : Nat) (ed : Int32) (dn : Int32) (cp : Int32) (ct : Int32) (apc : Nat) (app : Nat) (t : Nat) (sz : Nat)  : Met l yX3_isSetupOver wsX3_isSetupOver rm_X3_isSetupOver (va_Pc [.ref ax] (ct_P D vwCl [(cI, .int), (cL, .long), (cZ, .boolean)] [(ax, .inr (4, [.ref aj, .ref ap, .ref ar, .ref arow, .ref ak, .int ed, .int dn, .int cp, .int ct])), (ap, .inr (3, [.ref aj, .ref apc, .ref app, .int (nI t)]))] sz)) (qc_X3_isSetupOver D cI cL cZ ax aj ap ar arow ak ed dn cp ct apc app t (va_A [(ax, .inr (4, [.ref aj, .ref ap, .ref ar, .ref arow, .ref ak, .int ed, .int dn, .int cp, .int ct])), (ap, .inr (3, [.ref aj, .ref apc, .ref app, .int (nI t)]))] sz)) 0 0 (va_A [(ax, .inr (4, [.ref aj, .ref ap, .ref ar, .ref arow, .ref ak, .int ed, .int dn, .int cp, .int ct])), (ap, .inr (3, [.ref aj, .ref apc, .ref app, .int (nI t)]))] sz) := by
  refine Met.ofW (cc := cX3_isSetupOver) (maxL := 1) (ret := (some .boolean)) (by decide) rfl ?_
  intro p e s m args below meth cd s₁ B hml hv
  obtain ⟨rfl, hsz, hP, hK, hD0⟩ := hv
  have hx := B.exec
  have hb := B.bytes
  have hr := B.returns
  have hts := atoms_spec (ws := wsX3_isSetupOver) B.pre
  have iX3 : ∀ w ∈ wsX30, w ∈ wsX3_isSetupOver := by decide +kernel
  have wf43 := hts (.fieldLink RX3 43 "CheckRestart" "down" "Z") (by decide +kernel)
  have wf21 := hts (.fieldLink RX3 21 "CheckRestart" "progress" "LCheckRestart$Progress;") (by decide +kernel)
  have iX2 : ∀ w ∈ wsX20, w ∈ wsX3_isSetupOver := by decide +kernel
  have wf73 := hts (.fieldLink RX3 73 "CheckRestart$Progress" "units" "I") (by decide +kernel)
  have hown : s.vm.findClass RX3 = some m.cls := findClass_of_methodNamed B.named
  have hlocks := B.notSynchronized
  subst hsz
  have hD := hD0.self (sz := s.heap.size)
  generalize hAe : va_A [(ax, .inr (4, [.ref aj, .ref ap, .ref ar, .ref arow, .ref ak, .int ed, .int dn, .int cp, .int ct])), (ap, .inr (3, [.ref aj, .ref apc, .ref app, .int (nI t)]))] s.heap.size = A at hD ⊢
  have hA : ∀ q : Nat, s.heap.size ≤ q → A q := fun q h => by rw [← hAe]; exact Or.inr h
  have hS : va_S A s.heap s.heap [] := va_S.rf
  have hl := lv_entry ([.ref ax]) (n := 1) (Nat.le_of_ble_eq_true rfl)
  rw [lg_entry_eq]
  generalize (lg_sl ([.ref ax]) ++ List.replicate (1 - (lg_sl ([.ref ax])).length) Slot.unset).toArray = ls at hl ⊢
  have hl : lv_has ls 1 [(0, .ref ax)] := hl
  refine lv_aload_n hx hb dX3_isSetupOver_0 rfl (lv_at hl 0 rfl) ?_
  refine va_get (D := D) (ci := 4) (v := .int dn) (C := RX3) (T := TX3) (N := 9) hx hb hts iX3 hown hK hP 0 rfl rfl 6 (by decide) wf43 (fun _ h9 => h9) rfl dX3_isSetupOver_1 ?_
  refine lv_if_ne (tgt := 17) hx hb dX3_isSetupOver_4 (by decide) (fun c_4 => ?_) (fun c_4 => ?_)
  · refine lv_iconst (v := 1) hx hb dX3_isSetupOver_17 (by decide) ?_
    refine lv_goto (tgt := 22) hx hb dX3_isSetupOver_18 (by decide) ?_
    have hP9 := hP.sub (ws' := [(ax, .inr (4, [.ref aj, .ref ap, .ref ar, .ref arow, .ref ak, .int ed, .int dn, .int cp, .int ct])), (ap, .inr (3, [.ref aj, .ref apc, .ref app, .int (nI t)]))]) [0, 1] rfl
    have hD9 := hD.sub (ws' := [(ax, .inr (4, [.ref aj, .ref ap, .ref ar, .ref arow, .ref ak, .int ed, .int dn, .int cp, .int ct])), (ap, .inr (3, [.ref aj, .ref apc, .ref app, .int (nI t)]))]) [0, 1] (by decide) rfl
    refine W.widen (k := 0) (n := 0) (Nat.le_of_ble_eq_true rfl) (Nat.le_of_ble_eq_true rfl) ?_
    exact W.zret (v := 1) hx hb hr (rfl) (fun t9 ht9 hW9 => ⟨⟨1, (), rfl, by first | rfl | (simp [c_4]; done), by rw [ht9]; exact hP9, va_K.moved hW9.alike hK, hD9⟩, hS.F ht9⟩) hS.2.2 dX3_isSetupOver_22
  · refine lv_aload_n hx hb dX3_isSetupOver_7 rfl (lv_at hl 0 rfl) ?_
    refine va_get (D := D) (ci := 4) (v := .ref ap) (C := RX3) (T := TX3) (N := 9) hx hb hts iX3 hown hK hP 0 rfl rfl 1 (by decide) wf21 (fun _ h9 => h9) rfl dX3_isSetupOver_8 ?_
    refine va_get (D := D) (ci := 3) (v := .int (nI t)) (C := RX2) (T := TX2) (N := 4) hx hb hts iX2 hown hK hP 1 rfl rfl 3 (by decide) wf73 (fun _ h9 => h9) rfl dX3_isSetupOver_11 ?_
    refine lv_if_le (tgt := 21) hx hb dX3_isSetupOver_14 (by decide) (fun c_14 => ?_) (fun c_14 => ?_)
    · refine lv_iconst (v := 0) hx hb dX3_isSetupOver_21 (by decide) ?_
      have hP9 := hP.sub (ws' := [(ax, .inr (4, [.ref aj, .ref ap, .ref ar, .ref arow, .ref ak, .int ed, .int dn, .int cp, .int ct])), (ap, .inr (3, [.ref aj, .ref apc, .ref app, .int (nI t)]))]) [0, 1] rfl
      have hD9 := hD.sub (ws' := [(ax, .inr (4, [.ref aj, .ref ap, .ref ar, .ref arow, .ref ak, .int ed, .int dn, .int cp, .int ct])), (ap, .inr (3, [.ref aj, .ref apc, .ref app, .int (nI t)]))]) [0, 1] (by decide) rfl
      refine W.widen (k := 0) (n := 0) (Nat.le_of_ble_eq_true rfl) (Nat.le_of_ble_eq_true rfl) ?_
      exact W.zret (v := 0) hx hb hr (rfl) (fun t9 ht9 hW9 => ⟨⟨0, (), rfl, by first | rfl | (simp [c_4, c_14]; done), by rw [ht9]; exact hP9, va_K.moved hW9.alike hK, hD9⟩, hS.F ht9⟩) hS.2.2 dX3_isSetupOver_22
    · refine lv_iconst (v := 1) hx hb dX3_isSetupOver_17 (by decide) ?_
      refine lv_goto (tgt := 22) hx hb dX3_isSetupOver_18 (by decide) ?_
      have hP9 := hP.sub (ws' := [(ax, .inr (4, [.ref aj, .ref ap, .ref ar, .ref arow, .ref ak, .int ed, .int dn, .int cp, .int ct])), (ap, .inr (3, [.ref aj, .ref apc, .ref app, .int (nI t)]))]) [0, 1] rfl
      have hD9 := hD.sub (ws' := [(ax, .inr (4, [.ref aj, .ref ap, .ref ar, .ref arow, .ref ak, .int ed, .int dn, .int cp, .int ct])), (ap, .inr (3, [.ref aj, .ref apc, .ref app, .int (nI t)]))]) [0, 1] (by decide) rfl
      refine W.widen (k := 0) (n := 0) (Nat.le_of_ble_eq_true rfl) (Nat.le_of_ble_eq_true rfl) ?_
      exact W.zret (v := 1) hx hb hr (rfl) (fun t9 ht9 hW9 => ⟨⟨1, (), rfl, by first | rfl | (simp [c_4, c_14]; done), by rw [ht9]; exact hP9, va_K.moved hW9.alike hK, hD9⟩, hS.F ht9⟩) hS.2.2 dX3_isSetupOver_22
abbrev rm_X3_goDown : Room := { frames := 0, cells := 0, slots := 0, locals := 0 }
abbrev qc_X3_goDown (D : va_G) (cI cL cZ : ClassId) (ax : Nat) (aj : Nat) (ap : Nat) (ar : Nat) (arow : Nat) (ak : Nat) (ed : Int32) (dn : Int32) (cp : Int32) (ct : Int32) (A : Nat → Prop) : Array Value → State → Outcome → State → Prop := va_Qv (fun (u : Unit) => True) (ct_B D vwCl [(cI, .int), (cL, .long), (cZ, .boolean)] A (fun (u : Unit) => [(ax, .inr (4, [.ref aj, .ref ap, .ref ar, .ref arow, .ref ak, .int ed, .int 1, .int 0, .int (ct + 1)]))])) A
set_option maxHeartbeats 4000000 in
set_option maxRecDepth 100000 in
theorem c_X3_goDown (l : Launch) (D : va_G) (cI cL cZ : ClassId) (ax : Nat) (aj : Nat) (ap : Nat) (ar : Nat) (arow : Nat) (ak : Nat) (ed : Int32) (dn : Int32) (cp : Int32) (ct : Int32) (sz : Nat)  : Met l yX3_goDown wsX3_goDown rm_X3_goDown (va_Pc [.ref ax] (ct_P D vwCl [(cI, .int), (cL, .long), (cZ, .boolean)] [(ax, .inr (4, [.ref aj, .ref ap, .ref ar, .ref arow, .ref ak, .int ed, .int dn, .int cp, .int ct]))] sz)) (qc_X3_goDown D cI cL cZ ax aj ap ar arow ak ed dn cp ct (va_A [(ax, .inr (4, [.ref aj, .ref ap, .ref ar, .ref arow, .ref ak, .int ed, .int dn, .int cp, .int ct]))] sz)) 0 0 (va_A [(ax, .inr (4, [.ref aj, .ref ap, .ref ar, .ref arow, .ref ak, .int ed, .int dn, .int cp, .int ct]))] sz) := by
  refine Met.ofW (cc := cX3_goDown) (maxL := 1) (ret := none) (by decide) rfl ?_
  intro p e s m args below meth cd s₁ B hml hv
  obtain ⟨rfl, hsz, hP, hK, hD0⟩ := hv
  have hx := B.exec
  have hb := B.bytes
  have hr := B.returns
  have hts := atoms_spec (ws := wsX3_goDown) B.pre
  have iX3 : ∀ w ∈ wsX30, w ∈ wsX3_goDown := by decide +kernel
  have wf43 := hts (.fieldLink RX3 43 "CheckRestart" "down" "Z") (by decide +kernel)
  have wf47 := hts (.fieldLink RX3 47 "CheckRestart" "cutPart" "I") (by decide +kernel)
  have wf50 := hts (.fieldLink RX3 50 "CheckRestart" "cutsThatCame" "I") (by decide +kernel)
  have hown : s.vm.findClass RX3 = some m.cls := findClass_of_methodNamed B.named
  have hlocks := B.notSynchronized
  subst hsz
  have hD := hD0.self (sz := s.heap.size)
  generalize hAe : va_A [(ax, .inr (4, [.ref aj, .ref ap, .ref ar, .ref arow, .ref ak, .int ed, .int dn, .int cp, .int ct]))] s.heap.size = A at hD ⊢
  have hA : ∀ q : Nat, s.heap.size ≤ q → A q := fun q h => by rw [← hAe]; exact Or.inr h
  have hS : va_S A s.heap s.heap [] := va_S.rf
  have hl := lv_entry ([.ref ax]) (n := 1) (Nat.le_of_ble_eq_true rfl)
  rw [lg_entry_eq]
  generalize (lg_sl ([.ref ax]) ++ List.replicate (1 - (lg_sl ([.ref ax])).length) Slot.unset).toArray = ls at hl ⊢
  have hl : lv_has ls 1 [(0, .ref ax)] := hl
  refine lv_aload_n hx hb dX3_goDown_0 rfl (lv_at hl 0 rfl) ?_
  refine lv_iconst (v := 1) hx hb dX3_goDown_1 (by decide) ?_
  refine va_put (D := D) (ci := 4) (v := .int 1) (ty := .boolean) (C := RX3) (T := TX3) (N := 9) hx hb hts iX3 tyX3 tyX3_ok nmX3 hown hK hP hD hS 0 rfl rfl 6 (by decide) wf43 (fun _ h9 => h9) rfl (by decide +kernel) rfl rfl (Nat.le_of_ble_eq_true rfl) dX3_goDown_2 (fun H locs hP hD hS => ?_)
  have hP : va_P D vwCl [(ax, .inr (4, [.ref aj, .ref ap, .ref ar, .ref arow, .ref ak, .int ed, .int 1, .int cp, .int ct]))] H := hP
  have hD : va_D A [(ax, .inr (4, [.ref aj, .ref ap, .ref ar, .ref arow, .ref ak, .int ed, .int 1, .int cp, .int ct]))] := hD
  refine lv_aload_n hx hb dX3_goDown_5 rfl (lv_at hl 0 rfl) ?_
  refine lv_iconst (v := 0) hx hb dX3_goDown_6 (by decide) ?_
  refine va_put (D := D) (ci := 4) (v := .int 0) (ty := .int) (C := RX3) (T := TX3) (N := 9) hx hb hts iX3 tyX3 tyX3_ok nmX3 hown hK hP hD hS 0 rfl rfl 7 (by decide) wf47 (fun _ h9 => h9) rfl (by decide +kernel) rfl rfl (Nat.le_of_ble_eq_true rfl) dX3_goDown_7 (fun H locs hP hD hS => ?_)
  have hP : va_P D vwCl [(ax, .inr (4, [.ref aj, .ref ap, .ref ar, .ref arow, .ref ak, .int ed, .int 1, .int 0, .int ct]))] H := hP
  have hD : va_D A [(ax, .inr (4, [.ref aj, .ref ap, .ref ar, .ref arow, .ref ak, .int ed, .int 1, .int 0, .int ct]))] := hD
  refine lv_aload_n hx hb dX3_goDown_10 rfl (lv_at hl 0 rfl) ?_
  refine lv_dup hx hb dX3_goDown_11 rfl ?_
  refine va_get (D := D) (ci := 4) (v := .int ct) (C := RX3) (T := TX3) (N := 9) hx hb hts iX3 hown hK hP 0 rfl rfl 8 (by decide) wf50 (fun _ h9 => h9) rfl dX3_goDown_12 ?_
  refine lv_iconst (v := 1) hx hb dX3_goDown_15 (by decide) ?_
  refine lv_iadd hx hb dX3_goDown_16 ?_
  refine va_put (D := D) (ci := 4) (v := .int (ct + 1)) (ty := .int) (C := RX3) (T := TX3) (N := 9) hx hb hts iX3 tyX3 tyX3_ok nmX3 hown hK hP hD hS 0 rfl rfl 8 (by decide) wf50 (fun _ h9 => h9) rfl (by decide +kernel) rfl rfl (Nat.le_of_ble_eq_true rfl) dX3_goDown_17 (fun H locs hP hD hS => ?_)
  have hP : va_P D vwCl [(ax, .inr (4, [.ref aj, .ref ap, .ref ar, .ref arow, .ref ak, .int ed, .int 1, .int 0, .int (ct + 1)]))] H := hP
  have hD : va_D A [(ax, .inr (4, [.ref aj, .ref ap, .ref ar, .ref arow, .ref ak, .int ed, .int 1, .int 0, .int (ct + 1)]))] := hD
  have hP9 := hP.sub (ws' := [(ax, .inr (4, [.ref aj, .ref ap, .ref ar, .ref arow, .ref ak, .int ed, .int 1, .int 0, .int (ct + 1)]))]) [0] rfl
  have hD9 := hD.sub (ws' := [(ax, .inr (4, [.ref aj, .ref ap, .ref ar, .ref arow, .ref ak, .int ed, .int 1, .int 0, .int (ct + 1)]))]) [0] (by decide) rfl
  refine W.widen (k := 0) (n := 0) (Nat.le_of_ble_eq_true rfl) (Nat.le_of_ble_eq_true rfl) ?_
  exact W.vret hx hb hr (fun t9 ht9 hW9 => ⟨⟨(), rfl, trivial, by rw [ht9]; exact hP9, va_K.moved hW9.alike hK, hD9⟩, hS.F ht9⟩) hS.2.2 dX3_goDown_20
abbrev rm_X3_hasRow : Room := { frames := 0, cells := 0, slots := 0, locals := 0 }
abbrev qc_X3_hasRow (D : va_G) (cI cL cZ : ClassId) (ax : Nat) (aj : Nat) (ap : Nat) (ar : Nat) (arow : Nat) (ak : Nat) (ed : Int32) (dn : Int32) (cp : Int32) (ct : Int32) (apc : Nat) (app : Nat) (t : Nat) (x : Int32) (A : Nat → Prop) : Array Value → State → Outcome → State → Prop := va_Qi (fun (r : Int32) (u : Unit) => ((if x < 0 ∨ nI t ≤ x then 0 else 1) = r)) (ct_B D vwCl [(cI, .int), (cL, .long), (cZ, .boolean)] A (fun (u : Unit) => [(ax, .inr (4, [.ref aj, .ref ap, .ref ar, .ref arow, .ref ak, .int ed, .int dn, .int cp, .int ct])), (ap, .inr (3, [.ref aj, .ref apc, .ref app, .int (nI t)]))])) A
set_option maxHeartbeats 4000000 in
set_option maxRecDepth 100000 in
theorem c_X3_hasRow (l : Launch) (D : va_G) (cI cL cZ : ClassId) (ax : Nat) (aj : Nat) (ap : Nat) (ar : Nat) (arow : Nat) (ak : Nat) (ed : Int32) (dn : Int32) (cp : Int32) (ct : Int32) (apc : Nat) (app : Nat) (t : Nat) (x : Int32) (sz : Nat)  : Met l yX3_hasRow wsX3_hasRow rm_X3_hasRow (va_Pc [.ref ax, .int x] (ct_P D vwCl [(cI, .int), (cL, .long), (cZ, .boolean)] [(ax, .inr (4, [.ref aj, .ref ap, .ref ar, .ref arow, .ref ak, .int ed, .int dn, .int cp, .int ct])), (ap, .inr (3, [.ref aj, .ref apc, .ref app, .int (nI t)]))] sz)) (qc_X3_hasRow D cI cL cZ ax aj ap ar arow ak ed dn cp ct apc app t x (va_A [(ax, .inr (4, [.ref aj, .ref ap, .ref ar, .ref arow, .ref ak, .int ed, .int dn, .int cp, .int ct])), (ap, .inr (3, [.ref aj, .ref apc, .ref app, .int (nI t)]))] sz)) 0 0 (va_A [(ax, .inr (4, [.ref aj, .ref ap, .ref ar, .ref arow, .ref ak, .int ed, .int dn, .int cp, .int ct])), (ap, .inr (3, [.ref aj, .ref apc, .ref app, .int (nI t)]))] sz) := by
  refine Met.ofW (cc := cX3_hasRow) (maxL := 2) (ret := (some .boolean)) (by decide) rfl ?_
  intro p e s m args below meth cd s₁ B hml hv
  obtain ⟨rfl, hsz, hP, hK, hD0⟩ := hv
  have hx := B.exec
  have hb := B.bytes
  have hr := B.returns
  have hts := atoms_spec (ws := wsX3_hasRow) B.pre
  have iX3 : ∀ w ∈ wsX30, w ∈ wsX3_hasRow := by decide +kernel
  have wf21 := hts (.fieldLink RX3 21 "CheckRestart" "progress" "LCheckRestart$Progress;") (by decide +kernel)
  have iX2 : ∀ w ∈ wsX20, w ∈ wsX3_hasRow := by decide +kernel
  have wf73 := hts (.fieldLink RX3 73 "CheckRestart$Progress" "units" "I") (by decide +kernel)
  have hown : s.vm.findClass RX3 = some m.cls := findClass_of_methodNamed B.named
  have hlocks := B.notSynchronized
  subst hsz
  have hD := hD0.self (sz := s.heap.size)
  generalize hAe : va_A [(ax, .inr (4, [.ref aj, .ref ap, .ref ar, .ref arow, .ref ak, .int ed, .int dn, .int cp, .int ct])), (ap, .inr (3, [.ref aj, .ref apc, .ref app, .int (nI t)]))] s.heap.size = A at hD ⊢
  have hA : ∀ q : Nat, s.heap.size ≤ q → A q := fun q h => by rw [← hAe]; exact Or.inr h
  have hS : va_S A s.heap s.heap [] := va_S.rf
  have hl := lv_entry ([.ref ax, .int x]) (n := 2) (Nat.le_of_ble_eq_true rfl)
  rw [lg_entry_eq]
  generalize (lg_sl ([.ref ax, .int x]) ++ List.replicate (2 - (lg_sl ([.ref ax, .int x])).length) Slot.unset).toArray = ls at hl ⊢
  have hl : lv_has ls 2 [(0, .ref ax), (1, .int x)] := hl
  refine lv_iload_n hx hb dX3_hasRow_0 rfl (lv_at hl 1 rfl) ?_
  refine lv_if_lt (tgt := 19) hx hb dX3_hasRow_1 (by decide) (fun c_1 => ?_) (fun c_1 => ?_)
  · refine lv_iconst (v := 0) hx hb dX3_hasRow_19 (by decide) ?_
    have hP9 := hP.sub (ws' := [(ax, .inr (4, [.ref aj, .ref ap, .ref ar, .ref arow, .ref ak, .int ed, .int dn, .int cp, .int ct])), (ap, .inr (3, [.ref aj, .ref apc, .ref app, .int (nI t)]))]) [0, 1] rfl
    have hD9 := hD.sub (ws' := [(ax, .inr (4, [.ref aj, .ref ap, .ref ar, .ref arow, .ref ak, .int ed, .int dn, .int cp, .int ct])), (ap, .inr (3, [.ref aj, .ref apc, .ref app, .int (nI t)]))]) [0, 1] (by decide) rfl
    refine W.widen (k := 0) (n := 0) (Nat.le_of_ble_eq_true rfl) (Nat.le_of_ble_eq_true rfl) ?_
    exact W.zret (v := 0) hx hb hr (rfl) (fun t9 ht9 hW9 => ⟨⟨0, (), rfl, by first | rfl | (simp [c_1]; done), by rw [ht9]; exact hP9, va_K.moved hW9.alike hK, hD9⟩, hS.F ht9⟩) hS.2.2 dX3_hasRow_20
  · refine lv_iload_n hx hb dX3_hasRow_4 rfl (lv_at hl 1 rfl) ?_
    refine lv_aload_n hx hb dX3_hasRow_5 rfl (lv_at hl 0 rfl) ?_
    refine va_get (D := D) (ci := 4) (v := .ref ap) (C := RX3) (T := TX3) (N := 9) hx hb hts iX3 hown hK hP 0 rfl rfl 1 (by decide) wf21 (fun _ h9 => h9) rfl dX3_hasRow_6 ?_
    refine va_get (D := D) (ci := 3) (v := .int (nI t)) (C := RX2) (T := TX2) (N := 4) hx hb hts iX2 hown hK hP 1 rfl rfl 3 (by decide) wf73 (fun _ h9 => h9) rfl dX3_hasRow_9 ?_
    refine lv_icmp_ge (tgt := 19) hx hb dX3_hasRow_12 (by decide) (fun c_12 => ?_) (fun c_12 => ?_)
    · refine lv_iconst (v := 0) hx hb dX3_hasRow_19 (by decide) ?_
      have hP9 := hP.sub (ws' := [(ax, .inr (4, [.ref aj, .ref ap, .ref ar, .ref arow, .ref ak, .int ed, .int dn, .int cp, .int ct])), (ap, .inr (3, [.ref aj, .ref apc, .ref app, .int (nI t)]))]) [0, 1] rfl
      have hD9 := hD.sub (ws' := [(ax, .inr (4, [.ref aj, .ref ap, .ref ar, .ref arow, .ref ak, .int ed, .int dn, .int cp, .int ct])), (ap, .inr (3, [.ref aj, .ref apc, .ref app, .int (nI t)]))]) [0, 1] (by decide) rfl
      refine W.widen (k := 0) (n := 0) (Nat.le_of_ble_eq_true rfl) (Nat.le_of_ble_eq_true rfl) ?_
      exact W.zret (v := 0) hx hb hr (rfl) (fun t9 ht9 hW9 => ⟨⟨0, (), rfl, by first | rfl | (simp [c_1, c_12]; done), by rw [ht9]; exact hP9, va_K.moved hW9.alike hK, hD9⟩, hS.F ht9⟩) hS.2.2 dX3_hasRow_20
    · refine lv_iconst (v := 1) hx hb dX3_hasRow_15 (by decide) ?_
      refine lv_goto (tgt := 20) hx hb dX3_hasRow_16 (by decide) ?_
      have hP9 := hP.sub (ws' := [(ax, .inr (4, [.ref aj, .ref ap, .ref ar, .ref arow, .ref ak, .int ed, .int dn, .int cp, .int ct])), (ap, .inr (3, [.ref aj, .ref apc, .ref app, .int (nI t)]))]) [0, 1] rfl
      have hD9 := hD.sub (ws' := [(ax, .inr (4, [.ref aj, .ref ap, .ref ar, .ref arow, .ref ak, .int ed, .int dn, .int cp, .int ct])), (ap, .inr (3, [.ref aj, .ref apc, .ref app, .int (nI t)]))]) [0, 1] (by decide) rfl
      refine W.widen (k := 0) (n := 0) (Nat.le_of_ble_eq_true rfl) (Nat.le_of_ble_eq_true rfl) ?_
      exact W.zret (v := 1) hx hb hr (rfl) (fun t9 ht9 hW9 => ⟨⟨1, (), rfl, by first | rfl | (simp [c_1, c_12]; done), by rw [ht9]; exact hP9, va_K.moved hW9.alike hK, hD9⟩, hS.F ht9⟩) hS.2.2 dX3_hasRow_20
abbrev rm_X3_asNumber : Room := { frames := 0, cells := 0, slots := 0, locals := 0 }
abbrev qc_X3_asNumber (D : va_G) (cI cL cZ : ClassId) (x : Int32) (A : Nat → Prop) : Array Value → State → Outcome → State → Prop := va_Qi (fun (r : Int32) (u : Unit) => (if x = 0 then 0 else 1) = r) (ct_B D vwCl [(cI, .int), (cL, .long), (cZ, .boolean)] A (fun (u : Unit) => [])) A
set_option maxHeartbeats 4000000 in
set_option maxRecDepth 100000 in
theorem c_X3_asNumber (l : Launch) (D : va_G) (cI cL cZ : ClassId) (x : Int32) (sz : Nat)  : Met l yX3_asNumber wsX3_asNumber rm_X3_asNumber (va_Pc [.int x] (ct_P D vwCl [(cI, .int), (cL, .long), (cZ, .boolean)] [] sz)) (qc_X3_asNumber D cI cL cZ x (va_A [] sz)) 0 0 (va_A [] sz) := by
  refine Met.ofW (cc := cX3_asNumber) (maxL := 1) (ret := (some .int)) (by decide) rfl ?_
  intro p e s m args below meth cd s₁ B hml hv
  obtain ⟨rfl, hsz, hP, hK, hD0⟩ := hv
  have hx := B.exec
  have hb := B.bytes
  have hr := B.returns
  have hts := atoms_spec (ws := wsX3_asNumber) B.pre
  have hown : s.vm.findClass RX3 = some m.cls := findClass_of_methodNamed B.named
  have hlocks := B.notSynchronized
  subst hsz
  have hD := hD0.self (sz := s.heap.size)
  generalize hAe : va_A [] s.heap.size = A at hD ⊢
  have hA : ∀ q : Nat, s.heap.size ≤ q → A q := fun q h => by rw [← hAe]; exact Or.inr h
  have hS : va_S A s.heap s.heap [] := va_S.rf
  have hl := lv_entry ([.int x]) (n := 1) (Nat.le_of_ble_eq_true rfl)
  rw [lg_entry_eq]
  generalize (lg_sl ([.int x]) ++ List.replicate (1 - (lg_sl ([.int x])).length) Slot.unset).toArray = ls at hl ⊢
  have hl : lv_has ls 1 [(0, .int x)] := hl
  refine lv_iload_n hx hb dX3_asNumber_0 rfl (lv_at hl 0 rfl) ?_
  refine lv_if_eq (tgt := 8) hx hb dX3_asNumber_1 (by decide) (fun c_1 => ?_) (fun c_1 => ?_)
  · refine lv_iconst (v := 0) hx hb dX3_asNumber_8 (by decide) ?_
    have hP9 := hP.sub (ws' := []) [] rfl
    have hD9 := hD.sub (ws' := []) [] (by decide) rfl
    refine W.widen (k := 0) (n := 0) (Nat.le_of_ble_eq_true rfl) (Nat.le_of_ble_eq_true rfl) ?_
    exact W.iret (v := 0) hx hb hr (fun t9 ht9 hW9 => ⟨⟨0, (), rfl, by first | rfl | (simp [c_1]; done), by rw [ht9]; exact hP9, va_K.moved hW9.alike hK, hD9⟩, hS.F ht9⟩) hS.2.2 dX3_asNumber_9
  · refine lv_iconst (v := 1) hx hb dX3_asNumber_4 (by decide) ?_
    refine lv_goto (tgt := 9) hx hb dX3_asNumber_5 (by decide) ?_
    have hP9 := hP.sub (ws' := []) [] rfl
    have hD9 := hD.sub (ws' := []) [] (by decide) rfl
    refine W.widen (k := 0) (n := 0) (Nat.le_of_ble_eq_true rfl) (Nat.le_of_ble_eq_true rfl) ?_
    exact W.iret (v := 1) hx hb hr (fun t9 ht9 hW9 => ⟨⟨1, (), rfl, by first | rfl | (simp [c_1]; done), by rw [ht9]; exact hP9, va_K.moved hW9.alike hK, hD9⟩, hS.F ht9⟩) hS.2.2 dX3_asNumber_9
abbrev rm_X3_cell : Room := { frames := 1, cells := 0, slots := 0, locals := 20 }
abbrev qc_X3_cell (D : va_G) (cI cL cZ : ClassId) (ax : Nat) (aj : Nat) (ap : Nat) (ar : Nat) (arow : Nat) (ak : Nat) (ed : Int32) (dn : Int32) (cp : Int32) (ct : Int32) (apc : Nat) (app : Nat) (t : Nat) (af : Nat) (al : Nat) (c : Nat) (f : Nat) (fv : Nat → Int64) (cs : Nat → Int64) (v : Int64) (A : Nat → Prop) : Array Value → State → Outcome → State → Prop := va_Qi (fun (r : Int32) (u : Nat × (Nat → Int64) × (Nat → Int64)) => (ce_r dn t c) = r ∧ (ce_c dn t c) = u.1 ∧ (ce_a dn t c fv v) = u.2.1 ∧ (ce_a dn t c cs v) = u.2.2) (ct_B D vwCl [(cI, .int), (cL, .long), (cZ, .boolean)] A (fun (u : Nat × (Nat → Int64) × (Nat → Int64)) => [(ax, .inr (4, [.ref aj, .ref ap, .ref ar, .ref arow, .ref ak, .int ed, .int dn, .int cp, .int ct])), (aj, .inr (2, [.ref af, .ref al, .int (nI u.1), .int (nI f)])), (af, .inl (cL, 12, .inr (.inl u.2.1))), (ap, .inr (3, [.ref aj, .ref apc, .ref app, .int (nI t)])), (apc, .inl (cL, 12, .inr (.inl u.2.2)))])) A
set_option maxHeartbeats 4000000 in
set_option maxRecDepth 100000 in
theorem c_X3_cell (l : Launch) (D : va_G) (cI cL cZ : ClassId) (ax : Nat) (aj : Nat) (ap : Nat) (ar : Nat) (arow : Nat) (ak : Nat) (ed : Int32) (dn : Int32) (cp : Int32) (ct : Int32) (apc : Nat) (app : Nat) (t : Nat) (af : Nat) (al : Nat) (c : Nat) (f : Nat) (fv : Nat → Int64) (cs : Nat → Int64) (v : Int64) (sz : Nat) (hc : c ≤ 12) : Met l yX3_cell wsX3_cell rm_X3_cell (va_Pc [.ref ax, .long v] (ct_P D vwCl [(cI, .int), (cL, .long), (cZ, .boolean)] [(ax, .inr (4, [.ref aj, .ref ap, .ref ar, .ref arow, .ref ak, .int ed, .int dn, .int cp, .int ct])), (aj, .inr (2, [.ref af, .ref al, .int (nI c), .int (nI f)])), (af, .inl (cL, 12, .inr (.inl fv))), (ap, .inr (3, [.ref aj, .ref apc, .ref app, .int (nI t)])), (apc, .inl (cL, 12, .inr (.inl cs)))] sz)) (qc_X3_cell D cI cL cZ ax aj ap ar arow ak ed dn cp ct apc app t af al c f fv cs v (va_A [(ax, .inr (4, [.ref aj, .ref ap, .ref ar, .ref arow, .ref ak, .int ed, .int dn, .int cp, .int ct])), (aj, .inr (2, [.ref af, .ref al, .int (nI c), .int (nI f)])), (af, .inl (cL, 12, .inr (.inl fv))), (ap, .inr (3, [.ref aj, .ref apc, .ref app, .int (nI t)])), (apc, .inl (cL, 12, .inr (.inl cs)))] sz)) 0 0 (va_A [(ax, .inr (4, [.ref aj, .ref ap, .ref ar, .ref arow, .ref ak, .int ed, .int dn, .int cp, .int ct])), (aj, .inr (2, [.ref af, .ref al, .int (nI c), .int (nI f)])), (af, .inl (cL, 12, .inr (.inl fv))), (ap, .inr (3, [.ref aj, .ref apc, .ref app, .int (nI t)])), (apc, .inl (cL, 12, .inr (.inl cs)))] sz) := by
  refine Met.ofW (cc := cX3_cell) (maxL := 4) (ret := (some .int)) (by decide) rfl ?_
  intro p e s m args below meth cd s₁ B hml hv
  obtain ⟨rfl, hsz, hP, hK, hD0⟩ := hv
  have hx := B.exec
  have hb := B.bytes
  have hr := B.returns
  have hts := atoms_spec (ws := wsX3_cell) B.pre
  have iX3 : ∀ w ∈ wsX30, w ∈ wsX3_cell := by decide +kernel
  have wf10 := hts (.fieldLink RX3 10 "CheckRestart" "job" "LCheckRestart$Job;") (by decide +kernel)
  have iX1 : ∀ w ∈ wsX10, w ∈ wsX3_cell := by decide +kernel
  have wf57 := hts (.fieldLink RX3 57 "CheckRestart$Job" "cellCount" "I") (by decide +kernel)
  have wf60 := hts (.fieldLink RX3 60 "CheckRestart$Job" "firstValues" "[J") (by decide +kernel)
  have wf21 := hts (.fieldLink RX3 21 "CheckRestart" "progress" "LCheckRestart$Progress;") (by decide +kernel)
  have iX2 : ∀ w ∈ wsX20, w ∈ wsX3_cell := by decide +kernel
  have wf63 := hts (.fieldLink RX3 63 "CheckRestart$Progress" "cells" "[J") (by decide +kernel)
  have hown : s.vm.findClass RX3 = some m.cls := findClass_of_methodNamed B.named
  have hlocks := B.notSynchronized
  subst hsz
  have hD := hD0.self (sz := s.heap.size)
  generalize hAe : va_A [(ax, .inr (4, [.ref aj, .ref ap, .ref ar, .ref arow, .ref ak, .int ed, .int dn, .int cp, .int ct])), (aj, .inr (2, [.ref af, .ref al, .int (nI c), .int (nI f)])), (af, .inl (cL, 12, .inr (.inl fv))), (ap, .inr (3, [.ref aj, .ref apc, .ref app, .int (nI t)])), (apc, .inl (cL, 12, .inr (.inl cs)))] s.heap.size = A at hD ⊢
  have hA : ∀ q : Nat, s.heap.size ≤ q → A q := fun q h => by rw [← hAe]; exact Or.inr h
  have hS : va_S A s.heap s.heap [] := va_S.rf
  have hl := lv_entry ([.ref ax, .long v]) (n := 4) (Nat.le_of_ble_eq_true rfl)
  rw [lg_entry_eq]
  generalize (lg_sl ([.ref ax, .long v]) ++ List.replicate (4 - (lg_sl ([.ref ax, .long v])).length) Slot.unset).toArray = ls at hl ⊢
  have hl : lv_has ls 4 [(0, .ref ax), (1, .long v)] := hl
  refine lv_aload_n hx hb dX3_cell_0 rfl (lv_at hl 0 rfl) ?_
  refine ct_calli (wr := [(aj, .inr (2, [.ref af, .ref al, .int (nI c), .int (nI f)])), (af, .inl (cL, 12, .inr (.inl fv))), (apc, .inl (cL, 12, .inr (.inl cs)))]) (rest := []) hP hD hS hA [0, 3] [1, 2, 4] (va_runV (C := RX3) (As := []) ⟨hx, hb, hml, hown, hts⟩ (c_X3_isSetupOver l D cI cL cZ ax aj ap ar arow ak ed dn cp ct apc app t _ ) (cwV 0 hts gX3_cell_X3_isSetupOver rfl rfl rfl (by decide +kernel) ⟨Nat.le_of_ble_eq_true rfl, Nat.le_of_ble_eq_true rfl⟩) (ct_preV (q0 := 0) (ci := 4) hK hP hD [0, 3] (by decide) rfl rfl rfl rfl rfl) rfl rfl hl.1 rfl (lv_room (Nat.le_of_ble_eq_true rfl)) dX3_cell_1 ⟨Nat.le_of_ble_eq_true rfl, Nat.le_of_ble_eq_true rfl⟩) rfl rfl (by decide) (by decide) (fun r_1 u H locs hw hP hD hS => ?_)
  try dsimp only at hw
  obtain rfl := hw
  have hP : va_P D vwCl [(aj, .inr (2, [.ref af, .ref al, .int (nI c), .int (nI f)])), (af, .inl (cL, 12, .inr (.inl fv))), (apc, .inl (cL, 12, .inr (.inl cs))), (ax, .inr (4, [.ref aj, .ref ap, .ref ar, .ref arow, .ref ak, .int ed, .int dn, .int cp, .int ct])), (ap, .inr (3, [.ref aj, .ref apc, .ref app, .int (nI t)]))] H := hP
  have hD : va_D A [(aj, .inr (2, [.ref af, .ref al, .int (nI c), .int (nI f)])), (af, .inl (cL, 12, .inr (.inl fv))), (apc, .inl (cL, 12, .inr (.inl cs))), (ax, .inr (4, [.ref aj, .ref ap, .ref ar, .ref arow, .ref ak, .int ed, .int dn, .int cp, .int ct])), (ap, .inr (3, [.ref aj, .ref apc, .ref app, .int (nI t)]))] := hD
  refine lv_if_eq (tgt := 10) hx hb dX3_cell_4 (by decide) (fun c_4 => ?_) (fun c_4 => ?_)
  · have h0 := cr_if01 _ c_4
    refine lv_aload_n hx hb dX3_cell_10 rfl (lv_at hl 0 rfl) ?_
    refine va_get (D := D) (ci := 4) (v := .ref aj) (C := RX3) (T := TX3) (N := 9) hx hb hts iX3 hown hK hP 3 rfl rfl 0 (by decide) wf10 (fun _ h9 => h9) rfl dX3_cell_11 ?_
    refine va_get (D := D) (ci := 2) (v := .int (nI c)) (C := RX1) (T := TX1) (N := 4) hx hb hts iX1 hown hK hP 0 rfl rfl 2 (by decide) wf57 (fun _ h9 => h9) rfl dX3_cell_14 ?_
    refine lv_bipush (v := 12) hx hb dX3_cell_17 (by decide) ?_
    refine lv_icmp_lt (tgt := 24) hx hb dX3_cell_19 (by decide) (fun c_19 => ?_) (fun c_19 => ?_)
    · have h1 : c < 12 := (nI_ltI (a := c) (b := 12) (by omega) (by omega)).mp c_19
      refine lv_aload_n hx hb dX3_cell_24 rfl (lv_at hl 0 rfl) ?_
      refine va_get (D := D) (ci := 4) (v := .ref aj) (C := RX3) (T := TX3) (N := 9) hx hb hts iX3 hown hK hP 3 rfl rfl 0 (by decide) wf10 (fun _ h9 => h9) rfl dX3_cell_25 ?_
      refine va_get (D := D) (ci := 2) (v := .int (nI c)) (C := RX1) (T := TX1) (N := 4) hx hb hts iX1 hown hK hP 0 rfl rfl 2 (by decide) wf57 (fun _ h9 => h9) rfl dX3_cell_28 ?_
      refine lv_istore_n (lv' := [(3, .int (nI c)), (0, .ref ax), (1, .long v)]) hx hb dX3_cell_31 rfl hl (by decide) rfl (fun ls hl => ?_)
      refine lv_aload_n hx hb dX3_cell_32 rfl (lv_at hl 1 rfl) ?_
      refine va_get (D := D) (ci := 4) (v := .ref aj) (C := RX3) (T := TX3) (N := 9) hx hb hts iX3 hown hK hP 3 rfl rfl 0 (by decide) wf10 (fun _ h9 => h9) rfl dX3_cell_33 ?_
      refine va_get (D := D) (ci := 2) (v := .ref af) (C := RX1) (T := TX1) (N := 4) hx hb hts iX1 hown hK hP 0 rfl rfl 0 (by decide) wf60 (fun _ h9 => h9) rfl dX3_cell_36 ?_
      refine lv_iload_n hx hb dX3_cell_39 rfl (lv_at hl 0 rfl) ?_
      refine lv_lload_n hx hb dX3_cell_40 rfl (lv_at hl 2 rfl) ?_
      refine ct_last (k := c) hx hb hK hP hD hS 1 1 rfl rfl (by omega) (by decide) dX3_cell_41 (fun H locs hP hD hS => ?_)
      have hP : va_P D vwCl [(aj, .inr (2, [.ref af, .ref al, .int (nI c), .int (nI f)])), (af, .inl (cL, 12, .inr (.inl (vp_updL fv c v)))), (apc, .inl (cL, 12, .inr (.inl cs))), (ax, .inr (4, [.ref aj, .ref ap, .ref ar, .ref arow, .ref ak, .int ed, .int dn, .int cp, .int ct])), (ap, .inr (3, [.ref aj, .ref apc, .ref app, .int (nI t)]))] H := hP
      have hD : va_D A [(aj, .inr (2, [.ref af, .ref al, .int (nI c), .int (nI f)])), (af, .inl (cL, 12, .inr (.inl (vp_updL fv c v)))), (apc, .inl (cL, 12, .inr (.inl cs))), (ax, .inr (4, [.ref aj, .ref ap, .ref ar, .ref arow, .ref ak, .int ed, .int dn, .int cp, .int ct])), (ap, .inr (3, [.ref aj, .ref apc, .ref app, .int (nI t)]))] := hD
      refine lv_aload_n hx hb dX3_cell_42 rfl (lv_at hl 1 rfl) ?_
      refine va_get (D := D) (ci := 4) (v := .ref aj) (C := RX3) (T := TX3) (N := 9) hx hb hts iX3 hown hK hP 3 rfl rfl 0 (by decide) wf10 (fun _ h9 => h9) rfl dX3_cell_43 ?_
      refine lv_dup hx hb dX3_cell_46 rfl ?_
      refine va_get (D := D) (ci := 2) (v := .int (nI c)) (C := RX1) (T := TX1) (N := 4) hx hb hts iX1 hown hK hP 0 rfl rfl 2 (by decide) wf57 (fun _ h9 => h9) rfl dX3_cell_47 ?_
      refine lv_iconst (v := 1) hx hb dX3_cell_50 (by decide) ?_
      refine lv_iadd hx hb dX3_cell_51 ?_
      refine ct_topi (y := (nI (c + 1))) (nI_1 c) ?_
      refine va_put (D := D) (ci := 2) (v := .int (nI (c + 1))) (ty := .int) (C := RX1) (T := TX1) (N := 4) hx hb hts iX1 tyX1 tyX1_ok nmX1 hown hK hP hD hS 0 rfl rfl 2 (by decide) wf57 (fun _ h9 => h9) rfl (by decide +kernel) rfl rfl (Nat.le_of_ble_eq_true rfl) dX3_cell_52 (fun H locs hP hD hS => ?_)
      have hP : va_P D vwCl [(aj, .inr (2, [.ref af, .ref al, .int (nI (c + 1)), .int (nI f)])), (af, .inl (cL, 12, .inr (.inl (vp_updL fv c v)))), (apc, .inl (cL, 12, .inr (.inl cs))), (ax, .inr (4, [.ref aj, .ref ap, .ref ar, .ref arow, .ref ak, .int ed, .int dn, .int cp, .int ct])), (ap, .inr (3, [.ref aj, .ref apc, .ref app, .int (nI t)]))] H := hP
      have hD : va_D A [(aj, .inr (2, [.ref af, .ref al, .int (nI (c + 1)), .int (nI f)])), (af, .inl (cL, 12, .inr (.inl (vp_updL fv c v)))), (apc, .inl (cL, 12, .inr (.inl cs))), (ax, .inr (4, [.ref aj, .ref ap, .ref ar, .ref arow, .ref ak, .int ed, .int dn, .int cp, .int ct])), (ap, .inr (3, [.ref aj, .ref apc, .ref app, .int (nI t)]))] := hD
      refine lv_aload_n hx hb dX3_cell_55 rfl (lv_at hl 1 rfl) ?_
      refine va_get (D := D) (ci := 4) (v := .ref ap) (C := RX3) (T := TX3) (N := 9) hx hb hts iX3 hown hK hP 3 rfl rfl 1 (by decide) wf21 (fun _ h9 => h9) rfl dX3_cell_56 ?_
      refine va_get (D := D) (ci := 3) (v := .ref apc) (C := RX2) (T := TX2) (N := 4) hx hb hts iX2 hown hK hP 4 rfl rfl 1 (by decide) wf63 (fun _ h9 => h9) rfl dX3_cell_59 ?_
      refine lv_iload_n hx hb dX3_cell_62 rfl (lv_at hl 0 rfl) ?_
      refine lv_lload_n hx hb dX3_cell_63 rfl (lv_at hl 2 rfl) ?_
      refine ct_last (k := c) hx hb hK hP hD hS 2 1 rfl rfl (by omega) (by decide) dX3_cell_64 (fun H locs hP hD hS => ?_)
      have hP : va_P D vwCl [(aj, .inr (2, [.ref af, .ref al, .int (nI (c + 1)), .int (nI f)])), (af, .inl (cL, 12, .inr (.inl (vp_updL fv c v)))), (apc, .inl (cL, 12, .inr (.inl (vp_updL cs c v)))), (ax, .inr (4, [.ref aj, .ref ap, .ref ar, .ref arow, .ref ak, .int ed, .int dn, .int cp, .int ct])), (ap, .inr (3, [.ref aj, .ref apc, .ref app, .int (nI t)]))] H := hP
      have hD : va_D A [(aj, .inr (2, [.ref af, .ref al, .int (nI (c + 1)), .int (nI f)])), (af, .inl (cL, 12, .inr (.inl (vp_updL fv c v)))), (apc, .inl (cL, 12, .inr (.inl (vp_updL cs c v)))), (ax, .inr (4, [.ref aj, .ref ap, .ref ar, .ref arow, .ref ak, .int ed, .int dn, .int cp, .int ct])), (ap, .inr (3, [.ref aj, .ref apc, .ref app, .int (nI t)]))] := hD
      refine lv_iload_n hx hb dX3_cell_65 rfl (lv_at hl 0 rfl) ?_
      have hP9 := hP.sub (ws' := [(ax, .inr (4, [.ref aj, .ref ap, .ref ar, .ref arow, .ref ak, .int ed, .int dn, .int cp, .int ct])), (aj, .inr (2, [.ref af, .ref al, .int (nI (c + 1)), .int (nI f)])), (af, .inl (cL, 12, .inr (.inl (vp_updL fv c v)))), (ap, .inr (3, [.ref aj, .ref apc, .ref app, .int (nI t)])), (apc, .inl (cL, 12, .inr (.inl (vp_updL cs c v))))]) [3, 0, 1, 4, 2] rfl
      have hD9 := hD.sub (ws' := [(ax, .inr (4, [.ref aj, .ref ap, .ref ar, .ref arow, .ref ak, .int ed, .int dn, .int cp, .int ct])), (aj, .inr (2, [.ref af, .ref al, .int (nI (c + 1)), .int (nI f)])), (af, .inl (cL, 12, .inr (.inl (vp_updL fv c v)))), (ap, .inr (3, [.ref aj, .ref apc, .ref app, .int (nI t)])), (apc, .inl (cL, 12, .inr (.inl (vp_updL cs c v))))]) [3, 0, 1, 4, 2] (by decide) rfl
      refine W.widen (k := 0) (n := 0) (Nat.le_of_ble_eq_true rfl) (Nat.le_of_ble_eq_true rfl) ?_
      exact W.iret (v := (nI c)) hx hb hr (fun t9 ht9 hW9 => ⟨⟨(nI c), ((c + 1), (vp_updL fv c v), (vp_updL cs c v)), rfl, ⟨by unfold ce_r; rw [if_pos h0, if_pos c_19], by unfold ce_c; rw [if_pos ⟨h0, h1⟩], by unfold ce_a; rw [if_pos ⟨h0, h1⟩], by unfold ce_a; rw [if_pos ⟨h0, h1⟩]⟩, by rw [ht9]; exact hP9, va_K.moved hW9.alike hK, hD9⟩, hS.F ht9⟩) hS.2.2 dX3_cell_66
    · have h1 : ¬ c < 12 := fun q => c_19 (nI_lt (a := c) (b := 12) q (by omega))
      refine lv_iconst (v := (-1)) hx hb dX3_cell_22 (by decide) ?_
      have hP9 := hP.sub (ws' := [(ax, .inr (4, [.ref aj, .ref ap, .ref ar, .ref arow, .ref ak, .int ed, .int dn, .int cp, .int ct])), (aj, .inr (2, [.ref af, .ref al, .int (nI c), .int (nI f)])), (af, .inl (cL, 12, .inr (.inl fv))), (ap, .inr (3, [.ref aj, .ref apc, .ref app, .int (nI t)])), (apc, .inl (cL, 12, .inr (.inl cs)))]) [3, 0, 1, 4, 2] rfl
      have hD9 := hD.sub (ws' := [(ax, .inr (4, [.ref aj, .ref ap, .ref ar, .ref arow, .ref ak, .int ed, .int dn, .int cp, .int ct])), (aj, .inr (2, [.ref af, .ref al, .int (nI c), .int (nI f)])), (af, .inl (cL, 12, .inr (.inl fv))), (ap, .inr (3, [.ref aj, .ref apc, .ref app, .int (nI t)])), (apc, .inl (cL, 12, .inr (.inl cs)))]) [3, 0, 1, 4, 2] (by decide) rfl
      refine W.widen (k := 0) (n := 0) (Nat.le_of_ble_eq_true rfl) (Nat.le_of_ble_eq_true rfl) ?_
      exact W.iret (v := (-1)) hx hb hr (fun t9 ht9 hW9 => ⟨⟨(-1), (c, fv, cs), rfl, ⟨by unfold ce_r; rw [if_pos h0, if_neg c_19], by unfold ce_c; rw [if_neg (fun q => h1 q.2)], by unfold ce_a; rw [if_neg (fun q => h1 q.2)], by unfold ce_a; rw [if_neg (fun q => h1 q.2)]⟩, by rw [ht9]; exact hP9, va_K.moved hW9.alike hK, hD9⟩, hS.F ht9⟩) hS.2.2 dX3_cell_23
  · have h0 := cr_if01n _ c_4
    refine lv_bipush (v := (-5)) hx hb dX3_cell_7 (by decide) ?_
    have hP9 := hP.sub (ws' := [(ax, .inr (4, [.ref aj, .ref ap, .ref ar, .ref arow, .ref ak, .int ed, .int dn, .int cp, .int ct])), (aj, .inr (2, [.ref af, .ref al, .int (nI c), .int (nI f)])), (af, .inl (cL, 12, .inr (.inl fv))), (ap, .inr (3, [.ref aj, .ref apc, .ref app, .int (nI t)])), (apc, .inl (cL, 12, .inr (.inl cs)))]) [3, 0, 1, 4, 2] rfl
    have hD9 := hD.sub (ws' := [(ax, .inr (4, [.ref aj, .ref ap, .ref ar, .ref arow, .ref ak, .int ed, .int dn, .int cp, .int ct])), (aj, .inr (2, [.ref af, .ref al, .int (nI c), .int (nI f)])), (af, .inl (cL, 12, .inr (.inl fv))), (ap, .inr (3, [.ref aj, .ref apc, .ref app, .int (nI t)])), (apc, .inl (cL, 12, .inr (.inl cs)))]) [3, 0, 1, 4, 2] (by decide) rfl
    refine W.widen (k := 0) (n := 0) (Nat.le_of_ble_eq_true rfl) (Nat.le_of_ble_eq_true rfl) ?_
    exact W.iret (v := (-5)) hx hb hr (fun t9 ht9 hW9 => ⟨⟨(-5), (c, fv, cs), rfl, ⟨by unfold ce_r; rw [if_neg h0], by unfold ce_c; rw [if_neg (fun q => h0 q.1)], by unfold ce_a; rw [if_neg (fun q => h0 q.1)], by unfold ce_a; rw [if_neg (fun q => h0 q.1)]⟩, by rw [ht9]; exact hP9, va_K.moved hW9.alike hK, hD9⟩, hS.F ht9⟩) hS.2.2 dX3_cell_9
abbrev rm_X3_file : Room := { frames := 1, cells := 0, slots := 0, locals := 20 }
abbrev qc_X3_file (D : va_G) (cI cL cZ : ClassId) (ax : Nat) (aj : Nat) (ap : Nat) (ar : Nat) (arow : Nat) (ak : Nat) (ed : Int32) (dn : Int32) (cp : Int32) (ct : Int32) (apc : Nat) (app : Nat) (t : Nat) (af : Nat) (al : Nat) (c : Nat) (f : Nat) (ln : Nat → Int32) (x : Int32) (A : Nat → Prop) : Array Value → State → Outcome → State → Prop := va_Qi (fun (r : Int32) (u : Nat × (Nat → Int32)) => (fi_r dn t f x) = r ∧ (fi_f dn t f x) = u.1 ∧ (fi_l dn t f ln x) = u.2) (ct_B D vwCl [(cI, .int), (cL, .long), (cZ, .boolean)] A (fun (u : Nat × (Nat → Int32)) => [(ax, .inr (4, [.ref aj, .ref ap, .ref ar, .ref arow, .ref ak, .int ed, .int dn, .int cp, .int ct])), (aj, .inr (2, [.ref af, .ref al, .int (nI c), .int (nI u.1)])), (al, .inl (cI, 6, .inl u.2)), (ap, .inr (3, [.ref aj, .ref apc, .ref app, .int (nI t)]))])) A
set_option maxHeartbeats 4000000 in
set_option maxRecDepth 100000 in
theorem c_X3_file (l : Launch) (D : va_G) (cI cL cZ : ClassId) (ax : Nat) (aj : Nat) (ap : Nat) (ar : Nat) (arow : Nat) (ak : Nat) (ed : Int32) (dn : Int32) (cp : Int32) (ct : Int32) (apc : Nat) (app : Nat) (t : Nat) (af : Nat) (al : Nat) (c : Nat) (f : Nat) (ln : Nat → Int32) (x : Int32) (sz : Nat) (hf : f ≤ 6) : Met l yX3_file wsX3_file rm_X3_file (va_Pc [.ref ax, .int x] (ct_P D vwCl [(cI, .int), (cL, .long), (cZ, .boolean)] [(ax, .inr (4, [.ref aj, .ref ap, .ref ar, .ref arow, .ref ak, .int ed, .int dn, .int cp, .int ct])), (aj, .inr (2, [.ref af, .ref al, .int (nI c), .int (nI f)])), (al, .inl (cI, 6, .inl ln)), (ap, .inr (3, [.ref aj, .ref apc, .ref app, .int (nI t)]))] sz)) (qc_X3_file D cI cL cZ ax aj ap ar arow ak ed dn cp ct apc app t af al c f ln x (va_A [(ax, .inr (4, [.ref aj, .ref ap, .ref ar, .ref arow, .ref ak, .int ed, .int dn, .int cp, .int ct])), (aj, .inr (2, [.ref af, .ref al, .int (nI c), .int (nI f)])), (al, .inl (cI, 6, .inl ln)), (ap, .inr (3, [.ref aj, .ref apc, .ref app, .int (nI t)]))] sz)) 0 0 (va_A [(ax, .inr (4, [.ref aj, .ref ap, .ref ar, .ref arow, .ref ak, .int ed, .int dn, .int cp, .int ct])), (aj, .inr (2, [.ref af, .ref al, .int (nI c), .int (nI f)])), (al, .inl (cI, 6, .inl ln)), (ap, .inr (3, [.ref aj, .ref apc, .ref app, .int (nI t)]))] sz) := by
  refine Met.ofW (cc := cX3_file) (maxL := 3) (ret := (some .int)) (by decide) rfl ?_
  intro p e s m args below meth cd s₁ B hml hv
  obtain ⟨rfl, hsz, hP, hK, hD0⟩ := hv
  have hx := B.exec
  have hb := B.bytes
  have hr := B.returns
  have hts := atoms_spec (ws := wsX3_file) B.pre
  have iX3 : ∀ w ∈ wsX30, w ∈ wsX3_file := by decide +kernel
  have wf10 := hts (.fieldLink RX3 10 "CheckRestart" "job" "LCheckRestart$Job;") (by decide +kernel)
  have iX1 : ∀ w ∈ wsX10, w ∈ wsX3_file := by decide +kernel
  have wf66 := hts (.fieldLink RX3 66 "CheckRestart$Job" "fileCount" "I") (by decide +kernel)
  have wf69 := hts (.fieldLink RX3 69 "CheckRestart$Job" "lengths" "[I") (by decide +kernel)
  have hown : s.vm.findClass RX3 = some m.cls := findClass_of_methodNamed B.named
  have hlocks := B.notSynchronized
  subst hsz
  have hD := hD0.self (sz := s.heap.size)
  generalize hAe : va_A [(ax, .inr (4, [.ref aj, .ref ap, .ref ar, .ref arow, .ref ak, .int ed, .int dn, .int cp, .int ct])), (aj, .inr (2, [.ref af, .ref al, .int (nI c), .int (nI f)])), (al, .inl (cI, 6, .inl ln)), (ap, .inr (3, [.ref aj, .ref apc, .ref app, .int (nI t)]))] s.heap.size = A at hD ⊢
  have hA : ∀ q : Nat, s.heap.size ≤ q → A q := fun q h => by rw [← hAe]; exact Or.inr h
  have hS : va_S A s.heap s.heap [] := va_S.rf
  have hl := lv_entry ([.ref ax, .int x]) (n := 3) (Nat.le_of_ble_eq_true rfl)
  rw [lg_entry_eq]
  generalize (lg_sl ([.ref ax, .int x]) ++ List.replicate (3 - (lg_sl ([.ref ax, .int x])).length) Slot.unset).toArray = ls at hl ⊢
  have hl : lv_has ls 3 [(0, .ref ax), (1, .int x)] := hl
  refine lv_iload_n hx hb dX3_file_0 rfl (lv_at hl 1 rfl) ?_
  refine lv_if_lt (tgt := 11) hx hb dX3_file_1 (by decide) (fun c_1 => ?_) (fun c_1 => ?_)
  · refine lv_bipush (v := (-4)) hx hb dX3_file_11 (by decide) ?_
    have hbd : x < 0 ∨ ¬ x ≤ 2000 := by first | exact Or.inl c_1 | exact Or.inr c_8
    have hP9 := hP.sub (ws' := [(ax, .inr (4, [.ref aj, .ref ap, .ref ar, .ref arow, .ref ak, .int ed, .int dn, .int cp, .int ct])), (aj, .inr (2, [.ref af, .ref al, .int (nI c), .int (nI f)])), (al, .inl (cI, 6, .inl ln)), (ap, .inr (3, [.ref aj, .ref apc, .ref app, .int (nI t)]))]) [0, 1, 2, 3] rfl
    have hD9 := hD.sub (ws' := [(ax, .inr (4, [.ref aj, .ref ap, .ref ar, .ref arow, .ref ak, .int ed, .int dn, .int cp, .int ct])), (aj, .inr (2, [.ref af, .ref al, .int (nI c), .int (nI f)])), (al, .inl (cI, 6, .inl ln)), (ap, .inr (3, [.ref aj, .ref apc, .ref app, .int (nI t)]))]) [0, 1, 2, 3] (by decide) rfl
    refine W.widen (k := 0) (n := 0) (Nat.le_of_ble_eq_true rfl) (Nat.le_of_ble_eq_true rfl) ?_
    exact W.iret (v := (-4)) hx hb hr (fun t9 ht9 hW9 => ⟨⟨(-4), (f, ln), rfl, ⟨by unfold fi_r; rw [if_pos hbd], by unfold fi_f; rw [if_neg (fun q => q.1 hbd)], by unfold fi_l; rw [if_neg (fun q => q.1 hbd)]⟩, by rw [ht9]; exact hP9, va_K.moved hW9.alike hK, hD9⟩, hS.F ht9⟩) hS.2.2 dX3_file_13
  · refine lv_iload_n hx hb dX3_file_4 rfl (lv_at hl 1 rfl) ?_
    refine lv_sipush (v := 2000) hx hb dX3_file_5 (by decide) ?_
    refine lv_icmp_le (tgt := 14) hx hb dX3_file_8 (by decide) (fun c_8 => ?_) (fun c_8 => ?_)
    · have hbd : ¬ (x < 0 ∨ ¬ x ≤ 2000) := fun q => q.elim c_1 (fun q => q c_8)
      refine lv_aload_n hx hb dX3_file_14 rfl (lv_at hl 0 rfl) ?_
      refine ct_calli (wr := [(aj, .inr (2, [.ref af, .ref al, .int (nI c), .int (nI f)])), (al, .inl (cI, 6, .inl ln))]) (rest := []) hP hD hS hA [0, 3] [1, 2] (va_runV (C := RX3) (As := []) ⟨hx, hb, hml, hown, hts⟩ (c_X3_isSetupOver l D cI cL cZ ax aj ap ar arow ak ed dn cp ct apc app t _ ) (cwV 0 hts gX3_file_X3_isSetupOver rfl rfl rfl (by decide +kernel) ⟨Nat.le_of_ble_eq_true rfl, Nat.le_of_ble_eq_true rfl⟩) (ct_preV (q0 := 0) (ci := 4) hK hP hD [0, 3] (by decide) rfl rfl rfl rfl rfl) rfl rfl hl.1 rfl (lv_room (Nat.le_of_ble_eq_true rfl)) dX3_file_15 ⟨Nat.le_of_ble_eq_true rfl, Nat.le_of_ble_eq_true rfl⟩) rfl rfl (by decide) (by decide) (fun r_1 u H locs hw hP hD hS => ?_)
      try dsimp only at hw
      obtain rfl := hw
      have hP : va_P D vwCl [(aj, .inr (2, [.ref af, .ref al, .int (nI c), .int (nI f)])), (al, .inl (cI, 6, .inl ln)), (ax, .inr (4, [.ref aj, .ref ap, .ref ar, .ref arow, .ref ak, .int ed, .int dn, .int cp, .int ct])), (ap, .inr (3, [.ref aj, .ref apc, .ref app, .int (nI t)]))] H := hP
      have hD : va_D A [(aj, .inr (2, [.ref af, .ref al, .int (nI c), .int (nI f)])), (al, .inl (cI, 6, .inl ln)), (ax, .inr (4, [.ref aj, .ref ap, .ref ar, .ref arow, .ref ak, .int ed, .int dn, .int cp, .int ct])), (ap, .inr (3, [.ref aj, .ref apc, .ref app, .int (nI t)]))] := hD
      refine lv_if_eq (tgt := 24) hx hb dX3_file_18 (by decide) (fun c_18 => ?_) (fun c_18 => ?_)
      · have h0 := cr_if01 _ c_18
        refine lv_aload_n hx hb dX3_file_24 rfl (lv_at hl 0 rfl) ?_
        refine va_get (D := D) (ci := 4) (v := .ref aj) (C := RX3) (T := TX3) (N := 9) hx hb hts iX3 hown hK hP 2 rfl rfl 0 (by decide) wf10 (fun _ h9 => h9) rfl dX3_file_25 ?_
        refine va_get (D := D) (ci := 2) (v := .int (nI f)) (C := RX1) (T := TX1) (N := 4) hx hb hts iX1 hown hK hP 0 rfl rfl 3 (by decide) wf66 (fun _ h9 => h9) rfl dX3_file_28 ?_
        refine lv_bipush (v := 6) hx hb dX3_file_31 (by decide) ?_
        refine lv_icmp_lt (tgt := 38) hx hb dX3_file_33 (by decide) (fun c_33 => ?_) (fun c_33 => ?_)
        · have h1 : f < 6 := (nI_ltI (a := f) (b := 6) (by omega) (by omega)).mp c_33
          refine lv_aload_n hx hb dX3_file_38 rfl (lv_at hl 0 rfl) ?_
          refine va_get (D := D) (ci := 4) (v := .ref aj) (C := RX3) (T := TX3) (N := 9) hx hb hts iX3 hown hK hP 2 rfl rfl 0 (by decide) wf10 (fun _ h9 => h9) rfl dX3_file_39 ?_
          refine va_get (D := D) (ci := 2) (v := .int (nI f)) (C := RX1) (T := TX1) (N := 4) hx hb hts iX1 hown hK hP 0 rfl rfl 3 (by decide) wf66 (fun _ h9 => h9) rfl dX3_file_42 ?_
          refine lv_istore_n (lv' := [(2, .int (nI f)), (0, .ref ax), (1, .int x)]) hx hb dX3_file_45 rfl hl (by decide) rfl (fun ls hl => ?_)
          refine lv_aload_n hx hb dX3_file_46 rfl (lv_at hl 1 rfl) ?_
          refine va_get (D := D) (ci := 4) (v := .ref aj) (C := RX3) (T := TX3) (N := 9) hx hb hts iX3 hown hK hP 2 rfl rfl 0 (by decide) wf10 (fun _ h9 => h9) rfl dX3_file_47 ?_
          refine va_get (D := D) (ci := 2) (v := .ref al) (C := RX1) (T := TX1) (N := 4) hx hb hts iX1 hown hK hP 0 rfl rfl 1 (by decide) wf69 (fun _ h9 => h9) rfl dX3_file_50 ?_
          refine lv_iload_n hx hb dX3_file_53 rfl (lv_at hl 0 rfl) ?_
          refine lv_iload_n hx hb dX3_file_54 rfl (lv_at hl 2 rfl) ?_
          refine ct_iast (k := f) hx hb hK hP hD hS 1 0 rfl rfl (by omega) (by decide) dX3_file_55 (fun H locs hP hD hS => ?_)
          have hP : va_P D vwCl [(aj, .inr (2, [.ref af, .ref al, .int (nI c), .int (nI f)])), (al, .inl (cI, 6, .inl (upd ln f x))), (ax, .inr (4, [.ref aj, .ref ap, .ref ar, .ref arow, .ref ak, .int ed, .int dn, .int cp, .int ct])), (ap, .inr (3, [.ref aj, .ref apc, .ref app, .int (nI t)]))] H := hP
          have hD : va_D A [(aj, .inr (2, [.ref af, .ref al, .int (nI c), .int (nI f)])), (al, .inl (cI, 6, .inl (upd ln f x))), (ax, .inr (4, [.ref aj, .ref ap, .ref ar, .ref arow, .ref ak, .int ed, .int dn, .int cp, .int ct])), (ap, .inr (3, [.ref aj, .ref apc, .ref app, .int (nI t)]))] := hD
          refine lv_aload_n hx hb dX3_file_56 rfl (lv_at hl 1 rfl) ?_
          refine va_get (D := D) (ci := 4) (v := .ref aj) (C := RX3) (T := TX3) (N := 9) hx hb hts iX3 hown hK hP 2 rfl rfl 0 (by decide) wf10 (fun _ h9 => h9) rfl dX3_file_57 ?_
          refine lv_dup hx hb dX3_file_60 rfl ?_
          refine va_get (D := D) (ci := 2) (v := .int (nI f)) (C := RX1) (T := TX1) (N := 4) hx hb hts iX1 hown hK hP 0 rfl rfl 3 (by decide) wf66 (fun _ h9 => h9) rfl dX3_file_61 ?_
          refine lv_iconst (v := 1) hx hb dX3_file_64 (by decide) ?_
          refine lv_iadd hx hb dX3_file_65 ?_
          refine ct_topi (y := (nI (f + 1))) (nI_1 f) ?_
          refine va_put (D := D) (ci := 2) (v := .int (nI (f + 1))) (ty := .int) (C := RX1) (T := TX1) (N := 4) hx hb hts iX1 tyX1 tyX1_ok nmX1 hown hK hP hD hS 0 rfl rfl 3 (by decide) wf66 (fun _ h9 => h9) rfl (by decide +kernel) rfl rfl (Nat.le_of_ble_eq_true rfl) dX3_file_66 (fun H locs hP hD hS => ?_)
          have hP : va_P D vwCl [(aj, .inr (2, [.ref af, .ref al, .int (nI c), .int (nI (f + 1))])), (al, .inl (cI, 6, .inl (upd ln f x))), (ax, .inr (4, [.ref aj, .ref ap, .ref ar, .ref arow, .ref ak, .int ed, .int dn, .int cp, .int ct])), (ap, .inr (3, [.ref aj, .ref apc, .ref app, .int (nI t)]))] H := hP
          have hD : va_D A [(aj, .inr (2, [.ref af, .ref al, .int (nI c), .int (nI (f + 1))])), (al, .inl (cI, 6, .inl (upd ln f x))), (ax, .inr (4, [.ref aj, .ref ap, .ref ar, .ref arow, .ref ak, .int ed, .int dn, .int cp, .int ct])), (ap, .inr (3, [.ref aj, .ref apc, .ref app, .int (nI t)]))] := hD
          refine lv_iload_n hx hb dX3_file_69 rfl (lv_at hl 0 rfl) ?_
          have hP9 := hP.sub (ws' := [(ax, .inr (4, [.ref aj, .ref ap, .ref ar, .ref arow, .ref ak, .int ed, .int dn, .int cp, .int ct])), (aj, .inr (2, [.ref af, .ref al, .int (nI c), .int (nI (f + 1))])), (al, .inl (cI, 6, .inl (upd ln f x))), (ap, .inr (3, [.ref aj, .ref apc, .ref app, .int (nI t)]))]) [2, 0, 1, 3] rfl
          have hD9 := hD.sub (ws' := [(ax, .inr (4, [.ref aj, .ref ap, .ref ar, .ref arow, .ref ak, .int ed, .int dn, .int cp, .int ct])), (aj, .inr (2, [.ref af, .ref al, .int (nI c), .int (nI (f + 1))])), (al, .inl (cI, 6, .inl (upd ln f x))), (ap, .inr (3, [.ref aj, .ref apc, .ref app, .int (nI t)]))]) [2, 0, 1, 3] (by decide) rfl
          refine W.widen (k := 0) (n := 0) (Nat.le_of_ble_eq_true rfl) (Nat.le_of_ble_eq_true rfl) ?_
          exact W.iret (v := (nI f)) hx hb hr (fun t9 ht9 hW9 => ⟨⟨(nI f), ((f + 1), (upd ln f x)), rfl, ⟨by unfold fi_r; rw [if_neg hbd, if_pos h0, if_pos c_33], by unfold fi_f; rw [if_pos ⟨hbd, h0, h1⟩], by unfold fi_l; rw [if_pos ⟨hbd, h0, h1⟩]⟩, by rw [ht9]; exact hP9, va_K.moved hW9.alike hK, hD9⟩, hS.F ht9⟩) hS.2.2 dX3_file_70
        · have h1 : ¬ f < 6 := fun q => c_33 (nI_lt (a := f) (b := 6) q (by omega))
          refine lv_iconst (v := (-1)) hx hb dX3_file_36 (by decide) ?_
          have hP9 := hP.sub (ws' := [(ax, .inr (4, [.ref aj, .ref ap, .ref ar, .ref arow, .ref ak, .int ed, .int dn, .int cp, .int ct])), (aj, .inr (2, [.ref af, .ref al, .int (nI c), .int (nI f)])), (al, .inl (cI, 6, .inl ln)), (ap, .inr (3, [.ref aj, .ref apc, .ref app, .int (nI t)]))]) [2, 0, 1, 3] rfl
          have hD9 := hD.sub (ws' := [(ax, .inr (4, [.ref aj, .ref ap, .ref ar, .ref arow, .ref ak, .int ed, .int dn, .int cp, .int ct])), (aj, .inr (2, [.ref af, .ref al, .int (nI c), .int (nI f)])), (al, .inl (cI, 6, .inl ln)), (ap, .inr (3, [.ref aj, .ref apc, .ref app, .int (nI t)]))]) [2, 0, 1, 3] (by decide) rfl
          refine W.widen (k := 0) (n := 0) (Nat.le_of_ble_eq_true rfl) (Nat.le_of_ble_eq_true rfl) ?_
          exact W.iret (v := (-1)) hx hb hr (fun t9 ht9 hW9 => ⟨⟨(-1), (f, ln), rfl, ⟨by unfold fi_r; rw [if_neg hbd, if_pos h0, if_neg c_33], by unfold fi_f; rw [if_neg (fun q => h1 q.2.2)], by unfold fi_l; rw [if_neg (fun q => h1 q.2.2)]⟩, by rw [ht9]; exact hP9, va_K.moved hW9.alike hK, hD9⟩, hS.F ht9⟩) hS.2.2 dX3_file_37
      · have h0 := cr_if01n _ c_18
        refine lv_bipush (v := (-5)) hx hb dX3_file_21 (by decide) ?_
        have hP9 := hP.sub (ws' := [(ax, .inr (4, [.ref aj, .ref ap, .ref ar, .ref arow, .ref ak, .int ed, .int dn, .int cp, .int ct])), (aj, .inr (2, [.ref af, .ref al, .int (nI c), .int (nI f)])), (al, .inl (cI, 6, .inl ln)), (ap, .inr (3, [.ref aj, .ref apc, .ref app, .int (nI t)]))]) [2, 0, 1, 3] rfl
        have hD9 := hD.sub (ws' := [(ax, .inr (4, [.ref aj, .ref ap, .ref ar, .ref arow, .ref ak, .int ed, .int dn, .int cp, .int ct])), (aj, .inr (2, [.ref af, .ref al, .int (nI c), .int (nI f)])), (al, .inl (cI, 6, .inl ln)), (ap, .inr (3, [.ref aj, .ref apc, .ref app, .int (nI t)]))]) [2, 0, 1, 3] (by decide) rfl
        refine W.widen (k := 0) (n := 0) (Nat.le_of_ble_eq_true rfl) (Nat.le_of_ble_eq_true rfl) ?_
        exact W.iret (v := (-5)) hx hb hr (fun t9 ht9 hW9 => ⟨⟨(-5), (f, ln), rfl, ⟨by unfold fi_r; rw [if_neg hbd, if_neg h0], by unfold fi_f; rw [if_neg (fun q => h0 q.2.1)], by unfold fi_l; rw [if_neg (fun q => h0 q.2.1)]⟩, by rw [ht9]; exact hP9, va_K.moved hW9.alike hK, hD9⟩, hS.F ht9⟩) hS.2.2 dX3_file_23
    · refine lv_bipush (v := (-4)) hx hb dX3_file_11 (by decide) ?_
      have hbd : x < 0 ∨ ¬ x ≤ 2000 := by first | exact Or.inl c_1 | exact Or.inr c_8
      have hP9 := hP.sub (ws' := [(ax, .inr (4, [.ref aj, .ref ap, .ref ar, .ref arow, .ref ak, .int ed, .int dn, .int cp, .int ct])), (aj, .inr (2, [.ref af, .ref al, .int (nI c), .int (nI f)])), (al, .inl (cI, 6, .inl ln)), (ap, .inr (3, [.ref aj, .ref apc, .ref app, .int (nI t)]))]) [0, 1, 2, 3] rfl
      have hD9 := hD.sub (ws' := [(ax, .inr (4, [.ref aj, .ref ap, .ref ar, .ref arow, .ref ak, .int ed, .int dn, .int cp, .int ct])), (aj, .inr (2, [.ref af, .ref al, .int (nI c), .int (nI f)])), (al, .inl (cI, 6, .inl ln)), (ap, .inr (3, [.ref aj, .ref apc, .ref app, .int (nI t)]))]) [0, 1, 2, 3] (by decide) rfl
      refine W.widen (k := 0) (n := 0) (Nat.le_of_ble_eq_true rfl) (Nat.le_of_ble_eq_true rfl) ?_
      exact W.iret (v := (-4)) hx hb hr (fun t9 ht9 hW9 => ⟨⟨(-4), (f, ln), rfl, ⟨by unfold fi_r; rw [if_pos hbd], by unfold fi_f; rw [if_neg (fun q => q.1 hbd)], by unfold fi_l; rw [if_neg (fun q => q.1 hbd)]⟩, by rw [ht9]; exact hP9, va_K.moved hW9.alike hK, hD9⟩, hS.F ht9⟩) hS.2.2 dX3_file_13
abbrev rm_X3_step : Room := { frames := 2, cells := 0, slots := 0, locals := 47 }
abbrev qc_X3_step (D : va_G) (cI cL cZ : ClassId) (ax : Nat) (aj : Nat) (ap : Nat) (ar : Nat) (arow : Nat) (ak : Nat) (ed : Int32) (dn : Int32) (cp : Int32) (ct : Int32) (apc : Nat) (app : Nat) (cs : Nat → Int64) (ps : Nat → Int32) (af : Nat) (al : Nat) (c : Nat) (f : Nat) (t : Nat) (fv : Nat → Int64) (ln : Nat → Int32) (ro : Nat → Int64) (x : Int32) (A : Nat → Prop) : Array Value → State → Outcome → State → Prop := va_Qi (fun (r : Int32) (u : Nat × (Nat → Int64) × (Nat → Int32) × (Nat → Int64)) => ((x < 0 ∨ ¬ x ≤ 1000 → r = -4) ∧ (¬ (x < 0 ∨ ¬ x ≤ 1000) → ¬ dn = 0 → r = -5) ∧ (¬ (x < 0 ∨ ¬ x ≤ 1000) → dn = 0 → r = nI (u.1 - t)) ∧ (u.1, u.2.1, u.2.2.1, u.2.2.2) = (if ¬ (x < 0 ∨ ¬ x ≤ 1000) ∧ dn = 0 then srun c f ln x.toNatClampNeg (t, cs, ps, ro) else (t, cs, ps, ro)))) (ct_B D vwCl [(cI, .int), (cL, .long), (cZ, .boolean)] A (fun (u : Nat × (Nat → Int64) × (Nat → Int32) × (Nat → Int64)) => [(ax, .inr (4, [.ref aj, .ref ap, .ref ar, .ref arow, .ref ak, .int ed, .int dn, .int cp, .int ct])), (ap, .inr (3, [.ref aj, .ref apc, .ref app, .int (nI u.1)])), (apc, .inl (cL, 12, .inr (.inl u.2.1))), (app, .inl (cI, 6, .inl u.2.2.1)), (aj, .inr (2, [.ref af, .ref al, .int (nI c), .int (nI f)])), (af, .inl (cL, 12, .inr (.inl fv))), (al, .inl (cI, 6, .inl ln)), (arow, .inl (cL, 5000, .inr (.inl u.2.2.2)))])) A
set_option maxHeartbeats 4000000 in
set_option maxRecDepth 100000 in
theorem c_X3_step (l : Launch) (D : va_G) (cI cL cZ : ClassId) (ax : Nat) (aj : Nat) (ap : Nat) (ar : Nat) (arow : Nat) (ak : Nat) (ed : Int32) (dn : Int32) (cp : Int32) (ct : Int32) (apc : Nat) (app : Nat) (cs : Nat → Int64) (ps : Nat → Int32) (af : Nat) (al : Nat) (c : Nat) (f : Nat) (t : Nat) (fv : Nat → Int64) (ln : Nat → Int32) (ro : Nat → Int64) (x : Int32) (sz : Nat) (hc : c ≤ 12) (hf : f ≤ 6) (ht : t ≤ 5000) : Met l yX3_step wsX3_step rm_X3_step (va_Pc [.ref ax, .int x] (ct_P D vwCl [(cI, .int), (cL, .long), (cZ, .boolean)] [(ax, .inr (4, [.ref aj, .ref ap, .ref ar, .ref arow, .ref ak, .int ed, .int dn, .int cp, .int ct])), (ap, .inr (3, [.ref aj, .ref apc, .ref app, .int (nI t)])), (apc, .inl (cL, 12, .inr (.inl cs))), (app, .inl (cI, 6, .inl ps)), (aj, .inr (2, [.ref af, .ref al, .int (nI c), .int (nI f)])), (af, .inl (cL, 12, .inr (.inl fv))), (al, .inl (cI, 6, .inl ln)), (arow, .inl (cL, 5000, .inr (.inl ro)))] sz)) (qc_X3_step D cI cL cZ ax aj ap ar arow ak ed dn cp ct apc app cs ps af al c f t fv ln ro x (va_A [(ax, .inr (4, [.ref aj, .ref ap, .ref ar, .ref arow, .ref ak, .int ed, .int dn, .int cp, .int ct])), (ap, .inr (3, [.ref aj, .ref apc, .ref app, .int (nI t)])), (apc, .inl (cL, 12, .inr (.inl cs))), (app, .inl (cI, 6, .inl ps)), (aj, .inr (2, [.ref af, .ref al, .int (nI c), .int (nI f)])), (af, .inl (cL, 12, .inr (.inl fv))), (al, .inl (cI, 6, .inl ln)), (arow, .inl (cL, 5000, .inr (.inl ro)))] sz)) 0 0 (va_A [(ax, .inr (4, [.ref aj, .ref ap, .ref ar, .ref arow, .ref ak, .int ed, .int dn, .int cp, .int ct])), (ap, .inr (3, [.ref aj, .ref apc, .ref app, .int (nI t)])), (apc, .inl (cL, 12, .inr (.inl cs))), (app, .inl (cI, 6, .inl ps)), (aj, .inr (2, [.ref af, .ref al, .int (nI c), .int (nI f)])), (af, .inl (cL, 12, .inr (.inl fv))), (al, .inl (cI, 6, .inl ln)), (arow, .inl (cL, 5000, .inr (.inl ro)))] sz) := by
  refine Met.ofW (cc := cX3_step) (maxL := 4) (ret := (some .int)) (by decide) rfl ?_
  intro p e s m args below meth cd s₁ B hml hv
  obtain ⟨rfl, hsz, hP, hK, hD0⟩ := hv
  have hx := B.exec
  have hb := B.bytes
  have hr := B.returns
  have hts := atoms_spec (ws := wsX3_step) B.pre
  have iX3 : ∀ w ∈ wsX30, w ∈ wsX3_step := by decide +kernel
  have wf21 := hts (.fieldLink RX3 21 "CheckRestart" "progress" "LCheckRestart$Progress;") (by decide +kernel)
  have iX2 : ∀ w ∈ wsX20, w ∈ wsX3_step := by decide +kernel
  have wf73 := hts (.fieldLink RX3 73 "CheckRestart$Progress" "units" "I") (by decide +kernel)
  have wf28 := hts (.fieldLink RX3 28 "CheckRestart" "rows" "[J") (by decide +kernel)
  have wf43 := hts (.fieldLink RX3 43 "CheckRestart" "down" "Z") (by decide +kernel)
  have hown : s.vm.findClass RX3 = some m.cls := findClass_of_methodNamed B.named
  have hlocks := B.notSynchronized
  subst hsz
  have hD := hD0.self (sz := s.heap.size)
  generalize hAe : va_A [(ax, .inr (4, [.ref aj, .ref ap, .ref ar, .ref arow, .ref ak, .int ed, .int dn, .int cp, .int ct])), (ap, .inr (3, [.ref aj, .ref apc, .ref app, .int (nI t)])), (apc, .inl (cL, 12, .inr (.inl cs))), (app, .inl (cI, 6, .inl ps)), (aj, .inr (2, [.ref af, .ref al, .int (nI c), .int (nI f)])), (af, .inl (cL, 12, .inr (.inl fv))), (al, .inl (cI, 6, .inl ln)), (arow, .inl (cL, 5000, .inr (.inl ro)))] s.heap.size = A at hD ⊢
  have hA : ∀ q : Nat, s.heap.size ≤ q → A q := fun q h => by rw [← hAe]; exact Or.inr h
  have hS : va_S A s.heap s.heap [] := va_S.rf
  have hl := lv_entry ([.ref ax, .int x]) (n := 4) (Nat.le_of_ble_eq_true rfl)
  rw [lg_entry_eq]
  generalize (lg_sl ([.ref ax, .int x]) ++ List.replicate (4 - (lg_sl ([.ref ax, .int x])).length) Slot.unset).toArray = ls at hl ⊢
  have hl : lv_has ls 4 [(0, .ref ax), (1, .int x)] := hl
  have key26 : ∀ (n : Nat) (N : Nat) (d : Nat) (t2 : Nat) (cs2 : Nat → Int64) (ps2 : Nat → Int32) (ro2 : Nat → Int64), (x = nI N) → (N ≤ 1000) → (¬ (x < 0 ∨ ¬ x ≤ 1000)) → (dn = 0) → (d ≤ N) → (N + 1 ≤ d + n) → (t2 = t + d) → (t2 ≤ 5000) → (srun c f ln (N - d) (t2, cs2, ps2, ro2) = srun c f ln N (t, cs, ps, ro)) → ∀ (H : Heap) (locs : List Loc), va_P D vwCl [(ax, .inr (4, [.ref aj, .ref ap, .ref ar, .ref arow, .ref ak, .int ed, .int dn, .int cp, .int ct])), (ap, .inr (3, [.ref aj, .ref apc, .ref app, .int (nI t2)])), (apc, .inl (cL, 12, .inr (.inl cs2))), (app, .inl (cI, 6, .inl ps2)), (aj, .inr (2, [.ref af, .ref al, .int (nI c), .int (nI f)])), (af, .inl (cL, 12, .inr (.inl fv))), (al, .inl (cI, 6, .inl ln)), (arow, .inl (cL, 5000, .inr (.inl ro2)))] H → va_D A [(ax, .inr (4, [.ref aj, .ref ap, .ref ar, .ref arow, .ref ak, .int ed, .int dn, .int cp, .int ct])), (ap, .inr (3, [.ref aj, .ref apc, .ref app, .int (nI t2)])), (apc, .inl (cL, 12, .inr (.inl cs2))), (app, .inl (cI, 6, .inl ps2)), (aj, .inr (2, [.ref af, .ref al, .int (nI c), .int (nI f)])), (af, .inl (cL, 12, .inr (.inl fv))), (al, .inl (cI, 6, .inl ln)), (arow, .inl (cL, 5000, .inr (.inl ro2)))] → va_S A s.heap H locs → ∀ (ls : Array Slot), lv_has ls 4 [(2, .int (nI d)), (0, .ref ax), (1, .int x)] → W p l e (headSpec wsX3_step rm_X3_step).room s m ([.ref ax, .int x] : List Value).toArray below meth cd H locs 0 0 (MQ below (qc_X3_step D cI cL cZ ax aj ap ar arow ak ed dn cp ct apc app cs ps af al c f t fv ln ro x A) ([.ref ax, .int x] : List Value).toArray s 0 0 A) (F0 m 26 ls []) := by
    intro n
    induction n with
    | zero => intro N d t2 cs2 ps2 ro2 hN hN1 hrg hdn hd hm ht2 ht3 hrun; exact absurd hm (by omega)
    | succ n ih =>
      intro N d t2 cs2 ps2 ro2 hN hN1 hrg hdn hd hm ht2 ht3 hrun H locs hP hD hS ls hl
      have hcl : x.toNatClampNeg = N := by rw [hN, nI_clamp (by omega)]
      refine lv_iload_n hx hb dX3_step_26 rfl (lv_at hl 0 rfl) ?_
      refine lv_iload_n hx hb dX3_step_27 rfl (lv_at hl 2 rfl) ?_
      refine ct_topi (y := (nI N)) (hN) ?_
      refine lv_icmp_ge (tgt := 81) hx hb dX3_step_28 (by decide) (fun c_28 => ?_) (fun c_28 => ?_)
      · have h1 : N ≤ d := (nI_leI (by omega) (by omega)).mp c_28
        have hfin : srun c f ln (N - d) (t2, cs2, ps2, ro2) = (t2, cs2, ps2, ro2) := by rw [show N - d = 0 by omega]; rfl
        refine lv_iload_n hx hb dX3_step_81 rfl (lv_at hl 0 rfl) ?_
        have hP9 := hP.sub (ws' := [(ax, .inr (4, [.ref aj, .ref ap, .ref ar, .ref arow, .ref ak, .int ed, .int dn, .int cp, .int ct])), (ap, .inr (3, [.ref aj, .ref apc, .ref app, .int (nI t2)])), (apc, .inl (cL, 12, .inr (.inl cs2))), (app, .inl (cI, 6, .inl ps2)), (aj, .inr (2, [.ref af, .ref al, .int (nI c), .int (nI f)])), (af, .inl (cL, 12, .inr (.inl fv))), (al, .inl (cI, 6, .inl ln)), (arow, .inl (cL, 5000, .inr (.inl ro2)))]) [0, 1, 2, 3, 4, 5, 6, 7] rfl
        have hD9 := hD.sub (ws' := [(ax, .inr (4, [.ref aj, .ref ap, .ref ar, .ref arow, .ref ak, .int ed, .int dn, .int cp, .int ct])), (ap, .inr (3, [.ref aj, .ref apc, .ref app, .int (nI t2)])), (apc, .inl (cL, 12, .inr (.inl cs2))), (app, .inl (cI, 6, .inl ps2)), (aj, .inr (2, [.ref af, .ref al, .int (nI c), .int (nI f)])), (af, .inl (cL, 12, .inr (.inl fv))), (al, .inl (cI, 6, .inl ln)), (arow, .inl (cL, 5000, .inr (.inl ro2)))]) [0, 1, 2, 3, 4, 5, 6, 7] (by decide) rfl
        refine W.widen (k := 0) (n := 0) (Nat.le_of_ble_eq_true rfl) (Nat.le_of_ble_eq_true rfl) ?_
        exact W.iret (v := (nI d)) hx hb hr (fun t9 ht9 hW9 => ⟨⟨(nI d), (t2, cs2, ps2, ro2), rfl, ⟨fun q => absurd q hrg, fun _ q => absurd hdn q, fun _ _ => by rw [ht2, Nat.add_sub_cancel_left], by rw [if_pos ⟨hrg, hdn⟩, hcl, ← hrun, hfin]⟩, by rw [ht9]; exact hP9, va_K.moved hW9.alike hK, hD9⟩, hS.F ht9⟩) hS.2.2 dX3_step_82
      · have h1 : ¬ N ≤ d := fun h => c_28 ((nI_leI (by omega) (by omega)).mpr h)
        refine lv_aload_n hx hb dX3_step_31 rfl (lv_at hl 1 rfl) ?_
        refine va_get (D := D) (ci := 4) (v := .ref ap) (C := RX3) (T := TX3) (N := 9) hx hb hts iX3 hown hK hP 0 rfl rfl 1 (by decide) wf21 (fun _ h9 => h9) rfl dX3_step_32 ?_
        refine va_get (D := D) (ci := 3) (v := .int (nI t2)) (C := RX2) (T := TX2) (N := 4) hx hb hts iX2 hown hK hP 1 rfl rfl 3 (by decide) wf73 (fun _ h9 => h9) rfl dX3_step_35 ?_
        refine lv_sipush (v := 5000) hx hb dX3_step_38 (by decide) ?_
        refine lv_icmp_ge (tgt := 81) hx hb dX3_step_41 (by decide) (fun c_41 => ?_) (fun c_41 => ?_)
        · have h2 : 5000 ≤ t2 := (nI_leI (a := 5000) (b := t2) (by omega) (by omega)).mp c_41
          have hfin := srun_stop (n := N - d) (c := c) (f := f) (ln := ln) (s := (t2, cs2, ps2, ro2)) (fun q => absurd q.1 (Nat.not_lt.mpr h2))
          refine lv_iload_n hx hb dX3_step_81 rfl (lv_at hl 0 rfl) ?_
          have hP9 := hP.sub (ws' := [(ax, .inr (4, [.ref aj, .ref ap, .ref ar, .ref arow, .ref ak, .int ed, .int dn, .int cp, .int ct])), (ap, .inr (3, [.ref aj, .ref apc, .ref app, .int (nI t2)])), (apc, .inl (cL, 12, .inr (.inl cs2))), (app, .inl (cI, 6, .inl ps2)), (aj, .inr (2, [.ref af, .ref al, .int (nI c), .int (nI f)])), (af, .inl (cL, 12, .inr (.inl fv))), (al, .inl (cI, 6, .inl ln)), (arow, .inl (cL, 5000, .inr (.inl ro2)))]) [0, 1, 2, 3, 4, 5, 6, 7] rfl
          have hD9 := hD.sub (ws' := [(ax, .inr (4, [.ref aj, .ref ap, .ref ar, .ref arow, .ref ak, .int ed, .int dn, .int cp, .int ct])), (ap, .inr (3, [.ref aj, .ref apc, .ref app, .int (nI t2)])), (apc, .inl (cL, 12, .inr (.inl cs2))), (app, .inl (cI, 6, .inl ps2)), (aj, .inr (2, [.ref af, .ref al, .int (nI c), .int (nI f)])), (af, .inl (cL, 12, .inr (.inl fv))), (al, .inl (cI, 6, .inl ln)), (arow, .inl (cL, 5000, .inr (.inl ro2)))]) [0, 1, 2, 3, 4, 5, 6, 7] (by decide) rfl
          refine W.widen (k := 0) (n := 0) (Nat.le_of_ble_eq_true rfl) (Nat.le_of_ble_eq_true rfl) ?_
          exact W.iret (v := (nI d)) hx hb hr (fun t9 ht9 hW9 => ⟨⟨(nI d), (t2, cs2, ps2, ro2), rfl, ⟨fun q => absurd q hrg, fun _ q => absurd hdn q, fun _ _ => by rw [ht2, Nat.add_sub_cancel_left], by rw [if_pos ⟨hrg, hdn⟩, hcl, ← hrun, hfin]⟩, by rw [ht9]; exact hP9, va_K.moved hW9.alike hK, hD9⟩, hS.F ht9⟩) hS.2.2 dX3_step_82
        · have h2 : ¬ 5000 ≤ t2 := fun h => c_41 ((nI_leI (a := 5000) (b := t2) (by omega) (by omega)).mpr h)
          refine lv_aload_n hx hb dX3_step_44 rfl (lv_at hl 1 rfl) ?_
          refine va_get (D := D) (ci := 4) (v := .ref ap) (C := RX3) (T := TX3) (N := 9) hx hb hts iX3 hown hK hP 0 rfl rfl 1 (by decide) wf21 (fun _ h9 => h9) rfl dX3_step_45 ?_
          refine ct_calli (wr := [(ax, .inr (4, [.ref aj, .ref ap, .ref ar, .ref arow, .ref ak, .int ed, .int dn, .int cp, .int ct])), (arow, .inl (cL, 5000, .inr (.inl ro2)))]) (rest := []) hP hD hS hA [1, 2, 3, 4, 5, 6] [0, 7] (va_runV (C := RX2) (As := []) ⟨hx, hb, hml, hown, hts⟩ (c_X2_isEnded l D cI cL cZ ap apc app cs2 ps2 aj af al c f fv ln (nI t2) _ (by omega)) (cwV 0 hts gX3_step_X2_isEnded rfl rfl rfl (by decide +kernel) ⟨Nat.le_of_ble_eq_true rfl, Nat.le_of_ble_eq_true rfl⟩) (ct_preV (q0 := 0) (ci := 3) hK hP hD [1, 2, 3, 4, 5, 6] (by decide) rfl rfl rfl rfl rfl) rfl rfl hl.1 rfl (lv_room (Nat.le_of_ble_eq_true rfl)) dX3_step_48 ⟨Nat.le_of_ble_eq_true rfl, Nat.le_of_ble_eq_true rfl⟩) rfl rfl (by decide) (by decide) (fun r_1 u H locs hw hP hD hS => ?_)
          try dsimp only at hw
          obtain rfl := hw
          have hP : va_P D vwCl [(ax, .inr (4, [.ref aj, .ref ap, .ref ar, .ref arow, .ref ak, .int ed, .int dn, .int cp, .int ct])), (arow, .inl (cL, 5000, .inr (.inl ro2))), (ap, .inr (3, [.ref aj, .ref apc, .ref app, .int (nI t2)])), (apc, .inl (cL, 12, .inr (.inl cs2))), (app, .inl (cI, 6, .inl ps2)), (aj, .inr (2, [.ref af, .ref al, .int (nI c), .int (nI f)])), (af, .inl (cL, 12, .inr (.inl fv))), (al, .inl (cI, 6, .inl ln))] H := hP
          have hD : va_D A [(ax, .inr (4, [.ref aj, .ref ap, .ref ar, .ref arow, .ref ak, .int ed, .int dn, .int cp, .int ct])), (arow, .inl (cL, 5000, .inr (.inl ro2))), (ap, .inr (3, [.ref aj, .ref apc, .ref app, .int (nI t2)])), (apc, .inl (cL, 12, .inr (.inl cs2))), (app, .inl (cI, 6, .inl ps2)), (aj, .inr (2, [.ref af, .ref al, .int (nI c), .int (nI f)])), (af, .inl (cL, 12, .inr (.inl fv))), (al, .inl (cI, 6, .inl ln))] := hD
          refine lv_if_ne (tgt := 81) hx hb dX3_step_51 (by decide) (fun c_51 => ?_) (fun c_51 => ?_)
          · have hfin := srun_stop (n := N - d) (c := c) (f := f) (ln := ln) (s := (t2, cs2, ps2, ro2)) (fun q => c_51 q.2)
            refine lv_iload_n hx hb dX3_step_81 rfl (lv_at hl 0 rfl) ?_
            have hP9 := hP.sub (ws' := [(ax, .inr (4, [.ref aj, .ref ap, .ref ar, .ref arow, .ref ak, .int ed, .int dn, .int cp, .int ct])), (ap, .inr (3, [.ref aj, .ref apc, .ref app, .int (nI t2)])), (apc, .inl (cL, 12, .inr (.inl cs2))), (app, .inl (cI, 6, .inl ps2)), (aj, .inr (2, [.ref af, .ref al, .int (nI c), .int (nI f)])), (af, .inl (cL, 12, .inr (.inl fv))), (al, .inl (cI, 6, .inl ln)), (arow, .inl (cL, 5000, .inr (.inl ro2)))]) [0, 2, 3, 4, 5, 6, 7, 1] rfl
            have hD9 := hD.sub (ws' := [(ax, .inr (4, [.ref aj, .ref ap, .ref ar, .ref arow, .ref ak, .int ed, .int dn, .int cp, .int ct])), (ap, .inr (3, [.ref aj, .ref apc, .ref app, .int (nI t2)])), (apc, .inl (cL, 12, .inr (.inl cs2))), (app, .inl (cI, 6, .inl ps2)), (aj, .inr (2, [.ref af, .ref al, .int (nI c), .int (nI f)])), (af, .inl (cL, 12, .inr (.inl fv))), (al, .inl (cI, 6, .inl ln)), (arow, .inl (cL, 5000, .inr (.inl ro2)))]) [0, 2, 3, 4, 5, 6, 7, 1] (by decide) rfl
            refine W.widen (k := 0) (n := 0) (Nat.le_of_ble_eq_true rfl) (Nat.le_of_ble_eq_true rfl) ?_
            exact W.iret (v := (nI d)) hx hb hr (fun t9 ht9 hW9 => ⟨⟨(nI d), (t2, cs2, ps2, ro2), rfl, ⟨fun q => absurd q hrg, fun _ q => absurd hdn q, fun _ _ => by rw [ht2, Nat.add_sub_cancel_left], by rw [if_pos ⟨hrg, hdn⟩, hcl, ← hrun, hfin]⟩, by rw [ht9]; exact hP9, va_K.moved hW9.alike hK, hD9⟩, hS.F ht9⟩) hS.2.2 dX3_step_82
          · have hgo : t2 < 5000 ∧ ie_r f ps2 ln = 0 := ⟨by omega, c_51⟩
            refine lv_aload_n hx hb dX3_step_54 rfl (lv_at hl 1 rfl) ?_
            refine va_get (D := D) (ci := 4) (v := .ref ap) (C := RX3) (T := TX3) (N := 9) hx hb hts iX3 hown hK hP 0 rfl rfl 1 (by decide) wf21 (fun _ h9 => h9) rfl dX3_step_55 ?_
            refine va_get (D := D) (ci := 3) (v := .int (nI t2)) (C := RX2) (T := TX2) (N := 4) hx hb hts iX2 hown hK hP 2 rfl rfl 3 (by decide) wf73 (fun _ h9 => h9) rfl dX3_step_58 ?_
            refine lv_istore_n (lv' := [(3, .int (nI t2)), (2, .int (nI d)), (0, .ref ax), (1, .int x)]) hx hb dX3_step_61 rfl hl (by decide) rfl (fun ls hl => ?_)
            refine lv_aload_n hx hb dX3_step_62 rfl (lv_at hl 2 rfl) ?_
            refine va_get (D := D) (ci := 4) (v := .ref arow) (C := RX3) (T := TX3) (N := 9) hx hb hts iX3 hown hK hP 0 rfl rfl 3 (by decide) wf28 (fun _ h9 => h9) rfl dX3_step_63 ?_
            refine lv_iload_n hx hb dX3_step_66 rfl (lv_at hl 0 rfl) ?_
            refine lv_aload_n hx hb dX3_step_67 rfl (lv_at hl 2 rfl) ?_
            refine va_get (D := D) (ci := 4) (v := .ref ap) (C := RX3) (T := TX3) (N := 9) hx hb hts iX3 hown hK hP 0 rfl rfl 1 (by decide) wf21 (fun _ h9 => h9) rfl dX3_step_68 ?_
            refine ct_calll (wr := [(ax, .inr (4, [.ref aj, .ref ap, .ref ar, .ref arow, .ref ak, .int ed, .int dn, .int cp, .int ct])), (arow, .inl (cL, 5000, .inr (.inl ro2)))]) (rest := [.int (nI t2), .ref arow]) hP hD hS hA [2, 3, 4, 5, 6, 7] [0, 1] (va_runV (C := RX2) (As := []) ⟨hx, hb, hml, hown, hts⟩ (c_X2_doUnit l D cI cL cZ ap apc app cs2 ps2 aj af al c f fv ln t2 _ (by omega) (by omega) (by omega)) (cwV 0 hts gX3_step_X2_doUnit rfl rfl rfl (by decide +kernel) ⟨Nat.le_of_ble_eq_true rfl, Nat.le_of_ble_eq_true rfl⟩) (ct_preV (q0 := 0) (ci := 3) hK hP hD [2, 3, 4, 5, 6, 7] (by decide) rfl rfl rfl rfl rfl) rfl rfl hl.1 rfl (lv_room (Nat.le_of_ble_eq_true rfl)) dX3_step_71 ⟨Nat.le_of_ble_eq_true rfl, Nat.le_of_ble_eq_true rfl⟩) rfl rfl (by decide) (by decide) (fun r_2 u H locs hw hP hD hS => ?_)
            obtain ⟨cs1_3, ps1_4⟩ := u
            try dsimp only at hw
            obtain ⟨rfl, rfl, rfl⟩ := hw
            have hP : va_P D vwCl [(ax, .inr (4, [.ref aj, .ref ap, .ref ar, .ref arow, .ref ak, .int ed, .int dn, .int cp, .int ct])), (arow, .inl (cL, 5000, .inr (.inl ro2))), (ap, .inr (3, [.ref aj, .ref apc, .ref app, .int (nI (t2 + 1))])), (apc, .inl (cL, 12, .inr (.inl (du_c c t2 (rd_v t2 f ps2 ln) cs2)))), (app, .inl (cI, 6, .inl (rd_p t2 f ps2 ln))), (aj, .inr (2, [.ref af, .ref al, .int (nI c), .int (nI f)])), (af, .inl (cL, 12, .inr (.inl fv))), (al, .inl (cI, 6, .inl ln))] H := hP
            have hD : va_D A [(ax, .inr (4, [.ref aj, .ref ap, .ref ar, .ref arow, .ref ak, .int ed, .int dn, .int cp, .int ct])), (arow, .inl (cL, 5000, .inr (.inl ro2))), (ap, .inr (3, [.ref aj, .ref apc, .ref app, .int (nI (t2 + 1))])), (apc, .inl (cL, 12, .inr (.inl (du_c c t2 (rd_v t2 f ps2 ln) cs2)))), (app, .inl (cI, 6, .inl (rd_p t2 f ps2 ln))), (aj, .inr (2, [.ref af, .ref al, .int (nI c), .int (nI f)])), (af, .inl (cL, 12, .inr (.inl fv))), (al, .inl (cI, 6, .inl ln))] := hD
            refine ct_last (k := t2) hx hb hK hP hD hS 1 1 rfl rfl (by omega) (by decide) dX3_step_74 (fun H locs hP hD hS => ?_)
            have hP : va_P D vwCl [(ax, .inr (4, [.ref aj, .ref ap, .ref ar, .ref arow, .ref ak, .int ed, .int dn, .int cp, .int ct])), (arow, .inl (cL, 5000, .inr (.inl (vp_updL ro2 t2 (du_r c t2 (rd_v t2 f ps2 ln) cs2))))), (ap, .inr (3, [.ref aj, .ref apc, .ref app, .int (nI (t2 + 1))])), (apc, .inl (cL, 12, .inr (.inl (du_c c t2 (rd_v t2 f ps2 ln) cs2)))), (app, .inl (cI, 6, .inl (rd_p t2 f ps2 ln))), (aj, .inr (2, [.ref af, .ref al, .int (nI c), .int (nI f)])), (af, .inl (cL, 12, .inr (.inl fv))), (al, .inl (cI, 6, .inl ln))] H := hP
            have hD : va_D A [(ax, .inr (4, [.ref aj, .ref ap, .ref ar, .ref arow, .ref ak, .int ed, .int dn, .int cp, .int ct])), (arow, .inl (cL, 5000, .inr (.inl (vp_updL ro2 t2 (du_r c t2 (rd_v t2 f ps2 ln) cs2))))), (ap, .inr (3, [.ref aj, .ref apc, .ref app, .int (nI (t2 + 1))])), (apc, .inl (cL, 12, .inr (.inl (du_c c t2 (rd_v t2 f ps2 ln) cs2)))), (app, .inl (cI, 6, .inl (rd_p t2 f ps2 ln))), (aj, .inr (2, [.ref af, .ref al, .int (nI c), .int (nI f)])), (af, .inl (cL, 12, .inr (.inl fv))), (al, .inl (cI, 6, .inl ln))] := hD
            refine lv_iinc (v := (nI (d + 1))) (lv' := [(2, .int (nI (d + 1))), (3, .int (nI t2)), (0, .ref ax), (1, .int x)]) hx hb dX3_step_75 hl (k := 1) rfl (nI_1 d) (by decide) rfl (fun ls hl => ?_)
            refine lv_goto (tgt := 26) hx hb dX3_step_78 (by decide) ?_
            exact ih N ((d + 1)) (t2 + 1) (du_c c t2 (rd_v t2 f ps2 ln) cs2) (rd_p t2 f ps2 ln) (vp_updL ro2 t2 (du_r c t2 (rd_v t2 f ps2 ln) cs2)) hN hN1 hrg hdn (by omega) (by omega) (by omega) (by omega) ((srun_step (by omega) hgo).symm.trans hrun) _ _ (hP.sub [0, 2, 3, 4, 5, 6, 7, 1] rfl) (hD.sub [0, 2, 3, 4, 5, 6, 7, 1] (by decide) rfl) hS ls (lv_sub hl [0, 2, 3] rfl)
  refine lv_iload_n hx hb dX3_step_0 rfl (lv_at hl 1 rfl) ?_
  refine lv_if_lt (tgt := 11) hx hb dX3_step_1 (by decide) (fun c_1 => ?_) (fun c_1 => ?_)
  · refine lv_bipush (v := (-4)) hx hb dX3_step_11 (by decide) ?_
    have hbad : x < 0 ∨ ¬ x ≤ 1000 := by first | exact Or.inl c_1 | exact Or.inr c_8
    have hP9 := hP.sub (ws' := [(ax, .inr (4, [.ref aj, .ref ap, .ref ar, .ref arow, .ref ak, .int ed, .int dn, .int cp, .int ct])), (ap, .inr (3, [.ref aj, .ref apc, .ref app, .int (nI t)])), (apc, .inl (cL, 12, .inr (.inl cs))), (app, .inl (cI, 6, .inl ps)), (aj, .inr (2, [.ref af, .ref al, .int (nI c), .int (nI f)])), (af, .inl (cL, 12, .inr (.inl fv))), (al, .inl (cI, 6, .inl ln)), (arow, .inl (cL, 5000, .inr (.inl ro)))]) [0, 1, 2, 3, 4, 5, 6, 7] rfl
    have hD9 := hD.sub (ws' := [(ax, .inr (4, [.ref aj, .ref ap, .ref ar, .ref arow, .ref ak, .int ed, .int dn, .int cp, .int ct])), (ap, .inr (3, [.ref aj, .ref apc, .ref app, .int (nI t)])), (apc, .inl (cL, 12, .inr (.inl cs))), (app, .inl (cI, 6, .inl ps)), (aj, .inr (2, [.ref af, .ref al, .int (nI c), .int (nI f)])), (af, .inl (cL, 12, .inr (.inl fv))), (al, .inl (cI, 6, .inl ln)), (arow, .inl (cL, 5000, .inr (.inl ro)))]) [0, 1, 2, 3, 4, 5, 6, 7] (by decide) rfl
    refine W.widen (k := 0) (n := 0) (Nat.le_of_ble_eq_true rfl) (Nat.le_of_ble_eq_true rfl) ?_
    exact W.iret (v := (-4)) hx hb hr (fun t9 ht9 hW9 => ⟨⟨(-4), (t, cs, ps, ro), rfl, ⟨fun _ => rfl, fun q => absurd hbad q, fun q => absurd hbad q, by rw [if_neg (fun q => q.1 hbad)]⟩, by rw [ht9]; exact hP9, va_K.moved hW9.alike hK, hD9⟩, hS.F ht9⟩) hS.2.2 dX3_step_13
  · refine lv_iload_n hx hb dX3_step_4 rfl (lv_at hl 1 rfl) ?_
    refine lv_sipush (v := 1000) hx hb dX3_step_5 (by decide) ?_
    refine lv_icmp_le (tgt := 14) hx hb dX3_step_8 (by decide) (fun c_8 => ?_) (fun c_8 => ?_)
    · have hrg : ¬ (x < 0 ∨ ¬ x ≤ 1000) := fun q => q.elim c_1 (fun q => q c_8)
      refine lv_aload_n hx hb dX3_step_14 rfl (lv_at hl 0 rfl) ?_
      refine va_get (D := D) (ci := 4) (v := .int dn) (C := RX3) (T := TX3) (N := 9) hx hb hts iX3 hown hK hP 0 rfl rfl 6 (by decide) wf43 (fun _ h9 => h9) rfl dX3_step_15 ?_
      refine lv_if_eq (tgt := 24) hx hb dX3_step_18 (by decide) (fun c_18 => ?_) (fun c_18 => ?_)
      · obtain ⟨N, hN1, hN⟩ := nI_of2 (M := 1000) (n := 1000) rfl c_1 c_8
        refine lv_iconst (v := 0) hx hb dX3_step_24 (by decide) ?_
        refine lv_istore_n (lv' := [(2, .int 0), (0, .ref ax), (1, .int x)]) hx hb dX3_step_25 rfl hl (by decide) rfl (fun ls hl => ?_)
        exact key26 (N + 1) N 0 t cs ps ro hN hN1 hrg c_18 (by omega) (by omega) (by omega) (by omega) rfl _ _ (hP.sub [0, 1, 2, 3, 4, 5, 6, 7] rfl) (hD.sub [0, 1, 2, 3, 4, 5, 6, 7] (by decide) rfl) hS ls (lv_sub hl [0, 1, 2] rfl)
      · refine lv_bipush (v := (-5)) hx hb dX3_step_21 (by decide) ?_
        have hP9 := hP.sub (ws' := [(ax, .inr (4, [.ref aj, .ref ap, .ref ar, .ref arow, .ref ak, .int ed, .int dn, .int cp, .int ct])), (ap, .inr (3, [.ref aj, .ref apc, .ref app, .int (nI t)])), (apc, .inl (cL, 12, .inr (.inl cs))), (app, .inl (cI, 6, .inl ps)), (aj, .inr (2, [.ref af, .ref al, .int (nI c), .int (nI f)])), (af, .inl (cL, 12, .inr (.inl fv))), (al, .inl (cI, 6, .inl ln)), (arow, .inl (cL, 5000, .inr (.inl ro)))]) [0, 1, 2, 3, 4, 5, 6, 7] rfl
        have hD9 := hD.sub (ws' := [(ax, .inr (4, [.ref aj, .ref ap, .ref ar, .ref arow, .ref ak, .int ed, .int dn, .int cp, .int ct])), (ap, .inr (3, [.ref aj, .ref apc, .ref app, .int (nI t)])), (apc, .inl (cL, 12, .inr (.inl cs))), (app, .inl (cI, 6, .inl ps)), (aj, .inr (2, [.ref af, .ref al, .int (nI c), .int (nI f)])), (af, .inl (cL, 12, .inr (.inl fv))), (al, .inl (cI, 6, .inl ln)), (arow, .inl (cL, 5000, .inr (.inl ro)))]) [0, 1, 2, 3, 4, 5, 6, 7] (by decide) rfl
        refine W.widen (k := 0) (n := 0) (Nat.le_of_ble_eq_true rfl) (Nat.le_of_ble_eq_true rfl) ?_
        exact W.iret (v := (-5)) hx hb hr (fun t9 ht9 hW9 => ⟨⟨(-5), (t, cs, ps, ro), rfl, ⟨fun q => absurd q hrg, fun _ _ => rfl, fun _ q => absurd q c_18, by rw [if_neg (fun q => c_18 q.2)]⟩, by rw [ht9]; exact hP9, va_K.moved hW9.alike hK, hD9⟩, hS.F ht9⟩) hS.2.2 dX3_step_23
    · refine lv_bipush (v := (-4)) hx hb dX3_step_11 (by decide) ?_
      have hbad : x < 0 ∨ ¬ x ≤ 1000 := by first | exact Or.inl c_1 | exact Or.inr c_8
      have hP9 := hP.sub (ws' := [(ax, .inr (4, [.ref aj, .ref ap, .ref ar, .ref arow, .ref ak, .int ed, .int dn, .int cp, .int ct])), (ap, .inr (3, [.ref aj, .ref apc, .ref app, .int (nI t)])), (apc, .inl (cL, 12, .inr (.inl cs))), (app, .inl (cI, 6, .inl ps)), (aj, .inr (2, [.ref af, .ref al, .int (nI c), .int (nI f)])), (af, .inl (cL, 12, .inr (.inl fv))), (al, .inl (cI, 6, .inl ln)), (arow, .inl (cL, 5000, .inr (.inl ro)))]) [0, 1, 2, 3, 4, 5, 6, 7] rfl
      have hD9 := hD.sub (ws' := [(ax, .inr (4, [.ref aj, .ref ap, .ref ar, .ref arow, .ref ak, .int ed, .int dn, .int cp, .int ct])), (ap, .inr (3, [.ref aj, .ref apc, .ref app, .int (nI t)])), (apc, .inl (cL, 12, .inr (.inl cs))), (app, .inl (cI, 6, .inl ps)), (aj, .inr (2, [.ref af, .ref al, .int (nI c), .int (nI f)])), (af, .inl (cL, 12, .inr (.inl fv))), (al, .inl (cI, 6, .inl ln)), (arow, .inl (cL, 5000, .inr (.inl ro)))]) [0, 1, 2, 3, 4, 5, 6, 7] (by decide) rfl
      refine W.widen (k := 0) (n := 0) (Nat.le_of_ble_eq_true rfl) (Nat.le_of_ble_eq_true rfl) ?_
      exact W.iret (v := (-4)) hx hb hr (fun t9 ht9 hW9 => ⟨⟨(-4), (t, cs, ps, ro), rfl, ⟨fun _ => rfl, fun q => absurd hbad q, fun q => absurd hbad q, by rw [if_neg (fun q => q.1 hbad)]⟩, by rw [ht9]; exact hP9, va_K.moved hW9.alike hK, hD9⟩, hS.F ht9⟩) hS.2.2 dX3_step_13
end
section
abbrev rm_X3_check : Room := { frames := 2, cells := 0, slots := 0, locals := 63 }
abbrev qc_X3_check (D : va_G) (cI cL cZ : ClassId) (ax : Nat) (aj : Nat) (ap : Nat) (ar : Nat) (arow : Nat) (ak : Nat) (ed : Int32) (dn : Int32) (cp : Int32) (ct : Int32) (akw : Nat) (ake : Nat) (aku : Nat) (akn : Nat) (akc : Nat) (akp : Nat) (kw : Nat → Int32) (ke : Nat → Int32) (ku : Nat → Int32) (kn : Nat → Int32) (kc : Nat → Int64) (kp : Nat → Int32) (apc : Nat) (app : Nat) (cs : Nat → Int64) (ps : Nat → Int32) (af : Nat) (al : Nat) (c : Nat) (f : Nat) (t : Nat) (kb : Nat) (A : Nat → Prop) : Array Value → State → Outcome → State → Prop := va_Qi (fun (r : Int32) (u : Nat × (Nat → Int32) × (Nat → Int32) × (Nat → Int32) × (Nat → Int32) × (Nat → Int64) × (Nat → Int32) × Int32 × Int32 × Int32) => ((¬ dn = 0 ∧ r = -5 ∧ u.1 = kb ∧ u.2.1 = kw ∧ (u.2.2.1 = ke ∧ u.2.2.2.1 = ku ∧ u.2.2.2.2.1 = kn ∧ u.2.2.2.2.2.1 = kc ∧ u.2.2.2.2.2.2.1 = kp) ∧ u.2.2.2.2.2.2.2.1 = dn ∧ u.2.2.2.2.2.2.2.2.1 = cp) ∨ (dn = 0 ∧ ¬ kb < 100 ∧ r = -1 ∧ u.1 = kb ∧ u.2.1 = kw ∧ (u.2.2.1 = ke ∧ u.2.2.2.1 = ku ∧ u.2.2.2.2.1 = kn ∧ u.2.2.2.2.2.1 = kc ∧ u.2.2.2.2.2.2.1 = kp) ∧ u.2.2.2.2.2.2.2.1 = dn ∧ u.2.2.2.2.2.2.2.2.1 = cp) ∨ (dn = 0 ∧ kb < 100 ∧ (¬ cp = 0 ∧ cp ≤ nI (4 + c + f)) ∧ cp = 1 ∧ r = 0 ∧ u.1 = kb ∧ u.2.1 = kw ∧ (u.2.2.1 = ke ∧ u.2.2.2.1 = ku ∧ u.2.2.2.2.1 = kn ∧ u.2.2.2.2.2.1 = kc ∧ u.2.2.2.2.2.2.1 = kp) ∧ u.2.2.2.2.2.2.2.1 = 1 ∧ u.2.2.2.2.2.2.2.2.1 = 0) ∨ (dn = 0 ∧ kb < 100 ∧ (¬ cp = 0 ∧ cp ≤ nI (4 + c + f)) ∧ ¬ cp = 1 ∧ r = 0 ∧ u.1 = kb + 1 ∧ u.2.1 = upd kw kb 0 ∧ (u.2.2.1 = ke ∧ u.2.2.2.1 = ku ∧ u.2.2.2.2.1 = kn ∧ u.2.2.2.2.2.1 = kc ∧ u.2.2.2.2.2.2.1 = kp) ∧ u.2.2.2.2.2.2.2.1 = 1 ∧ u.2.2.2.2.2.2.2.2.1 = 0) ∨ (dn = 0 ∧ kb < 100 ∧ ¬ (¬ cp = 0 ∧ cp ≤ nI (4 + c + f)) ∧ r = nI (kb + 1) ∧ u.1 = kb + 1 ∧ u.2.1 = upd kw kb 1 ∧ (u.2.2.1 = upd ke kb ed ∧ u.2.2.2.1 = upd ku kb (nI t) ∧ u.2.2.2.2.1 = upd kn kb (nI c) ∧ u.2.2.2.2.2.1 = va_cpy cs kc 0 (kb * 12) 12 ∧ u.2.2.2.2.2.2.1 = va_cpy ps kp 0 (kb * 6) 6) ∧ u.2.2.2.2.2.2.2.1 = dn ∧ u.2.2.2.2.2.2.2.2.1 = cp))) (ct_B D vwCl [(cI, .int), (cL, .long), (cZ, .boolean)] A (fun (u : Nat × (Nat → Int32) × (Nat → Int32) × (Nat → Int32) × (Nat → Int32) × (Nat → Int64) × (Nat → Int32) × Int32 × Int32 × Int32) => [(ax, .inr (4, [.ref aj, .ref ap, .ref ar, .ref arow, .ref ak, .int ed, .int u.2.2.2.2.2.2.2.1, .int u.2.2.2.2.2.2.2.2.1, .int u.2.2.2.2.2.2.2.2.2])), (ak, .inr (1, [.ref akw, .ref ake, .ref aku, .ref akn, .ref akc, .ref akp, .int (nI u.1)])), (akw, .inl (cZ, 100, .inl u.2.1)), (ake, .inl (cI, 100, .inl u.2.2.1)), (aku, .inl (cI, 100, .inl u.2.2.2.1)), (akn, .inl (cI, 100, .inl u.2.2.2.2.1)), (akc, .inl (cL, 1200, .inr (.inl u.2.2.2.2.2.1))), (akp, .inl (cI, 600, .inl u.2.2.2.2.2.2.1)), (ap, .inr (3, [.ref aj, .ref apc, .ref app, .int (nI t)])), (apc, .inl (cL, 12, .inr (.inl cs))), (app, .inl (cI, 6, .inl ps)), (aj, .inr (2, [.ref af, .ref al, .int (nI c), .int (nI f)]))])) A
set_option maxHeartbeats 4000000 in
set_option maxRecDepth 100000 in
theorem c_X3_check (l : Launch) (D : va_G) (cI cL cZ : ClassId) (ax : Nat) (aj : Nat) (ap : Nat) (ar : Nat) (arow : Nat) (ak : Nat) (ed : Int32) (dn : Int32) (cp : Int32) (ct : Int32) (akw : Nat) (ake : Nat) (aku : Nat) (akn : Nat) (akc : Nat) (akp : Nat) (kw : Nat → Int32) (ke : Nat → Int32) (ku : Nat → Int32) (kn : Nat → Int32) (kc : Nat → Int64) (kp : Nat → Int32) (apc : Nat) (app : Nat) (cs : Nat → Int64) (ps : Nat → Int32) (af : Nat) (al : Nat) (c : Nat) (f : Nat) (t : Nat) (kb : Nat) (sz : Nat) (hc : c ≤ 12) (hf : f ≤ 6) (hkb : kb ≤ 100) (hcp : ¬ cp < 0) : Met l yX3_check wsX3_check rm_X3_check (va_Pc [.ref ax] (ct_P D vwCl [(cI, .int), (cL, .long), (cZ, .boolean)] [(ax, .inr (4, [.ref aj, .ref ap, .ref ar, .ref arow, .ref ak, .int ed, .int dn, .int cp, .int ct])), (ak, .inr (1, [.ref akw, .ref ake, .ref aku, .ref akn, .ref akc, .ref akp, .int (nI kb)])), (akw, .inl (cZ, 100, .inl kw)), (ake, .inl (cI, 100, .inl ke)), (aku, .inl (cI, 100, .inl ku)), (akn, .inl (cI, 100, .inl kn)), (akc, .inl (cL, 1200, .inr (.inl kc))), (akp, .inl (cI, 600, .inl kp)), (ap, .inr (3, [.ref aj, .ref apc, .ref app, .int (nI t)])), (apc, .inl (cL, 12, .inr (.inl cs))), (app, .inl (cI, 6, .inl ps)), (aj, .inr (2, [.ref af, .ref al, .int (nI c), .int (nI f)]))] sz)) (qc_X3_check D cI cL cZ ax aj ap ar arow ak ed dn cp ct akw ake aku akn akc akp kw ke ku kn kc kp apc app cs ps af al c f t kb (va_A [(ax, .inr (4, [.ref aj, .ref ap, .ref ar, .ref arow, .ref ak, .int ed, .int dn, .int cp, .int ct])), (ak, .inr (1, [.ref akw, .ref ake, .ref aku, .ref akn, .ref akc, .ref akp, .int (nI kb)])), (akw, .inl (cZ, 100, .inl kw)), (ake, .inl (cI, 100, .inl ke)), (aku, .inl (cI, 100, .inl ku)), (akn, .inl (cI, 100, .inl kn)), (akc, .inl (cL, 1200, .inr (.inl kc))), (akp, .inl (cI, 600, .inl kp)), (ap, .inr (3, [.ref aj, .ref apc, .ref app, .int (nI t)])), (apc, .inl (cL, 12, .inr (.inl cs))), (app, .inl (cI, 6, .inl ps)), (aj, .inr (2, [.ref af, .ref al, .int (nI c), .int (nI f)]))] sz)) 0 0 (va_A [(ax, .inr (4, [.ref aj, .ref ap, .ref ar, .ref arow, .ref ak, .int ed, .int dn, .int cp, .int ct])), (ak, .inr (1, [.ref akw, .ref ake, .ref aku, .ref akn, .ref akc, .ref akp, .int (nI kb)])), (akw, .inl (cZ, 100, .inl kw)), (ake, .inl (cI, 100, .inl ke)), (aku, .inl (cI, 100, .inl ku)), (akn, .inl (cI, 100, .inl kn)), (akc, .inl (cL, 1200, .inr (.inl kc))), (akp, .inl (cI, 600, .inl kp)), (ap, .inr (3, [.ref aj, .ref apc, .ref app, .int (nI t)])), (apc, .inl (cL, 12, .inr (.inl cs))), (app, .inl (cI, 6, .inl ps)), (aj, .inr (2, [.ref af, .ref al, .int (nI c), .int (nI f)]))] sz) := by
  refine Met.ofW (cc := cX3_check) (maxL := 2) (ret := (some .int)) (by decide) rfl ?_
  intro p e s m args below meth cd s₁ B hml hv
  obtain ⟨rfl, hsz, hP, hK, hD0⟩ := hv
  have hx := B.exec
  have hb := B.bytes
  have hr := B.returns
  have hts := atoms_spec (ws := wsX3_check) B.pre
  have iX3 : ∀ w ∈ wsX30, w ∈ wsX3_check := by decide +kernel
  have wf43 := hts (.fieldLink RX3 43 "CheckRestart" "down" "Z") (by decide +kernel)
  have wf35 := hts (.fieldLink RX3 35 "CheckRestart" "checkpoints" "LCheckRestart$Checkpoints;") (by decide +kernel)
  have iX0 : ∀ w ∈ wsX00, w ∈ wsX3_check := by decide +kernel
  have wf83 := hts (.fieldLink RX3 83 "CheckRestart$Checkpoints" "begun" "I") (by decide +kernel)
  have wf10 := hts (.fieldLink RX3 10 "CheckRestart" "job" "LCheckRestart$Job;") (by decide +kernel)
  have iX1 : ∀ w ∈ wsX10, w ∈ wsX3_check := by decide +kernel
  have wf57 := hts (.fieldLink RX3 57 "CheckRestart$Job" "cellCount" "I") (by decide +kernel)
  have wf66 := hts (.fieldLink RX3 66 "CheckRestart$Job" "fileCount" "I") (by decide +kernel)
  have wf47 := hts (.fieldLink RX3 47 "CheckRestart" "cutPart" "I") (by decide +kernel)
  have wf21 := hts (.fieldLink RX3 21 "CheckRestart" "progress" "LCheckRestart$Progress;") (by decide +kernel)
  have wf39 := hts (.fieldLink RX3 39 "CheckRestart" "editionNow" "I") (by decide +kernel)
  have hown : s.vm.findClass RX3 = some m.cls := findClass_of_methodNamed B.named
  have hlocks := B.notSynchronized
  subst hsz
  have hD := hD0.self (sz := s.heap.size)
  generalize hAe : va_A [(ax, .inr (4, [.ref aj, .ref ap, .ref ar, .ref arow, .ref ak, .int ed, .int dn, .int cp, .int ct])), (ak, .inr (1, [.ref akw, .ref ake, .ref aku, .ref akn, .ref akc, .ref akp, .int (nI kb)])), (akw, .inl (cZ, 100, .inl kw)), (ake, .inl (cI, 100, .inl ke)), (aku, .inl (cI, 100, .inl ku)), (akn, .inl (cI, 100, .inl kn)), (akc, .inl (cL, 1200, .inr (.inl kc))), (akp, .inl (cI, 600, .inl kp)), (ap, .inr (3, [.ref aj, .ref apc, .ref app, .int (nI t)])), (apc, .inl (cL, 12, .inr (.inl cs))), (app, .inl (cI, 6, .inl ps)), (aj, .inr (2, [.ref af, .ref al, .int (nI c), .int (nI f)]))] s.heap.size = A at hD ⊢
  have hA : ∀ q : Nat, s.heap.size ≤ q → A q := fun q h => by rw [← hAe]; exact Or.inr h
  have hS : va_S A s.heap s.heap [] := va_S.rf
  have hl := lv_entry ([.ref ax]) (n := 2) (Nat.le_of_ble_eq_true rfl)
  rw [lg_entry_eq]
  generalize (lg_sl ([.ref ax]) ++ List.replicate (2 - (lg_sl ([.ref ax])).length) Slot.unset).toArray = ls at hl ⊢
  have hl : lv_has ls 2 [(0, .ref ax)] := hl
  refine lv_aload_n hx hb dX3_check_0 rfl (lv_at hl 0 rfl) ?_
  refine va_get (D := D) (ci := 4) (v := .int dn) (C := RX3) (T := TX3) (N := 9) hx hb hts iX3 hown hK hP 0 rfl rfl 6 (by decide) wf43 (fun _ h9 => h9) rfl dX3_check_1 ?_
  refine lv_if_eq (tgt := 10) hx hb dX3_check_4 (by decide) (fun c_4 => ?_) (fun c_4 => ?_)
  · refine lv_aload_n hx hb dX3_check_10 rfl (lv_at hl 0 rfl) ?_
    refine va_get (D := D) (ci := 4) (v := .ref ak) (C := RX3) (T := TX3) (N := 9) hx hb hts iX3 hown hK hP 0 rfl rfl 4 (by decide) wf35 (fun _ h9 => h9) rfl dX3_check_11 ?_
    refine va_get (D := D) (ci := 1) (v := .int (nI kb)) (C := RX0) (T := TX0) (N := 7) hx hb hts iX0 hown hK hP 1 rfl rfl 6 (by decide) wf83 (fun _ h9 => h9) rfl dX3_check_14 ?_
    refine lv_bipush (v := 100) hx hb dX3_check_17 (by decide) ?_
    refine lv_icmp_lt (tgt := 24) hx hb dX3_check_19 (by decide) (fun c_19 => ?_) (fun c_19 => ?_)
    · have h1 : kb < 100 := (nI_ltI (a := kb) (b := 100) (by omega) (by omega)).mp c_19
      refine lv_iconst (v := 4) hx hb dX3_check_24 (by decide) ?_
      refine lv_aload_n hx hb dX3_check_25 rfl (lv_at hl 0 rfl) ?_
      refine va_get (D := D) (ci := 4) (v := .ref aj) (C := RX3) (T := TX3) (N := 9) hx hb hts iX3 hown hK hP 0 rfl rfl 0 (by decide) wf10 (fun _ h9 => h9) rfl dX3_check_26 ?_
      refine va_get (D := D) (ci := 2) (v := .int (nI c)) (C := RX1) (T := TX1) (N := 4) hx hb hts iX1 hown hK hP 11 rfl rfl 2 (by decide) wf57 (fun _ h9 => h9) rfl dX3_check_29 ?_
      refine lv_iadd hx hb dX3_check_32 ?_
      refine ct_topi (y := (nI (4 + c))) (nI_add 4 c) ?_
      refine lv_aload_n hx hb dX3_check_33 rfl (lv_at hl 0 rfl) ?_
      refine va_get (D := D) (ci := 4) (v := .ref aj) (C := RX3) (T := TX3) (N := 9) hx hb hts iX3 hown hK hP 0 rfl rfl 0 (by decide) wf10 (fun _ h9 => h9) rfl dX3_check_34 ?_
      refine va_get (D := D) (ci := 2) (v := .int (nI f)) (C := RX1) (T := TX1) (N := 4) hx hb hts iX1 hown hK hP 11 rfl rfl 3 (by decide) wf66 (fun _ h9 => h9) rfl dX3_check_37 ?_
      refine lv_iadd hx hb dX3_check_40 ?_
      refine ct_topi (y := (nI (4 + c + f))) (nI_add (4 + c) f) ?_
      refine lv_istore_n (lv' := [(1, .int (nI (4 + c + f))), (0, .ref ax)]) hx hb dX3_check_41 rfl hl (by decide) rfl (fun ls hl => ?_)
      refine lv_aload_n hx hb dX3_check_42 rfl (lv_at hl 1 rfl) ?_
      refine va_get (D := D) (ci := 4) (v := .int cp) (C := RX3) (T := TX3) (N := 9) hx hb hts iX3 hown hK hP 0 rfl rfl 7 (by decide) wf47 (fun _ h9 => h9) rfl dX3_check_43 ?_
      refine lv_if_eq (tgt := 78) hx hb dX3_check_46 (by decide) (fun c_46 => ?_) (fun c_46 => ?_)
      · refine lv_aload_n hx hb dX3_check_78 rfl (lv_at hl 1 rfl) ?_
        refine va_get (D := D) (ci := 4) (v := .ref ak) (C := RX3) (T := TX3) (N := 9) hx hb hts iX3 hown hK hP 0 rfl rfl 4 (by decide) wf35 (fun _ h9 => h9) rfl dX3_check_79 ?_
        refine lv_aload_n hx hb dX3_check_82 rfl (lv_at hl 1 rfl) ?_
        refine va_get (D := D) (ci := 4) (v := .ref ap) (C := RX3) (T := TX3) (N := 9) hx hb hts iX3 hown hK hP 0 rfl rfl 1 (by decide) wf21 (fun _ h9 => h9) rfl dX3_check_83 ?_
        refine lv_aload_n hx hb dX3_check_86 rfl (lv_at hl 1 rfl) ?_
        refine va_get (D := D) (ci := 4) (v := .int ed) (C := RX3) (T := TX3) (N := 9) hx hb hts iX3 hown hK hP 0 rfl rfl 5 (by decide) wf39 (fun _ h9 => h9) rfl dX3_check_87 ?_
        refine ct_callv (wr := [(ax, .inr (4, [.ref aj, .ref ap, .ref ar, .ref arow, .ref ak, .int ed, .int dn, .int cp, .int ct]))]) (rest := []) hP hD hS hA [1, 2, 3, 4, 5, 6, 7, 8, 9, 10, 11] [0] (va_runV (C := RX0) (As := [.ref ap, .int ed]) ⟨hx, hb, hml, hown, hts⟩ (c_X0_addWhole l D cI cL cZ ak akw ake aku akn akc akp kw ke ku kn kc kp ap apc app cs ps aj af al c f t kb ed _ (by omega)) (cwV 2 hts gX3_check_X0_addWhole rfl rfl rfl (by decide +kernel) ⟨Nat.le_of_ble_eq_true rfl, Nat.le_of_ble_eq_true rfl⟩) (ct_preV (q0 := 0) (ci := 1) hK hP hD [1, 2, 3, 4, 5, 6, 7, 8, 9, 10, 11] (by decide) rfl rfl rfl rfl rfl) rfl rfl hl.1 rfl (lv_room (Nat.le_of_ble_eq_true rfl)) dX3_check_90 ⟨Nat.le_of_ble_eq_true rfl, Nat.le_of_ble_eq_true rfl⟩) rfl rfl (by decide) (by decide) (fun u H locs hw hP hD hS => ?_)
        try dsimp only at hw
        have hP : va_P D vwCl [(ax, .inr (4, [.ref aj, .ref ap, .ref ar, .ref arow, .ref ak, .int ed, .int dn, .int cp, .int ct])), (ak, .inr (1, [.ref akw, .ref ake, .ref aku, .ref akn, .ref akc, .ref akp, .int (nI (kb + 1))])), (akw, .inl (cZ, 100, .inl (upd kw kb 1))), (ake, .inl (cI, 100, .inl (upd ke kb ed))), (aku, .inl (cI, 100, .inl (upd ku kb (nI t)))), (akn, .inl (cI, 100, .inl (upd kn kb (nI c)))), (akc, .inl (cL, 1200, .inr (.inl (va_cpy cs kc 0 (kb * 12) 12)))), (akp, .inl (cI, 600, .inl (va_cpy ps kp 0 (kb * 6) 6))), (ap, .inr (3, [.ref aj, .ref apc, .ref app, .int (nI t)])), (apc, .inl (cL, 12, .inr (.inl cs))), (app, .inl (cI, 6, .inl ps)), (aj, .inr (2, [.ref af, .ref al, .int (nI c), .int (nI f)]))] H := hP
        have hD : va_D A [(ax, .inr (4, [.ref aj, .ref ap, .ref ar, .ref arow, .ref ak, .int ed, .int dn, .int cp, .int ct])), (ak, .inr (1, [.ref akw, .ref ake, .ref aku, .ref akn, .ref akc, .ref akp, .int (nI (kb + 1))])), (akw, .inl (cZ, 100, .inl (upd kw kb 1))), (ake, .inl (cI, 100, .inl (upd ke kb ed))), (aku, .inl (cI, 100, .inl (upd ku kb (nI t)))), (akn, .inl (cI, 100, .inl (upd kn kb (nI c)))), (akc, .inl (cL, 1200, .inr (.inl (va_cpy cs kc 0 (kb * 12) 12)))), (akp, .inl (cI, 600, .inl (va_cpy ps kp 0 (kb * 6) 6))), (ap, .inr (3, [.ref aj, .ref apc, .ref app, .int (nI t)])), (apc, .inl (cL, 12, .inr (.inl cs))), (app, .inl (cI, 6, .inl ps)), (aj, .inr (2, [.ref af, .ref al, .int (nI c), .int (nI f)]))] := hD
        refine lv_aload_n hx hb dX3_check_93 rfl (lv_at hl 1 rfl) ?_
        refine va_get (D := D) (ci := 4) (v := .ref ak) (C := RX3) (T := TX3) (N := 9) hx hb hts iX3 hown hK hP 0 rfl rfl 4 (by decide) wf35 (fun _ h9 => h9) rfl dX3_check_94 ?_
        refine va_get (D := D) (ci := 1) (v := .int (nI (kb + 1))) (C := RX0) (T := TX0) (N := 7) hx hb hts iX0 hown hK hP 1 rfl rfl 6 (by decide) wf83 (fun _ h9 => h9) rfl dX3_check_97 ?_
        have hP9 := hP.sub (ws' := [(ax, .inr (4, [.ref aj, .ref ap, .ref ar, .ref arow, .ref ak, .int ed, .int dn, .int cp, .int ct])), (ak, .inr (1, [.ref akw, .ref ake, .ref aku, .ref akn, .ref akc, .ref akp, .int (nI (kb + 1))])), (akw, .inl (cZ, 100, .inl (upd kw kb 1))), (ake, .inl (cI, 100, .inl (upd ke kb ed))), (aku, .inl (cI, 100, .inl (upd ku kb (nI t)))), (akn, .inl (cI, 100, .inl (upd kn kb (nI c)))), (akc, .inl (cL, 1200, .inr (.inl (va_cpy cs kc 0 (kb * 12) 12)))), (akp, .inl (cI, 600, .inl (va_cpy ps kp 0 (kb * 6) 6))), (ap, .inr (3, [.ref aj, .ref apc, .ref app, .int (nI t)])), (apc, .inl (cL, 12, .inr (.inl cs))), (app, .inl (cI, 6, .inl ps)), (aj, .inr (2, [.ref af, .ref al, .int (nI c), .int (nI f)]))]) [0, 1, 2, 3, 4, 5, 6, 7, 8, 9, 10, 11] rfl
        have hD9 := hD.sub (ws' := [(ax, .inr (4, [.ref aj, .ref ap, .ref ar, .ref arow, .ref ak, .int ed, .int dn, .int cp, .int ct])), (ak, .inr (1, [.ref akw, .ref ake, .ref aku, .ref akn, .ref akc, .ref akp, .int (nI (kb + 1))])), (akw, .inl (cZ, 100, .inl (upd kw kb 1))), (ake, .inl (cI, 100, .inl (upd ke kb ed))), (aku, .inl (cI, 100, .inl (upd ku kb (nI t)))), (akn, .inl (cI, 100, .inl (upd kn kb (nI c)))), (akc, .inl (cL, 1200, .inr (.inl (va_cpy cs kc 0 (kb * 12) 12)))), (akp, .inl (cI, 600, .inl (va_cpy ps kp 0 (kb * 6) 6))), (ap, .inr (3, [.ref aj, .ref apc, .ref app, .int (nI t)])), (apc, .inl (cL, 12, .inr (.inl cs))), (app, .inl (cI, 6, .inl ps)), (aj, .inr (2, [.ref af, .ref al, .int (nI c), .int (nI f)]))]) [0, 1, 2, 3, 4, 5, 6, 7, 8, 9, 10, 11] (by decide) rfl
        refine W.widen (k := 0) (n := 0) (Nat.le_of_ble_eq_true rfl) (Nat.le_of_ble_eq_true rfl) ?_
        exact W.iret (v := (nI (kb + 1))) hx hb hr (fun t9 ht9 hW9 => ⟨⟨(nI (kb + 1)), ((kb + 1), (upd kw kb 1), (upd ke kb ed), (upd ku kb (nI t)), (upd kn kb (nI c)), (va_cpy cs kc 0 (kb * 12) 12), (va_cpy ps kp 0 (kb * 6) 6), dn, cp, ct), rfl, Or.inr (Or.inr (Or.inr (Or.inr ⟨c_4, h1, (by first | exact fun q => q.1 c_46 | exact fun q => cr_lt_nle c_54 q.2), rfl, rfl, rfl, ⟨rfl, rfl, rfl, rfl, rfl⟩, rfl, rfl⟩))), by rw [ht9]; exact hP9, va_K.moved hW9.alike hK, hD9⟩, hS.F ht9⟩) hS.2.2 dX3_check_100
      · refine lv_aload_n hx hb dX3_check_49 rfl (lv_at hl 1 rfl) ?_
        refine va_get (D := D) (ci := 4) (v := .int cp) (C := RX3) (T := TX3) (N := 9) hx hb hts iX3 hown hK hP 0 rfl rfl 7 (by decide) wf47 (fun _ h9 => h9) rfl dX3_check_50 ?_
        refine lv_iload_n hx hb dX3_check_53 rfl (lv_at hl 0 rfl) ?_
        refine lv_icmp_gt (tgt := 78) hx hb dX3_check_54 (by decide) (fun c_54 => ?_) (fun c_54 => ?_)
        · refine lv_aload_n hx hb dX3_check_78 rfl (lv_at hl 1 rfl) ?_
          refine va_get (D := D) (ci := 4) (v := .ref ak) (C := RX3) (T := TX3) (N := 9) hx hb hts iX3 hown hK hP 0 rfl rfl 4 (by decide) wf35 (fun _ h9 => h9) rfl dX3_check_79 ?_
          refine lv_aload_n hx hb dX3_check_82 rfl (lv_at hl 1 rfl) ?_
          refine va_get (D := D) (ci := 4) (v := .ref ap) (C := RX3) (T := TX3) (N := 9) hx hb hts iX3 hown hK hP 0 rfl rfl 1 (by decide) wf21 (fun _ h9 => h9) rfl dX3_check_83 ?_
          refine lv_aload_n hx hb dX3_check_86 rfl (lv_at hl 1 rfl) ?_
          refine va_get (D := D) (ci := 4) (v := .int ed) (C := RX3) (T := TX3) (N := 9) hx hb hts iX3 hown hK hP 0 rfl rfl 5 (by decide) wf39 (fun _ h9 => h9) rfl dX3_check_87 ?_
          refine ct_callv (wr := [(ax, .inr (4, [.ref aj, .ref ap, .ref ar, .ref arow, .ref ak, .int ed, .int dn, .int cp, .int ct]))]) (rest := []) hP hD hS hA [1, 2, 3, 4, 5, 6, 7, 8, 9, 10, 11] [0] (va_runV (C := RX0) (As := [.ref ap, .int ed]) ⟨hx, hb, hml, hown, hts⟩ (c_X0_addWhole l D cI cL cZ ak akw ake aku akn akc akp kw ke ku kn kc kp ap apc app cs ps aj af al c f t kb ed _ (by omega)) (cwV 2 hts gX3_check_X0_addWhole rfl rfl rfl (by decide +kernel) ⟨Nat.le_of_ble_eq_true rfl, Nat.le_of_ble_eq_true rfl⟩) (ct_preV (q0 := 0) (ci := 1) hK hP hD [1, 2, 3, 4, 5, 6, 7, 8, 9, 10, 11] (by decide) rfl rfl rfl rfl rfl) rfl rfl hl.1 rfl (lv_room (Nat.le_of_ble_eq_true rfl)) dX3_check_90 ⟨Nat.le_of_ble_eq_true rfl, Nat.le_of_ble_eq_true rfl⟩) rfl rfl (by decide) (by decide) (fun u H locs hw hP hD hS => ?_)
          try dsimp only at hw
          have hP : va_P D vwCl [(ax, .inr (4, [.ref aj, .ref ap, .ref ar, .ref arow, .ref ak, .int ed, .int dn, .int cp, .int ct])), (ak, .inr (1, [.ref akw, .ref ake, .ref aku, .ref akn, .ref akc, .ref akp, .int (nI (kb + 1))])), (akw, .inl (cZ, 100, .inl (upd kw kb 1))), (ake, .inl (cI, 100, .inl (upd ke kb ed))), (aku, .inl (cI, 100, .inl (upd ku kb (nI t)))), (akn, .inl (cI, 100, .inl (upd kn kb (nI c)))), (akc, .inl (cL, 1200, .inr (.inl (va_cpy cs kc 0 (kb * 12) 12)))), (akp, .inl (cI, 600, .inl (va_cpy ps kp 0 (kb * 6) 6))), (ap, .inr (3, [.ref aj, .ref apc, .ref app, .int (nI t)])), (apc, .inl (cL, 12, .inr (.inl cs))), (app, .inl (cI, 6, .inl ps)), (aj, .inr (2, [.ref af, .ref al, .int (nI c), .int (nI f)]))] H := hP
          have hD : va_D A [(ax, .inr (4, [.ref aj, .ref ap, .ref ar, .ref arow, .ref ak, .int ed, .int dn, .int cp, .int ct])), (ak, .inr (1, [.ref akw, .ref ake, .ref aku, .ref akn, .ref akc, .ref akp, .int (nI (kb + 1))])), (akw, .inl (cZ, 100, .inl (upd kw kb 1))), (ake, .inl (cI, 100, .inl (upd ke kb ed))), (aku, .inl (cI, 100, .inl (upd ku kb (nI t)))), (akn, .inl (cI, 100, .inl (upd kn kb (nI c)))), (akc, .inl (cL, 1200, .inr (.inl (va_cpy cs kc 0 (kb * 12) 12)))), (akp, .inl (cI, 600, .inl (va_cpy ps kp 0 (kb * 6) 6))), (ap, .inr (3, [.ref aj, .ref apc, .ref app, .int (nI t)])), (apc, .inl (cL, 12, .inr (.inl cs))), (app, .inl (cI, 6, .inl ps)), (aj, .inr (2, [.ref af, .ref al, .int (nI c), .int (nI f)]))] := hD
          refine lv_aload_n hx hb dX3_check_93 rfl (lv_at hl 1 rfl) ?_
          refine va_get (D := D) (ci := 4) (v := .ref ak) (C := RX3) (T := TX3) (N := 9) hx hb hts iX3 hown hK hP 0 rfl rfl 4 (by decide) wf35 (fun _ h9 => h9) rfl dX3_check_94 ?_
          refine va_get (D := D) (ci := 1) (v := .int (nI (kb + 1))) (C := RX0) (T := TX0) (N := 7) hx hb hts iX0 hown hK hP 1 rfl rfl 6 (by decide) wf83 (fun _ h9 => h9) rfl dX3_check_97 ?_
          have hP9 := hP.sub (ws' := [(ax, .inr (4, [.ref aj, .ref ap, .ref ar, .ref arow, .ref ak, .int ed, .int dn, .int cp, .int ct])), (ak, .inr (1, [.ref akw, .ref ake, .ref aku, .ref akn, .ref akc, .ref akp, .int (nI (kb + 1))])), (akw, .inl (cZ, 100, .inl (upd kw kb 1))), (ake, .inl (cI, 100, .inl (upd ke kb ed))), (aku, .inl (cI, 100, .inl (upd ku kb (nI t)))), (akn, .inl (cI, 100, .inl (upd kn kb (nI c)))), (akc, .inl (cL, 1200, .inr (.inl (va_cpy cs kc 0 (kb * 12) 12)))), (akp, .inl (cI, 600, .inl (va_cpy ps kp 0 (kb * 6) 6))), (ap, .inr (3, [.ref aj, .ref apc, .ref app, .int (nI t)])), (apc, .inl (cL, 12, .inr (.inl cs))), (app, .inl (cI, 6, .inl ps)), (aj, .inr (2, [.ref af, .ref al, .int (nI c), .int (nI f)]))]) [0, 1, 2, 3, 4, 5, 6, 7, 8, 9, 10, 11] rfl
          have hD9 := hD.sub (ws' := [(ax, .inr (4, [.ref aj, .ref ap, .ref ar, .ref arow, .ref ak, .int ed, .int dn, .int cp, .int ct])), (ak, .inr (1, [.ref akw, .ref ake, .ref aku, .ref akn, .ref akc, .ref akp, .int (nI (kb + 1))])), (akw, .inl (cZ, 100, .inl (upd kw kb 1))), (ake, .inl (cI, 100, .inl (upd ke kb ed))), (aku, .inl (cI, 100, .inl (upd ku kb (nI t)))), (akn, .inl (cI, 100, .inl (upd kn kb (nI c)))), (akc, .inl (cL, 1200, .inr (.inl (va_cpy cs kc 0 (kb * 12) 12)))), (akp, .inl (cI, 600, .inl (va_cpy ps kp 0 (kb * 6) 6))), (ap, .inr (3, [.ref aj, .ref apc, .ref app, .int (nI t)])), (apc, .inl (cL, 12, .inr (.inl cs))), (app, .inl (cI, 6, .inl ps)), (aj, .inr (2, [.ref af, .ref al, .int (nI c), .int (nI f)]))]) [0, 1, 2, 3, 4, 5, 6, 7, 8, 9, 10, 11] (by decide) rfl
          refine W.widen (k := 0) (n := 0) (Nat.le_of_ble_eq_true rfl) (Nat.le_of_ble_eq_true rfl) ?_
          exact W.iret (v := (nI (kb + 1))) hx hb hr (fun t9 ht9 hW9 => ⟨⟨(nI (kb + 1)), ((kb + 1), (upd kw kb 1), (upd ke kb ed), (upd ku kb (nI t)), (upd kn kb (nI c)), (va_cpy cs kc 0 (kb * 12) 12), (va_cpy ps kp 0 (kb * 6) 6), dn, cp, ct), rfl, Or.inr (Or.inr (Or.inr (Or.inr ⟨c_4, h1, (by first | exact fun q => q.1 c_46 | exact fun q => cr_lt_nle c_54 q.2), rfl, rfl, rfl, ⟨rfl, rfl, rfl, rfl, rfl⟩, rfl, rfl⟩))), by rw [ht9]; exact hP9, va_K.moved hW9.alike hK, hD9⟩, hS.F ht9⟩) hS.2.2 dX3_check_100
        · refine lv_aload_n hx hb dX3_check_57 rfl (lv_at hl 1 rfl) ?_
          refine va_get (D := D) (ci := 4) (v := .int cp) (C := RX3) (T := TX3) (N := 9) hx hb hts iX3 hown hK hP 0 rfl rfl 7 (by decide) wf47 (fun _ h9 => h9) rfl dX3_check_58 ?_
          refine lv_iconst (v := 1) hx hb dX3_check_61 (by decide) ?_
          refine lv_icmp_le (tgt := 72) hx hb dX3_check_62 (by decide) (fun c_62 => ?_) (fun c_62 => ?_)
          · refine lv_aload_n hx hb dX3_check_72 rfl (lv_at hl 1 rfl) ?_
            refine ct_callv (wr := [(ak, .inr (1, [.ref akw, .ref ake, .ref aku, .ref akn, .ref akc, .ref akp, .int (nI kb)])), (akw, .inl (cZ, 100, .inl kw)), (ake, .inl (cI, 100, .inl ke)), (aku, .inl (cI, 100, .inl ku)), (akn, .inl (cI, 100, .inl kn)), (akc, .inl (cL, 1200, .inr (.inl kc))), (akp, .inl (cI, 600, .inl kp)), (ap, .inr (3, [.ref aj, .ref apc, .ref app, .int (nI t)])), (apc, .inl (cL, 12, .inr (.inl cs))), (app, .inl (cI, 6, .inl ps)), (aj, .inr (2, [.ref af, .ref al, .int (nI c), .int (nI f)]))]) (rest := []) hP hD hS hA [0] [1, 2, 3, 4, 5, 6, 7, 8, 9, 10, 11] (va_runV (C := RX3) (As := []) ⟨hx, hb, hml, hown, hts⟩ (c_X3_goDown l D cI cL cZ ax aj ap ar arow ak ed dn cp ct _ ) (cwV 0 hts gX3_check_X3_goDown rfl rfl rfl (by decide +kernel) ⟨Nat.le_of_ble_eq_true rfl, Nat.le_of_ble_eq_true rfl⟩) (ct_preV (q0 := 0) (ci := 4) hK hP hD [0] (by decide) rfl rfl rfl rfl rfl) rfl rfl hl.1 rfl (lv_room (Nat.le_of_ble_eq_true rfl)) dX3_check_73 ⟨Nat.le_of_ble_eq_true rfl, Nat.le_of_ble_eq_true rfl⟩) rfl rfl (by decide) (by decide) (fun u H locs hw hP hD hS => ?_)
            try dsimp only at hw
            have hP : va_P D vwCl [(ak, .inr (1, [.ref akw, .ref ake, .ref aku, .ref akn, .ref akc, .ref akp, .int (nI kb)])), (akw, .inl (cZ, 100, .inl kw)), (ake, .inl (cI, 100, .inl ke)), (aku, .inl (cI, 100, .inl ku)), (akn, .inl (cI, 100, .inl kn)), (akc, .inl (cL, 1200, .inr (.inl kc))), (akp, .inl (cI, 600, .inl kp)), (ap, .inr (3, [.ref aj, .ref apc, .ref app, .int (nI t)])), (apc, .inl (cL, 12, .inr (.inl cs))), (app, .inl (cI, 6, .inl ps)), (aj, .inr (2, [.ref af, .ref al, .int (nI c), .int (nI f)])), (ax, .inr (4, [.ref aj, .ref ap, .ref ar, .ref arow, .ref ak, .int ed, .int 1, .int 0, .int (ct + 1)]))] H := hP
            have hD : va_D A [(ak, .inr (1, [.ref akw, .ref ake, .ref aku, .ref akn, .ref akc, .ref akp, .int (nI kb)])), (akw, .inl (cZ, 100, .inl kw)), (ake, .inl (cI, 100, .inl ke)), (aku, .inl (cI, 100, .inl ku)), (akn, .inl (cI, 100, .inl kn)), (akc, .inl (cL, 1200, .inr (.inl kc))), (akp, .inl (cI, 600, .inl kp)), (ap, .inr (3, [.ref aj, .ref apc, .ref app, .int (nI t)])), (apc, .inl (cL, 12, .inr (.inl cs))), (app, .inl (cI, 6, .inl ps)), (aj, .inr (2, [.ref af, .ref al, .int (nI c), .int (nI f)])), (ax, .inr (4, [.ref aj, .ref ap, .ref ar, .ref arow, .ref ak, .int ed, .int 1, .int 0, .int (ct + 1)]))] := hD
            refine lv_iconst (v := 0) hx hb dX3_check_76 (by decide) ?_
            have hP9 := hP.sub (ws' := [(ax, .inr (4, [.ref aj, .ref ap, .ref ar, .ref arow, .ref ak, .int ed, .int 1, .int 0, .int (ct + 1)])), (ak, .inr (1, [.ref akw, .ref ake, .ref aku, .ref akn, .ref akc, .ref akp, .int (nI kb)])), (akw, .inl (cZ, 100, .inl kw)), (ake, .inl (cI, 100, .inl ke)), (aku, .inl (cI, 100, .inl ku)), (akn, .inl (cI, 100, .inl kn)), (akc, .inl (cL, 1200, .inr (.inl kc))), (akp, .inl (cI, 600, .inl kp)), (ap, .inr (3, [.ref aj, .ref apc, .ref app, .int (nI t)])), (apc, .inl (cL, 12, .inr (.inl cs))), (app, .inl (cI, 6, .inl ps)), (aj, .inr (2, [.ref af, .ref al, .int (nI c), .int (nI f)]))]) [11, 0, 1, 2, 3, 4, 5, 6, 7, 8, 9, 10] rfl
            have hD9 := hD.sub (ws' := [(ax, .inr (4, [.ref aj, .ref ap, .ref ar, .ref arow, .ref ak, .int ed, .int 1, .int 0, .int (ct + 1)])), (ak, .inr (1, [.ref akw, .ref ake, .ref aku, .ref akn, .ref akc, .ref akp, .int (nI kb)])), (akw, .inl (cZ, 100, .inl kw)), (ake, .inl (cI, 100, .inl ke)), (aku, .inl (cI, 100, .inl ku)), (akn, .inl (cI, 100, .inl kn)), (akc, .inl (cL, 1200, .inr (.inl kc))), (akp, .inl (cI, 600, .inl kp)), (ap, .inr (3, [.ref aj, .ref apc, .ref app, .int (nI t)])), (apc, .inl (cL, 12, .inr (.inl cs))), (app, .inl (cI, 6, .inl ps)), (aj, .inr (2, [.ref af, .ref al, .int (nI c), .int (nI f)]))]) [11, 0, 1, 2, 3, 4, 5, 6, 7, 8, 9, 10] (by decide) rfl
            refine W.widen (k := 0) (n := 0) (Nat.le_of_ble_eq_true rfl) (Nat.le_of_ble_eq_true rfl) ?_
            exact W.iret (v := 0) hx hb hr (fun t9 ht9 hW9 => ⟨⟨0, (kb, kw, ke, ku, kn, kc, kp, 1, 0, (ct + 1)), rfl, Or.inr (Or.inr (Or.inl ⟨c_4, h1, ⟨c_46, cr_nlt c_54⟩, cr_one hcp c_46 c_62, rfl, rfl, rfl, ⟨rfl, rfl, rfl, rfl, rfl⟩, rfl, rfl⟩)), by rw [ht9]; exact hP9, va_K.moved hW9.alike hK, hD9⟩, hS.F ht9⟩) hS.2.2 dX3_check_77
          · refine lv_aload_n hx hb dX3_check_65 rfl (lv_at hl 1 rfl) ?_
            refine va_get (D := D) (ci := 4) (v := .ref ak) (C := RX3) (T := TX3) (N := 9) hx hb hts iX3 hown hK hP 0 rfl rfl 4 (by decide) wf35 (fun _ h9 => h9) rfl dX3_check_66 ?_
            refine ct_callv (wr := [(ax, .inr (4, [.ref aj, .ref ap, .ref ar, .ref arow, .ref ak, .int ed, .int dn, .int cp, .int ct])), (ake, .inl (cI, 100, .inl ke)), (aku, .inl (cI, 100, .inl ku)), (akn, .inl (cI, 100, .inl kn)), (akc, .inl (cL, 1200, .inr (.inl kc))), (akp, .inl (cI, 600, .inl kp)), (ap, .inr (3, [.ref aj, .ref apc, .ref app, .int (nI t)])), (apc, .inl (cL, 12, .inr (.inl cs))), (app, .inl (cI, 6, .inl ps)), (aj, .inr (2, [.ref af, .ref al, .int (nI c), .int (nI f)]))]) (rest := []) hP hD hS hA [1, 2] [0, 3, 4, 5, 6, 7, 8, 9, 10, 11] (va_runV (C := RX0) (As := []) ⟨hx, hb, hml, hown, hts⟩ (c_X0_addTorn l D cI cL cZ ak akw ake aku akn akc akp kw kb _ (by omega)) (cwV 0 hts gX3_check_X0_addTorn rfl rfl rfl (by decide +kernel) ⟨Nat.le_of_ble_eq_true rfl, Nat.le_of_ble_eq_true rfl⟩) (ct_preV (q0 := 0) (ci := 1) hK hP hD [1, 2] (by decide) rfl rfl rfl rfl rfl) rfl rfl hl.1 rfl (lv_room (Nat.le_of_ble_eq_true rfl)) dX3_check_69 ⟨Nat.le_of_ble_eq_true rfl, Nat.le_of_ble_eq_true rfl⟩) rfl rfl (by decide) (by decide) (fun u H locs hw hP hD hS => ?_)
            try dsimp only at hw
            have hP : va_P D vwCl [(ax, .inr (4, [.ref aj, .ref ap, .ref ar, .ref arow, .ref ak, .int ed, .int dn, .int cp, .int ct])), (ake, .inl (cI, 100, .inl ke)), (aku, .inl (cI, 100, .inl ku)), (akn, .inl (cI, 100, .inl kn)), (akc, .inl (cL, 1200, .inr (.inl kc))), (akp, .inl (cI, 600, .inl kp)), (ap, .inr (3, [.ref aj, .ref apc, .ref app, .int (nI t)])), (apc, .inl (cL, 12, .inr (.inl cs))), (app, .inl (cI, 6, .inl ps)), (aj, .inr (2, [.ref af, .ref al, .int (nI c), .int (nI f)])), (ak, .inr (1, [.ref akw, .ref ake, .ref aku, .ref akn, .ref akc, .ref akp, .int (nI (kb + 1))])), (akw, .inl (cZ, 100, .inl (upd kw kb 0)))] H := hP
            have hD : va_D A [(ax, .inr (4, [.ref aj, .ref ap, .ref ar, .ref arow, .ref ak, .int ed, .int dn, .int cp, .int ct])), (ake, .inl (cI, 100, .inl ke)), (aku, .inl (cI, 100, .inl ku)), (akn, .inl (cI, 100, .inl kn)), (akc, .inl (cL, 1200, .inr (.inl kc))), (akp, .inl (cI, 600, .inl kp)), (ap, .inr (3, [.ref aj, .ref apc, .ref app, .int (nI t)])), (apc, .inl (cL, 12, .inr (.inl cs))), (app, .inl (cI, 6, .inl ps)), (aj, .inr (2, [.ref af, .ref al, .int (nI c), .int (nI f)])), (ak, .inr (1, [.ref akw, .ref ake, .ref aku, .ref akn, .ref akc, .ref akp, .int (nI (kb + 1))])), (akw, .inl (cZ, 100, .inl (upd kw kb 0)))] := hD
            refine lv_aload_n hx hb dX3_check_72 rfl (lv_at hl 1 rfl) ?_
            refine ct_callv (wr := [(ake, .inl (cI, 100, .inl ke)), (aku, .inl (cI, 100, .inl ku)), (akn, .inl (cI, 100, .inl kn)), (akc, .inl (cL, 1200, .inr (.inl kc))), (akp, .inl (cI, 600, .inl kp)), (ap, .inr (3, [.ref aj, .ref apc, .ref app, .int (nI t)])), (apc, .inl (cL, 12, .inr (.inl cs))), (app, .inl (cI, 6, .inl ps)), (aj, .inr (2, [.ref af, .ref al, .int (nI c), .int (nI f)])), (ak, .inr (1, [.ref akw, .ref ake, .ref aku, .ref akn, .ref akc, .ref akp, .int (nI (kb + 1))])), (akw, .inl (cZ, 100, .inl (upd kw kb 0)))]) (rest := []) hP hD hS hA [0] [1, 2, 3, 4, 5, 6, 7, 8, 9, 10, 11] (va_runV (C := RX3) (As := []) ⟨hx, hb, hml, hown, hts⟩ (c_X3_goDown l D cI cL cZ ax aj ap ar arow ak ed dn cp ct _ ) (cwV 0 hts gX3_check_X3_goDown rfl rfl rfl (by decide +kernel) ⟨Nat.le_of_ble_eq_true rfl, Nat.le_of_ble_eq_true rfl⟩) (ct_preV (q0 := 0) (ci := 4) hK hP hD [0] (by decide) rfl rfl rfl rfl rfl) rfl rfl hl.1 rfl (lv_room (Nat.le_of_ble_eq_true rfl)) dX3_check_73 ⟨Nat.le_of_ble_eq_true rfl, Nat.le_of_ble_eq_true rfl⟩) rfl rfl (by decide) (by decide) (fun u H locs hw hP hD hS => ?_)
            try dsimp only at hw
            have hP : va_P D vwCl [(ake, .inl (cI, 100, .inl ke)), (aku, .inl (cI, 100, .inl ku)), (akn, .inl (cI, 100, .inl kn)), (akc, .inl (cL, 1200, .inr (.inl kc))), (akp, .inl (cI, 600, .inl kp)), (ap, .inr (3, [.ref aj, .ref apc, .ref app, .int (nI t)])), (apc, .inl (cL, 12, .inr (.inl cs))), (app, .inl (cI, 6, .inl ps)), (aj, .inr (2, [.ref af, .ref al, .int (nI c), .int (nI f)])), (ak, .inr (1, [.ref akw, .ref ake, .ref aku, .ref akn, .ref akc, .ref akp, .int (nI (kb + 1))])), (akw, .inl (cZ, 100, .inl (upd kw kb 0))), (ax, .inr (4, [.ref aj, .ref ap, .ref ar, .ref arow, .ref ak, .int ed, .int 1, .int 0, .int (ct + 1)]))] H := hP
            have hD : va_D A [(ake, .inl (cI, 100, .inl ke)), (aku, .inl (cI, 100, .inl ku)), (akn, .inl (cI, 100, .inl kn)), (akc, .inl (cL, 1200, .inr (.inl kc))), (akp, .inl (cI, 600, .inl kp)), (ap, .inr (3, [.ref aj, .ref apc, .ref app, .int (nI t)])), (apc, .inl (cL, 12, .inr (.inl cs))), (app, .inl (cI, 6, .inl ps)), (aj, .inr (2, [.ref af, .ref al, .int (nI c), .int (nI f)])), (ak, .inr (1, [.ref akw, .ref ake, .ref aku, .ref akn, .ref akc, .ref akp, .int (nI (kb + 1))])), (akw, .inl (cZ, 100, .inl (upd kw kb 0))), (ax, .inr (4, [.ref aj, .ref ap, .ref ar, .ref arow, .ref ak, .int ed, .int 1, .int 0, .int (ct + 1)]))] := hD
            refine lv_iconst (v := 0) hx hb dX3_check_76 (by decide) ?_
            have hP9 := hP.sub (ws' := [(ax, .inr (4, [.ref aj, .ref ap, .ref ar, .ref arow, .ref ak, .int ed, .int 1, .int 0, .int (ct + 1)])), (ak, .inr (1, [.ref akw, .ref ake, .ref aku, .ref akn, .ref akc, .ref akp, .int (nI (kb + 1))])), (akw, .inl (cZ, 100, .inl (upd kw kb 0))), (ake, .inl (cI, 100, .inl ke)), (aku, .inl (cI, 100, .inl ku)), (akn, .inl (cI, 100, .inl kn)), (akc, .inl (cL, 1200, .inr (.inl kc))), (akp, .inl (cI, 600, .inl kp)), (ap, .inr (3, [.ref aj, .ref apc, .ref app, .int (nI t)])), (apc, .inl (cL, 12, .inr (.inl cs))), (app, .inl (cI, 6, .inl ps)), (aj, .inr (2, [.ref af, .ref al, .int (nI c), .int (nI f)]))]) [11, 9, 10, 0, 1, 2, 3, 4, 5, 6, 7, 8] rfl
            have hD9 := hD.sub (ws' := [(ax, .inr (4, [.ref aj, .ref ap, .ref ar, .ref arow, .ref ak, .int ed, .int 1, .int 0, .int (ct + 1)])), (ak, .inr (1, [.ref akw, .ref ake, .ref aku, .ref akn, .ref akc, .ref akp, .int (nI (kb + 1))])), (akw, .inl (cZ, 100, .inl (upd kw kb 0))), (ake, .inl (cI, 100, .inl ke)), (aku, .inl (cI, 100, .inl ku)), (akn, .inl (cI, 100, .inl kn)), (akc, .inl (cL, 1200, .inr (.inl kc))), (akp, .inl (cI, 600, .inl kp)), (ap, .inr (3, [.ref aj, .ref apc, .ref app, .int (nI t)])), (apc, .inl (cL, 12, .inr (.inl cs))), (app, .inl (cI, 6, .inl ps)), (aj, .inr (2, [.ref af, .ref al, .int (nI c), .int (nI f)]))]) [11, 9, 10, 0, 1, 2, 3, 4, 5, 6, 7, 8] (by decide) rfl
            refine W.widen (k := 0) (n := 0) (Nat.le_of_ble_eq_true rfl) (Nat.le_of_ble_eq_true rfl) ?_
            exact W.iret (v := 0) hx hb hr (fun t9 ht9 hW9 => ⟨⟨0, ((kb + 1), (upd kw kb 0), ke, ku, kn, kc, kp, 1, 0, (ct + 1)), rfl, Or.inr (Or.inr (Or.inr (Or.inl ⟨c_4, h1, ⟨c_46, cr_nlt c_54⟩, fun q => c_62 (by rw [q]; decide), rfl, rfl, rfl, ⟨rfl, rfl, rfl, rfl, rfl⟩, rfl, rfl⟩))), by rw [ht9]; exact hP9, va_K.moved hW9.alike hK, hD9⟩, hS.F ht9⟩) hS.2.2 dX3_check_77
    · have h1 : ¬ kb < 100 := fun q => c_19 (nI_lt (a := kb) (b := 100) q (by omega))
      refine lv_iconst (v := (-1)) hx hb dX3_check_22 (by decide) ?_
      have hP9 := hP.sub (ws' := [(ax, .inr (4, [.ref aj, .ref ap, .ref ar, .ref arow, .ref ak, .int ed, .int dn, .int cp, .int ct])), (ak, .inr (1, [.ref akw, .ref ake, .ref aku, .ref akn, .ref akc, .ref akp, .int (nI kb)])), (akw, .inl (cZ, 100, .inl kw)), (ake, .inl (cI, 100, .inl ke)), (aku, .inl (cI, 100, .inl ku)), (akn, .inl (cI, 100, .inl kn)), (akc, .inl (cL, 1200, .inr (.inl kc))), (akp, .inl (cI, 600, .inl kp)), (ap, .inr (3, [.ref aj, .ref apc, .ref app, .int (nI t)])), (apc, .inl (cL, 12, .inr (.inl cs))), (app, .inl (cI, 6, .inl ps)), (aj, .inr (2, [.ref af, .ref al, .int (nI c), .int (nI f)]))]) [0, 1, 2, 3, 4, 5, 6, 7, 8, 9, 10, 11] rfl
      have hD9 := hD.sub (ws' := [(ax, .inr (4, [.ref aj, .ref ap, .ref ar, .ref arow, .ref ak, .int ed, .int dn, .int cp, .int ct])), (ak, .inr (1, [.ref akw, .ref ake, .ref aku, .ref akn, .ref akc, .ref akp, .int (nI kb)])), (akw, .inl (cZ, 100, .inl kw)), (ake, .inl (cI, 100, .inl ke)), (aku, .inl (cI, 100, .inl ku)), (akn, .inl (cI, 100, .inl kn)), (akc, .inl (cL, 1200, .inr (.inl kc))), (akp, .inl (cI, 600, .inl kp)), (ap, .inr (3, [.ref aj, .ref apc, .ref app, .int (nI t)])), (apc, .inl (cL, 12, .inr (.inl cs))), (app, .inl (cI, 6, .inl ps)), (aj, .inr (2, [.ref af, .ref al, .int (nI c), .int (nI f)]))]) [0, 1, 2, 3, 4, 5, 6, 7, 8, 9, 10, 11] (by decide) rfl
      refine W.widen (k := 0) (n := 0) (Nat.le_of_ble_eq_true rfl) (Nat.le_of_ble_eq_true rfl) ?_
      exact W.iret (v := (-1)) hx hb hr (fun t9 ht9 hW9 => ⟨⟨(-1), (kb, kw, ke, ku, kn, kc, kp, dn, cp, ct), rfl, Or.inr (Or.inl ⟨c_4, h1, rfl, rfl, rfl, ⟨rfl, rfl, rfl, rfl, rfl⟩, rfl, rfl⟩), by rw [ht9]; exact hP9, va_K.moved hW9.alike hK, hD9⟩, hS.F ht9⟩) hS.2.2 dX3_check_23
  · refine lv_bipush (v := (-5)) hx hb dX3_check_7 (by decide) ?_
    have hP9 := hP.sub (ws' := [(ax, .inr (4, [.ref aj, .ref ap, .ref ar, .ref arow, .ref ak, .int ed, .int dn, .int cp, .int ct])), (ak, .inr (1, [.ref akw, .ref ake, .ref aku, .ref akn, .ref akc, .ref akp, .int (nI kb)])), (akw, .inl (cZ, 100, .inl kw)), (ake, .inl (cI, 100, .inl ke)), (aku, .inl (cI, 100, .inl ku)), (akn, .inl (cI, 100, .inl kn)), (akc, .inl (cL, 1200, .inr (.inl kc))), (akp, .inl (cI, 600, .inl kp)), (ap, .inr (3, [.ref aj, .ref apc, .ref app, .int (nI t)])), (apc, .inl (cL, 12, .inr (.inl cs))), (app, .inl (cI, 6, .inl ps)), (aj, .inr (2, [.ref af, .ref al, .int (nI c), .int (nI f)]))]) [0, 1, 2, 3, 4, 5, 6, 7, 8, 9, 10, 11] rfl
    have hD9 := hD.sub (ws' := [(ax, .inr (4, [.ref aj, .ref ap, .ref ar, .ref arow, .ref ak, .int ed, .int dn, .int cp, .int ct])), (ak, .inr (1, [.ref akw, .ref ake, .ref aku, .ref akn, .ref akc, .ref akp, .int (nI kb)])), (akw, .inl (cZ, 100, .inl kw)), (ake, .inl (cI, 100, .inl ke)), (aku, .inl (cI, 100, .inl ku)), (akn, .inl (cI, 100, .inl kn)), (akc, .inl (cL, 1200, .inr (.inl kc))), (akp, .inl (cI, 600, .inl kp)), (ap, .inr (3, [.ref aj, .ref apc, .ref app, .int (nI t)])), (apc, .inl (cL, 12, .inr (.inl cs))), (app, .inl (cI, 6, .inl ps)), (aj, .inr (2, [.ref af, .ref al, .int (nI c), .int (nI f)]))]) [0, 1, 2, 3, 4, 5, 6, 7, 8, 9, 10, 11] (by decide) rfl
    refine W.widen (k := 0) (n := 0) (Nat.le_of_ble_eq_true rfl) (Nat.le_of_ble_eq_true rfl) ?_
    exact W.iret (v := (-5)) hx hb hr (fun t9 ht9 hW9 => ⟨⟨(-5), (kb, kw, ke, ku, kn, kc, kp, dn, cp, ct), rfl, Or.inl ⟨c_4, rfl, rfl, rfl, ⟨rfl, rfl, rfl, rfl, rfl⟩, rfl, rfl⟩, by rw [ht9]; exact hP9, va_K.moved hW9.alike hK, hD9⟩, hS.F ht9⟩) hS.2.2 dX3_check_9
abbrev rm_X3_cut : Room := { frames := 1, cells := 0, slots := 0, locals := 20 }
abbrev qc_X3_cut (D : va_G) (cI cL cZ : ClassId) (ax : Nat) (aj : Nat) (ap : Nat) (ar : Nat) (arow : Nat) (ak : Nat) (ed : Int32) (dn : Int32) (cp : Int32) (ct : Int32) (x : Int32) (A : Nat → Prop) : Array Value → State → Outcome → State → Prop := va_Qi (fun (r : Int32) (u : Int32 × Int32 × Int32) => ((if x < 0 ∨ ¬ x ≤ 30 then -4 else 1) = r) ∧ (cu_dn dn x) = u.1 ∧ (cu_cp cp x) = u.2.1) (ct_B D vwCl [(cI, .int), (cL, .long), (cZ, .boolean)] A (fun (u : Int32 × Int32 × Int32) => [(ax, .inr (4, [.ref aj, .ref ap, .ref ar, .ref arow, .ref ak, .int ed, .int u.1, .int u.2.1, .int u.2.2]))])) A
set_option maxHeartbeats 4000000 in
set_option maxRecDepth 100000 in
theorem c_X3_cut (l : Launch) (D : va_G) (cI cL cZ : ClassId) (ax : Nat) (aj : Nat) (ap : Nat) (ar : Nat) (arow : Nat) (ak : Nat) (ed : Int32) (dn : Int32) (cp : Int32) (ct : Int32) (x : Int32) (sz : Nat)  : Met l yX3_cut wsX3_cut rm_X3_cut (va_Pc [.ref ax, .int x] (ct_P D vwCl [(cI, .int), (cL, .long), (cZ, .boolean)] [(ax, .inr (4, [.ref aj, .ref ap, .ref ar, .ref arow, .ref ak, .int ed, .int dn, .int cp, .int ct]))] sz)) (qc_X3_cut D cI cL cZ ax aj ap ar arow ak ed dn cp ct x (va_A [(ax, .inr (4, [.ref aj, .ref ap, .ref ar, .ref arow, .ref ak, .int ed, .int dn, .int cp, .int ct]))] sz)) 0 0 (va_A [(ax, .inr (4, [.ref aj, .ref ap, .ref ar, .ref arow, .ref ak, .int ed, .int dn, .int cp, .int ct]))] sz) := by
  refine Met.ofW (cc := cX3_cut) (maxL := 2) (ret := (some .int)) (by decide) rfl ?_
  intro p e s m args below meth cd s₁ B hml hv
  obtain ⟨rfl, hsz, hP, hK, hD0⟩ := hv
  have hx := B.exec
  have hb := B.bytes
  have hr := B.returns
  have hts := atoms_spec (ws := wsX3_cut) B.pre
  have iX3 : ∀ w ∈ wsX30, w ∈ wsX3_cut := by decide +kernel
  have wf47 := hts (.fieldLink RX3 47 "CheckRestart" "cutPart" "I") (by decide +kernel)
  have hown : s.vm.findClass RX3 = some m.cls := findClass_of_methodNamed B.named
  have hlocks := B.notSynchronized
  subst hsz
  have hD := hD0.self (sz := s.heap.size)
  generalize hAe : va_A [(ax, .inr (4, [.ref aj, .ref ap, .ref ar, .ref arow, .ref ak, .int ed, .int dn, .int cp, .int ct]))] s.heap.size = A at hD ⊢
  have hA : ∀ q : Nat, s.heap.size ≤ q → A q := fun q h => by rw [← hAe]; exact Or.inr h
  have hS : va_S A s.heap s.heap [] := va_S.rf
  have hl := lv_entry ([.ref ax, .int x]) (n := 2) (Nat.le_of_ble_eq_true rfl)
  rw [lg_entry_eq]
  generalize (lg_sl ([.ref ax, .int x]) ++ List.replicate (2 - (lg_sl ([.ref ax, .int x])).length) Slot.unset).toArray = ls at hl ⊢
  have hl : lv_has ls 2 [(0, .ref ax), (1, .int x)] := hl
  refine lv_iload_n hx hb dX3_cut_0 rfl (lv_at hl 1 rfl) ?_
  refine lv_if_lt (tgt := 10) hx hb dX3_cut_1 (by decide) (fun c_1 => ?_) (fun c_1 => ?_)
  · refine lv_bipush (v := (-4)) hx hb dX3_cut_10 (by decide) ?_
    have hP9 := hP.sub (ws' := [(ax, .inr (4, [.ref aj, .ref ap, .ref ar, .ref arow, .ref ak, .int ed, .int dn, .int cp, .int ct]))]) [0] rfl
    have hD9 := hD.sub (ws' := [(ax, .inr (4, [.ref aj, .ref ap, .ref ar, .ref arow, .ref ak, .int ed, .int dn, .int cp, .int ct]))]) [0] (by decide) rfl
    refine W.widen (k := 0) (n := 0) (Nat.le_of_ble_eq_true rfl) (Nat.le_of_ble_eq_true rfl) ?_
    exact W.iret (v := (-4)) hx hb hr (fun t9 ht9 hW9 => ⟨⟨(-4), (dn, cp, ct), rfl, ⟨by rw [if_pos (by first | exact Or.inl c_1 | exact Or.inr c_7)], by unfold cu_dn; rw [if_pos (by first | exact Or.inl c_1 | exact Or.inr c_7)], by unfold cu_cp; rw [if_pos (by first | exact Or.inl c_1 | exact Or.inr c_7)]⟩, by rw [ht9]; exact hP9, va_K.moved hW9.alike hK, hD9⟩, hS.F ht9⟩) hS.2.2 dX3_cut_12
  · refine lv_iload_n hx hb dX3_cut_4 rfl (lv_at hl 1 rfl) ?_
    refine lv_bipush (v := 30) hx hb dX3_cut_5 (by decide) ?_
    refine lv_icmp_le (tgt := 13) hx hb dX3_cut_7 (by decide) (fun c_7 => ?_) (fun c_7 => ?_)
    · refine lv_iload_n hx hb dX3_cut_13 rfl (lv_at hl 1 rfl) ?_
      refine lv_if_ne (tgt := 24) hx hb dX3_cut_14 (by decide) (fun c_14 => ?_) (fun c_14 => ?_)
      · refine lv_aload_n hx hb dX3_cut_24 rfl (lv_at hl 0 rfl) ?_
        refine lv_iload_n hx hb dX3_cut_25 rfl (lv_at hl 1 rfl) ?_
        refine va_put (D := D) (ci := 4) (v := .int x) (ty := .int) (C := RX3) (T := TX3) (N := 9) hx hb hts iX3 tyX3 tyX3_ok nmX3 hown hK hP hD hS 0 rfl rfl 7 (by decide) wf47 (fun _ h9 => h9) rfl (by decide +kernel) rfl rfl (Nat.le_of_ble_eq_true rfl) dX3_cut_26 (fun H locs hP hD hS => ?_)
        have hP : va_P D vwCl [(ax, .inr (4, [.ref aj, .ref ap, .ref ar, .ref arow, .ref ak, .int ed, .int dn, .int x, .int ct]))] H := hP
        have hD : va_D A [(ax, .inr (4, [.ref aj, .ref ap, .ref ar, .ref arow, .ref ak, .int ed, .int dn, .int x, .int ct]))] := hD
        refine lv_iconst (v := 1) hx hb dX3_cut_29 (by decide) ?_
        have hP9 := hP.sub (ws' := [(ax, .inr (4, [.ref aj, .ref ap, .ref ar, .ref arow, .ref ak, .int ed, .int dn, .int x, .int ct]))]) [0] rfl
        have hD9 := hD.sub (ws' := [(ax, .inr (4, [.ref aj, .ref ap, .ref ar, .ref arow, .ref ak, .int ed, .int dn, .int x, .int ct]))]) [0] (by decide) rfl
        refine W.widen (k := 0) (n := 0) (Nat.le_of_ble_eq_true rfl) (Nat.le_of_ble_eq_true rfl) ?_
        exact W.iret (v := 1) hx hb hr (fun t9 ht9 hW9 => ⟨⟨1, (dn, x, ct), rfl, ⟨by rw [if_neg (fun q => q.elim c_1 (fun q => q c_7))], by unfold cu_dn; exact (if_neg (fun q => q.elim c_1 (fun q => q c_7))).trans (by first | rw [if_neg c_14] | rw [if_pos c_14]), by unfold cu_cp; exact (if_neg (fun q => q.elim c_1 (fun q => q c_7))).trans (by first | rfl | exact c_14)⟩, by rw [ht9]; exact hP9, va_K.moved hW9.alike hK, hD9⟩, hS.F ht9⟩) hS.2.2 dX3_cut_30
      · refine lv_aload_n hx hb dX3_cut_17 rfl (lv_at hl 0 rfl) ?_
        refine ct_callv (wr := []) (rest := []) hP hD hS hA [0] [] (va_runV (C := RX3) (As := []) ⟨hx, hb, hml, hown, hts⟩ (c_X3_goDown l D cI cL cZ ax aj ap ar arow ak ed dn cp ct _ ) (cwV 0 hts gX3_cut_X3_goDown rfl rfl rfl (by decide +kernel) ⟨Nat.le_of_ble_eq_true rfl, Nat.le_of_ble_eq_true rfl⟩) (ct_preV (q0 := 0) (ci := 4) hK hP hD [0] (by decide) rfl rfl rfl rfl rfl) rfl rfl hl.1 rfl (lv_room (Nat.le_of_ble_eq_true rfl)) dX3_cut_18 ⟨Nat.le_of_ble_eq_true rfl, Nat.le_of_ble_eq_true rfl⟩) rfl rfl (by decide) (by decide) (fun u H locs hw hP hD hS => ?_)
        try dsimp only at hw
        have hP : va_P D vwCl [(ax, .inr (4, [.ref aj, .ref ap, .ref ar, .ref arow, .ref ak, .int ed, .int 1, .int 0, .int (ct + 1)]))] H := hP
        have hD : va_D A [(ax, .inr (4, [.ref aj, .ref ap, .ref ar, .ref arow, .ref ak, .int ed, .int 1, .int 0, .int (ct + 1)]))] := hD
        refine lv_goto (tgt := 29) hx hb dX3_cut_21 (by decide) ?_
        refine lv_iconst (v := 1) hx hb dX3_cut_29 (by decide) ?_
        have hP9 := hP.sub (ws' := [(ax, .inr (4, [.ref aj, .ref ap, .ref ar, .ref arow, .ref ak, .int ed, .int 1, .int 0, .int (ct + 1)]))]) [0] rfl
        have hD9 := hD.sub (ws' := [(ax, .inr (4, [.ref aj, .ref ap, .ref ar, .ref arow, .ref ak, .int ed, .int 1, .int 0, .int (ct + 1)]))]) [0] (by decide) rfl
        refine W.widen (k := 0) (n := 0) (Nat.le_of_ble_eq_true rfl) (Nat.le_of_ble_eq_true rfl) ?_
        exact W.iret (v := 1) hx hb hr (fun t9 ht9 hW9 => ⟨⟨1, (1, 0, (ct + 1)), rfl, ⟨by rw [if_neg (fun q => q.elim c_1 (fun q => q c_7))], by unfold cu_dn; exact (if_neg (fun q => q.elim c_1 (fun q => q c_7))).trans (by first | rw [if_neg c_14] | rw [if_pos c_14]), by unfold cu_cp; exact (if_neg (fun q => q.elim c_1 (fun q => q c_7))).trans (by first | rfl | exact c_14)⟩, by rw [ht9]; exact hP9, va_K.moved hW9.alike hK, hD9⟩, hS.F ht9⟩) hS.2.2 dX3_cut_30
    · refine lv_bipush (v := (-4)) hx hb dX3_cut_10 (by decide) ?_
      have hP9 := hP.sub (ws' := [(ax, .inr (4, [.ref aj, .ref ap, .ref ar, .ref arow, .ref ak, .int ed, .int dn, .int cp, .int ct]))]) [0] rfl
      have hD9 := hD.sub (ws' := [(ax, .inr (4, [.ref aj, .ref ap, .ref ar, .ref arow, .ref ak, .int ed, .int dn, .int cp, .int ct]))]) [0] (by decide) rfl
      refine W.widen (k := 0) (n := 0) (Nat.le_of_ble_eq_true rfl) (Nat.le_of_ble_eq_true rfl) ?_
      exact W.iret (v := (-4)) hx hb hr (fun t9 ht9 hW9 => ⟨⟨(-4), (dn, cp, ct), rfl, ⟨by rw [if_pos (by first | exact Or.inl c_1 | exact Or.inr c_7)], by unfold cu_dn; rw [if_pos (by first | exact Or.inl c_1 | exact Or.inr c_7)], by unfold cu_cp; rw [if_pos (by first | exact Or.inl c_1 | exact Or.inr c_7)]⟩, by rw [ht9]; exact hP9, va_K.moved hW9.alike hK, hD9⟩, hS.F ht9⟩) hS.2.2 dX3_cut_12
abbrev rm_X3_position : Room := { frames := 1, cells := 0, slots := 0, locals := 21 }
abbrev qc_X3_position (D : va_G) (cI cL cZ : ClassId) (ax : Nat) (aj : Nat) (ap : Nat) (ar : Nat) (arow : Nat) (ak : Nat) (ed : Int32) (dn : Int32) (cp : Int32) (ct : Int32) (af : Nat) (al : Nat) (c : Nat) (f : Nat) (apc : Nat) (app : Nat) (t : Nat) (ps : Nat → Int32) (x : Int32) (A : Nat → Prop) : Array Value → State → Outcome → State → Prop := va_Qi (fun (r : Int32) (u : Unit) => ((if x < 0 ∨ nI f ≤ x then -1 else ps x.toNatClampNeg) = r)) (ct_B D vwCl [(cI, .int), (cL, .long), (cZ, .boolean)] A (fun (u : Unit) => [(ax, .inr (4, [.ref aj, .ref ap, .ref ar, .ref arow, .ref ak, .int ed, .int dn, .int cp, .int ct])), (aj, .inr (2, [.ref af, .ref al, .int (nI c), .int (nI f)])), (ap, .inr (3, [.ref aj, .ref apc, .ref app, .int (nI t)])), (app, .inl (cI, 6, .inl ps))])) A
set_option maxHeartbeats 4000000 in
set_option maxRecDepth 100000 in
theorem c_X3_position (l : Launch) (D : va_G) (cI cL cZ : ClassId) (ax : Nat) (aj : Nat) (ap : Nat) (ar : Nat) (arow : Nat) (ak : Nat) (ed : Int32) (dn : Int32) (cp : Int32) (ct : Int32) (af : Nat) (al : Nat) (c : Nat) (f : Nat) (apc : Nat) (app : Nat) (t : Nat) (ps : Nat → Int32) (x : Int32) (sz : Nat) (hf : f ≤ 6) : Met l yX3_position wsX3_position rm_X3_position (va_Pc [.ref ax, .int x] (ct_P D vwCl [(cI, .int), (cL, .long), (cZ, .boolean)] [(ax, .inr (4, [.ref aj, .ref ap, .ref ar, .ref arow, .ref ak, .int ed, .int dn, .int cp, .int ct])), (aj, .inr (2, [.ref af, .ref al, .int (nI c), .int (nI f)])), (ap, .inr (3, [.ref aj, .ref apc, .ref app, .int (nI t)])), (app, .inl (cI, 6, .inl ps))] sz)) (qc_X3_position D cI cL cZ ax aj ap ar arow ak ed dn cp ct af al c f apc app t ps x (va_A [(ax, .inr (4, [.ref aj, .ref ap, .ref ar, .ref arow, .ref ak, .int ed, .int dn, .int cp, .int ct])), (aj, .inr (2, [.ref af, .ref al, .int (nI c), .int (nI f)])), (ap, .inr (3, [.ref aj, .ref apc, .ref app, .int (nI t)])), (app, .inl (cI, 6, .inl ps))] sz)) 0 0 (va_A [(ax, .inr (4, [.ref aj, .ref ap, .ref ar, .ref arow, .ref ak, .int ed, .int dn, .int cp, .int ct])), (aj, .inr (2, [.ref af, .ref al, .int (nI c), .int (nI f)])), (ap, .inr (3, [.ref aj, .ref apc, .ref app, .int (nI t)])), (app, .inl (cI, 6, .inl ps))] sz) := by
  refine Met.ofW (cc := cX3_position) (maxL := 2) (ret := (some .int)) (by decide) rfl ?_
  intro p e s m args below meth cd s₁ B hml hv
  obtain ⟨rfl, hsz, hP, hK, hD0⟩ := hv
  have hx := B.exec
  have hb := B.bytes
  have hr := B.returns
  have hts := atoms_spec (ws := wsX3_position) B.pre
  have iX3 : ∀ w ∈ wsX30, w ∈ wsX3_position := by decide +kernel
  have wf10 := hts (.fieldLink RX3 10 "CheckRestart" "job" "LCheckRestart$Job;") (by decide +kernel)
  have wf21 := hts (.fieldLink RX3 21 "CheckRestart" "progress" "LCheckRestart$Progress;") (by decide +kernel)
  have iX2 : ∀ w ∈ wsX20, w ∈ wsX3_position := by decide +kernel
  have wf122 := hts (.fieldLink RX3 122 "CheckRestart$Progress" "positions" "[I") (by decide +kernel)
  have hown : s.vm.findClass RX3 = some m.cls := findClass_of_methodNamed B.named
  have hlocks := B.notSynchronized
  subst hsz
  have hD := hD0.self (sz := s.heap.size)
  generalize hAe : va_A [(ax, .inr (4, [.ref aj, .ref ap, .ref ar, .ref arow, .ref ak, .int ed, .int dn, .int cp, .int ct])), (aj, .inr (2, [.ref af, .ref al, .int (nI c), .int (nI f)])), (ap, .inr (3, [.ref aj, .ref apc, .ref app, .int (nI t)])), (app, .inl (cI, 6, .inl ps))] s.heap.size = A at hD ⊢
  have hA : ∀ q : Nat, s.heap.size ≤ q → A q := fun q h => by rw [← hAe]; exact Or.inr h
  have hS : va_S A s.heap s.heap [] := va_S.rf
  have hl := lv_entry ([.ref ax, .int x]) (n := 2) (Nat.le_of_ble_eq_true rfl)
  rw [lg_entry_eq]
  generalize (lg_sl ([.ref ax, .int x]) ++ List.replicate (2 - (lg_sl ([.ref ax, .int x])).length) Slot.unset).toArray = ls at hl ⊢
  have hl : lv_has ls 2 [(0, .ref ax), (1, .int x)] := hl
  refine lv_aload_n hx hb dX3_position_0 rfl (lv_at hl 0 rfl) ?_
  refine va_get (D := D) (ci := 4) (v := .ref aj) (C := RX3) (T := TX3) (N := 9) hx hb hts iX3 hown hK hP 0 rfl rfl 0 (by decide) wf10 (fun _ h9 => h9) rfl dX3_position_1 ?_
  refine lv_iload_n hx hb dX3_position_4 rfl (lv_at hl 1 rfl) ?_
  refine ct_calli (wr := [(ax, .inr (4, [.ref aj, .ref ap, .ref ar, .ref arow, .ref ak, .int ed, .int dn, .int cp, .int ct])), (ap, .inr (3, [.ref aj, .ref apc, .ref app, .int (nI t)])), (app, .inl (cI, 6, .inl ps))]) (rest := []) hP hD hS hA [1] [0, 2, 3] (va_runV (C := RX1) (As := [.int x]) ⟨hx, hb, hml, hown, hts⟩ (c_X1_hasFile l D cI cL cZ aj af al c f x _ ) (cwV 1 hts gX3_position_X1_hasFile rfl rfl rfl (by decide +kernel) ⟨Nat.le_of_ble_eq_true rfl, Nat.le_of_ble_eq_true rfl⟩) (ct_preV (q0 := 0) (ci := 2) hK hP hD [1] (by decide) rfl rfl rfl rfl rfl) rfl rfl hl.1 rfl (lv_room (Nat.le_of_ble_eq_true rfl)) dX3_position_5 ⟨Nat.le_of_ble_eq_true rfl, Nat.le_of_ble_eq_true rfl⟩) rfl rfl (by decide) (by decide) (fun r_1 u H locs hw hP hD hS => ?_)
  try dsimp only at hw
  obtain rfl := hw
  have hP : va_P D vwCl [(ax, .inr (4, [.ref aj, .ref ap, .ref ar, .ref arow, .ref ak, .int ed, .int dn, .int cp, .int ct])), (ap, .inr (3, [.ref aj, .ref apc, .ref app, .int (nI t)])), (app, .inl (cI, 6, .inl ps)), (aj, .inr (2, [.ref af, .ref al, .int (nI c), .int (nI f)]))] H := hP
  have hD : va_D A [(ax, .inr (4, [.ref aj, .ref ap, .ref ar, .ref arow, .ref ak, .int ed, .int dn, .int cp, .int ct])), (ap, .inr (3, [.ref aj, .ref apc, .ref app, .int (nI t)])), (app, .inl (cI, 6, .inl ps)), (aj, .inr (2, [.ref af, .ref al, .int (nI c), .int (nI f)]))] := hD
  refine lv_if_eq (tgt := 23) hx hb dX3_position_8 (by decide) (fun c_8 => ?_) (fun c_8 => ?_)
  · have h0 := cr_if01 _ c_8
    refine lv_iconst (v := (-1)) hx hb dX3_position_23 (by decide) ?_
    have hP9 := hP.sub (ws' := [(ax, .inr (4, [.ref aj, .ref ap, .ref ar, .ref arow, .ref ak, .int ed, .int dn, .int cp, .int ct])), (aj, .inr (2, [.ref af, .ref al, .int (nI c), .int (nI f)])), (ap, .inr (3, [.ref aj, .ref apc, .ref app, .int (nI t)])), (app, .inl (cI, 6, .inl ps))]) [0, 3, 1, 2] rfl
    have hD9 := hD.sub (ws' := [(ax, .inr (4, [.ref aj, .ref ap, .ref ar, .ref arow, .ref ak, .int ed, .int dn, .int cp, .int ct])), (aj, .inr (2, [.ref af, .ref al, .int (nI c), .int (nI f)])), (ap, .inr (3, [.ref aj, .ref apc, .ref app, .int (nI t)])), (app, .inl (cI, 6, .inl ps))]) [0, 3, 1, 2] (by decide) rfl
    refine W.widen (k := 0) (n := 0) (Nat.le_of_ble_eq_true rfl) (Nat.le_of_ble_eq_true rfl) ?_
    exact W.iret (v := (-1)) hx hb hr (fun t9 ht9 hW9 => ⟨⟨(-1), (), rfl, by rw [if_pos h0], by rw [ht9]; exact hP9, va_K.moved hW9.alike hK, hD9⟩, hS.F ht9⟩) hS.2.2 dX3_position_24
  · have h0 := cr_if01n _ c_8
    obtain ⟨k, hk, hxk⟩ := cr_ix (by omega) h0
    refine lv_aload_n hx hb dX3_position_11 rfl (lv_at hl 0 rfl) ?_
    refine va_get (D := D) (ci := 4) (v := .ref ap) (C := RX3) (T := TX3) (N := 9) hx hb hts iX3 hown hK hP 0 rfl rfl 1 (by decide) wf21 (fun _ h9 => h9) rfl dX3_position_12 ?_
    refine va_get (D := D) (ci := 3) (v := .ref app) (C := RX2) (T := TX2) (N := 4) hx hb hts iX2 hown hK hP 1 rfl rfl 2 (by decide) wf122 (fun _ h9 => h9) rfl dX3_position_15 ?_
    refine lv_iload_n hx hb dX3_position_18 rfl (lv_at hl 1 rfl) ?_
    refine ct_topi (y := (nI k)) (hxk) ?_
    refine ct_iald (k := k) hx hb hK hP 2 0 rfl rfl (by omega) (by decide) dX3_position_19 ?_
    refine lv_goto (tgt := 24) hx hb dX3_position_20 (by decide) ?_
    have hP9 := hP.sub (ws' := [(ax, .inr (4, [.ref aj, .ref ap, .ref ar, .ref arow, .ref ak, .int ed, .int dn, .int cp, .int ct])), (aj, .inr (2, [.ref af, .ref al, .int (nI c), .int (nI f)])), (ap, .inr (3, [.ref aj, .ref apc, .ref app, .int (nI t)])), (app, .inl (cI, 6, .inl ps))]) [0, 3, 1, 2] rfl
    have hD9 := hD.sub (ws' := [(ax, .inr (4, [.ref aj, .ref ap, .ref ar, .ref arow, .ref ak, .int ed, .int dn, .int cp, .int ct])), (aj, .inr (2, [.ref af, .ref al, .int (nI c), .int (nI f)])), (ap, .inr (3, [.ref aj, .ref apc, .ref app, .int (nI t)])), (app, .inl (cI, 6, .inl ps))]) [0, 3, 1, 2] (by decide) rfl
    refine W.widen (k := 0) (n := 0) (Nat.le_of_ble_eq_true rfl) (Nat.le_of_ble_eq_true rfl) ?_
    exact W.iret (v := (ps k)) hx hb hr (fun t9 ht9 hW9 => ⟨⟨(ps k), (), rfl, by rw [if_neg h0, hxk, nI_clamp (by omega)], by rw [ht9]; exact hP9, va_K.moved hW9.alike hK, hD9⟩, hS.F ht9⟩) hS.2.2 dX3_position_24
abbrev rm_X3_grow : Room := { frames := 1, cells := 0, slots := 0, locals := 21 }
abbrev qc_X3_grow (D : va_G) (cI cL cZ : ClassId) (ax : Nat) (aj : Nat) (ap : Nat) (ar : Nat) (arow : Nat) (ak : Nat) (ed : Int32) (dn : Int32) (cp : Int32) (ct : Int32) (af : Nat) (al : Nat) (c : Nat) (f : Nat) (ln : Nat → Int32) (x : Int32) (n : Int32) (A : Nat → Prop) : Array Value → State → Outcome → State → Prop := va_Qi (fun (r : Int32) (u : (Nat → Int32)) => (gr_r f ln x n) = r ∧ (gr_l f ln x n) = u) (ct_B D vwCl [(cI, .int), (cL, .long), (cZ, .boolean)] A (fun (u : (Nat → Int32)) => [(ax, .inr (4, [.ref aj, .ref ap, .ref ar, .ref arow, .ref ak, .int ed, .int dn, .int cp, .int ct])), (aj, .inr (2, [.ref af, .ref al, .int (nI c), .int (nI f)])), (al, .inl (cI, 6, .inl u))])) A
set_option maxHeartbeats 4000000 in
set_option maxRecDepth 100000 in
theorem c_X3_grow (l : Launch) (D : va_G) (cI cL cZ : ClassId) (ax : Nat) (aj : Nat) (ap : Nat) (ar : Nat) (arow : Nat) (ak : Nat) (ed : Int32) (dn : Int32) (cp : Int32) (ct : Int32) (af : Nat) (al : Nat) (c : Nat) (f : Nat) (ln : Nat → Int32) (x : Int32) (n : Int32) (sz : Nat) (hf : f ≤ 6) : Met l yX3_grow wsX3_grow rm_X3_grow (va_Pc [.ref ax, .int x, .int n] (ct_P D vwCl [(cI, .int), (cL, .long), (cZ, .boolean)] [(ax, .inr (4, [.ref aj, .ref ap, .ref ar, .ref arow, .ref ak, .int ed, .int dn, .int cp, .int ct])), (aj, .inr (2, [.ref af, .ref al, .int (nI c), .int (nI f)])), (al, .inl (cI, 6, .inl ln))] sz)) (qc_X3_grow D cI cL cZ ax aj ap ar arow ak ed dn cp ct af al c f ln x n (va_A [(ax, .inr (4, [.ref aj, .ref ap, .ref ar, .ref arow, .ref ak, .int ed, .int dn, .int cp, .int ct])), (aj, .inr (2, [.ref af, .ref al, .int (nI c), .int (nI f)])), (al, .inl (cI, 6, .inl ln))] sz)) 0 0 (va_A [(ax, .inr (4, [.ref aj, .ref ap, .ref ar, .ref arow, .ref ak, .int ed, .int dn, .int cp, .int ct])), (aj, .inr (2, [.ref af, .ref al, .int (nI c), .int (nI f)])), (al, .inl (cI, 6, .inl ln))] sz) := by
  refine Met.ofW (cc := cX3_grow) (maxL := 5) (ret := (some .int)) (by decide) rfl ?_
  intro p e s m args below meth cd s₁ B hml hv
  obtain ⟨rfl, hsz, hP, hK, hD0⟩ := hv
  have hx := B.exec
  have hb := B.bytes
  have hr := B.returns
  have hts := atoms_spec (ws := wsX3_grow) B.pre
  have iX3 : ∀ w ∈ wsX30, w ∈ wsX3_grow := by decide +kernel
  have wf10 := hts (.fieldLink RX3 10 "CheckRestart" "job" "LCheckRestart$Job;") (by decide +kernel)
  have iX1 : ∀ w ∈ wsX10, w ∈ wsX3_grow := by decide +kernel
  have wf69 := hts (.fieldLink RX3 69 "CheckRestart$Job" "lengths" "[I") (by decide +kernel)
  have wk125 := hts (.constantLong RX3 125 2000) (by decide +kernel)
  have hown : s.vm.findClass RX3 = some m.cls := findClass_of_methodNamed B.named
  have hlocks := B.notSynchronized
  subst hsz
  have hD := hD0.self (sz := s.heap.size)
  generalize hAe : va_A [(ax, .inr (4, [.ref aj, .ref ap, .ref ar, .ref arow, .ref ak, .int ed, .int dn, .int cp, .int ct])), (aj, .inr (2, [.ref af, .ref al, .int (nI c), .int (nI f)])), (al, .inl (cI, 6, .inl ln))] s.heap.size = A at hD ⊢
  have hA : ∀ q : Nat, s.heap.size ≤ q → A q := fun q h => by rw [← hAe]; exact Or.inr h
  have hS : va_S A s.heap s.heap [] := va_S.rf
  have hl := lv_entry ([.ref ax, .int x, .int n]) (n := 5) (Nat.le_of_ble_eq_true rfl)
  rw [lg_entry_eq]
  generalize (lg_sl ([.ref ax, .int x, .int n]) ++ List.replicate (5 - (lg_sl ([.ref ax, .int x, .int n])).length) Slot.unset).toArray = ls at hl ⊢
  have hl : lv_has ls 5 [(0, .ref ax), (1, .int x), (2, .int n)] := hl
  refine lv_aload_n hx hb dX3_grow_0 rfl (lv_at hl 0 rfl) ?_
  refine va_get (D := D) (ci := 4) (v := .ref aj) (C := RX3) (T := TX3) (N := 9) hx hb hts iX3 hown hK hP 0 rfl rfl 0 (by decide) wf10 (fun _ h9 => h9) rfl dX3_grow_1 ?_
  refine lv_iload_n hx hb dX3_grow_4 rfl (lv_at hl 1 rfl) ?_
  refine ct_calli (wr := [(ax, .inr (4, [.ref aj, .ref ap, .ref ar, .ref arow, .ref ak, .int ed, .int dn, .int cp, .int ct])), (al, .inl (cI, 6, .inl ln))]) (rest := []) hP hD hS hA [1] [0, 2] (va_runV (C := RX1) (As := [.int x]) ⟨hx, hb, hml, hown, hts⟩ (c_X1_hasFile l D cI cL cZ aj af al c f x _ ) (cwV 1 hts gX3_grow_X1_hasFile rfl rfl rfl (by decide +kernel) ⟨Nat.le_of_ble_eq_true rfl, Nat.le_of_ble_eq_true rfl⟩) (ct_preV (q0 := 0) (ci := 2) hK hP hD [1] (by decide) rfl rfl rfl rfl rfl) rfl rfl hl.1 rfl (lv_room (Nat.le_of_ble_eq_true rfl)) dX3_grow_5 ⟨Nat.le_of_ble_eq_true rfl, Nat.le_of_ble_eq_true rfl⟩) rfl rfl (by decide) (by decide) (fun r_1 u H locs hw hP hD hS => ?_)
  try dsimp only at hw
  obtain rfl := hw
  have hP : va_P D vwCl [(ax, .inr (4, [.ref aj, .ref ap, .ref ar, .ref arow, .ref ak, .int ed, .int dn, .int cp, .int ct])), (al, .inl (cI, 6, .inl ln)), (aj, .inr (2, [.ref af, .ref al, .int (nI c), .int (nI f)]))] H := hP
  have hD : va_D A [(ax, .inr (4, [.ref aj, .ref ap, .ref ar, .ref arow, .ref ak, .int ed, .int dn, .int cp, .int ct])), (al, .inl (cI, 6, .inl ln)), (aj, .inr (2, [.ref af, .ref al, .int (nI c), .int (nI f)]))] := hD
  refine lv_if_ne (tgt := 13) hx hb dX3_grow_8 (by decide) (fun c_8 => ?_) (fun c_8 => ?_)
  · have h0 := cr_if01n _ c_8
    obtain ⟨k, hk, hxk⟩ := cr_ix (by omega) h0
    have hkc : x.toNatClampNeg = k := by rw [hxk, nI_clamp (by omega)]
    refine lv_aload_n hx hb dX3_grow_13 rfl (lv_at hl 0 rfl) ?_
    refine va_get (D := D) (ci := 4) (v := .ref aj) (C := RX3) (T := TX3) (N := 9) hx hb hts iX3 hown hK hP 0 rfl rfl 0 (by decide) wf10 (fun _ h9 => h9) rfl dX3_grow_14 ?_
    refine va_get (D := D) (ci := 2) (v := .ref al) (C := RX1) (T := TX1) (N := 4) hx hb hts iX1 hown hK hP 2 rfl rfl 1 (by decide) wf69 (fun _ h9 => h9) rfl dX3_grow_17 ?_
    refine lv_iload_n hx hb dX3_grow_20 rfl (lv_at hl 1 rfl) ?_
    refine ct_topi (y := (nI k)) (hxk) ?_
    refine ct_iald (k := k) hx hb hK hP 1 0 rfl rfl (by omega) (by decide) dX3_grow_21 ?_
    refine lv_i2l hx hb dX3_grow_22 rfl ?_
    refine lv_iload_n hx hb dX3_grow_23 rfl (lv_at hl 2 rfl) ?_
    refine lv_i2l hx hb dX3_grow_24 rfl ?_
    refine lv_ladd hx hb dX3_grow_25 ?_
    refine lv_lstore_n (lv' := [(3, .long (((ln k).toInt64) + n.toInt64)), (0, .ref ax), (1, .int x), (2, .int n)]) hx hb dX3_grow_26 rfl hl (by decide) rfl (fun ls hl => ?_)
    refine lv_lload_n hx hb dX3_grow_27 rfl (lv_at hl 0 rfl) ?_
    refine lv_lconst (v := 0) hx hb dX3_grow_28 (by decide) ?_
    refine W.lcmp hx hb dX3_grow_29 ?_
    refine lv_if_lt (tgt := 41) hx hb dX3_grow_30 (by decide) (fun c_30 => ?_) (fun c_30 => ?_)
    · refine lv_bipush (v := (-4)) hx hb dX3_grow_41 (by decide) ?_
      have hb4 : gr_v ln x.toNatClampNeg n < 0 ∨ 2000 < gr_v ln x.toNatClampNeg n := by
        rw [hkc]
        first | exact Or.inl (cr_cmplt.mp c_30) | exact Or.inr (cr_cmpgt.mp c_38)
      have hP9 := hP.sub (ws' := [(ax, .inr (4, [.ref aj, .ref ap, .ref ar, .ref arow, .ref ak, .int ed, .int dn, .int cp, .int ct])), (aj, .inr (2, [.ref af, .ref al, .int (nI c), .int (nI f)])), (al, .inl (cI, 6, .inl ln))]) [0, 2, 1] rfl
      have hD9 := hD.sub (ws' := [(ax, .inr (4, [.ref aj, .ref ap, .ref ar, .ref arow, .ref ak, .int ed, .int dn, .int cp, .int ct])), (aj, .inr (2, [.ref af, .ref al, .int (nI c), .int (nI f)])), (al, .inl (cI, 6, .inl ln))]) [0, 2, 1] (by decide) rfl
      refine W.widen (k := 0) (n := 0) (Nat.le_of_ble_eq_true rfl) (Nat.le_of_ble_eq_true rfl) ?_
      exact W.iret (v := (-4)) hx hb hr (fun t9 ht9 hW9 => ⟨⟨(-4), (ln), rfl, ⟨by unfold gr_r; rw [if_neg h0, if_pos hb4], by unfold gr_l; rw [if_neg h0, if_pos hb4]⟩, by rw [ht9]; exact hP9, va_K.moved hW9.alike hK, hD9⟩, hS.F ht9⟩) hS.2.2 dX3_grow_43
    · refine lv_lload_n hx hb dX3_grow_33 rfl (lv_at hl 0 rfl) ?_
      refine lv_ldc2 (v := 2000) hx hb hown wk125 dX3_grow_34 ?_
      refine W.lcmp hx hb dX3_grow_37 ?_
      refine lv_if_le (tgt := 44) hx hb dX3_grow_38 (by decide) (fun c_38 => ?_) (fun c_38 => ?_)
      · refine lv_aload_n hx hb dX3_grow_44 rfl (lv_at hl 1 rfl) ?_
        refine va_get (D := D) (ci := 4) (v := .ref aj) (C := RX3) (T := TX3) (N := 9) hx hb hts iX3 hown hK hP 0 rfl rfl 0 (by decide) wf10 (fun _ h9 => h9) rfl dX3_grow_45 ?_
        refine va_get (D := D) (ci := 2) (v := .ref al) (C := RX1) (T := TX1) (N := 4) hx hb hts iX1 hown hK hP 2 rfl rfl 1 (by decide) wf69 (fun _ h9 => h9) rfl dX3_grow_48 ?_
        refine lv_iload_n hx hb dX3_grow_51 rfl (lv_at hl 2 rfl) ?_
        refine ct_topi (y := (nI k)) (hxk) ?_
        refine lv_lload_n hx hb dX3_grow_52 rfl (lv_at hl 0 rfl) ?_
        refine lv_l2i hx hb dX3_grow_53 rfl ?_
        refine ct_iast (k := k) hx hb hK hP hD hS 1 0 rfl rfl (by omega) (by decide) dX3_grow_54 (fun H locs hP hD hS => ?_)
        have hP : va_P D vwCl [(ax, .inr (4, [.ref aj, .ref ap, .ref ar, .ref arow, .ref ak, .int ed, .int dn, .int cp, .int ct])), (al, .inl (cI, 6, .inl (upd ln k ((((ln k).toInt64) + n.toInt64).toInt32)))), (aj, .inr (2, [.ref af, .ref al, .int (nI c), .int (nI f)]))] H := hP
        have hD : va_D A [(ax, .inr (4, [.ref aj, .ref ap, .ref ar, .ref arow, .ref ak, .int ed, .int dn, .int cp, .int ct])), (al, .inl (cI, 6, .inl (upd ln k ((((ln k).toInt64) + n.toInt64).toInt32)))), (aj, .inr (2, [.ref af, .ref al, .int (nI c), .int (nI f)]))] := hD
        refine lv_aload_n hx hb dX3_grow_55 rfl (lv_at hl 1 rfl) ?_
        refine va_get (D := D) (ci := 4) (v := .ref aj) (C := RX3) (T := TX3) (N := 9) hx hb hts iX3 hown hK hP 0 rfl rfl 0 (by decide) wf10 (fun _ h9 => h9) rfl dX3_grow_56 ?_
        refine va_get (D := D) (ci := 2) (v := .ref al) (C := RX1) (T := TX1) (N := 4) hx hb hts iX1 hown hK hP 2 rfl rfl 1 (by decide) wf69 (fun _ h9 => h9) rfl dX3_grow_59 ?_
        refine lv_iload_n hx hb dX3_grow_62 rfl (lv_at hl 2 rfl) ?_
        refine ct_topi (y := (nI k)) (hxk) ?_
        refine ct_iald (k := k) hx hb hK hP 1 0 rfl rfl (by omega) (by decide) dX3_grow_63 ?_
        have hb4 : ¬ (gr_v ln x.toNatClampNeg n < 0 ∨ 2000 < gr_v ln x.toNatClampNeg n) := by
          rw [hkc]
          exact fun q => q.elim (fun q => c_30 (cr_cmplt.mpr q)) (fun q => cr_cmpgt_not c_38 q)
        have hP9 := hP.sub (ws' := [(ax, .inr (4, [.ref aj, .ref ap, .ref ar, .ref arow, .ref ak, .int ed, .int dn, .int cp, .int ct])), (aj, .inr (2, [.ref af, .ref al, .int (nI c), .int (nI f)])), (al, .inl (cI, 6, .inl (upd ln k ((((ln k).toInt64) + n.toInt64).toInt32))))]) [0, 2, 1] rfl
        have hD9 := hD.sub (ws' := [(ax, .inr (4, [.ref aj, .ref ap, .ref ar, .ref arow, .ref ak, .int ed, .int dn, .int cp, .int ct])), (aj, .inr (2, [.ref af, .ref al, .int (nI c), .int (nI f)])), (al, .inl (cI, 6, .inl (upd ln k ((((ln k).toInt64) + n.toInt64).toInt32))))]) [0, 2, 1] (by decide) rfl
        refine W.widen (k := 0) (n := 0) (Nat.le_of_ble_eq_true rfl) (Nat.le_of_ble_eq_true rfl) ?_
        exact W.iret (v := ((upd ln k ((((ln k).toInt64) + n.toInt64).toInt32)) k)) hx hb hr (fun t9 ht9 hW9 => ⟨⟨((upd ln k ((((ln k).toInt64) + n.toInt64).toInt32)) k), ((upd ln k ((((ln k).toInt64) + n.toInt64).toInt32))), rfl, ⟨by unfold gr_r; rw [if_neg h0, if_neg hb4, hkc]; simp [upd, gr_v], by unfold gr_l; rw [if_neg h0, if_neg hb4, hkc]; rfl⟩, by rw [ht9]; exact hP9, va_K.moved hW9.alike hK, hD9⟩, hS.F ht9⟩) hS.2.2 dX3_grow_64
      · refine lv_bipush (v := (-4)) hx hb dX3_grow_41 (by decide) ?_
        have hb4 : gr_v ln x.toNatClampNeg n < 0 ∨ 2000 < gr_v ln x.toNatClampNeg n := by
          rw [hkc]
          first | exact Or.inl (cr_cmplt.mp c_30) | exact Or.inr (cr_cmpgt.mp c_38)
        have hP9 := hP.sub (ws' := [(ax, .inr (4, [.ref aj, .ref ap, .ref ar, .ref arow, .ref ak, .int ed, .int dn, .int cp, .int ct])), (aj, .inr (2, [.ref af, .ref al, .int (nI c), .int (nI f)])), (al, .inl (cI, 6, .inl ln))]) [0, 2, 1] rfl
        have hD9 := hD.sub (ws' := [(ax, .inr (4, [.ref aj, .ref ap, .ref ar, .ref arow, .ref ak, .int ed, .int dn, .int cp, .int ct])), (aj, .inr (2, [.ref af, .ref al, .int (nI c), .int (nI f)])), (al, .inl (cI, 6, .inl ln))]) [0, 2, 1] (by decide) rfl
        refine W.widen (k := 0) (n := 0) (Nat.le_of_ble_eq_true rfl) (Nat.le_of_ble_eq_true rfl) ?_
        exact W.iret (v := (-4)) hx hb hr (fun t9 ht9 hW9 => ⟨⟨(-4), (ln), rfl, ⟨by unfold gr_r; rw [if_neg h0, if_pos hb4], by unfold gr_l; rw [if_neg h0, if_pos hb4]⟩, by rw [ht9]; exact hP9, va_K.moved hW9.alike hK, hD9⟩, hS.F ht9⟩) hS.2.2 dX3_grow_43
  · have h0 := cr_if01 _ c_8
    refine lv_iconst (v := (-1)) hx hb dX3_grow_11 (by decide) ?_
    have hP9 := hP.sub (ws' := [(ax, .inr (4, [.ref aj, .ref ap, .ref ar, .ref arow, .ref ak, .int ed, .int dn, .int cp, .int ct])), (aj, .inr (2, [.ref af, .ref al, .int (nI c), .int (nI f)])), (al, .inl (cI, 6, .inl ln))]) [0, 2, 1] rfl
    have hD9 := hD.sub (ws' := [(ax, .inr (4, [.ref aj, .ref ap, .ref ar, .ref arow, .ref ak, .int ed, .int dn, .int cp, .int ct])), (aj, .inr (2, [.ref af, .ref al, .int (nI c), .int (nI f)])), (al, .inl (cI, 6, .inl ln))]) [0, 2, 1] (by decide) rfl
    refine W.widen (k := 0) (n := 0) (Nat.le_of_ble_eq_true rfl) (Nat.le_of_ble_eq_true rfl) ?_
    exact W.iret (v := (-1)) hx hb hr (fun t9 ht9 hW9 => ⟨⟨(-1), (ln), rfl, ⟨by unfold gr_r; rw [if_pos h0], by unfold gr_l; rw [if_pos h0]⟩, by rw [ht9]; exact hP9, va_K.moved hW9.alike hK, hD9⟩, hS.F ht9⟩) hS.2.2 dX3_grow_12
abbrev rm_X3_edition : Room := { frames := 0, cells := 0, slots := 0, locals := 0 }
abbrev qc_X3_edition (D : va_G) (cI cL cZ : ClassId) (ax : Nat) (aj : Nat) (ap : Nat) (ar : Nat) (arow : Nat) (ak : Nat) (ed : Int32) (dn : Int32) (cp : Int32) (ct : Int32) (x : Int32) (A : Nat → Prop) : Array Value → State → Outcome → State → Prop := va_Qi (fun (r : Int32) (u : Unit) => ed = r) (ct_B D vwCl [(cI, .int), (cL, .long), (cZ, .boolean)] A (fun (u : Unit) => [(ax, .inr (4, [.ref aj, .ref ap, .ref ar, .ref arow, .ref ak, .int x, .int dn, .int cp, .int ct]))])) A
set_option maxHeartbeats 4000000 in
set_option maxRecDepth 100000 in
theorem c_X3_edition (l : Launch) (D : va_G) (cI cL cZ : ClassId) (ax : Nat) (aj : Nat) (ap : Nat) (ar : Nat) (arow : Nat) (ak : Nat) (ed : Int32) (dn : Int32) (cp : Int32) (ct : Int32) (x : Int32) (sz : Nat)  : Met l yX3_edition wsX3_edition rm_X3_edition (va_Pc [.ref ax, .int x] (ct_P D vwCl [(cI, .int), (cL, .long), (cZ, .boolean)] [(ax, .inr (4, [.ref aj, .ref ap, .ref ar, .ref arow, .ref ak, .int ed, .int dn, .int cp, .int ct]))] sz)) (qc_X3_edition D cI cL cZ ax aj ap ar arow ak ed dn cp ct x (va_A [(ax, .inr (4, [.ref aj, .ref ap, .ref ar, .ref arow, .ref ak, .int ed, .int dn, .int cp, .int ct]))] sz)) 0 0 (va_A [(ax, .inr (4, [.ref aj, .ref ap, .ref ar, .ref arow, .ref ak, .int ed, .int dn, .int cp, .int ct]))] sz) := by
  refine Met.ofW (cc := cX3_edition) (maxL := 3) (ret := (some .int)) (by decide) rfl ?_
  intro p e s m args below meth cd s₁ B hml hv
  obtain ⟨rfl, hsz, hP, hK, hD0⟩ := hv
  have hx := B.exec
  have hb := B.bytes
  have hr := B.returns
  have hts := atoms_spec (ws := wsX3_edition) B.pre
  have iX3 : ∀ w ∈ wsX30, w ∈ wsX3_edition := by decide +kernel
  have wf39 := hts (.fieldLink RX3 39 "CheckRestart" "editionNow" "I") (by decide +kernel)
  have hown : s.vm.findClass RX3 = some m.cls := findClass_of_methodNamed B.named
  have hlocks := B.notSynchronized
  subst hsz
  have hD := hD0.self (sz := s.heap.size)
  generalize hAe : va_A [(ax, .inr (4, [.ref aj, .ref ap, .ref ar, .ref arow, .ref ak, .int ed, .int dn, .int cp, .int ct]))] s.heap.size = A at hD ⊢
  have hA : ∀ q : Nat, s.heap.size ≤ q → A q := fun q h => by rw [← hAe]; exact Or.inr h
  have hS : va_S A s.heap s.heap [] := va_S.rf
  have hl := lv_entry ([.ref ax, .int x]) (n := 3) (Nat.le_of_ble_eq_true rfl)
  rw [lg_entry_eq]
  generalize (lg_sl ([.ref ax, .int x]) ++ List.replicate (3 - (lg_sl ([.ref ax, .int x])).length) Slot.unset).toArray = ls at hl ⊢
  have hl : lv_has ls 3 [(0, .ref ax), (1, .int x)] := hl
  refine lv_aload_n hx hb dX3_edition_0 rfl (lv_at hl 0 rfl) ?_
  refine va_get (D := D) (ci := 4) (v := .int ed) (C := RX3) (T := TX3) (N := 9) hx hb hts iX3 hown hK hP 0 rfl rfl 5 (by decide) wf39 (fun _ h9 => h9) rfl dX3_edition_1 ?_
  refine lv_istore_n (lv' := [(2, .int ed), (0, .ref ax), (1, .int x)]) hx hb dX3_edition_4 rfl hl (by decide) rfl (fun ls hl => ?_)
  refine lv_aload_n hx hb dX3_edition_5 rfl (lv_at hl 1 rfl) ?_
  refine lv_iload_n hx hb dX3_edition_6 rfl (lv_at hl 2 rfl) ?_
  refine va_put (D := D) (ci := 4) (v := .int x) (ty := .int) (C := RX3) (T := TX3) (N := 9) hx hb hts iX3 tyX3 tyX3_ok nmX3 hown hK hP hD hS 0 rfl rfl 5 (by decide) wf39 (fun _ h9 => h9) rfl (by decide +kernel) rfl rfl (Nat.le_of_ble_eq_true rfl) dX3_edition_7 (fun H locs hP hD hS => ?_)
  have hP : va_P D vwCl [(ax, .inr (4, [.ref aj, .ref ap, .ref ar, .ref arow, .ref ak, .int x, .int dn, .int cp, .int ct]))] H := hP
  have hD : va_D A [(ax, .inr (4, [.ref aj, .ref ap, .ref ar, .ref arow, .ref ak, .int x, .int dn, .int cp, .int ct]))] := hD
  refine lv_iload_n hx hb dX3_edition_10 rfl (lv_at hl 0 rfl) ?_
  have hP9 := hP.sub (ws' := [(ax, .inr (4, [.ref aj, .ref ap, .ref ar, .ref arow, .ref ak, .int x, .int dn, .int cp, .int ct]))]) [0] rfl
  have hD9 := hD.sub (ws' := [(ax, .inr (4, [.ref aj, .ref ap, .ref ar, .ref arow, .ref ak, .int x, .int dn, .int cp, .int ct]))]) [0] (by decide) rfl
  refine W.widen (k := 0) (n := 0) (Nat.le_of_ble_eq_true rfl) (Nat.le_of_ble_eq_true rfl) ?_
  exact W.iret (v := ed) hx hb hr (fun t9 ht9 hW9 => ⟨⟨ed, (), rfl, by first | rfl | (simp []; done), by rw [ht9]; exact hP9, va_K.moved hW9.alike hK, hD9⟩, hS.F ht9⟩) hS.2.2 dX3_edition_11
abbrev rm_X3_output : Room := { frames := 1, cells := 0, slots := 0, locals := 21 }
abbrev qc_X3_output (D : va_G) (cI cL cZ : ClassId) (ax : Nat) (aj : Nat) (ap : Nat) (ar : Nat) (arow : Nat) (ak : Nat) (ed : Int32) (dn : Int32) (cp : Int32) (ct : Int32) (apc : Nat) (app : Nat) (t : Nat) (ro : Nat → Int64) (x : Int32) (A : Nat → Prop) : Array Value → State → Outcome → State → Prop := va_Qi (fun (r : Int32) (u : Unit) => ((if x < 0 ∨ nI t ≤ x then 0 else (ro x.toNatClampNeg).toInt32) = r)) (ct_B D vwCl [(cI, .int), (cL, .long), (cZ, .boolean)] A (fun (u : Unit) => [(ax, .inr (4, [.ref aj, .ref ap, .ref ar, .ref arow, .ref ak, .int ed, .int dn, .int cp, .int ct])), (ap, .inr (3, [.ref aj, .ref apc, .ref app, .int (nI t)])), (arow, .inl (cL, 5000, .inr (.inl ro)))])) A
set_option maxHeartbeats 4000000 in
set_option maxRecDepth 100000 in
theorem c_X3_output (l : Launch) (D : va_G) (cI cL cZ : ClassId) (ax : Nat) (aj : Nat) (ap : Nat) (ar : Nat) (arow : Nat) (ak : Nat) (ed : Int32) (dn : Int32) (cp : Int32) (ct : Int32) (apc : Nat) (app : Nat) (t : Nat) (ro : Nat → Int64) (x : Int32) (sz : Nat) (ht : t ≤ 5000) : Met l yX3_output wsX3_output rm_X3_output (va_Pc [.ref ax, .int x] (ct_P D vwCl [(cI, .int), (cL, .long), (cZ, .boolean)] [(ax, .inr (4, [.ref aj, .ref ap, .ref ar, .ref arow, .ref ak, .int ed, .int dn, .int cp, .int ct])), (ap, .inr (3, [.ref aj, .ref apc, .ref app, .int (nI t)])), (arow, .inl (cL, 5000, .inr (.inl ro)))] sz)) (qc_X3_output D cI cL cZ ax aj ap ar arow ak ed dn cp ct apc app t ro x (va_A [(ax, .inr (4, [.ref aj, .ref ap, .ref ar, .ref arow, .ref ak, .int ed, .int dn, .int cp, .int ct])), (ap, .inr (3, [.ref aj, .ref apc, .ref app, .int (nI t)])), (arow, .inl (cL, 5000, .inr (.inl ro)))] sz)) 0 0 (va_A [(ax, .inr (4, [.ref aj, .ref ap, .ref ar, .ref arow, .ref ak, .int ed, .int dn, .int cp, .int ct])), (ap, .inr (3, [.ref aj, .ref apc, .ref app, .int (nI t)])), (arow, .inl (cL, 5000, .inr (.inl ro)))] sz) := by
  refine Met.ofW (cc := cX3_output) (maxL := 2) (ret := (some .int)) (by decide) rfl ?_
  intro p e s m args below meth cd s₁ B hml hv
  obtain ⟨rfl, hsz, hP, hK, hD0⟩ := hv
  have hx := B.exec
  have hb := B.bytes
  have hr := B.returns
  have hts := atoms_spec (ws := wsX3_output) B.pre
  have iX3 : ∀ w ∈ wsX30, w ∈ wsX3_output := by decide +kernel
  have wf28 := hts (.fieldLink RX3 28 "CheckRestart" "rows" "[J") (by decide +kernel)
  have hown : s.vm.findClass RX3 = some m.cls := findClass_of_methodNamed B.named
  have hlocks := B.notSynchronized
  subst hsz
  have hD := hD0.self (sz := s.heap.size)
  generalize hAe : va_A [(ax, .inr (4, [.ref aj, .ref ap, .ref ar, .ref arow, .ref ak, .int ed, .int dn, .int cp, .int ct])), (ap, .inr (3, [.ref aj, .ref apc, .ref app, .int (nI t)])), (arow, .inl (cL, 5000, .inr (.inl ro)))] s.heap.size = A at hD ⊢
  have hA : ∀ q : Nat, s.heap.size ≤ q → A q := fun q h => by rw [← hAe]; exact Or.inr h
  have hS : va_S A s.heap s.heap [] := va_S.rf
  have hl := lv_entry ([.ref ax, .int x]) (n := 2) (Nat.le_of_ble_eq_true rfl)
  rw [lg_entry_eq]
  generalize (lg_sl ([.ref ax, .int x]) ++ List.replicate (2 - (lg_sl ([.ref ax, .int x])).length) Slot.unset).toArray = ls at hl ⊢
  have hl : lv_has ls 2 [(0, .ref ax), (1, .int x)] := hl
  refine lv_aload_n hx hb dX3_output_0 rfl (lv_at hl 0 rfl) ?_
  refine lv_iload_n hx hb dX3_output_1 rfl (lv_at hl 1 rfl) ?_
  refine ct_calli (wr := [(arow, .inl (cL, 5000, .inr (.inl ro)))]) (rest := []) hP hD hS hA [0, 1] [2] (va_runV (C := RX3) (As := [.int x]) ⟨hx, hb, hml, hown, hts⟩ (c_X3_hasRow l D cI cL cZ ax aj ap ar arow ak ed dn cp ct apc app t x _ ) (cwV 1 hts gX3_output_X3_hasRow rfl rfl rfl (by decide +kernel) ⟨Nat.le_of_ble_eq_true rfl, Nat.le_of_ble_eq_true rfl⟩) (ct_preV (q0 := 0) (ci := 4) hK hP hD [0, 1] (by decide) rfl rfl rfl rfl rfl) rfl rfl hl.1 rfl (lv_room (Nat.le_of_ble_eq_true rfl)) dX3_output_2 ⟨Nat.le_of_ble_eq_true rfl, Nat.le_of_ble_eq_true rfl⟩) rfl rfl (by decide) (by decide) (fun r_1 u H locs hw hP hD hS => ?_)
  try dsimp only at hw
  obtain rfl := hw
  have hP : va_P D vwCl [(arow, .inl (cL, 5000, .inr (.inl ro))), (ax, .inr (4, [.ref aj, .ref ap, .ref ar, .ref arow, .ref ak, .int ed, .int dn, .int cp, .int ct])), (ap, .inr (3, [.ref aj, .ref apc, .ref app, .int (nI t)]))] H := hP
  have hD : va_D A [(arow, .inl (cL, 5000, .inr (.inl ro))), (ax, .inr (4, [.ref aj, .ref ap, .ref ar, .ref arow, .ref ak, .int ed, .int dn, .int cp, .int ct])), (ap, .inr (3, [.ref aj, .ref apc, .ref app, .int (nI t)]))] := hD
  refine lv_if_eq (tgt := 18) hx hb dX3_output_5 (by decide) (fun c_5 => ?_) (fun c_5 => ?_)
  · have h0 := cr_if01 _ c_5
    refine lv_iconst (v := 0) hx hb dX3_output_18 (by decide) ?_
    have hP9 := hP.sub (ws' := [(ax, .inr (4, [.ref aj, .ref ap, .ref ar, .ref arow, .ref ak, .int ed, .int dn, .int cp, .int ct])), (ap, .inr (3, [.ref aj, .ref apc, .ref app, .int (nI t)])), (arow, .inl (cL, 5000, .inr (.inl ro)))]) [1, 2, 0] rfl
    have hD9 := hD.sub (ws' := [(ax, .inr (4, [.ref aj, .ref ap, .ref ar, .ref arow, .ref ak, .int ed, .int dn, .int cp, .int ct])), (ap, .inr (3, [.ref aj, .ref apc, .ref app, .int (nI t)])), (arow, .inl (cL, 5000, .inr (.inl ro)))]) [1, 2, 0] (by decide) rfl
    refine W.widen (k := 0) (n := 0) (Nat.le_of_ble_eq_true rfl) (Nat.le_of_ble_eq_true rfl) ?_
    exact W.iret (v := 0) hx hb hr (fun t9 ht9 hW9 => ⟨⟨0, (), rfl, by rw [if_pos h0], by rw [ht9]; exact hP9, va_K.moved hW9.alike hK, hD9⟩, hS.F ht9⟩) hS.2.2 dX3_output_19
  · have h0 := cr_if01n _ c_5
    obtain ⟨k, hk, hxk⟩ := cr_ix (by omega) h0
    refine lv_aload_n hx hb dX3_output_8 rfl (lv_at hl 0 rfl) ?_
    refine va_get (D := D) (ci := 4) (v := .ref arow) (C := RX3) (T := TX3) (N := 9) hx hb hts iX3 hown hK hP 1 rfl rfl 3 (by decide) wf28 (fun _ h9 => h9) rfl dX3_output_9 ?_
    refine lv_iload_n hx hb dX3_output_12 rfl (lv_at hl 1 rfl) ?_
    refine ct_topi (y := (nI k)) (hxk) ?_
    refine ct_lald (k := k) hx hb hK hP 0 1 rfl rfl (by omega) (by decide) dX3_output_13 ?_
    refine lv_l2i hx hb dX3_output_14 rfl ?_
    refine lv_goto (tgt := 19) hx hb dX3_output_15 (by decide) ?_
    have hP9 := hP.sub (ws' := [(ax, .inr (4, [.ref aj, .ref ap, .ref ar, .ref arow, .ref ak, .int ed, .int dn, .int cp, .int ct])), (ap, .inr (3, [.ref aj, .ref apc, .ref app, .int (nI t)])), (arow, .inl (cL, 5000, .inr (.inl ro)))]) [1, 2, 0] rfl
    have hD9 := hD.sub (ws' := [(ax, .inr (4, [.ref aj, .ref ap, .ref ar, .ref arow, .ref ak, .int ed, .int dn, .int cp, .int ct])), (ap, .inr (3, [.ref aj, .ref apc, .ref app, .int (nI t)])), (arow, .inl (cL, 5000, .inr (.inl ro)))]) [1, 2, 0] (by decide) rfl
    refine W.widen (k := 0) (n := 0) (Nat.le_of_ble_eq_true rfl) (Nat.le_of_ble_eq_true rfl) ?_
    exact W.iret (v := (ro k).toInt32) hx hb hr (fun t9 ht9 hW9 => ⟨⟨(ro k).toInt32, (), rfl, by rw [if_neg h0, hxk, nI_clamp (by omega)], by rw [ht9]; exact hP9, va_K.moved hW9.alike hK, hD9⟩, hS.F ht9⟩) hS.2.2 dX3_output_19
abbrev rm_X3_torn : Room := { frames := 1, cells := 0, slots := 0, locals := 21 }
abbrev qc_X3_torn (D : va_G) (cI cL cZ : ClassId) (ax : Nat) (aj : Nat) (ap : Nat) (ar : Nat) (arow : Nat) (ak : Nat) (ed : Int32) (dn : Int32) (cp : Int32) (ct : Int32) (akw : Nat) (ake : Nat) (aku : Nat) (akn : Nat) (akc : Nat) (akp : Nat) (kb : Nat) (kw : Nat → Int32) (x : Int32) (A : Nat → Prop) : Array Value → State → Outcome → State → Prop := va_Qi (fun (r : Int32) (u : Unit) => ((if x < 1 ∨ nI kb < x then -1 else if kw (x.toNatClampNeg - 1) = 0 then 1 else 0) = r)) (ct_B D vwCl [(cI, .int), (cL, .long), (cZ, .boolean)] A (fun (u : Unit) => [(ax, .inr (4, [.ref aj, .ref ap, .ref ar, .ref arow, .ref ak, .int ed, .int dn, .int cp, .int ct])), (ak, .inr (1, [.ref akw, .ref ake, .ref aku, .ref akn, .ref akc, .ref akp, .int (nI kb)])), (akw, .inl (cZ, 100, .inl kw))])) A
set_option maxHeartbeats 4000000 in
set_option maxRecDepth 100000 in
theorem c_X3_torn (l : Launch) (D : va_G) (cI cL cZ : ClassId) (ax : Nat) (aj : Nat) (ap : Nat) (ar : Nat) (arow : Nat) (ak : Nat) (ed : Int32) (dn : Int32) (cp : Int32) (ct : Int32) (akw : Nat) (ake : Nat) (aku : Nat) (akn : Nat) (akc : Nat) (akp : Nat) (kb : Nat) (kw : Nat → Int32) (x : Int32) (sz : Nat) (hkb : kb ≤ 100) : Met l yX3_torn wsX3_torn rm_X3_torn (va_Pc [.ref ax, .int x] (ct_P D vwCl [(cI, .int), (cL, .long), (cZ, .boolean)] [(ax, .inr (4, [.ref aj, .ref ap, .ref ar, .ref arow, .ref ak, .int ed, .int dn, .int cp, .int ct])), (ak, .inr (1, [.ref akw, .ref ake, .ref aku, .ref akn, .ref akc, .ref akp, .int (nI kb)])), (akw, .inl (cZ, 100, .inl kw))] sz)) (qc_X3_torn D cI cL cZ ax aj ap ar arow ak ed dn cp ct akw ake aku akn akc akp kb kw x (va_A [(ax, .inr (4, [.ref aj, .ref ap, .ref ar, .ref arow, .ref ak, .int ed, .int dn, .int cp, .int ct])), (ak, .inr (1, [.ref akw, .ref ake, .ref aku, .ref akn, .ref akc, .ref akp, .int (nI kb)])), (akw, .inl (cZ, 100, .inl kw))] sz)) 0 0 (va_A [(ax, .inr (4, [.ref aj, .ref ap, .ref ar, .ref arow, .ref ak, .int ed, .int dn, .int cp, .int ct])), (ak, .inr (1, [.ref akw, .ref ake, .ref aku, .ref akn, .ref akc, .ref akp, .int (nI kb)])), (akw, .inl (cZ, 100, .inl kw))] sz) := by
  refine Met.ofW (cc := cX3_torn) (maxL := 2) (ret := (some .int)) (by decide) rfl ?_
  intro p e s m args below meth cd s₁ B hml hv
  obtain ⟨rfl, hsz, hP, hK, hD0⟩ := hv
  have hx := B.exec
  have hb := B.bytes
  have hr := B.returns
  have hts := atoms_spec (ws := wsX3_torn) B.pre
  have iX3 : ∀ w ∈ wsX30, w ∈ wsX3_torn := by decide +kernel
  have wf35 := hts (.fieldLink RX3 35 "CheckRestart" "checkpoints" "LCheckRestart$Checkpoints;") (by decide +kernel)
  have iX0 : ∀ w ∈ wsX00, w ∈ wsX3_torn := by decide +kernel
  have wf133 := hts (.fieldLink RX3 133 "CheckRestart$Checkpoints" "whole" "[Z") (by decide +kernel)
  have hown : s.vm.findClass RX3 = some m.cls := findClass_of_methodNamed B.named
  have hlocks := B.notSynchronized
  subst hsz
  have hD := hD0.self (sz := s.heap.size)
  generalize hAe : va_A [(ax, .inr (4, [.ref aj, .ref ap, .ref ar, .ref arow, .ref ak, .int ed, .int dn, .int cp, .int ct])), (ak, .inr (1, [.ref akw, .ref ake, .ref aku, .ref akn, .ref akc, .ref akp, .int (nI kb)])), (akw, .inl (cZ, 100, .inl kw))] s.heap.size = A at hD ⊢
  have hA : ∀ q : Nat, s.heap.size ≤ q → A q := fun q h => by rw [← hAe]; exact Or.inr h
  have hS : va_S A s.heap s.heap [] := va_S.rf
  have hl := lv_entry ([.ref ax, .int x]) (n := 2) (Nat.le_of_ble_eq_true rfl)
  rw [lg_entry_eq]
  generalize (lg_sl ([.ref ax, .int x]) ++ List.replicate (2 - (lg_sl ([.ref ax, .int x])).length) Slot.unset).toArray = ls at hl ⊢
  have hl : lv_has ls 2 [(0, .ref ax), (1, .int x)] := hl
  refine lv_aload_n hx hb dX3_torn_0 rfl (lv_at hl 0 rfl) ?_
  refine va_get (D := D) (ci := 4) (v := .ref ak) (C := RX3) (T := TX3) (N := 9) hx hb hts iX3 hown hK hP 0 rfl rfl 4 (by decide) wf35 (fun _ h9 => h9) rfl dX3_torn_1 ?_
  refine lv_iload_n hx hb dX3_torn_4 rfl (lv_at hl 1 rfl) ?_
  refine ct_calli (wr := [(ax, .inr (4, [.ref aj, .ref ap, .ref ar, .ref arow, .ref ak, .int ed, .int dn, .int cp, .int ct])), (akw, .inl (cZ, 100, .inl kw))]) (rest := []) hP hD hS hA [1] [0, 2] (va_runV (C := RX0) (As := [.int x]) ⟨hx, hb, hml, hown, hts⟩ (c_X0_has l D cI cL cZ ak akw ake aku akn akc akp kb x _ ) (cwV 1 hts gX3_torn_X0_has rfl rfl rfl (by decide +kernel) ⟨Nat.le_of_ble_eq_true rfl, Nat.le_of_ble_eq_true rfl⟩) (ct_preV (q0 := 0) (ci := 1) hK hP hD [1] (by decide) rfl rfl rfl rfl rfl) rfl rfl hl.1 rfl (lv_room (Nat.le_of_ble_eq_true rfl)) dX3_torn_5 ⟨Nat.le_of_ble_eq_true rfl, Nat.le_of_ble_eq_true rfl⟩) rfl rfl (by decide) (by decide) (fun r_1 u H locs hw hP hD hS => ?_)
  try dsimp only at hw
  obtain rfl := hw
  have hP : va_P D vwCl [(ax, .inr (4, [.ref aj, .ref ap, .ref ar, .ref arow, .ref ak, .int ed, .int dn, .int cp, .int ct])), (akw, .inl (cZ, 100, .inl kw)), (ak, .inr (1, [.ref akw, .ref ake, .ref aku, .ref akn, .ref akc, .ref akp, .int (nI kb)]))] H := hP
  have hD : va_D A [(ax, .inr (4, [.ref aj, .ref ap, .ref ar, .ref arow, .ref ak, .int ed, .int dn, .int cp, .int ct])), (akw, .inl (cZ, 100, .inl kw)), (ak, .inr (1, [.ref akw, .ref ake, .ref aku, .ref akn, .ref akc, .ref akp, .int (nI kb)]))] := hD
  refine lv_if_ne (tgt := 13) hx hb dX3_torn_8 (by decide) (fun c_8 => ?_) (fun c_8 => ?_)
  · obtain ⟨k, hk1, hk2, hxk, h0⟩ := cr_has (by omega) c_8
    refine lv_aload_n hx hb dX3_torn_13 rfl (lv_at hl 0 rfl) ?_
    refine va_get (D := D) (ci := 4) (v := .ref ak) (C := RX3) (T := TX3) (N := 9) hx hb hts iX3 hown hK hP 0 rfl rfl 4 (by decide) wf35 (fun _ h9 => h9) rfl dX3_torn_14 ?_
    refine va_get (D := D) (ci := 1) (v := .ref akw) (C := RX0) (T := TX0) (N := 7) hx hb hts iX0 hown hK hP 2 rfl rfl 0 (by decide) wf133 (fun _ h9 => h9) rfl dX3_torn_17 ?_
    refine lv_iload_n hx hb dX3_torn_20 rfl (lv_at hl 1 rfl) ?_
    refine ct_topi (y := (nI k)) (hxk) ?_
    refine lv_iconst (v := 1) hx hb dX3_torn_21 (by decide) ?_
    refine lv_isub hx hb dX3_torn_22 ?_
    refine ct_topi (y := (nI (k - 1))) (pk_sub (a := k) (b := 1) (by omega)) ?_
    refine ct_zald (k := (k - 1)) hx hb hK hP 1 2 rfl rfl (by omega) (by decide) dX3_torn_23 ?_
    refine lv_if_ne (tgt := 31) hx hb dX3_torn_24 (by decide) (fun c_24 => ?_) (fun c_24 => ?_)
    · refine lv_iconst (v := 0) hx hb dX3_torn_31 (by decide) ?_
      refine ct_calli (wr := [(ax, .inr (4, [.ref aj, .ref ap, .ref ar, .ref arow, .ref ak, .int ed, .int dn, .int cp, .int ct])), (akw, .inl (cZ, 100, .inl kw)), (ak, .inr (1, [.ref akw, .ref ake, .ref aku, .ref akn, .ref akc, .ref akp, .int (nI kb)]))]) (rest := []) hP hD hS hA [] [0, 1, 2] (va_runS (As := [.int 0]) ⟨hx, hb, hml, hown, hts⟩ (c_X3_asNumber l D cI cL cZ 0 _ ) (va_cwS 1 hts gX3_torn_X3_asNumber rfl rfl rfl (by decide +kernel) ⟨Nat.le_of_ble_eq_true rfl, Nat.le_of_ble_eq_true rfl⟩) (ct_preS hK hP hD [] (by decide) rfl rfl) rfl rfl hl.1 rfl (lv_room (Nat.le_of_ble_eq_true rfl)) dX3_torn_32 ⟨Nat.le_of_ble_eq_true rfl, Nat.le_of_ble_eq_true rfl⟩) rfl rfl (by decide) (by decide) (fun r_2 u H locs hw hP hD hS => ?_)
      try dsimp only at hw
      obtain rfl := hw
      have hP : va_P D vwCl [(ax, .inr (4, [.ref aj, .ref ap, .ref ar, .ref arow, .ref ak, .int ed, .int dn, .int cp, .int ct])), (akw, .inl (cZ, 100, .inl kw)), (ak, .inr (1, [.ref akw, .ref ake, .ref aku, .ref akn, .ref akc, .ref akp, .int (nI kb)]))] H := hP
      have hD : va_D A [(ax, .inr (4, [.ref aj, .ref ap, .ref ar, .ref arow, .ref ak, .int ed, .int dn, .int cp, .int ct])), (akw, .inl (cZ, 100, .inl kw)), (ak, .inr (1, [.ref akw, .ref ake, .ref aku, .ref akn, .ref akc, .ref akp, .int (nI kb)]))] := hD
      have hP9 := hP.sub (ws' := [(ax, .inr (4, [.ref aj, .ref ap, .ref ar, .ref arow, .ref ak, .int ed, .int dn, .int cp, .int ct])), (ak, .inr (1, [.ref akw, .ref ake, .ref aku, .ref akn, .ref akc, .ref akp, .int (nI kb)])), (akw, .inl (cZ, 100, .inl kw))]) [0, 2, 1] rfl
      have hD9 := hD.sub (ws' := [(ax, .inr (4, [.ref aj, .ref ap, .ref ar, .ref arow, .ref ak, .int ed, .int dn, .int cp, .int ct])), (ak, .inr (1, [.ref akw, .ref ake, .ref aku, .ref akn, .ref akc, .ref akp, .int (nI kb)])), (akw, .inl (cZ, 100, .inl kw))]) [0, 2, 1] (by decide) rfl
      refine W.widen (k := 0) (n := 0) (Nat.le_of_ble_eq_true rfl) (Nat.le_of_ble_eq_true rfl) ?_
      exact W.iret (v := (if 0 = 0 then 0 else 1)) hx hb hr (fun t9 ht9 hW9 => ⟨⟨(if 0 = 0 then 0 else 1), (), rfl, by rw [if_neg h0, hxk, nI_clamp (by omega)]; simp [c_24], by rw [ht9]; exact hP9, va_K.moved hW9.alike hK, hD9⟩, hS.F ht9⟩) hS.2.2 dX3_torn_35
    · refine lv_iconst (v := 1) hx hb dX3_torn_27 (by decide) ?_
      refine lv_goto (tgt := 32) hx hb dX3_torn_28 (by decide) ?_
      refine ct_calli (wr := [(ax, .inr (4, [.ref aj, .ref ap, .ref ar, .ref arow, .ref ak, .int ed, .int dn, .int cp, .int ct])), (akw, .inl (cZ, 100, .inl kw)), (ak, .inr (1, [.ref akw, .ref ake, .ref aku, .ref akn, .ref akc, .ref akp, .int (nI kb)]))]) (rest := []) hP hD hS hA [] [0, 1, 2] (va_runS (As := [.int 1]) ⟨hx, hb, hml, hown, hts⟩ (c_X3_asNumber l D cI cL cZ 1 _ ) (va_cwS 1 hts gX3_torn_X3_asNumber rfl rfl rfl (by decide +kernel) ⟨Nat.le_of_ble_eq_true rfl, Nat.le_of_ble_eq_true rfl⟩) (ct_preS hK hP hD [] (by decide) rfl rfl) rfl rfl hl.1 rfl (lv_room (Nat.le_of_ble_eq_true rfl)) dX3_torn_32 ⟨Nat.le_of_ble_eq_true rfl, Nat.le_of_ble_eq_true rfl⟩) rfl rfl (by decide) (by decide) (fun r_3 u H locs hw hP hD hS => ?_)
      try dsimp only at hw
      obtain rfl := hw
      have hP : va_P D vwCl [(ax, .inr (4, [.ref aj, .ref ap, .ref ar, .ref arow, .ref ak, .int ed, .int dn, .int cp, .int ct])), (akw, .inl (cZ, 100, .inl kw)), (ak, .inr (1, [.ref akw, .ref ake, .ref aku, .ref akn, .ref akc, .ref akp, .int (nI kb)]))] H := hP
      have hD : va_D A [(ax, .inr (4, [.ref aj, .ref ap, .ref ar, .ref arow, .ref ak, .int ed, .int dn, .int cp, .int ct])), (akw, .inl (cZ, 100, .inl kw)), (ak, .inr (1, [.ref akw, .ref ake, .ref aku, .ref akn, .ref akc, .ref akp, .int (nI kb)]))] := hD
      have hP9 := hP.sub (ws' := [(ax, .inr (4, [.ref aj, .ref ap, .ref ar, .ref arow, .ref ak, .int ed, .int dn, .int cp, .int ct])), (ak, .inr (1, [.ref akw, .ref ake, .ref aku, .ref akn, .ref akc, .ref akp, .int (nI kb)])), (akw, .inl (cZ, 100, .inl kw))]) [0, 2, 1] rfl
      have hD9 := hD.sub (ws' := [(ax, .inr (4, [.ref aj, .ref ap, .ref ar, .ref arow, .ref ak, .int ed, .int dn, .int cp, .int ct])), (ak, .inr (1, [.ref akw, .ref ake, .ref aku, .ref akn, .ref akc, .ref akp, .int (nI kb)])), (akw, .inl (cZ, 100, .inl kw))]) [0, 2, 1] (by decide) rfl
      refine W.widen (k := 0) (n := 0) (Nat.le_of_ble_eq_true rfl) (Nat.le_of_ble_eq_true rfl) ?_
      exact W.iret (v := (if 1 = 0 then 0 else 1)) hx hb hr (fun t9 ht9 hW9 => ⟨⟨(if 1 = 0 then 0 else 1), (), rfl, by rw [if_neg h0, hxk, nI_clamp (by omega)]; simp [c_24], by rw [ht9]; exact hP9, va_K.moved hW9.alike hK, hD9⟩, hS.F ht9⟩) hS.2.2 dX3_torn_35
  · have h0 := cr_if01 _ c_8
    refine lv_iconst (v := (-1)) hx hb dX3_torn_11 (by decide) ?_
    have hP9 := hP.sub (ws' := [(ax, .inr (4, [.ref aj, .ref ap, .ref ar, .ref arow, .ref ak, .int ed, .int dn, .int cp, .int ct])), (ak, .inr (1, [.ref akw, .ref ake, .ref aku, .ref akn, .ref akc, .ref akp, .int (nI kb)])), (akw, .inl (cZ, 100, .inl kw))]) [0, 2, 1] rfl
    have hD9 := hD.sub (ws' := [(ax, .inr (4, [.ref aj, .ref ap, .ref ar, .ref arow, .ref ak, .int ed, .int dn, .int cp, .int ct])), (ak, .inr (1, [.ref akw, .ref ake, .ref aku, .ref akn, .ref akc, .ref akp, .int (nI kb)])), (akw, .inl (cZ, 100, .inl kw))]) [0, 2, 1] (by decide) rfl
    refine W.widen (k := 0) (n := 0) (Nat.le_of_ble_eq_true rfl) (Nat.le_of_ble_eq_true rfl) ?_
    exact W.iret (v := (-1)) hx hb hr (fun t9 ht9 hW9 => ⟨⟨(-1), (), rfl, by rw [if_pos h0], by rw [ht9]; exact hP9, va_K.moved hW9.alike hK, hD9⟩, hS.F ht9⟩) hS.2.2 dX3_torn_12
end
section
abbrev rm_X3_init : Room := { frames := 2, cells := 17, slots := 7273, locals := 33 }
abbrev qc_X3_init (D : va_G) (cI cL cZ : ClassId) (ax : Nat) (A : Nat → Prop) : Array Value → State → Outcome → State → Prop := va_Qv (fun (u : Nat × Nat × Nat × Nat × Nat × Nat × Nat × Nat × Nat × Nat × Nat × Nat × Nat × Nat × Nat × Nat × Nat) => True) (ct_B D vwCl [(cI, .int), (cL, .long), (cZ, .boolean)] A (fun (u : Nat × Nat × Nat × Nat × Nat × Nat × Nat × Nat × Nat × Nat × Nat × Nat × Nat × Nat × Nat × Nat × Nat) => [(ax, .inr (4, [.ref u.1, .ref u.2.2.2.1, .ref u.2.2.2.2.2.2.1, .ref u.2.2.2.2.2.2.2.2.2.1, .ref u.2.2.2.2.2.2.2.2.2.2.1, .int 0, .int 0, .int 0, .int 0])), (u.1, .inr (2, [.ref u.2.1, .ref u.2.2.1, .int 0, .int 0])), (u.2.1, .inl (cL, 12, .inr (.inl (fun _ => 0)))), (u.2.2.1, .inl (cI, 6, .inl (fun _ => 0))), (u.2.2.2.1, .inr (3, [.ref u.1, .ref u.2.2.2.2.1, .ref u.2.2.2.2.2.1, .int 0])), (u.2.2.2.2.1, .inl (cL, 12, .inr (.inl (fun _ => 0)))), (u.2.2.2.2.2.1, .inl (cI, 6, .inl (fun _ => 0))), (u.2.2.2.2.2.2.1, .inr (3, [.ref u.1, .ref u.2.2.2.2.2.2.2.1, .ref u.2.2.2.2.2.2.2.2.1, .int 0])), (u.2.2.2.2.2.2.2.1, .inl (cL, 12, .inr (.inl (fun _ => 0)))), (u.2.2.2.2.2.2.2.2.1, .inl (cI, 6, .inl (fun _ => 0))), (u.2.2.2.2.2.2.2.2.2.1, .inl (cL, 5000, .inr (.inl (fun _ => 0)))), (u.2.2.2.2.2.2.2.2.2.2.1, .inr (1, [.ref u.2.2.2.2.2.2.2.2.2.2.2.1, .ref u.2.2.2.2.2.2.2.2.2.2.2.2.1, .ref u.2.2.2.2.2.2.2.2.2.2.2.2.2.1, .ref u.2.2.2.2.2.2.2.2.2.2.2.2.2.2.1, .ref u.2.2.2.2.2.2.2.2.2.2.2.2.2.2.2.1, .ref u.2.2.2.2.2.2.2.2.2.2.2.2.2.2.2.2, .int 0])), (u.2.2.2.2.2.2.2.2.2.2.2.1, .inl (cZ, 100, .inl (fun _ => 0))), (u.2.2.2.2.2.2.2.2.2.2.2.2.1, .inl (cI, 100, .inl (fun _ => 0))), (u.2.2.2.2.2.2.2.2.2.2.2.2.2.1, .inl (cI, 100, .inl (fun _ => 0))), (u.2.2.2.2.2.2.2.2.2.2.2.2.2.2.1, .inl (cI, 100, .inl (fun _ => 0))), (u.2.2.2.2.2.2.2.2.2.2.2.2.2.2.2.1, .inl (cL, 1200, .inr (.inl (fun _ => 0)))), (u.2.2.2.2.2.2.2.2.2.2.2.2.2.2.2.2, .inl (cI, 600, .inl (fun _ => 0)))])) A
set_option maxHeartbeats 4000000 in
set_option maxRecDepth 100000 in
theorem c_X3_init (l : Launch) (D : va_G) (cI cL cZ : ClassId) (ax : Nat) (sz : Nat)  : Met l yX3_init wsX3_init rm_X3_init (va_Pc [.ref ax] (fun U => ct_P D vwCl [(cI, .int), (cL, .long), (cZ, .boolean)] [(ax, .inr (4, [.null, .null, .null, .null, .null, .int 0, .int 0, .int 0, .int 0]))] sz U ∧ va_Nw (.methodLinkNest RX3 9 yX1_init "CheckRestart") U ∧ va_Nw (.methodLinkNest RX3 34 yX0_init "CheckRestart") U)) (qc_X3_init D cI cL cZ ax (va_A [(ax, .inr (4, [.null, .null, .null, .null, .null, .int 0, .int 0, .int 0, .int 0]))] sz)) 17 7273 (va_A [(ax, .inr (4, [.null, .null, .null, .null, .null, .int 0, .int 0, .int 0, .int 0]))] sz) := by
  refine Met.ofW (cc := cX3_init) (maxL := 1) (ret := none) (by decide) rfl ?_
  intro p e s m args below meth cd s₁ B hml hv
  obtain ⟨rfl, ⟨hsz, hP, hK, hD0⟩, hn9, hn34⟩ := hv
  have hx := B.exec
  have hb := B.bytes
  have hr := B.returns
  have hts := atoms_spec (ws := wsX3_init) B.pre
  have wo1 := hts (.methodLink RX3 1 objectInit) (by decide +kernel)
  have wo2 := hts (.instanceMethod objectInit) (by decide +kernel)
  have wo3 := hts (.code objectInit ⟨#[0xb1]⟩ 1 none) (List.mem_of_getElem? (i := 3) rfl)
  have iX1 : ∀ w ∈ wsX10, w ∈ wsX3_init := by decide +kernel
  have wc7 := hts (.classLink RX3 7 RX1) (by decide +kernel)
  have wiRX1 := hts (.instantiable RX1 4) (by decide +kernel)
  have wnRX1 := hts (.initialized RX1) (by decide +kernel)
  have wmX1 := hts (.instanceMethod yX1_init) (by decide +kernel)
  have iX3 : ∀ w ∈ wsX30, w ∈ wsX3_init := by decide +kernel
  have wf10 := hts (.fieldLink RX3 10 "CheckRestart" "job" "LCheckRestart$Job;") (by decide +kernel)
  have iX2 : ∀ w ∈ wsX20, w ∈ wsX3_init := by decide +kernel
  have wc16 := hts (.classLink RX3 16 RX2) (by decide +kernel)
  have wiRX2 := hts (.instantiable RX2 4) (by decide +kernel)
  have wnRX2 := hts (.initialized RX2) (by decide +kernel)
  have wmX2 := hts (.instanceMethod yX2_init) (by decide +kernel)
  have wl18 := hts (.methodLink RX3 18 yX2_init) (by decide +kernel)
  have wf21 := hts (.fieldLink RX3 21 "CheckRestart" "progress" "LCheckRestart$Progress;") (by decide +kernel)
  have wf25 := hts (.fieldLink RX3 25 "CheckRestart" "replay" "LCheckRestart$Progress;") (by decide +kernel)
  have walong := hts (.arrayClass .long) (by decide +kernel)
  have wf28 := hts (.fieldLink RX3 28 "CheckRestart" "rows" "[J") (by decide +kernel)
  have iX0 : ∀ w ∈ wsX00, w ∈ wsX3_init := by decide +kernel
  have wc32 := hts (.classLink RX3 32 RX0) (by decide +kernel)
  have wiRX0 := hts (.instantiable RX0 7) (by decide +kernel)
  have wnRX0 := hts (.initialized RX0) (by decide +kernel)
  have wmX0 := hts (.instanceMethod yX0_init) (by decide +kernel)
  have wf35 := hts (.fieldLink RX3 35 "CheckRestart" "checkpoints" "LCheckRestart$Checkpoints;") (by decide +kernel)
  have wf39 := hts (.fieldLink RX3 39 "CheckRestart" "editionNow" "I") (by decide +kernel)
  have wf43 := hts (.fieldLink RX3 43 "CheckRestart" "down" "Z") (by decide +kernel)
  have wf47 := hts (.fieldLink RX3 47 "CheckRestart" "cutPart" "I") (by decide +kernel)
  have wf50 := hts (.fieldLink RX3 50 "CheckRestart" "cutsThatCame" "I") (by decide +kernel)
  have hown : s.vm.findClass RX3 = some m.cls := findClass_of_methodNamed B.named
  have hlocks := B.notSynchronized
  have hin : meth.name = "<init>" := (name_of_methodNamed B.named B.method).1
  subst hsz
  have hD := hD0.self (sz := s.heap.size)
  generalize hAe : va_A [(ax, .inr (4, [.null, .null, .null, .null, .null, .int 0, .int 0, .int 0, .int 0]))] s.heap.size = A at hD ⊢
  have hA : ∀ q : Nat, s.heap.size ≤ q → A q := fun q h => by rw [← hAe]; exact Or.inr h
  have hS : va_S A s.heap s.heap [] := va_S.rf
  have hl := lv_entry ([.ref ax]) (n := 1) (Nat.le_of_ble_eq_true rfl)
  rw [lg_entry_eq]
  generalize (lg_sl ([.ref ax]) ++ List.replicate (1 - (lg_sl ([.ref ax])).length) Slot.unset).toArray = ls at hl ⊢
  have hl : lv_has ls 1 [(0, .ref ax)] := hl
  refine lv_aload_n hx hb dX3_init_0 rfl (lv_at hl 0 rfl) ?_
  refine W.objInit hx hb hown wo1 wo2 wo3 rfl (by rw [hml]; exact hl.1) rfl dX3_init_1 (Nat.le_of_ble_eq_true rfl) (Nat.le_of_ble_eq_true rfl) ?_
  refine W.eq (g2 := F0 m 4 ls []) rfl ?_
  refine lv_aload_n hx hb dX3_init_4 rfl (lv_at hl 0 rfl) ?_
  refine va_new (ci := 2) (fs := [.null, .null, .int 0, .int 0]) (C := RX1) (T := TX1) (N := 4) hx hb hts iX1 tyX1 tyX1_ok hown wc7 wiRX1 wnRX1 hK hP hD hS hA rfl (fun j hj => by rcases (show j = 0 ∨ j = 1 ∨ j = 2 ∨ j = 3 by omega) with rfl | rfl | rfl | rfl <;> rfl) (Nat.le_of_ble_eq_true rfl) (Nat.le_of_ble_eq_true rfl) dX3_init_5 (fun uj H hP hD hS => ?_)
  refine W.widen (k := 1) (n := 4) (by omega) (by omega) ?_
  have hP : va_P D vwCl [(ax, .inr (4, [.null, .null, .null, .null, .null, .int 0, .int 0, .int 0, .int 0])), (uj, .inr (2, [.null, .null, .int 0, .int 0]))] H := hP
  have hD : va_D A [(ax, .inr (4, [.null, .null, .null, .null, .null, .int 0, .int 0, .int 0, .int 0])), (uj, .inr (2, [.null, .null, .int 0, .int 0]))] := hD
  refine lv_dup hx hb dX3_init_8 rfl ?_
  refine ct_callv (wr := [(ax, .inr (4, [.null, .null, .null, .null, .null, .int 0, .int 0, .int 0, .int 0]))]) (rest := [.ref uj, .ref ax]) hP hD hS hA [1] [0] (va_runIN (As := []) ⟨hx, hb, hml, hown, hts⟩ (c_X1_init l D cI cL cZ uj _ ) ⟨va_cnB (host := "CheckRestart") 0 hts gX3_init_X1_init_n9 rfl rfl rfl hn9 wnRX1 (by decide +kernel) ⟨Nat.le_of_ble_eq_true rfl, Nat.le_of_ble_eq_true rfl⟩, rfl, wmX1⟩ (ct_preS hK hP hD [1] (by decide) rfl rfl) rfl rfl hl.1 rfl (lv_room (Nat.le_of_ble_eq_true rfl)) dX3_init_9 ⟨Nat.le_of_ble_eq_true rfl, Nat.le_of_ble_eq_true rfl⟩) rfl rfl (by decide) (by decide) (fun u H locs hw hP hD hS => ?_)
  obtain ⟨uf, ul⟩ := u
  try dsimp only at hw
  refine W.widen (k := 3) (n := 22) (by omega) (by omega) ?_
  have hP : va_P D vwCl [(ax, .inr (4, [.null, .null, .null, .null, .null, .int 0, .int 0, .int 0, .int 0])), (uj, .inr (2, [.ref uf, .ref ul, .int 0, .int 0])), (uf, .inl (cL, 12, .inr (.inl (fun _ => 0)))), (ul, .inl (cI, 6, .inl (fun _ => 0)))] H := hP
  have hD : va_D A [(ax, .inr (4, [.null, .null, .null, .null, .null, .int 0, .int 0, .int 0, .int 0])), (uj, .inr (2, [.ref uf, .ref ul, .int 0, .int 0])), (uf, .inl (cL, 12, .inr (.inl (fun _ => 0)))), (ul, .inl (cI, 6, .inl (fun _ => 0)))] := hD
  refine va_putF (D := D) (ci := 4) (v := .ref uj) (ty := (.object "CheckRestart$Job")) (C := RX3) (T := TX3) (N := 9) hx hb hts iX3 tyX3 tyX3_ok nmX3 hown hK hP hD hS 0 rfl rfl 0 (by decide) wf10 (fun _ h9 => h9) rfl hin rfl (by decide +kernel) rfl rfl (Nat.le_of_ble_eq_true rfl) dX3_init_12 (fun H locs hP hD hS => ?_)
  have hP : va_P D vwCl [(ax, .inr (4, [.ref uj, .null, .null, .null, .null, .int 0, .int 0, .int 0, .int 0])), (uj, .inr (2, [.ref uf, .ref ul, .int 0, .int 0])), (uf, .inl (cL, 12, .inr (.inl (fun _ => 0)))), (ul, .inl (cI, 6, .inl (fun _ => 0)))] H := hP
  have hD : va_D A [(ax, .inr (4, [.ref uj, .null, .null, .null, .null, .int 0, .int 0, .int 0, .int 0])), (uj, .inr (2, [.ref uf, .ref ul, .int 0, .int 0])), (uf, .inl (cL, 12, .inr (.inl (fun _ => 0)))), (ul, .inl (cI, 6, .inl (fun _ => 0)))] := hD
  refine lv_aload_n hx hb dX3_init_15 rfl (lv_at hl 0 rfl) ?_
  refine va_new (ci := 3) (fs := [.null, .null, .null, .int 0]) (C := RX2) (T := TX2) (N := 4) hx hb hts iX2 tyX2 tyX2_ok hown wc16 wiRX2 wnRX2 hK hP hD hS hA rfl (fun j hj => by rcases (show j = 0 ∨ j = 1 ∨ j = 2 ∨ j = 3 by omega) with rfl | rfl | rfl | rfl <;> rfl) (Nat.le_of_ble_eq_true rfl) (Nat.le_of_ble_eq_true rfl) dX3_init_16 (fun up H hP hD hS => ?_)
  refine W.widen (k := 4) (n := 26) (by omega) (by omega) ?_
  have hP : va_P D vwCl [(ax, .inr (4, [.ref uj, .null, .null, .null, .null, .int 0, .int 0, .int 0, .int 0])), (uj, .inr (2, [.ref uf, .ref ul, .int 0, .int 0])), (uf, .inl (cL, 12, .inr (.inl (fun _ => 0)))), (ul, .inl (cI, 6, .inl (fun _ => 0))), (up, .inr (3, [.null, .null, .null, .int 0]))] H := hP
  have hD : va_D A [(ax, .inr (4, [.ref uj, .null, .null, .null, .null, .int 0, .int 0, .int 0, .int 0])), (uj, .inr (2, [.ref uf, .ref ul, .int 0, .int 0])), (uf, .inl (cL, 12, .inr (.inl (fun _ => 0)))), (ul, .inl (cI, 6, .inl (fun _ => 0))), (up, .inr (3, [.null, .null, .null, .int 0]))] := hD
  refine lv_dup hx hb dX3_init_19 rfl ?_
  refine lv_aload_n hx hb dX3_init_20 rfl (lv_at hl 0 rfl) ?_
  refine va_get (D := D) (ci := 4) (v := .ref uj) (C := RX3) (T := TX3) (N := 9) hx hb hts iX3 hown hK hP 0 rfl rfl 0 (by decide) wf10 (fun _ h9 => h9) rfl dX3_init_21 ?_
  refine ct_callv (wr := [(ax, .inr (4, [.ref uj, .null, .null, .null, .null, .int 0, .int 0, .int 0, .int 0])), (uj, .inr (2, [.ref uf, .ref ul, .int 0, .int 0])), (uf, .inl (cL, 12, .inr (.inl (fun _ => 0)))), (ul, .inl (cI, 6, .inl (fun _ => 0)))]) (rest := [.ref up, .ref ax]) hP hD hS hA [4] [0, 1, 2, 3] (va_runI (As := [.ref uj]) ⟨hx, hb, hml, hown, hts⟩ (c_X2_init l D cI cL cZ up uj _ ) (cwI 1 hts gX3_init_X2_init rfl rfl rfl wnRX2 wl18 wmX2 rfl (by decide +kernel) ⟨Nat.le_of_ble_eq_true rfl, Nat.le_of_ble_eq_true rfl⟩) (ct_preS hK hP hD [4] (by decide) rfl rfl) rfl rfl hl.1 rfl (lv_room (Nat.le_of_ble_eq_true rfl)) dX3_init_24 ⟨Nat.le_of_ble_eq_true rfl, Nat.le_of_ble_eq_true rfl⟩) rfl rfl (by decide) (by decide) (fun u H locs hw hP hD hS => ?_)
  obtain ⟨upc, upp⟩ := u
  try dsimp only at hw
  refine W.widen (k := 6) (n := 44) (by omega) (by omega) ?_
  have hP : va_P D vwCl [(ax, .inr (4, [.ref uj, .null, .null, .null, .null, .int 0, .int 0, .int 0, .int 0])), (uj, .inr (2, [.ref uf, .ref ul, .int 0, .int 0])), (uf, .inl (cL, 12, .inr (.inl (fun _ => 0)))), (ul, .inl (cI, 6, .inl (fun _ => 0))), (up, .inr (3, [.ref uj, .ref upc, .ref upp, .int 0])), (upc, .inl (cL, 12, .inr (.inl (fun _ => 0)))), (upp, .inl (cI, 6, .inl (fun _ => 0)))] H := hP
  have hD : va_D A [(ax, .inr (4, [.ref uj, .null, .null, .null, .null, .int 0, .int 0, .int 0, .int 0])), (uj, .inr (2, [.ref uf, .ref ul, .int 0, .int 0])), (uf, .inl (cL, 12, .inr (.inl (fun _ => 0)))), (ul, .inl (cI, 6, .inl (fun _ => 0))), (up, .inr (3, [.ref uj, .ref upc, .ref upp, .int 0])), (upc, .inl (cL, 12, .inr (.inl (fun _ => 0)))), (upp, .inl (cI, 6, .inl (fun _ => 0)))] := hD
  refine va_putF (D := D) (ci := 4) (v := .ref up) (ty := (.object "CheckRestart$Progress")) (C := RX3) (T := TX3) (N := 9) hx hb hts iX3 tyX3 tyX3_ok nmX3 hown hK hP hD hS 0 rfl rfl 1 (by decide) wf21 (fun _ h9 => h9) rfl hin rfl (by decide +kernel) rfl rfl (Nat.le_of_ble_eq_true rfl) dX3_init_27 (fun H locs hP hD hS => ?_)
  have hP : va_P D vwCl [(ax, .inr (4, [.ref uj, .ref up, .null, .null, .null, .int 0, .int 0, .int 0, .int 0])), (uj, .inr (2, [.ref uf, .ref ul, .int 0, .int 0])), (uf, .inl (cL, 12, .inr (.inl (fun _ => 0)))), (ul, .inl (cI, 6, .inl (fun _ => 0))), (up, .inr (3, [.ref uj, .ref upc, .ref upp, .int 0])), (upc, .inl (cL, 12, .inr (.inl (fun _ => 0)))), (upp, .inl (cI, 6, .inl (fun _ => 0)))] H := hP
  have hD : va_D A [(ax, .inr (4, [.ref uj, .ref up, .null, .null, .null, .int 0, .int 0, .int 0, .int 0])), (uj, .inr (2, [.ref uf, .ref ul, .int 0, .int 0])), (uf, .inl (cL, 12, .inr (.inl (fun _ => 0)))), (ul, .inl (cI, 6, .inl (fun _ => 0))), (up, .inr (3, [.ref uj, .ref upc, .ref upp, .int 0])), (upc, .inl (cL, 12, .inr (.inl (fun _ => 0)))), (upp, .inl (cI, 6, .inl (fun _ => 0)))] := hD
  refine lv_aload_n hx hb dX3_init_30 rfl (lv_at hl 0 rfl) ?_
  refine va_new (ci := 3) (fs := [.null, .null, .null, .int 0]) (C := RX2) (T := TX2) (N := 4) hx hb hts iX2 tyX2 tyX2_ok hown wc16 wiRX2 wnRX2 hK hP hD hS hA rfl (fun j hj => by rcases (show j = 0 ∨ j = 1 ∨ j = 2 ∨ j = 3 by omega) with rfl | rfl | rfl | rfl <;> rfl) (Nat.le_of_ble_eq_true rfl) (Nat.le_of_ble_eq_true rfl) dX3_init_31 (fun ur H hP hD hS => ?_)
  refine W.widen (k := 7) (n := 48) (by omega) (by omega) ?_
  have hP : va_P D vwCl [(ax, .inr (4, [.ref uj, .ref up, .null, .null, .null, .int 0, .int 0, .int 0, .int 0])), (uj, .inr (2, [.ref uf, .ref ul, .int 0, .int 0])), (uf, .inl (cL, 12, .inr (.inl (fun _ => 0)))), (ul, .inl (cI, 6, .inl (fun _ => 0))), (up, .inr (3, [.ref uj, .ref upc, .ref upp, .int 0])), (upc, .inl (cL, 12, .inr (.inl (fun _ => 0)))), (upp, .inl (cI, 6, .inl (fun _ => 0))), (ur, .inr (3, [.null, .null, .null, .int 0]))] H := hP
  have hD : va_D A [(ax, .inr (4, [.ref uj, .ref up, .null, .null, .null, .int 0, .int 0, .int 0, .int 0])), (uj, .inr (2, [.ref uf, .ref ul, .int 0, .int 0])), (uf, .inl (cL, 12, .inr (.inl (fun _ => 0)))), (ul, .inl (cI, 6, .inl (fun _ => 0))), (up, .inr (3, [.ref uj, .ref upc, .ref upp, .int 0])), (upc, .inl (cL, 12, .inr (.inl (fun _ => 0)))), (upp, .inl (cI, 6, .inl (fun _ => 0))), (ur, .inr (3, [.null, .null, .null, .int 0]))] := hD
  refine lv_dup hx hb dX3_init_34 rfl ?_
  refine lv_aload_n hx hb dX3_init_35 rfl (lv_at hl 0 rfl) ?_
  refine va_get (D := D) (ci := 4) (v := .ref uj) (C := RX3) (T := TX3) (N := 9) hx hb hts iX3 hown hK hP 0 rfl rfl 0 (by decide) wf10 (fun _ h9 => h9) rfl dX3_init_36 ?_
  refine ct_callv (wr := [(ax, .inr (4, [.ref uj, .ref up, .null, .null, .null, .int 0, .int 0, .int 0, .int 0])), (uj, .inr (2, [.ref uf, .ref ul, .int 0, .int 0])), (uf, .inl (cL, 12, .inr (.inl (fun _ => 0)))), (ul, .inl (cI, 6, .inl (fun _ => 0))), (up, .inr (3, [.ref uj, .ref upc, .ref upp, .int 0])), (upc, .inl (cL, 12, .inr (.inl (fun _ => 0)))), (upp, .inl (cI, 6, .inl (fun _ => 0)))]) (rest := [.ref ur, .ref ax]) hP hD hS hA [7] [0, 1, 2, 3, 4, 5, 6] (va_runI (As := [.ref uj]) ⟨hx, hb, hml, hown, hts⟩ (c_X2_init l D cI cL cZ ur uj _ ) (cwI 1 hts gX3_init_X2_init rfl rfl rfl wnRX2 wl18 wmX2 rfl (by decide +kernel) ⟨Nat.le_of_ble_eq_true rfl, Nat.le_of_ble_eq_true rfl⟩) (ct_preS hK hP hD [7] (by decide) rfl rfl) rfl rfl hl.1 rfl (lv_room (Nat.le_of_ble_eq_true rfl)) dX3_init_39 ⟨Nat.le_of_ble_eq_true rfl, Nat.le_of_ble_eq_true rfl⟩) rfl rfl (by decide) (by decide) (fun u H locs hw hP hD hS => ?_)
  obtain ⟨urc, urp⟩ := u
  try dsimp only at hw
  refine W.widen (k := 9) (n := 66) (by omega) (by omega) ?_
  have hP : va_P D vwCl [(ax, .inr (4, [.ref uj, .ref up, .null, .null, .null, .int 0, .int 0, .int 0, .int 0])), (uj, .inr (2, [.ref uf, .ref ul, .int 0, .int 0])), (uf, .inl (cL, 12, .inr (.inl (fun _ => 0)))), (ul, .inl (cI, 6, .inl (fun _ => 0))), (up, .inr (3, [.ref uj, .ref upc, .ref upp, .int 0])), (upc, .inl (cL, 12, .inr (.inl (fun _ => 0)))), (upp, .inl (cI, 6, .inl (fun _ => 0))), (ur, .inr (3, [.ref uj, .ref urc, .ref urp, .int 0])), (urc, .inl (cL, 12, .inr (.inl (fun _ => 0)))), (urp, .inl (cI, 6, .inl (fun _ => 0)))] H := hP
  have hD : va_D A [(ax, .inr (4, [.ref uj, .ref up, .null, .null, .null, .int 0, .int 0, .int 0, .int 0])), (uj, .inr (2, [.ref uf, .ref ul, .int 0, .int 0])), (uf, .inl (cL, 12, .inr (.inl (fun _ => 0)))), (ul, .inl (cI, 6, .inl (fun _ => 0))), (up, .inr (3, [.ref uj, .ref upc, .ref upp, .int 0])), (upc, .inl (cL, 12, .inr (.inl (fun _ => 0)))), (upp, .inl (cI, 6, .inl (fun _ => 0))), (ur, .inr (3, [.ref uj, .ref urc, .ref urp, .int 0])), (urc, .inl (cL, 12, .inr (.inl (fun _ => 0)))), (urp, .inl (cI, 6, .inl (fun _ => 0)))] := hD
  refine va_putF (D := D) (ci := 4) (v := .ref ur) (ty := (.object "CheckRestart$Progress")) (C := RX3) (T := TX3) (N := 9) hx hb hts iX3 tyX3 tyX3_ok nmX3 hown hK hP hD hS 0 rfl rfl 2 (by decide) wf25 (fun _ h9 => h9) rfl hin rfl (by decide +kernel) rfl rfl (Nat.le_of_ble_eq_true rfl) dX3_init_42 (fun H locs hP hD hS => ?_)
  have hP : va_P D vwCl [(ax, .inr (4, [.ref uj, .ref up, .ref ur, .null, .null, .int 0, .int 0, .int 0, .int 0])), (uj, .inr (2, [.ref uf, .ref ul, .int 0, .int 0])), (uf, .inl (cL, 12, .inr (.inl (fun _ => 0)))), (ul, .inl (cI, 6, .inl (fun _ => 0))), (up, .inr (3, [.ref uj, .ref upc, .ref upp, .int 0])), (upc, .inl (cL, 12, .inr (.inl (fun _ => 0)))), (upp, .inl (cI, 6, .inl (fun _ => 0))), (ur, .inr (3, [.ref uj, .ref urc, .ref urp, .int 0])), (urc, .inl (cL, 12, .inr (.inl (fun _ => 0)))), (urp, .inl (cI, 6, .inl (fun _ => 0)))] H := hP
  have hD : va_D A [(ax, .inr (4, [.ref uj, .ref up, .ref ur, .null, .null, .int 0, .int 0, .int 0, .int 0])), (uj, .inr (2, [.ref uf, .ref ul, .int 0, .int 0])), (uf, .inl (cL, 12, .inr (.inl (fun _ => 0)))), (ul, .inl (cI, 6, .inl (fun _ => 0))), (up, .inr (3, [.ref uj, .ref upc, .ref upp, .int 0])), (upc, .inl (cL, 12, .inr (.inl (fun _ => 0)))), (upp, .inl (cI, 6, .inl (fun _ => 0))), (ur, .inr (3, [.ref uj, .ref urc, .ref urp, .int 0])), (urc, .inl (cL, 12, .inr (.inl (fun _ => 0)))), (urp, .inl (cI, 6, .inl (fun _ => 0)))] := hD
  refine lv_aload_n hx hb dX3_init_45 rfl (lv_at hl 0 rfl) ?_
  refine lv_sipush (v := 5000) hx hb dX3_init_46 (by decide) ?_
  refine va_newa (atype := .long) (n := 5000) (N' := 5000) (a0 := (5000, .inr (.inl (fun _ => 0)))) (ty := .long) hx hb walong rfl hK hP hD hS hA (fun _ => rfl) (by decide) (by decide) (show 5000 * 8 ≤ 536870912 by omega) (Nat.le_of_ble_eq_true rfl) (Nat.le_of_ble_eq_true rfl) dX3_init_49 (fun urow cA_4 H hK2 hP hD hS => ?_)
  have ecA_4 : cL = cA_4 := ct_cls (i := 1) (j := 3) hK2 rfl rfl rfl
  subst ecA_4
  clear hK2
  refine W.widen (k := 10) (n := 5066) (by omega) (by omega) ?_
  have hP : va_P D vwCl [(ax, .inr (4, [.ref uj, .ref up, .ref ur, .null, .null, .int 0, .int 0, .int 0, .int 0])), (uj, .inr (2, [.ref uf, .ref ul, .int 0, .int 0])), (uf, .inl (cL, 12, .inr (.inl (fun _ => 0)))), (ul, .inl (cI, 6, .inl (fun _ => 0))), (up, .inr (3, [.ref uj, .ref upc, .ref upp, .int 0])), (upc, .inl (cL, 12, .inr (.inl (fun _ => 0)))), (upp, .inl (cI, 6, .inl (fun _ => 0))), (ur, .inr (3, [.ref uj, .ref urc, .ref urp, .int 0])), (urc, .inl (cL, 12, .inr (.inl (fun _ => 0)))), (urp, .inl (cI, 6, .inl (fun _ => 0))), (urow, .inl (cL, 5000, .inr (.inl (fun _ => 0))))] H := hP
  have hD : va_D A [(ax, .inr (4, [.ref uj, .ref up, .ref ur, .null, .null, .int 0, .int 0, .int 0, .int 0])), (uj, .inr (2, [.ref uf, .ref ul, .int 0, .int 0])), (uf, .inl (cL, 12, .inr (.inl (fun _ => 0)))), (ul, .inl (cI, 6, .inl (fun _ => 0))), (up, .inr (3, [.ref uj, .ref upc, .ref upp, .int 0])), (upc, .inl (cL, 12, .inr (.inl (fun _ => 0)))), (upp, .inl (cI, 6, .inl (fun _ => 0))), (ur, .inr (3, [.ref uj, .ref urc, .ref urp, .int 0])), (urc, .inl (cL, 12, .inr (.inl (fun _ => 0)))), (urp, .inl (cI, 6, .inl (fun _ => 0))), (urow, .inl (cL, 5000, .inr (.inl (fun _ => 0))))] := hD
  refine va_putF (D := D) (ci := 4) (v := .ref urow) (ty := (.array .long)) (C := RX3) (T := TX3) (N := 9) hx hb hts iX3 tyX3 tyX3_ok nmX3 hown hK hP hD hS 0 rfl rfl 3 (by decide) wf28 (fun _ h9 => h9) rfl hin rfl (by decide +kernel) rfl rfl (Nat.le_of_ble_eq_true rfl) dX3_init_51 (fun H locs hP hD hS => ?_)
  have hP : va_P D vwCl [(ax, .inr (4, [.ref uj, .ref up, .ref ur, .ref urow, .null, .int 0, .int 0, .int 0, .int 0])), (uj, .inr (2, [.ref uf, .ref ul, .int 0, .int 0])), (uf, .inl (cL, 12, .inr (.inl (fun _ => 0)))), (ul, .inl (cI, 6, .inl (fun _ => 0))), (up, .inr (3, [.ref uj, .ref upc, .ref upp, .int 0])), (upc, .inl (cL, 12, .inr (.inl (fun _ => 0)))), (upp, .inl (cI, 6, .inl (fun _ => 0))), (ur, .inr (3, [.ref uj, .ref urc, .ref urp, .int 0])), (urc, .inl (cL, 12, .inr (.inl (fun _ => 0)))), (urp, .inl (cI, 6, .inl (fun _ => 0))), (urow, .inl (cL, 5000, .inr (.inl (fun _ => 0))))] H := hP
  have hD : va_D A [(ax, .inr (4, [.ref uj, .ref up, .ref ur, .ref urow, .null, .int 0, .int 0, .int 0, .int 0])), (uj, .inr (2, [.ref uf, .ref ul, .int 0, .int 0])), (uf, .inl (cL, 12, .inr (.inl (fun _ => 0)))), (ul, .inl (cI, 6, .inl (fun _ => 0))), (up, .inr (3, [.ref uj, .ref upc, .ref upp, .int 0])), (upc, .inl (cL, 12, .inr (.inl (fun _ => 0)))), (upp, .inl (cI, 6, .inl (fun _ => 0))), (ur, .inr (3, [.ref uj, .ref urc, .ref urp, .int 0])), (urc, .inl (cL, 12, .inr (.inl (fun _ => 0)))), (urp, .inl (cI, 6, .inl (fun _ => 0))), (urow, .inl (cL, 5000, .inr (.inl (fun _ => 0))))] := hD
  refine lv_aload_n hx hb dX3_init_54 rfl (lv_at hl 0 rfl) ?_
  refine va_new (ci := 1) (fs := [.null, .null, .null, .null, .null, .null, .int 0]) (C := RX0) (T := TX0) (N := 7) hx hb hts iX0 tyX0 tyX0_ok hown wc32 wiRX0 wnRX0 hK hP hD hS hA rfl (fun j hj => by rcases (show j = 0 ∨ j = 1 ∨ j = 2 ∨ j = 3 ∨ j = 4 ∨ j = 5 ∨ j = 6 by omega) with rfl | rfl | rfl | rfl | rfl | rfl | rfl <;> rfl) (Nat.le_of_ble_eq_true rfl) (Nat.le_of_ble_eq_true rfl) dX3_init_55 (fun uk H hP hD hS => ?_)
  refine W.widen (k := 11) (n := 5073) (by omega) (by omega) ?_
  have hP : va_P D vwCl [(ax, .inr (4, [.ref uj, .ref up, .ref ur, .ref urow, .null, .int 0, .int 0, .int 0, .int 0])), (uj, .inr (2, [.ref uf, .ref ul, .int 0, .int 0])), (uf, .inl (cL, 12, .inr (.inl (fun _ => 0)))), (ul, .inl (cI, 6, .inl (fun _ => 0))), (up, .inr (3, [.ref uj, .ref upc, .ref upp, .int 0])), (upc, .inl (cL, 12, .inr (.inl (fun _ => 0)))), (upp, .inl (cI, 6, .inl (fun _ => 0))), (ur, .inr (3, [.ref uj, .ref urc, .ref urp, .int 0])), (urc, .inl (cL, 12, .inr (.inl (fun _ => 0)))), (urp, .inl (cI, 6, .inl (fun _ => 0))), (urow, .inl (cL, 5000, .inr (.inl (fun _ => 0)))), (uk, .inr (1, [.null, .null, .null, .null, .null, .null, .int 0]))] H := hP
  have hD : va_D A [(ax, .inr (4, [.ref uj, .ref up, .ref ur, .ref urow, .null, .int 0, .int 0, .int 0, .int 0])), (uj, .inr (2, [.ref uf, .ref ul, .int 0, .int 0])), (uf, .inl (cL, 12, .inr (.inl (fun _ => 0)))), (ul, .inl (cI, 6, .inl (fun _ => 0))), (up, .inr (3, [.ref uj, .ref upc, .ref upp, .int 0])), (upc, .inl (cL, 12, .inr (.inl (fun _ => 0)))), (upp, .inl (cI, 6, .inl (fun _ => 0))), (ur, .inr (3, [.ref uj, .ref urc, .ref urp, .int 0])), (urc, .inl (cL, 12, .inr (.inl (fun _ => 0)))), (urp, .inl (cI, 6, .inl (fun _ => 0))), (urow, .inl (cL, 5000, .inr (.inl (fun _ => 0)))), (uk, .inr (1, [.null, .null, .null, .null, .null, .null, .int 0]))] := hD
  refine lv_dup hx hb dX3_init_58 rfl ?_
  refine ct_callv (wr := [(ax, .inr (4, [.ref uj, .ref up, .ref ur, .ref urow, .null, .int 0, .int 0, .int 0, .int 0])), (uj, .inr (2, [.ref uf, .ref ul, .int 0, .int 0])), (uf, .inl (cL, 12, .inr (.inl (fun _ => 0)))), (ul, .inl (cI, 6, .inl (fun _ => 0))), (up, .inr (3, [.ref uj, .ref upc, .ref upp, .int 0])), (upc, .inl (cL, 12, .inr (.inl (fun _ => 0)))), (upp, .inl (cI, 6, .inl (fun _ => 0))), (ur, .inr (3, [.ref uj, .ref urc, .ref urp, .int 0])), (urc, .inl (cL, 12, .inr (.inl (fun _ => 0)))), (urp, .inl (cI, 6, .inl (fun _ => 0))), (urow, .inl (cL, 5000, .inr (.inl (fun _ => 0))))]) (rest := [.ref uk, .ref ax]) hP hD hS hA [11] [0, 1, 2, 3, 4, 5, 6, 7, 8, 9, 10] (va_runIN (As := []) ⟨hx, hb, hml, hown, hts⟩ (c_X0_init l D cI cL cZ uk _ ) ⟨va_cnB (host := "CheckRestart") 0 hts gX3_init_X0_init_n34 rfl rfl rfl hn34 wnRX0 (by decide +kernel) ⟨Nat.le_of_ble_eq_true rfl, Nat.le_of_ble_eq_true rfl⟩, rfl, wmX0⟩ (ct_preS hK hP hD [11] (by decide) rfl rfl) rfl rfl hl.1 rfl (lv_room (Nat.le_of_ble_eq_true rfl)) dX3_init_59 ⟨Nat.le_of_ble_eq_true rfl, Nat.le_of_ble_eq_true rfl⟩) rfl rfl (by decide) (by decide) (fun u H locs hw hP hD hS => ?_)
  obtain ⟨ukw, uke, uku, ukn, ukc, ukp⟩ := u
  try dsimp only at hw
  refine W.widen (k := 17) (n := 7273) (by omega) (by omega) ?_
  have hP : va_P D vwCl [(ax, .inr (4, [.ref uj, .ref up, .ref ur, .ref urow, .null, .int 0, .int 0, .int 0, .int 0])), (uj, .inr (2, [.ref uf, .ref ul, .int 0, .int 0])), (uf, .inl (cL, 12, .inr (.inl (fun _ => 0)))), (ul, .inl (cI, 6, .inl (fun _ => 0))), (up, .inr (3, [.ref uj, .ref upc, .ref upp, .int 0])), (upc, .inl (cL, 12, .inr (.inl (fun _ => 0)))), (upp, .inl (cI, 6, .inl (fun _ => 0))), (ur, .inr (3, [.ref uj, .ref urc, .ref urp, .int 0])), (urc, .inl (cL, 12, .inr (.inl (fun _ => 0)))), (urp, .inl (cI, 6, .inl (fun _ => 0))), (urow, .inl (cL, 5000, .inr (.inl (fun _ => 0)))), (uk, .inr (1, [.ref ukw, .ref uke, .ref uku, .ref ukn, .ref ukc, .ref ukp, .int 0])), (ukw, .inl (cZ, 100, .inl (fun _ => 0))), (uke, .inl (cI, 100, .inl (fun _ => 0))), (uku, .inl (cI, 100, .inl (fun _ => 0))), (ukn, .inl (cI, 100, .inl (fun _ => 0))), (ukc, .inl (cL, 1200, .inr (.inl (fun _ => 0)))), (ukp, .inl (cI, 600, .inl (fun _ => 0)))] H := hP
  have hD : va_D A [(ax, .inr (4, [.ref uj, .ref up, .ref ur, .ref urow, .null, .int 0, .int 0, .int 0, .int 0])), (uj, .inr (2, [.ref uf, .ref ul, .int 0, .int 0])), (uf, .inl (cL, 12, .inr (.inl (fun _ => 0)))), (ul, .inl (cI, 6, .inl (fun _ => 0))), (up, .inr (3, [.ref uj, .ref upc, .ref upp, .int 0])), (upc, .inl (cL, 12, .inr (.inl (fun _ => 0)))), (upp, .inl (cI, 6, .inl (fun _ => 0))), (ur, .inr (3, [.ref uj, .ref urc, .ref urp, .int 0])), (urc, .inl (cL, 12, .inr (.inl (fun _ => 0)))), (urp, .inl (cI, 6, .inl (fun _ => 0))), (urow, .inl (cL, 5000, .inr (.inl (fun _ => 0)))), (uk, .inr (1, [.ref ukw, .ref uke, .ref uku, .ref ukn, .ref ukc, .ref ukp, .int 0])), (ukw, .inl (cZ, 100, .inl (fun _ => 0))), (uke, .inl (cI, 100, .inl (fun _ => 0))), (uku, .inl (cI, 100, .inl (fun _ => 0))), (ukn, .inl (cI, 100, .inl (fun _ => 0))), (ukc, .inl (cL, 1200, .inr (.inl (fun _ => 0)))), (ukp, .inl (cI, 600, .inl (fun _ => 0)))] := hD
  refine va_putF (D := D) (ci := 4) (v := .ref uk) (ty := (.object "CheckRestart$Checkpoints")) (C := RX3) (T := TX3) (N := 9) hx hb hts iX3 tyX3 tyX3_ok nmX3 hown hK hP hD hS 0 rfl rfl 4 (by decide) wf35 (fun _ h9 => h9) rfl hin rfl (by decide +kernel) rfl rfl (Nat.le_of_ble_eq_true rfl) dX3_init_62 (fun H locs hP hD hS => ?_)
  have hP : va_P D vwCl [(ax, .inr (4, [.ref uj, .ref up, .ref ur, .ref urow, .ref uk, .int 0, .int 0, .int 0, .int 0])), (uj, .inr (2, [.ref uf, .ref ul, .int 0, .int 0])), (uf, .inl (cL, 12, .inr (.inl (fun _ => 0)))), (ul, .inl (cI, 6, .inl (fun _ => 0))), (up, .inr (3, [.ref uj, .ref upc, .ref upp, .int 0])), (upc, .inl (cL, 12, .inr (.inl (fun _ => 0)))), (upp, .inl (cI, 6, .inl (fun _ => 0))), (ur, .inr (3, [.ref uj, .ref urc, .ref urp, .int 0])), (urc, .inl (cL, 12, .inr (.inl (fun _ => 0)))), (urp, .inl (cI, 6, .inl (fun _ => 0))), (urow, .inl (cL, 5000, .inr (.inl (fun _ => 0)))), (uk, .inr (1, [.ref ukw, .ref uke, .ref uku, .ref ukn, .ref ukc, .ref ukp, .int 0])), (ukw, .inl (cZ, 100, .inl (fun _ => 0))), (uke, .inl (cI, 100, .inl (fun _ => 0))), (uku, .inl (cI, 100, .inl (fun _ => 0))), (ukn, .inl (cI, 100, .inl (fun _ => 0))), (ukc, .inl (cL, 1200, .inr (.inl (fun _ => 0)))), (ukp, .inl (cI, 600, .inl (fun _ => 0)))] H := hP
  have hD : va_D A [(ax, .inr (4, [.ref uj, .ref up, .ref ur, .ref urow, .ref uk, .int 0, .int 0, .int 0, .int 0])), (uj, .inr (2, [.ref uf, .ref ul, .int 0, .int 0])), (uf, .inl (cL, 12, .inr (.inl (fun _ => 0)))), (ul, .inl (cI, 6, .inl (fun _ => 0))), (up, .inr (3, [.ref uj, .ref upc, .ref upp, .int 0])), (upc, .inl (cL, 12, .inr (.inl (fun _ => 0)))), (upp, .inl (cI, 6, .inl (fun _ => 0))), (ur, .inr (3, [.ref uj, .ref urc, .ref urp, .int 0])), (urc, .inl (cL, 12, .inr (.inl (fun _ => 0)))), (urp, .inl (cI, 6, .inl (fun _ => 0))), (urow, .inl (cL, 5000, .inr (.inl (fun _ => 0)))), (uk, .inr (1, [.ref ukw, .ref uke, .ref uku, .ref ukn, .ref ukc, .ref ukp, .int 0])), (ukw, .inl (cZ, 100, .inl (fun _ => 0))), (uke, .inl (cI, 100, .inl (fun _ => 0))), (uku, .inl (cI, 100, .inl (fun _ => 0))), (ukn, .inl (cI, 100, .inl (fun _ => 0))), (ukc, .inl (cL, 1200, .inr (.inl (fun _ => 0)))), (ukp, .inl (cI, 600, .inl (fun _ => 0)))] := hD
  refine lv_aload_n hx hb dX3_init_65 rfl (lv_at hl 0 rfl) ?_
  refine lv_iconst (v := 0) hx hb dX3_init_66 (by decide) ?_
  refine va_put (D := D) (ci := 4) (v := .int 0) (ty := .int) (C := RX3) (T := TX3) (N := 9) hx hb hts iX3 tyX3 tyX3_ok nmX3 hown hK hP hD hS 0 rfl rfl 5 (by decide) wf39 (fun _ h9 => h9) rfl (by decide +kernel) rfl rfl (Nat.le_of_ble_eq_true rfl) dX3_init_67 (fun H locs hP hD hS => ?_)
  have hP : va_P D vwCl [(ax, .inr (4, [.ref uj, .ref up, .ref ur, .ref urow, .ref uk, .int 0, .int 0, .int 0, .int 0])), (uj, .inr (2, [.ref uf, .ref ul, .int 0, .int 0])), (uf, .inl (cL, 12, .inr (.inl (fun _ => 0)))), (ul, .inl (cI, 6, .inl (fun _ => 0))), (up, .inr (3, [.ref uj, .ref upc, .ref upp, .int 0])), (upc, .inl (cL, 12, .inr (.inl (fun _ => 0)))), (upp, .inl (cI, 6, .inl (fun _ => 0))), (ur, .inr (3, [.ref uj, .ref urc, .ref urp, .int 0])), (urc, .inl (cL, 12, .inr (.inl (fun _ => 0)))), (urp, .inl (cI, 6, .inl (fun _ => 0))), (urow, .inl (cL, 5000, .inr (.inl (fun _ => 0)))), (uk, .inr (1, [.ref ukw, .ref uke, .ref uku, .ref ukn, .ref ukc, .ref ukp, .int 0])), (ukw, .inl (cZ, 100, .inl (fun _ => 0))), (uke, .inl (cI, 100, .inl (fun _ => 0))), (uku, .inl (cI, 100, .inl (fun _ => 0))), (ukn, .inl (cI, 100, .inl (fun _ => 0))), (ukc, .inl (cL, 1200, .inr (.inl (fun _ => 0)))), (ukp, .inl (cI, 600, .inl (fun _ => 0)))] H := hP
  have hD : va_D A [(ax, .inr (4, [.ref uj, .ref up, .ref ur, .ref urow, .ref uk, .int 0, .int 0, .int 0, .int 0])), (uj, .inr (2, [.ref uf, .ref ul, .int 0, .int 0])), (uf, .inl (cL, 12, .inr (.inl (fun _ => 0)))), (ul, .inl (cI, 6, .inl (fun _ => 0))), (up, .inr (3, [.ref uj, .ref upc, .ref upp, .int 0])), (upc, .inl (cL, 12, .inr (.inl (fun _ => 0)))), (upp, .inl (cI, 6, .inl (fun _ => 0))), (ur, .inr (3, [.ref uj, .ref urc, .ref urp, .int 0])), (urc, .inl (cL, 12, .inr (.inl (fun _ => 0)))), (urp, .inl (cI, 6, .inl (fun _ => 0))), (urow, .inl (cL, 5000, .inr (.inl (fun _ => 0)))), (uk, .inr (1, [.ref ukw, .ref uke, .ref uku, .ref ukn, .ref ukc, .ref ukp, .int 0])), (ukw, .inl (cZ, 100, .inl (fun _ => 0))), (uke, .inl (cI, 100, .inl (fun _ => 0))), (uku, .inl (cI, 100, .inl (fun _ => 0))), (ukn, .inl (cI, 100, .inl (fun _ => 0))), (ukc, .inl (cL, 1200, .inr (.inl (fun _ => 0)))), (ukp, .inl (cI, 600, .inl (fun _ => 0)))] := hD
  refine lv_aload_n hx hb dX3_init_70 rfl (lv_at hl 0 rfl) ?_
  refine lv_iconst (v := 0) hx hb dX3_init_71 (by decide) ?_
  refine va_put (D := D) (ci := 4) (v := .int 0) (ty := .boolean) (C := RX3) (T := TX3) (N := 9) hx hb hts iX3 tyX3 tyX3_ok nmX3 hown hK hP hD hS 0 rfl rfl 6 (by decide) wf43 (fun _ h9 => h9) rfl (by decide +kernel) rfl rfl (Nat.le_of_ble_eq_true rfl) dX3_init_72 (fun H locs hP hD hS => ?_)
  have hP : va_P D vwCl [(ax, .inr (4, [.ref uj, .ref up, .ref ur, .ref urow, .ref uk, .int 0, .int 0, .int 0, .int 0])), (uj, .inr (2, [.ref uf, .ref ul, .int 0, .int 0])), (uf, .inl (cL, 12, .inr (.inl (fun _ => 0)))), (ul, .inl (cI, 6, .inl (fun _ => 0))), (up, .inr (3, [.ref uj, .ref upc, .ref upp, .int 0])), (upc, .inl (cL, 12, .inr (.inl (fun _ => 0)))), (upp, .inl (cI, 6, .inl (fun _ => 0))), (ur, .inr (3, [.ref uj, .ref urc, .ref urp, .int 0])), (urc, .inl (cL, 12, .inr (.inl (fun _ => 0)))), (urp, .inl (cI, 6, .inl (fun _ => 0))), (urow, .inl (cL, 5000, .inr (.inl (fun _ => 0)))), (uk, .inr (1, [.ref ukw, .ref uke, .ref uku, .ref ukn, .ref ukc, .ref ukp, .int 0])), (ukw, .inl (cZ, 100, .inl (fun _ => 0))), (uke, .inl (cI, 100, .inl (fun _ => 0))), (uku, .inl (cI, 100, .inl (fun _ => 0))), (ukn, .inl (cI, 100, .inl (fun _ => 0))), (ukc, .inl (cL, 1200, .inr (.inl (fun _ => 0)))), (ukp, .inl (cI, 600, .inl (fun _ => 0)))] H := hP
  have hD : va_D A [(ax, .inr (4, [.ref uj, .ref up, .ref ur, .ref urow, .ref uk, .int 0, .int 0, .int 0, .int 0])), (uj, .inr (2, [.ref uf, .ref ul, .int 0, .int 0])), (uf, .inl (cL, 12, .inr (.inl (fun _ => 0)))), (ul, .inl (cI, 6, .inl (fun _ => 0))), (up, .inr (3, [.ref uj, .ref upc, .ref upp, .int 0])), (upc, .inl (cL, 12, .inr (.inl (fun _ => 0)))), (upp, .inl (cI, 6, .inl (fun _ => 0))), (ur, .inr (3, [.ref uj, .ref urc, .ref urp, .int 0])), (urc, .inl (cL, 12, .inr (.inl (fun _ => 0)))), (urp, .inl (cI, 6, .inl (fun _ => 0))), (urow, .inl (cL, 5000, .inr (.inl (fun _ => 0)))), (uk, .inr (1, [.ref ukw, .ref uke, .ref uku, .ref ukn, .ref ukc, .ref ukp, .int 0])), (ukw, .inl (cZ, 100, .inl (fun _ => 0))), (uke, .inl (cI, 100, .inl (fun _ => 0))), (uku, .inl (cI, 100, .inl (fun _ => 0))), (ukn, .inl (cI, 100, .inl (fun _ => 0))), (ukc, .inl (cL, 1200, .inr (.inl (fun _ => 0)))), (ukp, .inl (cI, 600, .inl (fun _ => 0)))] := hD
  refine lv_aload_n hx hb dX3_init_75 rfl (lv_at hl 0 rfl) ?_
  refine lv_iconst (v := 0) hx hb dX3_init_76 (by decide) ?_
  refine va_put (D := D) (ci := 4) (v := .int 0) (ty := .int) (C := RX3) (T := TX3) (N := 9) hx hb hts iX3 tyX3 tyX3_ok nmX3 hown hK hP hD hS 0 rfl rfl 7 (by decide) wf47 (fun _ h9 => h9) rfl (by decide +kernel) rfl rfl (Nat.le_of_ble_eq_true rfl) dX3_init_77 (fun H locs hP hD hS => ?_)
  have hP : va_P D vwCl [(ax, .inr (4, [.ref uj, .ref up, .ref ur, .ref urow, .ref uk, .int 0, .int 0, .int 0, .int 0])), (uj, .inr (2, [.ref uf, .ref ul, .int 0, .int 0])), (uf, .inl (cL, 12, .inr (.inl (fun _ => 0)))), (ul, .inl (cI, 6, .inl (fun _ => 0))), (up, .inr (3, [.ref uj, .ref upc, .ref upp, .int 0])), (upc, .inl (cL, 12, .inr (.inl (fun _ => 0)))), (upp, .inl (cI, 6, .inl (fun _ => 0))), (ur, .inr (3, [.ref uj, .ref urc, .ref urp, .int 0])), (urc, .inl (cL, 12, .inr (.inl (fun _ => 0)))), (urp, .inl (cI, 6, .inl (fun _ => 0))), (urow, .inl (cL, 5000, .inr (.inl (fun _ => 0)))), (uk, .inr (1, [.ref ukw, .ref uke, .ref uku, .ref ukn, .ref ukc, .ref ukp, .int 0])), (ukw, .inl (cZ, 100, .inl (fun _ => 0))), (uke, .inl (cI, 100, .inl (fun _ => 0))), (uku, .inl (cI, 100, .inl (fun _ => 0))), (ukn, .inl (cI, 100, .inl (fun _ => 0))), (ukc, .inl (cL, 1200, .inr (.inl (fun _ => 0)))), (ukp, .inl (cI, 600, .inl (fun _ => 0)))] H := hP
  have hD : va_D A [(ax, .inr (4, [.ref uj, .ref up, .ref ur, .ref urow, .ref uk, .int 0, .int 0, .int 0, .int 0])), (uj, .inr (2, [.ref uf, .ref ul, .int 0, .int 0])), (uf, .inl (cL, 12, .inr (.inl (fun _ => 0)))), (ul, .inl (cI, 6, .inl (fun _ => 0))), (up, .inr (3, [.ref uj, .ref upc, .ref upp, .int 0])), (upc, .inl (cL, 12, .inr (.inl (fun _ => 0)))), (upp, .inl (cI, 6, .inl (fun _ => 0))), (ur, .inr (3, [.ref uj, .ref urc, .ref urp, .int 0])), (urc, .inl (cL, 12, .inr (.inl (fun _ => 0)))), (urp, .inl (cI, 6, .inl (fun _ => 0))), (urow, .inl (cL, 5000, .inr (.inl (fun _ => 0)))), (uk, .inr (1, [.ref ukw, .ref uke, .ref uku, .ref ukn, .ref ukc, .ref ukp, .int 0])), (ukw, .inl (cZ, 100, .inl (fun _ => 0))), (uke, .inl (cI, 100, .inl (fun _ => 0))), (uku, .inl (cI, 100, .inl (fun _ => 0))), (ukn, .inl (cI, 100, .inl (fun _ => 0))), (ukc, .inl (cL, 1200, .inr (.inl (fun _ => 0)))), (ukp, .inl (cI, 600, .inl (fun _ => 0)))] := hD
  refine lv_aload_n hx hb dX3_init_80 rfl (lv_at hl 0 rfl) ?_
  refine lv_iconst (v := 0) hx hb dX3_init_81 (by decide) ?_
  refine va_put (D := D) (ci := 4) (v := .int 0) (ty := .int) (C := RX3) (T := TX3) (N := 9) hx hb hts iX3 tyX3 tyX3_ok nmX3 hown hK hP hD hS 0 rfl rfl 8 (by decide) wf50 (fun _ h9 => h9) rfl (by decide +kernel) rfl rfl (Nat.le_of_ble_eq_true rfl) dX3_init_82 (fun H locs hP hD hS => ?_)
  have hP : va_P D vwCl [(ax, .inr (4, [.ref uj, .ref up, .ref ur, .ref urow, .ref uk, .int 0, .int 0, .int 0, .int 0])), (uj, .inr (2, [.ref uf, .ref ul, .int 0, .int 0])), (uf, .inl (cL, 12, .inr (.inl (fun _ => 0)))), (ul, .inl (cI, 6, .inl (fun _ => 0))), (up, .inr (3, [.ref uj, .ref upc, .ref upp, .int 0])), (upc, .inl (cL, 12, .inr (.inl (fun _ => 0)))), (upp, .inl (cI, 6, .inl (fun _ => 0))), (ur, .inr (3, [.ref uj, .ref urc, .ref urp, .int 0])), (urc, .inl (cL, 12, .inr (.inl (fun _ => 0)))), (urp, .inl (cI, 6, .inl (fun _ => 0))), (urow, .inl (cL, 5000, .inr (.inl (fun _ => 0)))), (uk, .inr (1, [.ref ukw, .ref uke, .ref uku, .ref ukn, .ref ukc, .ref ukp, .int 0])), (ukw, .inl (cZ, 100, .inl (fun _ => 0))), (uke, .inl (cI, 100, .inl (fun _ => 0))), (uku, .inl (cI, 100, .inl (fun _ => 0))), (ukn, .inl (cI, 100, .inl (fun _ => 0))), (ukc, .inl (cL, 1200, .inr (.inl (fun _ => 0)))), (ukp, .inl (cI, 600, .inl (fun _ => 0)))] H := hP
  have hD : va_D A [(ax, .inr (4, [.ref uj, .ref up, .ref ur, .ref urow, .ref uk, .int 0, .int 0, .int 0, .int 0])), (uj, .inr (2, [.ref uf, .ref ul, .int 0, .int 0])), (uf, .inl (cL, 12, .inr (.inl (fun _ => 0)))), (ul, .inl (cI, 6, .inl (fun _ => 0))), (up, .inr (3, [.ref uj, .ref upc, .ref upp, .int 0])), (upc, .inl (cL, 12, .inr (.inl (fun _ => 0)))), (upp, .inl (cI, 6, .inl (fun _ => 0))), (ur, .inr (3, [.ref uj, .ref urc, .ref urp, .int 0])), (urc, .inl (cL, 12, .inr (.inl (fun _ => 0)))), (urp, .inl (cI, 6, .inl (fun _ => 0))), (urow, .inl (cL, 5000, .inr (.inl (fun _ => 0)))), (uk, .inr (1, [.ref ukw, .ref uke, .ref uku, .ref ukn, .ref ukc, .ref ukp, .int 0])), (ukw, .inl (cZ, 100, .inl (fun _ => 0))), (uke, .inl (cI, 100, .inl (fun _ => 0))), (uku, .inl (cI, 100, .inl (fun _ => 0))), (ukn, .inl (cI, 100, .inl (fun _ => 0))), (ukc, .inl (cL, 1200, .inr (.inl (fun _ => 0)))), (ukp, .inl (cI, 600, .inl (fun _ => 0)))] := hD
  have hP9 := hP.sub (ws' := [(ax, .inr (4, [.ref uj, .ref up, .ref ur, .ref urow, .ref uk, .int 0, .int 0, .int 0, .int 0])), (uj, .inr (2, [.ref uf, .ref ul, .int 0, .int 0])), (uf, .inl (cL, 12, .inr (.inl (fun _ => 0)))), (ul, .inl (cI, 6, .inl (fun _ => 0))), (up, .inr (3, [.ref uj, .ref upc, .ref upp, .int 0])), (upc, .inl (cL, 12, .inr (.inl (fun _ => 0)))), (upp, .inl (cI, 6, .inl (fun _ => 0))), (ur, .inr (3, [.ref uj, .ref urc, .ref urp, .int 0])), (urc, .inl (cL, 12, .inr (.inl (fun _ => 0)))), (urp, .inl (cI, 6, .inl (fun _ => 0))), (urow, .inl (cL, 5000, .inr (.inl (fun _ => 0)))), (uk, .inr (1, [.ref ukw, .ref uke, .ref uku, .ref ukn, .ref ukc, .ref ukp, .int 0])), (ukw, .inl (cZ, 100, .inl (fun _ => 0))), (uke, .inl (cI, 100, .inl (fun _ => 0))), (uku, .inl (cI, 100, .inl (fun _ => 0))), (ukn, .inl (cI, 100, .inl (fun _ => 0))), (ukc, .inl (cL, 1200, .inr (.inl (fun _ => 0)))), (ukp, .inl (cI, 600, .inl (fun _ => 0)))]) [0, 1, 2, 3, 4, 5, 6, 7, 8, 9, 10, 11, 12, 13, 14, 15, 16, 17] rfl
  have hD9 := hD.sub (ws' := [(ax, .inr (4, [.ref uj, .ref up, .ref ur, .ref urow, .ref uk, .int 0, .int 0, .int 0, .int 0])), (uj, .inr (2, [.ref uf, .ref ul, .int 0, .int 0])), (uf, .inl (cL, 12, .inr (.inl (fun _ => 0)))), (ul, .inl (cI, 6, .inl (fun _ => 0))), (up, .inr (3, [.ref uj, .ref upc, .ref upp, .int 0])), (upc, .inl (cL, 12, .inr (.inl (fun _ => 0)))), (upp, .inl (cI, 6, .inl (fun _ => 0))), (ur, .inr (3, [.ref uj, .ref urc, .ref urp, .int 0])), (urc, .inl (cL, 12, .inr (.inl (fun _ => 0)))), (urp, .inl (cI, 6, .inl (fun _ => 0))), (urow, .inl (cL, 5000, .inr (.inl (fun _ => 0)))), (uk, .inr (1, [.ref ukw, .ref uke, .ref uku, .ref ukn, .ref ukc, .ref ukp, .int 0])), (ukw, .inl (cZ, 100, .inl (fun _ => 0))), (uke, .inl (cI, 100, .inl (fun _ => 0))), (uku, .inl (cI, 100, .inl (fun _ => 0))), (ukn, .inl (cI, 100, .inl (fun _ => 0))), (ukc, .inl (cL, 1200, .inr (.inl (fun _ => 0)))), (ukp, .inl (cI, 600, .inl (fun _ => 0)))]) [0, 1, 2, 3, 4, 5, 6, 7, 8, 9, 10, 11, 12, 13, 14, 15, 16, 17] (by decide) rfl
  refine W.widen (k := 17) (n := 7273) (Nat.le_of_ble_eq_true rfl) (Nat.le_of_ble_eq_true rfl) ?_
  exact W.vret hx hb hr (fun t9 ht9 hW9 => ⟨⟨(uj, uf, ul, up, upc, upp, ur, urc, urp, urow, uk, ukw, uke, uku, ukn, ukc, ukp), rfl, trivial, by rw [ht9]; exact hP9, va_K.moved hW9.alike hK, hD9⟩, hS.F ht9⟩) hS.2.2 dX3_init_85
abbrev rm_X3_restart : Room := { frames := 2, cells := 0, slots := 0, locals := 63 }
abbrev qc_X3_restart (D : va_G) (cI cL cZ : ClassId) (ax : Nat) (aj : Nat) (ap : Nat) (ar : Nat) (arow : Nat) (ak : Nat) (ed : Int32) (dn : Int32) (cp : Int32) (ct : Int32) (akw : Nat) (ake : Nat) (aku : Nat) (akn : Nat) (akc : Nat) (akp : Nat) (kw : Nat → Int32) (ke : Nat → Int32) (ku : Nat → Int32) (kn : Nat → Int32) (kc : Nat → Int64) (kp : Nat → Int32) (apc : Nat) (app : Nat) (cs : Nat → Int64) (ps : Nat → Int32) (af : Nat) (al : Nat) (c : Nat) (f : Nat) (t : Nat) (kb : Nat) (fv : Nat → Int64) (ln : Nat → Int32) (x : Int32) (A : Nat → Prop) : Array Value → State → Outcome → State → Prop := va_Qi (fun (r : Int32) (u : Nat × (Nat → Int64) × (Nat → Int32) × Nat × Int32) => ((dn = 0 ∧ r = -5 ∧ (u.1 = kb ∧ u.2.1 = cs ∧ u.2.2.1 = ps ∧ u.2.2.2.1 = t ∧ u.2.2.2.2 = dn)) ∨ (¬ dn = 0 ∧ lwn kw kb x = 0 ∧ r = -1 ∧ (u.1 = kb ∧ u.2.1 = cs ∧ u.2.2.1 = ps ∧ u.2.2.2.1 = t ∧ u.2.2.2.2 = dn)) ∨ (¬ dn = 0 ∧ ¬ lwn kw kb x = 0 ∧ ¬ ke (lwn kw kb x - 1) = ed ∧ r = -3 ∧ (u.1 = kb ∧ u.2.1 = cs ∧ u.2.2.1 = ps ∧ u.2.2.2.1 = t ∧ u.2.2.2.2 = dn)) ∨ (¬ dn = 0 ∧ ¬ lwn kw kb x = 0 ∧ ke (lwn kw kb x - 1) = ed ∧ ¬ pe_r (lwn kw kb x) f ln kp = 0 ∧ r = -2 ∧ (u.1 = kb ∧ u.2.1 = cs ∧ u.2.2.1 = ps ∧ u.2.2.2.1 = t ∧ u.2.2.2.2 = dn)) ∨ (¬ dn = 0 ∧ ¬ lwn kw kb x = 0 ∧ ke (lwn kw kb x - 1) = ed ∧ pe_r (lwn kw kb x) f ln kp = 0 ∧ r = nI (lwn kw kb x) ∧ u.1 = lwn kw kb x ∧ (∃ n, n ≤ 12 ∧ kn (lwn kw kb x - 1) = nI n ∧ u.2.1 = va_cpy kc (so_c cs fv c) ((lwn kw kb x - 1) * 12) 0 n) ∧ u.2.2.1 = va_cpy kp (so_p ps 6) ((lwn kw kb x - 1) * 6) 0 6 ∧ ku (lwn kw kb x - 1) = nI u.2.2.2.1 ∧ u.2.2.2.1 ≤ 5000 ∧ u.2.2.2.2 = 0))) (ct_B D vwCl [(cI, .int), (cL, .long), (cZ, .boolean)] A (fun (u : Nat × (Nat → Int64) × (Nat → Int32) × Nat × Int32) => [(ax, .inr (4, [.ref aj, .ref ap, .ref ar, .ref arow, .ref ak, .int ed, .int u.2.2.2.2, .int cp, .int ct])), (ak, .inr (1, [.ref akw, .ref ake, .ref aku, .ref akn, .ref akc, .ref akp, .int (nI u.1)])), (akw, .inl (cZ, 100, .inl kw)), (ake, .inl (cI, 100, .inl ke)), (aku, .inl (cI, 100, .inl ku)), (akn, .inl (cI, 100, .inl kn)), (akc, .inl (cL, 1200, .inr (.inl kc))), (akp, .inl (cI, 600, .inl kp)), (ap, .inr (3, [.ref aj, .ref apc, .ref app, .int (nI u.2.2.2.1)])), (apc, .inl (cL, 12, .inr (.inl u.2.1))), (app, .inl (cI, 6, .inl u.2.2.1)), (aj, .inr (2, [.ref af, .ref al, .int (nI c), .int (nI f)])), (af, .inl (cL, 12, .inr (.inl fv))), (al, .inl (cI, 6, .inl ln))])) A
set_option maxHeartbeats 4000000 in
set_option maxRecDepth 100000 in
theorem c_X3_restart (l : Launch) (D : va_G) (cI cL cZ : ClassId) (ax : Nat) (aj : Nat) (ap : Nat) (ar : Nat) (arow : Nat) (ak : Nat) (ed : Int32) (dn : Int32) (cp : Int32) (ct : Int32) (akw : Nat) (ake : Nat) (aku : Nat) (akn : Nat) (akc : Nat) (akp : Nat) (kw : Nat → Int32) (ke : Nat → Int32) (ku : Nat → Int32) (kn : Nat → Int32) (kc : Nat → Int64) (kp : Nat → Int32) (apc : Nat) (app : Nat) (cs : Nat → Int64) (ps : Nat → Int32) (af : Nat) (al : Nat) (c : Nat) (f : Nat) (t : Nat) (kb : Nat) (fv : Nat → Int64) (ln : Nat → Int32) (x : Int32) (sz : Nat) (hc : c ≤ 12) (hf : f ≤ 6) (hkb : kb ≤ 100) (hku : ∀ j, ∃ n, n ≤ 5000 ∧ ku j = nI n) (hkn : ∀ j, ∃ n, n ≤ 12 ∧ kn j = nI n) : Met l yX3_restart wsX3_restart rm_X3_restart (va_Pc [.ref ax, .int x] (ct_P D vwCl [(cI, .int), (cL, .long), (cZ, .boolean)] [(ax, .inr (4, [.ref aj, .ref ap, .ref ar, .ref arow, .ref ak, .int ed, .int dn, .int cp, .int ct])), (ak, .inr (1, [.ref akw, .ref ake, .ref aku, .ref akn, .ref akc, .ref akp, .int (nI kb)])), (akw, .inl (cZ, 100, .inl kw)), (ake, .inl (cI, 100, .inl ke)), (aku, .inl (cI, 100, .inl ku)), (akn, .inl (cI, 100, .inl kn)), (akc, .inl (cL, 1200, .inr (.inl kc))), (akp, .inl (cI, 600, .inl kp)), (ap, .inr (3, [.ref aj, .ref apc, .ref app, .int (nI t)])), (apc, .inl (cL, 12, .inr (.inl cs))), (app, .inl (cI, 6, .inl ps)), (aj, .inr (2, [.ref af, .ref al, .int (nI c), .int (nI f)])), (af, .inl (cL, 12, .inr (.inl fv))), (al, .inl (cI, 6, .inl ln))] sz)) (qc_X3_restart D cI cL cZ ax aj ap ar arow ak ed dn cp ct akw ake aku akn akc akp kw ke ku kn kc kp apc app cs ps af al c f t kb fv ln x (va_A [(ax, .inr (4, [.ref aj, .ref ap, .ref ar, .ref arow, .ref ak, .int ed, .int dn, .int cp, .int ct])), (ak, .inr (1, [.ref akw, .ref ake, .ref aku, .ref akn, .ref akc, .ref akp, .int (nI kb)])), (akw, .inl (cZ, 100, .inl kw)), (ake, .inl (cI, 100, .inl ke)), (aku, .inl (cI, 100, .inl ku)), (akn, .inl (cI, 100, .inl kn)), (akc, .inl (cL, 1200, .inr (.inl kc))), (akp, .inl (cI, 600, .inl kp)), (ap, .inr (3, [.ref aj, .ref apc, .ref app, .int (nI t)])), (apc, .inl (cL, 12, .inr (.inl cs))), (app, .inl (cI, 6, .inl ps)), (aj, .inr (2, [.ref af, .ref al, .int (nI c), .int (nI f)])), (af, .inl (cL, 12, .inr (.inl fv))), (al, .inl (cI, 6, .inl ln))] sz)) 0 0 (va_A [(ax, .inr (4, [.ref aj, .ref ap, .ref ar, .ref arow, .ref ak, .int ed, .int dn, .int cp, .int ct])), (ak, .inr (1, [.ref akw, .ref ake, .ref aku, .ref akn, .ref akc, .ref akp, .int (nI kb)])), (akw, .inl (cZ, 100, .inl kw)), (ake, .inl (cI, 100, .inl ke)), (aku, .inl (cI, 100, .inl ku)), (akn, .inl (cI, 100, .inl kn)), (akc, .inl (cL, 1200, .inr (.inl kc))), (akp, .inl (cI, 600, .inl kp)), (ap, .inr (3, [.ref aj, .ref apc, .ref app, .int (nI t)])), (apc, .inl (cL, 12, .inr (.inl cs))), (app, .inl (cI, 6, .inl ps)), (aj, .inr (2, [.ref af, .ref al, .int (nI c), .int (nI f)])), (af, .inl (cL, 12, .inr (.inl fv))), (al, .inl (cI, 6, .inl ln))] sz) := by
  refine Met.ofW (cc := cX3_restart) (maxL := 3) (ret := (some .int)) (by decide) rfl ?_
  intro p e s m args below meth cd s₁ B hml hv
  obtain ⟨rfl, hsz, hP, hK, hD0⟩ := hv
  have hx := B.exec
  have hb := B.bytes
  have hr := B.returns
  have hts := atoms_spec (ws := wsX3_restart) B.pre
  have iX3 : ∀ w ∈ wsX30, w ∈ wsX3_restart := by decide +kernel
  have wf43 := hts (.fieldLink RX3 43 "CheckRestart" "down" "Z") (by decide +kernel)
  have wf35 := hts (.fieldLink RX3 35 "CheckRestart" "checkpoints" "LCheckRestart$Checkpoints;") (by decide +kernel)
  have iX0 : ∀ w ∈ wsX00, w ∈ wsX3_restart := by decide +kernel
  have wf100 := hts (.fieldLink RX3 100 "CheckRestart$Checkpoints" "editions" "[I") (by decide +kernel)
  have wf39 := hts (.fieldLink RX3 39 "CheckRestart" "editionNow" "I") (by decide +kernel)
  have wf10 := hts (.fieldLink RX3 10 "CheckRestart" "job" "LCheckRestart$Job;") (by decide +kernel)
  have wf21 := hts (.fieldLink RX3 21 "CheckRestart" "progress" "LCheckRestart$Progress;") (by decide +kernel)
  have wf83 := hts (.fieldLink RX3 83 "CheckRestart$Checkpoints" "begun" "I") (by decide +kernel)
  have hown : s.vm.findClass RX3 = some m.cls := findClass_of_methodNamed B.named
  have hlocks := B.notSynchronized
  subst hsz
  have hD := hD0.self (sz := s.heap.size)
  generalize hAe : va_A [(ax, .inr (4, [.ref aj, .ref ap, .ref ar, .ref arow, .ref ak, .int ed, .int dn, .int cp, .int ct])), (ak, .inr (1, [.ref akw, .ref ake, .ref aku, .ref akn, .ref akc, .ref akp, .int (nI kb)])), (akw, .inl (cZ, 100, .inl kw)), (ake, .inl (cI, 100, .inl ke)), (aku, .inl (cI, 100, .inl ku)), (akn, .inl (cI, 100, .inl kn)), (akc, .inl (cL, 1200, .inr (.inl kc))), (akp, .inl (cI, 600, .inl kp)), (ap, .inr (3, [.ref aj, .ref apc, .ref app, .int (nI t)])), (apc, .inl (cL, 12, .inr (.inl cs))), (app, .inl (cI, 6, .inl ps)), (aj, .inr (2, [.ref af, .ref al, .int (nI c), .int (nI f)])), (af, .inl (cL, 12, .inr (.inl fv))), (al, .inl (cI, 6, .inl ln))] s.heap.size = A at hD ⊢
  have hA : ∀ q : Nat, s.heap.size ≤ q → A q := fun q h => by rw [← hAe]; exact Or.inr h
  have hS : va_S A s.heap s.heap [] := va_S.rf
  have hl := lv_entry ([.ref ax, .int x]) (n := 3) (Nat.le_of_ble_eq_true rfl)
  rw [lg_entry_eq]
  generalize (lg_sl ([.ref ax, .int x]) ++ List.replicate (3 - (lg_sl ([.ref ax, .int x])).length) Slot.unset).toArray = ls at hl ⊢
  have hl : lv_has ls 3 [(0, .ref ax), (1, .int x)] := hl
  refine lv_aload_n hx hb dX3_restart_0 rfl (lv_at hl 0 rfl) ?_
  refine va_get (D := D) (ci := 4) (v := .int dn) (C := RX3) (T := TX3) (N := 9) hx hb hts iX3 hown hK hP 0 rfl rfl 6 (by decide) wf43 (fun _ h9 => h9) rfl dX3_restart_1 ?_
  refine lv_if_ne (tgt := 10) hx hb dX3_restart_4 (by decide) (fun c_4 => ?_) (fun c_4 => ?_)
  · refine lv_aload_n hx hb dX3_restart_10 rfl (lv_at hl 0 rfl) ?_
    refine va_get (D := D) (ci := 4) (v := .ref ak) (C := RX3) (T := TX3) (N := 9) hx hb hts iX3 hown hK hP 0 rfl rfl 4 (by decide) wf35 (fun _ h9 => h9) rfl dX3_restart_11 ?_
    refine lv_iload_n hx hb dX3_restart_14 rfl (lv_at hl 1 rfl) ?_
    refine ct_calli (wr := [(ax, .inr (4, [.ref aj, .ref ap, .ref ar, .ref arow, .ref ak, .int ed, .int dn, .int cp, .int ct])), (ake, .inl (cI, 100, .inl ke)), (aku, .inl (cI, 100, .inl ku)), (akn, .inl (cI, 100, .inl kn)), (akc, .inl (cL, 1200, .inr (.inl kc))), (akp, .inl (cI, 600, .inl kp)), (ap, .inr (3, [.ref aj, .ref apc, .ref app, .int (nI t)])), (apc, .inl (cL, 12, .inr (.inl cs))), (app, .inl (cI, 6, .inl ps)), (aj, .inr (2, [.ref af, .ref al, .int (nI c), .int (nI f)])), (af, .inl (cL, 12, .inr (.inl fv))), (al, .inl (cI, 6, .inl ln))]) (rest := []) hP hD hS hA [1, 2] [0, 3, 4, 5, 6, 7, 8, 9, 10, 11, 12, 13] (va_runV (C := RX0) (As := [.int x]) ⟨hx, hb, hml, hown, hts⟩ (c_X0_latestWholeUpTo l D cI cL cZ ak akw ake aku akn akc akp kw kb x _ (by omega)) (cwV 1 hts gX3_restart_X0_latestWholeUpTo rfl rfl rfl (by decide +kernel) ⟨Nat.le_of_ble_eq_true rfl, Nat.le_of_ble_eq_true rfl⟩) (ct_preV (q0 := 0) (ci := 1) hK hP hD [1, 2] (by decide) rfl rfl rfl rfl rfl) rfl rfl hl.1 rfl (lv_room (Nat.le_of_ble_eq_true rfl)) dX3_restart_15 ⟨Nat.le_of_ble_eq_true rfl, Nat.le_of_ble_eq_true rfl⟩) rfl rfl (by decide) (by decide) (fun r_1 u H locs hw hP hD hS => ?_)
    try dsimp only at hw
    obtain rfl := hw
    have hP : va_P D vwCl [(ax, .inr (4, [.ref aj, .ref ap, .ref ar, .ref arow, .ref ak, .int ed, .int dn, .int cp, .int ct])), (ake, .inl (cI, 100, .inl ke)), (aku, .inl (cI, 100, .inl ku)), (akn, .inl (cI, 100, .inl kn)), (akc, .inl (cL, 1200, .inr (.inl kc))), (akp, .inl (cI, 600, .inl kp)), (ap, .inr (3, [.ref aj, .ref apc, .ref app, .int (nI t)])), (apc, .inl (cL, 12, .inr (.inl cs))), (app, .inl (cI, 6, .inl ps)), (aj, .inr (2, [.ref af, .ref al, .int (nI c), .int (nI f)])), (af, .inl (cL, 12, .inr (.inl fv))), (al, .inl (cI, 6, .inl ln)), (ak, .inr (1, [.ref akw, .ref ake, .ref aku, .ref akn, .ref akc, .ref akp, .int (nI kb)])), (akw, .inl (cZ, 100, .inl kw))] H := hP
    have hD : va_D A [(ax, .inr (4, [.ref aj, .ref ap, .ref ar, .ref arow, .ref ak, .int ed, .int dn, .int cp, .int ct])), (ake, .inl (cI, 100, .inl ke)), (aku, .inl (cI, 100, .inl ku)), (akn, .inl (cI, 100, .inl kn)), (akc, .inl (cL, 1200, .inr (.inl kc))), (akp, .inl (cI, 600, .inl kp)), (ap, .inr (3, [.ref aj, .ref apc, .ref app, .int (nI t)])), (apc, .inl (cL, 12, .inr (.inl cs))), (app, .inl (cI, 6, .inl ps)), (aj, .inr (2, [.ref af, .ref al, .int (nI c), .int (nI f)])), (af, .inl (cL, 12, .inr (.inl fv))), (al, .inl (cI, 6, .inl ln)), (ak, .inr (1, [.ref akw, .ref ake, .ref aku, .ref akn, .ref akc, .ref akp, .int (nI kb)])), (akw, .inl (cZ, 100, .inl kw))] := hD
    refine lv_istore_n (lv' := [(2, .int (lw_r kw kb x)), (0, .ref ax), (1, .int x)]) hx hb dX3_restart_18 rfl hl (by decide) rfl (fun ls hl => ?_)
    refine lv_iload_n hx hb dX3_restart_19 rfl (lv_at hl 0 rfl) ?_
    refine lv_iconst (v := (-1)) hx hb dX3_restart_20 (by decide) ?_
    refine lv_icmp_ne (tgt := 26) hx hb dX3_restart_21 (by decide) (fun c_21 => ?_) (fun c_21 => ?_)
    · obtain ⟨k, hk1, hk2, hlk⟩ := lw_r_ok hkb c_21
      have hln : lwn kw kb x = k := lwn_of hkb (by omega) (by omega) hlk
      have hl0 : ¬ lwn kw kb x = 0 := by omega
      refine lv_aload_n hx hb dX3_restart_26 rfl (lv_at hl 1 rfl) ?_
      refine va_get (D := D) (ci := 4) (v := .ref ak) (C := RX3) (T := TX3) (N := 9) hx hb hts iX3 hown hK hP 0 rfl rfl 4 (by decide) wf35 (fun _ h9 => h9) rfl dX3_restart_27 ?_
      refine va_get (D := D) (ci := 1) (v := .ref ake) (C := RX0) (T := TX0) (N := 7) hx hb hts iX0 hown hK hP 12 rfl rfl 1 (by decide) wf100 (fun _ h9 => h9) rfl dX3_restart_30 ?_
      refine lv_iload_n hx hb dX3_restart_33 rfl (lv_at hl 0 rfl) ?_
      refine ct_topi (y := (nI k)) (hlk) ?_
      refine lv_iconst (v := 1) hx hb dX3_restart_34 (by decide) ?_
      refine lv_isub hx hb dX3_restart_35 ?_
      refine ct_topi (y := (nI (k - 1))) (pk_sub (a := k) (b := 1) (by omega)) ?_
      refine ct_iald (k := (k - 1)) hx hb hK hP 1 0 rfl rfl (by omega) (by decide) dX3_restart_36 ?_
      refine lv_aload_n hx hb dX3_restart_37 rfl (lv_at hl 1 rfl) ?_
      refine va_get (D := D) (ci := 4) (v := .int ed) (C := RX3) (T := TX3) (N := 9) hx hb hts iX3 hown hK hP 0 rfl rfl 5 (by decide) wf39 (fun _ h9 => h9) rfl dX3_restart_38 ?_
      refine lv_icmp_eq (tgt := 47) hx hb dX3_restart_41 (by decide) (fun c_41 => ?_) (fun c_41 => ?_)
      · refine lv_aload_n hx hb dX3_restart_47 rfl (lv_at hl 1 rfl) ?_
        refine va_get (D := D) (ci := 4) (v := .ref ak) (C := RX3) (T := TX3) (N := 9) hx hb hts iX3 hown hK hP 0 rfl rfl 4 (by decide) wf35 (fun _ h9 => h9) rfl dX3_restart_48 ?_
        refine lv_iload_n hx hb dX3_restart_51 rfl (lv_at hl 0 rfl) ?_
        refine ct_topi (y := (nI k)) (hlk) ?_
        refine lv_aload_n hx hb dX3_restart_52 rfl (lv_at hl 1 rfl) ?_
        refine va_get (D := D) (ci := 4) (v := .ref aj) (C := RX3) (T := TX3) (N := 9) hx hb hts iX3 hown hK hP 0 rfl rfl 0 (by decide) wf10 (fun _ h9 => h9) rfl dX3_restart_53 ?_
        refine ct_calli (wr := [(ax, .inr (4, [.ref aj, .ref ap, .ref ar, .ref arow, .ref ak, .int ed, .int dn, .int cp, .int ct])), (ake, .inl (cI, 100, .inl ke)), (aku, .inl (cI, 100, .inl ku)), (akn, .inl (cI, 100, .inl kn)), (akc, .inl (cL, 1200, .inr (.inl kc))), (ap, .inr (3, [.ref aj, .ref apc, .ref app, .int (nI t)])), (apc, .inl (cL, 12, .inr (.inl cs))), (app, .inl (cI, 6, .inl ps)), (af, .inl (cL, 12, .inr (.inl fv))), (akw, .inl (cZ, 100, .inl kw))]) (rest := []) hP hD hS hA [12, 5, 9, 11] [0, 1, 2, 3, 4, 6, 7, 8, 10, 13] (va_runV (C := RX0) (As := [.int (nI k), .ref aj]) ⟨hx, hb, hml, hown, hts⟩ (c_X0_isPastAFilesEnd l D cI cL cZ ak akw ake aku akn akc akp kp kb aj af al c f ln k _ (by omega) (by omega) (by omega)) (cwV 2 hts gX3_restart_X0_isPastAFilesEnd rfl rfl rfl (by decide +kernel) ⟨Nat.le_of_ble_eq_true rfl, Nat.le_of_ble_eq_true rfl⟩) (ct_preV (q0 := 0) (ci := 1) hK hP hD [12, 5, 9, 11] (by decide) rfl rfl rfl rfl rfl) rfl rfl hl.1 rfl (lv_room (Nat.le_of_ble_eq_true rfl)) dX3_restart_56 ⟨Nat.le_of_ble_eq_true rfl, Nat.le_of_ble_eq_true rfl⟩) rfl rfl (by decide) (by decide) (fun r_2 u H locs hw hP hD hS => ?_)
        try dsimp only at hw
        obtain rfl := hw
        have hP : va_P D vwCl [(ax, .inr (4, [.ref aj, .ref ap, .ref ar, .ref arow, .ref ak, .int ed, .int dn, .int cp, .int ct])), (ake, .inl (cI, 100, .inl ke)), (aku, .inl (cI, 100, .inl ku)), (akn, .inl (cI, 100, .inl kn)), (akc, .inl (cL, 1200, .inr (.inl kc))), (ap, .inr (3, [.ref aj, .ref apc, .ref app, .int (nI t)])), (apc, .inl (cL, 12, .inr (.inl cs))), (app, .inl (cI, 6, .inl ps)), (af, .inl (cL, 12, .inr (.inl fv))), (akw, .inl (cZ, 100, .inl kw)), (ak, .inr (1, [.ref akw, .ref ake, .ref aku, .ref akn, .ref akc, .ref akp, .int (nI kb)])), (akp, .inl (cI, 600, .inl kp)), (aj, .inr (2, [.ref af, .ref al, .int (nI c), .int (nI f)])), (al, .inl (cI, 6, .inl ln))] H := hP
        have hD : va_D A [(ax, .inr (4, [.ref aj, .ref ap, .ref ar, .ref arow, .ref ak, .int ed, .int dn, .int cp, .int ct])), (ake, .inl (cI, 100, .inl ke)), (aku, .inl (cI, 100, .inl ku)), (akn, .inl (cI, 100, .inl kn)), (akc, .inl (cL, 1200, .inr (.inl kc))), (ap, .inr (3, [.ref aj, .ref apc, .ref app, .int (nI t)])), (apc, .inl (cL, 12, .inr (.inl cs))), (app, .inl (cI, 6, .inl ps)), (af, .inl (cL, 12, .inr (.inl fv))), (akw, .inl (cZ, 100, .inl kw)), (ak, .inr (1, [.ref akw, .ref ake, .ref aku, .ref akn, .ref akc, .ref akp, .int (nI kb)])), (akp, .inl (cI, 600, .inl kp)), (aj, .inr (2, [.ref af, .ref al, .int (nI c), .int (nI f)])), (al, .inl (cI, 6, .inl ln))] := hD
        refine lv_if_eq (tgt := 65) hx hb dX3_restart_59 (by decide) (fun c_59 => ?_) (fun c_59 => ?_)
        · refine lv_aload_n hx hb dX3_restart_65 rfl (lv_at hl 1 rfl) ?_
          refine va_get (D := D) (ci := 4) (v := .ref ak) (C := RX3) (T := TX3) (N := 9) hx hb hts iX3 hown hK hP 0 rfl rfl 4 (by decide) wf35 (fun _ h9 => h9) rfl dX3_restart_66 ?_
          obtain ⟨n, hn, hnk⟩ := hkn (k - 1)
          obtain ⟨w, hw2, hwk⟩ := hku (k - 1)
          refine lv_iload_n hx hb dX3_restart_69 rfl (lv_at hl 0 rfl) ?_
          refine ct_topi (y := (nI k)) (hlk) ?_
          refine lv_aload_n hx hb dX3_restart_70 rfl (lv_at hl 1 rfl) ?_
          refine va_get (D := D) (ci := 4) (v := .ref ap) (C := RX3) (T := TX3) (N := 9) hx hb hts iX3 hown hK hP 0 rfl rfl 1 (by decide) wf21 (fun _ h9 => h9) rfl dX3_restart_71 ?_
          refine ct_callv (wr := [(ax, .inr (4, [.ref aj, .ref ap, .ref ar, .ref arow, .ref ak, .int ed, .int dn, .int cp, .int ct]))]) (rest := []) hP hD hS hA [10, 9, 1, 2, 3, 4, 11, 5, 6, 7, 12, 8, 13] [0] (va_runV (C := RX0) (As := [.int (nI k), .ref ap]) ⟨hx, hb, hml, hown, hts⟩ (c_X0_putBack l D cI cL cZ ak akw ake aku akn akc akp kw ke ku kn kc kp ap apc app cs ps aj af al c f fv ln (nI t) kb k n _ (by omega) (by omega) (by omega) hn hnk) (cwV 2 hts gX3_restart_X0_putBack rfl rfl rfl (by decide +kernel) ⟨Nat.le_of_ble_eq_true rfl, Nat.le_of_ble_eq_true rfl⟩) (ct_preV (q0 := 0) (ci := 1) hK hP hD [10, 9, 1, 2, 3, 4, 11, 5, 6, 7, 12, 8, 13] (by decide) rfl rfl rfl rfl rfl) rfl rfl hl.1 rfl (lv_room (Nat.le_of_ble_eq_true rfl)) dX3_restart_74 ⟨Nat.le_of_ble_eq_true rfl, Nat.le_of_ble_eq_true rfl⟩) rfl rfl (by decide) (by decide) (fun u H locs hw hP hD hS => ?_)
          try dsimp only at hw
          have hP : va_P D vwCl [(ax, .inr (4, [.ref aj, .ref ap, .ref ar, .ref arow, .ref ak, .int ed, .int dn, .int cp, .int ct])), (ak, .inr (1, [.ref akw, .ref ake, .ref aku, .ref akn, .ref akc, .ref akp, .int (nI kb)])), (akw, .inl (cZ, 100, .inl kw)), (ake, .inl (cI, 100, .inl ke)), (aku, .inl (cI, 100, .inl ku)), (akn, .inl (cI, 100, .inl kn)), (akc, .inl (cL, 1200, .inr (.inl kc))), (akp, .inl (cI, 600, .inl kp)), (ap, .inr (3, [.ref aj, .ref apc, .ref app, .int (ku (k - 1))])), (apc, .inl (cL, 12, .inr (.inl (va_cpy kc (so_c cs fv c) ((k - 1) * 12) 0 n)))), (app, .inl (cI, 6, .inl (va_cpy kp (so_p ps 6) ((k - 1) * 6) 0 6))), (aj, .inr (2, [.ref af, .ref al, .int (nI c), .int (nI f)])), (af, .inl (cL, 12, .inr (.inl fv))), (al, .inl (cI, 6, .inl ln))] H := hP
          have hD : va_D A [(ax, .inr (4, [.ref aj, .ref ap, .ref ar, .ref arow, .ref ak, .int ed, .int dn, .int cp, .int ct])), (ak, .inr (1, [.ref akw, .ref ake, .ref aku, .ref akn, .ref akc, .ref akp, .int (nI kb)])), (akw, .inl (cZ, 100, .inl kw)), (ake, .inl (cI, 100, .inl ke)), (aku, .inl (cI, 100, .inl ku)), (akn, .inl (cI, 100, .inl kn)), (akc, .inl (cL, 1200, .inr (.inl kc))), (akp, .inl (cI, 600, .inl kp)), (ap, .inr (3, [.ref aj, .ref apc, .ref app, .int (ku (k - 1))])), (apc, .inl (cL, 12, .inr (.inl (va_cpy kc (so_c cs fv c) ((k - 1) * 12) 0 n)))), (app, .inl (cI, 6, .inl (va_cpy kp (so_p ps 6) ((k - 1) * 6) 0 6))), (aj, .inr (2, [.ref af, .ref al, .int (nI c), .int (nI f)])), (af, .inl (cL, 12, .inr (.inl fv))), (al, .inl (cI, 6, .inl ln))] := hD
          rw [hwk] at hP hD
          refine lv_aload_n hx hb dX3_restart_77 rfl (lv_at hl 1 rfl) ?_
          refine va_get (D := D) (ci := 4) (v := .ref ak) (C := RX3) (T := TX3) (N := 9) hx hb hts iX3 hown hK hP 0 rfl rfl 4 (by decide) wf35 (fun _ h9 => h9) rfl dX3_restart_78 ?_
          refine lv_iload_n hx hb dX3_restart_81 rfl (lv_at hl 0 rfl) ?_
          refine ct_topi (y := (nI k)) (hlk) ?_
          refine va_put (D := D) (ci := 1) (v := .int (nI k)) (ty := .int) (C := RX0) (T := TX0) (N := 7) hx hb hts iX0 tyX0 tyX0_ok nmX0 hown hK hP hD hS 1 rfl rfl 6 (by decide) wf83 (fun _ h9 => h9) rfl (by decide +kernel) rfl rfl (Nat.le_of_ble_eq_true rfl) dX3_restart_82 (fun H locs hP hD hS => ?_)
          have hP : va_P D vwCl [(ax, .inr (4, [.ref aj, .ref ap, .ref ar, .ref arow, .ref ak, .int ed, .int dn, .int cp, .int ct])), (ak, .inr (1, [.ref akw, .ref ake, .ref aku, .ref akn, .ref akc, .ref akp, .int (nI k)])), (akw, .inl (cZ, 100, .inl kw)), (ake, .inl (cI, 100, .inl ke)), (aku, .inl (cI, 100, .inl ku)), (akn, .inl (cI, 100, .inl kn)), (akc, .inl (cL, 1200, .inr (.inl kc))), (akp, .inl (cI, 600, .inl kp)), (ap, .inr (3, [.ref aj, .ref apc, .ref app, .int (nI w)])), (apc, .inl (cL, 12, .inr (.inl (va_cpy kc (so_c cs fv c) ((k - 1) * 12) 0 n)))), (app, .inl (cI, 6, .inl (va_cpy kp (so_p ps 6) ((k - 1) * 6) 0 6))), (aj, .inr (2, [.ref af, .ref al, .int (nI c), .int (nI f)])), (af, .inl (cL, 12, .inr (.inl fv))), (al, .inl (cI, 6, .inl ln))] H := hP
          have hD : va_D A [(ax, .inr (4, [.ref aj, .ref ap, .ref ar, .ref arow, .ref ak, .int ed, .int dn, .int cp, .int ct])), (ak, .inr (1, [.ref akw, .ref ake, .ref aku, .ref akn, .ref akc, .ref akp, .int (nI k)])), (akw, .inl (cZ, 100, .inl kw)), (ake, .inl (cI, 100, .inl ke)), (aku, .inl (cI, 100, .inl ku)), (akn, .inl (cI, 100, .inl kn)), (akc, .inl (cL, 1200, .inr (.inl kc))), (akp, .inl (cI, 600, .inl kp)), (ap, .inr (3, [.ref aj, .ref apc, .ref app, .int (nI w)])), (apc, .inl (cL, 12, .inr (.inl (va_cpy kc (so_c cs fv c) ((k - 1) * 12) 0 n)))), (app, .inl (cI, 6, .inl (va_cpy kp (so_p ps 6) ((k - 1) * 6) 0 6))), (aj, .inr (2, [.ref af, .ref al, .int (nI c), .int (nI f)])), (af, .inl (cL, 12, .inr (.inl fv))), (al, .inl (cI, 6, .inl ln))] := hD
          refine lv_aload_n hx hb dX3_restart_85 rfl (lv_at hl 1 rfl) ?_
          refine lv_iconst (v := 0) hx hb dX3_restart_86 (by decide) ?_
          refine va_put (D := D) (ci := 4) (v := .int 0) (ty := .boolean) (C := RX3) (T := TX3) (N := 9) hx hb hts iX3 tyX3 tyX3_ok nmX3 hown hK hP hD hS 0 rfl rfl 6 (by decide) wf43 (fun _ h9 => h9) rfl (by decide +kernel) rfl rfl (Nat.le_of_ble_eq_true rfl) dX3_restart_87 (fun H locs hP hD hS => ?_)
          have hP : va_P D vwCl [(ax, .inr (4, [.ref aj, .ref ap, .ref ar, .ref arow, .ref ak, .int ed, .int 0, .int cp, .int ct])), (ak, .inr (1, [.ref akw, .ref ake, .ref aku, .ref akn, .ref akc, .ref akp, .int (nI k)])), (akw, .inl (cZ, 100, .inl kw)), (ake, .inl (cI, 100, .inl ke)), (aku, .inl (cI, 100, .inl ku)), (akn, .inl (cI, 100, .inl kn)), (akc, .inl (cL, 1200, .inr (.inl kc))), (akp, .inl (cI, 600, .inl kp)), (ap, .inr (3, [.ref aj, .ref apc, .ref app, .int (nI w)])), (apc, .inl (cL, 12, .inr (.inl (va_cpy kc (so_c cs fv c) ((k - 1) * 12) 0 n)))), (app, .inl (cI, 6, .inl (va_cpy kp (so_p ps 6) ((k - 1) * 6) 0 6))), (aj, .inr (2, [.ref af, .ref al, .int (nI c), .int (nI f)])), (af, .inl (cL, 12, .inr (.inl fv))), (al, .inl (cI, 6, .inl ln))] H := hP
          have hD : va_D A [(ax, .inr (4, [.ref aj, .ref ap, .ref ar, .ref arow, .ref ak, .int ed, .int 0, .int cp, .int ct])), (ak, .inr (1, [.ref akw, .ref ake, .ref aku, .ref akn, .ref akc, .ref akp, .int (nI k)])), (akw, .inl (cZ, 100, .inl kw)), (ake, .inl (cI, 100, .inl ke)), (aku, .inl (cI, 100, .inl ku)), (akn, .inl (cI, 100, .inl kn)), (akc, .inl (cL, 1200, .inr (.inl kc))), (akp, .inl (cI, 600, .inl kp)), (ap, .inr (3, [.ref aj, .ref apc, .ref app, .int (nI w)])), (apc, .inl (cL, 12, .inr (.inl (va_cpy kc (so_c cs fv c) ((k - 1) * 12) 0 n)))), (app, .inl (cI, 6, .inl (va_cpy kp (so_p ps 6) ((k - 1) * 6) 0 6))), (aj, .inr (2, [.ref af, .ref al, .int (nI c), .int (nI f)])), (af, .inl (cL, 12, .inr (.inl fv))), (al, .inl (cI, 6, .inl ln))] := hD
          refine lv_iload_n hx hb dX3_restart_90 rfl (lv_at hl 0 rfl) ?_
          refine ct_topi (y := (nI k)) (hlk) ?_
          have hP9 := hP.sub (ws' := [(ax, .inr (4, [.ref aj, .ref ap, .ref ar, .ref arow, .ref ak, .int ed, .int 0, .int cp, .int ct])), (ak, .inr (1, [.ref akw, .ref ake, .ref aku, .ref akn, .ref akc, .ref akp, .int (nI k)])), (akw, .inl (cZ, 100, .inl kw)), (ake, .inl (cI, 100, .inl ke)), (aku, .inl (cI, 100, .inl ku)), (akn, .inl (cI, 100, .inl kn)), (akc, .inl (cL, 1200, .inr (.inl kc))), (akp, .inl (cI, 600, .inl kp)), (ap, .inr (3, [.ref aj, .ref apc, .ref app, .int (nI w)])), (apc, .inl (cL, 12, .inr (.inl (va_cpy kc (so_c cs fv c) ((k - 1) * 12) 0 n)))), (app, .inl (cI, 6, .inl (va_cpy kp (so_p ps 6) ((k - 1) * 6) 0 6))), (aj, .inr (2, [.ref af, .ref al, .int (nI c), .int (nI f)])), (af, .inl (cL, 12, .inr (.inl fv))), (al, .inl (cI, 6, .inl ln))]) [0, 1, 2, 3, 4, 5, 6, 7, 8, 9, 10, 11, 12, 13] rfl
          have hD9 := hD.sub (ws' := [(ax, .inr (4, [.ref aj, .ref ap, .ref ar, .ref arow, .ref ak, .int ed, .int 0, .int cp, .int ct])), (ak, .inr (1, [.ref akw, .ref ake, .ref aku, .ref akn, .ref akc, .ref akp, .int (nI k)])), (akw, .inl (cZ, 100, .inl kw)), (ake, .inl (cI, 100, .inl ke)), (aku, .inl (cI, 100, .inl ku)), (akn, .inl (cI, 100, .inl kn)), (akc, .inl (cL, 1200, .inr (.inl kc))), (akp, .inl (cI, 600, .inl kp)), (ap, .inr (3, [.ref aj, .ref apc, .ref app, .int (nI w)])), (apc, .inl (cL, 12, .inr (.inl (va_cpy kc (so_c cs fv c) ((k - 1) * 12) 0 n)))), (app, .inl (cI, 6, .inl (va_cpy kp (so_p ps 6) ((k - 1) * 6) 0 6))), (aj, .inr (2, [.ref af, .ref al, .int (nI c), .int (nI f)])), (af, .inl (cL, 12, .inr (.inl fv))), (al, .inl (cI, 6, .inl ln))]) [0, 1, 2, 3, 4, 5, 6, 7, 8, 9, 10, 11, 12, 13] (by decide) rfl
          refine W.widen (k := 0) (n := 0) (Nat.le_of_ble_eq_true rfl) (Nat.le_of_ble_eq_true rfl) ?_
          exact W.iret (v := (nI k)) hx hb hr (fun t9 ht9 hW9 => ⟨⟨(nI k), (k, (va_cpy kc (so_c cs fv c) ((k - 1) * 12) 0 n), (va_cpy kp (so_p ps 6) ((k - 1) * 6) 0 6), w, 0), rfl, Or.inr (Or.inr (Or.inr (Or.inr ⟨c_4, hl0, by rw [hln]; exact c_41, by rw [hln]; exact c_59, by rw [hln], by rw [hln], by rw [hln]; exact ⟨n, hn, hnk, rfl⟩, by rw [hln], by rw [hln]; exact hwk, hw2, rfl⟩))), by rw [ht9]; exact hP9, va_K.moved hW9.alike hK, hD9⟩, hS.F ht9⟩) hS.2.2 dX3_restart_91
        · refine lv_bipush (v := (-2)) hx hb dX3_restart_62 (by decide) ?_
          have hP9 := hP.sub (ws' := [(ax, .inr (4, [.ref aj, .ref ap, .ref ar, .ref arow, .ref ak, .int ed, .int dn, .int cp, .int ct])), (ak, .inr (1, [.ref akw, .ref ake, .ref aku, .ref akn, .ref akc, .ref akp, .int (nI kb)])), (akw, .inl (cZ, 100, .inl kw)), (ake, .inl (cI, 100, .inl ke)), (aku, .inl (cI, 100, .inl ku)), (akn, .inl (cI, 100, .inl kn)), (akc, .inl (cL, 1200, .inr (.inl kc))), (akp, .inl (cI, 600, .inl kp)), (ap, .inr (3, [.ref aj, .ref apc, .ref app, .int (nI t)])), (apc, .inl (cL, 12, .inr (.inl cs))), (app, .inl (cI, 6, .inl ps)), (aj, .inr (2, [.ref af, .ref al, .int (nI c), .int (nI f)])), (af, .inl (cL, 12, .inr (.inl fv))), (al, .inl (cI, 6, .inl ln))]) [0, 10, 9, 1, 2, 3, 4, 11, 5, 6, 7, 12, 8, 13] rfl
          have hD9 := hD.sub (ws' := [(ax, .inr (4, [.ref aj, .ref ap, .ref ar, .ref arow, .ref ak, .int ed, .int dn, .int cp, .int ct])), (ak, .inr (1, [.ref akw, .ref ake, .ref aku, .ref akn, .ref akc, .ref akp, .int (nI kb)])), (akw, .inl (cZ, 100, .inl kw)), (ake, .inl (cI, 100, .inl ke)), (aku, .inl (cI, 100, .inl ku)), (akn, .inl (cI, 100, .inl kn)), (akc, .inl (cL, 1200, .inr (.inl kc))), (akp, .inl (cI, 600, .inl kp)), (ap, .inr (3, [.ref aj, .ref apc, .ref app, .int (nI t)])), (apc, .inl (cL, 12, .inr (.inl cs))), (app, .inl (cI, 6, .inl ps)), (aj, .inr (2, [.ref af, .ref al, .int (nI c), .int (nI f)])), (af, .inl (cL, 12, .inr (.inl fv))), (al, .inl (cI, 6, .inl ln))]) [0, 10, 9, 1, 2, 3, 4, 11, 5, 6, 7, 12, 8, 13] (by decide) rfl
          refine W.widen (k := 0) (n := 0) (Nat.le_of_ble_eq_true rfl) (Nat.le_of_ble_eq_true rfl) ?_
          exact W.iret (v := (-2)) hx hb hr (fun t9 ht9 hW9 => ⟨⟨(-2), (kb, cs, ps, t, dn), rfl, Or.inr (Or.inr (Or.inr (Or.inl ⟨c_4, hl0, by rw [hln]; exact c_41, by rw [hln]; exact c_59, rfl, ⟨rfl, rfl, rfl, rfl, rfl⟩⟩))), by rw [ht9]; exact hP9, va_K.moved hW9.alike hK, hD9⟩, hS.F ht9⟩) hS.2.2 dX3_restart_64
      · refine lv_bipush (v := (-3)) hx hb dX3_restart_44 (by decide) ?_
        have hP9 := hP.sub (ws' := [(ax, .inr (4, [.ref aj, .ref ap, .ref ar, .ref arow, .ref ak, .int ed, .int dn, .int cp, .int ct])), (ak, .inr (1, [.ref akw, .ref ake, .ref aku, .ref akn, .ref akc, .ref akp, .int (nI kb)])), (akw, .inl (cZ, 100, .inl kw)), (ake, .inl (cI, 100, .inl ke)), (aku, .inl (cI, 100, .inl ku)), (akn, .inl (cI, 100, .inl kn)), (akc, .inl (cL, 1200, .inr (.inl kc))), (akp, .inl (cI, 600, .inl kp)), (ap, .inr (3, [.ref aj, .ref apc, .ref app, .int (nI t)])), (apc, .inl (cL, 12, .inr (.inl cs))), (app, .inl (cI, 6, .inl ps)), (aj, .inr (2, [.ref af, .ref al, .int (nI c), .int (nI f)])), (af, .inl (cL, 12, .inr (.inl fv))), (al, .inl (cI, 6, .inl ln))]) [0, 12, 13, 1, 2, 3, 4, 5, 6, 7, 8, 9, 10, 11] rfl
        have hD9 := hD.sub (ws' := [(ax, .inr (4, [.ref aj, .ref ap, .ref ar, .ref arow, .ref ak, .int ed, .int dn, .int cp, .int ct])), (ak, .inr (1, [.ref akw, .ref ake, .ref aku, .ref akn, .ref akc, .ref akp, .int (nI kb)])), (akw, .inl (cZ, 100, .inl kw)), (ake, .inl (cI, 100, .inl ke)), (aku, .inl (cI, 100, .inl ku)), (akn, .inl (cI, 100, .inl kn)), (akc, .inl (cL, 1200, .inr (.inl kc))), (akp, .inl (cI, 600, .inl kp)), (ap, .inr (3, [.ref aj, .ref apc, .ref app, .int (nI t)])), (apc, .inl (cL, 12, .inr (.inl cs))), (app, .inl (cI, 6, .inl ps)), (aj, .inr (2, [.ref af, .ref al, .int (nI c), .int (nI f)])), (af, .inl (cL, 12, .inr (.inl fv))), (al, .inl (cI, 6, .inl ln))]) [0, 12, 13, 1, 2, 3, 4, 5, 6, 7, 8, 9, 10, 11] (by decide) rfl
        refine W.widen (k := 0) (n := 0) (Nat.le_of_ble_eq_true rfl) (Nat.le_of_ble_eq_true rfl) ?_
        exact W.iret (v := (-3)) hx hb hr (fun t9 ht9 hW9 => ⟨⟨(-3), (kb, cs, ps, t, dn), rfl, Or.inr (Or.inr (Or.inl ⟨c_4, hl0, by rw [hln]; exact c_41, rfl, ⟨rfl, rfl, rfl, rfl, rfl⟩⟩)), by rw [ht9]; exact hP9, va_K.moved hW9.alike hK, hD9⟩, hS.F ht9⟩) hS.2.2 dX3_restart_46
    · refine lv_iconst (v := (-1)) hx hb dX3_restart_24 (by decide) ?_
      have hP9 := hP.sub (ws' := [(ax, .inr (4, [.ref aj, .ref ap, .ref ar, .ref arow, .ref ak, .int ed, .int dn, .int cp, .int ct])), (ak, .inr (1, [.ref akw, .ref ake, .ref aku, .ref akn, .ref akc, .ref akp, .int (nI kb)])), (akw, .inl (cZ, 100, .inl kw)), (ake, .inl (cI, 100, .inl ke)), (aku, .inl (cI, 100, .inl ku)), (akn, .inl (cI, 100, .inl kn)), (akc, .inl (cL, 1200, .inr (.inl kc))), (akp, .inl (cI, 600, .inl kp)), (ap, .inr (3, [.ref aj, .ref apc, .ref app, .int (nI t)])), (apc, .inl (cL, 12, .inr (.inl cs))), (app, .inl (cI, 6, .inl ps)), (aj, .inr (2, [.ref af, .ref al, .int (nI c), .int (nI f)])), (af, .inl (cL, 12, .inr (.inl fv))), (al, .inl (cI, 6, .inl ln))]) [0, 12, 13, 1, 2, 3, 4, 5, 6, 7, 8, 9, 10, 11] rfl
      have hD9 := hD.sub (ws' := [(ax, .inr (4, [.ref aj, .ref ap, .ref ar, .ref arow, .ref ak, .int ed, .int dn, .int cp, .int ct])), (ak, .inr (1, [.ref akw, .ref ake, .ref aku, .ref akn, .ref akc, .ref akp, .int (nI kb)])), (akw, .inl (cZ, 100, .inl kw)), (ake, .inl (cI, 100, .inl ke)), (aku, .inl (cI, 100, .inl ku)), (akn, .inl (cI, 100, .inl kn)), (akc, .inl (cL, 1200, .inr (.inl kc))), (akp, .inl (cI, 600, .inl kp)), (ap, .inr (3, [.ref aj, .ref apc, .ref app, .int (nI t)])), (apc, .inl (cL, 12, .inr (.inl cs))), (app, .inl (cI, 6, .inl ps)), (aj, .inr (2, [.ref af, .ref al, .int (nI c), .int (nI f)])), (af, .inl (cL, 12, .inr (.inl fv))), (al, .inl (cI, 6, .inl ln))]) [0, 12, 13, 1, 2, 3, 4, 5, 6, 7, 8, 9, 10, 11] (by decide) rfl
      refine W.widen (k := 0) (n := 0) (Nat.le_of_ble_eq_true rfl) (Nat.le_of_ble_eq_true rfl) ?_
      exact W.iret (v := (-1)) hx hb hr (fun t9 ht9 hW9 => ⟨⟨(-1), (kb, cs, ps, t, dn), rfl, Or.inr (Or.inl ⟨c_4, lwn_no hkb c_21, rfl, ⟨rfl, rfl, rfl, rfl, rfl⟩⟩), by rw [ht9]; exact hP9, va_K.moved hW9.alike hK, hD9⟩, hS.F ht9⟩) hS.2.2 dX3_restart_25
  · refine lv_bipush (v := (-5)) hx hb dX3_restart_7 (by decide) ?_
    have hP9 := hP.sub (ws' := [(ax, .inr (4, [.ref aj, .ref ap, .ref ar, .ref arow, .ref ak, .int ed, .int dn, .int cp, .int ct])), (ak, .inr (1, [.ref akw, .ref ake, .ref aku, .ref akn, .ref akc, .ref akp, .int (nI kb)])), (akw, .inl (cZ, 100, .inl kw)), (ake, .inl (cI, 100, .inl ke)), (aku, .inl (cI, 100, .inl ku)), (akn, .inl (cI, 100, .inl kn)), (akc, .inl (cL, 1200, .inr (.inl kc))), (akp, .inl (cI, 600, .inl kp)), (ap, .inr (3, [.ref aj, .ref apc, .ref app, .int (nI t)])), (apc, .inl (cL, 12, .inr (.inl cs))), (app, .inl (cI, 6, .inl ps)), (aj, .inr (2, [.ref af, .ref al, .int (nI c), .int (nI f)])), (af, .inl (cL, 12, .inr (.inl fv))), (al, .inl (cI, 6, .inl ln))]) [0, 1, 2, 3, 4, 5, 6, 7, 8, 9, 10, 11, 12, 13] rfl
    have hD9 := hD.sub (ws' := [(ax, .inr (4, [.ref aj, .ref ap, .ref ar, .ref arow, .ref ak, .int ed, .int dn, .int cp, .int ct])), (ak, .inr (1, [.ref akw, .ref ake, .ref aku, .ref akn, .ref akc, .ref akp, .int (nI kb)])), (akw, .inl (cZ, 100, .inl kw)), (ake, .inl (cI, 100, .inl ke)), (aku, .inl (cI, 100, .inl ku)), (akn, .inl (cI, 100, .inl kn)), (akc, .inl (cL, 1200, .inr (.inl kc))), (akp, .inl (cI, 600, .inl kp)), (ap, .inr (3, [.ref aj, .ref apc, .ref app, .int (nI t)])), (apc, .inl (cL, 12, .inr (.inl cs))), (app, .inl (cI, 6, .inl ps)), (aj, .inr (2, [.ref af, .ref al, .int (nI c), .int (nI f)])), (af, .inl (cL, 12, .inr (.inl fv))), (al, .inl (cI, 6, .inl ln))]) [0, 1, 2, 3, 4, 5, 6, 7, 8, 9, 10, 11, 12, 13] (by decide) rfl
    refine W.widen (k := 0) (n := 0) (Nat.le_of_ble_eq_true rfl) (Nat.le_of_ble_eq_true rfl) ?_
    exact W.iret (v := (-5)) hx hb hr (fun t9 ht9 hW9 => ⟨⟨(-5), (kb, cs, ps, t, dn), rfl, Or.inl ⟨c_4, rfl, ⟨rfl, rfl, rfl, rfl, rfl⟩⟩, by rw [ht9]; exact hP9, va_K.moved hW9.alike hK, hD9⟩, hS.F ht9⟩) hS.2.2 dX3_restart_9
abbrev rm_X3_equal : Room := { frames := 2, cells := 0, slots := 0, locals := 47 }
abbrev qc_X3_equal (D : va_G) (cI cL cZ : ClassId) (ax : Nat) (aj : Nat) (ap : Nat) (ar : Nat) (arow : Nat) (ak : Nat) (ed : Int32) (dn : Int32) (cp : Int32) (ct : Int32) (apc : Nat) (app : Nat) (cs : Nat → Int64) (ps : Nat → Int32) (arc : Nat) (arp : Nat) (af : Nat) (al : Nat) (c : Nat) (f : Nat) (t : Nat) (rcs : Nat → Int64) (rps : Nat → Int32) (ru : Int32) (fv : Nat → Int64) (ln : Nat → Int32) (ro : Nat → Int64) (A : Nat → Prop) : Array Value → State → Outcome → State → Prop := va_Qi (fun (r : Int32) (u : (Nat → Int64) × (Nat → Int32) × Int32) => (er c f ln ro cs t 0 (so_c rcs fv c) (so_p rps 6)) = r) (ct_B D vwCl [(cI, .int), (cL, .long), (cZ, .boolean)] A (fun (u : (Nat → Int64) × (Nat → Int32) × Int32) => [(ax, .inr (4, [.ref aj, .ref ap, .ref ar, .ref arow, .ref ak, .int ed, .int dn, .int cp, .int ct])), (ap, .inr (3, [.ref aj, .ref apc, .ref app, .int (nI t)])), (apc, .inl (cL, 12, .inr (.inl cs))), (app, .inl (cI, 6, .inl ps)), (ar, .inr (3, [.ref aj, .ref arc, .ref arp, .int u.2.2])), (arc, .inl (cL, 12, .inr (.inl u.1))), (arp, .inl (cI, 6, .inl u.2.1)), (aj, .inr (2, [.ref af, .ref al, .int (nI c), .int (nI f)])), (af, .inl (cL, 12, .inr (.inl fv))), (al, .inl (cI, 6, .inl ln)), (arow, .inl (cL, 5000, .inr (.inl ro)))])) A
set_option maxHeartbeats 4000000 in
set_option maxRecDepth 100000 in
theorem c_X3_equal (l : Launch) (D : va_G) (cI cL cZ : ClassId) (ax : Nat) (aj : Nat) (ap : Nat) (ar : Nat) (arow : Nat) (ak : Nat) (ed : Int32) (dn : Int32) (cp : Int32) (ct : Int32) (apc : Nat) (app : Nat) (cs : Nat → Int64) (ps : Nat → Int32) (arc : Nat) (arp : Nat) (af : Nat) (al : Nat) (c : Nat) (f : Nat) (t : Nat) (rcs : Nat → Int64) (rps : Nat → Int32) (ru : Int32) (fv : Nat → Int64) (ln : Nat → Int32) (ro : Nat → Int64) (sz : Nat) (hc : c ≤ 12) (hf : f ≤ 6) (ht : t ≤ 5000) : Met l yX3_equal wsX3_equal rm_X3_equal (va_Pc [.ref ax] (ct_P D vwCl [(cI, .int), (cL, .long), (cZ, .boolean)] [(ax, .inr (4, [.ref aj, .ref ap, .ref ar, .ref arow, .ref ak, .int ed, .int dn, .int cp, .int ct])), (ap, .inr (3, [.ref aj, .ref apc, .ref app, .int (nI t)])), (apc, .inl (cL, 12, .inr (.inl cs))), (app, .inl (cI, 6, .inl ps)), (ar, .inr (3, [.ref aj, .ref arc, .ref arp, .int ru])), (arc, .inl (cL, 12, .inr (.inl rcs))), (arp, .inl (cI, 6, .inl rps)), (aj, .inr (2, [.ref af, .ref al, .int (nI c), .int (nI f)])), (af, .inl (cL, 12, .inr (.inl fv))), (al, .inl (cI, 6, .inl ln)), (arow, .inl (cL, 5000, .inr (.inl ro)))] sz)) (qc_X3_equal D cI cL cZ ax aj ap ar arow ak ed dn cp ct apc app cs ps arc arp af al c f t rcs rps ru fv ln ro (va_A [(ax, .inr (4, [.ref aj, .ref ap, .ref ar, .ref arow, .ref ak, .int ed, .int dn, .int cp, .int ct])), (ap, .inr (3, [.ref aj, .ref apc, .ref app, .int (nI t)])), (apc, .inl (cL, 12, .inr (.inl cs))), (app, .inl (cI, 6, .inl ps)), (ar, .inr (3, [.ref aj, .ref arc, .ref arp, .int ru])), (arc, .inl (cL, 12, .inr (.inl rcs))), (arp, .inl (cI, 6, .inl rps)), (aj, .inr (2, [.ref af, .ref al, .int (nI c), .int (nI f)])), (af, .inl (cL, 12, .inr (.inl fv))), (al, .inl (cI, 6, .inl ln)), (arow, .inl (cL, 5000, .inr (.inl ro)))] sz)) 0 0 (va_A [(ax, .inr (4, [.ref aj, .ref ap, .ref ar, .ref arow, .ref ak, .int ed, .int dn, .int cp, .int ct])), (ap, .inr (3, [.ref aj, .ref apc, .ref app, .int (nI t)])), (apc, .inl (cL, 12, .inr (.inl cs))), (app, .inl (cI, 6, .inl ps)), (ar, .inr (3, [.ref aj, .ref arc, .ref arp, .int ru])), (arc, .inl (cL, 12, .inr (.inl rcs))), (arp, .inl (cI, 6, .inl rps)), (aj, .inr (2, [.ref af, .ref al, .int (nI c), .int (nI f)])), (af, .inl (cL, 12, .inr (.inl fv))), (al, .inl (cI, 6, .inl ln)), (arow, .inl (cL, 5000, .inr (.inl ro)))] sz) := by
  refine Met.ofW (cc := cX3_equal) (maxL := 2) (ret := (some .boolean)) (by decide) rfl ?_
  intro p e s m args below meth cd s₁ B hml hv
  obtain ⟨rfl, hsz, hP, hK, hD0⟩ := hv
  have hx := B.exec
  have hb := B.bytes
  have hr := B.returns
  have hts := atoms_spec (ws := wsX3_equal) B.pre
  have iX3 : ∀ w ∈ wsX30, w ∈ wsX3_equal := by decide +kernel
  have wf21 := hts (.fieldLink RX3 21 "CheckRestart" "progress" "LCheckRestart$Progress;") (by decide +kernel)
  have iX2 : ∀ w ∈ wsX20, w ∈ wsX3_equal := by decide +kernel
  have wf73 := hts (.fieldLink RX3 73 "CheckRestart$Progress" "units" "I") (by decide +kernel)
  have wf25 := hts (.fieldLink RX3 25 "CheckRestart" "replay" "LCheckRestart$Progress;") (by decide +kernel)
  have wf28 := hts (.fieldLink RX3 28 "CheckRestart" "rows" "[J") (by decide +kernel)
  have hown : s.vm.findClass RX3 = some m.cls := findClass_of_methodNamed B.named
  have hlocks := B.notSynchronized
  subst hsz
  have hD := hD0.self (sz := s.heap.size)
  generalize hAe : va_A [(ax, .inr (4, [.ref aj, .ref ap, .ref ar, .ref arow, .ref ak, .int ed, .int dn, .int cp, .int ct])), (ap, .inr (3, [.ref aj, .ref apc, .ref app, .int (nI t)])), (apc, .inl (cL, 12, .inr (.inl cs))), (app, .inl (cI, 6, .inl ps)), (ar, .inr (3, [.ref aj, .ref arc, .ref arp, .int ru])), (arc, .inl (cL, 12, .inr (.inl rcs))), (arp, .inl (cI, 6, .inl rps)), (aj, .inr (2, [.ref af, .ref al, .int (nI c), .int (nI f)])), (af, .inl (cL, 12, .inr (.inl fv))), (al, .inl (cI, 6, .inl ln)), (arow, .inl (cL, 5000, .inr (.inl ro)))] s.heap.size = A at hD ⊢
  have hA : ∀ q : Nat, s.heap.size ≤ q → A q := fun q h => by rw [← hAe]; exact Or.inr h
  have hS : va_S A s.heap s.heap [] := va_S.rf
  have hl := lv_entry ([.ref ax]) (n := 2) (Nat.le_of_ble_eq_true rfl)
  rw [lg_entry_eq]
  generalize (lg_sl ([.ref ax]) ++ List.replicate (2 - (lg_sl ([.ref ax])).length) Slot.unset).toArray = ls at hl ⊢
  have hl : lv_has ls 2 [(0, .ref ax)] := hl
  have key9 : ∀ (n : Nat) (i : Nat) (cs2 : Nat → Int64) (ps2 : Nat → Int32), (i ≤ t) → (t + 1 ≤ i + n) → (er c f ln ro cs (t - i) i cs2 ps2 = er c f ln ro cs t 0 (so_c rcs fv c) (so_p rps 6)) → ∀ (H : Heap) (locs : List Loc), va_P D vwCl [(ax, .inr (4, [.ref aj, .ref ap, .ref ar, .ref arow, .ref ak, .int ed, .int dn, .int cp, .int ct])), (ap, .inr (3, [.ref aj, .ref apc, .ref app, .int (nI t)])), (apc, .inl (cL, 12, .inr (.inl cs))), (app, .inl (cI, 6, .inl ps)), (ar, .inr (3, [.ref aj, .ref arc, .ref arp, .int (nI i)])), (arc, .inl (cL, 12, .inr (.inl cs2))), (arp, .inl (cI, 6, .inl ps2)), (aj, .inr (2, [.ref af, .ref al, .int (nI c), .int (nI f)])), (af, .inl (cL, 12, .inr (.inl fv))), (al, .inl (cI, 6, .inl ln)), (arow, .inl (cL, 5000, .inr (.inl ro)))] H → va_D A [(ax, .inr (4, [.ref aj, .ref ap, .ref ar, .ref arow, .ref ak, .int ed, .int dn, .int cp, .int ct])), (ap, .inr (3, [.ref aj, .ref apc, .ref app, .int (nI t)])), (apc, .inl (cL, 12, .inr (.inl cs))), (app, .inl (cI, 6, .inl ps)), (ar, .inr (3, [.ref aj, .ref arc, .ref arp, .int (nI i)])), (arc, .inl (cL, 12, .inr (.inl cs2))), (arp, .inl (cI, 6, .inl ps2)), (aj, .inr (2, [.ref af, .ref al, .int (nI c), .int (nI f)])), (af, .inl (cL, 12, .inr (.inl fv))), (al, .inl (cI, 6, .inl ln)), (arow, .inl (cL, 5000, .inr (.inl ro)))] → va_S A s.heap H locs → ∀ (ls : Array Slot), lv_has ls 2 [(1, .int (nI i)), (0, .ref ax)] → W p l e (headSpec wsX3_equal rm_X3_equal).room s m ([.ref ax] : List Value).toArray below meth cd H locs 0 0 (MQ below (qc_X3_equal D cI cL cZ ax aj ap ar arow ak ed dn cp ct apc app cs ps arc arp af al c f t rcs rps ru fv ln ro A) ([.ref ax] : List Value).toArray s 0 0 A) (F0 m 9 ls []) := by
    intro n
    induction n with
    | zero => intro i cs2 ps2 hi hm her; exact absurd hm (by omega)
    | succ n ih =>
      intro i cs2 ps2 hi hm her H locs hP hD hS ls hl
      refine lv_iload_n hx hb dX3_equal_9 rfl (lv_at hl 0 rfl) ?_
      refine lv_aload_n hx hb dX3_equal_10 rfl (lv_at hl 1 rfl) ?_
      refine va_get (D := D) (ci := 4) (v := .ref ap) (C := RX3) (T := TX3) (N := 9) hx hb hts iX3 hown hK hP 0 rfl rfl 1 (by decide) wf21 (fun _ h9 => h9) rfl dX3_equal_11 ?_
      refine va_get (D := D) (ci := 3) (v := .int (nI t)) (C := RX2) (T := TX2) (N := 4) hx hb hts iX2 hown hK hP 1 rfl rfl 3 (by decide) wf73 (fun _ h9 => h9) rfl dX3_equal_14 ?_
      refine lv_icmp_ge (tgt := 55) hx hb dX3_equal_17 (by decide) (fun c_17 => ?_) (fun c_17 => ?_)
      · have h1 : t ≤ i := (nI_leI (by omega) (by omega)).mp c_17
        refine lv_aload_n hx hb dX3_equal_55 rfl (lv_at hl 1 rfl) ?_
        refine va_get (D := D) (ci := 4) (v := .ref ap) (C := RX3) (T := TX3) (N := 9) hx hb hts iX3 hown hK hP 0 rfl rfl 1 (by decide) wf21 (fun _ h9 => h9) rfl dX3_equal_56 ?_
        refine lv_aload_n hx hb dX3_equal_59 rfl (lv_at hl 1 rfl) ?_
        refine va_get (D := D) (ci := 4) (v := .ref ar) (C := RX3) (T := TX3) (N := 9) hx hb hts iX3 hown hK hP 0 rfl rfl 2 (by decide) wf25 (fun _ h9 => h9) rfl dX3_equal_60 ?_
        refine ct_calli (wr := [(ax, .inr (4, [.ref aj, .ref ap, .ref ar, .ref arow, .ref ak, .int ed, .int dn, .int cp, .int ct])), (app, .inl (cI, 6, .inl ps)), (arp, .inl (cI, 6, .inl ps2)), (af, .inl (cL, 12, .inr (.inl fv))), (al, .inl (cI, 6, .inl ln)), (arow, .inl (cL, 5000, .inr (.inl ro)))]) (rest := []) hP hD hS hA [1, 2, 4, 5, 7] [0, 3, 6, 8, 9, 10] (va_runV (C := RX2) (As := [.ref ar]) ⟨hx, hb, hml, hown, hts⟩ (c_X2_hasCellsOf l D cI cL cZ ap apc app cs ar arc arp cs2 (nI t) (nI i) aj af al c f _ (by omega)) (cwV 1 hts gX3_equal_X2_hasCellsOf rfl rfl rfl (by decide +kernel) ⟨Nat.le_of_ble_eq_true rfl, Nat.le_of_ble_eq_true rfl⟩) (ct_preV (q0 := 0) (ci := 3) hK hP hD [1, 2, 4, 5, 7] (by decide) rfl rfl rfl rfl rfl) rfl rfl hl.1 rfl (lv_room (Nat.le_of_ble_eq_true rfl)) dX3_equal_63 ⟨Nat.le_of_ble_eq_true rfl, Nat.le_of_ble_eq_true rfl⟩) rfl rfl (by decide) (by decide) (fun r_1 u H locs hw hP hD hS => ?_)
        try dsimp only at hw
        obtain rfl := hw
        have hP : va_P D vwCl [(ax, .inr (4, [.ref aj, .ref ap, .ref ar, .ref arow, .ref ak, .int ed, .int dn, .int cp, .int ct])), (app, .inl (cI, 6, .inl ps)), (arp, .inl (cI, 6, .inl ps2)), (af, .inl (cL, 12, .inr (.inl fv))), (al, .inl (cI, 6, .inl ln)), (arow, .inl (cL, 5000, .inr (.inl ro))), (ap, .inr (3, [.ref aj, .ref apc, .ref app, .int (nI t)])), (apc, .inl (cL, 12, .inr (.inl cs))), (ar, .inr (3, [.ref aj, .ref arc, .ref arp, .int (nI i)])), (arc, .inl (cL, 12, .inr (.inl cs2))), (aj, .inr (2, [.ref af, .ref al, .int (nI c), .int (nI f)]))] H := hP
        have hD : va_D A [(ax, .inr (4, [.ref aj, .ref ap, .ref ar, .ref arow, .ref ak, .int ed, .int dn, .int cp, .int ct])), (app, .inl (cI, 6, .inl ps)), (arp, .inl (cI, 6, .inl ps2)), (af, .inl (cL, 12, .inr (.inl fv))), (al, .inl (cI, 6, .inl ln)), (arow, .inl (cL, 5000, .inr (.inl ro))), (ap, .inr (3, [.ref aj, .ref apc, .ref app, .int (nI t)])), (apc, .inl (cL, 12, .inr (.inl cs))), (ar, .inr (3, [.ref aj, .ref arc, .ref arp, .int (nI i)])), (arc, .inl (cL, 12, .inr (.inl cs2))), (aj, .inr (2, [.ref af, .ref al, .int (nI c), .int (nI f)]))] := hD
        have hP9 := hP.sub (ws' := [(ax, .inr (4, [.ref aj, .ref ap, .ref ar, .ref arow, .ref ak, .int ed, .int dn, .int cp, .int ct])), (ap, .inr (3, [.ref aj, .ref apc, .ref app, .int (nI t)])), (apc, .inl (cL, 12, .inr (.inl cs))), (app, .inl (cI, 6, .inl ps)), (ar, .inr (3, [.ref aj, .ref arc, .ref arp, .int (nI i)])), (arc, .inl (cL, 12, .inr (.inl cs2))), (arp, .inl (cI, 6, .inl ps2)), (aj, .inr (2, [.ref af, .ref al, .int (nI c), .int (nI f)])), (af, .inl (cL, 12, .inr (.inl fv))), (al, .inl (cI, 6, .inl ln)), (arow, .inl (cL, 5000, .inr (.inl ro)))]) [0, 6, 7, 1, 8, 9, 2, 10, 3, 4, 5] rfl
        have hD9 := hD.sub (ws' := [(ax, .inr (4, [.ref aj, .ref ap, .ref ar, .ref arow, .ref ak, .int ed, .int dn, .int cp, .int ct])), (ap, .inr (3, [.ref aj, .ref apc, .ref app, .int (nI t)])), (apc, .inl (cL, 12, .inr (.inl cs))), (app, .inl (cI, 6, .inl ps)), (ar, .inr (3, [.ref aj, .ref arc, .ref arp, .int (nI i)])), (arc, .inl (cL, 12, .inr (.inl cs2))), (arp, .inl (cI, 6, .inl ps2)), (aj, .inr (2, [.ref af, .ref al, .int (nI c), .int (nI f)])), (af, .inl (cL, 12, .inr (.inl fv))), (al, .inl (cI, 6, .inl ln)), (arow, .inl (cL, 5000, .inr (.inl ro)))]) [0, 6, 7, 1, 8, 9, 2, 10, 3, 4, 5] (by decide) rfl
        refine W.widen (k := 0) (n := 0) (Nat.le_of_ble_eq_true rfl) (Nat.le_of_ble_eq_true rfl) ?_
        exact W.zret (v := (hc_r c cs cs2)) hx hb hr (hc_nar _ _ _) (fun t9 ht9 hW9 => ⟨⟨(hc_r c cs cs2), (cs2, ps2, (nI i)), rfl, by rw [← her, show t - i = 0 by omega]; rfl, by rw [ht9]; exact hP9, va_K.moved hW9.alike hK, hD9⟩, hS.F ht9⟩) hS.2.2 dX3_equal_66
      · have h1 : ¬ t ≤ i := fun h => c_17 ((nI_leI (by omega) (by omega)).mpr h)
        refine lv_aload_n hx hb dX3_equal_20 rfl (lv_at hl 1 rfl) ?_
        refine va_get (D := D) (ci := 4) (v := .ref ar) (C := RX3) (T := TX3) (N := 9) hx hb hts iX3 hown hK hP 0 rfl rfl 2 (by decide) wf25 (fun _ h9 => h9) rfl dX3_equal_21 ?_
        refine ct_calli (wr := [(ax, .inr (4, [.ref aj, .ref ap, .ref ar, .ref arow, .ref ak, .int ed, .int dn, .int cp, .int ct])), (ap, .inr (3, [.ref aj, .ref apc, .ref app, .int (nI t)])), (apc, .inl (cL, 12, .inr (.inl cs))), (app, .inl (cI, 6, .inl ps)), (arow, .inl (cL, 5000, .inr (.inl ro)))]) (rest := []) hP hD hS hA [4, 5, 6, 7, 8, 9] [0, 1, 2, 3, 10] (va_runV (C := RX2) (As := []) ⟨hx, hb, hml, hown, hts⟩ (c_X2_isEnded l D cI cL cZ ar arc arp cs2 ps2 aj af al c f fv ln (nI i) _ (by omega)) (cwV 0 hts gX3_equal_X2_isEnded rfl rfl rfl (by decide +kernel) ⟨Nat.le_of_ble_eq_true rfl, Nat.le_of_ble_eq_true rfl⟩) (ct_preV (q0 := 0) (ci := 3) hK hP hD [4, 5, 6, 7, 8, 9] (by decide) rfl rfl rfl rfl rfl) rfl rfl hl.1 rfl (lv_room (Nat.le_of_ble_eq_true rfl)) dX3_equal_24 ⟨Nat.le_of_ble_eq_true rfl, Nat.le_of_ble_eq_true rfl⟩) rfl rfl (by decide) (by decide) (fun r_2 u H locs hw hP hD hS => ?_)
        try dsimp only at hw
        obtain rfl := hw
        have hP : va_P D vwCl [(ax, .inr (4, [.ref aj, .ref ap, .ref ar, .ref arow, .ref ak, .int ed, .int dn, .int cp, .int ct])), (ap, .inr (3, [.ref aj, .ref apc, .ref app, .int (nI t)])), (apc, .inl (cL, 12, .inr (.inl cs))), (app, .inl (cI, 6, .inl ps)), (arow, .inl (cL, 5000, .inr (.inl ro))), (ar, .inr (3, [.ref aj, .ref arc, .ref arp, .int (nI i)])), (arc, .inl (cL, 12, .inr (.inl cs2))), (arp, .inl (cI, 6, .inl ps2)), (aj, .inr (2, [.ref af, .ref al, .int (nI c), .int (nI f)])), (af, .inl (cL, 12, .inr (.inl fv))), (al, .inl (cI, 6, .inl ln))] H := hP
        have hD : va_D A [(ax, .inr (4, [.ref aj, .ref ap, .ref ar, .ref arow, .ref ak, .int ed, .int dn, .int cp, .int ct])), (ap, .inr (3, [.ref aj, .ref apc, .ref app, .int (nI t)])), (apc, .inl (cL, 12, .inr (.inl cs))), (app, .inl (cI, 6, .inl ps)), (arow, .inl (cL, 5000, .inr (.inl ro))), (ar, .inr (3, [.ref aj, .ref arc, .ref arp, .int (nI i)])), (arc, .inl (cL, 12, .inr (.inl cs2))), (arp, .inl (cI, 6, .inl ps2)), (aj, .inr (2, [.ref af, .ref al, .int (nI c), .int (nI f)])), (af, .inl (cL, 12, .inr (.inl fv))), (al, .inl (cI, 6, .inl ln))] := hD
        refine lv_if_ne (tgt := 47) hx hb dX3_equal_27 (by decide) (fun c_27 => ?_) (fun c_27 => ?_)
        · refine lv_iconst (v := 0) hx hb dX3_equal_47 (by decide) ?_
          have hP9 := hP.sub (ws' := [(ax, .inr (4, [.ref aj, .ref ap, .ref ar, .ref arow, .ref ak, .int ed, .int dn, .int cp, .int ct])), (ap, .inr (3, [.ref aj, .ref apc, .ref app, .int (nI t)])), (apc, .inl (cL, 12, .inr (.inl cs))), (app, .inl (cI, 6, .inl ps)), (ar, .inr (3, [.ref aj, .ref arc, .ref arp, .int (nI i)])), (arc, .inl (cL, 12, .inr (.inl cs2))), (arp, .inl (cI, 6, .inl ps2)), (aj, .inr (2, [.ref af, .ref al, .int (nI c), .int (nI f)])), (af, .inl (cL, 12, .inr (.inl fv))), (al, .inl (cI, 6, .inl ln)), (arow, .inl (cL, 5000, .inr (.inl ro)))]) [0, 1, 2, 3, 5, 6, 7, 8, 9, 10, 4] rfl
          have hD9 := hD.sub (ws' := [(ax, .inr (4, [.ref aj, .ref ap, .ref ar, .ref arow, .ref ak, .int ed, .int dn, .int cp, .int ct])), (ap, .inr (3, [.ref aj, .ref apc, .ref app, .int (nI t)])), (apc, .inl (cL, 12, .inr (.inl cs))), (app, .inl (cI, 6, .inl ps)), (ar, .inr (3, [.ref aj, .ref arc, .ref arp, .int (nI i)])), (arc, .inl (cL, 12, .inr (.inl cs2))), (arp, .inl (cI, 6, .inl ps2)), (aj, .inr (2, [.ref af, .ref al, .int (nI c), .int (nI f)])), (af, .inl (cL, 12, .inr (.inl fv))), (al, .inl (cI, 6, .inl ln)), (arow, .inl (cL, 5000, .inr (.inl ro)))]) [0, 1, 2, 3, 5, 6, 7, 8, 9, 10, 4] (by decide) rfl
          refine W.widen (k := 0) (n := 0) (Nat.le_of_ble_eq_true rfl) (Nat.le_of_ble_eq_true rfl) ?_
          exact W.zret (v := 0) hx hb hr (rfl) (fun t9 ht9 hW9 => ⟨⟨0, (cs2, ps2, (nI i)), rfl, by rw [← her]; exact er_end (by omega) c_27, by rw [ht9]; exact hP9, va_K.moved hW9.alike hK, hD9⟩, hS.F ht9⟩) hS.2.2 dX3_equal_48
        · refine lv_aload_n hx hb dX3_equal_30 rfl (lv_at hl 1 rfl) ?_
          refine va_get (D := D) (ci := 4) (v := .ref ar) (C := RX3) (T := TX3) (N := 9) hx hb hts iX3 hown hK hP 0 rfl rfl 2 (by decide) wf25 (fun _ h9 => h9) rfl dX3_equal_31 ?_
          refine ct_calll (wr := [(ax, .inr (4, [.ref aj, .ref ap, .ref ar, .ref arow, .ref ak, .int ed, .int dn, .int cp, .int ct])), (ap, .inr (3, [.ref aj, .ref apc, .ref app, .int (nI t)])), (apc, .inl (cL, 12, .inr (.inl cs))), (app, .inl (cI, 6, .inl ps)), (arow, .inl (cL, 5000, .inr (.inl ro)))]) (rest := []) hP hD hS hA [5, 6, 7, 8, 9, 10] [0, 1, 2, 3, 4] (va_runV (C := RX2) (As := []) ⟨hx, hb, hml, hown, hts⟩ (c_X2_doUnit l D cI cL cZ ar arc arp cs2 ps2 aj af al c f fv ln i _ (by omega) (by omega) (by omega)) (cwV 0 hts gX3_equal_X2_doUnit rfl rfl rfl (by decide +kernel) ⟨Nat.le_of_ble_eq_true rfl, Nat.le_of_ble_eq_true rfl⟩) (ct_preV (q0 := 0) (ci := 3) hK hP hD [5, 6, 7, 8, 9, 10] (by decide) rfl rfl rfl rfl rfl) rfl rfl hl.1 rfl (lv_room (Nat.le_of_ble_eq_true rfl)) dX3_equal_34 ⟨Nat.le_of_ble_eq_true rfl, Nat.le_of_ble_eq_true rfl⟩) rfl rfl (by decide) (by decide) (fun r_3 u H locs hw hP hD hS => ?_)
          obtain ⟨cs1_4, ps1_5⟩ := u
          try dsimp only at hw
          obtain ⟨rfl, rfl, rfl⟩ := hw
          have hP : va_P D vwCl [(ax, .inr (4, [.ref aj, .ref ap, .ref ar, .ref arow, .ref ak, .int ed, .int dn, .int cp, .int ct])), (ap, .inr (3, [.ref aj, .ref apc, .ref app, .int (nI t)])), (apc, .inl (cL, 12, .inr (.inl cs))), (app, .inl (cI, 6, .inl ps)), (arow, .inl (cL, 5000, .inr (.inl ro))), (ar, .inr (3, [.ref aj, .ref arc, .ref arp, .int (nI (i + 1))])), (arc, .inl (cL, 12, .inr (.inl (du_c c i (rd_v i f ps2 ln) cs2)))), (arp, .inl (cI, 6, .inl (rd_p i f ps2 ln))), (aj, .inr (2, [.ref af, .ref al, .int (nI c), .int (nI f)])), (af, .inl (cL, 12, .inr (.inl fv))), (al, .inl (cI, 6, .inl ln))] H := hP
          have hD : va_D A [(ax, .inr (4, [.ref aj, .ref ap, .ref ar, .ref arow, .ref ak, .int ed, .int dn, .int cp, .int ct])), (ap, .inr (3, [.ref aj, .ref apc, .ref app, .int (nI t)])), (apc, .inl (cL, 12, .inr (.inl cs))), (app, .inl (cI, 6, .inl ps)), (arow, .inl (cL, 5000, .inr (.inl ro))), (ar, .inr (3, [.ref aj, .ref arc, .ref arp, .int (nI (i + 1))])), (arc, .inl (cL, 12, .inr (.inl (du_c c i (rd_v i f ps2 ln) cs2)))), (arp, .inl (cI, 6, .inl (rd_p i f ps2 ln))), (aj, .inr (2, [.ref af, .ref al, .int (nI c), .int (nI f)])), (af, .inl (cL, 12, .inr (.inl fv))), (al, .inl (cI, 6, .inl ln))] := hD
          refine lv_aload_n hx hb dX3_equal_37 rfl (lv_at hl 1 rfl) ?_
          refine va_get (D := D) (ci := 4) (v := .ref arow) (C := RX3) (T := TX3) (N := 9) hx hb hts iX3 hown hK hP 0 rfl rfl 3 (by decide) wf28 (fun _ h9 => h9) rfl dX3_equal_38 ?_
          refine lv_iload_n hx hb dX3_equal_41 rfl (lv_at hl 0 rfl) ?_
          refine ct_lald (k := i) hx hb hK hP 4 1 rfl rfl (by omega) (by decide) dX3_equal_42 ?_
          refine W.lcmp hx hb dX3_equal_43 ?_
          refine lv_if_eq (tgt := 49) hx hb dX3_equal_44 (by decide) (fun c_44 => ?_) (fun c_44 => ?_)
          · refine lv_iinc (v := (nI (i + 1))) (lv' := [(1, .int (nI (i + 1))), (0, .ref ax)]) hx hb dX3_equal_49 hl (k := 0) rfl (nI_1 i) (by decide) rfl (fun ls hl => ?_)
            refine lv_goto (tgt := 9) hx hb dX3_equal_52 (by decide) ?_
            exact ih ((i + 1)) (du_c c i (rd_v i f ps2 ln) cs2) (rd_p i f ps2 ln) (by omega) (by omega) ((er_step (by omega) c_27 (cr_cmp0.mp c_44)).symm.trans her) _ _ (hP.sub [0, 1, 2, 3, 5, 6, 7, 8, 9, 10, 4] rfl) (hD.sub [0, 1, 2, 3, 5, 6, 7, 8, 9, 10, 4] (by decide) rfl) hS ls (lv_sub hl [0, 1] rfl)
          · refine lv_iconst (v := 0) hx hb dX3_equal_47 (by decide) ?_
            have hP9 := hP.sub (ws' := [(ax, .inr (4, [.ref aj, .ref ap, .ref ar, .ref arow, .ref ak, .int ed, .int dn, .int cp, .int ct])), (ap, .inr (3, [.ref aj, .ref apc, .ref app, .int (nI t)])), (apc, .inl (cL, 12, .inr (.inl cs))), (app, .inl (cI, 6, .inl ps)), (ar, .inr (3, [.ref aj, .ref arc, .ref arp, .int (nI (i + 1))])), (arc, .inl (cL, 12, .inr (.inl (du_c c i (rd_v i f ps2 ln) cs2)))), (arp, .inl (cI, 6, .inl (rd_p i f ps2 ln))), (aj, .inr (2, [.ref af, .ref al, .int (nI c), .int (nI f)])), (af, .inl (cL, 12, .inr (.inl fv))), (al, .inl (cI, 6, .inl ln)), (arow, .inl (cL, 5000, .inr (.inl ro)))]) [0, 1, 2, 3, 5, 6, 7, 8, 9, 10, 4] rfl
            have hD9 := hD.sub (ws' := [(ax, .inr (4, [.ref aj, .ref ap, .ref ar, .ref arow, .ref ak, .int ed, .int dn, .int cp, .int ct])), (ap, .inr (3, [.ref aj, .ref apc, .ref app, .int (nI t)])), (apc, .inl (cL, 12, .inr (.inl cs))), (app, .inl (cI, 6, .inl ps)), (ar, .inr (3, [.ref aj, .ref arc, .ref arp, .int (nI (i + 1))])), (arc, .inl (cL, 12, .inr (.inl (du_c c i (rd_v i f ps2 ln) cs2)))), (arp, .inl (cI, 6, .inl (rd_p i f ps2 ln))), (aj, .inr (2, [.ref af, .ref al, .int (nI c), .int (nI f)])), (af, .inl (cL, 12, .inr (.inl fv))), (al, .inl (cI, 6, .inl ln)), (arow, .inl (cL, 5000, .inr (.inl ro)))]) [0, 1, 2, 3, 5, 6, 7, 8, 9, 10, 4] (by decide) rfl
            refine W.widen (k := 0) (n := 0) (Nat.le_of_ble_eq_true rfl) (Nat.le_of_ble_eq_true rfl) ?_
            exact W.zret (v := 0) hx hb hr (rfl) (fun t9 ht9 hW9 => ⟨⟨0, ((du_c c i (rd_v i f ps2 ln) cs2), (rd_p i f ps2 ln), (nI (i + 1))), rfl, by rw [← her]; exact er_diff (by omega) c_27 (fun h => c_44 (cr_cmp0.mpr h)), by rw [ht9]; exact hP9, va_K.moved hW9.alike hK, hD9⟩, hS.F ht9⟩) hS.2.2 dX3_equal_48
  refine lv_aload_n hx hb dX3_equal_0 rfl (lv_at hl 0 rfl) ?_
  refine va_get (D := D) (ci := 4) (v := .ref ar) (C := RX3) (T := TX3) (N := 9) hx hb hts iX3 hown hK hP 0 rfl rfl 2 (by decide) wf25 (fun _ h9 => h9) rfl dX3_equal_1 ?_
  refine ct_callv (wr := [(ax, .inr (4, [.ref aj, .ref ap, .ref ar, .ref arow, .ref ak, .int ed, .int dn, .int cp, .int ct])), (ap, .inr (3, [.ref aj, .ref apc, .ref app, .int (nI t)])), (apc, .inl (cL, 12, .inr (.inl cs))), (app, .inl (cI, 6, .inl ps)), (arow, .inl (cL, 5000, .inr (.inl ro)))]) (rest := []) hP hD hS hA [4, 5, 6, 7, 8, 9] [0, 1, 2, 3, 10] (va_runV (C := RX2) (As := []) ⟨hx, hb, hml, hown, hts⟩ (c_X2_startOver l D cI cL cZ ar arc arp rcs rps aj af al c f fv ln ru _ (by omega)) (cwV 0 hts gX3_equal_X2_startOver rfl rfl rfl (by decide +kernel) ⟨Nat.le_of_ble_eq_true rfl, Nat.le_of_ble_eq_true rfl⟩) (ct_preV (q0 := 0) (ci := 3) hK hP hD [4, 5, 6, 7, 8, 9] (by decide) rfl rfl rfl rfl rfl) rfl rfl hl.1 rfl (lv_room (Nat.le_of_ble_eq_true rfl)) dX3_equal_4 ⟨Nat.le_of_ble_eq_true rfl, Nat.le_of_ble_eq_true rfl⟩) rfl rfl (by decide) (by decide) (fun u H locs hw hP hD hS => ?_)
  obtain ⟨cs1_7, ps1_8⟩ := u
  try dsimp only at hw
  obtain ⟨rfl, rfl⟩ := hw
  have hP : va_P D vwCl [(ax, .inr (4, [.ref aj, .ref ap, .ref ar, .ref arow, .ref ak, .int ed, .int dn, .int cp, .int ct])), (ap, .inr (3, [.ref aj, .ref apc, .ref app, .int (nI t)])), (apc, .inl (cL, 12, .inr (.inl cs))), (app, .inl (cI, 6, .inl ps)), (arow, .inl (cL, 5000, .inr (.inl ro))), (ar, .inr (3, [.ref aj, .ref arc, .ref arp, .int 0])), (arc, .inl (cL, 12, .inr (.inl (so_c rcs fv c)))), (arp, .inl (cI, 6, .inl (so_p rps 6))), (aj, .inr (2, [.ref af, .ref al, .int (nI c), .int (nI f)])), (af, .inl (cL, 12, .inr (.inl fv))), (al, .inl (cI, 6, .inl ln))] H := hP
  have hD : va_D A [(ax, .inr (4, [.ref aj, .ref ap, .ref ar, .ref arow, .ref ak, .int ed, .int dn, .int cp, .int ct])), (ap, .inr (3, [.ref aj, .ref apc, .ref app, .int (nI t)])), (apc, .inl (cL, 12, .inr (.inl cs))), (app, .inl (cI, 6, .inl ps)), (arow, .inl (cL, 5000, .inr (.inl ro))), (ar, .inr (3, [.ref aj, .ref arc, .ref arp, .int 0])), (arc, .inl (cL, 12, .inr (.inl (so_c rcs fv c)))), (arp, .inl (cI, 6, .inl (so_p rps 6))), (aj, .inr (2, [.ref af, .ref al, .int (nI c), .int (nI f)])), (af, .inl (cL, 12, .inr (.inl fv))), (al, .inl (cI, 6, .inl ln))] := hD
  refine lv_iconst (v := 0) hx hb dX3_equal_7 (by decide) ?_
  refine lv_istore_n (lv' := [(1, .int 0), (0, .ref ax)]) hx hb dX3_equal_8 rfl hl (by decide) rfl (fun ls hl => ?_)
  exact key9 (t + 1) 0 (so_c rcs fv c) (so_p rps 6) (by omega) (by omega) rfl _ _ (hP.sub [0, 1, 2, 3, 5, 6, 7, 8, 9, 10, 4] rfl) (hD.sub [0, 1, 2, 3, 5, 6, 7, 8, 9, 10, 4] (by decide) rfl) hS ls (lv_sub hl [0, 1] rfl)
abbrev rm_X3_count : Room := { frames := 1, cells := 0, slots := 0, locals := 21 }
abbrev qc_X3_count (D : va_G) (cI cL cZ : ClassId) (ax : Nat) (aj : Nat) (ap : Nat) (ar : Nat) (arow : Nat) (ak : Nat) (ed : Int32) (dn : Int32) (cp : Int32) (ct : Int32) (apc : Nat) (app : Nat) (cs : Nat → Int64) (ps : Nat → Int32) (af : Nat) (al : Nat) (c : Nat) (f : Nat) (t : Nat) (akw : Nat) (ake : Nat) (aku : Nat) (akn : Nat) (akc : Nat) (akp : Nat) (kb : Nat) (fv : Nat → Int64) (ln : Nat → Int32) (x : Int32) (A : Nat → Prop) : Array Value → State → Outcome → State → Prop := va_Qi (fun (r : Int32) (u : Unit) => (if x = 0 then nI c else if x = 1 then nI f else if x = 2 then nI t else if x = 3 then nI kb else if x = 4 then (if dn = 0 then 0 else 1) else if x = 5 then (if ie_r f ps ln = 0 then 0 else 1) else if x = 6 then ct else -1) = r) (ct_B D vwCl [(cI, .int), (cL, .long), (cZ, .boolean)] A (fun (u : Unit) => [(ax, .inr (4, [.ref aj, .ref ap, .ref ar, .ref arow, .ref ak, .int ed, .int dn, .int cp, .int ct])), (ap, .inr (3, [.ref aj, .ref apc, .ref app, .int (nI t)])), (apc, .inl (cL, 12, .inr (.inl cs))), (app, .inl (cI, 6, .inl ps)), (aj, .inr (2, [.ref af, .ref al, .int (nI c), .int (nI f)])), (af, .inl (cL, 12, .inr (.inl fv))), (al, .inl (cI, 6, .inl ln)), (ak, .inr (1, [.ref akw, .ref ake, .ref aku, .ref akn, .ref akc, .ref akp, .int (nI kb)]))])) A
set_option maxHeartbeats 4000000 in
set_option maxRecDepth 100000 in
theorem c_X3_count (l : Launch) (D : va_G) (cI cL cZ : ClassId) (ax : Nat) (aj : Nat) (ap : Nat) (ar : Nat) (arow : Nat) (ak : Nat) (ed : Int32) (dn : Int32) (cp : Int32) (ct : Int32) (apc : Nat) (app : Nat) (cs : Nat → Int64) (ps : Nat → Int32) (af : Nat) (al : Nat) (c : Nat) (f : Nat) (t : Nat) (akw : Nat) (ake : Nat) (aku : Nat) (akn : Nat) (akc : Nat) (akp : Nat) (kb : Nat) (fv : Nat → Int64) (ln : Nat → Int32) (x : Int32) (sz : Nat) (hf : f ≤ 6) : Met l yX3_count wsX3_count rm_X3_count (va_Pc [.ref ax, .int x] (ct_P D vwCl [(cI, .int), (cL, .long), (cZ, .boolean)] [(ax, .inr (4, [.ref aj, .ref ap, .ref ar, .ref arow, .ref ak, .int ed, .int dn, .int cp, .int ct])), (ap, .inr (3, [.ref aj, .ref apc, .ref app, .int (nI t)])), (apc, .inl (cL, 12, .inr (.inl cs))), (app, .inl (cI, 6, .inl ps)), (aj, .inr (2, [.ref af, .ref al, .int (nI c), .int (nI f)])), (af, .inl (cL, 12, .inr (.inl fv))), (al, .inl (cI, 6, .inl ln)), (ak, .inr (1, [.ref akw, .ref ake, .ref aku, .ref akn, .ref akc, .ref akp, .int (nI kb)]))] sz)) (qc_X3_count D cI cL cZ ax aj ap ar arow ak ed dn cp ct apc app cs ps af al c f t akw ake aku akn akc akp kb fv ln x (va_A [(ax, .inr (4, [.ref aj, .ref ap, .ref ar, .ref arow, .ref ak, .int ed, .int dn, .int cp, .int ct])), (ap, .inr (3, [.ref aj, .ref apc, .ref app, .int (nI t)])), (apc, .inl (cL, 12, .inr (.inl cs))), (app, .inl (cI, 6, .inl ps)), (aj, .inr (2, [.ref af, .ref al, .int (nI c), .int (nI f)])), (af, .inl (cL, 12, .inr (.inl fv))), (al, .inl (cI, 6, .inl ln)), (ak, .inr (1, [.ref akw, .ref ake, .ref aku, .ref akn, .ref akc, .ref akp, .int (nI kb)]))] sz)) 0 0 (va_A [(ax, .inr (4, [.ref aj, .ref ap, .ref ar, .ref arow, .ref ak, .int ed, .int dn, .int cp, .int ct])), (ap, .inr (3, [.ref aj, .ref apc, .ref app, .int (nI t)])), (apc, .inl (cL, 12, .inr (.inl cs))), (app, .inl (cI, 6, .inl ps)), (aj, .inr (2, [.ref af, .ref al, .int (nI c), .int (nI f)])), (af, .inl (cL, 12, .inr (.inl fv))), (al, .inl (cI, 6, .inl ln)), (ak, .inr (1, [.ref akw, .ref ake, .ref aku, .ref akn, .ref akc, .ref akp, .int (nI kb)]))] sz) := by
  refine Met.ofW (cc := cX3_count) (maxL := 2) (ret := (some .int)) (by decide) rfl ?_
  intro p e s m args below meth cd s₁ B hml hv
  obtain ⟨rfl, hsz, hP, hK, hD0⟩ := hv
  have hx := B.exec
  have hb := B.bytes
  have hr := B.returns
  have hts := atoms_spec (ws := wsX3_count) B.pre
  have iX3 : ∀ w ∈ wsX30, w ∈ wsX3_count := by decide +kernel
  have wf10 := hts (.fieldLink RX3 10 "CheckRestart" "job" "LCheckRestart$Job;") (by decide +kernel)
  have iX1 : ∀ w ∈ wsX10, w ∈ wsX3_count := by decide +kernel
  have wf57 := hts (.fieldLink RX3 57 "CheckRestart$Job" "cellCount" "I") (by decide +kernel)
  have wf66 := hts (.fieldLink RX3 66 "CheckRestart$Job" "fileCount" "I") (by decide +kernel)
  have wf21 := hts (.fieldLink RX3 21 "CheckRestart" "progress" "LCheckRestart$Progress;") (by decide +kernel)
  have iX2 : ∀ w ∈ wsX20, w ∈ wsX3_count := by decide +kernel
  have wf73 := hts (.fieldLink RX3 73 "CheckRestart$Progress" "units" "I") (by decide +kernel)
  have wf35 := hts (.fieldLink RX3 35 "CheckRestart" "checkpoints" "LCheckRestart$Checkpoints;") (by decide +kernel)
  have iX0 : ∀ w ∈ wsX00, w ∈ wsX3_count := by decide +kernel
  have wf83 := hts (.fieldLink RX3 83 "CheckRestart$Checkpoints" "begun" "I") (by decide +kernel)
  have wf43 := hts (.fieldLink RX3 43 "CheckRestart" "down" "Z") (by decide +kernel)
  have wf50 := hts (.fieldLink RX3 50 "CheckRestart" "cutsThatCame" "I") (by decide +kernel)
  have hown : s.vm.findClass RX3 = some m.cls := findClass_of_methodNamed B.named
  have hlocks := B.notSynchronized
  subst hsz
  have hD := hD0.self (sz := s.heap.size)
  generalize hAe : va_A [(ax, .inr (4, [.ref aj, .ref ap, .ref ar, .ref arow, .ref ak, .int ed, .int dn, .int cp, .int ct])), (ap, .inr (3, [.ref aj, .ref apc, .ref app, .int (nI t)])), (apc, .inl (cL, 12, .inr (.inl cs))), (app, .inl (cI, 6, .inl ps)), (aj, .inr (2, [.ref af, .ref al, .int (nI c), .int (nI f)])), (af, .inl (cL, 12, .inr (.inl fv))), (al, .inl (cI, 6, .inl ln)), (ak, .inr (1, [.ref akw, .ref ake, .ref aku, .ref akn, .ref akc, .ref akp, .int (nI kb)]))] s.heap.size = A at hD ⊢
  have hA : ∀ q : Nat, s.heap.size ≤ q → A q := fun q h => by rw [← hAe]; exact Or.inr h
  have hS : va_S A s.heap s.heap [] := va_S.rf
  have hl := lv_entry ([.ref ax, .int x]) (n := 2) (Nat.le_of_ble_eq_true rfl)
  rw [lg_entry_eq]
  generalize (lg_sl ([.ref ax, .int x]) ++ List.replicate (2 - (lg_sl ([.ref ax, .int x])).length) Slot.unset).toArray = ls at hl ⊢
  have hl : lv_has ls 2 [(0, .ref ax), (1, .int x)] := hl
  refine lv_iload_n hx hb dX3_count_0 rfl (lv_at hl 1 rfl) ?_
  by_cases sw_0 : x = 0
  · subst sw_0
    refine lv_tableIn (tgt := 44) hx hb dX3_count_1 (by decide) (by decide) rfl (by decide) ?_
    refine lv_aload_n hx hb dX3_count_44 rfl (lv_at hl 0 rfl) ?_
    refine va_get (D := D) (ci := 4) (v := .ref aj) (C := RX3) (T := TX3) (N := 9) hx hb hts iX3 hown hK hP 0 rfl rfl 0 (by decide) wf10 (fun _ h9 => h9) rfl dX3_count_45 ?_
    refine va_get (D := D) (ci := 2) (v := .int (nI c)) (C := RX1) (T := TX1) (N := 4) hx hb hts iX1 hown hK hP 4 rfl rfl 2 (by decide) wf57 (fun _ h9 => h9) rfl dX3_count_48 ?_
    have hP9 := hP.sub (ws' := [(ax, .inr (4, [.ref aj, .ref ap, .ref ar, .ref arow, .ref ak, .int ed, .int dn, .int cp, .int ct])), (ap, .inr (3, [.ref aj, .ref apc, .ref app, .int (nI t)])), (apc, .inl (cL, 12, .inr (.inl cs))), (app, .inl (cI, 6, .inl ps)), (aj, .inr (2, [.ref af, .ref al, .int (nI c), .int (nI f)])), (af, .inl (cL, 12, .inr (.inl fv))), (al, .inl (cI, 6, .inl ln)), (ak, .inr (1, [.ref akw, .ref ake, .ref aku, .ref akn, .ref akc, .ref akp, .int (nI kb)]))]) [0, 1, 2, 3, 4, 5, 6, 7] rfl
    have hD9 := hD.sub (ws' := [(ax, .inr (4, [.ref aj, .ref ap, .ref ar, .ref arow, .ref ak, .int ed, .int dn, .int cp, .int ct])), (ap, .inr (3, [.ref aj, .ref apc, .ref app, .int (nI t)])), (apc, .inl (cL, 12, .inr (.inl cs))), (app, .inl (cI, 6, .inl ps)), (aj, .inr (2, [.ref af, .ref al, .int (nI c), .int (nI f)])), (af, .inl (cL, 12, .inr (.inl fv))), (al, .inl (cI, 6, .inl ln)), (ak, .inr (1, [.ref akw, .ref ake, .ref aku, .ref akn, .ref akc, .ref akp, .int (nI kb)]))]) [0, 1, 2, 3, 4, 5, 6, 7] (by decide) rfl
    refine W.widen (k := 0) (n := 0) (Nat.le_of_ble_eq_true rfl) (Nat.le_of_ble_eq_true rfl) ?_
    exact W.iret (v := (nI c)) hx hb hr (fun t9 ht9 hW9 => ⟨⟨(nI c), (), rfl, rfl, by rw [ht9]; exact hP9, va_K.moved hW9.alike hK, hD9⟩, hS.F ht9⟩) hS.2.2 dX3_count_51
  by_cases sw_1 : x = 1
  · subst sw_1
    refine lv_tableIn (tgt := 52) hx hb dX3_count_1 (by decide) (by decide) rfl (by decide) ?_
    refine lv_aload_n hx hb dX3_count_52 rfl (lv_at hl 0 rfl) ?_
    refine va_get (D := D) (ci := 4) (v := .ref aj) (C := RX3) (T := TX3) (N := 9) hx hb hts iX3 hown hK hP 0 rfl rfl 0 (by decide) wf10 (fun _ h9 => h9) rfl dX3_count_53 ?_
    refine va_get (D := D) (ci := 2) (v := .int (nI f)) (C := RX1) (T := TX1) (N := 4) hx hb hts iX1 hown hK hP 4 rfl rfl 3 (by decide) wf66 (fun _ h9 => h9) rfl dX3_count_56 ?_
    have hP9 := hP.sub (ws' := [(ax, .inr (4, [.ref aj, .ref ap, .ref ar, .ref arow, .ref ak, .int ed, .int dn, .int cp, .int ct])), (ap, .inr (3, [.ref aj, .ref apc, .ref app, .int (nI t)])), (apc, .inl (cL, 12, .inr (.inl cs))), (app, .inl (cI, 6, .inl ps)), (aj, .inr (2, [.ref af, .ref al, .int (nI c), .int (nI f)])), (af, .inl (cL, 12, .inr (.inl fv))), (al, .inl (cI, 6, .inl ln)), (ak, .inr (1, [.ref akw, .ref ake, .ref aku, .ref akn, .ref akc, .ref akp, .int (nI kb)]))]) [0, 1, 2, 3, 4, 5, 6, 7] rfl
    have hD9 := hD.sub (ws' := [(ax, .inr (4, [.ref aj, .ref ap, .ref ar, .ref arow, .ref ak, .int ed, .int dn, .int cp, .int ct])), (ap, .inr (3, [.ref aj, .ref apc, .ref app, .int (nI t)])), (apc, .inl (cL, 12, .inr (.inl cs))), (app, .inl (cI, 6, .inl ps)), (aj, .inr (2, [.ref af, .ref al, .int (nI c), .int (nI f)])), (af, .inl (cL, 12, .inr (.inl fv))), (al, .inl (cI, 6, .inl ln)), (ak, .inr (1, [.ref akw, .ref ake, .ref aku, .ref akn, .ref akc, .ref akp, .int (nI kb)]))]) [0, 1, 2, 3, 4, 5, 6, 7] (by decide) rfl
    refine W.widen (k := 0) (n := 0) (Nat.le_of_ble_eq_true rfl) (Nat.le_of_ble_eq_true rfl) ?_
    exact W.iret (v := (nI f)) hx hb hr (fun t9 ht9 hW9 => ⟨⟨(nI f), (), rfl, rfl, by rw [ht9]; exact hP9, va_K.moved hW9.alike hK, hD9⟩, hS.F ht9⟩) hS.2.2 dX3_count_59
  by_cases sw_2 : x = 2
  · subst sw_2
    refine lv_tableIn (tgt := 60) hx hb dX3_count_1 (by decide) (by decide) rfl (by decide) ?_
    refine lv_aload_n hx hb dX3_count_60 rfl (lv_at hl 0 rfl) ?_
    refine va_get (D := D) (ci := 4) (v := .ref ap) (C := RX3) (T := TX3) (N := 9) hx hb hts iX3 hown hK hP 0 rfl rfl 1 (by decide) wf21 (fun _ h9 => h9) rfl dX3_count_61 ?_
    refine va_get (D := D) (ci := 3) (v := .int (nI t)) (C := RX2) (T := TX2) (N := 4) hx hb hts iX2 hown hK hP 1 rfl rfl 3 (by decide) wf73 (fun _ h9 => h9) rfl dX3_count_64 ?_
    have hP9 := hP.sub (ws' := [(ax, .inr (4, [.ref aj, .ref ap, .ref ar, .ref arow, .ref ak, .int ed, .int dn, .int cp, .int ct])), (ap, .inr (3, [.ref aj, .ref apc, .ref app, .int (nI t)])), (apc, .inl (cL, 12, .inr (.inl cs))), (app, .inl (cI, 6, .inl ps)), (aj, .inr (2, [.ref af, .ref al, .int (nI c), .int (nI f)])), (af, .inl (cL, 12, .inr (.inl fv))), (al, .inl (cI, 6, .inl ln)), (ak, .inr (1, [.ref akw, .ref ake, .ref aku, .ref akn, .ref akc, .ref akp, .int (nI kb)]))]) [0, 1, 2, 3, 4, 5, 6, 7] rfl
    have hD9 := hD.sub (ws' := [(ax, .inr (4, [.ref aj, .ref ap, .ref ar, .ref arow, .ref ak, .int ed, .int dn, .int cp, .int ct])), (ap, .inr (3, [.ref aj, .ref apc, .ref app, .int (nI t)])), (apc, .inl (cL, 12, .inr (.inl cs))), (app, .inl (cI, 6, .inl ps)), (aj, .inr (2, [.ref af, .ref al, .int (nI c), .int (nI f)])), (af, .inl (cL, 12, .inr (.inl fv))), (al, .inl (cI, 6, .inl ln)), (ak, .inr (1, [.ref akw, .ref ake, .ref aku, .ref akn, .ref akc, .ref akp, .int (nI kb)]))]) [0, 1, 2, 3, 4, 5, 6, 7] (by decide) rfl
    refine W.widen (k := 0) (n := 0) (Nat.le_of_ble_eq_true rfl) (Nat.le_of_ble_eq_true rfl) ?_
    exact W.iret (v := (nI t)) hx hb hr (fun t9 ht9 hW9 => ⟨⟨(nI t), (), rfl, rfl, by rw [ht9]; exact hP9, va_K.moved hW9.alike hK, hD9⟩, hS.F ht9⟩) hS.2.2 dX3_count_67
  by_cases sw_3 : x = 3
  · subst sw_3
    refine lv_tableIn (tgt := 68) hx hb dX3_count_1 (by decide) (by decide) rfl (by decide) ?_
    refine lv_aload_n hx hb dX3_count_68 rfl (lv_at hl 0 rfl) ?_
    refine va_get (D := D) (ci := 4) (v := .ref ak) (C := RX3) (T := TX3) (N := 9) hx hb hts iX3 hown hK hP 0 rfl rfl 4 (by decide) wf35 (fun _ h9 => h9) rfl dX3_count_69 ?_
    refine va_get (D := D) (ci := 1) (v := .int (nI kb)) (C := RX0) (T := TX0) (N := 7) hx hb hts iX0 hown hK hP 7 rfl rfl 6 (by decide) wf83 (fun _ h9 => h9) rfl dX3_count_72 ?_
    have hP9 := hP.sub (ws' := [(ax, .inr (4, [.ref aj, .ref ap, .ref ar, .ref arow, .ref ak, .int ed, .int dn, .int cp, .int ct])), (ap, .inr (3, [.ref aj, .ref apc, .ref app, .int (nI t)])), (apc, .inl (cL, 12, .inr (.inl cs))), (app, .inl (cI, 6, .inl ps)), (aj, .inr (2, [.ref af, .ref al, .int (nI c), .int (nI f)])), (af, .inl (cL, 12, .inr (.inl fv))), (al, .inl (cI, 6, .inl ln)), (ak, .inr (1, [.ref akw, .ref ake, .ref aku, .ref akn, .ref akc, .ref akp, .int (nI kb)]))]) [0, 1, 2, 3, 4, 5, 6, 7] rfl
    have hD9 := hD.sub (ws' := [(ax, .inr (4, [.ref aj, .ref ap, .ref ar, .ref arow, .ref ak, .int ed, .int dn, .int cp, .int ct])), (ap, .inr (3, [.ref aj, .ref apc, .ref app, .int (nI t)])), (apc, .inl (cL, 12, .inr (.inl cs))), (app, .inl (cI, 6, .inl ps)), (aj, .inr (2, [.ref af, .ref al, .int (nI c), .int (nI f)])), (af, .inl (cL, 12, .inr (.inl fv))), (al, .inl (cI, 6, .inl ln)), (ak, .inr (1, [.ref akw, .ref ake, .ref aku, .ref akn, .ref akc, .ref akp, .int (nI kb)]))]) [0, 1, 2, 3, 4, 5, 6, 7] (by decide) rfl
    refine W.widen (k := 0) (n := 0) (Nat.le_of_ble_eq_true rfl) (Nat.le_of_ble_eq_true rfl) ?_
    exact W.iret (v := (nI kb)) hx hb hr (fun t9 ht9 hW9 => ⟨⟨(nI kb), (), rfl, rfl, by rw [ht9]; exact hP9, va_K.moved hW9.alike hK, hD9⟩, hS.F ht9⟩) hS.2.2 dX3_count_75
  by_cases sw_4 : x = 4
  · subst sw_4
    refine lv_tableIn (tgt := 76) hx hb dX3_count_1 (by decide) (by decide) rfl (by decide) ?_
    refine lv_aload_n hx hb dX3_count_76 rfl (lv_at hl 0 rfl) ?_
    refine va_get (D := D) (ci := 4) (v := .int dn) (C := RX3) (T := TX3) (N := 9) hx hb hts iX3 hown hK hP 0 rfl rfl 6 (by decide) wf43 (fun _ h9 => h9) rfl dX3_count_77 ?_
    refine ct_calli (wr := [(ax, .inr (4, [.ref aj, .ref ap, .ref ar, .ref arow, .ref ak, .int ed, .int dn, .int cp, .int ct])), (ap, .inr (3, [.ref aj, .ref apc, .ref app, .int (nI t)])), (apc, .inl (cL, 12, .inr (.inl cs))), (app, .inl (cI, 6, .inl ps)), (aj, .inr (2, [.ref af, .ref al, .int (nI c), .int (nI f)])), (af, .inl (cL, 12, .inr (.inl fv))), (al, .inl (cI, 6, .inl ln)), (ak, .inr (1, [.ref akw, .ref ake, .ref aku, .ref akn, .ref akc, .ref akp, .int (nI kb)]))]) (rest := []) hP hD hS hA [] [0, 1, 2, 3, 4, 5, 6, 7] (va_runS (As := [.int dn]) ⟨hx, hb, hml, hown, hts⟩ (c_X3_asNumber l D cI cL cZ dn _ ) (va_cwS 1 hts gX3_count_X3_asNumber rfl rfl rfl (by decide +kernel) ⟨Nat.le_of_ble_eq_true rfl, Nat.le_of_ble_eq_true rfl⟩) (ct_preS hK hP hD [] (by decide) rfl rfl) rfl rfl hl.1 rfl (lv_room (Nat.le_of_ble_eq_true rfl)) dX3_count_80 ⟨Nat.le_of_ble_eq_true rfl, Nat.le_of_ble_eq_true rfl⟩) rfl rfl (by decide) (by decide) (fun r_1 u H locs hw hP hD hS => ?_)
    try dsimp only at hw
    obtain rfl := hw
    have hP : va_P D vwCl [(ax, .inr (4, [.ref aj, .ref ap, .ref ar, .ref arow, .ref ak, .int ed, .int dn, .int cp, .int ct])), (ap, .inr (3, [.ref aj, .ref apc, .ref app, .int (nI t)])), (apc, .inl (cL, 12, .inr (.inl cs))), (app, .inl (cI, 6, .inl ps)), (aj, .inr (2, [.ref af, .ref al, .int (nI c), .int (nI f)])), (af, .inl (cL, 12, .inr (.inl fv))), (al, .inl (cI, 6, .inl ln)), (ak, .inr (1, [.ref akw, .ref ake, .ref aku, .ref akn, .ref akc, .ref akp, .int (nI kb)]))] H := hP
    have hD : va_D A [(ax, .inr (4, [.ref aj, .ref ap, .ref ar, .ref arow, .ref ak, .int ed, .int dn, .int cp, .int ct])), (ap, .inr (3, [.ref aj, .ref apc, .ref app, .int (nI t)])), (apc, .inl (cL, 12, .inr (.inl cs))), (app, .inl (cI, 6, .inl ps)), (aj, .inr (2, [.ref af, .ref al, .int (nI c), .int (nI f)])), (af, .inl (cL, 12, .inr (.inl fv))), (al, .inl (cI, 6, .inl ln)), (ak, .inr (1, [.ref akw, .ref ake, .ref aku, .ref akn, .ref akc, .ref akp, .int (nI kb)]))] := hD
    have hP9 := hP.sub (ws' := [(ax, .inr (4, [.ref aj, .ref ap, .ref ar, .ref arow, .ref ak, .int ed, .int dn, .int cp, .int ct])), (ap, .inr (3, [.ref aj, .ref apc, .ref app, .int (nI t)])), (apc, .inl (cL, 12, .inr (.inl cs))), (app, .inl (cI, 6, .inl ps)), (aj, .inr (2, [.ref af, .ref al, .int (nI c), .int (nI f)])), (af, .inl (cL, 12, .inr (.inl fv))), (al, .inl (cI, 6, .inl ln)), (ak, .inr (1, [.ref akw, .ref ake, .ref aku, .ref akn, .ref akc, .ref akp, .int (nI kb)]))]) [0, 1, 2, 3, 4, 5, 6, 7] rfl
    have hD9 := hD.sub (ws' := [(ax, .inr (4, [.ref aj, .ref ap, .ref ar, .ref arow, .ref ak, .int ed, .int dn, .int cp, .int ct])), (ap, .inr (3, [.ref aj, .ref apc, .ref app, .int (nI t)])), (apc, .inl (cL, 12, .inr (.inl cs))), (app, .inl (cI, 6, .inl ps)), (aj, .inr (2, [.ref af, .ref al, .int (nI c), .int (nI f)])), (af, .inl (cL, 12, .inr (.inl fv))), (al, .inl (cI, 6, .inl ln)), (ak, .inr (1, [.ref akw, .ref ake, .ref aku, .ref akn, .ref akc, .ref akp, .int (nI kb)]))]) [0, 1, 2, 3, 4, 5, 6, 7] (by decide) rfl
    refine W.widen (k := 0) (n := 0) (Nat.le_of_ble_eq_true rfl) (Nat.le_of_ble_eq_true rfl) ?_
    exact W.iret (v := (if dn = 0 then 0 else 1)) hx hb hr (fun t9 ht9 hW9 => ⟨⟨(if dn = 0 then 0 else 1), (), rfl, rfl, by rw [ht9]; exact hP9, va_K.moved hW9.alike hK, hD9⟩, hS.F ht9⟩) hS.2.2 dX3_count_83
  by_cases sw_5 : x = 5
  · subst sw_5
    refine lv_tableIn (tgt := 84) hx hb dX3_count_1 (by decide) (by decide) rfl (by decide) ?_
    refine lv_aload_n hx hb dX3_count_84 rfl (lv_at hl 0 rfl) ?_
    refine va_get (D := D) (ci := 4) (v := .ref ap) (C := RX3) (T := TX3) (N := 9) hx hb hts iX3 hown hK hP 0 rfl rfl 1 (by decide) wf21 (fun _ h9 => h9) rfl dX3_count_85 ?_
    refine ct_calli (wr := [(ax, .inr (4, [.ref aj, .ref ap, .ref ar, .ref arow, .ref ak, .int ed, .int dn, .int cp, .int ct])), (ak, .inr (1, [.ref akw, .ref ake, .ref aku, .ref akn, .ref akc, .ref akp, .int (nI kb)]))]) (rest := []) hP hD hS hA [1, 2, 3, 4, 5, 6] [0, 7] (va_runV (C := RX2) (As := []) ⟨hx, hb, hml, hown, hts⟩ (c_X2_isEnded l D cI cL cZ ap apc app cs ps aj af al c f fv ln (nI t) _ (by omega)) (cwV 0 hts gX3_count_X2_isEnded rfl rfl rfl (by decide +kernel) ⟨Nat.le_of_ble_eq_true rfl, Nat.le_of_ble_eq_true rfl⟩) (ct_preV (q0 := 0) (ci := 3) hK hP hD [1, 2, 3, 4, 5, 6] (by decide) rfl rfl rfl rfl rfl) rfl rfl hl.1 rfl (lv_room (Nat.le_of_ble_eq_true rfl)) dX3_count_88 ⟨Nat.le_of_ble_eq_true rfl, Nat.le_of_ble_eq_true rfl⟩) rfl rfl (by decide) (by decide) (fun r_2 u H locs hw hP hD hS => ?_)
    try dsimp only at hw
    obtain rfl := hw
    have hP : va_P D vwCl [(ax, .inr (4, [.ref aj, .ref ap, .ref ar, .ref arow, .ref ak, .int ed, .int dn, .int cp, .int ct])), (ak, .inr (1, [.ref akw, .ref ake, .ref aku, .ref akn, .ref akc, .ref akp, .int (nI kb)])), (ap, .inr (3, [.ref aj, .ref apc, .ref app, .int (nI t)])), (apc, .inl (cL, 12, .inr (.inl cs))), (app, .inl (cI, 6, .inl ps)), (aj, .inr (2, [.ref af, .ref al, .int (nI c), .int (nI f)])), (af, .inl (cL, 12, .inr (.inl fv))), (al, .inl (cI, 6, .inl ln))] H := hP
    have hD : va_D A [(ax, .inr (4, [.ref aj, .ref ap, .ref ar, .ref arow, .ref ak, .int ed, .int dn, .int cp, .int ct])), (ak, .inr (1, [.ref akw, .ref ake, .ref aku, .ref akn, .ref akc, .ref akp, .int (nI kb)])), (ap, .inr (3, [.ref aj, .ref apc, .ref app, .int (nI t)])), (apc, .inl (cL, 12, .inr (.inl cs))), (app, .inl (cI, 6, .inl ps)), (aj, .inr (2, [.ref af, .ref al, .int (nI c), .int (nI f)])), (af, .inl (cL, 12, .inr (.inl fv))), (al, .inl (cI, 6, .inl ln))] := hD
    refine ct_calli (wr := [(ax, .inr (4, [.ref aj, .ref ap, .ref ar, .ref arow, .ref ak, .int ed, .int dn, .int cp, .int ct])), (ak, .inr (1, [.ref akw, .ref ake, .ref aku, .ref akn, .ref akc, .ref akp, .int (nI kb)])), (ap, .inr (3, [.ref aj, .ref apc, .ref app, .int (nI t)])), (apc, .inl (cL, 12, .inr (.inl cs))), (app, .inl (cI, 6, .inl ps)), (aj, .inr (2, [.ref af, .ref al, .int (nI c), .int (nI f)])), (af, .inl (cL, 12, .inr (.inl fv))), (al, .inl (cI, 6, .inl ln))]) (rest := []) hP hD hS hA [] [0, 1, 2, 3, 4, 5, 6, 7] (va_runS (As := [.int (ie_r f ps ln)]) ⟨hx, hb, hml, hown, hts⟩ (c_X3_asNumber l D cI cL cZ (ie_r f ps ln) _ ) (va_cwS 1 hts gX3_count_X3_asNumber rfl rfl rfl (by decide +kernel) ⟨Nat.le_of_ble_eq_true rfl, Nat.le_of_ble_eq_true rfl⟩) (ct_preS hK hP hD [] (by decide) rfl rfl) rfl rfl hl.1 rfl (lv_room (Nat.le_of_ble_eq_true rfl)) dX3_count_91 ⟨Nat.le_of_ble_eq_true rfl, Nat.le_of_ble_eq_true rfl⟩) rfl rfl (by decide) (by decide) (fun r_3 u H locs hw hP hD hS => ?_)
    try dsimp only at hw
    obtain rfl := hw
    have hP : va_P D vwCl [(ax, .inr (4, [.ref aj, .ref ap, .ref ar, .ref arow, .ref ak, .int ed, .int dn, .int cp, .int ct])), (ak, .inr (1, [.ref akw, .ref ake, .ref aku, .ref akn, .ref akc, .ref akp, .int (nI kb)])), (ap, .inr (3, [.ref aj, .ref apc, .ref app, .int (nI t)])), (apc, .inl (cL, 12, .inr (.inl cs))), (app, .inl (cI, 6, .inl ps)), (aj, .inr (2, [.ref af, .ref al, .int (nI c), .int (nI f)])), (af, .inl (cL, 12, .inr (.inl fv))), (al, .inl (cI, 6, .inl ln))] H := hP
    have hD : va_D A [(ax, .inr (4, [.ref aj, .ref ap, .ref ar, .ref arow, .ref ak, .int ed, .int dn, .int cp, .int ct])), (ak, .inr (1, [.ref akw, .ref ake, .ref aku, .ref akn, .ref akc, .ref akp, .int (nI kb)])), (ap, .inr (3, [.ref aj, .ref apc, .ref app, .int (nI t)])), (apc, .inl (cL, 12, .inr (.inl cs))), (app, .inl (cI, 6, .inl ps)), (aj, .inr (2, [.ref af, .ref al, .int (nI c), .int (nI f)])), (af, .inl (cL, 12, .inr (.inl fv))), (al, .inl (cI, 6, .inl ln))] := hD
    have hP9 := hP.sub (ws' := [(ax, .inr (4, [.ref aj, .ref ap, .ref ar, .ref arow, .ref ak, .int ed, .int dn, .int cp, .int ct])), (ap, .inr (3, [.ref aj, .ref apc, .ref app, .int (nI t)])), (apc, .inl (cL, 12, .inr (.inl cs))), (app, .inl (cI, 6, .inl ps)), (aj, .inr (2, [.ref af, .ref al, .int (nI c), .int (nI f)])), (af, .inl (cL, 12, .inr (.inl fv))), (al, .inl (cI, 6, .inl ln)), (ak, .inr (1, [.ref akw, .ref ake, .ref aku, .ref akn, .ref akc, .ref akp, .int (nI kb)]))]) [0, 2, 3, 4, 5, 6, 7, 1] rfl
    have hD9 := hD.sub (ws' := [(ax, .inr (4, [.ref aj, .ref ap, .ref ar, .ref arow, .ref ak, .int ed, .int dn, .int cp, .int ct])), (ap, .inr (3, [.ref aj, .ref apc, .ref app, .int (nI t)])), (apc, .inl (cL, 12, .inr (.inl cs))), (app, .inl (cI, 6, .inl ps)), (aj, .inr (2, [.ref af, .ref al, .int (nI c), .int (nI f)])), (af, .inl (cL, 12, .inr (.inl fv))), (al, .inl (cI, 6, .inl ln)), (ak, .inr (1, [.ref akw, .ref ake, .ref aku, .ref akn, .ref akc, .ref akp, .int (nI kb)]))]) [0, 2, 3, 4, 5, 6, 7, 1] (by decide) rfl
    refine W.widen (k := 0) (n := 0) (Nat.le_of_ble_eq_true rfl) (Nat.le_of_ble_eq_true rfl) ?_
    exact W.iret (v := (if (ie_r f ps ln) = 0 then 0 else 1)) hx hb hr (fun t9 ht9 hW9 => ⟨⟨(if (ie_r f ps ln) = 0 then 0 else 1), (), rfl, rfl, by rw [ht9]; exact hP9, va_K.moved hW9.alike hK, hD9⟩, hS.F ht9⟩) hS.2.2 dX3_count_94
  by_cases sw_6 : x = 6
  · subst sw_6
    refine lv_tableIn (tgt := 95) hx hb dX3_count_1 (by decide) (by decide) rfl (by decide) ?_
    refine lv_aload_n hx hb dX3_count_95 rfl (lv_at hl 0 rfl) ?_
    refine va_get (D := D) (ci := 4) (v := .int ct) (C := RX3) (T := TX3) (N := 9) hx hb hts iX3 hown hK hP 0 rfl rfl 8 (by decide) wf50 (fun _ h9 => h9) rfl dX3_count_96 ?_
    have hP9 := hP.sub (ws' := [(ax, .inr (4, [.ref aj, .ref ap, .ref ar, .ref arow, .ref ak, .int ed, .int dn, .int cp, .int ct])), (ap, .inr (3, [.ref aj, .ref apc, .ref app, .int (nI t)])), (apc, .inl (cL, 12, .inr (.inl cs))), (app, .inl (cI, 6, .inl ps)), (aj, .inr (2, [.ref af, .ref al, .int (nI c), .int (nI f)])), (af, .inl (cL, 12, .inr (.inl fv))), (al, .inl (cI, 6, .inl ln)), (ak, .inr (1, [.ref akw, .ref ake, .ref aku, .ref akn, .ref akc, .ref akp, .int (nI kb)]))]) [0, 1, 2, 3, 4, 5, 6, 7] rfl
    have hD9 := hD.sub (ws' := [(ax, .inr (4, [.ref aj, .ref ap, .ref ar, .ref arow, .ref ak, .int ed, .int dn, .int cp, .int ct])), (ap, .inr (3, [.ref aj, .ref apc, .ref app, .int (nI t)])), (apc, .inl (cL, 12, .inr (.inl cs))), (app, .inl (cI, 6, .inl ps)), (aj, .inr (2, [.ref af, .ref al, .int (nI c), .int (nI f)])), (af, .inl (cL, 12, .inr (.inl fv))), (al, .inl (cI, 6, .inl ln)), (ak, .inr (1, [.ref akw, .ref ake, .ref aku, .ref akn, .ref akc, .ref akp, .int (nI kb)]))]) [0, 1, 2, 3, 4, 5, 6, 7] (by decide) rfl
    refine W.widen (k := 0) (n := 0) (Nat.le_of_ble_eq_true rfl) (Nat.le_of_ble_eq_true rfl) ?_
    exact W.iret (v := ct) hx hb hr (fun t9 ht9 hW9 => ⟨⟨ct, (), rfl, rfl, by rw [ht9]; exact hP9, va_K.moved hW9.alike hK, hD9⟩, hS.F ht9⟩) hS.2.2 dX3_count_99
  have st_0 := lv_neT sw_0 (a := 0) rfl
  have st_1 := lv_neT sw_1 (a := 1) rfl
  have st_2 := lv_neT sw_2 (a := 2) rfl
  have st_3 := lv_neT sw_3 (a := 3) rfl
  have st_4 := lv_neT sw_4 (a := 4) rfl
  have st_5 := lv_neT sw_5 (a := 5) rfl
  have st_6 := lv_neT sw_6 (a := 6) rfl
  refine lv_tableOut (tgt := 100) hx hb dX3_count_1 (by omega) (by decide) ?_
  refine lv_iconst (v := (-1)) hx hb dX3_count_100 (by decide) ?_
  have hP9 := hP.sub (ws' := [(ax, .inr (4, [.ref aj, .ref ap, .ref ar, .ref arow, .ref ak, .int ed, .int dn, .int cp, .int ct])), (ap, .inr (3, [.ref aj, .ref apc, .ref app, .int (nI t)])), (apc, .inl (cL, 12, .inr (.inl cs))), (app, .inl (cI, 6, .inl ps)), (aj, .inr (2, [.ref af, .ref al, .int (nI c), .int (nI f)])), (af, .inl (cL, 12, .inr (.inl fv))), (al, .inl (cI, 6, .inl ln)), (ak, .inr (1, [.ref akw, .ref ake, .ref aku, .ref akn, .ref akc, .ref akp, .int (nI kb)]))]) [0, 1, 2, 3, 4, 5, 6, 7] rfl
  have hD9 := hD.sub (ws' := [(ax, .inr (4, [.ref aj, .ref ap, .ref ar, .ref arow, .ref ak, .int ed, .int dn, .int cp, .int ct])), (ap, .inr (3, [.ref aj, .ref apc, .ref app, .int (nI t)])), (apc, .inl (cL, 12, .inr (.inl cs))), (app, .inl (cI, 6, .inl ps)), (aj, .inr (2, [.ref af, .ref al, .int (nI c), .int (nI f)])), (af, .inl (cL, 12, .inr (.inl fv))), (al, .inl (cI, 6, .inl ln)), (ak, .inr (1, [.ref akw, .ref ake, .ref aku, .ref akn, .ref akc, .ref akp, .int (nI kb)]))]) [0, 1, 2, 3, 4, 5, 6, 7] (by decide) rfl
  refine W.widen (k := 0) (n := 0) (Nat.le_of_ble_eq_true rfl) (Nat.le_of_ble_eq_true rfl) ?_
  exact W.iret (v := (-1)) hx hb hr (fun t9 ht9 hW9 => ⟨⟨(-1), (), rfl, by simp [sw_0, sw_1, sw_2, sw_3, sw_4, sw_5, sw_6], by rw [ht9]; exact hP9, va_K.moved hW9.alike hK, hD9⟩, hS.F ht9⟩) hS.2.2 dX3_count_101
end
