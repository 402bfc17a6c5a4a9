section
-- ===== PART A: goes FIRST, ahead of the names: the tables' words, and 'selects' of the private methods out of them =====
/-- a private method of a class that the tables say can be made, by its rows of tables_1 -/
def lw_okq (q : MethodName × Nat) : Prop := (q.1.cls ≠ "java/lang/invoke/MethodHandle" ∧ q.1.cls ≠ "java/lang/invoke/VarHandle") ∧ Cond.instantiable q.1.cls q.2 ∈ tables_1 ∧ Cond.privateMethod q.1 ∈ tables_1 ∧ Cond.instanceMethod q.1 ∈ tables_1
theorem lw_p0 : lw_okq (⟨"java/lang/Throwable", "fillInStackTrace", "(I)Ljava/lang/Throwable;"⟩, 6) := ⟨⟨by decide +kernel, by decide +kernel⟩, List.mem_of_getElem? (i := 99) (by decide +kernel), List.mem_of_getElem? (i := 97) (by decide +kernel), List.mem_of_getElem? (i := 98) (by decide +kernel)⟩
theorem lw_p1 : lw_okq (⟨"ShortWork", "workerAt", "(I)LShortWork$Worker;"⟩, 8) := ⟨⟨by decide +kernel, by decide +kernel⟩, List.mem_of_getElem? (i := 12) (by decide +kernel), List.mem_of_getElem? (i := 205) (by decide +kernel), List.mem_of_getElem? (i := 206) (by decide +kernel)⟩
theorem lw_p2 : lw_okq (⟨"ShortWork", "courseAt", "(I)LShortWork$Course;"⟩, 8) := ⟨⟨by decide +kernel, by decide +kernel⟩, List.mem_of_getElem? (i := 12) (by decide +kernel), List.mem_of_getElem? (i := 291) (by decide +kernel), List.mem_of_getElem? (i := 292) (by decide +kernel)⟩
theorem lw_p3 : lw_okq (⟨"ShortWork", "payCurrentWeek", "()I"⟩, 8) := ⟨⟨by decide +kernel, by decide +kernel⟩, List.mem_of_getElem? (i := 12) (by decide +kernel), List.mem_of_getElem? (i := 319) (by decide +kernel), List.mem_of_getElem? (i := 320) (by decide +kernel)⟩
theorem lw_p4 : lw_okq (⟨"ShortWork$Worker", "madeUpPercent", "(I)I"⟩, 12) := ⟨⟨by decide +kernel, by decide +kernel⟩, List.mem_of_getElem? (i := 141) (by decide +kernel), List.mem_of_getElem? (i := 327) (by decide +kernel), List.mem_of_getElem? (i := 328) (by decide +kernel)⟩
theorem lw_p5 : lw_okq (⟨"ShortWork$Worker", "stepPercent", "()I"⟩, 12) := ⟨⟨by decide +kernel, by decide +kernel⟩, List.mem_of_getElem? (i := 141) (by decide +kernel), List.mem_of_getElem? (i := 331) (by decide +kernel), List.mem_of_getElem? (i := 332) (by decide +kernel)⟩
theorem lw_p6 : lw_okq (⟨"ShortWork", "hasPassed", "(I)Z"⟩, 8) := ⟨⟨by decide +kernel, by decide +kernel⟩, List.mem_of_getElem? (i := 12) (by decide +kernel), List.mem_of_getElem? (i := 343) (by decide +kernel), List.mem_of_getElem? (i := 344) (by decide +kernel)⟩
theorem lw_p7 : lw_okq (⟨"ShortWork", "chargeBack", "(LShortWork$Worker;I)V"⟩, 8) := ⟨⟨by decide +kernel, by decide +kernel⟩, List.mem_of_getElem? (i := 12) (by decide +kernel), List.mem_of_getElem? (i := 367) (by decide +kernel), List.mem_of_getElem? (i := 368) (by decide +kernel)⟩
def lw_privs_1 : List (MethodName × Nat) := [(⟨"java/lang/Throwable", "fillInStackTrace", "(I)Ljava/lang/Throwable;"⟩, 6), (⟨"ShortWork", "workerAt", "(I)LShortWork$Worker;"⟩, 8), (⟨"ShortWork", "courseAt", "(I)LShortWork$Course;"⟩, 8), (⟨"ShortWork", "payCurrentWeek", "()I"⟩, 8), (⟨"ShortWork$Worker", "madeUpPercent", "(I)I"⟩, 12), (⟨"ShortWork$Worker", "stepPercent", "()I"⟩, 12), (⟨"ShortWork", "hasPassed", "(I)Z"⟩, 8), (⟨"ShortWork", "chargeBack", "(LShortWork$Worker;I)V"⟩, 8)]
theorem lw_r1 : ∀ q ∈ lw_privs_1, lw_okq q := List.forall_mem_cons.mpr ⟨lw_p0, List.forall_mem_cons.mpr ⟨lw_p1, List.forall_mem_cons.mpr ⟨lw_p2, List.forall_mem_cons.mpr ⟨lw_p3, List.forall_mem_cons.mpr ⟨lw_p4, List.forall_mem_cons.mpr ⟨lw_p5, List.forall_mem_cons.mpr ⟨lw_p6, List.forall_mem_cons.mpr ⟨lw_p7, fun _ h => absurd h List.not_mem_nil⟩⟩⟩⟩⟩⟩⟩⟩
def lw_privs : List (MethodName × Nat) := lw_privs_1
def lw_tbl : List Cond := k2_sels lw_privs ++ tables_1
theorem lw_privs_ok : ∀ q ∈ lw_privs, lw_okq q := lw_r1
end
section
/-! ===== BEGIN words of one list among another's, by their places ===== -/
theorem goodIn_r {big : List Cond} (ws : List Cond) (ps : List Nat) (hp : ws = ps.filterMap (fun i => big[i]?)) (h : ws.all goodWord = true) : GoodIn big ws := by
  intro w hw
  have h1 := List.all_eq_true.mp h w hw
  rw [hp] at hw
  obtain ⟨i, -, hi⟩ := List.mem_filterMap.mp hw
  have hm : w ∈ big := by first | exact List.mem_of_getElem? hi | exact List.getElem?_mem hi
  exact ⟨hm, good_of_word h1⟩
theorem goodIn_app {big a b : List Cond} (ha : GoodIn big a) (hb : GoodIn big b) : GoodIn big (a ++ b) := fun w h => (List.mem_append.mp h).elim (ha w) (hb w)
theorem goodIn_ca {big a b : List Cond} {c : Cond} (ha : GoodIn big (c :: a)) (hb : GoodIn big b) : GoodIn big (c :: (a ++ b)) := fun w h => (List.mem_cons.mp h).elim (fun e => ha w (List.mem_cons.mpr (Or.inl e))) (fun h => (List.mem_append.mp h).elim (fun h => ha w (List.mem_cons.mpr (Or.inr h))) (hb w))
theorem goodIn_sub {big ws : List Cond} (hm : ∀ w ∈ ws, w ∈ big) (h : ws.all goodWord = true) : GoodIn big ws := fun w hw => ⟨hm w hw, good_of_word (List.all_eq_true.mp h w hw)⟩
/-! ===== END ===== -/

/-! ===== BEGIN exceptions that leave a method, and their catching by the caller (launches without stack traces) ===== -/
section VXA
/-! The laws vx_back, vx_callV, vx_callS, vx_callSW, vx_throw0, vx_throwS follow proofs of the library, with one case more: JvmDerived/Free/Laws.lean (Back.of_free), Shelf42/LK1.lean (callV, callS), Shelf/KitTraced.lean (throwNew0V, throwNewS). -/
/-- where a method has thrown q: the class by its name, the cell, what was written, the world -/
def vx_T (XC : String → State → State → Prop) (st : State) (q : Addr) (t : State) (mc ms : Nat) (free : Addr → Prop) : Prop :=
  ∃ (E : String) (ce : Cell) (L : List Loc), XC E st t ∧ t.heap[q]? = some ce ∧ ce.vm = .none ∧ st.vm.findClass E = some ce.cls ∧ st.WarmedH t.vm ∧ st.sameButNew ({ t with vm := st.vm } : State) L mc ms ∧ ∀ z ∈ L, free z.base
def vx_Q (Qc : Array Value → State → Outcome → State → Prop) (XC : String → State → State → Prop) (mc ms : Nat) (free : Addr → Prop) : Array Value → State → Outcome → State → Prop := fun a st o t =>
  (Qc a st o t ∧ ∃ L, FrameEnd st o t L mc ms ∧ ∀ q ∈ L, free q.base) ∨ ∃ q, o = .threw q ∧ vx_T XC st q t mc ms free
/-- a callee that returns or throws -/
def vx_Met (l : Launch) (y : MethodName) (ws : List Cond) (rm : Room) (Pc : Array Value → State → Prop) (Qc : Array Value → State → Outcome → State → Prop) (XC : String → State → State → Prop) (mc ms : Nat) (free : Addr → Prop) : Prop :=
  MetFree l y (headSpec ws rm) Pc (fun _ _ _ _ _ => True) (vx_Q Qc XC mc ms free)
def vx_Post (XC : String → State → State → Prop) (mc ms : Nat) (free : Addr → Prop) : Pt → Array Value → Addr → Pt → Prop := fun A a q B =>
  ∃ (g : JFrame) (mk : MethodId) (t : State) (L : List Loc) (E : String) (ce : Cell), B.U.heap = t.heap ∧ B.U.vm = t.vm ∧ XC E (A.U.calling g mk a) t ∧ t.heap[q]? = some ce ∧ ce.vm = .none ∧ A.U.vm.findClass E = some ce.cls ∧ B.locs = A.locs ++ L ∧ (∀ z ∈ L, free z.base) ∧ B.cells = A.cells + mc ∧ B.slots = A.slots + ms
def vx_Back (l : Launch) (R : Room) (p : Program) (e : Env) (below : List Frame) (s : State) (sargs : Array Value) (y : MethodName) (len W9 : Nat)
    (Pre : Pt → Array Value → Prop) (Post : Pt → Array Value → Option Value → Pt → Prop) (PostX : Pt → Array Value → Addr → Pt → Prop) : Prop :=
  ∀ (m : MethodId) (meth : Method) (c : Code) (A : Pt) (g : JFrame) (ig : Instr) (mk : MethodId) (a : Array Value),
    Stand p l e R s m sargs below meth c A.U A.locs A.cells A.slots → g.method = m → g.locals.size = c.maxLocals → decode c.code g.pc = .ok (ig, len) →
    2 * g.monitorRoom + (g.stack.map fun v => v.category).sum ≤ W9 → A.U.methodNamed? y = some mk → Pre A a →
    (∃ (v : Option Value) (B : Pt), Stand p l e R s m sargs below meth c B.U B.locs B.cells B.slots ∧ Post A a v B ∧
      Steps p.tables e below (doInvoke e (A.U.setTop g) [] mk a).1 (B.U.setTop { g with pc := g.pc + len, stack := v.toList ++ g.stack })) ∨
    (∃ (q : Addr) (B : Pt), Stand p l e R s m sargs below meth c B.U B.locs B.cells B.slots ∧ PostX A a q B ∧
      Steps p.tables e below (doInvoke e (A.U.setTop g) [] mk a).1 ((B.U.setTop g).pushFrame (.throwing q)))
section Payer
variable {l : Launch} {R : Room} {p : Program} {e : Env} {below : List Frame} {s : State} {sargs : Array Value} {y : MethodName} {len W9 : Nat}
theorem vx_back {ws : List Cond} {rm : Room} {Pc : Array Value → State → Prop} {Qc : Array Value → State → Outcome → State → Prop} {XC : String → State → State → Prop} {mc ms : Nat} {free : Addr → Prop} {bytes : ByteArray} {maxL : Nat} {ret : Option FieldType}
    (hM : vx_Met l y ws rm Pc Qc XC mc ms free) (hblind : FrameBlind Pc) (hrc : rm.cells = mc) (hrs : rm.slots = ms)
    (hframes : rm.frames + 1 ≤ R.frames) (hlocals : W9 + (maxL + 11) + rm.locals ≤ R.locals)
    (hws : ∀ w ∈ ws, ∀ a' U, s.WarmedH U.vm → w.before a' U = true) (hcode : Cond.code y bytes maxL ret ∈ ws) (hinit : ∀ a' U, s.WarmedH U.vm → (Cond.initialized y.cls).before a' U = true) :
    vx_Back l R p e below s sargs y len W9 (PreOf R mc ms Pc) (PostOf Qc mc ms free) (vx_Post XC mc ms free) := by
  intro m meth c A g ig mk a X hg hsize hdg hW hn hp
  have h1 : (headSpec ws rm).pre.before a A.U = true := atoms_intro fun w hw => hws w hw _ _ X.warmed
  have h2 : (Cond.code y bytes maxL ret).before a A.U = true := hws _ hcode _ _ X.warmed
  have h3 : (Cond.initialized y.cls).before a A.U = true := hinit _ _ X.warmed
  have h4 : A.cells + (headSpec ws rm).room.cells ≤ R.cells := by rw [show (headSpec ws rm).room.cells = mc from hrc]; exact hp.1
  have h5 : A.slots + (headSpec ws rm).room.slots ≤ R.slots := by rw [show (headSpec ws rm).room.slots = ms from hrs]; exact hp.2.1
  have hPc : Pc a (A.U.calling g mk a) := hblind _ _ _ _ hp.2.2
  obtain ⟨U, Ls, c0, s0⟩ := A
  dsimp only [Pt.U, Pt.locs, Pt.cells, Pt.slots] at h1 h2 h3 h4 h5 X hn hPc ⊢
  obtain ⟨methY, cY, hmY, hcY, -, hlY, -, -, -, -⟩ := Cond.code_spec hn h2
  obtain ⟨kY, hkY, -⟩ := className_of_methodNamed hn
  have hinitY : kY.init = .initialized := Cond.initialized_spec (findClass_of_methodNamed hn) hkY h3
  have h : At U g.method c below := by rw [hg]; exact X.here
  have hlocals9 : W9 + (maxL + 11) + (headSpec ws rm).room.locals ≤ R.locals := hlocals
  have happ : (headSpec ws rm).appliesLoose y e.platform (U.calling g mk a) = true :=
    Spec.appliesLoose_calling (g := g) h hdg hn hkY hinitY
      (X.room_calling (g := g) (R' := (headSpec ws rm).room) hsize hmY hcY hframes (by rw [hlY]; omega) h4 h5) h1
  obtain ⟨mid, hmid⟩ := h.above
  have hfr : (U.setTop g).frames = (.java g :: mid) ++ below := by rw [State.frames_setTop' g h.top, hmid]; rfl
  obtain ⟨o, s₂, hsteps, -, hend, hq⟩ := Steps.callFree hM p X.admits X.cas X.clock (acts := []) hfr happ hPc trivial
  have hq' : vx_Q Qc XC mc ms free a (U.calling g mk a) o s₂ := hq
  rw [State.frames_setTop' g h.top] at hend
  obtain ⟨g₀, hg0⟩ := Option.isSome_iff_exists.mp h.top
  obtain ⟨r, hr⟩ := State.topJava?_eq_some.mp hg0
  have hr' : (({ U with heap := s₂.heap, slotsUsed := s₂.slotsUsed } : State).setVm s₂.vm).frames = .java g₀ :: r := hr
  rcases hq' with ⟨hqc, L, hfe, hL⟩ | ⟨q, rfl, E, ce, L, hx, hce, hcv, hcl, hW₂, hsm, hL⟩
  · obtain ⟨⟨v, rfl⟩, hW₂, e2, q2, q3, q4, q5, q6⟩ := id hfe
    have e3 : s₂ = ({ (U.calling g mk a).setFrames s₂.frames with heap := s₂.heap, slotsUsed := s₂.slotsUsed } : State).setVm s₂.vm := by
      have : s₂ = ({ s₂ with vm := (U.calling g mk a).vm } : State).setVm s₂.vm := rfl
      rw [e2] at this
      exact this
    obtain ⟨c₂, i₂, len₂, hc₂, hd₂, hf₂⟩ := hend
    have hW' : U.WarmedH s₂.vm := hW₂
    have hcc : c₂ = c := by
      have h1 : s₂.code? g.method = U.code? g.method := by
        rw [State.code?_eq, State.code?_eq, hW'.alike.method?]
      exact Option.some.inj (hc₂.symm.trans (h1.trans h.code))
    subst hcc
    have hlen : len₂ = len := by rw [hdg] at hd₂; cases hd₂; rfl
    subst hlen
    have hs₂ : s₂ = (({ U with heap := s₂.heap, slotsUsed := s₂.slotsUsed } : State).setVm s₂.vm).setTop { g with pc := g.pc + len₂, stack := v.toList ++ g.stack } := by
      refine e3.trans ?_
      rw [hf₂, State.calling_eq h.top, State.setFrames_setFrames, State.setTop_of_frames _ hr', hr]
      rfl
    have hsame : U.sameButNew ({ U with heap := s₂.heap, slotsUsed := s₂.slotsUsed } : State) L mc ms := by
      refine ⟨?_, q2, q3, q4, q5, q6⟩
      obtain ⟨t, ht, -⟩ := State.frames_cons hr
      show ({ U with heap := s₂.heap, slotsUsed := s₂.slotsUsed } : State) = { U.setFrames U.frames with heap := s₂.heap, slotsUsed := s₂.slotsUsed }
      rw [State.setFrames_self ht]
    subst hg
    refine Or.inl ⟨v, ⟨(({ U with heap := s₂.heap, slotsUsed := s₂.slotsUsed } : State).setVm s₂.vm), Ls ++ L, c0 + mc, s0 + ms⟩,
      ⟨X.admits, X.cas, X.clock, X.frames, X.room, X.hears, X.method, X.code, (X.here.setHeapUsed s₂.heap s₂.slotsUsed).setVm hW'.alike, X.tail, State.WarmedH.trans X.warmed hW', X.limits, X.bytes, X.same.trans (hsame.setVm s.vm)⟩,
      ⟨g, mk, s₂, L, rfl, rfl, hqc, rfl, hL, rfl, rfl⟩, ?_⟩
    show Steps p.tables e below _ ((({ U with heap := s₂.heap, slotsUsed := s₂.slotsUsed } : State).setVm s₂.vm).setTop { g with pc := g.pc + len₂, stack := v.toList ++ g.stack })
    rw [← hs₂]
    exact hsteps
  · obtain ⟨e2, q2, q3, q4, q5, q6⟩ := id hsm
    have e3 : s₂ = ({ (U.calling g mk a).setFrames s₂.frames with heap := s₂.heap, slotsUsed := s₂.slotsUsed } : State).setVm s₂.vm := by
      have : s₂ = ({ s₂ with vm := (U.calling g mk a).vm } : State).setVm s₂.vm := rfl
      rw [e2] at this
      exact this
    have hf₂ : s₂.frames = .throwing q :: .java g :: U.frames.tail := hend
    have hW' : U.WarmedH s₂.vm := hW₂
    have hs₂ : s₂ = ((({ U with heap := s₂.heap, slotsUsed := s₂.slotsUsed } : State).setVm s₂.vm).setTop g).pushFrame (.throwing q) := by
      refine e3.trans ?_
      rw [hf₂, State.calling_eq h.top, State.setFrames_setFrames, State.pushFrame, State.frames_setTop _ hr', State.setTop_of_frames _ hr', State.setFrames_setFrames, hr]
      rfl
    have hsame : U.sameButNew ({ U with heap := s₂.heap, slotsUsed := s₂.slotsUsed } : State) L mc ms := by
      refine ⟨?_, q2, q3, q4, q5, q6⟩
      obtain ⟨t, ht, -⟩ := State.frames_cons hr
      show ({ U with heap := s₂.heap, slotsUsed := s₂.slotsUsed } : State) = { U.setFrames U.frames with heap := s₂.heap, slotsUsed := s₂.slotsUsed }
      rw [State.setFrames_self ht]
    subst hg
    refine Or.inr ⟨q, ⟨(({ U with heap := s₂.heap, slotsUsed := s₂.slotsUsed } : State).setVm s₂.vm), Ls ++ L, c0 + mc, s0 + ms⟩,
      ⟨X.admits, X.cas, X.clock, X.frames, X.room, X.hears, X.method, X.code, (X.here.setHeapUsed s₂.heap s₂.slotsUsed).setVm hW'.alike, X.tail, State.WarmedH.trans X.warmed hW', X.limits, X.bytes, X.same.trans (hsame.setVm s.vm)⟩,
      ⟨g, mk, s₂, L, E, ce, rfl, rfl, hx, hce, hcv, hcl, rfl, hL, rfl, rfl⟩, ?_⟩
    show Steps p.tables e below _ (((({ U with heap := s₂.heap, slotsUsed := s₂.slotsUsed } : State).setVm s₂.vm).setTop g).pushFrame (.throwing q))
    rw [← hs₂]
    exact hsteps
end Payer
section Calls
variable {p : Program} {l : Launch} {e : Env} {R : Room} {s : State} {m : MethodId} {args : Array Value} {below : List Frame} {meth : Method} {c : Code} {T : State} {locs : List Loc} {cells slots : Nat}
theorem vx_callV (X : Stand p l e R s m args below meth c T locs cells slots) (hexec : p.tables.exec = Jvm.exec) {own C : String} {index : Nat} {y : MethodName} {bytes : ByteArray} {maxL : Nat} {ret : Option FieldType}
    (hown : s.vm.findClass own = some m.cls) (hlink : (Cond.methodLink own index y).before args s = true) (hinst : (Cond.instanceMethod y).before args s = true) (hsel : (Cond.selects C y y).before args s = true)
    (hcode : (Cond.code y bytes maxL ret).before args s = true) (hy : y.cls ≠ "java/lang/invoke/MethodHandle" ∧ y.cls ≠ "java/lang/invoke/VarHandle")
    {W9 : Nat} {Pre : Pt → Array Value → Prop} {Post : Pt → Array Value → Option Value → Pt → Prop} {PostX : Pt → Array Value → Addr → Pt → Prop} (hK : vx_Back l R p e below s args y 3 W9 Pre Post PostX)
    {b : Addr} {cellB : Cell} (hcell : T.heap[b]? = some cellB) (hobj : cellB.vm.isStatics = false) (hcls : s.vm.findClass C = some cellB.cls)
    {g : JFrame} (hg : g.method = m) (hsize : g.locals.size = c.maxLocals) {argsL rest : List Value} (hlen : ∀ sig, parseMethodDescriptor y.desc = some sig → argsL.length = sig.parameters.length)
    (hstack : g.stack = argsL.reverse ++ .ref b :: rest) (hW : 2 * g.monitorRoom + (rest.map fun v => v.category).sum ≤ W9) (hdg : decode c.code g.pc = .ok (.invokevirtual index, 3))
    (hpre : ∀ vm₁, s.WarmedH vm₁ → Pre ⟨T.setVm vm₁, locs, cells, slots⟩ (Value.ref b :: argsL).toArray) :
    (∃ (v : Option Value) (vm₁ : Vm) (B : Pt), s.WarmedH vm₁ ∧ Stand p l e R s m args below meth c B.U B.locs B.cells B.slots ∧ Post ⟨T.setVm vm₁, locs, cells, slots⟩ (Value.ref b :: argsL).toArray v B ∧
      ∀ target, Steps p.tables e below (B.U.setTop { g with pc := g.pc + 3, stack := v.toList ++ rest }) target → Steps p.tables e below (T.setTop g) target) ∨
    (∃ (q : Addr) (vm₁ : Vm) (B : Pt), s.WarmedH vm₁ ∧ Stand p l e R s m args below meth c B.U B.locs B.cells B.slots ∧ PostX ⟨T.setVm vm₁, locs, cells, slots⟩ (Value.ref b :: argsL).toArray q B ∧
      Steps p.tables e below (T.setTop g) ((B.U.setTop { g with stack := rest }).pushFrame (.throwing q))) := by
  obtain ⟨mk, methM, hnamed, hmethM, hstM, habM⟩ := Cond.instanceMethod_spec hinst
  obtain ⟨methM', cM, hmethM', -, -, -, -, -, -, hsigM⟩ := Cond.code_spec hnamed hcode
  cases hmethM.symm.trans hmethM'
  obtain ⟨c2, r2, m2, q1, q2, q3, q4, kP, hkP, hkPi⟩ := Cond.selects_spec hsel
  cases hcls.symm.trans q1
  cases (State.methodFound?_of_named hnamed hy).symm.trans q2
  cases hnamed.symm.trans q3
  have hselP : selectMethod e.platform s.vm cellB.cls mk = .method mk := by rw [Launch.admits_selectMethod X.admits]; exact q4
  obtain ⟨vm₁, X₁, hstep₁⟩ := X.invokevirtual hexec hown hlink hnamed hmethM hstM hkP hkPi hy (a := b) (cell := cellB) hcell
    (fun z h => by rw [h] at hobj; cases hobj) hselP hmethM habM hkP hkPi (g := g) hg (argsL := argsL) (rest := rest) (hlen _ hsigM) hstack hdg
  rcases hK m meth c ⟨T.setVm vm₁, locs, cells, slots⟩ { g with stack := rest } (.invokevirtual index) mk (Value.ref b :: argsL).toArray X₁ hg hsize hdg hW (X₁.named hnamed) (hpre vm₁ X₁.warmed) with ⟨v, B, X', hpost, hsteps⟩ | ⟨q, B, X', hpost, hsteps⟩
  · exact Or.inl ⟨v, vm₁, B, X₁.warmed, X', hpost, fun target h => hstep₁ _ fun acts => by rw [doInvoke_state]; exact hsteps.trans h⟩
  · exact Or.inr ⟨q, vm₁, B, X₁.warmed, X', hpost, hstep₁ _ fun acts => by rw [doInvoke_state]; exact hsteps⟩
theorem vx_callS (X : Stand p l e R s m args below meth c T locs cells slots) (hexec : p.tables.exec = Jvm.exec) {own : String} {index : Nat} {y : MethodName} {bytes : ByteArray} {maxL : Nat} {ret : Option FieldType}
    (hown : s.vm.findClass own = some m.cls) (hlink : (Cond.methodLink own index y).before args s = true) (hstat : (Cond.static y).before args s = true) (hinit : (Cond.initialized y.cls).before args s = true)
    (hcode : (Cond.code y bytes maxL ret).before args s = true) (hy : y.cls ≠ "java/lang/invoke/MethodHandle" ∧ y.cls ≠ "java/lang/invoke/VarHandle")
    {W9 : Nat} {Pre : Pt → Array Value → Prop} {Post : Pt → Array Value → Option Value → Pt → Prop} {PostX : Pt → Array Value → Addr → Pt → Prop} (hK : vx_Back l R p e below s args y 3 W9 Pre Post PostX)
    {g : JFrame} (hg : g.method = m) (hsize : g.locals.size = c.maxLocals) {argsL rest : List Value} (hlen : ∀ sig, parseMethodDescriptor y.desc = some sig → argsL.length = sig.parameters.length)
    (hstack : g.stack = argsL.reverse ++ rest) (hW : 2 * g.monitorRoom + (rest.map fun v => v.category).sum ≤ W9) (hdg : decode c.code g.pc = .ok (.invokestatic index, 3))
    (hpre : ∀ vm₁, s.WarmedH vm₁ → Pre ⟨T.setVm vm₁, locs, cells, slots⟩ argsL.toArray) :
    (∃ (v : Option Value) (vm₁ : Vm) (B : Pt), s.WarmedH vm₁ ∧ Stand p l e R s m args below meth c B.U B.locs B.cells B.slots ∧ Post ⟨T.setVm vm₁, locs, cells, slots⟩ argsL.toArray v B ∧
      ∀ target, Steps p.tables e below (B.U.setTop { g with pc := g.pc + 3, stack := v.toList ++ rest }) target → Steps p.tables e below (T.setTop g) target) ∨
    (∃ (q : Addr) (vm₁ : Vm) (B : Pt), s.WarmedH vm₁ ∧ Stand p l e R s m args below meth c B.U B.locs B.cells B.slots ∧ PostX ⟨T.setVm vm₁, locs, cells, slots⟩ argsL.toArray q B ∧
      Steps p.tables e below (T.setTop g) ((B.U.setTop { g with stack := rest }).pushFrame (.throwing q))) := by
  obtain ⟨mk, hnamed⟩ := Cond.code_named hcode
  obtain ⟨methM, cM, hmethM, -, -, -, -, -, -, hsigM⟩ := Cond.code_spec hnamed hcode
  have hstatic : methM.isStatic = true := Cond.static_spec hnamed hmethM hstat
  obtain ⟨kP, hkP, -⟩ := className_of_methodNamed hnamed
  have hinitP : kP.init = .initialized := Cond.initialized_spec (findClass_of_methodNamed hnamed) hkP hinit
  obtain ⟨vm₁, X₁, hstep₁⟩ := X.invokestatic hexec hown hlink hnamed hmethM hstatic hkP hinitP hy (g := g) hg (argsL := argsL) (rest := rest) (hlen _ hsigM) hstack hdg
  rcases hK m meth c ⟨T.setVm vm₁, locs, cells, slots⟩ { g with stack := rest } (.invokestatic index) mk argsL.toArray X₁ hg hsize hdg hW (X₁.named hnamed) (hpre vm₁ X₁.warmed) with ⟨v, B, X', hpost, hsteps⟩ | ⟨q, B, X', hpost, hsteps⟩
  · exact Or.inl ⟨v, vm₁, B, X₁.warmed, X', hpost, fun target h => hstep₁ _ fun acts => by rw [doInvoke_state]; exact hsteps.trans h⟩
  · exact Or.inr ⟨q, vm₁, B, X₁.warmed, X', hpost, hstep₁ _ fun acts => by rw [doInvoke_state]; exact hsteps⟩
end Calls
theorem vx_cls {s : State} {T : State} {vm₁ : Vm} {E : String} {k : ClassId} (hW : s.WarmedH vm₁) (h : (T.setVm vm₁).vm.findClass E = some k) : s.vm.findClass E = some k := by
  have h1 : vm₁.findClass E = some k := h
  rw [hW.alike.findClass] at h1
  exact h1
/-- the method's frame g, with q thrown over it -/
def vx_W (p : Program) (l : Launch) (e : Env) (R : Room) (s : State) (m : MethodId) (args : Array Value) (below : List Frame) (meth : Method) (c : Code) (H : Heap) (locs : List Loc) (cells slots : Nat) (Q : State → Prop) (g : JFrame) (q : Addr) : Prop :=
  ∀ T : State, T.heap = H → Stand p l e R s m args below meth c T locs cells slots → ∃ t, Steps p.tables e below ((T.setTop g).pushFrame (.throwing q)) t ∧ Q t
def vx_Run (p : Program) (l : Launch) (e : Env) (R : Room) (s : State) (m : MethodId) (args : Array Value) (below : List Frame) (meth : Method) (c : Code) (H : Heap) (locs : List Loc) (cells slots mc ms : Nat) (g : JFrame) (rest : List Value) (Qa : State → Outcome → State → Prop) (XC : String → State → State → Prop) (free : Addr → Prop) : Prop :=
  ∀ T : State, T.heap = H → Stand p l e R s m args below meth c T locs cells slots →
    (∃ (v : Option Value) (st₀ t T' : State) (L : List Loc), st₀.heap = H ∧ Stand p l e R s m args below meth c T' (locs ++ L) (cells + mc) (slots + ms) ∧ (∀ q ∈ L, free q.base) ∧ T'.heap = t.heap ∧ T'.vm = t.vm ∧ Qa st₀ (.returned v) t ∧
      Goes p e below T g T' { g with pc := g.pc + 3, stack := v.toList ++ rest }) ∨
    (∃ (q : Addr) (st₀ t T' : State) (L : List Loc) (E : String) (ce : Cell), st₀.heap = H ∧ Stand p l e R s m args below meth c T' (locs ++ L) (cells + mc) (slots + ms) ∧ (∀ z ∈ L, free z.base) ∧ T'.heap = t.heap ∧ T'.vm = t.vm ∧ XC E st₀ t ∧ t.heap[q]? = some ce ∧ ce.vm = .none ∧ s.vm.findClass E = some ce.cls ∧
      Steps p.tables e below (T.setTop g) ((T'.setTop { g with stack := rest }).pushFrame (.throwing q)))
def vx_X {S : Type} (px : S → Prop) (B : String → S → State → Prop) (A : Nat → Prop) : String → State → State → Prop := fun E st t => ∃ u : S, px u ∧ B E u t ∧ va_F A st t
section Runs
variable {p : Program} {l : Launch} {e : Env} {R : Room} {s : State} {m : MethodId} {args : Array Value} {below : List Frame} {meth : Method} {c : Code} {H : Heap} {locs : List Loc} {cells slots : Nat}
variable {y : MethodName} {bytes cc : ByteArray} {maxL nL mc ms n index : Nat} {ret : Option FieldType} {ws : List Cond} {rm : Room} {Pc : Array Value → State → Prop} {Qc : Array Value → State → Outcome → State → Prop} {XC : String → State → State → Prop} {free : Addr → Prop} {Ts : List Cond} {own C : String} {b : Addr} {As rest : List Value} {g : JFrame}
theorem vx_callBack (cb : CallB R s args own index y bytes maxL ret ws rm mc ms n) (hM : vx_Met l y ws rm Pc Qc XC mc ms free) (hbl : FrameBlind Pc) : vx_Back l R p e below s args y 3 8 (PreOf R mc ms Pc) (PostOf Qc mc ms free) (vx_Post XC mc ms free) := by
  obtain ⟨hrc, hrs, hfr, hlo, hws, hcw, -, hini, -⟩ := cb
  exact vx_back (bytes := bytes) (maxL := maxL) (ret := ret) hM hbl hrc hrs hfr hlo hws hcw (fun a' U hW => word_at hW (Or.inl (by first | rfl | simp [Cond.onTables, Cond.keeps, Cond.steady])) hini)
theorem vx_runV (S : CallFix p m c cc nL s args Ts own) (hM : vx_Met l y ws rm Pc Qc XC mc ms free) (cw : CallW R s args own C index y bytes maxL ret ws rm mc ms n) (hp : PreV s H C b Pc As)
    (hg : g.method = m) (hn : As.length = n) (hsize : g.locals.size = nL) (hstack : g.stack = As.reverse ++ .ref b :: rest) (hW : 2 * g.monitorRoom + (rest.map fun v => v.category).sum ≤ 8) (hdg : decode cc g.pc = .ok (.invokevirtual index, 3)) (hf : cells + mc ≤ R.cells ∧ slots + ms ≤ R.slots) :
    vx_Run p l e R s m args below meth c H locs cells slots mc ms g rest (Qc (Value.ref b :: As).toArray) XC free := by
  have hK : vx_Back l R p e below s args y 3 8 (PreOf R mc ms Pc) (PostOf Qc mc ms free) (vx_Post XC mc ms free) := vx_callBack cw.1 hM hp.1
  obtain ⟨⟨-, -, -, -, -, -, hcode, -, hy, hlen, hl⟩, hin, hse⟩ := cw
  obtain ⟨hx, hb, hml, ho, -⟩ := S
  obtain ⟨-, ⟨cellB, hcB, hoB, hclB⟩, hPc⟩ := hp
  intro T hT X
  rcases vx_callV X hx (C := C) (bytes := bytes) (maxL := maxL) (ret := ret) ho hl hin hse hcode hy hK (by rw [hT]; exact hcB) hoB hclB hg (hsize.trans hml.symm) (argsL := As) (rest := rest) (fun sig h => hn.trans (hlen sig h)) hstack hW (by rw [hb]; exact hdg)
    (fun vm₁ hW₁ => ⟨hf.1, hf.2, hPc (T.setVm vm₁) hT hW₁⟩) with ⟨v, vm₁, ⟨U', l2, c2, s2⟩, hW₁, X', ⟨g', mk, t, L, e1, e2, hq, h1, hL, h2, h3⟩, st⟩ | ⟨q, vm₁, ⟨U', l2, c2, s2⟩, hW₁, X', ⟨g', mk, t, L, E, ce, e1, e2, hq, hce, hcv, hcl, h1, hL, h2, h3⟩, st⟩
  · dsimp only [Pt.U, Pt.locs, Pt.cells, Pt.slots] at X' e1 e2 h1 h2 h3 st
    subst h1; subst h2; subst h3
    exact Or.inl ⟨v, (T.setVm vm₁).calling g' mk (Value.ref b :: As).toArray, t, U', L, hT, X', hL, e1, e2, hq, st⟩
  · dsimp only [Pt.U, Pt.locs, Pt.cells, Pt.slots] at X' e1 e2 h1 h2 h3 st hcl
    subst h1; subst h2; subst h3
    exact Or.inr ⟨q, (T.setVm vm₁).calling g' mk (Value.ref b :: As).toArray, t, U', L, E, ce, hT, X', hL, e1, e2, hq, hce, hcv, vx_cls hW₁ hcl, st⟩
theorem vx_runS (S : CallFix p m c cc nL s args Ts own) (hM : vx_Met l y ws rm Pc Qc XC mc ms free) (cw : CallB R s args own index y bytes maxL ret ws rm mc ms n ∧ (Cond.static y).before args s = true) (hp : PreS s H Pc As)
    (hg : g.method = m) (hn : As.length = n) (hsize : g.locals.size = nL) (hstack : g.stack = As.reverse ++ rest) (hW : 2 * g.monitorRoom + (rest.map fun v => v.category).sum ≤ 8) (hdg : decode cc g.pc = .ok (.invokestatic index, 3)) (hf : cells + mc ≤ R.cells ∧ slots + ms ≤ R.slots) :
    vx_Run p l e R s m args below meth c H locs cells slots mc ms g rest (Qc As.toArray) XC free := by
  have hK : vx_Back l R p e below s args y 3 8 (PreOf R mc ms Pc) (PostOf Qc mc ms free) (vx_Post XC mc ms free) := vx_callBack cw.1 hM hp.1
  obtain ⟨⟨-, -, -, -, -, -, hcode, hini, hy, hlen, hl⟩, hstt⟩ := cw
  obtain ⟨hx, hb, hml, ho, -⟩ := S
  intro T hT X
  rcases vx_callS X hx (bytes := bytes) (maxL := maxL) (ret := ret) ho hl hstt hini hcode hy hK hg (hsize.trans hml.symm) (argsL := As) (rest := rest) (fun sig h => hn.trans (hlen sig h)) hstack hW (by rw [hb]; exact hdg)
    (fun vm₁ hW₁ => ⟨hf.1, hf.2, hp.2 (T.setVm vm₁) hT hW₁⟩) with ⟨v, vm₁, ⟨U', l2, c2, s2⟩, hW₁, X', ⟨g', mk, t, L, e1, e2, hq, h1, hL, h2, h3⟩, st⟩ | ⟨q, vm₁, ⟨U', l2, c2, s2⟩, hW₁, X', ⟨g', mk, t, L, E, ce, e1, e2, hq, hce, hcv, hcl, h1, hL, h2, h3⟩, st⟩
  · dsimp only [Pt.U, Pt.locs, Pt.cells, Pt.slots] at X' e1 e2 h1 h2 h3 st
    subst h1; subst h2; subst h3
    exact Or.inl ⟨v, (T.setVm vm₁).calling g' mk As.toArray, t, U', L, hT, X', hL, e1, e2, hq, st⟩
  · dsimp only [Pt.U, Pt.locs, Pt.cells, Pt.slots] at X' e1 e2 h1 h2 h3 st hcl
    subst h1; subst h2; subst h3
    exact Or.inr ⟨q, (T.setVm vm₁).calling g' mk As.toArray, t, U', L, E, ce, hT, X', hL, e1, e2, hq, hce, hcv, vx_cls hW₁ hcl, st⟩
end Runs
section Rows
variable {p : Program} {l : Launch} {e : Env} {R : Room} {s : State} {m : MethodId} {args : Array Value} {below : List Frame} {meth : Method} {c : Code} {H : Heap} {locs : List Loc} {cells slots : Nat} {Q : State → Prop}
variable {mc ms : Nat} {free : Addr → Prop} {A0 A1 : Nat → Prop} {H0 : Heap} {a : Array Value} {pc : Nat} {ls : Array Slot} {st0 rest : List Value}
theorem vx_keep {st₀ t T' : State} {L : List Loc} (h0 : st₀.heap = H) (e1 : T'.heap = t.heap) (hS : va_S A0 H0 H locs) (hA : ∀ q, q < H.size → A1 q → A0 q) (hf : ∀ q, free q → A0 q) (hL : ∀ q ∈ L, free q.base) (hF : va_F A1 st₀ t) :
    H.size ≤ T'.heap.size ∧ (∀ q : Nat, q < H.size → ¬ A1 q → T'.heap[q]? = H[q]?) ∧ va_S A0 H0 T'.heap (locs ++ L) := by
  obtain ⟨hz, hk⟩ := hF
  rw [h0] at hz hk
  exact ⟨by rw [e1]; exact hz, fun q h1 h2 => by rw [e1]; exact hk q h1 h2,
    ⟨Nat.le_trans hS.1 (by rw [e1]; exact hz), fun q h1 h2 => by rw [e1, hk q (Nat.lt_of_lt_of_le h1 hS.1) (fun z => h2 (hA q (Nat.lt_of_lt_of_le h1 hS.1) z))]; exact hS.2.1 q h1 h2, fun q hq => by
      rcases List.mem_append.mp hq with h | h
      · exact hS.2.2 q h
      · exact hf _ (hL q h)⟩⟩
theorem vx_calli {S SX : Type} {post : Int32 → S → Prop} {px : SX → Prop} {B : S → State → Prop} {BX : String → SX → State → Prop} {AX : Nat → Prop} (hr : vx_Run p l e R s m args below meth c H locs cells slots mc ms (F0 m pc ls st0) rest (va_Qi post B A1 a) (vx_X px BX AX) free) (hS : va_S A0 H0 H locs) (hA : ∀ q, q < H.size → A1 q → A0 q) (hf : ∀ q, free q → A0 q) (hAX : ∀ q, q < H.size → AX q → A0 q)
    (kx : ∀ (E : String) (ce : Cell) (q9 : Addr) (u : SX) (t : State) (H1 : Heap) (locs1 : List Loc), t.heap = H1 → s.vm.Alike t.vm → px u → BX E u t → H.size ≤ H1.size → (∀ q : Nat, q < H.size → ¬ AX q → H1[q]? = H[q]?) → va_S A0 H0 H1 locs1 → H1[q9]? = some ce → ce.vm = .none → s.vm.findClass E = some ce.cls → vx_W p l e R s m args below meth c H1 locs1 (cells + mc) (slots + ms) Q (F0 m pc ls rest) q9)
    (kk : ∀ (r : Int32) (u : S) (t : State) (H1 : Heap) (locs1 : List Loc), t.heap = H1 → s.vm.Alike t.vm → post r u → B u t → H.size ≤ H1.size → (∀ q : Nat, q < H.size → ¬ A1 q → H1[q]? = H[q]?) → va_S A0 H0 H1 locs1 → W p l e R s m args below meth c H1 locs1 (cells + mc) (slots + ms) Q (F0 m (pc + 3) ls (.int r :: rest))) : W p l e R s m args below meth c H locs cells slots Q (F0 m pc ls st0) := by
  intro T hT X
  rcases hr T hT X with ⟨v, st₀, t, T', L, h0, X', hL, e1, e2, ⟨⟨r, u, hv, hp, hb⟩, hF⟩, st⟩ | ⟨q, st₀, t, T', L, E, ce, h0, X', hL, e1, e2, ⟨u, hp, hb, hF⟩, hce, hcv, hcl, st⟩
  · cases hv
    obtain ⟨k1, k2, k3⟩ := vx_keep h0 e1 hS hA hf hL hF
    obtain ⟨t2, a1, b1⟩ := kk r u t T'.heap (locs ++ L) e1.symm (by rw [← e2]; exact X'.warmed.alike) hp hb k1 k2 k3 T' rfl X'
    exact ⟨t2, st t2 a1, b1⟩
  · obtain ⟨k1, k2, k3⟩ := vx_keep h0 e1 hS hAX hf hL hF
    obtain ⟨t2, a1, b1⟩ := kx E ce q u t T'.heap (locs ++ L) e1.symm (by rw [← e2]; exact X'.warmed.alike) hp hb k1 k2 k3 (by rw [e1]; exact hce) hcv hcl T' rfl X'
    exact ⟨t2, st.trans a1, b1⟩
theorem vx_calll {S SX : Type} {post : Int64 → S → Prop} {px : SX → Prop} {B : S → State → Prop} {BX : String → SX → State → Prop} {AX : Nat → Prop} (hr : vx_Run p l e R s m args below meth c H locs cells slots mc ms (F0 m pc ls st0) rest (va_Ql post B A1 a) (vx_X px BX AX) free) (hS : va_S A0 H0 H locs) (hA : ∀ q, q < H.size → A1 q → A0 q) (hf : ∀ q, free q → A0 q) (hAX : ∀ q, q < H.size → AX q → A0 q)
    (kx : ∀ (E : String) (ce : Cell) (q9 : Addr) (u : SX) (t : State) (H1 : Heap) (locs1 : List Loc), t.heap = H1 → s.vm.Alike t.vm → px u → BX E u t → H.size ≤ H1.size → (∀ q : Nat, q < H.size → ¬ AX q → H1[q]? = H[q]?) → va_S A0 H0 H1 locs1 → H1[q9]? = some ce → ce.vm = .none → s.vm.findClass E = some ce.cls → vx_W p l e R s m args below meth c H1 locs1 (cells + mc) (slots + ms) Q (F0 m pc ls rest) q9)
    (kk : ∀ (r : Int64) (u : S) (t : State) (H1 : Heap) (locs1 : List Loc), t.heap = H1 → s.vm.Alike t.vm → post r u → B u t → H.size ≤ H1.size → (∀ q : Nat, q < H.size → ¬ A1 q → H1[q]? = H[q]?) → va_S A0 H0 H1 locs1 → W p l e R s m args below meth c H1 locs1 (cells + mc) (slots + ms) Q (F0 m (pc + 3) ls (.long r :: rest))) : W p l e R s m args below meth c H locs cells slots Q (F0 m pc ls st0) := by
  intro T hT X
  rcases hr T hT X with ⟨v, st₀, t, T', L, h0, X', hL, e1, e2, ⟨⟨r, u, hv, hp, hb⟩, hF⟩, st⟩ | ⟨q, st₀, t, T', L, E, ce, h0, X', hL, e1, e2, ⟨u, hp, hb, hF⟩, hce, hcv, hcl, st⟩
  · cases hv
    obtain ⟨k1, k2, k3⟩ := vx_keep h0 e1 hS hA hf hL hF
    obtain ⟨t2, a1, b1⟩ := kk r u t T'.heap (locs ++ L) e1.symm (by rw [← e2]; exact X'.warmed.alike) hp hb k1 k2 k3 T' rfl X'
    exact ⟨t2, st t2 a1, b1⟩
  · obtain ⟨k1, k2, k3⟩ := vx_keep h0 e1 hS hAX hf hL hF
    obtain ⟨t2, a1, b1⟩ := kx E ce q u t T'.heap (locs ++ L) e1.symm (by rw [← e2]; exact X'.warmed.alike) hp hb k1 k2 k3 (by rw [e1]; exact hce) hcv hcl T' rfl X'
    exact ⟨t2, st.trans a1, b1⟩
theorem vx_callf {S SX : Type} {post : UInt32 → S → Prop} {px : SX → Prop} {B : S → State → Prop} {BX : String → SX → State → Prop} {AX : Nat → Prop} (hr : vx_Run p l e R s m args below meth c H locs cells slots mc ms (F0 m pc ls st0) rest (va_Qf post B A1 a) (vx_X px BX AX) free) (hS : va_S A0 H0 H locs) (hA : ∀ q, q < H.size → A1 q → A0 q) (hf : ∀ q, free q → A0 q) (hAX : ∀ q, q < H.size → AX q → A0 q)
    (kx : ∀ (E : String) (ce : Cell) (q9 : Addr) (u : SX) (t : State) (H1 : Heap) (locs1 : List Loc), t.heap = H1 → s.vm.Alike t.vm → px u → BX E u t → H.size ≤ H1.size → (∀ q : Nat, q < H.size → ¬ AX q → H1[q]? = H[q]?) → va_S A0 H0 H1 locs1 → H1[q9]? = some ce → ce.vm = .none → s.vm.findClass E = some ce.cls → vx_W p l e R s m args below meth c H1 locs1 (cells + mc) (slots + ms) Q (F0 m pc ls rest) q9)
    (kk : ∀ (r : UInt32) (u : S) (t : State) (H1 : Heap) (locs1 : List Loc), t.heap = H1 → s.vm.Alike t.vm → post r u → B u t → H.size ≤ H1.size → (∀ q : Nat, q < H.size → ¬ A1 q → H1[q]? = H[q]?) → va_S A0 H0 H1 locs1 → W p l e R s m args below meth c H1 locs1 (cells + mc) (slots + ms) Q (F0 m (pc + 3) ls (.float r :: rest))) : W p l e R s m args below meth c H locs cells slots Q (F0 m pc ls st0) := by
  intro T hT X
  rcases hr T hT X with ⟨v, st₀, t, T', L, h0, X', hL, e1, e2, ⟨⟨r, u, hv, hp, hb⟩, hF⟩, st⟩ | ⟨q, st₀, t, T', L, E, ce, h0, X', hL, e1, e2, ⟨u, hp, hb, hF⟩, hce, hcv, hcl, st⟩
  · cases hv
    obtain ⟨k1, k2, k3⟩ := vx_keep h0 e1 hS hA hf hL hF
    obtain ⟨t2, a1, b1⟩ := kk r u t T'.heap (locs ++ L) e1.symm (by rw [← e2]; exact X'.warmed.alike) hp hb k1 k2 k3 T' rfl X'
    exact ⟨t2, st t2 a1, b1⟩
  · obtain ⟨k1, k2, k3⟩ := vx_keep h0 e1 hS hAX hf hL hF
    obtain ⟨t2, a1, b1⟩ := kx E ce q u t T'.heap (locs ++ L) e1.symm (by rw [← e2]; exact X'.warmed.alike) hp hb k1 k2 k3 (by rw [e1]; exact hce) hcv hcl T' rfl X'
    exact ⟨t2, st.trans a1, b1⟩
theorem vx_calld {S SX : Type} {post : UInt64 → S → Prop} {px : SX → Prop} {B : S → State → Prop} {BX : String → SX → State → Prop} {AX : Nat → Prop} (hr : vx_Run p l e R s m args below meth c H locs cells slots mc ms (F0 m pc ls st0) rest (va_Qd post B A1 a) (vx_X px BX AX) free) (hS : va_S A0 H0 H locs) (hA : ∀ q, q < H.size → A1 q → A0 q) (hf : ∀ q, free q → A0 q) (hAX : ∀ q, q < H.size → AX q → A0 q)
    (kx : ∀ (E : String) (ce : Cell) (q9 : Addr) (u : SX) (t : State) (H1 : Heap) (locs1 : List Loc), t.heap = H1 → s.vm.Alike t.vm → px u → BX E u t → H.size ≤ H1.size → (∀ q : Nat, q < H.size → ¬ AX q → H1[q]? = H[q]?) → va_S A0 H0 H1 locs1 → H1[q9]? = some ce → ce.vm = .none → s.vm.findClass E = some ce.cls → vx_W p l e R s m args below meth c H1 locs1 (cells + mc) (slots + ms) Q (F0 m pc ls rest) q9)
    (kk : ∀ (r : UInt64) (u : S) (t : State) (H1 : Heap) (locs1 : List Loc), t.heap = H1 → s.vm.Alike t.vm → post r u → B u t → H.size ≤ H1.size → (∀ q : Nat, q < H.size → ¬ A1 q → H1[q]? = H[q]?) → va_S A0 H0 H1 locs1 → W p l e R s m args below meth c H1 locs1 (cells + mc) (slots + ms) Q (F0 m (pc + 3) ls (.double r :: rest))) : W p l e R s m args below meth c H locs cells slots Q (F0 m pc ls st0) := by
  intro T hT X
  rcases hr T hT X with ⟨v, st₀, t, T', L, h0, X', hL, e1, e2, ⟨⟨r, u, hv, hp, hb⟩, hF⟩, st⟩ | ⟨q, st₀, t, T', L, E, ce, h0, X', hL, e1, e2, ⟨u, hp, hb, hF⟩, hce, hcv, hcl, st⟩
  · cases hv
    obtain ⟨k1, k2, k3⟩ := vx_keep h0 e1 hS hA hf hL hF
    obtain ⟨t2, a1, b1⟩ := kk r u t T'.heap (locs ++ L) e1.symm (by rw [← e2]; exact X'.warmed.alike) hp hb k1 k2 k3 T' rfl X'
    exact ⟨t2, st t2 a1, b1⟩
  · obtain ⟨k1, k2, k3⟩ := vx_keep h0 e1 hS hAX hf hL hF
    obtain ⟨t2, a1, b1⟩ := kx E ce q u t T'.heap (locs ++ L) e1.symm (by rw [← e2]; exact X'.warmed.alike) hp hb k1 k2 k3 (by rw [e1]; exact hce) hcv hcl T' rfl X'
    exact ⟨t2, st.trans a1, b1⟩
theorem vx_callv {S SX : Type} {post : S → Prop} {px : SX → Prop} {B : S → State → Prop} {BX : String → SX → State → Prop} {AX : Nat → Prop} (hr : vx_Run p l e R s m args below meth c H locs cells slots mc ms (F0 m pc ls st0) rest (va_Qv post B A1 a) (vx_X px BX AX) free) (hS : va_S A0 H0 H locs) (hA : ∀ q, q < H.size → A1 q → A0 q) (hf : ∀ q, free q → A0 q) (hAX : ∀ q, q < H.size → AX q → A0 q)
    (kx : ∀ (E : String) (ce : Cell) (q9 : Addr) (u : SX) (t : State) (H1 : Heap) (locs1 : List Loc), t.heap = H1 → s.vm.Alike t.vm → px u → BX E u t → H.size ≤ H1.size → (∀ q : Nat, q < H.size → ¬ AX q → H1[q]? = H[q]?) → va_S A0 H0 H1 locs1 → H1[q9]? = some ce → ce.vm = .none → s.vm.findClass E = some ce.cls → vx_W p l e R s m args below meth c H1 locs1 (cells + mc) (slots + ms) Q (F0 m pc ls rest) q9)
    (kk : ∀ (u : S) (t : State) (H1 : Heap) (locs1 : List Loc), t.heap = H1 → s.vm.Alike t.vm → post u → B u t → H.size ≤ H1.size → (∀ q : Nat, q < H.size → ¬ A1 q → H1[q]? = H[q]?) → va_S A0 H0 H1 locs1 → W p l e R s m args below meth c H1 locs1 (cells + mc) (slots + ms) Q (F0 m (pc + 3) ls (rest))) : W p l e R s m args below meth c H locs cells slots Q (F0 m pc ls st0) := by
  intro T hT X
  rcases hr T hT X with ⟨v, st₀, t, T', L, h0, X', hL, e1, e2, ⟨⟨u, hv, hp, hb⟩, hF⟩, st⟩ | ⟨q, st₀, t, T', L, E, ce, h0, X', hL, e1, e2, ⟨u, hp, hb, hF⟩, hce, hcv, hcl, st⟩
  · cases hv
    obtain ⟨k1, k2, k3⟩ := vx_keep h0 e1 hS hA hf hL hF
    obtain ⟨t2, a1, b1⟩ := kk u t T'.heap (locs ++ L) e1.symm (by rw [← e2]; exact X'.warmed.alike) hp hb k1 k2 k3 T' rfl X'
    exact ⟨t2, st t2 a1, b1⟩
  · obtain ⟨k1, k2, k3⟩ := vx_keep h0 e1 hS hAX hf hL hF
    obtain ⟨t2, a1, b1⟩ := kx E ce q u t T'.heap (locs ++ L) e1.symm (by rw [← e2]; exact X'.warmed.alike) hp hb k1 k2 k3 (by rw [e1]; exact hce) hcv hcl T' rfl X'
    exact ⟨t2, st.trans a1, b1⟩
/-- caught by the row x of this method's table; the rows ahead don't take it -/
theorem vx_catch {own name : String} {E : String} {ce : Cell} {q : Addr} (hown : s.vm.findClass own = some m.cls) (pre : List ExceptionTableEntry) (x : ExceptionTableEntry) (suf : List ExceptionTableEntry) (hsplit : c.exceptionTable.toList = pre ++ x :: suf)
    (hpass : ∀ z ∈ pre, covers z pc = false ∨ (z.catchType ≠ 0 ∧ ∃ nm : String, (Cond.classLink own z.catchType nm).before args s = true ∧ va_Nc E nm s)) (hx : covers x pc = true) (h0 : x.catchType ≠ 0)
    (hlink : (Cond.classLink own x.catchType name).before args s = true) (hcast : (Cond.castable E name).before args s = true) (hcell : H[q]? = some ce) (hv : ce.vm = .none) (hcl : s.vm.findClass E = some ce.cls)
    (kk : W p l e R s m args below meth c H locs cells slots Q (F0 m x.handlerPc ls [.ref q])) : vx_W p l e R s m args below meth c H locs cells slots Q (F0 m pc ls rest) q := by
  intro T hT X
  have hpl : e.platform.magicAccessors = ({} : Platform).magicAccessors := by rw [X.admits.platform]
  obtain ⟨c3, c4, hc3, hc4, hasg⟩ := Cond.castable_spec hcast
  cases Option.some.inj (hc3.symm.trans hcl)
  obtain ⟨c5, hc5, hcl5⟩ := Cond.classLink_spec hown hlink e.platform hpl
  cases Option.some.inj (hc4.symm.trans hc5)
  obtain ⟨vm', X', st⟩ := X.thenCaughtThrough q (g := F0 m pc ls rest) rfl (Steps.refl _) (by rw [hT]; exact hcell) (by rw [hv]; rfl) (by obtain ⟨k9, h9, -⟩ := Vm.findClass_spec hcl; exact ⟨k9, h9⟩) pre x suf hsplit
    (fun z hz => by
      rcases hpass z hz with h | ⟨hz0, nm, hl1, hn1⟩
      · exact Or.inl h
      · obtain ⟨c6, hc6, hcl6⟩ := Cond.classLink_spec hown hl1 e.platform hpl
        obtain ⟨a8, b8, h1, h2, h3⟩ := hn1
        cases Option.some.inj (h1.symm.trans hcl)
        cases Option.some.inj (h2.symm.trans hc6)
        exact Or.inr ⟨hz0, _, hcl6, h3⟩) hx (Or.inr ⟨h0, c4, hcl5, hasg⟩)
  obtain ⟨t, a1, b1⟩ := kk (T.setVm vm') hT X'
  exact ⟨t, st.trans a1, b1⟩
end Rows
section Ends
variable {p : Program} {l : Launch} {e : Env} {R : Room} {s : State} {m : MethodId} {args : Array Value} {below : List Frame} {meth : Method} {c : Code} {H : Heap} {locs : List Loc} {cells slots : Nat} {Q : State → Prop}
variable {mc ms : Nat} {free : Addr → Prop} {A0 A1 : Nat → Prop} {H0 : Heap} {a : Array Value} {ls : Array Slot} {st0 rest : List Value}
variable {Qc : Array Value → State → Outcome → State → Prop} {XC : String → State → State → Prop}
/-- what a body that may throw owes at its end -/
def vx_MQ (below : List Frame) (Qc : Array Value → State → Outcome → State → Prop) (XC : String → State → State → Prop) (a : Array Value) (s : State) (mc ms : Nat) (free : Addr → Prop) : State → Prop := fun t =>
  ∃ o, t.status = .running ∧ Ended t below o ∧ vx_Q Qc XC mc ms free a s o t
theorem vx_ret {g : JFrame} {mc ms : Nat} (k : W p l e R s m args below meth c H locs cells slots (MQ below Qc args s mc ms free) g) : W p l e R s m args below meth c H locs cells slots (vx_MQ below Qc XC args s mc ms free) g := by
  intro T hT X
  obtain ⟨t, a1, o, b1, b2, b3, b4⟩ := k T hT X
  exact ⟨t, a1, o, b1, b2, Or.inl ⟨b3, b4⟩⟩
/-- not caught here: it goes on to the caller -/
theorem vx_widen {g : JFrame} {q : Addr} {k n : Nat} (h1 : cells ≤ k) (h2 : slots ≤ n) (kk : vx_W p l e R s m args below meth c H locs k n Q g q) : vx_W p l e R s m args below meth c H locs cells slots Q g q := fun T hT X => kk T hT (stand_widen X h1 h2)
theorem vx_out {pc : Nat} {E : String} {ce : Cell} {q : Addr} {mc ms : Nat} (hout : ∀ x ∈ c.exceptionTable.toList, covers x pc = false) (hlocks : meth.locks = false) (hcell : H[q]? = some ce) (hv : ce.vm = .none) (hcl : s.vm.findClass E = some ce.cls)
    (hx : ∀ t : State, t.heap = H → s.vm.Alike t.vm → XC E s t) (hf : ∀ z ∈ locs, free z.base) (hc : cells ≤ mc) (hs : slots ≤ ms) :
    vx_W p l e R s m args below meth c H locs cells slots (vx_MQ below Qc XC args s mc ms free) (F0 m pc ls rest) q := by
  intro T hT X
  obtain ⟨st1, hrun, hend, hW, hsm⟩ := X.leaveThrown q (g := F0 m pc ls rest) rfl rfl rfl hout hlocks
  have hcell9 : (T.setFrames (.throwing q :: below)).heap[q]? = some ce := by
    show T.heap[q]? = some ce
    rw [hT]; exact hcell
  exact ⟨_, st1, .threw q, hrun, hend, Or.inr ⟨q, rfl, E, ce, locs, hx _ hT hW.alike, hcell9, hv, hcl, hW, hsm.mono hc hs, hf⟩⟩
theorem vx_frame {U : State} {k n : Nat} (h : s.sameButNew ({ U with vm := s.vm } : State) locs k n) : s.heap.size ≤ U.heap.size ∧ ∀ q : Nat, q < s.heap.size → (∀ z ∈ locs, z.base ≠ q) → U.heap[q]? = s.heap[q]? := by
  obtain ⟨-, h2, -, -, -, h6⟩ := h
  refine ⟨h2, fun q hq hz => ?_⟩
  obtain ⟨c9, e1, e2, e3, e4⟩ := h6 q _ (Array.getElem?_eq_getElem hq)
  have hs : c9.slots = (s.heap[q]).slots := Array.ext_getElem? fun i => e4 i fun hm => hz _ hm rfl
  have h9 : c9 = s.heap[q] := by
    rw [hs] at e2
    exact e2
  have e5 : U.heap[q]? = some c9 := e1
  rw [e5, h9, Array.getElem?_eq_getElem hq]
/-- the words of a throw but the four that speak of the heap -/
def vx_no (w : Cond) : Bool := decide (w ≠ .isRef (.static Bundle.tN "UNASSIGNED_STACK" Bundle.steD)) && decide (w ≠ .isRef (.static Bundle.tN "SUPPRESSED_SENTINEL" Bundle.listD)) && decide (w ≠ .laysStatic Bundle.tN "UNASSIGNED_STACK" Bundle.steD) && decide (w ≠ .laysStatic Bundle.tN "SUPPRESSED_SENTINEL" Bundle.listD)
def vx_at0 (own : String) (ic : Nat) (X : String) (names : List String) : List Cond := (Bundle.ownAtoms0 own ic X names).filter vx_no
def vx_atS (own : String) (ic : Nat) (X : String) (names : List String) : List Cond := (Bundle.ownAtoms own ic X names).filter vx_no
/-- a word that the tables alone decide, or a good one -/
def vx_ot (w : Cond) : Bool := w.onTables || goodWord w
theorem vx_ot_at {args a' : Array Value} {s U : State} {w : Cond} (hW : s.WarmedH U.vm) (hvm : s.vm = U.vm) (hg : vx_ot w = true) (h : w.before args s = true) : w.before a' U = true := by
  simp only [vx_ot, Bool.or_eq_true] at hg
  rcases hg with hg | hg
  · exact va_tabs hg hvm h
  · exact word_at hW (good_of_word hg) h
/-- a list's words: the good ones out of the method's own list, the others by premises of their own -/
theorem vx_hat {args : Array Value} {s : State} {L B : List Cond} (h1 : ∀ w ∈ L.filter goodWord, w.before args s = true) (h2 : ∀ w ∈ L.filter (fun w => !goodWord w), w ∈ B) (h3 : ∀ w ∈ B, w.before args s = true) : ∀ w ∈ L, w.before args s = true := by
  intro w hw
  by_cases g : goodWord w = true
  · exact h1 w (List.mem_filter.mpr ⟨hw, g⟩)
  · refine h3 w (h2 w (List.mem_filter.mpr ⟨hw, ?_⟩))
    show (!goodWord w) = true
    cases hgw : goodWord w
    · rfl
    · exact absurd hgw g
theorem vx_c {args : Array Value} {s : State} {w : Cond} {B : List Cond} (h : w.before args s = true) (t : ∀ w ∈ B, w.before args s = true) : ∀ w' ∈ w :: B, w'.before args s = true := fun w' h' => (List.mem_cons.mp h').elim (fun e => by rw [e]; exact h) (t w')
theorem vx_n {args : Array Value} {s : State} : ∀ w ∈ ([] : List Cond), w.before args s = true := fun _ h => nomatch h
theorem vx_own {args : Array Value} {s : State} {L : List Cond} (h1 : ∀ w ∈ L.filter vx_no, w.before args s = true)
    (hU : (Cond.isRef (.static Bundle.tN "UNASSIGNED_STACK" Bundle.steD)).before args s = true) (hN : (Cond.isRef (.static Bundle.tN "SUPPRESSED_SENTINEL" Bundle.listD)).before args s = true)
    (lU : (Cond.laysStatic Bundle.tN "UNASSIGNED_STACK" Bundle.steD).before args s = true) (lN : (Cond.laysStatic Bundle.tN "SUPPRESSED_SENTINEL" Bundle.listD).before args s = true) : ∀ w ∈ L, w.before args s = true := by
  intro w hw
  by_cases e1 : w = .isRef (.static Bundle.tN "UNASSIGNED_STACK" Bundle.steD)
  · rw [e1]; exact hU
  · by_cases e2 : w = .isRef (.static Bundle.tN "SUPPRESSED_SENTINEL" Bundle.listD)
    · rw [e2]; exact hN
    · by_cases e3 : w = .laysStatic Bundle.tN "UNASSIGNED_STACK" Bundle.steD
      · rw [e3]; exact lU
      · by_cases e4 : w = .laysStatic Bundle.tN "SUPPRESSED_SENTINEL" Bundle.listD
        · rw [e4]; exact lN
        · exact h1 w (List.mem_filter.mpr ⟨hw, by unfold vx_no; rw [decide_eq_true e1, decide_eq_true e2, decide_eq_true e3, decide_eq_true e4]; rfl⟩)
/-- where a static field lies, its class's statics cell in H -/
def vx_L (C n d : String) (A : Nat → Prop) (U : State) (H : Heap) : Prop := ∃ (c : ClassId) (k : Class) (i : Nat) (f : Field) (a : Nat) (cell : Cell), U.vm.findClass C = some c ∧ U.fieldFound? C n d = some (c, k, i, f) ∧ f.isStatic = true ∧ k.statics = some a ∧ H[a]? = some cell ∧ cell.vm.isStatics = true ∧ cell.cls = c ∧ f.slot < cell.slots.size ∧ k.staticTypes[f.slot]? = some f.type ∧ ¬ A a
theorem vx_L.moved {C n d : String} {A : Nat → Prop} {u U : State} {H : Heap} (hvm : u.vm.Alike U.vm) (h : vx_L C n d A u H) : vx_L C n d A U H := by
  obtain ⟨c, k, i, f, a, cell, h1, h2, h3, h4, h5, h6, h7, h8, h9, h10⟩ := h
  obtain ⟨k', hi', he⟩ := State.fieldFound?_setVm hvm h2
  exact ⟨c, k', i, f, a, cell, by rw [hvm.findClass]; exact h1, hi', h3, by rw [he]; exact h4, h5, h6, h7, h8, by rw [he]; exact h9, h10⟩
theorem vx_L.kept {C n d : String} {A : Nat → Prop} {U : State} {H H1 : Heap} (h : vx_L C n d A U H) (hq : ∀ a : Nat, a < H.size → ¬ A a → H1[a]? = H[a]?) : vx_L C n d A U H1 := by
  obtain ⟨c, k, i, f, a, cell, h1, h2, h3, h4, h5, h6, h7, h8, h9, h10⟩ := h
  exact ⟨c, k, i, f, a, cell, h1, h2, h3, h4, by rw [hq a (Array.getElem?_eq_some_iff.mp h5).1 h10]; exact h5, h6, h7, h8, h9, h10⟩
theorem vx_L.narrow {C n d : String} {A B : Nat → Prop} {U : State} {H : Heap} (h : vx_L C n d A U H) (hAB : ∀ q, B q → A q) : vx_L C n d B U H := by
  obtain ⟨c, k, i, f, a, cell, h1, h2, h3, h4, h5, h6, h7, h8, h9, h10⟩ := h
  exact ⟨c, k, i, f, a, cell, h1, h2, h3, h4, h5, h6, h7, h8, h9, fun z => h10 (hAB _ z)⟩
theorem vx_L.word {C n d : String} {A : Nat → Prop} {s : State} {args : Array Value} (h : vx_L C n d A s s.heap) : (Cond.laysStatic C n d).before args s = true := by
  obtain ⟨c, k, i, f, a, cell, h1, h2, h3, h4, h5, h6, h7, h8, h9, -⟩ := h
  show (Cond.laysStatic C n d).holds args s none s [] = true
  exact Cond.laysStatic_of h1 h2 h3 h4 h5 h6 h7 h8 h9
/-- .. and what it holds: null or some reference -/
def vx_Zq (C n d : String) (A : Nat → Prop) (U : State) (H : Heap) : Prop := va_Zq C n d A U H ∧ vx_L C n d A U H
theorem vx_Zq.moved {C n d : String} {A : Nat → Prop} {u U : State} {H : Heap} (hvm : u.vm.Alike U.vm) (h : vx_Zq C n d A u H) : vx_Zq C n d A U H := ⟨va_Zq.moved hvm h.1, vx_L.moved hvm h.2⟩
theorem vx_Zq.kept {C n d : String} {A : Nat → Prop} {U : State} {H H1 : Heap} (h : vx_Zq C n d A U H) (hq : ∀ a : Nat, a < H.size → ¬ A a → H1[a]? = H[a]?) : vx_Zq C n d A U H1 := ⟨va_Zq.kept h.1 hq, vx_L.kept h.2 hq⟩
theorem vx_Zq.narrow {C n d : String} {A B : Nat → Prop} {U : State} {H : Heap} (h : vx_Zq C n d A U H) (hAB : ∀ q, B q → A q) : vx_Zq C n d B U H := ⟨va_Zq.narrow h.1 hAB, vx_L.narrow h.2 hAB⟩
theorem vx_Zqof {args : Array Value} {s : State} {C n d : String} {A : Nat → Prop} (hl : (Cond.laysStatic C n d).before args s = true) (hini : (Cond.initialized C).before args s = true) (h : (Cond.isRef (.static C n d)).before args s = true) (hA : ∀ a : Nat, a < s.heap.size → ¬ A a) : vx_Zq C n d A s s.heap := by
  refine ⟨va_Zqof hl hini h hA, ?_⟩
  obtain ⟨c, k, i, f, a, cell, h1, h2, h3, h4, h5, h6, h7, h8, h9⟩ := Cond.laysStatic_spec hl
  exact ⟨c, k, i, f, a, cell, h1, h2, h3, h4, h5, h6, h7, h8, h9, hA a (Array.getElem?_eq_some_iff.mp h5).1⟩
theorem vx_isRef {C n d : String} {v : Value} {A : Nat → Prop} {s : State} {args : Array Value} (h : va_Z C n d v A s s.heap) (hv : v.isRef = true) : (Cond.isRef (.static C n d)).before args s = true := by
  obtain ⟨cf, kf, fi, f, a, cell, h1, h2, h3, h4, h5, h6, h7, -⟩ := h
  have he : (Term.static C n d).eval args s none [] s = some v := by
    simp [Term.eval, State.fieldNamed?, h1, h2, h4, h5, h6, h7]
  simp only [Cond.before, Cond.holds, Cond.value, he]
  cases v <;> simp_all [Value.isRef]
theorem vx_isRefq {C n d : String} {A : Nat → Prop} {s : State} {args : Array Value} (h : va_Zq C n d A s s.heap) : (Cond.isRef (.static C n d)).before args s = true := by
  rcases h with h | ⟨t, h⟩
  · exact vx_isRef h rfl
  · exact vx_isRef h rfl
/-- the same frame, seen from here: as if the method were called anew in this heap -/
theorem vx_rebase {T : State} (X : Stand p l e R s m args below meth c T locs cells slots) {R' : Room} (hf : R'.frames ≤ R.frames) (hl : R'.locals ≤ R.locals) (hc : cells + R'.cells ≤ R.cells) (hs : slots + R'.slots ≤ R.slots) :
    Stand p l e R' ((T.setVm s.vm).setFrames (.invoking m args :: below)) m args below meth c T [] 0 0 := by
  have htop : (T.setVm s.vm).topJava?.isSome := X.here.top
  have hF : ((T.setVm s.vm).setFrames (.invoking m args :: below)).frames = .invoking m args :: below := State.frames_setFrames _ (State.cur_lt_of_top htop)
  obtain ⟨g₀, hg0⟩ := Option.isSome_iff_exists.mp htop
  obtain ⟨r, hr⟩ := State.topJava?_eq_some.mp hg0
  have hl9 : e.platform.stackLimits (T.setVm s.vm).me = e.platform.stackLimits s.me := X.limits
  have hb9 : (T.setVm s.vm).me.stackBytes = s.me.stackBytes := X.bytes
  refine ⟨X.admits, X.cas, X.clock, hF, ?_, X.hears, X.method, X.code, X.here, X.tail, X.warmed, ?_, ?_, ?_⟩
  · have h := X.room
    have hU : ((T.setVm s.vm).setFrames (.invoking m args :: below)).localsInUse = s.localsInUse := by
      rw [State.localsInUse_invoking hF (meth := meth) (c := c) X.method X.code, State.localsInUse_invoking X.frames X.method X.code]
    simp only [State.hasRoom, Bool.and_eq_true, decide_eq_true_eq] at h ⊢
    obtain ⟨⟨⟨⟨h1, h2, h3, h4, h5, h6⟩, h7⟩, h8⟩, h9⟩ := h
    rw [X.frames, List.length_cons] at h2 h3
    have q1 := X.heapSize
    have q2 := X.used
    simp only [hF, hU, List.length_cons, State.stackLimits_setFrames, State.stackBytes_setFrames, hl9, hb9]
    refine ⟨⟨⟨⟨by omega, by omega, by omega, by omega, by omega, h6⟩, ?_⟩, ?_⟩, X.book⟩
    · show T.heap.size + R'.cells ≤ e.platform.maxCells
      omega
    · show T.slotsUsed + R'.slots ≤ e.platform.maxSlots
      omega
  · rw [State.stackLimits_setFrames]; rfl
  · rw [State.stackBytes_setFrames]; rfl
  · refine ⟨?_, Nat.le_refl _, Nat.le_refl _, ?_, ?_, fun a c9 h9 => ⟨c9, h9, rfl, rfl, fun _ _ => rfl⟩⟩
    · obtain ⟨t, ht, -⟩ := State.frames_cons hr
      show T.setVm s.vm = { ((T.setVm s.vm).setFrames (.invoking m args :: below)).setFrames (T.setVm s.vm).frames with heap := T.heap, slotsUsed := T.slotsUsed }
      rw [State.setFrames_setFrames, State.setFrames_self ht]
      rfl
    · show T.slotsUsed = T.slotsUsed + ((T.heap.toList.drop T.heap.size).map (·.slots.size)).sum
      rw [List.drop_eq_nil_of_le (Nat.le_of_eq Array.length_toList)]
      rfl
    · show ((T.heap.toList.drop T.heap.size).map (·.slots.size)).sum ≤ 0
      rw [List.drop_eq_nil_of_le (Nat.le_of_eq Array.length_toList)]
      exact Nat.le_refl _
/-- 'throw new E()': new; dup; invokespecial; athrow -/
theorem vx_throw0 {cc : ByteArray} {pc : Nat} (hexec : p.tables.exec = Jvm.exec) (hb : c.code = cc) (hl : l.stackTraces = false) {own cls : String} {names : List String} {ik ic mc ms : Nat} {A : Nat → Prop}
    (hown : s.vm.findClass own = some m.cls) (hcls : Bundle.fit cls = true) (hnames : ∀ n ∈ names, Bundle.fit n = true)
    (hk : (Cond.classLink own ik cls).before args s = true) (hini : (Cond.initialized cls).before args s = true) (hat : ∀ w ∈ vx_at0 own ic cls names, w.before args s = true)
    (hgood : ∀ w ∈ Cond.classLink own ik cls :: Cond.initialized cls :: vx_at0 own ic cls names, vx_ot w = true)
    (hU : vx_Zq Bundle.tN "UNASSIGNED_STACK" Bundle.steD A s s.heap) (hN : vx_Zq Bundle.tN "SUPPRESSED_SENTINEL" Bundle.listD A s s.heap) (hS : va_S A s.heap H locs) (hsize : ls.size = c.maxLocals)
    (d0 : decode cc pc = .ok (.new ik, 3)) (d3 : decode cc (pc + 3) = .ok (.dup, 1)) (d4 : decode cc (pc + 4) = .ok (.invokespecial ic, 3)) (d7 : decode cc (pc + 7) = .ok (.athrow, 1))
    (hout : ∀ x ∈ c.exceptionTable.toList, covers x (pc + 7) = false)
    (hRframes : names.length + 3 < R.frames) (hRlocals : (rest.map fun v => v.category).sum + (13 * (names.length + 1) + 42) ≤ R.locals) (hRcells : cells + 1 ≤ R.cells) (hRslots : slots + 6 ≤ R.slots) (hlocks : meth.locks = false)
    (hx : ∀ t : State, s.vm.Alike t.vm → H.size ≤ t.heap.size → (∀ q : Nat, q < H.size → t.heap[q]? = H[q]?) → XC cls s t)
    (hf : ∀ z ∈ locs, free z.base) (hc : cells + 1 ≤ mc) (hs : slots + 6 ≤ ms) :
    W p l e R s m args below meth c H locs cells slots (vx_MQ below Qc XC args s mc ms free) (F0 m pc ls rest) := by
  intro T hT X
  have htr : e.platform.stackTraces = false := (show e.platform.stackTraces = l.stackTraces by rw [X.admits.platform]).trans hl
  have Y := vx_rebase X (R' := { frames := R.frames, locals := R.locals, cells := 1, slots := 6 }) (Nat.le_refl _) (Nat.le_refl _) hRcells hRslots
  obtain ⟨s', hA⟩ : ∃ z, z = (T.setVm s.vm).setFrames (.invoking m args :: below) := ⟨_, rfl⟩
  rw [← hA] at Y
  have hvm : s'.vm = s.vm := by rw [hA]; rfl
  have hhp : s'.heap = H := by rw [hA]; exact hT
  have hW0 : s.WarmedH s'.vm := by rw [hvm]; exact State.WarmedH.refl s
  have hat' : ∀ w ∈ vx_at0 own ic cls names, w.before args s' = true := fun w hw => vx_ot_at hW0 hvm.symm (hgood w (List.mem_cons_of_mem _ (List.mem_cons_of_mem _ hw))) (hat w hw)
  have hk' : (Cond.classLink own ik cls).before args s' = true := vx_ot_at hW0 hvm.symm (hgood _ List.mem_cons_self) hk
  have hini' : (Cond.initialized cls).before args s' = true := vx_ot_at hW0 hvm.symm (hgood _ (List.mem_cons_of_mem _ List.mem_cons_self)) hini
  have hU' : vx_Zq Bundle.tN "UNASSIGNED_STACK" Bundle.steD A s' s'.heap := by rw [hhp]; exact vx_Zq.moved hW0.alike (hU.kept hS.2.1)
  have hN' : vx_Zq Bundle.tN "SUPPRESSED_SENTINEL" Bundle.listD A s' s'.heap := by rw [hhp]; exact vx_Zq.moved hW0.alike (hN.kept hS.2.1)
  have h : ∀ w ∈ Bundle.ownAtoms0 own ic cls names, w.before args s' = true := vx_own hat' (vx_isRefq hU'.1) (vx_isRefq hN'.1) hU'.2.word hN'.2.word
  have hown' : s'.vm.findClass own = some m.cls := by rw [hvm]; exact hown
  have hins : (Cond.instantiable cls 6).before args s' = true := h _ (by simp [Bundle.ownAtoms0])
  obtain ⟨vm₁, cX, kX, hfX, hkX, -, -, X₁, st1⟩ := Y.newCold hexec (own := own) (C := cls) (index := ik) (n := 6) hown' hk' hins hini'
    (g := F0 m pc ls rest) rfl (by rw [hb]; exact d0) (Nat.le_refl _) (Nat.le_refl _)
  generalize hT1 : (T.setVm vm₁).pushCell { cls := cX, slots := kX.instanceTypes.map defaultValue, vm := .none } = T1 at X₁ st1
  have hcat : (Value.ref T.heap.size).category = 1 := rfl
  have hcellA : T1.heap[T.heap.size]? = some (freshCell cX kX) := by rw [← hT1]; exact State.heap_pushCell_size _ _
  have d3' : decode c.code (pc + 3) = .ok (.dup, 1) := by rw [hb]; exact d3
  obtain ⟨U, hsteps, hrun, hend, hW, hsame, ce, hce, hO⟩ := X₁.ctorThrow0 hexec htr (own := own) (cls := cls) (names := names) (ic := ic) hown' hcls hnames h (fun x hx => nomatch hx) hfX hkX hcellA (by rw [hhp, hT]; exact Nat.le_refl _)
    (g := { method := m, pc := pc + 4, locals := ls, stack := .ref T.heap.size :: .ref T.heap.size :: rest, locked := none }) rfl hsize rfl rfl (rest := rest) rfl
    (by rw [hb]; exact d4) (by rw [hb]; exact d7) hout hRframes (by simp only [List.map_cons, List.sum_cons, hcat]; omega) hlocks
  obtain ⟨f1, f2⟩ := vx_frame hsame
  rw [hhp] at f1 f2
  have hWs : s.WarmedH U.vm := State.WarmedH.trans hW0 hW
  have hcl : s.vm.findClass cls = some ce.cls := by
    have h9 := hO.cls
    rw [hvm] at h9
    exact h9
  have hall : s.sameButNew ({ U with vm := s.vm } : State) locs mc ms := by
    subst hA
    obtain ⟨e1, e2⟩ := hsame
    rw [State.setFrames_setFrames] at e1
    have h2 : (T.setVm s.vm).sameButNew ({ U with vm := s.vm } : State) [] (0 + 1) (0 + 6) := ⟨e1, e2⟩
    have h3 := X.same.trans h2
    rw [List.append_nil] at h3
    exact h3.mono hc hs
  refine ⟨U, ?_, .threw T.heap.size, hrun, hend, Or.inr ⟨T.heap.size, rfl, cls, ce, locs, hx U hWs.alike f1 (fun q hq => f2 q hq (fun z hz => nomatch hz)), hce, hO.vm, hcl, hWs, hall, hf⟩⟩
  refine st1 _ ?_
  show Steps p.tables e below (T1.setTop { method := m, pc := pc + 3, locals := ls, stack := .ref T.heap.size :: rest, locked := none }) _
  jvm_step X₁.here [X₁.here.top, hexec, d3', Value.category]
  exact hsteps
/-- 'throw new E("text")': new; dup; ldc; invokespecial; athrow -/
theorem vx_throwS {cc : ByteArray} {pc : Nat} (hexec : p.tables.exec = Jvm.exec) (hb : c.code = cc) (hl : l.stackTraces = false) {own cls text : String} {names : List String} {ik is ic mc ms sa : Nat} {A : Nat → Prop}
    (hown : s.vm.findClass own = some m.cls) (hcls : Bundle.fit cls = true) (hnames : ∀ n ∈ names, Bundle.fit n = true)
    (hk : (Cond.classLink own ik cls).before args s = true) (hini : (Cond.initialized cls).before args s = true) (hstr : vk_R own is text sa s) (hat : ∀ w ∈ vx_atS own ic cls names, w.before args s = true)
    (hgood : ∀ w ∈ Cond.classLink own ik cls :: Cond.initialized cls :: vx_atS own ic cls names, vx_ot w = true)
    (hU : vx_Zq Bundle.tN "UNASSIGNED_STACK" Bundle.steD A s s.heap) (hN : vx_Zq Bundle.tN "SUPPRESSED_SENTINEL" Bundle.listD A s s.heap) (hS : va_S A s.heap H locs) (hsize : ls.size = c.maxLocals)
    (d0 : decode cc pc = .ok (.new ik, 3)) (d3 : decode cc (pc + 3) = .ok (.dup, 1)) (d4 : decode cc (pc + 4) = .ok (.ldc is, 2)) (d6 : decode cc (pc + 6) = .ok (.invokespecial ic, 3)) (d9 : decode cc (pc + 9) = .ok (.athrow, 1))
    (hout : ∀ x ∈ c.exceptionTable.toList, covers x (pc + 9) = false)
    (hRframes : names.length + 3 < R.frames) (hRlocals : (rest.map fun v => v.category).sum + (13 * (names.length + 1) + 43) ≤ R.locals) (hRcells : cells + 1 ≤ R.cells) (hRslots : slots + 6 ≤ R.slots) (hlocks : meth.locks = false)
    (hx : ∀ t : State, s.vm.Alike t.vm → H.size ≤ t.heap.size → (∀ q : Nat, q < H.size → t.heap[q]? = H[q]?) → XC cls s t)
    (hf : ∀ z ∈ locs, free z.base) (hc : cells + 1 ≤ mc) (hs : slots + 6 ≤ ms) :
    W p l e R s m args below meth c H locs cells slots (vx_MQ below Qc XC args s mc ms free) (F0 m pc ls rest) := by
  intro T hT X
  have htr : e.platform.stackTraces = false := (show e.platform.stackTraces = l.stackTraces by rw [X.admits.platform]).trans hl
  have Y := vx_rebase X (R' := { frames := R.frames, locals := R.locals, cells := 1, slots := 6 }) (Nat.le_refl _) (Nat.le_refl _) hRcells hRslots
  obtain ⟨s', hA⟩ : ∃ z, z = (T.setVm s.vm).setFrames (.invoking m args :: below) := ⟨_, rfl⟩
  rw [← hA] at Y
  have hvm : s'.vm = s.vm := by rw [hA]; rfl
  have hhp : s'.heap = H := by rw [hA]; exact hT
  have hW0 : s.WarmedH s'.vm := by rw [hvm]; exact State.WarmedH.refl s
  have hat' : ∀ w ∈ vx_atS own ic cls names, w.before args s' = true := fun w hw => vx_ot_at hW0 hvm.symm (hgood w (List.mem_cons_of_mem _ (List.mem_cons_of_mem _ hw))) (hat w hw)
  have hk' : (Cond.classLink own ik cls).before args s' = true := vx_ot_at hW0 hvm.symm (hgood _ List.mem_cons_self) hk
  have hini' : (Cond.initialized cls).before args s' = true := vx_ot_at hW0 hvm.symm (hgood _ (List.mem_cons_of_mem _ List.mem_cons_self)) hini
  have hU' : vx_Zq Bundle.tN "UNASSIGNED_STACK" Bundle.steD A s' s'.heap := by rw [hhp]; exact vx_Zq.moved hW0.alike (hU.kept hS.2.1)
  have hN' : vx_Zq Bundle.tN "SUPPRESSED_SENTINEL" Bundle.listD A s' s'.heap := by rw [hhp]; exact vx_Zq.moved hW0.alike (hN.kept hS.2.1)
  have h : ∀ w ∈ Bundle.ownAtoms own ic cls names, w.before args s' = true := vx_own hat' (vx_isRefq hU'.1) (vx_isRefq hN'.1) hU'.2.word hN'.2.word
  have hown' : s'.vm.findClass own = some m.cls := by rw [hvm]; exact hown
  have hins : (Cond.instantiable cls 6).before args s' = true := h _ (by simp [Bundle.ownAtoms])
  obtain ⟨vm₁, cX, kX, hfX, hkX, -, -, X₁, st1⟩ := Y.newCold hexec (own := own) (C := cls) (index := ik) (n := 6) hown' hk' hins hini'
    (g := F0 m pc ls rest) rfl (by rw [hb]; exact d0) (Nat.le_refl _) (Nat.le_refl _)
  generalize hT1 : (T.setVm vm₁).pushCell { cls := cX, slots := kX.instanceTypes.map defaultValue, vm := .none } = T1 at X₁ st1
  have hcat : (Value.ref T.heap.size).category = 1 := rfl
  have hcellA : T1.heap[T.heap.size]? = some (freshCell cX kX) := by rw [← hT1]; exact State.heap_pushCell_size _ _
  have d3' : decode c.code (pc + 3) = .ok (.dup, 1) := by rw [hb]; exact d3
  have d4' : decode c.code (pc + 4) = .ok (.ldc is, 2) := by rw [hb]; exact d4
  have hstr' : vk_R own is text sa s' := vk_R.warm hW0 hstr
  obtain ⟨U, hsteps, hrun, hend, hW, hsame, ce, hce, hO⟩ := X₁.ctorThrowS hexec htr (own := own) (cls := cls) (names := names) (ic := ic) hown' hcls hnames h (fun x hx => nomatch hx) hfX hkX hcellA (by rw [hhp, hT]; exact Nat.le_refl _) (msg := .ref sa) rfl
    (g := { method := m, pc := pc + 6, locals := ls, stack := .ref sa :: .ref T.heap.size :: .ref T.heap.size :: rest, locked := none }) rfl hsize rfl rfl (rest := rest) rfl
    (by rw [hb]; exact d6) (by rw [hb]; exact d9) hout hRframes (by simp only [List.map_cons, List.sum_cons, hcat]; omega) hlocks
  obtain ⟨f1, f2⟩ := vx_frame hsame
  rw [hhp] at f1 f2
  have hWs : s.WarmedH U.vm := State.WarmedH.trans hW0 hW
  have hcl : s.vm.findClass cls = some ce.cls := by
    have h9 := hO.cls
    rw [hvm] at h9
    exact h9
  have hall : s.sameButNew ({ U with vm := s.vm } : State) locs mc ms := by
    subst hA
    obtain ⟨e1, e2⟩ := hsame
    rw [State.setFrames_setFrames] at e1
    have h2 : (T.setVm s.vm).sameButNew ({ U with vm := s.vm } : State) [] (0 + 1) (0 + 6) := ⟨e1, e2⟩
    have h3 := X.same.trans h2
    rw [List.append_nil] at h3
    exact h3.mono hc hs
  refine ⟨U, ?_, .threw T.heap.size, hrun, hend, Or.inr ⟨T.heap.size, rfl, cls, ce, locs, hx U hWs.alike f1 (fun q hq => f2 q hq (fun z hz => nomatch hz)), hce, hO.vm, hcl, hWs, hall, hf⟩⟩
  refine st1 _ ?_
  show Steps p.tables e below (T1.setTop { method := m, pc := pc + 3, locals := ls, stack := .ref T.heap.size :: rest, locked := none }) _
  jvm_step X₁.here [X₁.here.top, hexec, d3', Value.category]
  exact X₁.ldcString hexec (own := own) (text := text) (index := is) (a := sa) hown' hstr'.1 hstr'.2
    (g := { method := m, pc := pc + 4, locals := ls, stack := .ref T.heap.size :: .ref T.heap.size :: rest, locked := none }) rfl d4' _ hsteps
/-- 'throw new E("text")', the text by a wide index -/
theorem vx_throwSW {cc : ByteArray} {pc : Nat} (hexec : p.tables.exec = Jvm.exec) (hb : c.code = cc) (hl : l.stackTraces = false) {own cls text : String} {names : List String} {ik is ic mc ms sa : Nat} {A : Nat → Prop}
    (hown : s.vm.findClass own = some m.cls) (hcls : Bundle.fit cls = true) (hnames : ∀ n ∈ names, Bundle.fit n = true)
    (hk : (Cond.classLink own ik cls).before args s = true) (hini : (Cond.initialized cls).before args s = true) (hstr : vk_R own is text sa s) (hat : ∀ w ∈ vx_atS own ic cls names, w.before args s = true)
    (hgood : ∀ w ∈ Cond.classLink own ik cls :: Cond.initialized cls :: vx_atS own ic cls names, vx_ot w = true)
    (hU : vx_Zq Bundle.tN "UNASSIGNED_STACK" Bundle.steD A s s.heap) (hN : vx_Zq Bundle.tN "SUPPRESSED_SENTINEL" Bundle.listD A s s.heap) (hS : va_S A s.heap H locs) (hsize : ls.size = c.maxLocals)
    (d0 : decode cc pc = .ok (.new ik, 3)) (d3 : decode cc (pc + 3) = .ok (.dup, 1)) (d4 : decode cc (pc + 4) = .ok (.ldc_w is, 3)) (d7 : decode cc (pc + 7) = .ok (.invokespecial ic, 3)) (d10 : decode cc (pc + 10) = .ok (.athrow, 1))
    (hout : ∀ x ∈ c.exceptionTable.toList, covers x (pc + 10) = false)
    (hRframes : names.length + 3 < R.frames) (hRlocals : (rest.map fun v => v.category).sum + (13 * (names.length + 1) + 43) ≤ R.locals) (hRcells : cells + 1 ≤ R.cells) (hRslots : slots + 6 ≤ R.slots) (hlocks : meth.locks = false)
    (hx : ∀ t : State, s.vm.Alike t.vm → H.size ≤ t.heap.size → (∀ q : Nat, q < H.size → t.heap[q]? = H[q]?) → XC cls s t)
    (hf : ∀ z ∈ locs, free z.base) (hc : cells + 1 ≤ mc) (hs : slots + 6 ≤ ms) :
    W p l e R s m args below meth c H locs cells slots (vx_MQ below Qc XC args s mc ms free) (F0 m pc ls rest) := by
  intro T hT X
  have htr : e.platform.stackTraces = false := (show e.platform.stackTraces = l.stackTraces by rw [X.admits.platform]).trans hl
  have Y := vx_rebase X (R' := { frames := R.frames, locals := R.locals, cells := 1, slots := 6 }) (Nat.le_refl _) (Nat.le_refl _) hRcells hRslots
  obtain ⟨s', hA⟩ : ∃ z, z = (T.setVm s.vm).setFrames (.invoking m args :: below) := ⟨_, rfl⟩
  rw [← hA] at Y
  have hvm : s'.vm = s.vm := by rw [hA]; rfl
  have hhp : s'.heap = H := by rw [hA]; exact hT
  have hW0 : s.WarmedH s'.vm := by rw [hvm]; exact State.WarmedH.refl s
  have hat' : ∀ w ∈ vx_atS own ic cls names, w.before args s' = true := fun w hw => vx_ot_at hW0 hvm.symm (hgood w (List.mem_cons_of_mem _ (List.mem_cons_of_mem _ hw))) (hat w hw)
  have hk' : (Cond.classLink own ik cls).before args s' = true := vx_ot_at hW0 hvm.symm (hgood _ List.mem_cons_self) hk
  have hini' : (Cond.initialized cls).before args s' = true := vx_ot_at hW0 hvm.symm (hgood _ (List.mem_cons_of_mem _ List.mem_cons_self)) hini
  have hU' : vx_Zq Bundle.tN "UNASSIGNED_STACK" Bundle.steD A s' s'.heap := by rw [hhp]; exact vx_Zq.moved hW0.alike (hU.kept hS.2.1)
  have hN' : vx_Zq Bundle.tN "SUPPRESSED_SENTINEL" Bundle.listD A s' s'.heap := by rw [hhp]; exact vx_Zq.moved hW0.alike (hN.kept hS.2.1)
  have h : ∀ w ∈ Bundle.ownAtoms own ic cls names, w.before args s' = true := vx_own hat' (vx_isRefq hU'.1) (vx_isRefq hN'.1) hU'.2.word hN'.2.word
  have hown' : s'.vm.findClass own = some m.cls := by rw [hvm]; exact hown
  have hins : (Cond.instantiable cls 6).before args s' = true := h _ (by simp [Bundle.ownAtoms])
  obtain ⟨vm₁, cX, kX, hfX, hkX, -, -, X₁, st1⟩ := Y.newCold hexec (own := own) (C := cls) (index := ik) (n := 6) hown' hk' hins hini'
    (g := F0 m pc ls rest) rfl (by rw [hb]; exact d0) (Nat.le_refl _) (Nat.le_refl _)
  generalize hT1 : (T.setVm vm₁).pushCell { cls := cX, slots := kX.instanceTypes.map defaultValue, vm := .none } = T1 at X₁ st1
  have hcat : (Value.ref T.heap.size).category = 1 := rfl
  have hcellA : T1.heap[T.heap.size]? = some (freshCell cX kX) := by rw [← hT1]; exact State.heap_pushCell_size _ _
  have d3' : decode c.code (pc + 3) = .ok (.dup, 1) := by rw [hb]; exact d3
  have d4' : decode c.code (pc + 4) = .ok (.ldc_w is, 3) := by rw [hb]; exact d4
  have hstr' : vk_R own is text sa s' := vk_R.warm hW0 hstr
  obtain ⟨U, hsteps, hrun, hend, hW, hsame, ce, hce, hO⟩ := X₁.ctorThrowS hexec htr (own := own) (cls := cls) (names := names) (ic := ic) hown' hcls hnames h (fun x hx => nomatch hx) hfX hkX hcellA (by rw [hhp, hT]; exact Nat.le_refl _) (msg := .ref sa) rfl
    (g := { method := m, pc := pc + 7, locals := ls, stack := .ref sa :: .ref T.heap.size :: .ref T.heap.size :: rest, locked := none }) rfl hsize rfl rfl (rest := rest) rfl
    (by rw [hb]; exact d7) (by rw [hb]; exact d10) hout hRframes (by simp only [List.map_cons, List.sum_cons, hcat]; omega) hlocks
  obtain ⟨f1, f2⟩ := vx_frame hsame
  rw [hhp] at f1 f2
  have hWs : s.WarmedH U.vm := State.WarmedH.trans hW0 hW
  have hcl : s.vm.findClass cls = some ce.cls := by
    have h9 := hO.cls
    rw [hvm] at h9
    exact h9
  have hall : s.sameButNew ({ U with vm := s.vm } : State) locs mc ms := by
    subst hA
    obtain ⟨e1, e2⟩ := hsame
    rw [State.setFrames_setFrames] at e1
    have h2 : (T.setVm s.vm).sameButNew ({ U with vm := s.vm } : State) [] (0 + 1) (0 + 6) := ⟨e1, e2⟩
    have h3 := X.same.trans h2
    rw [List.append_nil] at h3
    exact h3.mono hc hs
  refine ⟨U, ?_, .threw T.heap.size, hrun, hend, Or.inr ⟨T.heap.size, rfl, cls, ce, locs, hx U hWs.alike f1 (fun q hq => f2 q hq (fun z hz => nomatch hz)), hce, hO.vm, hcl, hWs, hall, hf⟩⟩
  refine st1 _ ?_
  show Steps p.tables e below (T1.setTop { method := m, pc := pc + 3, locals := ls, stack := .ref T.heap.size :: rest, locked := none }) _
  jvm_step X₁.here [X₁.here.top, hexec, d3', Value.category]
  exact X₁.ldcStringW hexec (own := own) (text := text) (index := is) (a := sa) hown' hstr'.1 hstr'.2
    (g := { method := m, pc := pc + 4, locals := ls, stack := .ref T.heap.size :: .ref T.heap.size :: rest, locked := none }) rfl d4' _ hsteps
end Ends
section Bodies
variable {l : Launch}
theorem vx_ofW {y : MethodName} {ws ws' : List Cond} {rm : Room} {Pc : Array Value → State → Prop} {Qc : Array Value → State → Outcome → State → Prop} {XC : String → State → State → Prop} {mc ms : Nat} {free : Addr → Prop} {cc : ByteArray} {maxL : Nat} {ret : Option FieldType}
    (hy : plainName y.cls = true) (hw : ws = Cond.code y cc maxL ret :: ws')
    (body : ∀ p e s m args below meth c s₁, BodyLoose p l y (headSpec ws rm) cc maxL ret e s m args below meth c s₁ → c.maxLocals = maxL → (∀ x ∈ c.exceptionTable.toList, False) → Pc args s →
      W p l e (headSpec ws rm).room s m args below meth c s.heap [] 0 0 (vx_MQ below Qc XC args s mc ms free) (entryFrame m args maxL)) : vx_Met l y ws rm Pc Qc XC mc ms free := by
  refine MetFree.of_bodyS (code := cc) (maxLocals := maxL) (ret := ret) hy ?_ ?_
  · intro args s m h hn
    obtain ⟨meth, c, h1, h2, h3, h4, h5, h6, -, -⟩ := Cond.code_spec hn (atoms_spec (ws := ws) h _ (by rw [hw]; exact List.mem_cons_self))
    exact ⟨meth, c, h1, h2, h3, h4, h5, h6⟩
  · intro p e s m args below meth c s₁ B hml hP _
    have hh0 : s₁.heap = s.heap := by rw [B.state]; rfl
    have ht : ∀ x ∈ c.exceptionTable.toList, False := by
      obtain ⟨meth9, c9, h1, h2, -, -, -, -, h7, -⟩ := Cond.code_spec B.named (atoms_spec (ws := ws) B.pre _ (by rw [hw]; exact List.mem_cons_self))
      cases Option.some.inj (h1.symm.trans B.method)
      cases Option.some.inj (h2.symm.trans (Stand.of_body B).code)
      intro x hx
      rw [Array.isEmpty_iff.mp h7] at hx
      cases hx
    obtain ⟨t, a1, o, b1, b2, b3⟩ := body p e s m args below meth c s₁ B hml ht hP s₁ hh0 (Stand.of_body B)
    exact ⟨t, o, a1, b1, b2, b3⟩
/-- the table of a body with handlers -/
theorem vx_table {p : Program} {x y : MethodName} {S : Spec} {cc bytes : ByteArray} {maxL maxL' : Nat} {ret ret' : Option FieldType} {e : Env} {s s₁ : State} {m : MethodId} {args : Array Value} {below : List Frame} {meth : Method} {c : Code} {hh : List (Nat × Nat × Nat × Nat)}
    (B : BodyLoose p l y S cc maxL ret e s m args below meth c s₁) (h : (Cond.codeWith y bytes maxL' ret' hh).before args s = true) : c.exceptionTable.toList = tableOf hh := by
  obtain ⟨m9, meth9, c9, hn9, h1, h2, -, -, h6, -⟩ := Cond.codeWith_spec h
  cases Option.some.inj (hn9.symm.trans B.named)
  cases Option.some.inj (h1.symm.trans B.method)
  cases Option.some.inj (h2.symm.trans (Stand.of_body B).code)
  rw [← h6, table_eq]
end Bodies
end VXA
/-! ===== END ===== -/
/-! ===== BEGIN a static call of a method with an exception table ===== -/
section VXS
variable {p : Program} {l : Launch} {e : Env} {R : Room} {s : State} {m : MethodId} {args : Array Value} {below : List Frame} {meth : Method} {c : Code} {T : State} {H : Heap} {locs : List Loc} {cells slots : Nat}
abbrev vx_CSW (R : Room) (s : State) (args : Array Value) (own : String) (index : Nat) (y : MethodName) (bytes : ByteArray) (maxL : Nat) (ret : Option FieldType) (hh : List (Nat × Nat × Nat × Nat)) (ws : List Cond) (rm : Room) (mc ms n : Nat) : Prop :=
  (rm.cells = mc ∧ rm.slots = ms ∧ rm.frames + 1 ≤ R.frames ∧ 8 + (maxL + 11) + rm.locals ≤ R.locals ∧ (∀ w ∈ ws, ∀ (a' : Array Value) (U : State), s.WarmedH U.vm → w.before a' U = true) ∧ Cond.codeWith y bytes maxL ret hh ∈ ws) ∧
  (Cond.codeWith y bytes maxL ret hh).before args s = true ∧ (Cond.initialized y.cls).before args s = true ∧ (y.cls ≠ "java/lang/invoke/MethodHandle" ∧ y.cls ≠ "java/lang/invoke/VarHandle") ∧
  (∀ sig, parseMethodDescriptor y.desc = some sig → n = sig.parameters.length) ∧ (Cond.methodLink own index y).before args s = true ∧ (Cond.static y).before args s = true
theorem vx_cwSW {own : String} {index maxL mc ms : Nat} {y : MethodName} {bytes : ByteArray} {ret : Option FieldType} {hh : List (Nat × Nat × Nat × Nat)} {Ts ws ws' : List Cond} {rm : Room} (n : Nat) (ht : ∀ w ∈ Ts, w.before args s = true) (hT : GoodIn Ts (va_wsS own index y ws)) (hw : ws = Cond.codeWith y bytes maxL ret hh :: ws') (hrc : rm.cells = mc) (hrs : rm.slots = ms)
    (hd : y.cls ≠ "java/lang/invoke/MethodHandle" ∧ y.cls ≠ "java/lang/invoke/VarHandle" ∧ (parseMethodDescriptor y.desc).map (fun d => d.parameters.length) = some n) (hR : rm.frames + 1 ≤ R.frames ∧ 8 + (maxL + 11) + rm.locals ≤ R.locals) :
    vx_CSW R s args own index y bytes maxL ret hh ws rm mc ms n := by
  have ok : ∀ w ∈ va_wsS own index y ws, w.before args s = true := fun w h => ht w (hT w h).1
  have hG : GoodIn Ts ws := fun w h => hT w (by unfold va_wsS; exact List.mem_append_right _ h)
  have hc : Cond.codeWith y bytes maxL ret hh ∈ ws := by rw [hw]; exact List.mem_cons_self
  refine ⟨⟨hrc, hrs, hR.1, hR.2, pay_in ht hG, hc⟩, ht _ (hG _ hc).1, ok _ (by simp [va_wsS]), ⟨hd.1, hd.2.1⟩, fun sig h => ?_, ok _ (by simp [va_wsS]), ok _ (by simp [va_wsS])⟩
  have h2 := hd.2.2
  rw [h] at h2
  exact (Option.some.inj h2).symm
theorem vx_callSW (X : Stand p l e R s m args below meth c T locs cells slots) (hexec : p.tables.exec = Jvm.exec) {own : String} {index : Nat} {y : MethodName} {bytes : ByteArray} {maxL : Nat} {ret : Option FieldType} {hh : List (Nat × Nat × Nat × Nat)}
    (hown : s.vm.findClass own = some m.cls) (hlink : (Cond.methodLink own index y).before args s = true) (hstat : (Cond.static y).before args s = true) (hinit : (Cond.initialized y.cls).before args s = true)
    (hcode : (Cond.codeWith y bytes maxL ret hh).before args s = true) (hy : y.cls ≠ "java/lang/invoke/MethodHandle" ∧ y.cls ≠ "java/lang/invoke/VarHandle")
    {W9 : Nat} {Pre : Pt → Array Value → Prop} {Post : Pt → Array Value → Option Value → Pt → Prop} (hK : Back l R p e below s args y 3 W9 Pre Post)
    {g : JFrame} (hg : g.method = m) (hsize : g.locals.size = c.maxLocals) {argsL rest : List Value} (hlen : ∀ sig, parseMethodDescriptor y.desc = some sig → argsL.length = sig.parameters.length)
    (hstack : g.stack = argsL.reverse ++ rest) (hW : 2 * g.monitorRoom + (rest.map fun v => v.category).sum ≤ W9) (hdg : decode c.code g.pc = .ok (.invokestatic index, 3))
    (hpre : ∀ vm₁, s.WarmedH vm₁ → Pre ⟨T.setVm vm₁, locs, cells, slots⟩ argsL.toArray) :
    ∃ (v : Option Value) (vm₁ : Vm) (B : Pt), s.WarmedH vm₁ ∧ Stand p l e R s m args below meth c B.U B.locs B.cells B.slots ∧ Post ⟨T.setVm vm₁, locs, cells, slots⟩ argsL.toArray v B ∧
      ∀ target, Steps p.tables e below (B.U.setTop { g with pc := g.pc + 3, stack := v.toList ++ rest }) target → Steps p.tables e below (T.setTop g) target := by
  obtain ⟨mk, methM, cM, hnamed, hmethM, -, -, -, -, -, -, hsigM⟩ := Cond.codeWith_spec hcode
  have hstatic : methM.isStatic = true := Cond.static_spec hnamed hmethM hstat
  obtain ⟨kP, hkP, -⟩ := className_of_methodNamed hnamed
  have hinitP : kP.init = .initialized := Cond.initialized_spec (findClass_of_methodNamed hnamed) hkP hinit
  obtain ⟨vm₁, X₁, hstep₁⟩ := X.invokestatic hexec hown hlink hnamed hmethM hstatic hkP hinitP hy (g := g) hg (argsL := argsL) (rest := rest) (hlen _ hsigM) hstack hdg
  obtain ⟨v, B, X', hpost, hsteps⟩ := hK m meth c ⟨T.setVm vm₁, locs, cells, slots⟩ { g with stack := rest } (.invokestatic index) mk argsL.toArray X₁ hg hsize hdg hW (X₁.named hnamed) (hpre vm₁ X₁.warmed)
  exact ⟨v, vm₁, B, X₁.warmed, X', hpost, fun target h => hstep₁ _ fun acts => by rw [doInvoke_state]; exact hsteps.trans h⟩
theorem vx_runSW {y : MethodName} {bytes cc : ByteArray} {maxL nL mc ms n index : Nat} {ret : Option FieldType} {hh : List (Nat × Nat × Nat × Nat)} {ws : List Cond} {rm : Room} {Pc : Array Value → State → Prop} {Qc : Array Value → State → Outcome → State → Prop} {free : Addr → Prop} {Ts : List Cond} {own : String} {As rest : List Value} {g : JFrame}
    (S : CallFix p m c cc nL s args Ts own) (hM : Met l y ws rm Pc Qc mc ms free) (cw : vx_CSW R s args own index y bytes maxL ret hh ws rm mc ms n) (hp : PreS s H Pc As)
    (hg : g.method = m) (hn : As.length = n) (hsize : g.locals.size = nL) (hstack : g.stack = As.reverse ++ rest) (hW : 2 * g.monitorRoom + (rest.map fun v => v.category).sum ≤ 8) (hdg : decode cc g.pc = .ok (.invokestatic index, 3)) (hf : cells + mc ≤ R.cells ∧ slots + ms ≤ R.slots) :
    va_Run p l e R s m args below meth c H locs cells slots mc ms g rest (Qc As.toArray) (free) := by
  obtain ⟨⟨hrc, hrs, hfr, hlo, hws, hcw⟩, hcode, hini, hy, hlen, hl, hstt⟩ := cw
  have hK : Back l R p e below s args y 3 8 (PreOf R mc ms Pc) (PostOf Qc mc ms free) := va_backW (hh := hh) (bytes := bytes) (maxL := maxL) (ret := ret) hM hp.1 hrc hrs hfr hlo hws hcw (fun a' U hW => word_at hW (Or.inl (by first | rfl | simp [Cond.onTables, Cond.keeps, Cond.steady])) hini)
  obtain ⟨hx, hb, hml, ho, -⟩ := S
  intro T hT X
  obtain ⟨v, vm₁, ⟨U', l2, c2, s2⟩, hW₁, X', ⟨g', mk, t, L, e1, e2, hq, h1, hL, h2, h3⟩, st⟩ := vx_callSW X hx (hh := hh) (bytes := bytes) (maxL := maxL) (ret := ret) ho hl hstt hini hcode hy hK hg (hsize.trans hml.symm) (argsL := As) (rest := rest) (fun sig h => hn.trans (hlen sig h)) hstack hW (by rw [hb]; exact hdg)
    (fun vm₁ hW₁ => ⟨hf.1, hf.2, hp.2 (T.setVm vm₁) hT hW₁⟩)
  dsimp only [Pt.U, Pt.locs, Pt.cells, Pt.slots] at X' e1 e2 h1 h2 h3 st
  subst h1; subst h2; subst h3
  exact ⟨v, (T.setVm vm₁).calling g' mk As.toArray, t, U', L, hT, X', hL, e1, e2, hq, st⟩
/-- not caught here, past rows that name other classes: it goes on to the caller -/
theorem vx_outP {p : Program} {l : Launch} {e : Env} {R : Room} {s : State} {m : MethodId} {args : Array Value} {below : List Frame} {meth : Method} {c : Code} {H : Heap} {locs : List Loc} {cells slots : Nat} {free : Addr → Prop} {ls : Array Slot} {rest : List Value} {Qc : Array Value → State → Outcome → State → Prop} {XC : String → State → State → Prop}
    {pc : Nat} {own E : String} {ce : Cell} {q : Addr} {mc ms : Nat} (hown : s.vm.findClass own = some m.cls) (hlocks : meth.locks = false)
    (hpass : ∀ z ∈ c.exceptionTable.toList, covers z pc = false ∨ (z.catchType ≠ 0 ∧ ∃ nm : String, (Cond.classLink own z.catchType nm).before args s = true ∧ va_Nc E nm s)) (hcell : H[q]? = some ce) (hv : ce.vm = .none) (hcl : s.vm.findClass E = some ce.cls)
    (hx : ∀ t : State, t.heap = H → s.vm.Alike t.vm → XC E s t) (hf : ∀ z ∈ locs, free z.base) (hc : cells ≤ mc) (hs : slots ≤ ms) :
    vx_W p l e R s m args below meth c H locs cells slots (vx_MQ below Qc XC args s mc ms free) (F0 m pc ls rest) q := by
  intro T hT X
  have hpl : e.platform.magicAccessors = ({} : Platform).magicAccessors := by rw [X.admits.platform]
  obtain ⟨vm', hW', X', st⟩ := X.outThrough hlocks q (g := F0 m pc ls rest) rfl rfl rfl (cell := ce) (by rw [hT]; exact hcell) (by rw [hv]; rfl)
    (by obtain ⟨k9, h9, -⟩ := Vm.findClass_spec hcl; exact ⟨k9, h9⟩) (fun z hz => by
      rcases hpass z hz with h | ⟨hz0, nm, hl1, hn1⟩
      · exact Or.inl h
      · obtain ⟨c6, hc6, hcl6⟩ := Cond.classLink_spec hown hl1 e.platform hpl
        obtain ⟨a8, b8, h1, h2, h3⟩ := hn1
        cases Option.some.inj (h1.symm.trans hcl)
        cases Option.some.inj (h2.symm.trans hc6)
        exact Or.inr ⟨hz0, _, hcl6, h3⟩)
  obtain ⟨g₀, hfr⟩ := X'.frames_eq
  have hcell9 : ((T.setVm vm').setFrames (.throwing q :: below)).heap[q]? = some ce := by
    show T.heap[q]? = some ce
    rw [hT]; exact hcell
  have hend : Ended ((T.setVm vm').setFrames (.throwing q :: below)) below (.threw q) := State.frames_setFrames _ (State.cur_lt_of_frames hfr)
  refine ⟨(T.setVm vm').setFrames (.throwing q :: below), ?_, .threw q, X'.here.running, hend, Or.inr ⟨q, rfl, E, ce, locs, hx _ hT (X'.ends _).1.alike, hcell9, hv, hcl, (X'.ends _).1, (X'.ends _).2.mono hc hs, hf⟩⟩
  rw [X.pushThrowing_eq]
  exact st
/-- a thing of a world lies in the heap -/
theorem vx_lt {D : va_G} {cl : List vw_C} {ws : va_W} {H1 : Heap} (h : va_P D cl ws H1) {k : Nat} {q : Nat × va_E} (hk : ws[k]? = some q) : q.1 < H1.size := (h k q hk).lt
end VXS
/-! ===== END ===== -/
/-! ===== BEGIN methods with a table of their own: called by a name, returning or throwing ===== -/
section VXH
/-! vx_backW, vx_callVX, vx_callSX, vx_callVW, vx_runVW, vx_runVX, vx_runSX, vx_ofWH follow the same proofs as their sisters above (Free/Laws.lean, Shelf42/LK1.lean); vx_outP calls Shelf42/NT130.lean (outThrough). -/
section
variable {l : Launch} {R : Room} {p : Program} {e : Env} {below : List Frame} {s : State} {sargs : Array Value} {y : MethodName} {len W9 : Nat}
theorem vx_backW {ws : List Cond} {rm : Room} {Pc : Array Value → State → Prop} {Qc : Array Value → State → Outcome → State → Prop} {XC : String → State → State → Prop} {mc ms : Nat} {free : Addr → Prop} {bytes : ByteArray} {maxL : Nat} {ret : Option FieldType} {hh : List (Nat × Nat × Nat × Nat)}
    (hM : vx_Met l y ws rm Pc Qc XC mc ms free) (hblind : FrameBlind Pc) (hrc : rm.cells = mc) (hrs : rm.slots = ms)
    (hframes : rm.frames + 1 ≤ R.frames) (hlocals : W9 + (maxL + 11) + rm.locals ≤ R.locals)
    (hws : ∀ w ∈ ws, ∀ a' U, s.WarmedH U.vm → w.before a' U = true) (hcode : Cond.codeWith y bytes maxL ret hh ∈ ws) (hinit : ∀ a' U, s.WarmedH U.vm → (Cond.initialized y.cls).before a' U = true) :
    vx_Back l R p e below s sargs y len W9 (PreOf R mc ms Pc) (PostOf Qc mc ms free) (vx_Post XC mc ms free) := by
  intro m meth c A g ig mk a X hg hsize hdg hW hn hp
  have h1 : (headSpec ws rm).pre.before a A.U = true := atoms_intro fun w hw => hws w hw _ _ X.warmed
  have h2 : (Cond.codeWith y bytes maxL ret hh).before a A.U = true := hws _ hcode _ _ X.warmed
  have h3 : (Cond.initialized y.cls).before a A.U = true := hinit _ _ X.warmed
  have h4 : A.cells + (headSpec ws rm).room.cells ≤ R.cells := by rw [show (headSpec ws rm).room.cells = mc from hrc]; exact hp.1
  have h5 : A.slots + (headSpec ws rm).room.slots ≤ R.slots := by rw [show (headSpec ws rm).room.slots = ms from hrs]; exact hp.2.1
  have hPc : Pc a (A.U.calling g mk a) := hblind _ _ _ _ hp.2.2
  obtain ⟨U, Ls, c0, s0⟩ := A
  dsimp only [Pt.U, Pt.locs, Pt.cells, Pt.slots] at h1 h2 h3 h4 h5 X hn hPc ⊢
  obtain ⟨m9, methY, cY, hn9, hmY, hcY, -, hlY, -⟩ := Cond.codeWith_spec h2
  cases Option.some.inj (hn9.symm.trans hn)
  obtain ⟨kY, hkY, -⟩ := className_of_methodNamed hn
  have hinitY : kY.init = .initialized := Cond.initialized_spec (findClass_of_methodNamed hn) hkY h3
  have h : At U g.method c below := by rw [hg]; exact X.here
  have hlocals9 : W9 + (maxL + 11) + (headSpec ws rm).room.locals ≤ R.locals := hlocals
  have happ : (headSpec ws rm).appliesLoose y e.platform (U.calling g mk a) = true :=
    Spec.appliesLoose_calling (g := g) h hdg hn hkY hinitY
      (X.room_calling (g := g) (R' := (headSpec ws rm).room) hsize hmY hcY hframes (by rw [hlY]; omega) h4 h5) h1
  obtain ⟨mid, hmid⟩ := h.above
  have hfr : (U.setTop g).frames = (.java g :: mid) ++ below := by rw [State.frames_setTop' g h.top, hmid]; rfl
  obtain ⟨o, s₂, hsteps, -, hend, hq⟩ := Steps.callFree hM p X.admits X.cas X.clock (acts := []) hfr happ hPc trivial
  have hq' : vx_Q Qc XC mc ms free a (U.calling g mk a) o s₂ := hq
  rw [State.frames_setTop' g h.top] at hend
  obtain ⟨g₀, hg0⟩ := Option.isSome_iff_exists.mp h.top
  obtain ⟨r, hr⟩ := State.topJava?_eq_some.mp hg0
  have hr' : (({ U with heap := s₂.heap, slotsUsed := s₂.slotsUsed } : State).setVm s₂.vm).frames = .java g₀ :: r := hr
  rcases hq' with ⟨hqc, L, hfe, hL⟩ | ⟨q, rfl, E, ce, L, hx, hce, hcv, hcl, hW₂, hsm, hL⟩
  · obtain ⟨⟨v, rfl⟩, hW₂, e2, q2, q3, q4, q5, q6⟩ := id hfe
    have e3 : s₂ = ({ (U.calling g mk a).setFrames s₂.frames with heap := s₂.heap, slotsUsed := s₂.slotsUsed } : State).setVm s₂.vm := by
      have : s₂ = ({ s₂ with vm := (U.calling g mk a).vm } : State).setVm s₂.vm := rfl
      rw [e2] at this
      exact this
    obtain ⟨c₂, i₂, len₂, hc₂, hd₂, hf₂⟩ := hend
    have hW' : U.WarmedH s₂.vm := hW₂
    have hcc : c₂ = c := by
      have h1 : s₂.code? g.method = U.code? g.method := by
        rw [State.code?_eq, State.code?_eq, hW'.alike.method?]
      exact Option.some.inj (hc₂.symm.trans (h1.trans h.code))
    subst hcc
    have hlen : len₂ = len := by rw [hdg] at hd₂; cases hd₂; rfl
    subst hlen
    have hs₂ : s₂ = (({ U with heap := s₂.heap, slotsUsed := s₂.slotsUsed } : State).setVm s₂.vm).setTop { g with pc := g.pc + len₂, stack := v.toList ++ g.stack } := by
      refine e3.trans ?_
      rw [hf₂, State.calling_eq h.top, State.setFrames_setFrames, State.setTop_of_frames _ hr', hr]
      rfl
    have hsame : U.sameButNew ({ U with heap := s₂.heap, slotsUsed := s₂.slotsUsed } : State) L mc ms := by
      refine ⟨?_, q2, q3, q4, q5, q6⟩
      obtain ⟨t, ht, -⟩ := State.frames_cons hr
      show ({ U with heap := s₂.heap, slotsUsed := s₂.slotsUsed } : State) = { U.setFrames U.frames with heap := s₂.heap, slotsUsed := s₂.slotsUsed }
      rw [State.setFrames_self ht]
    subst hg
    refine Or.inl ⟨v, ⟨(({ U with heap := s₂.heap, slotsUsed := s₂.slotsUsed } : State).setVm s₂.vm), Ls ++ L, c0 + mc, s0 + ms⟩,
      ⟨X.admits, X.cas, X.clock, X.frames, X.room, X.hears, X.method, X.code, (X.here.setHeapUsed s₂.heap s₂.slotsUsed).setVm hW'.alike, X.tail, State.WarmedH.trans X.warmed hW', X.limits, X.bytes, X.same.trans (hsame.setVm s.vm)⟩,
      ⟨g, mk, s₂, L, rfl, rfl, hqc, rfl, hL, rfl, rfl⟩, ?_⟩
    show Steps p.tables e below _ ((({ U with heap := s₂.heap, slotsUsed := s₂.slotsUsed } : State).setVm s₂.vm).setTop { g with pc := g.pc + len₂, stack := v.toList ++ g.stack })
    rw [← hs₂]
    exact hsteps
  · obtain ⟨e2, q2, q3, q4, q5, q6⟩ := id hsm
    have e3 : s₂ = ({ (U.calling g mk a).setFrames s₂.frames with heap := s₂.heap, slotsUsed := s₂.slotsUsed } : State).setVm s₂.vm := by
      have : s₂ = ({ s₂ with vm := (U.calling g mk a).vm } : State).setVm s₂.vm := rfl
      rw [e2] at this
      exact this
    have hf₂ : s₂.frames = .throwing q :: .java g :: U.frames.tail := hend
    have hW' : U.WarmedH s₂.vm := hW₂
    have hs₂ : s₂ = ((({ U with heap := s₂.heap, slotsUsed := s₂.slotsUsed } : State).setVm s₂.vm).setTop g).pushFrame (.throwing q) := by
      refine e3.trans ?_
      rw [hf₂, State.calling_eq h.top, State.setFrames_setFrames, State.pushFrame, State.frames_setTop _ hr', State.setTop_of_frames _ hr', State.setFrames_setFrames, hr]
      rfl
    have hsame : U.sameButNew ({ U with heap := s₂.heap, slotsUsed := s₂.slotsUsed } : State) L mc ms := by
      refine ⟨?_, q2, q3, q4, q5, q6⟩
      obtain ⟨t, ht, -⟩ := State.frames_cons hr
      show ({ U with heap := s₂.heap, slotsUsed := s₂.slotsUsed } : State) = { U.setFrames U.frames with heap := s₂.heap, slotsUsed := s₂.slotsUsed }
      rw [State.setFrames_self ht]
    subst hg
    refine Or.inr ⟨q, ⟨(({ U with heap := s₂.heap, slotsUsed := s₂.slotsUsed } : State).setVm s₂.vm), Ls ++ L, c0 + mc, s0 + ms⟩,
      ⟨X.admits, X.cas, X.clock, X.frames, X.room, X.hears, X.method, X.code, (X.here.setHeapUsed s₂.heap s₂.slotsUsed).setVm hW'.alike, X.tail, State.WarmedH.trans X.warmed hW', X.limits, X.bytes, X.same.trans (hsame.setVm s.vm)⟩,
      ⟨g, mk, s₂, L, E, ce, rfl, rfl, hx, hce, hcv, hcl, rfl, hL, rfl, rfl⟩, ?_⟩
    show Steps p.tables e below _ (((({ U with heap := s₂.heap, slotsUsed := s₂.slotsUsed } : State).setVm s₂.vm).setTop g).pushFrame (.throwing q))
    rw [← hs₂]
    exact hsteps
end
variable {p : Program} {l : Launch} {e : Env} {R : Room} {s : State} {m : MethodId} {args : Array Value} {below : List Frame} {meth : Method} {c : Code} {T : State} {H : Heap} {locs : List Loc} {cells slots : Nat}
theorem vx_callVX (X : Stand p l e R s m args below meth c T locs cells slots) (hexec : p.tables.exec = Jvm.exec) {own C : String} {index : Nat} {y : MethodName} {bytes : ByteArray} {maxL : Nat} {ret : Option FieldType} {hh : List (Nat × Nat × Nat × Nat)}
    (hown : s.vm.findClass own = some m.cls) (hlink : (Cond.methodLink own index y).before args s = true) (hinst : (Cond.instanceMethod y).before args s = true) (hsel : (Cond.selects C y y).before args s = true)
    (hcode : (Cond.codeWith y bytes maxL ret hh).before args s = true) (hy : y.cls ≠ "java/lang/invoke/MethodHandle" ∧ y.cls ≠ "java/lang/invoke/VarHandle")
    {W9 : Nat} {Pre : Pt → Array Value → Prop} {Post : Pt → Array Value → Option Value → Pt → Prop} {PostX : Pt → Array Value → Addr → Pt → Prop} (hK : vx_Back l R p e below s args y 3 W9 Pre Post PostX)
    {b : Addr} {cellB : Cell} (hcell : T.heap[b]? = some cellB) (hobj : cellB.vm.isStatics = false) (hcls : s.vm.findClass C = some cellB.cls)
    {g : JFrame} (hg : g.method = m) (hsize : g.locals.size = c.maxLocals) {argsL rest : List Value} (hlen : ∀ sig, parseMethodDescriptor y.desc = some sig → argsL.length = sig.parameters.length)
    (hstack : g.stack = argsL.reverse ++ .ref b :: rest) (hW : 2 * g.monitorRoom + (rest.map fun v => v.category).sum ≤ W9) (hdg : decode c.code g.pc = .ok (.invokevirtual index, 3))
    (hpre : ∀ vm₁, s.WarmedH vm₁ → Pre ⟨T.setVm vm₁, locs, cells, slots⟩ (Value.ref b :: argsL).toArray) :
    (∃ (v : Option Value) (vm₁ : Vm) (B : Pt), s.WarmedH vm₁ ∧ Stand p l e R s m args below meth c B.U B.locs B.cells B.slots ∧ Post ⟨T.setVm vm₁, locs, cells, slots⟩ (Value.ref b :: argsL).toArray v B ∧
      ∀ target, Steps p.tables e below (B.U.setTop { g with pc := g.pc + 3, stack := v.toList ++ rest }) target → Steps p.tables e below (T.setTop g) target) ∨
    (∃ (q : Addr) (vm₁ : Vm) (B : Pt), s.WarmedH vm₁ ∧ Stand p l e R s m args below meth c B.U B.locs B.cells B.slots ∧ PostX ⟨T.setVm vm₁, locs, cells, slots⟩ (Value.ref b :: argsL).toArray q B ∧
      Steps p.tables e below (T.setTop g) ((B.U.setTop { g with stack := rest }).pushFrame (.throwing q))) := by
  obtain ⟨mk, methM, hnamed, hmethM, hstM, habM⟩ := Cond.instanceMethod_spec hinst
  obtain ⟨m8, methM', cM, hn8, hmethM', -, -, -, -, -, -, hsigM⟩ := Cond.codeWith_spec hcode
  cases Option.some.inj (hn8.symm.trans hnamed)
  cases hmethM.symm.trans hmethM'
  obtain ⟨c2, r2, m2, q1, q2, q3, q4, kP, hkP, hkPi⟩ := Cond.selects_spec hsel
  cases hcls.symm.trans q1
  cases (State.methodFound?_of_named hnamed hy).symm.trans q2
  cases hnamed.symm.trans q3
  have hselP : selectMethod e.platform s.vm cellB.cls mk = .method mk := by rw [Launch.admits_selectMethod X.admits]; exact q4
  obtain ⟨vm₁, X₁, hstep₁⟩ := X.invokevirtual hexec hown hlink hnamed hmethM hstM hkP hkPi hy (a := b) (cell := cellB) hcell
    (fun z h => by rw [h] at hobj; cases hobj) hselP hmethM habM hkP hkPi (g := g) hg (argsL := argsL) (rest := rest) (hlen _ hsigM) hstack hdg
  rcases hK m meth c ⟨T.setVm vm₁, locs, cells, slots⟩ { g with stack := rest } (.invokevirtual index) mk (Value.ref b :: argsL).toArray X₁ hg hsize hdg hW (X₁.named hnamed) (hpre vm₁ X₁.warmed) with ⟨v, B, X', hpost, hsteps⟩ | ⟨q, B, X', hpost, hsteps⟩
  · exact Or.inl ⟨v, vm₁, B, X₁.warmed, X', hpost, fun target h => hstep₁ _ fun acts => by rw [doInvoke_state]; exact hsteps.trans h⟩
  · exact Or.inr ⟨q, vm₁, B, X₁.warmed, X', hpost, hstep₁ _ fun acts => by rw [doInvoke_state]; exact hsteps⟩
theorem vx_callSX (X : Stand p l e R s m args below meth c T locs cells slots) (hexec : p.tables.exec = Jvm.exec) {own : String} {index : Nat} {y : MethodName} {bytes : ByteArray} {maxL : Nat} {ret : Option FieldType} {hh : List (Nat × Nat × Nat × Nat)}
    (hown : s.vm.findClass own = some m.cls) (hlink : (Cond.methodLink own index y).before args s = true) (hstat : (Cond.static y).before args s = true) (hinit : (Cond.initialized y.cls).before args s = true)
    (hcode : (Cond.codeWith y bytes maxL ret hh).before args s = true) (hy : y.cls ≠ "java/lang/invoke/MethodHandle" ∧ y.cls ≠ "java/lang/invoke/VarHandle")
    {W9 : Nat} {Pre : Pt → Array Value → Prop} {Post : Pt → Array Value → Option Value → Pt → Prop} {PostX : Pt → Array Value → Addr → Pt → Prop} (hK : vx_Back l R p e below s args y 3 W9 Pre Post PostX)
    {g : JFrame} (hg : g.method = m) (hsize : g.locals.size = c.maxLocals) {argsL rest : List Value} (hlen : ∀ sig, parseMethodDescriptor y.desc = some sig → argsL.length = sig.parameters.length)
    (hstack : g.stack = argsL.reverse ++ rest) (hW : 2 * g.monitorRoom + (rest.map fun v => v.category).sum ≤ W9) (hdg : decode c.code g.pc = .ok (.invokestatic index, 3))
    (hpre : ∀ vm₁, s.WarmedH vm₁ → Pre ⟨T.setVm vm₁, locs, cells, slots⟩ argsL.toArray) :
    (∃ (v : Option Value) (vm₁ : Vm) (B : Pt), s.WarmedH vm₁ ∧ Stand p l e R s m args below meth c B.U B.locs B.cells B.slots ∧ Post ⟨T.setVm vm₁, locs, cells, slots⟩ argsL.toArray v B ∧
      ∀ target, Steps p.tables e below (B.U.setTop { g with pc := g.pc + 3, stack := v.toList ++ rest }) target → Steps p.tables e below (T.setTop g) target) ∨
    (∃ (q : Addr) (vm₁ : Vm) (B : Pt), s.WarmedH vm₁ ∧ Stand p l e R s m args below meth c B.U B.locs B.cells B.slots ∧ PostX ⟨T.setVm vm₁, locs, cells, slots⟩ argsL.toArray q B ∧
      Steps p.tables e below (T.setTop g) ((B.U.setTop { g with stack := rest }).pushFrame (.throwing q))) := by
  obtain ⟨mk, methM, cM, hnamed, hmethM, -, -, -, -, -, -, hsigM⟩ := Cond.codeWith_spec hcode
  have hstatic : methM.isStatic = true := Cond.static_spec hnamed hmethM hstat
  obtain ⟨kP, hkP, -⟩ := className_of_methodNamed hnamed
  have hinitP : kP.init = .initialized := Cond.initialized_spec (findClass_of_methodNamed hnamed) hkP hinit
  obtain ⟨vm₁, X₁, hstep₁⟩ := X.invokestatic hexec hown hlink hnamed hmethM hstatic hkP hinitP hy (g := g) hg (argsL := argsL) (rest := rest) (hlen _ hsigM) hstack hdg
  rcases hK m meth c ⟨T.setVm vm₁, locs, cells, slots⟩ { g with stack := rest } (.invokestatic index) mk argsL.toArray X₁ hg hsize hdg hW (X₁.named hnamed) (hpre vm₁ X₁.warmed) with ⟨v, B, X', hpost, hsteps⟩ | ⟨q, B, X', hpost, hsteps⟩
  · exact Or.inl ⟨v, vm₁, B, X₁.warmed, X', hpost, fun target h => hstep₁ _ fun acts => by rw [doInvoke_state]; exact hsteps.trans h⟩
  · exact Or.inr ⟨q, vm₁, B, X₁.warmed, X', hpost, hstep₁ _ fun acts => by rw [doInvoke_state]; exact hsteps⟩
theorem vx_callVW (X : Stand p l e R s m args below meth c T locs cells slots) (hexec : p.tables.exec = Jvm.exec) {own C : String} {index : Nat} {y : MethodName} {bytes : ByteArray} {maxL : Nat} {ret : Option FieldType} {hh : List (Nat × Nat × Nat × Nat)}
    (hown : s.vm.findClass own = some m.cls) (hlink : (Cond.methodLink own index y).before args s = true) (hinst : (Cond.instanceMethod y).before args s = true) (hsel : (Cond.selects C y y).before args s = true)
    (hcode : (Cond.codeWith y bytes maxL ret hh).before args s = true) (hy : y.cls ≠ "java/lang/invoke/MethodHandle" ∧ y.cls ≠ "java/lang/invoke/VarHandle")
    {W9 : Nat} {Pre : Pt → Array Value → Prop} {Post : Pt → Array Value → Option Value → Pt → Prop} (hK : Back l R p e below s args y 3 W9 Pre Post)
    {b : Addr} {cellB : Cell} (hcell : T.heap[b]? = some cellB) (hobj : cellB.vm.isStatics = false) (hcls : s.vm.findClass C = some cellB.cls)
    {g : JFrame} (hg : g.method = m) (hsize : g.locals.size = c.maxLocals) {argsL rest : List Value} (hlen : ∀ sig, parseMethodDescriptor y.desc = some sig → argsL.length = sig.parameters.length)
    (hstack : g.stack = argsL.reverse ++ .ref b :: rest) (hW : 2 * g.monitorRoom + (rest.map fun v => v.category).sum ≤ W9) (hdg : decode c.code g.pc = .ok (.invokevirtual index, 3))
    (hpre : ∀ vm₁, s.WarmedH vm₁ → Pre ⟨T.setVm vm₁, locs, cells, slots⟩ (Value.ref b :: argsL).toArray) :
    ∃ (v : Option Value) (vm₁ : Vm) (B : Pt), s.WarmedH vm₁ ∧ Stand p l e R s m args below meth c B.U B.locs B.cells B.slots ∧ Post ⟨T.setVm vm₁, locs, cells, slots⟩ (Value.ref b :: argsL).toArray v B ∧
      ∀ target, Steps p.tables e below (B.U.setTop { g with pc := g.pc + 3, stack := v.toList ++ rest }) target → Steps p.tables e below (T.setTop g) target := by
  obtain ⟨mk, methM, hnamed, hmethM, hstM, habM⟩ := Cond.instanceMethod_spec hinst
  obtain ⟨m8, methM', cM, hn8, hmethM', -, -, -, -, -, -, hsigM⟩ := Cond.codeWith_spec hcode
  cases Option.some.inj (hn8.symm.trans hnamed)
  cases hmethM.symm.trans hmethM'
  obtain ⟨c2, r2, m2, q1, q2, q3, q4, kP, hkP, hkPi⟩ := Cond.selects_spec hsel
  cases hcls.symm.trans q1
  cases (State.methodFound?_of_named hnamed hy).symm.trans q2
  cases hnamed.symm.trans q3
  have hselP : selectMethod e.platform s.vm cellB.cls mk = .method mk := by rw [Launch.admits_selectMethod X.admits]; exact q4
  obtain ⟨vm₁, X₁, hstep₁⟩ := X.invokevirtual hexec hown hlink hnamed hmethM hstM hkP hkPi hy (a := b) (cell := cellB) hcell
    (fun z h => by rw [h] at hobj; cases hobj) hselP hmethM habM hkP hkPi (g := g) hg (argsL := argsL) (rest := rest) (hlen _ hsigM) hstack hdg
  obtain ⟨v, B, X', hpost, hsteps⟩ := hK m meth c ⟨T.setVm vm₁, locs, cells, slots⟩ { g with stack := rest } (.invokevirtual index) mk (Value.ref b :: argsL).toArray X₁ hg hsize hdg hW (X₁.named hnamed) (hpre vm₁ X₁.warmed)
  exact ⟨v, vm₁, B, X₁.warmed, X', hpost, fun target h => hstep₁ _ fun acts => by rw [doInvoke_state]; exact hsteps.trans h⟩
abbrev vx_CVW (R : Room) (s : State) (args : Array Value) (own C : String) (index : Nat) (y : MethodName) (bytes : ByteArray) (maxL : Nat) (ret : Option FieldType) (hh : List (Nat × Nat × Nat × Nat)) (ws : List Cond) (rm : Room) (mc ms n : Nat) : Prop :=
  (rm.cells = mc ∧ rm.slots = ms ∧ rm.frames + 1 ≤ R.frames ∧ 8 + (maxL + 11) + rm.locals ≤ R.locals ∧ (∀ w ∈ ws, ∀ (a' : Array Value) (U : State), s.WarmedH U.vm → w.before a' U = true) ∧ Cond.codeWith y bytes maxL ret hh ∈ ws) ∧
  (Cond.codeWith y bytes maxL ret hh).before args s = true ∧ (Cond.initialized y.cls).before args s = true ∧ (y.cls ≠ "java/lang/invoke/MethodHandle" ∧ y.cls ≠ "java/lang/invoke/VarHandle") ∧
  (∀ sig, parseMethodDescriptor y.desc = some sig → n = sig.parameters.length) ∧ (Cond.methodLink own index y).before args s = true ∧ (Cond.instanceMethod y).before args s = true ∧ (Cond.selects C y y).before args s = true
theorem vx_cwVW {own C : String} {index maxL mc ms : Nat} {y : MethodName} {bytes : ByteArray} {ret : Option FieldType} {hh : List (Nat × Nat × Nat × Nat)} {Ts ws ws' : List Cond} {rm : Room} (n : Nat) (ht : ∀ w ∈ Ts, w.before args s = true) (hT : GoodIn Ts (wsV own index C y ws)) (hw : ws = Cond.codeWith y bytes maxL ret hh :: ws') (hrc : rm.cells = mc) (hrs : rm.slots = ms)
    (hd : y.cls = C ∧ y.cls ≠ "java/lang/invoke/MethodHandle" ∧ y.cls ≠ "java/lang/invoke/VarHandle" ∧ (parseMethodDescriptor y.desc).map (fun d => d.parameters.length) = some n) (hR : rm.frames + 1 ≤ R.frames ∧ 8 + (maxL + 11) + rm.locals ≤ R.locals) :
    vx_CVW R s args own C index y bytes maxL ret hh ws rm mc ms n := by
  obtain ⟨hC, hd⟩ := hd
  subst hC
  have ok : ∀ w ∈ wsV own index y.cls y ws, w.before args s = true := fun w h => ht w (hT w h).1
  have hG : GoodIn Ts ws := fun w h => hT w (by unfold wsV; exact List.mem_append_right _ h)
  have hc : Cond.codeWith y bytes maxL ret hh ∈ ws := by rw [hw]; exact List.mem_cons_self
  refine ⟨⟨hrc, hrs, hR.1, hR.2, pay_in ht hG, hc⟩, ht _ (hG _ hc).1, ok _ (by simp [wsV]), ⟨hd.1, hd.2.1⟩, fun sig h => ?_, ok _ (by simp [wsV]), ok _ (by simp [wsV]), ok _ (by simp [wsV])⟩
  have h2 := hd.2.2
  rw [h] at h2
  exact (Option.some.inj h2).symm
theorem vx_runVW {y : MethodName} {bytes cc : ByteArray} {maxL nL mc ms n index : Nat} {ret : Option FieldType} {hh : List (Nat × Nat × Nat × Nat)} {ws : List Cond} {rm : Room} {Pc : Array Value → State → Prop} {Qc : Array Value → State → Outcome → State → Prop} {free : Addr → Prop} {Ts : List Cond} {own C : String} {b : Addr} {As rest : List Value} {g : JFrame}
    (S : CallFix p m c cc nL s args Ts own) (hM : Met l y ws rm Pc Qc mc ms free) (cw : vx_CVW R s args own C index y bytes maxL ret hh ws rm mc ms n) (hp : PreV s H C b Pc As)
    (hg : g.method = m) (hn : As.length = n) (hsize : g.locals.size = nL) (hstack : g.stack = As.reverse ++ .ref b :: rest) (hW : 2 * g.monitorRoom + (rest.map fun v => v.category).sum ≤ 8) (hdg : decode cc g.pc = .ok (.invokevirtual index, 3)) (hf : cells + mc ≤ R.cells ∧ slots + ms ≤ R.slots) :
    va_Run p l e R s m args below meth c H locs cells slots mc ms g rest (Qc (Value.ref b :: As).toArray) free := by
  obtain ⟨⟨hrc, hrs, hfr, hlo, hws, hcw⟩, hcode, hini, hy, hlen, hl, hin, hse⟩ := cw
  have hK : Back l R p e below s args y 3 8 (PreOf R mc ms Pc) (PostOf Qc mc ms free) := va_backW (hh := hh) (bytes := bytes) (maxL := maxL) (ret := ret) hM hp.1 hrc hrs hfr hlo hws hcw (fun a' U hW => word_at hW (Or.inl (by first | rfl | simp [Cond.onTables, Cond.keeps, Cond.steady])) hini)
  obtain ⟨hx, hb, hml, ho, -⟩ := S
  obtain ⟨-, ⟨cellB, hcB, hoB, hclB⟩, hPc⟩ := hp
  intro T hT X
  obtain ⟨v, vm₁, ⟨U', l2, c2, s2⟩, hW₁, X', ⟨g', mk, t, L, e1, e2, hq, h1, hL, h2, h3⟩, st⟩ := vx_callVW X hx (C := C) (hh := hh) (bytes := bytes) (maxL := maxL) (ret := ret) ho hl hin hse hcode hy hK (by rw [hT]; exact hcB) hoB hclB hg (hsize.trans hml.symm) (argsL := As) (rest := rest) (fun sig h => hn.trans (hlen sig h)) hstack hW (by rw [hb]; exact hdg)
    (fun vm₁ hW₁ => ⟨hf.1, hf.2, hPc (T.setVm vm₁) hT hW₁⟩)
  dsimp only [Pt.U, Pt.locs, Pt.cells, Pt.slots] at X' e1 e2 h1 h2 h3 st
  subst h1; subst h2; subst h3
  exact ⟨v, (T.setVm vm₁).calling g' mk (Value.ref b :: As).toArray, t, U', L, hT, X', hL, e1, e2, hq, st⟩
section
variable {y : MethodName} {bytes cc : ByteArray} {maxL nL mc ms n index : Nat} {ret : Option FieldType} {ws : List Cond} {rm : Room} {Pc : Array Value → State → Prop} {Qc : Array Value → State → Outcome → State → Prop} {XC : String → State → State → Prop} {free : Addr → Prop} {Ts : List Cond} {own C : String} {b : Addr} {As rest : List Value} {g : JFrame}
theorem vx_runVX {hh : List (Nat × Nat × Nat × Nat)} (S : CallFix p m c cc nL s args Ts own) (hM : vx_Met l y ws rm Pc Qc XC mc ms free) (cw : vx_CVW R s args own C index y bytes maxL ret hh ws rm mc ms n) (hp : PreV s H C b Pc As)
    (hg : g.method = m) (hn : As.length = n) (hsize : g.locals.size = nL) (hstack : g.stack = As.reverse ++ .ref b :: rest) (hW : 2 * g.monitorRoom + (rest.map fun v => v.category).sum ≤ 8) (hdg : decode cc g.pc = .ok (.invokevirtual index, 3)) (hf : cells + mc ≤ R.cells ∧ slots + ms ≤ R.slots) :
    vx_Run p l e R s m args below meth c H locs cells slots mc ms g rest (Qc (Value.ref b :: As).toArray) XC free := by
  obtain ⟨⟨hrc, hrs, hfr, hlo, hws, hcw⟩, hcode, hini, hy, hlen, hl, hin, hse⟩ := cw
  have hK : vx_Back l R p e below s args y 3 8 (PreOf R mc ms Pc) (PostOf Qc mc ms free) (vx_Post XC mc ms free) := vx_backW (hh := hh) (bytes := bytes) (maxL := maxL) (ret := ret) hM hp.1 hrc hrs hfr hlo hws hcw (fun a' U hW => word_at hW (Or.inl (by first | rfl | simp [Cond.onTables, Cond.keeps, Cond.steady])) hini)
  obtain ⟨hx, hb, hml, ho, -⟩ := S
  obtain ⟨-, ⟨cellB, hcB, hoB, hclB⟩, hPc⟩ := hp
  intro T hT X
  rcases vx_callVX X hx (C := C) (hh := hh) (bytes := bytes) (maxL := maxL) (ret := ret) ho hl hin hse hcode hy hK (by rw [hT]; exact hcB) hoB hclB hg (hsize.trans hml.symm) (argsL := As) (rest := rest) (fun sig h => hn.trans (hlen sig h)) hstack hW (by rw [hb]; exact hdg)
    (fun vm₁ hW₁ => ⟨hf.1, hf.2, hPc (T.setVm vm₁) hT hW₁⟩) with ⟨v, vm₁, ⟨U', l2, c2, s2⟩, hW₁, X', ⟨g', mk, t, L, e1, e2, hq, h1, hL, h2, h3⟩, st⟩ | ⟨q, vm₁, ⟨U', l2, c2, s2⟩, hW₁, X', ⟨g', mk, t, L, E, ce, e1, e2, hq, hce, hcv, hcl, h1, hL, h2, h3⟩, st⟩
  · dsimp only [Pt.U, Pt.locs, Pt.cells, Pt.slots] at X' e1 e2 h1 h2 h3 st
    subst h1; subst h2; subst h3
    exact Or.inl ⟨v, (T.setVm vm₁).calling g' mk (Value.ref b :: As).toArray, t, U', L, hT, X', hL, e1, e2, hq, st⟩
  · dsimp only [Pt.U, Pt.locs, Pt.cells, Pt.slots] at X' e1 e2 h1 h2 h3 st hcl
    subst h1; subst h2; subst h3
    exact Or.inr ⟨q, (T.setVm vm₁).calling g' mk (Value.ref b :: As).toArray, t, U', L, E, ce, hT, X', hL, e1, e2, hq, hce, hcv, vx_cls hW₁ hcl, st⟩
theorem vx_runSX {hh : List (Nat × Nat × Nat × Nat)} (S : CallFix p m c cc nL s args Ts own) (hM : vx_Met l y ws rm Pc Qc XC mc ms free) (cw : vx_CSW R s args own index y bytes maxL ret hh ws rm mc ms n) (hp : PreS s H Pc As)
    (hg : g.method = m) (hn : As.length = n) (hsize : g.locals.size = nL) (hstack : g.stack = As.reverse ++ rest) (hW : 2 * g.monitorRoom + (rest.map fun v => v.category).sum ≤ 8) (hdg : decode cc g.pc = .ok (.invokestatic index, 3)) (hf : cells + mc ≤ R.cells ∧ slots + ms ≤ R.slots) :
    vx_Run p l e R s m args below meth c H locs cells slots mc ms g rest (Qc As.toArray) XC free := by
  obtain ⟨⟨hrc, hrs, hfr, hlo, hws, hcw⟩, hcode, hini, hy, hlen, hl, hstt⟩ := cw
  have hK : vx_Back l R p e below s args y 3 8 (PreOf R mc ms Pc) (PostOf Qc mc ms free) (vx_Post XC mc ms free) := vx_backW (hh := hh) (bytes := bytes) (maxL := maxL) (ret := ret) hM hp.1 hrc hrs hfr hlo hws hcw (fun a' U hW => word_at hW (Or.inl (by first | rfl | simp [Cond.onTables, Cond.keeps, Cond.steady])) hini)
  obtain ⟨hx, hb, hml, ho, -⟩ := S
  intro T hT X
  rcases vx_callSX X hx (hh := hh) (bytes := bytes) (maxL := maxL) (ret := ret) ho hl hstt hini hcode hy hK hg (hsize.trans hml.symm) (argsL := As) (rest := rest) (fun sig h => hn.trans (hlen sig h)) hstack hW (by rw [hb]; exact hdg)
    (fun vm₁ hW₁ => ⟨hf.1, hf.2, hp.2 (T.setVm vm₁) hT hW₁⟩) with ⟨v, vm₁, ⟨U', l2, c2, s2⟩, hW₁, X', ⟨g', mk, t, L, e1, e2, hq, h1, hL, h2, h3⟩, st⟩ | ⟨q, vm₁, ⟨U', l2, c2, s2⟩, hW₁, X', ⟨g', mk, t, L, E, ce, e1, e2, hq, hce, hcv, hcl, h1, hL, h2, h3⟩, st⟩
  · dsimp only [Pt.U, Pt.locs, Pt.cells, Pt.slots] at X' e1 e2 h1 h2 h3 st
    subst h1; subst h2; subst h3
    exact Or.inl ⟨v, (T.setVm vm₁).calling g' mk As.toArray, t, U', L, hT, X', hL, e1, e2, hq, st⟩
  · dsimp only [Pt.U, Pt.locs, Pt.cells, Pt.slots] at X' e1 e2 h1 h2 h3 st hcl
    subst h1; subst h2; subst h3
    exact Or.inr ⟨q, (T.setVm vm₁).calling g' mk As.toArray, t, U', L, E, ce, hT, X', hL, e1, e2, hq, hce, hcv, vx_cls hW₁ hcl, st⟩
end
end VXH
theorem vx_ofWH {l : Launch} {y : MethodName} {ws ws' : List Cond} {rm : Room} {Pc : Array Value → State → Prop} {Qc : Array Value → State → Outcome → State → Prop} {XC : String → State → State → Prop} {mc ms : Nat} {free : Addr → Prop} {cc : ByteArray} {maxL : Nat} {ret : Option FieldType} {hh : List (Nat × Nat × Nat × Nat)}
    (hy : plainName y.cls = true) (hw : ws = Cond.codeWith y cc maxL ret hh :: ws')
    (body : ∀ p e s m args below meth c s₁, BodyLoose p l y (headSpec ws rm) cc maxL ret e s m args below meth c s₁ → c.maxLocals = maxL → Pc args s →
      W p l e (headSpec ws rm).room s m args below meth c s.heap [] 0 0 (vx_MQ below Qc XC args s mc ms free) (entryFrame m args maxL)) : vx_Met l y ws rm Pc Qc XC mc ms free := by
  refine MetFree.of_bodyS (code := cc) (maxLocals := maxL) (ret := ret) hy ?_ ?_
  · intro args s m h hn
    obtain ⟨m9, meth, c, hn9, h1, h2, h3, h4, -, h5, h6, -⟩ := Cond.codeWith_spec (atoms_spec (ws := ws) h _ (by rw [hw]; exact List.mem_cons_self))
    cases hn.symm.trans hn9
    exact ⟨meth, c, h1, h2, h3, h4, h5, h6⟩
  · intro p e s m args below meth c s₁ B hml hP _
    have hh0 : s₁.heap = s.heap := by rw [B.state]; rfl
    obtain ⟨t, a1, o, b1, b2, b3⟩ := body p e s m args below meth c s₁ B hml hP s₁ hh0 (Stand.of_body B)
    exact ⟨t, o, a1, b1, b2, b3⟩
/-! ===== END ===== -/
end
section
/-! ===== BEGIN printed: names, fields, word lists, decode rows ===== -/
def RX0 : String := "ShortWork$Course"
def TX0 : u_T := fun k => match k with
  | 0 => ("ShortWork$Course", "from", "I", true)
  | 1 => ("ShortWork$Course", "to", "I", true)
  | 2 => ("ShortWork$Course", "hours", "I", true)
  | _ => ("ShortWork$Course", "seatsLeft", "I", false)
def tyX0 : Nat → FieldType := fun k => match k with
  | 0 => .int
  | 1 => .int
  | 2 => .int
  | _ => .int
abbrev wsX00 : List Cond := u_ws RX0 TX0 4
theorem nmX0 : ∀ a, a < 4 → ∀ b, b < 4 → a ≠ b → (TX0 a).2.1 ≠ (TX0 b).2.1 := by decide +kernel
theorem tyX0_ok : ∀ k, k < 4 → parseFieldDescriptor (TX0 k).2.2.1 = some (tyX0 k) := by decide +kernel
abbrev cX0_init : ByteArray := prog_2_method_1_code
def yX0_init : MethodName := ⟨RX0, "<init>", "(IIII)V"⟩
def RX1 : String := "ShortWork$Worker"
def TX1 : u_T := fun k => match k with
  | 0 => ("ShortWork$Worker", "fullPay", "I", true)
  | 1 => ("ShortWork$Worker", "hasChildren", "Z", true)
  | 2 => ("ShortWork$Worker", "cutHours", "[I", true)
  | 3 => ("ShortWork$Worker", "courseHours", "[I", true)
  | 4 => ("ShortWork$Worker", "firmPay", "[I", true)
  | 5 => ("ShortWork$Worker", "fundPay", "[I", true)
  | 6 => ("ShortWork$Worker", "doorHours", "[I", true)
  | 7 => ("ShortWork$Worker", "mailed", "[Z", true)
  | 8 => ("ShortWork$Worker", "noticeCount", "I", false)
  | 9 => ("ShortWork$Worker", "cutWeekCount", "I", false)
  | 10 => ("ShortWork$Worker", "received", "I", false)
  | _ => ("ShortWork$Worker", "debt", "I", false)
def tyX1 : Nat → FieldType := fun k => match k with
  | 0 => .int
  | 1 => .boolean
  | 2 => .array .int
  | 3 => .array .int
  | 4 => .array .int
  | 5 => .array .int
  | 6 => .array .int
  | 7 => .array .boolean
  | 8 => .int
  | 9 => .int
  | 10 => .int
  | _ => .int
abbrev wsX10 : List Cond := u_ws RX1 TX1 12
theorem nmX1 : ∀ a, a < 12 → ∀ b, b < 12 → a ≠ b → (TX1 a).2.1 ≠ (TX1 b).2.1 := by decide +kernel
theorem tyX1_ok : ∀ k, k < 12 → parseFieldDescriptor (TX1 k).2.2.1 = some (tyX1 k) := by decide +kernel
abbrev cX1_init : ByteArray := prog_3_method_1_code
def yX1_init : MethodName := ⟨RX1, "<init>", "(IZ)V"⟩
abbrev cX1_takeNotice : ByteArray := prog_3_method_2_code
def yX1_takeNotice : MethodName := ⟨RX1, "takeNotice", "(III)V"⟩
abbrev cX1_hasNoCourseFrom : ByteArray := prog_3_method_3_code
def yX1_hasNoCourseFrom : MethodName := ⟨RX1, "hasNoCourseFrom", "(II)Z"⟩
abbrev cX1_goTo : ByteArray := prog_3_method_4_code
def yX1_goTo : MethodName := ⟨RX1, "goTo", "(LShortWork$Course;)V"⟩
abbrev cX1_hasFilled : ByteArray := prog_3_method_5_code
def yX1_hasFilled : MethodName := ⟨RX1, "hasFilled", "(I)Z"⟩
abbrev cX1_payFor : ByteArray := prog_3_method_6_code
def yX1_payFor : MethodName := ⟨RX1, "payFor", "(II)I"⟩
abbrev cX1_madeUpPercent : ByteArray := prog_3_method_7_code
def yX1_madeUpPercent : MethodName := ⟨RX1, "madeUpPercent", "(I)I"⟩
abbrev cX1_stepPercent : ByteArray := prog_3_method_8_code
def yX1_stepPercent : MethodName := ⟨RX1, "stepPercent", "()I"⟩
abbrev cX1_hasWorkedTooMuch : ByteArray := prog_3_method_9_code
def yX1_hasWorkedTooMuch : MethodName := ⟨RX1, "hasWorkedTooMuch", "(I)Z"⟩
def RX2 : String := "ShortWork"
def TX2 : u_T := fun k => match k with
  | 0 => ("ShortWork", "staff", "[LShortWork$Worker;", true)
  | 1 => ("ShortWork", "courses", "[LShortWork$Course;", true)
  | 2 => ("ShortWork", "checked", "[Z", true)
  | 3 => ("ShortWork", "workerCount", "I", false)
  | 4 => ("ShortWork", "courseCount", "I", false)
  | 5 => ("ShortWork", "currentWeek", "I", false)
  | 6 => ("ShortWork", "floorPercent", "I", false)
  | _ => ("ShortWork", "firmDebt", "I", false)
def tyX2 : Nat → FieldType := fun k => match k with
  | 0 => .array (.object "ShortWork$Worker")
  | 1 => .array (.object "ShortWork$Course")
  | 2 => .array .boolean
  | 3 => .int
  | 4 => .int
  | 5 => .int
  | 6 => .int
  | _ => .int
abbrev wsX20 : List Cond := u_ws RX2 TX2 8
theorem nmX2 : ∀ a, a < 8 → ∀ b, b < 8 → a ≠ b → (TX2 a).2.1 ≠ (TX2 b).2.1 := by decide +kernel
theorem tyX2_ok : ∀ k, k < 8 → parseFieldDescriptor (TX2 k).2.2.1 = some (tyX2 k) := by decide +kernel
abbrev cX2_init : ByteArray := prog_1_method_1_code
def yX2_init : MethodName := ⟨RX2, "<init>", "()V"⟩
abbrev cX2_add : ByteArray := prog_1_method_2_code
def yX2_add : MethodName := ⟨RX2, "add", "(IZ)I"⟩
abbrev cX2_notice : ByteArray := prog_1_method_3_code
def yX2_notice : MethodName := ⟨RX2, "notice", "(IIII)I"⟩
abbrev cX2_addCourse : ByteArray := prog_1_method_4_code
def yX2_addCourse : MethodName := ⟨RX2, "addCourse", "(IIII)I"⟩
abbrev cX2_enrol : ByteArray := prog_1_method_5_code
def yX2_enrol : MethodName := ⟨RX2, "enrol", "(II)I"⟩
abbrev cX2_setFloor : ByteArray := prog_1_method_6_code
def yX2_setFloor : MethodName := ⟨RX2, "setFloor", "(I)I"⟩
abbrev cX2_workers : ByteArray := prog_1_method_7_code
def yX2_workers : MethodName := ⟨RX2, "workers", "()I"⟩
abbrev cX2_cut : ByteArray := prog_1_method_8_code
def yX2_cut : MethodName := ⟨RX2, "cut", "(II)I"⟩
abbrev cX2_isFilled : ByteArray := prog_1_method_9_code
def yX2_isFilled : MethodName := ⟨RX2, "isFilled", "(II)Z"⟩
abbrev cX2_pass : ByteArray := prog_1_method_10_code
def yX2_pass : MethodName := ⟨RX2, "pass", "(I)I"⟩
abbrev cX2_week : ByteArray := prog_1_method_11_code
def yX2_week : MethodName := ⟨RX2, "week", "()I"⟩
abbrev cX2_paid : ByteArray := prog_1_method_12_code
def yX2_paid : MethodName := ⟨RX2, "paid", "(II)I"⟩
abbrev cX2_madeUp : ByteArray := prog_1_method_13_code
def yX2_madeUp : MethodName := ⟨RX2, "madeUp", "(II)I"⟩
abbrev cX2_cutWeeks : ByteArray := prog_1_method_14_code
def yX2_cutWeeks : MethodName := ⟨RX2, "cutWeeks", "(I)I"⟩
abbrev cX2_door : ByteArray := prog_1_method_15_code
def yX2_door : MethodName := ⟨RX2, "door", "(III)V"⟩
abbrev cX2_mail : ByteArray := prog_1_method_16_code
def yX2_mail : MethodName := ⟨RX2, "mail", "(II)V"⟩
abbrev cX2_check : ByteArray := prog_1_method_17_code
def yX2_check : MethodName := ⟨RX2, "check", "(I)I"⟩
abbrev cX2_firmOwes : ByteArray := prog_1_method_18_code
def yX2_firmOwes : MethodName := ⟨RX2, "firmOwes", "()I"⟩
abbrev cX2_owes : ByteArray := prog_1_method_19_code
def yX2_owes : MethodName := ⟨RX2, "owes", "(I)I"⟩
abbrev cX2_net : ByteArray := prog_1_method_20_code
def yX2_net : MethodName := ⟨RX2, "net", "(I)I"⟩
abbrev cX2_payCurrentWeek : ByteArray := prog_1_method_21_code
def yX2_payCurrentWeek : MethodName := ⟨RX2, "payCurrentWeek", "()I"⟩
abbrev cX2_chargeBack : ByteArray := prog_1_method_22_code
def yX2_chargeBack : MethodName := ⟨RX2, "chargeBack", "(LShortWork$Worker;I)V"⟩
abbrev cX2_workerAt : ByteArray := prog_1_method_23_code
def yX2_workerAt : MethodName := ⟨RX2, "workerAt", "(I)LShortWork$Worker;"⟩
abbrev cX2_courseAt : ByteArray := prog_1_method_24_code
def yX2_courseAt : MethodName := ⟨RX2, "courseAt", "(I)LShortWork$Course;"⟩
abbrev cX2_hasPassed : ByteArray := prog_1_method_25_code
def yX2_hasPassed : MethodName := ⟨RX2, "hasPassed", "(I)Z"⟩
abbrev cX2_isSpan : ByteArray := prog_1_method_26_code
def yX2_isSpan : MethodName := ⟨RX2, "isSpan", "(II)Z"⟩
abbrev cX2_isWithin : ByteArray := prog_1_method_27_code
def yX2_isWithin : MethodName := ⟨RX2, "isWithin", "(III)Z"⟩
abbrev cX2_requireArgument : ByteArray := prog_1_method_28_code
def yX2_requireArgument : MethodName := ⟨RX2, "requireArgument", "(Z)V"⟩
abbrev cX2_requireState : ByteArray := prog_1_method_29_code
def yX2_requireState : MethodName := ⟨RX2, "requireState", "(Z)V"⟩
def RX3 : String := "ShortWorkModel"
def TX3 : u_T := fun k => match k with
  | _ => ("", "", "", false)
def tyX3 : Nat → FieldType := fun k => match k with
  | _ => .int
abbrev wsX30 : List Cond := u_ws RX3 TX3 0
theorem nmX3 : ∀ a, a < 0 → ∀ b, b < 0 → a ≠ b → (TX3 a).2.1 ≠ (TX3 b).2.1 := by decide +kernel
theorem tyX3_ok : ∀ k, k < 0 → parseFieldDescriptor (TX3 k).2.2.1 = some (tyX3 k) := by decide +kernel
def RJ9 : String := "java/lang/Math"
def TJ9 : u_T := fun k => match k with
  | _ => ("", "", "", false)
def tyJ9 : Nat → FieldType := fun k => match k with
  | _ => .int
abbrev wsJ90 : List Cond := u_ws RJ9 TJ9 0
theorem nmJ9 : ∀ a, a < 0 → ∀ b, b < 0 → a ≠ b → (TJ9 a).2.1 ≠ (TJ9 b).2.1 := by decide +kernel
theorem tyJ9_ok : ∀ k, k < 0 → parseFieldDescriptor (TJ9 k).2.2.1 = some (tyJ9 k) := by decide +kernel
abbrev cJ9_max_7cf53 : ByteArray := prog_10_method_65_code
def yJ9_max_7cf53 : MethodName := ⟨RJ9, "max", "(II)I"⟩
def RL : String := "ShortWorkLaw"
abbrev cL_cell : ByteArray := method_2_code
def yL_cell : MethodName := ⟨RL, "cell", "([II)I"⟩
abbrev cL_some : ByteArray := method_3_code
def yL_some : MethodName := ⟨RL, "some", "(II)I"⟩
abbrev cL_call : ByteArray := method_4_code
def yL_call : MethodName := ⟨RL, "call", "(LShortWork;IIIII)I"⟩
abbrev cL_does : ByteArray := method_5_code
def yL_does : MethodName := ⟨RL, "does", "(LShortWork;IIIII)I"⟩
abbrev cL_all : ByteArray := method_6_code
def yL_all : MethodName := ⟨RL, "all", "(LShortWork;)J"⟩
abbrev cL_kept : ByteArray := method_7_code
def yL_kept : MethodName := ⟨RL, "kept", "(LShortWork;)Z"⟩
abbrev cL_notices : ByteArray := method_8_code
def yL_notices : MethodName := ⟨RL, "notices", "(LShortWork;IIZ)Z"⟩
abbrev cL_courses : ByteArray := method_9_code
def yL_courses : MethodName := ⟨RL, "courses", "(LShortWork;[IIIZ)Z"⟩
abbrev cL_passes : ByteArray := method_10_code
def yL_passes : MethodName := ⟨RL, "passes", "(LShortWork;I)Z"⟩
abbrev cL_checks : ByteArray := method_11_code
def yL_checks : MethodName := ⟨RL, "checks", "(LShortWork;IIZ)Z"⟩
abbrev cL_law : ByteArray := code
def yL_law : MethodName := ⟨RL, "law", "([I)Z"⟩
def wsX0_init : List Cond := .code yX0_init cX0_init 5 none :: ([.methodLink RX0 1 objectInit, .instanceMethod objectInit, .code objectInit ⟨#[0xb1]⟩ 1 none, .fieldLink RX0 7 "ShortWork$Course" "from" "I", .fieldLink RX0 13 "ShortWork$Course" "to" "I", .fieldLink RX0 16 "ShortWork$Course" "hours" "I", .fieldLink RX0 19 "ShortWork$Course" "seatsLeft" "I"] ++ wsX00)
def wsX1_init : List Cond := .code yX1_init cX1_init 3 none :: ([.methodLink RX1 3 objectInit, .instanceMethod objectInit, .code objectInit ⟨#[0xb1]⟩ 1 none, .fieldLink RX1 9 "ShortWork$Worker" "fullPay" "I", .fieldLink RX1 15 "ShortWork$Worker" "hasChildren" "Z", .arrayClass .int, .fieldLink RX1 19 "ShortWork$Worker" "cutHours" "[I", .fieldLink RX1 23 "ShortWork$Worker" "courseHours" "[I", .fieldLink RX1 26 "ShortWork$Worker" "firmPay" "[I", .fieldLink RX1 29 "ShortWork$Worker" "fundPay" "[I", .fieldLink RX1 32 "ShortWork$Worker" "doorHours" "[I", .arrayClass .boolean, .fieldLink RX1 35 "ShortWork$Worker" "mailed" "[Z"] ++ wsX10)
def wsX1_takeNotice : List Cond := .code yX1_takeNotice cX1_takeNotice 5 none :: ([.fieldLink RX1 19 "ShortWork$Worker" "cutHours" "[I", .fieldLink RX1 39 "ShortWork$Worker" "noticeCount" "I"] ++ wsX10)
def wsX1_hasNoCourseFrom : List Cond := .code yX1_hasNoCourseFrom cX1_hasNoCourseFrom 4 (some .boolean) :: ([.fieldLink RX1 23 "ShortWork$Worker" "courseHours" "[I"] ++ wsX10)
def wsX1_goTo : List Cond := .code yX1_goTo cX1_goTo 3 none :: ([.fieldLink RX1 23 "ShortWork$Worker" "courseHours" "[I"] ++ wsX00 ++ wsX10)
def wsX1_hasFilled : List Cond := .code yX1_hasFilled cX1_hasFilled 2 (some .boolean) :: ([.fieldLink RX1 23 "ShortWork$Worker" "courseHours" "[I", .fieldLink RX1 19 "ShortWork$Worker" "cutHours" "[I"] ++ wsX10)
def wsX1_stepPercent : List Cond := .code yX1_stepPercent cX1_stepPercent 1 (some .int) :: ([.fieldLink RX1 66 "ShortWork$Worker" "cutWeekCount" "I"] ++ wsX10)
def wsX1_madeUpPercent : List Cond := .code yX1_madeUpPercent cX1_madeUpPercent 3 (some .int) :: ([.fieldLink RX1 15 "ShortWork$Worker" "hasChildren" "Z", .fieldLink RX1 66 "ShortWork$Worker" "cutWeekCount" "I", .methodLink RX1 69 yX1_stepPercent, .instanceMethod yX1_stepPercent, .selects RX1 yX1_stepPercent yX1_stepPercent, .initialized RX1, .code yX1_stepPercent cX1_stepPercent 1 (some .int), .methodLink RX1 73 yX1_hasFilled, .instanceMethod yX1_hasFilled, .selects RX1 yX1_hasFilled yX1_hasFilled, .code yX1_hasFilled cX1_hasFilled 2 (some .boolean), .fieldLink RX1 23 "ShortWork$Worker" "courseHours" "[I", .fieldLink RX1 19 "ShortWork$Worker" "cutHours" "[I"] ++ wsX10)
def wsX1_payFor_r1 : List Cond := [Cond.fieldLink RX1 9 "ShortWork$Worker" "fullPay" "I", Cond.fieldLink RX1 19 "ShortWork$Worker" "cutHours" "[I", Cond.methodLink RX1 57 Lib.Math.max.name, Cond.static Lib.Math.max.name, Cond.initialized "java/lang/Math", Cond.code Lib.Math.max.name Lib.Math.max.code 2 (some .int), Cond.fieldLink RX1 26 "ShortWork$Worker" "firmPay" "[I", Cond.fieldLink RX1 29 "ShortWork$Worker" "fundPay" "[I", Cond.fieldLink RX1 63 "ShortWork$Worker" "received" "I", Cond.fieldLink RX1 66 "ShortWork$Worker" "cutWeekCount" "I", Cond.methodLink RX1 53 yX1_madeUpPercent, Cond.instanceMethod yX1_madeUpPercent, Cond.selects RX1 yX1_madeUpPercent yX1_madeUpPercent, Cond.initialized RX1, Cond.code yX1_madeUpPercent cX1_madeUpPercent 3 (some .int), Cond.fieldLink RX1 15 "ShortWork$Worker" "hasChildren" "Z", Cond.methodLink RX1 69 yX1_stepPercent, Cond.instanceMethod yX1_stepPercent, Cond.selects RX1 yX1_stepPercent yX1_stepPercent, Cond.code yX1_stepPercent cX1_stepPercent 1 (some .int), Cond.methodLink RX1 73 yX1_hasFilled, Cond.instanceMethod yX1_hasFilled, Cond.selects RX1 yX1_hasFilled yX1_hasFilled, Cond.code yX1_hasFilled cX1_hasFilled 2 (some .boolean)]
def wsX1_payFor_r2 : List Cond := [Cond.fieldLink RX1 23 "ShortWork$Worker" "courseHours" "[I"]
def wsX1_payFor : List Cond := .code yX1_payFor cX1_payFor 6 (some .int) :: ((wsX1_payFor_r1 ++ wsX1_payFor_r2) ++ wsX10)
def wsX1_hasWorkedTooMuch : List Cond := .code yX1_hasWorkedTooMuch cX1_hasWorkedTooMuch 3 (some .boolean) :: ([.fieldLink RX1 19 "ShortWork$Worker" "cutHours" "[I", .fieldLink RX1 32 "ShortWork$Worker" "doorHours" "[I", .fieldLink RX1 29 "ShortWork$Worker" "fundPay" "[I"] ++ wsX10)
def wsX2_init : List Cond := .code yX2_init cX2_init 1 none :: ([.methodLink RX2 3 objectInit, .instanceMethod objectInit, .code objectInit ⟨#[0xb1]⟩ 1 none, .classLink RX2 9 RX1, .fieldLink RX2 11 "ShortWork" "staff" "[LShortWork$Worker;", .classLink RX2 15 RX0, .fieldLink RX2 17 "ShortWork" "courses" "[LShortWork$Course;", .arrayClass .boolean, .fieldLink RX2 21 "ShortWork" "checked" "[Z", .fieldLink RX2 25 "ShortWork" "floorPercent" "I"] ++ wsX20)
def wsX2_isWithin : List Cond := .code yX2_isWithin cX2_isWithin 3 (some .boolean) :: ([])
def wsX2_requireArgument : List Cond := .code yX2_requireArgument cX2_requireArgument 1 none :: ([.classLink RX2 144 "java/lang/IllegalArgumentException", .initialized "java/lang/IllegalArgumentException"] ++ (vx_at0 RX2 146 "java/lang/IllegalArgumentException" ["java/lang/RuntimeException", "java/lang/Exception"]).filter goodWord)
def wsX2_requireState : List Cond := .code yX2_requireState cX2_requireState 1 none :: ([.classLink RX2 147 "java/lang/IllegalStateException", .initialized "java/lang/IllegalStateException"] ++ (vx_at0 RX2 149 "java/lang/IllegalStateException" ["java/lang/RuntimeException", "java/lang/Exception"]).filter goodWord)
def wsX2_add_r1 : List Cond := [Cond.constant RX2 29 (100000), Cond.fieldLink RX2 38 "ShortWork" "workerCount" "I", Cond.fieldLink RX2 11 "ShortWork" "staff" "[LShortWork$Worker;", Cond.classLink RX2 9 RX1, Cond.instantiable RX1 12, Cond.initialized RX1, Cond.methodLink RX2 30 yX2_isWithin, Cond.static yX2_isWithin, Cond.initialized RX2, Cond.code yX2_isWithin cX2_isWithin 3 (some .boolean), Cond.methodLink RX2 34 yX2_requireArgument, Cond.static yX2_requireArgument, Cond.code yX2_requireArgument cX2_requireArgument 1 none, Cond.classLink RX2 144 "java/lang/IllegalArgumentException", Cond.initialized "java/lang/IllegalArgumentException", Cond.methodLink RX2 41 yX2_requireState, Cond.static yX2_requireState, Cond.code yX2_requireState cX2_requireState 1 none, Cond.classLink RX2 147 "java/lang/IllegalStateException", Cond.initialized "java/lang/IllegalStateException", Cond.methodLink RX2 44 yX1_init, Cond.instanceMethod yX1_init, Cond.code yX1_init cX1_init 3 none, Cond.methodLink RX1 3 objectInit]
def wsX2_add_r2 : List Cond := [Cond.instanceMethod objectInit, Cond.code objectInit ⟨#[0xb1]⟩ 1 none, Cond.fieldLink RX1 9 "ShortWork$Worker" "fullPay" "I", Cond.fieldLink RX1 15 "ShortWork$Worker" "hasChildren" "Z", Cond.arrayClass .int, Cond.fieldLink RX1 19 "ShortWork$Worker" "cutHours" "[I", Cond.fieldLink RX1 23 "ShortWork$Worker" "courseHours" "[I", Cond.fieldLink RX1 26 "ShortWork$Worker" "firmPay" "[I", Cond.fieldLink RX1 29 "ShortWork$Worker" "fundPay" "[I", Cond.fieldLink RX1 32 "ShortWork$Worker" "doorHours" "[I", Cond.arrayClass .boolean, Cond.fieldLink RX1 35 "ShortWork$Worker" "mailed" "[Z"]
def wsX2_add : List Cond := .code yX2_add cX2_add 4 (some .int) :: ((wsX2_add_r1 ++ wsX2_add_r2) ++ wsX20 ++ wsX10 ++ (vx_at0 RX2 146 "java/lang/IllegalArgumentException" ["java/lang/RuntimeException", "java/lang/Exception"]).filter goodWord ++ (vx_at0 RX2 149 "java/lang/IllegalStateException" ["java/lang/RuntimeException", "java/lang/Exception"]).filter goodWord)
def wsX2_workerAt : List Cond := .code yX2_workerAt cX2_workerAt 3 (some (.object "ShortWork$Worker")) :: ([.classLink RX2 141 "java/lang/IndexOutOfBoundsException", .initialized "java/lang/IndexOutOfBoundsException", .fieldLink RX2 38 "ShortWork" "workerCount" "I", .fieldLink RX2 11 "ShortWork" "staff" "[LShortWork$Worker;", .methodLink RX2 30 yX2_isWithin, .static yX2_isWithin, .initialized RX2, .code yX2_isWithin cX2_isWithin 3 (some .boolean)] ++ wsX20 ++ (vx_at0 RX2 143 "java/lang/IndexOutOfBoundsException" ["java/lang/RuntimeException", "java/lang/Exception"]).filter goodWord)
def wsX2_isSpan : List Cond := .code yX2_isSpan cX2_isSpan 2 (some .boolean) :: ([.methodLink RX2 30 yX2_isWithin, .static yX2_isWithin, .initialized RX2, .code yX2_isWithin cX2_isWithin 3 (some .boolean)])
def wsX2_notice_r1 : List Cond := [Cond.fieldLink RX2 55 "ShortWork" "currentWeek" "I", Cond.methodLink RX2 47 yX2_workerAt, Cond.instanceMethod yX2_workerAt, Cond.selects RX2 yX2_workerAt yX2_workerAt, Cond.initialized RX2, Cond.code yX2_workerAt cX2_workerAt 3 (some (.object "ShortWork$Worker")), Cond.classLink RX2 141 "java/lang/IndexOutOfBoundsException", Cond.initialized "java/lang/IndexOutOfBoundsException", Cond.fieldLink RX2 38 "ShortWork" "workerCount" "I", Cond.fieldLink RX2 11 "ShortWork" "staff" "[LShortWork$Worker;", Cond.methodLink RX2 30 yX2_isWithin, Cond.static yX2_isWithin, Cond.code yX2_isWithin cX2_isWithin 3 (some .boolean), Cond.methodLink RX2 51 yX2_isSpan, Cond.static yX2_isSpan, Cond.code yX2_isSpan cX2_isSpan 2 (some .boolean), Cond.methodLink RX2 34 yX2_requireArgument, Cond.static yX2_requireArgument, Cond.code yX2_requireArgument cX2_requireArgument 1 none, Cond.classLink RX2 144 "java/lang/IllegalArgumentException", Cond.initialized "java/lang/IllegalArgumentException", Cond.methodLink RX2 41 yX2_requireState, Cond.static yX2_requireState, Cond.code yX2_requireState cX2_requireState 1 none]
def wsX2_notice_r2 : List Cond := [Cond.classLink RX2 147 "java/lang/IllegalStateException", Cond.initialized "java/lang/IllegalStateException", Cond.methodLink RX2 61 yX1_takeNotice, Cond.instanceMethod yX1_takeNotice, Cond.selects RX1 yX1_takeNotice yX1_takeNotice, Cond.initialized RX1, Cond.code yX1_takeNotice cX1_takeNotice 5 none, Cond.fieldLink RX1 19 "ShortWork$Worker" "cutHours" "[I", Cond.fieldLink RX1 39 "ShortWork$Worker" "noticeCount" "I"]
def wsX2_notice : List Cond := .code yX2_notice cX2_notice 6 (some .int) :: ((wsX2_notice_r1 ++ wsX2_notice_r2) ++ wsX20 ++ wsX10 ++ (vx_at0 RX2 143 "java/lang/IndexOutOfBoundsException" ["java/lang/RuntimeException", "java/lang/Exception"]).filter goodWord ++ (vx_at0 RX2 146 "java/lang/IllegalArgumentException" ["java/lang/RuntimeException", "java/lang/Exception"]).filter goodWord ++ (vx_at0 RX2 149 "java/lang/IllegalStateException" ["java/lang/RuntimeException", "java/lang/Exception"]).filter goodWord)
def wsX2_addCourse_r1 : List Cond := [Cond.fieldLink RX2 65 "ShortWork" "courseCount" "I", Cond.fieldLink RX2 17 "ShortWork" "courses" "[LShortWork$Course;", Cond.classLink RX2 15 RX0, Cond.instantiable RX0 4, Cond.initialized RX0, Cond.methodLink RX2 30 yX2_isWithin, Cond.static yX2_isWithin, Cond.initialized RX2, Cond.code yX2_isWithin cX2_isWithin 3 (some .boolean), Cond.methodLink RX2 51 yX2_isSpan, Cond.static yX2_isSpan, Cond.code yX2_isSpan cX2_isSpan 2 (some .boolean), Cond.methodLink RX2 34 yX2_requireArgument, Cond.static yX2_requireArgument, Cond.code yX2_requireArgument cX2_requireArgument 1 none, Cond.classLink RX2 144 "java/lang/IllegalArgumentException", Cond.initialized "java/lang/IllegalArgumentException", Cond.methodLink RX2 41 yX2_requireState, Cond.static yX2_requireState, Cond.code yX2_requireState cX2_requireState 1 none, Cond.classLink RX2 147 "java/lang/IllegalStateException", Cond.initialized "java/lang/IllegalStateException", Cond.methodLink RX2 68 yX0_init, Cond.instanceMethod yX0_init]
def wsX2_addCourse_r2 : List Cond := [Cond.code yX0_init cX0_init 5 none, Cond.methodLink RX0 1 objectInit, Cond.instanceMethod objectInit, Cond.code objectInit ⟨#[0xb1]⟩ 1 none, Cond.fieldLink RX0 7 "ShortWork$Course" "from" "I", Cond.fieldLink RX0 13 "ShortWork$Course" "to" "I", Cond.fieldLink RX0 16 "ShortWork$Course" "hours" "I", Cond.fieldLink RX0 19 "ShortWork$Course" "seatsLeft" "I"]
def wsX2_addCourse : List Cond := .code yX2_addCourse cX2_addCourse 6 (some .int) :: ((wsX2_addCourse_r1 ++ wsX2_addCourse_r2) ++ wsX20 ++ wsX00 ++ (vx_at0 RX2 146 "java/lang/IllegalArgumentException" ["java/lang/RuntimeException", "java/lang/Exception"]).filter goodWord ++ (vx_at0 RX2 149 "java/lang/IllegalStateException" ["java/lang/RuntimeException", "java/lang/Exception"]).filter goodWord)
def wsX2_courseAt : List Cond := .code yX2_courseAt cX2_courseAt 3 (some (.object "ShortWork$Course")) :: ([.classLink RX2 141 "java/lang/IndexOutOfBoundsException", .initialized "java/lang/IndexOutOfBoundsException", .fieldLink RX2 65 "ShortWork" "courseCount" "I", .fieldLink RX2 17 "ShortWork" "courses" "[LShortWork$Course;", .methodLink RX2 30 yX2_isWithin, .static yX2_isWithin, .initialized RX2, .code yX2_isWithin cX2_isWithin 3 (some .boolean)] ++ wsX20 ++ (vx_at0 RX2 143 "java/lang/IndexOutOfBoundsException" ["java/lang/RuntimeException", "java/lang/Exception"]).filter goodWord)
def wsX2_enrol_r1 : List Cond := [Cond.fieldLink RX2 55 "ShortWork" "currentWeek" "I", Cond.methodLink RX2 47 yX2_workerAt, Cond.instanceMethod yX2_workerAt, Cond.selects RX2 yX2_workerAt yX2_workerAt, Cond.initialized RX2, Cond.code yX2_workerAt cX2_workerAt 3 (some (.object "ShortWork$Worker")), Cond.classLink RX2 141 "java/lang/IndexOutOfBoundsException", Cond.initialized "java/lang/IndexOutOfBoundsException", Cond.fieldLink RX2 38 "ShortWork" "workerCount" "I", Cond.fieldLink RX2 11 "ShortWork" "staff" "[LShortWork$Worker;", Cond.methodLink RX2 30 yX2_isWithin, Cond.static yX2_isWithin, Cond.code yX2_isWithin cX2_isWithin 3 (some .boolean), Cond.methodLink RX2 71 yX2_courseAt, Cond.instanceMethod yX2_courseAt, Cond.selects RX2 yX2_courseAt yX2_courseAt, Cond.code yX2_courseAt cX2_courseAt 3 (some (.object "ShortWork$Course")), Cond.fieldLink RX2 65 "ShortWork" "courseCount" "I", Cond.fieldLink RX2 17 "ShortWork" "courses" "[LShortWork$Course;", Cond.methodLink RX2 84 yX1_hasNoCourseFrom, Cond.instanceMethod yX1_hasNoCourseFrom, Cond.selects RX1 yX1_hasNoCourseFrom yX1_hasNoCourseFrom, Cond.initialized RX1, Cond.code yX1_hasNoCourseFrom cX1_hasNoCourseFrom 4 (some .boolean)]
def wsX2_enrol_r2 : List Cond := [Cond.fieldLink RX1 23 "ShortWork$Worker" "courseHours" "[I", Cond.methodLink RX2 41 yX2_requireState, Cond.static yX2_requireState, Cond.code yX2_requireState cX2_requireState 1 none, Cond.classLink RX2 147 "java/lang/IllegalStateException", Cond.initialized "java/lang/IllegalStateException", Cond.methodLink RX2 87 yX1_goTo, Cond.instanceMethod yX1_goTo, Cond.selects RX1 yX1_goTo yX1_goTo, Cond.code yX1_goTo cX1_goTo 3 none]
def wsX2_enrol : List Cond := .code yX2_enrol cX2_enrol 5 (some .int) :: ((wsX2_enrol_r1 ++ wsX2_enrol_r2) ++ wsX00 ++ wsX20 ++ wsX10 ++ (vx_at0 RX2 143 "java/lang/IndexOutOfBoundsException" ["java/lang/RuntimeException", "java/lang/Exception"]).filter goodWord ++ (vx_at0 RX2 149 "java/lang/IllegalStateException" ["java/lang/RuntimeException", "java/lang/Exception"]).filter goodWord)
def wsX2_setFloor : List Cond := .code yX2_setFloor cX2_setFloor 3 (some .int) :: ([.fieldLink RX2 25 "ShortWork" "floorPercent" "I", .methodLink RX2 30 yX2_isWithin, .static yX2_isWithin, .initialized RX2, .code yX2_isWithin cX2_isWithin 3 (some .boolean), .methodLink RX2 34 yX2_requireArgument, .static yX2_requireArgument, .code yX2_requireArgument cX2_requireArgument 1 none, .classLink RX2 144 "java/lang/IllegalArgumentException", .initialized "java/lang/IllegalArgumentException"] ++ wsX20 ++ (vx_at0 RX2 146 "java/lang/IllegalArgumentException" ["java/lang/RuntimeException", "java/lang/Exception"]).filter goodWord)
def wsX2_workers : List Cond := .code yX2_workers cX2_workers 1 (some .int) :: ([.fieldLink RX2 38 "ShortWork" "workerCount" "I"] ++ wsX20)
def wsX2_cut : List Cond := .code yX2_cut cX2_cut 4 (some .int) :: ([.methodLink RX2 47 yX2_workerAt, .instanceMethod yX2_workerAt, .selects RX2 yX2_workerAt yX2_workerAt, .initialized RX2, .code yX2_workerAt cX2_workerAt 3 (some (.object "ShortWork$Worker")), .classLink RX2 141 "java/lang/IndexOutOfBoundsException", .initialized "java/lang/IndexOutOfBoundsException", .fieldLink RX2 38 "ShortWork" "workerCount" "I", .fieldLink RX2 11 "ShortWork" "staff" "[LShortWork$Worker;", .methodLink RX2 30 yX2_isWithin, .static yX2_isWithin, .code yX2_isWithin cX2_isWithin 3 (some .boolean), .methodLink RX2 34 yX2_requireArgument, .static yX2_requireArgument, .code yX2_requireArgument cX2_requireArgument 1 none, .classLink RX2 144 "java/lang/IllegalArgumentException", .initialized "java/lang/IllegalArgumentException"] ++ wsX10 ++ wsX20 ++ (vx_at0 RX2 143 "java/lang/IndexOutOfBoundsException" ["java/lang/RuntimeException", "java/lang/Exception"]).filter goodWord ++ (vx_at0 RX2 146 "java/lang/IllegalArgumentException" ["java/lang/RuntimeException", "java/lang/Exception"]).filter goodWord)
def wsX2_isFilled : List Cond := .code yX2_isFilled cX2_isFilled 4 (some .boolean) :: ([.methodLink RX2 47 yX2_workerAt, .instanceMethod yX2_workerAt, .selects RX2 yX2_workerAt yX2_workerAt, .initialized RX2, .code yX2_workerAt cX2_workerAt 3 (some (.object "ShortWork$Worker")), .classLink RX2 141 "java/lang/IndexOutOfBoundsException", .initialized "java/lang/IndexOutOfBoundsException", .fieldLink RX2 38 "ShortWork" "workerCount" "I", .fieldLink RX2 11 "ShortWork" "staff" "[LShortWork$Worker;", .methodLink RX2 30 yX2_isWithin, .static yX2_isWithin, .code yX2_isWithin cX2_isWithin 3 (some .boolean), .methodLink RX2 34 yX2_requireArgument, .static yX2_requireArgument, .code yX2_requireArgument cX2_requireArgument 1 none, .classLink RX2 144 "java/lang/IllegalArgumentException", .initialized "java/lang/IllegalArgumentException", .methodLink RX2 95 yX1_hasFilled, .instanceMethod yX1_hasFilled, .selects RX1 yX1_hasFilled yX1_hasFilled, .initialized RX1, .code yX1_hasFilled cX1_hasFilled 2 (some .boolean), .fieldLink RX1 23 "ShortWork$Worker" "courseHours" "[I", .fieldLink RX1 19 "ShortWork$Worker" "cutHours" "[I"] ++ wsX20 ++ wsX10 ++ (vx_at0 RX2 143 "java/lang/IndexOutOfBoundsException" ["java/lang/RuntimeException", "java/lang/Exception"]).filter goodWord ++ (vx_at0 RX2 146 "java/lang/IllegalArgumentException" ["java/lang/RuntimeException", "java/lang/Exception"]).filter goodWord)
def wsX2_payCurrentWeek_r1 : List Cond := [Cond.fieldLink RX2 11 "ShortWork" "staff" "[LShortWork$Worker;", Cond.fieldLink RX2 55 "ShortWork" "currentWeek" "I", Cond.fieldLink RX2 25 "ShortWork" "floorPercent" "I", Cond.methodLink RX2 137 yX1_payFor, Cond.instanceMethod yX1_payFor, Cond.selects RX1 yX1_payFor yX1_payFor, Cond.initialized RX1, Cond.code yX1_payFor cX1_payFor 6 (some .int), Cond.fieldLink RX1 9 "ShortWork$Worker" "fullPay" "I", Cond.fieldLink RX1 19 "ShortWork$Worker" "cutHours" "[I", Cond.methodLink RX1 57 Lib.Math.max.name, Cond.static Lib.Math.max.name, Cond.initialized "java/lang/Math", Cond.code Lib.Math.max.name Lib.Math.max.code 2 (some .int), Cond.fieldLink RX1 26 "ShortWork$Worker" "firmPay" "[I", Cond.fieldLink RX1 29 "ShortWork$Worker" "fundPay" "[I", Cond.fieldLink RX1 63 "ShortWork$Worker" "received" "I", Cond.fieldLink RX1 66 "ShortWork$Worker" "cutWeekCount" "I", Cond.methodLink RX1 53 yX1_madeUpPercent, Cond.instanceMethod yX1_madeUpPercent, Cond.selects RX1 yX1_madeUpPercent yX1_madeUpPercent, Cond.code yX1_madeUpPercent cX1_madeUpPercent 3 (some .int), Cond.fieldLink RX1 15 "ShortWork$Worker" "hasChildren" "Z", Cond.methodLink RX1 69 yX1_stepPercent]
def wsX2_payCurrentWeek_r2 : List Cond := [Cond.instanceMethod yX1_stepPercent, Cond.selects RX1 yX1_stepPercent yX1_stepPercent, Cond.code yX1_stepPercent cX1_stepPercent 1 (some .int), Cond.methodLink RX1 73 yX1_hasFilled, Cond.instanceMethod yX1_hasFilled, Cond.selects RX1 yX1_hasFilled yX1_hasFilled, Cond.code yX1_hasFilled cX1_hasFilled 2 (some .boolean), Cond.fieldLink RX1 23 "ShortWork$Worker" "courseHours" "[I"]
def wsX2_payCurrentWeek : List Cond := .code yX2_payCurrentWeek cX2_payCurrentWeek 6 (some .int) :: ((wsX2_payCurrentWeek_r1 ++ wsX2_payCurrentWeek_r2) ++ wsX20 ++ wsX10)
def wsX2_pass_r1 : List Cond := [Cond.fieldLink RX2 55 "ShortWork" "currentWeek" "I", Cond.methodLink RX2 30 yX2_isWithin, Cond.static yX2_isWithin, Cond.initialized RX2, Cond.code yX2_isWithin cX2_isWithin 3 (some .boolean), Cond.methodLink RX2 34 yX2_requireArgument, Cond.static yX2_requireArgument, Cond.code yX2_requireArgument cX2_requireArgument 1 none, Cond.classLink RX2 144 "java/lang/IllegalArgumentException", Cond.initialized "java/lang/IllegalArgumentException", Cond.methodLink RX2 41 yX2_requireState, Cond.static yX2_requireState, Cond.code yX2_requireState cX2_requireState 1 none, Cond.classLink RX2 147 "java/lang/IllegalStateException", Cond.initialized "java/lang/IllegalStateException", Cond.methodLink RX2 99 yX2_payCurrentWeek, Cond.instanceMethod yX2_payCurrentWeek, Cond.selects RX2 yX2_payCurrentWeek yX2_payCurrentWeek, Cond.code yX2_payCurrentWeek cX2_payCurrentWeek 6 (some .int), Cond.fieldLink RX2 11 "ShortWork" "staff" "[LShortWork$Worker;", Cond.fieldLink RX2 25 "ShortWork" "floorPercent" "I", Cond.methodLink RX2 137 yX1_payFor, Cond.instanceMethod yX1_payFor, Cond.selects RX1 yX1_payFor yX1_payFor]
def wsX2_pass_r2 : List Cond := [Cond.initialized RX1, Cond.code yX1_payFor cX1_payFor 6 (some .int), Cond.fieldLink RX1 9 "ShortWork$Worker" "fullPay" "I", Cond.fieldLink RX1 19 "ShortWork$Worker" "cutHours" "[I", Cond.methodLink RX1 57 Lib.Math.max.name, Cond.static Lib.Math.max.name, Cond.initialized "java/lang/Math", Cond.code Lib.Math.max.name Lib.Math.max.code 2 (some .int), Cond.fieldLink RX1 26 "ShortWork$Worker" "firmPay" "[I", Cond.fieldLink RX1 29 "ShortWork$Worker" "fundPay" "[I", Cond.fieldLink RX1 63 "ShortWork$Worker" "received" "I", Cond.fieldLink RX1 66 "ShortWork$Worker" "cutWeekCount" "I", Cond.methodLink RX1 53 yX1_madeUpPercent, Cond.instanceMethod yX1_madeUpPercent, Cond.selects RX1 yX1_madeUpPercent yX1_madeUpPercent, Cond.code yX1_madeUpPercent cX1_madeUpPercent 3 (some .int), Cond.fieldLink RX1 15 "ShortWork$Worker" "hasChildren" "Z", Cond.methodLink RX1 69 yX1_stepPercent, Cond.instanceMethod yX1_stepPercent, Cond.selects RX1 yX1_stepPercent yX1_stepPercent, Cond.code yX1_stepPercent cX1_stepPercent 1 (some .int), Cond.methodLink RX1 73 yX1_hasFilled, Cond.instanceMethod yX1_hasFilled, Cond.selects RX1 yX1_hasFilled yX1_hasFilled]
def wsX2_pass_r3 : List Cond := [Cond.code yX1_hasFilled cX1_hasFilled 2 (some .boolean), Cond.fieldLink RX1 23 "ShortWork$Worker" "courseHours" "[I"]
def wsX2_pass : List Cond := .code yX2_pass cX2_pass 4 (some .int) :: ((wsX2_pass_r1 ++ (wsX2_pass_r2 ++ wsX2_pass_r3)) ++ wsX20 ++ wsX10 ++ (vx_at0 RX2 146 "java/lang/IllegalArgumentException" ["java/lang/RuntimeException", "java/lang/Exception"]).filter goodWord ++ (vx_at0 RX2 149 "java/lang/IllegalStateException" ["java/lang/RuntimeException", "java/lang/Exception"]).filter goodWord)
def wsX2_week : List Cond := .code yX2_week cX2_week 1 (some .int) :: ([.fieldLink RX2 55 "ShortWork" "currentWeek" "I"] ++ wsX20)
def wsX2_hasPassed : List Cond := .code yX2_hasPassed cX2_hasPassed 2 (some .boolean) :: ([.fieldLink RX2 55 "ShortWork" "currentWeek" "I", .methodLink RX2 30 yX2_isWithin, .static yX2_isWithin, .initialized RX2, .code yX2_isWithin cX2_isWithin 3 (some .boolean)] ++ wsX20)
def wsX2_paid : List Cond := .code yX2_paid cX2_paid 4 (some .int) :: ([.methodLink RX2 47 yX2_workerAt, .instanceMethod yX2_workerAt, .selects RX2 yX2_workerAt yX2_workerAt, .initialized RX2, .code yX2_workerAt cX2_workerAt 3 (some (.object "ShortWork$Worker")), .classLink RX2 141 "java/lang/IndexOutOfBoundsException", .initialized "java/lang/IndexOutOfBoundsException", .fieldLink RX2 38 "ShortWork" "workerCount" "I", .fieldLink RX2 11 "ShortWork" "staff" "[LShortWork$Worker;", .methodLink RX2 30 yX2_isWithin, .static yX2_isWithin, .code yX2_isWithin cX2_isWithin 3 (some .boolean), .methodLink RX2 103 yX2_hasPassed, .instanceMethod yX2_hasPassed, .selects RX2 yX2_hasPassed yX2_hasPassed, .code yX2_hasPassed cX2_hasPassed 2 (some .boolean), .fieldLink RX2 55 "ShortWork" "currentWeek" "I", .methodLink RX2 34 yX2_requireArgument, .static yX2_requireArgument, .code yX2_requireArgument cX2_requireArgument 1 none, .classLink RX2 144 "java/lang/IllegalArgumentException", .initialized "java/lang/IllegalArgumentException"] ++ wsX10 ++ wsX20 ++ (vx_at0 RX2 143 "java/lang/IndexOutOfBoundsException" ["java/lang/RuntimeException", "java/lang/Exception"]).filter goodWord ++ (vx_at0 RX2 146 "java/lang/IllegalArgumentException" ["java/lang/RuntimeException", "java/lang/Exception"]).filter goodWord)
def wsX2_madeUp : List Cond := .code yX2_madeUp cX2_madeUp 4 (some .int) :: ([.methodLink RX2 47 yX2_workerAt, .instanceMethod yX2_workerAt, .selects RX2 yX2_workerAt yX2_workerAt, .initialized RX2, .code yX2_workerAt cX2_workerAt 3 (some (.object "ShortWork$Worker")), .classLink RX2 141 "java/lang/IndexOutOfBoundsException", .initialized "java/lang/IndexOutOfBoundsException", .fieldLink RX2 38 "ShortWork" "workerCount" "I", .fieldLink RX2 11 "ShortWork" "staff" "[LShortWork$Worker;", .methodLink RX2 30 yX2_isWithin, .static yX2_isWithin, .code yX2_isWithin cX2_isWithin 3 (some .boolean), .methodLink RX2 103 yX2_hasPassed, .instanceMethod yX2_hasPassed, .selects RX2 yX2_hasPassed yX2_hasPassed, .code yX2_hasPassed cX2_hasPassed 2 (some .boolean), .fieldLink RX2 55 "ShortWork" "currentWeek" "I", .methodLink RX2 34 yX2_requireArgument, .static yX2_requireArgument, .code yX2_requireArgument cX2_requireArgument 1 none, .classLink RX2 144 "java/lang/IllegalArgumentException", .initialized "java/lang/IllegalArgumentException"] ++ wsX10 ++ wsX20 ++ (vx_at0 RX2 143 "java/lang/IndexOutOfBoundsException" ["java/lang/RuntimeException", "java/lang/Exception"]).filter goodWord ++ (vx_at0 RX2 146 "java/lang/IllegalArgumentException" ["java/lang/RuntimeException", "java/lang/Exception"]).filter goodWord)
def wsX2_cutWeeks : List Cond := .code yX2_cutWeeks cX2_cutWeeks 2 (some .int) :: ([.methodLink RX2 47 yX2_workerAt, .instanceMethod yX2_workerAt, .selects RX2 yX2_workerAt yX2_workerAt, .initialized RX2, .code yX2_workerAt cX2_workerAt 3 (some (.object "ShortWork$Worker")), .classLink RX2 141 "java/lang/IndexOutOfBoundsException", .initialized "java/lang/IndexOutOfBoundsException", .fieldLink RX2 38 "ShortWork" "workerCount" "I", .fieldLink RX2 11 "ShortWork" "staff" "[LShortWork$Worker;", .methodLink RX2 30 yX2_isWithin, .static yX2_isWithin, .code yX2_isWithin cX2_isWithin 3 (some .boolean)] ++ wsX10 ++ wsX20 ++ (vx_at0 RX2 143 "java/lang/IndexOutOfBoundsException" ["java/lang/RuntimeException", "java/lang/Exception"]).filter goodWord)
def wsX2_door_r1 : List Cond := [Cond.fieldLink RX2 21 "ShortWork" "checked" "[Z", Cond.methodLink RX2 47 yX2_workerAt, Cond.instanceMethod yX2_workerAt, Cond.selects RX2 yX2_workerAt yX2_workerAt, Cond.initialized RX2, Cond.code yX2_workerAt cX2_workerAt 3 (some (.object "ShortWork$Worker")), Cond.classLink RX2 141 "java/lang/IndexOutOfBoundsException", Cond.initialized "java/lang/IndexOutOfBoundsException", Cond.fieldLink RX2 38 "ShortWork" "workerCount" "I", Cond.fieldLink RX2 11 "ShortWork" "staff" "[LShortWork$Worker;", Cond.methodLink RX2 30 yX2_isWithin, Cond.static yX2_isWithin, Cond.code yX2_isWithin cX2_isWithin 3 (some .boolean), Cond.methodLink RX2 103 yX2_hasPassed, Cond.instanceMethod yX2_hasPassed, Cond.selects RX2 yX2_hasPassed yX2_hasPassed, Cond.code yX2_hasPassed cX2_hasPassed 2 (some .boolean), Cond.fieldLink RX2 55 "ShortWork" "currentWeek" "I", Cond.methodLink RX2 34 yX2_requireArgument, Cond.static yX2_requireArgument, Cond.code yX2_requireArgument cX2_requireArgument 1 none, Cond.classLink RX2 144 "java/lang/IllegalArgumentException", Cond.initialized "java/lang/IllegalArgumentException", Cond.methodLink RX2 41 yX2_requireState]
def wsX2_door_r2 : List Cond := [Cond.static yX2_requireState, Cond.code yX2_requireState cX2_requireState 1 none, Cond.classLink RX2 147 "java/lang/IllegalStateException", Cond.initialized "java/lang/IllegalStateException"]
def wsX2_door : List Cond := .code yX2_door cX2_door 5 none :: ((wsX2_door_r1 ++ wsX2_door_r2) ++ wsX20 ++ wsX10 ++ (vx_at0 RX2 143 "java/lang/IndexOutOfBoundsException" ["java/lang/RuntimeException", "java/lang/Exception"]).filter goodWord ++ (vx_at0 RX2 146 "java/lang/IllegalArgumentException" ["java/lang/RuntimeException", "java/lang/Exception"]).filter goodWord ++ (vx_at0 RX2 149 "java/lang/IllegalStateException" ["java/lang/RuntimeException", "java/lang/Exception"]).filter goodWord)
def wsX2_mail_r1 : List Cond := [Cond.fieldLink RX2 21 "ShortWork" "checked" "[Z", Cond.methodLink RX2 47 yX2_workerAt, Cond.instanceMethod yX2_workerAt, Cond.selects RX2 yX2_workerAt yX2_workerAt, Cond.initialized RX2, Cond.code yX2_workerAt cX2_workerAt 3 (some (.object "ShortWork$Worker")), Cond.classLink RX2 141 "java/lang/IndexOutOfBoundsException", Cond.initialized "java/lang/IndexOutOfBoundsException", Cond.fieldLink RX2 38 "ShortWork" "workerCount" "I", Cond.fieldLink RX2 11 "ShortWork" "staff" "[LShortWork$Worker;", Cond.methodLink RX2 30 yX2_isWithin, Cond.static yX2_isWithin, Cond.code yX2_isWithin cX2_isWithin 3 (some .boolean), Cond.methodLink RX2 103 yX2_hasPassed, Cond.instanceMethod yX2_hasPassed, Cond.selects RX2 yX2_hasPassed yX2_hasPassed, Cond.code yX2_hasPassed cX2_hasPassed 2 (some .boolean), Cond.fieldLink RX2 55 "ShortWork" "currentWeek" "I", Cond.methodLink RX2 34 yX2_requireArgument, Cond.static yX2_requireArgument, Cond.code yX2_requireArgument cX2_requireArgument 1 none, Cond.classLink RX2 144 "java/lang/IllegalArgumentException", Cond.initialized "java/lang/IllegalArgumentException", Cond.methodLink RX2 41 yX2_requireState]
def wsX2_mail_r2 : List Cond := [Cond.static yX2_requireState, Cond.code yX2_requireState cX2_requireState 1 none, Cond.classLink RX2 147 "java/lang/IllegalStateException", Cond.initialized "java/lang/IllegalStateException"]
def wsX2_mail : List Cond := .code yX2_mail cX2_mail 4 none :: ((wsX2_mail_r1 ++ wsX2_mail_r2) ++ wsX20 ++ wsX10 ++ (vx_at0 RX2 143 "java/lang/IndexOutOfBoundsException" ["java/lang/RuntimeException", "java/lang/Exception"]).filter goodWord ++ (vx_at0 RX2 146 "java/lang/IllegalArgumentException" ["java/lang/RuntimeException", "java/lang/Exception"]).filter goodWord ++ (vx_at0 RX2 149 "java/lang/IllegalStateException" ["java/lang/RuntimeException", "java/lang/Exception"]).filter goodWord)
def wsX2_chargeBack : List Cond := .code yX2_chargeBack cX2_chargeBack 5 none :: ([.fieldLink RX2 128 "ShortWork" "firmDebt" "I"] ++ wsX10 ++ wsX20)
def wsX2_check_r1 : List Cond := [Cond.fieldLink RX2 21 "ShortWork" "checked" "[Z", Cond.fieldLink RX2 11 "ShortWork" "staff" "[LShortWork$Worker;", Cond.methodLink RX2 103 yX2_hasPassed, Cond.instanceMethod yX2_hasPassed, Cond.selects RX2 yX2_hasPassed yX2_hasPassed, Cond.initialized RX2, Cond.code yX2_hasPassed cX2_hasPassed 2 (some .boolean), Cond.fieldLink RX2 55 "ShortWork" "currentWeek" "I", Cond.methodLink RX2 30 yX2_isWithin, Cond.static yX2_isWithin, Cond.code yX2_isWithin cX2_isWithin 3 (some .boolean), Cond.methodLink RX2 34 yX2_requireArgument, Cond.static yX2_requireArgument, Cond.code yX2_requireArgument cX2_requireArgument 1 none, Cond.classLink RX2 144 "java/lang/IllegalArgumentException", Cond.initialized "java/lang/IllegalArgumentException", Cond.methodLink RX2 41 yX2_requireState, Cond.static yX2_requireState, Cond.code yX2_requireState cX2_requireState 1 none, Cond.classLink RX2 147 "java/lang/IllegalStateException", Cond.initialized "java/lang/IllegalStateException", Cond.methodLink RX2 121 yX1_hasWorkedTooMuch, Cond.instanceMethod yX1_hasWorkedTooMuch, Cond.selects RX1 yX1_hasWorkedTooMuch yX1_hasWorkedTooMuch]
def wsX2_check_r2 : List Cond := [Cond.initialized RX1, Cond.code yX1_hasWorkedTooMuch cX1_hasWorkedTooMuch 3 (some .boolean), Cond.fieldLink RX1 19 "ShortWork$Worker" "cutHours" "[I", Cond.fieldLink RX1 32 "ShortWork$Worker" "doorHours" "[I", Cond.fieldLink RX1 29 "ShortWork$Worker" "fundPay" "[I", Cond.methodLink RX2 124 yX2_chargeBack, Cond.instanceMethod yX2_chargeBack, Cond.selects RX2 yX2_chargeBack yX2_chargeBack, Cond.code yX2_chargeBack cX2_chargeBack 5 none, Cond.fieldLink RX2 128 "ShortWork" "firmDebt" "I"]
def wsX2_check : List Cond := .code yX2_check cX2_check 7 (some .int) :: ((wsX2_check_r1 ++ wsX2_check_r2) ++ wsX20 ++ wsX10 ++ (vx_at0 RX2 146 "java/lang/IllegalArgumentException" ["java/lang/RuntimeException", "java/lang/Exception"]).filter goodWord ++ (vx_at0 RX2 149 "java/lang/IllegalStateException" ["java/lang/RuntimeException", "java/lang/Exception"]).filter goodWord)
def wsX2_firmOwes : List Cond := .code yX2_firmOwes cX2_firmOwes 1 (some .int) :: ([.fieldLink RX2 128 "ShortWork" "firmDebt" "I"] ++ wsX20)
def wsX2_owes : List Cond := .code yX2_owes cX2_owes 2 (some .int) :: ([.methodLink RX2 47 yX2_workerAt, .instanceMethod yX2_workerAt, .selects RX2 yX2_workerAt yX2_workerAt, .initialized RX2, .code yX2_workerAt cX2_workerAt 3 (some (.object "ShortWork$Worker")), .classLink RX2 141 "java/lang/IndexOutOfBoundsException", .initialized "java/lang/IndexOutOfBoundsException", .fieldLink RX2 38 "ShortWork" "workerCount" "I", .fieldLink RX2 11 "ShortWork" "staff" "[LShortWork$Worker;", .methodLink RX2 30 yX2_isWithin, .static yX2_isWithin, .code yX2_isWithin cX2_isWithin 3 (some .boolean)] ++ wsX10 ++ wsX20 ++ (vx_at0 RX2 143 "java/lang/IndexOutOfBoundsException" ["java/lang/RuntimeException", "java/lang/Exception"]).filter goodWord)
def wsX2_net : List Cond := .code yX2_net cX2_net 3 (some .int) :: ([.methodLink RX2 47 yX2_workerAt, .instanceMethod yX2_workerAt, .selects RX2 yX2_workerAt yX2_workerAt, .initialized RX2, .code yX2_workerAt cX2_workerAt 3 (some (.object "ShortWork$Worker")), .classLink RX2 141 "java/lang/IndexOutOfBoundsException", .initialized "java/lang/IndexOutOfBoundsException", .fieldLink RX2 38 "ShortWork" "workerCount" "I", .fieldLink RX2 11 "ShortWork" "staff" "[LShortWork$Worker;", .methodLink RX2 30 yX2_isWithin, .static yX2_isWithin, .code yX2_isWithin cX2_isWithin 3 (some .boolean)] ++ wsX10 ++ wsX20 ++ (vx_at0 RX2 143 "java/lang/IndexOutOfBoundsException" ["java/lang/RuntimeException", "java/lang/Exception"]).filter goodWord)
def wsJ9_max_7cf53 : List Cond := .code yJ9_max_7cf53 cJ9_max_7cf53 2 (some .int) :: ([])
def wsL_cell : List Cond := .code yL_cell cL_cell 3 (some .int) :: ([.constant RL 7 (1541459225)])
def wsL_some : List Cond := .code yL_some cL_some 2 (some .int) :: ([])
def wsL_does_r1 : List Cond := [Cond.methodLink RL 20 yX2_add, Cond.instanceMethod yX2_add, Cond.selects RX2 yX2_add yX2_add, Cond.initialized RX2, Cond.code yX2_add cX2_add 4 (some .int), Cond.constant RX2 29 (100000), Cond.fieldLink RX2 38 "ShortWork" "workerCount" "I", Cond.fieldLink RX2 11 "ShortWork" "staff" "[LShortWork$Worker;", Cond.classLink RX2 9 RX1, Cond.instantiable RX1 12, Cond.initialized RX1, Cond.methodLink RX2 30 yX2_isWithin, Cond.static yX2_isWithin, Cond.code yX2_isWithin cX2_isWithin 3 (some .boolean), Cond.methodLink RX2 34 yX2_requireArgument, Cond.static yX2_requireArgument, Cond.code yX2_requireArgument cX2_requireArgument 1 none, Cond.classLink RX2 144 "java/lang/IllegalArgumentException", Cond.initialized "java/lang/IllegalArgumentException", Cond.methodLink RX2 41 yX2_requireState, Cond.static yX2_requireState, Cond.code yX2_requireState cX2_requireState 1 none, Cond.classLink RX2 147 "java/lang/IllegalStateException", Cond.initialized "java/lang/IllegalStateException"]
def wsL_does_r2 : List Cond := [Cond.methodLink RX2 44 yX1_init, Cond.instanceMethod yX1_init, Cond.code yX1_init cX1_init 3 none, Cond.methodLink RX1 3 objectInit, Cond.instanceMethod objectInit, Cond.code objectInit ⟨#[0xb1]⟩ 1 none, Cond.fieldLink RX1 9 "ShortWork$Worker" "fullPay" "I", Cond.fieldLink RX1 15 "ShortWork$Worker" "hasChildren" "Z", Cond.arrayClass .int, Cond.fieldLink RX1 19 "ShortWork$Worker" "cutHours" "[I", Cond.fieldLink RX1 23 "ShortWork$Worker" "courseHours" "[I", Cond.fieldLink RX1 26 "ShortWork$Worker" "firmPay" "[I", Cond.fieldLink RX1 29 "ShortWork$Worker" "fundPay" "[I", Cond.fieldLink RX1 32 "ShortWork$Worker" "doorHours" "[I", Cond.arrayClass .boolean, Cond.fieldLink RX1 35 "ShortWork$Worker" "mailed" "[Z", Cond.methodLink RL 26 yX2_notice, Cond.instanceMethod yX2_notice, Cond.selects RX2 yX2_notice yX2_notice, Cond.code yX2_notice cX2_notice 6 (some .int), Cond.fieldLink RX2 55 "ShortWork" "currentWeek" "I", Cond.methodLink RX2 47 yX2_workerAt, Cond.instanceMethod yX2_workerAt, Cond.selects RX2 yX2_workerAt yX2_workerAt]
def wsL_does_r3 : List Cond := [Cond.code yX2_workerAt cX2_workerAt 3 (some (.object "ShortWork$Worker")), Cond.classLink RX2 141 "java/lang/IndexOutOfBoundsException", Cond.initialized "java/lang/IndexOutOfBoundsException", Cond.methodLink RX2 51 yX2_isSpan, Cond.static yX2_isSpan, Cond.code yX2_isSpan cX2_isSpan 2 (some .boolean), Cond.methodLink RX2 61 yX1_takeNotice, Cond.instanceMethod yX1_takeNotice, Cond.selects RX1 yX1_takeNotice yX1_takeNotice, Cond.code yX1_takeNotice cX1_takeNotice 5 none, Cond.fieldLink RX1 39 "ShortWork$Worker" "noticeCount" "I", Cond.methodLink RL 30 yX2_addCourse, Cond.instanceMethod yX2_addCourse, Cond.selects RX2 yX2_addCourse yX2_addCourse, Cond.code yX2_addCourse cX2_addCourse 6 (some .int), Cond.fieldLink RX2 65 "ShortWork" "courseCount" "I", Cond.fieldLink RX2 17 "ShortWork" "courses" "[LShortWork$Course;", Cond.classLink RX2 15 RX0, Cond.instantiable RX0 4, Cond.initialized RX0, Cond.methodLink RX2 68 yX0_init, Cond.instanceMethod yX0_init, Cond.code yX0_init cX0_init 5 none, Cond.methodLink RX0 1 objectInit]
def wsL_does_r4 : List Cond := [Cond.fieldLink RX0 7 "ShortWork$Course" "from" "I", Cond.fieldLink RX0 13 "ShortWork$Course" "to" "I", Cond.fieldLink RX0 16 "ShortWork$Course" "hours" "I", Cond.fieldLink RX0 19 "ShortWork$Course" "seatsLeft" "I", Cond.methodLink RL 33 yX2_enrol, Cond.instanceMethod yX2_enrol, Cond.selects RX2 yX2_enrol yX2_enrol, Cond.code yX2_enrol cX2_enrol 5 (some .int), Cond.methodLink RX2 71 yX2_courseAt, Cond.instanceMethod yX2_courseAt, Cond.selects RX2 yX2_courseAt yX2_courseAt, Cond.code yX2_courseAt cX2_courseAt 3 (some (.object "ShortWork$Course")), Cond.methodLink RX2 84 yX1_hasNoCourseFrom, Cond.instanceMethod yX1_hasNoCourseFrom, Cond.selects RX1 yX1_hasNoCourseFrom yX1_hasNoCourseFrom, Cond.code yX1_hasNoCourseFrom cX1_hasNoCourseFrom 4 (some .boolean), Cond.methodLink RX2 87 yX1_goTo, Cond.instanceMethod yX1_goTo, Cond.selects RX1 yX1_goTo yX1_goTo, Cond.code yX1_goTo cX1_goTo 3 none, Cond.methodLink RL 37 yX2_setFloor, Cond.instanceMethod yX2_setFloor, Cond.selects RX2 yX2_setFloor yX2_setFloor, Cond.code yX2_setFloor cX2_setFloor 3 (some .int)]
def wsL_does_r5 : List Cond := [Cond.fieldLink RX2 25 "ShortWork" "floorPercent" "I", Cond.methodLink RL 41 yX2_cut, Cond.instanceMethod yX2_cut, Cond.selects RX2 yX2_cut yX2_cut, Cond.code yX2_cut cX2_cut 4 (some .int), Cond.methodLink RL 44 yX2_isFilled, Cond.instanceMethod yX2_isFilled, Cond.selects RX2 yX2_isFilled yX2_isFilled, Cond.code yX2_isFilled cX2_isFilled 4 (some .boolean), Cond.methodLink RX2 95 yX1_hasFilled, Cond.instanceMethod yX1_hasFilled, Cond.selects RX1 yX1_hasFilled yX1_hasFilled, Cond.code yX1_hasFilled cX1_hasFilled 2 (some .boolean), Cond.methodLink RL 48 yX2_pass, Cond.instanceMethod yX2_pass, Cond.selects RX2 yX2_pass yX2_pass, Cond.code yX2_pass cX2_pass 4 (some .int), Cond.methodLink RX2 99 yX2_payCurrentWeek, Cond.instanceMethod yX2_payCurrentWeek, Cond.selects RX2 yX2_payCurrentWeek yX2_payCurrentWeek, Cond.code yX2_payCurrentWeek cX2_payCurrentWeek 6 (some .int), Cond.methodLink RX2 137 yX1_payFor, Cond.instanceMethod yX1_payFor, Cond.selects RX1 yX1_payFor yX1_payFor]
def wsL_does_r6 : List Cond := [Cond.code yX1_payFor cX1_payFor 6 (some .int), Cond.methodLink RX1 57 Lib.Math.max.name, Cond.static Lib.Math.max.name, Cond.initialized "java/lang/Math", Cond.code Lib.Math.max.name Lib.Math.max.code 2 (some .int), Cond.fieldLink RX1 63 "ShortWork$Worker" "received" "I", Cond.fieldLink RX1 66 "ShortWork$Worker" "cutWeekCount" "I", Cond.methodLink RX1 53 yX1_madeUpPercent, Cond.instanceMethod yX1_madeUpPercent, Cond.selects RX1 yX1_madeUpPercent yX1_madeUpPercent, Cond.code yX1_madeUpPercent cX1_madeUpPercent 3 (some .int), Cond.methodLink RX1 69 yX1_stepPercent, Cond.instanceMethod yX1_stepPercent, Cond.selects RX1 yX1_stepPercent yX1_stepPercent, Cond.code yX1_stepPercent cX1_stepPercent 1 (some .int), Cond.methodLink RX1 73 yX1_hasFilled, Cond.methodLink RL 51 yX2_paid, Cond.instanceMethod yX2_paid, Cond.selects RX2 yX2_paid yX2_paid, Cond.code yX2_paid cX2_paid 4 (some .int), Cond.methodLink RX2 103 yX2_hasPassed, Cond.instanceMethod yX2_hasPassed, Cond.selects RX2 yX2_hasPassed yX2_hasPassed, Cond.code yX2_hasPassed cX2_hasPassed 2 (some .boolean)]
def wsL_does_r7 : List Cond := [Cond.methodLink RL 54 yX2_madeUp, Cond.instanceMethod yX2_madeUp, Cond.selects RX2 yX2_madeUp yX2_madeUp, Cond.code yX2_madeUp cX2_madeUp 4 (some .int), Cond.methodLink RL 57 yX2_cutWeeks, Cond.instanceMethod yX2_cutWeeks, Cond.selects RX2 yX2_cutWeeks yX2_cutWeeks, Cond.code yX2_cutWeeks cX2_cutWeeks 2 (some .int), Cond.methodLink RL 60 yX2_door, Cond.instanceMethod yX2_door, Cond.selects RX2 yX2_door yX2_door, Cond.code yX2_door cX2_door 5 none, Cond.fieldLink RX2 21 "ShortWork" "checked" "[Z", Cond.methodLink RL 64 yX2_mail, Cond.instanceMethod yX2_mail, Cond.selects RX2 yX2_mail yX2_mail, Cond.code yX2_mail cX2_mail 4 none, Cond.methodLink RL 68 yX2_check, Cond.instanceMethod yX2_check, Cond.selects RX2 yX2_check yX2_check, Cond.code yX2_check cX2_check 7 (some .int), Cond.methodLink RX2 121 yX1_hasWorkedTooMuch, Cond.instanceMethod yX1_hasWorkedTooMuch, Cond.selects RX1 yX1_hasWorkedTooMuch yX1_hasWorkedTooMuch]
def wsL_does_r8 : List Cond := [Cond.code yX1_hasWorkedTooMuch cX1_hasWorkedTooMuch 3 (some .boolean), Cond.methodLink RX2 124 yX2_chargeBack, Cond.instanceMethod yX2_chargeBack, Cond.selects RX2 yX2_chargeBack yX2_chargeBack, Cond.code yX2_chargeBack cX2_chargeBack 5 none, Cond.fieldLink RX2 128 "ShortWork" "firmDebt" "I", Cond.methodLink RL 71 yX2_owes, Cond.instanceMethod yX2_owes, Cond.selects RX2 yX2_owes yX2_owes, Cond.code yX2_owes cX2_owes 2 (some .int), Cond.methodLink RL 74 yX2_net, Cond.instanceMethod yX2_net, Cond.selects RX2 yX2_net yX2_net, Cond.code yX2_net cX2_net 3 (some .int)]
def wsL_does : List Cond := .code yL_does cL_does 6 (some .int) :: ((wsL_does_r1 ++ (wsL_does_r2 ++ (wsL_does_r3 ++ (wsL_does_r4 ++ (wsL_does_r5 ++ (wsL_does_r6 ++ (wsL_does_r7 ++ wsL_does_r8))))))) ++ wsX20 ++ wsX10 ++ wsX00 ++ (vx_at0 RX2 146 "java/lang/IllegalArgumentException" ["java/lang/RuntimeException", "java/lang/Exception"]).filter goodWord ++ (vx_at0 RX2 149 "java/lang/IllegalStateException" ["java/lang/RuntimeException", "java/lang/Exception"]).filter goodWord ++ (vx_at0 RX2 143 "java/lang/IndexOutOfBoundsException" ["java/lang/RuntimeException", "java/lang/Exception"]).filter goodWord)
def wsL_call_r1 : List Cond := [Cond.classLink RL 14 "java/lang/IndexOutOfBoundsException", Cond.classLink RL 16 "java/lang/IllegalArgumentException", Cond.classLink RL 18 "java/lang/IllegalStateException", Cond.methodLink RL 8 yL_does, Cond.static yL_does, Cond.initialized RL, Cond.code yL_does cL_does 6 (some .int), Cond.methodLink RL 20 yX2_add, Cond.instanceMethod yX2_add, Cond.selects RX2 yX2_add yX2_add, Cond.initialized RX2, Cond.code yX2_add cX2_add 4 (some .int), Cond.constant RX2 29 (100000), Cond.fieldLink RX2 38 "ShortWork" "workerCount" "I", Cond.fieldLink RX2 11 "ShortWork" "staff" "[LShortWork$Worker;", Cond.classLink RX2 9 RX1, Cond.instantiable RX1 12, Cond.initialized RX1, Cond.methodLink RX2 30 yX2_isWithin, Cond.static yX2_isWithin, Cond.code yX2_isWithin cX2_isWithin 3 (some .boolean), Cond.methodLink RX2 34 yX2_requireArgument, Cond.static yX2_requireArgument, Cond.code yX2_requireArgument cX2_requireArgument 1 none]
def wsL_call_r2 : List Cond := [Cond.classLink RX2 144 "java/lang/IllegalArgumentException", Cond.initialized "java/lang/IllegalArgumentException", Cond.methodLink RX2 41 yX2_requireState, Cond.static yX2_requireState, Cond.code yX2_requireState cX2_requireState 1 none, Cond.classLink RX2 147 "java/lang/IllegalStateException", Cond.initialized "java/lang/IllegalStateException", Cond.methodLink RX2 44 yX1_init, Cond.instanceMethod yX1_init, Cond.code yX1_init cX1_init 3 none, Cond.methodLink RX1 3 objectInit, Cond.instanceMethod objectInit, Cond.code objectInit ⟨#[0xb1]⟩ 1 none, Cond.fieldLink RX1 9 "ShortWork$Worker" "fullPay" "I", Cond.fieldLink RX1 15 "ShortWork$Worker" "hasChildren" "Z", Cond.arrayClass .int, Cond.fieldLink RX1 19 "ShortWork$Worker" "cutHours" "[I", Cond.fieldLink RX1 23 "ShortWork$Worker" "courseHours" "[I", Cond.fieldLink RX1 26 "ShortWork$Worker" "firmPay" "[I", Cond.fieldLink RX1 29 "ShortWork$Worker" "fundPay" "[I", Cond.fieldLink RX1 32 "ShortWork$Worker" "doorHours" "[I", Cond.arrayClass .boolean, Cond.fieldLink RX1 35 "ShortWork$Worker" "mailed" "[Z", Cond.methodLink RL 26 yX2_notice]
def wsL_call_r3 : List Cond := [Cond.instanceMethod yX2_notice, Cond.selects RX2 yX2_notice yX2_notice, Cond.code yX2_notice cX2_notice 6 (some .int), Cond.fieldLink RX2 55 "ShortWork" "currentWeek" "I", Cond.methodLink RX2 47 yX2_workerAt, Cond.instanceMethod yX2_workerAt, Cond.selects RX2 yX2_workerAt yX2_workerAt, Cond.code yX2_workerAt cX2_workerAt 3 (some (.object "ShortWork$Worker")), Cond.classLink RX2 141 "java/lang/IndexOutOfBoundsException", Cond.initialized "java/lang/IndexOutOfBoundsException", Cond.methodLink RX2 51 yX2_isSpan, Cond.static yX2_isSpan, Cond.code yX2_isSpan cX2_isSpan 2 (some .boolean), Cond.methodLink RX2 61 yX1_takeNotice, Cond.instanceMethod yX1_takeNotice, Cond.selects RX1 yX1_takeNotice yX1_takeNotice, Cond.code yX1_takeNotice cX1_takeNotice 5 none, Cond.fieldLink RX1 39 "ShortWork$Worker" "noticeCount" "I", Cond.methodLink RL 30 yX2_addCourse, Cond.instanceMethod yX2_addCourse, Cond.selects RX2 yX2_addCourse yX2_addCourse, Cond.code yX2_addCourse cX2_addCourse 6 (some .int), Cond.fieldLink RX2 65 "ShortWork" "courseCount" "I", Cond.fieldLink RX2 17 "ShortWork" "courses" "[LShortWork$Course;"]
def wsL_call_r4 : List Cond := [Cond.classLink RX2 15 RX0, Cond.instantiable RX0 4, Cond.initialized RX0, Cond.methodLink RX2 68 yX0_init, Cond.instanceMethod yX0_init, Cond.code yX0_init cX0_init 5 none, Cond.methodLink RX0 1 objectInit, Cond.fieldLink RX0 7 "ShortWork$Course" "from" "I", Cond.fieldLink RX0 13 "ShortWork$Course" "to" "I", Cond.fieldLink RX0 16 "ShortWork$Course" "hours" "I", Cond.fieldLink RX0 19 "ShortWork$Course" "seatsLeft" "I", Cond.methodLink RL 33 yX2_enrol, Cond.instanceMethod yX2_enrol, Cond.selects RX2 yX2_enrol yX2_enrol, Cond.code yX2_enrol cX2_enrol 5 (some .int), Cond.methodLink RX2 71 yX2_courseAt, Cond.instanceMethod yX2_courseAt, Cond.selects RX2 yX2_courseAt yX2_courseAt, Cond.code yX2_courseAt cX2_courseAt 3 (some (.object "ShortWork$Course")), Cond.methodLink RX2 84 yX1_hasNoCourseFrom, Cond.instanceMethod yX1_hasNoCourseFrom, Cond.selects RX1 yX1_hasNoCourseFrom yX1_hasNoCourseFrom, Cond.code yX1_hasNoCourseFrom cX1_hasNoCourseFrom 4 (some .boolean), Cond.methodLink RX2 87 yX1_goTo]
def wsL_call_r5 : List Cond := [Cond.instanceMethod yX1_goTo, Cond.selects RX1 yX1_goTo yX1_goTo, Cond.code yX1_goTo cX1_goTo 3 none, Cond.methodLink RL 37 yX2_setFloor, Cond.instanceMethod yX2_setFloor, Cond.selects RX2 yX2_setFloor yX2_setFloor, Cond.code yX2_setFloor cX2_setFloor 3 (some .int), Cond.fieldLink RX2 25 "ShortWork" "floorPercent" "I", Cond.methodLink RL 41 yX2_cut, Cond.instanceMethod yX2_cut, Cond.selects RX2 yX2_cut yX2_cut, Cond.code yX2_cut cX2_cut 4 (some .int), Cond.methodLink RL 44 yX2_isFilled, Cond.instanceMethod yX2_isFilled, Cond.selects RX2 yX2_isFilled yX2_isFilled, Cond.code yX2_isFilled cX2_isFilled 4 (some .boolean), Cond.methodLink RX2 95 yX1_hasFilled, Cond.instanceMethod yX1_hasFilled, Cond.selects RX1 yX1_hasFilled yX1_hasFilled, Cond.code yX1_hasFilled cX1_hasFilled 2 (some .boolean), Cond.methodLink RL 48 yX2_pass, Cond.instanceMethod yX2_pass, Cond.selects RX2 yX2_pass yX2_pass, Cond.code yX2_pass cX2_pass 4 (some .int)]
def wsL_call_r6 : List Cond := [Cond.methodLink RX2 99 yX2_payCurrentWeek, Cond.instanceMethod yX2_payCurrentWeek, Cond.selects RX2 yX2_payCurrentWeek yX2_payCurrentWeek, Cond.code yX2_payCurrentWeek cX2_payCurrentWeek 6 (some .int), Cond.methodLink RX2 137 yX1_payFor, Cond.instanceMethod yX1_payFor, Cond.selects RX1 yX1_payFor yX1_payFor, Cond.code yX1_payFor cX1_payFor 6 (some .int), Cond.methodLink RX1 57 Lib.Math.max.name, Cond.static Lib.Math.max.name, Cond.initialized "java/lang/Math", Cond.code Lib.Math.max.name Lib.Math.max.code 2 (some .int), Cond.fieldLink RX1 63 "ShortWork$Worker" "received" "I", Cond.fieldLink RX1 66 "ShortWork$Worker" "cutWeekCount" "I", Cond.methodLink RX1 53 yX1_madeUpPercent, Cond.instanceMethod yX1_madeUpPercent, Cond.selects RX1 yX1_madeUpPercent yX1_madeUpPercent, Cond.code yX1_madeUpPercent cX1_madeUpPercent 3 (some .int), Cond.methodLink RX1 69 yX1_stepPercent, Cond.instanceMethod yX1_stepPercent, Cond.selects RX1 yX1_stepPercent yX1_stepPercent, Cond.code yX1_stepPercent cX1_stepPercent 1 (some .int), Cond.methodLink RX1 73 yX1_hasFilled, Cond.methodLink RL 51 yX2_paid]
def wsL_call_r7 : List Cond := [Cond.instanceMethod yX2_paid, Cond.selects RX2 yX2_paid yX2_paid, Cond.code yX2_paid cX2_paid 4 (some .int), Cond.methodLink RX2 103 yX2_hasPassed, Cond.instanceMethod yX2_hasPassed, Cond.selects RX2 yX2_hasPassed yX2_hasPassed, Cond.code yX2_hasPassed cX2_hasPassed 2 (some .boolean), Cond.methodLink RL 54 yX2_madeUp, Cond.instanceMethod yX2_madeUp, Cond.selects RX2 yX2_madeUp yX2_madeUp, Cond.code yX2_madeUp cX2_madeUp 4 (some .int), Cond.methodLink RL 57 yX2_cutWeeks, Cond.instanceMethod yX2_cutWeeks, Cond.selects RX2 yX2_cutWeeks yX2_cutWeeks, Cond.code yX2_cutWeeks cX2_cutWeeks 2 (some .int), Cond.methodLink RL 60 yX2_door, Cond.instanceMethod yX2_door, Cond.selects RX2 yX2_door yX2_door, Cond.code yX2_door cX2_door 5 none, Cond.fieldLink RX2 21 "ShortWork" "checked" "[Z", Cond.methodLink RL 64 yX2_mail, Cond.instanceMethod yX2_mail, Cond.selects RX2 yX2_mail yX2_mail, Cond.code yX2_mail cX2_mail 4 none]
def wsL_call_r8 : List Cond := [Cond.methodLink RL 68 yX2_check, Cond.instanceMethod yX2_check, Cond.selects RX2 yX2_check yX2_check, Cond.code yX2_check cX2_check 7 (some .int), Cond.methodLink RX2 121 yX1_hasWorkedTooMuch, Cond.instanceMethod yX1_hasWorkedTooMuch, Cond.selects RX1 yX1_hasWorkedTooMuch yX1_hasWorkedTooMuch, Cond.code yX1_hasWorkedTooMuch cX1_hasWorkedTooMuch 3 (some .boolean), Cond.methodLink RX2 124 yX2_chargeBack, Cond.instanceMethod yX2_chargeBack, Cond.selects RX2 yX2_chargeBack yX2_chargeBack, Cond.code yX2_chargeBack cX2_chargeBack 5 none, Cond.fieldLink RX2 128 "ShortWork" "firmDebt" "I", Cond.methodLink RL 71 yX2_owes, Cond.instanceMethod yX2_owes, Cond.selects RX2 yX2_owes yX2_owes, Cond.code yX2_owes cX2_owes 2 (some .int), Cond.methodLink RL 74 yX2_net, Cond.instanceMethod yX2_net, Cond.selects RX2 yX2_net yX2_net, Cond.code yX2_net cX2_net 3 (some .int)]
def wsL_call : List Cond := .codeWith yL_call cL_call 7 (some .int) [(0, 11, 12, 14), (0, 11, 17, 16), (0, 11, 22, 18)] :: ((wsL_call_r1 ++ (wsL_call_r2 ++ (wsL_call_r3 ++ (wsL_call_r4 ++ (wsL_call_r5 ++ (wsL_call_r6 ++ (wsL_call_r7 ++ wsL_call_r8))))))) ++ wsX20 ++ wsX10 ++ wsX00 ++ (vx_at0 RX2 146 "java/lang/IllegalArgumentException" ["java/lang/RuntimeException", "java/lang/Exception"]).filter goodWord ++ (vx_at0 RX2 149 "java/lang/IllegalStateException" ["java/lang/RuntimeException", "java/lang/Exception"]).filter goodWord ++ (vx_at0 RX2 143 "java/lang/IndexOutOfBoundsException" ["java/lang/RuntimeException", "java/lang/Exception"]).filter goodWord)
def wsL_all_r1 : List Cond := [Cond.constantLong RL 81 (9), Cond.constantLong RL 86 (1000003), Cond.constantLong RL 91 (211), Cond.constantLong RL 93 (41), Cond.constantLong RL 95 (2), Cond.methodLink RL 77 yX2_workers, Cond.instanceMethod yX2_workers, Cond.selects RX2 yX2_workers yX2_workers, Cond.initialized RX2, Cond.code yX2_workers cX2_workers 1 (some .int), Cond.fieldLink RX2 38 "ShortWork" "workerCount" "I", Cond.methodLink RL 83 yX2_week, Cond.instanceMethod yX2_week, Cond.selects RX2 yX2_week yX2_week, Cond.code yX2_week cX2_week 1 (some .int), Cond.fieldLink RX2 55 "ShortWork" "currentWeek" "I", Cond.methodLink RL 88 yX2_firmOwes, Cond.instanceMethod yX2_firmOwes, Cond.selects RX2 yX2_firmOwes yX2_firmOwes, Cond.code yX2_firmOwes cX2_firmOwes 1 (some .int), Cond.fieldLink RX2 128 "ShortWork" "firmDebt" "I", Cond.methodLink RL 57 yX2_cutWeeks, Cond.instanceMethod yX2_cutWeeks, Cond.selects RX2 yX2_cutWeeks yX2_cutWeeks]
def wsL_all_r2 : List Cond := [Cond.code yX2_cutWeeks cX2_cutWeeks 2 (some .int), Cond.methodLink RX2 47 yX2_workerAt, Cond.instanceMethod yX2_workerAt, Cond.selects RX2 yX2_workerAt yX2_workerAt, Cond.code yX2_workerAt cX2_workerAt 3 (some (.object "ShortWork$Worker")), Cond.classLink RX2 141 "java/lang/IndexOutOfBoundsException", Cond.initialized "java/lang/IndexOutOfBoundsException", Cond.fieldLink RX2 11 "ShortWork" "staff" "[LShortWork$Worker;", Cond.methodLink RX2 30 yX2_isWithin, Cond.static yX2_isWithin, Cond.code yX2_isWithin cX2_isWithin 3 (some .boolean), Cond.methodLink RL 71 yX2_owes, Cond.instanceMethod yX2_owes, Cond.selects RX2 yX2_owes yX2_owes, Cond.code yX2_owes cX2_owes 2 (some .int), Cond.methodLink RL 74 yX2_net, Cond.instanceMethod yX2_net, Cond.selects RX2 yX2_net yX2_net, Cond.code yX2_net cX2_net 3 (some .int), Cond.methodLink RL 41 yX2_cut, Cond.instanceMethod yX2_cut, Cond.selects RX2 yX2_cut yX2_cut, Cond.code yX2_cut cX2_cut 4 (some .int), Cond.methodLink RX2 34 yX2_requireArgument]
def wsL_all_r3 : List Cond := [Cond.static yX2_requireArgument, Cond.code yX2_requireArgument cX2_requireArgument 1 none, Cond.classLink RX2 144 "java/lang/IllegalArgumentException", Cond.initialized "java/lang/IllegalArgumentException", Cond.methodLink RL 44 yX2_isFilled, Cond.instanceMethod yX2_isFilled, Cond.selects RX2 yX2_isFilled yX2_isFilled, Cond.code yX2_isFilled cX2_isFilled 4 (some .boolean), Cond.methodLink RX2 95 yX1_hasFilled, Cond.instanceMethod yX1_hasFilled, Cond.selects RX1 yX1_hasFilled yX1_hasFilled, Cond.initialized RX1, Cond.code yX1_hasFilled cX1_hasFilled 2 (some .boolean), Cond.fieldLink RX1 23 "ShortWork$Worker" "courseHours" "[I", Cond.fieldLink RX1 19 "ShortWork$Worker" "cutHours" "[I"]
def wsL_all : List Cond := .code yL_all cL_all 5 (some .long) :: ((wsL_all_r1 ++ (wsL_all_r2 ++ wsL_all_r3)) ++ wsX20 ++ wsX10 ++ (vx_at0 RX2 143 "java/lang/IndexOutOfBoundsException" ["java/lang/RuntimeException", "java/lang/Exception"]).filter goodWord ++ (vx_at0 RX2 146 "java/lang/IllegalArgumentException" ["java/lang/RuntimeException", "java/lang/Exception"]).filter goodWord)
def wsL_kept_r1 : List Cond := [Cond.methodLink RL 77 yX2_workers, Cond.instanceMethod yX2_workers, Cond.selects RX2 yX2_workers yX2_workers, Cond.initialized RX2, Cond.code yX2_workers cX2_workers 1 (some .int), Cond.fieldLink RX2 38 "ShortWork" "workerCount" "I", Cond.methodLink RL 83 yX2_week, Cond.instanceMethod yX2_week, Cond.selects RX2 yX2_week yX2_week, Cond.code yX2_week cX2_week 1 (some .int), Cond.fieldLink RX2 55 "ShortWork" "currentWeek" "I", Cond.methodLink RL 97 yL_call, Cond.static yL_call, Cond.initialized RL, Cond.codeWith yL_call cL_call 7 (some .int) [(0, 11, 12, 14), (0, 11, 17, 16), (0, 11, 22, 18)], Cond.classLink RL 14 "java/lang/IndexOutOfBoundsException", Cond.classLink RL 16 "java/lang/IllegalArgumentException", Cond.classLink RL 18 "java/lang/IllegalStateException", Cond.methodLink RL 8 yL_does, Cond.static yL_does, Cond.code yL_does cL_does 6 (some .int), Cond.methodLink RL 20 yX2_add, Cond.instanceMethod yX2_add, Cond.selects RX2 yX2_add yX2_add]
def wsL_kept_r2 : List Cond := [Cond.code yX2_add cX2_add 4 (some .int), Cond.constant RX2 29 (100000), Cond.fieldLink RX2 11 "ShortWork" "staff" "[LShortWork$Worker;", Cond.classLink RX2 9 RX1, Cond.instantiable RX1 12, Cond.initialized RX1, Cond.methodLink RX2 30 yX2_isWithin, Cond.static yX2_isWithin, Cond.code yX2_isWithin cX2_isWithin 3 (some .boolean), Cond.methodLink RX2 34 yX2_requireArgument, Cond.static yX2_requireArgument, Cond.code yX2_requireArgument cX2_requireArgument 1 none, Cond.classLink RX2 144 "java/lang/IllegalArgumentException", Cond.initialized "java/lang/IllegalArgumentException", Cond.methodLink RX2 41 yX2_requireState, Cond.static yX2_requireState, Cond.code yX2_requireState cX2_requireState 1 none, Cond.classLink RX2 147 "java/lang/IllegalStateException", Cond.initialized "java/lang/IllegalStateException", Cond.methodLink RX2 44 yX1_init, Cond.instanceMethod yX1_init, Cond.code yX1_init cX1_init 3 none, Cond.methodLink RX1 3 objectInit, Cond.instanceMethod objectInit]
def wsL_kept_r3 : List Cond := [Cond.code objectInit ⟨#[0xb1]⟩ 1 none, Cond.fieldLink RX1 9 "ShortWork$Worker" "fullPay" "I", Cond.fieldLink RX1 15 "ShortWork$Worker" "hasChildren" "Z", Cond.arrayClass .int, Cond.fieldLink RX1 19 "ShortWork$Worker" "cutHours" "[I", Cond.fieldLink RX1 23 "ShortWork$Worker" "courseHours" "[I", Cond.fieldLink RX1 26 "ShortWork$Worker" "firmPay" "[I", Cond.fieldLink RX1 29 "ShortWork$Worker" "fundPay" "[I", Cond.fieldLink RX1 32 "ShortWork$Worker" "doorHours" "[I", Cond.arrayClass .boolean, Cond.fieldLink RX1 35 "ShortWork$Worker" "mailed" "[Z", Cond.methodLink RL 26 yX2_notice, Cond.instanceMethod yX2_notice, Cond.selects RX2 yX2_notice yX2_notice, Cond.code yX2_notice cX2_notice 6 (some .int), Cond.methodLink RX2 47 yX2_workerAt, Cond.instanceMethod yX2_workerAt, Cond.selects RX2 yX2_workerAt yX2_workerAt, Cond.code yX2_workerAt cX2_workerAt 3 (some (.object "ShortWork$Worker")), Cond.classLink RX2 141 "java/lang/IndexOutOfBoundsException", Cond.initialized "java/lang/IndexOutOfBoundsException", Cond.methodLink RX2 51 yX2_isSpan, Cond.static yX2_isSpan, Cond.code yX2_isSpan cX2_isSpan 2 (some .boolean)]
def wsL_kept_r4 : List Cond := [Cond.methodLink RX2 61 yX1_takeNotice, Cond.instanceMethod yX1_takeNotice, Cond.selects RX1 yX1_takeNotice yX1_takeNotice, Cond.code yX1_takeNotice cX1_takeNotice 5 none, Cond.fieldLink RX1 39 "ShortWork$Worker" "noticeCount" "I", Cond.methodLink RL 30 yX2_addCourse, Cond.instanceMethod yX2_addCourse, Cond.selects RX2 yX2_addCourse yX2_addCourse, Cond.code yX2_addCourse cX2_addCourse 6 (some .int), Cond.fieldLink RX2 65 "ShortWork" "courseCount" "I", Cond.fieldLink RX2 17 "ShortWork" "courses" "[LShortWork$Course;", Cond.classLink RX2 15 RX0, Cond.instantiable RX0 4, Cond.initialized RX0, Cond.methodLink RX2 68 yX0_init, Cond.instanceMethod yX0_init, Cond.code yX0_init cX0_init 5 none, Cond.methodLink RX0 1 objectInit, Cond.fieldLink RX0 7 "ShortWork$Course" "from" "I", Cond.fieldLink RX0 13 "ShortWork$Course" "to" "I", Cond.fieldLink RX0 16 "ShortWork$Course" "hours" "I", Cond.fieldLink RX0 19 "ShortWork$Course" "seatsLeft" "I", Cond.methodLink RL 33 yX2_enrol, Cond.instanceMethod yX2_enrol]
def wsL_kept_r5 : List Cond := [Cond.selects RX2 yX2_enrol yX2_enrol, Cond.code yX2_enrol cX2_enrol 5 (some .int), Cond.methodLink RX2 71 yX2_courseAt, Cond.instanceMethod yX2_courseAt, Cond.selects RX2 yX2_courseAt yX2_courseAt, Cond.code yX2_courseAt cX2_courseAt 3 (some (.object "ShortWork$Course")), Cond.methodLink RX2 84 yX1_hasNoCourseFrom, Cond.instanceMethod yX1_hasNoCourseFrom, Cond.selects RX1 yX1_hasNoCourseFrom yX1_hasNoCourseFrom, Cond.code yX1_hasNoCourseFrom cX1_hasNoCourseFrom 4 (some .boolean), Cond.methodLink RX2 87 yX1_goTo, Cond.instanceMethod yX1_goTo, Cond.selects RX1 yX1_goTo yX1_goTo, Cond.code yX1_goTo cX1_goTo 3 none, Cond.methodLink RL 37 yX2_setFloor, Cond.instanceMethod yX2_setFloor, Cond.selects RX2 yX2_setFloor yX2_setFloor, Cond.code yX2_setFloor cX2_setFloor 3 (some .int), Cond.fieldLink RX2 25 "ShortWork" "floorPercent" "I", Cond.methodLink RL 41 yX2_cut, Cond.instanceMethod yX2_cut, Cond.selects RX2 yX2_cut yX2_cut, Cond.code yX2_cut cX2_cut 4 (some .int), Cond.methodLink RL 44 yX2_isFilled]
def wsL_kept_r6 : List Cond := [Cond.instanceMethod yX2_isFilled, Cond.selects RX2 yX2_isFilled yX2_isFilled, Cond.code yX2_isFilled cX2_isFilled 4 (some .boolean), Cond.methodLink RX2 95 yX1_hasFilled, Cond.instanceMethod yX1_hasFilled, Cond.selects RX1 yX1_hasFilled yX1_hasFilled, Cond.code yX1_hasFilled cX1_hasFilled 2 (some .boolean), Cond.methodLink RL 48 yX2_pass, Cond.instanceMethod yX2_pass, Cond.selects RX2 yX2_pass yX2_pass, Cond.code yX2_pass cX2_pass 4 (some .int), Cond.methodLink RX2 99 yX2_payCurrentWeek, Cond.instanceMethod yX2_payCurrentWeek, Cond.selects RX2 yX2_payCurrentWeek yX2_payCurrentWeek, Cond.code yX2_payCurrentWeek cX2_payCurrentWeek 6 (some .int), Cond.methodLink RX2 137 yX1_payFor, Cond.instanceMethod yX1_payFor, Cond.selects RX1 yX1_payFor yX1_payFor, Cond.code yX1_payFor cX1_payFor 6 (some .int), Cond.methodLink RX1 57 Lib.Math.max.name, Cond.static Lib.Math.max.name, Cond.initialized "java/lang/Math", Cond.code Lib.Math.max.name Lib.Math.max.code 2 (some .int), Cond.fieldLink RX1 63 "ShortWork$Worker" "received" "I"]
def wsL_kept_r7 : List Cond := [Cond.fieldLink RX1 66 "ShortWork$Worker" "cutWeekCount" "I", Cond.methodLink RX1 53 yX1_madeUpPercent, Cond.instanceMethod yX1_madeUpPercent, Cond.selects RX1 yX1_madeUpPercent yX1_madeUpPercent, Cond.code yX1_madeUpPercent cX1_madeUpPercent 3 (some .int), Cond.methodLink RX1 69 yX1_stepPercent, Cond.instanceMethod yX1_stepPercent, Cond.selects RX1 yX1_stepPercent yX1_stepPercent, Cond.code yX1_stepPercent cX1_stepPercent 1 (some .int), Cond.methodLink RX1 73 yX1_hasFilled, Cond.methodLink RL 51 yX2_paid, Cond.instanceMethod yX2_paid, Cond.selects RX2 yX2_paid yX2_paid, Cond.code yX2_paid cX2_paid 4 (some .int), Cond.methodLink RX2 103 yX2_hasPassed, Cond.instanceMethod yX2_hasPassed, Cond.selects RX2 yX2_hasPassed yX2_hasPassed, Cond.code yX2_hasPassed cX2_hasPassed 2 (some .boolean), Cond.methodLink RL 54 yX2_madeUp, Cond.instanceMethod yX2_madeUp, Cond.selects RX2 yX2_madeUp yX2_madeUp, Cond.code yX2_madeUp cX2_madeUp 4 (some .int), Cond.methodLink RL 57 yX2_cutWeeks, Cond.instanceMethod yX2_cutWeeks]
def wsL_kept_r8 : List Cond := [Cond.selects RX2 yX2_cutWeeks yX2_cutWeeks, Cond.code yX2_cutWeeks cX2_cutWeeks 2 (some .int), Cond.methodLink RL 60 yX2_door, Cond.instanceMethod yX2_door, Cond.selects RX2 yX2_door yX2_door, Cond.code yX2_door cX2_door 5 none, Cond.fieldLink RX2 21 "ShortWork" "checked" "[Z", Cond.methodLink RL 64 yX2_mail, Cond.instanceMethod yX2_mail, Cond.selects RX2 yX2_mail yX2_mail, Cond.code yX2_mail cX2_mail 4 none, Cond.methodLink RL 68 yX2_check, Cond.instanceMethod yX2_check, Cond.selects RX2 yX2_check yX2_check, Cond.code yX2_check cX2_check 7 (some .int), Cond.methodLink RX2 121 yX1_hasWorkedTooMuch, Cond.instanceMethod yX1_hasWorkedTooMuch, Cond.selects RX1 yX1_hasWorkedTooMuch yX1_hasWorkedTooMuch, Cond.code yX1_hasWorkedTooMuch cX1_hasWorkedTooMuch 3 (some .boolean), Cond.methodLink RX2 124 yX2_chargeBack, Cond.instanceMethod yX2_chargeBack, Cond.selects RX2 yX2_chargeBack yX2_chargeBack, Cond.code yX2_chargeBack cX2_chargeBack 5 none, Cond.fieldLink RX2 128 "ShortWork" "firmDebt" "I"]
def wsL_kept_r9 : List Cond := [Cond.methodLink RL 71 yX2_owes, Cond.instanceMethod yX2_owes, Cond.selects RX2 yX2_owes yX2_owes, Cond.code yX2_owes cX2_owes 2 (some .int), Cond.methodLink RL 74 yX2_net, Cond.instanceMethod yX2_net, Cond.selects RX2 yX2_net yX2_net, Cond.code yX2_net cX2_net 3 (some .int), Cond.methodLink RL 88 yX2_firmOwes, Cond.instanceMethod yX2_firmOwes, Cond.selects RX2 yX2_firmOwes yX2_firmOwes, Cond.code yX2_firmOwes cX2_firmOwes 1 (some .int)]
def wsL_kept : List Cond := .code yL_kept cL_kept 11 (some .boolean) :: ((wsL_kept_r1 ++ (wsL_kept_r2 ++ (wsL_kept_r3 ++ (wsL_kept_r4 ++ (wsL_kept_r5 ++ (wsL_kept_r6 ++ (wsL_kept_r7 ++ (wsL_kept_r8 ++ wsL_kept_r9)))))))) ++ wsX20 ++ wsX10 ++ wsX00 ++ (vx_at0 RX2 146 "java/lang/IllegalArgumentException" ["java/lang/RuntimeException", "java/lang/Exception"]).filter goodWord ++ (vx_at0 RX2 149 "java/lang/IllegalStateException" ["java/lang/RuntimeException", "java/lang/Exception"]).filter goodWord ++ (vx_at0 RX2 143 "java/lang/IndexOutOfBoundsException" ["java/lang/RuntimeException", "java/lang/Exception"]).filter goodWord)
def wsL_notices_r1 : List Cond := [Cond.methodLink RL 77 yX2_workers, Cond.instanceMethod yX2_workers, Cond.selects RX2 yX2_workers yX2_workers, Cond.initialized RX2, Cond.code yX2_workers cX2_workers 1 (some .int), Cond.fieldLink RX2 38 "ShortWork" "workerCount" "I", Cond.methodLink RL 83 yX2_week, Cond.instanceMethod yX2_week, Cond.selects RX2 yX2_week yX2_week, Cond.code yX2_week cX2_week 1 (some .int), Cond.fieldLink RX2 55 "ShortWork" "currentWeek" "I", Cond.methodLink RL 100 yL_some, Cond.static yL_some, Cond.initialized RL, Cond.code yL_some cL_some 2 (some .int), Cond.methodLink RL 103 yL_all, Cond.static yL_all, Cond.code yL_all cL_all 5 (some .long), Cond.constantLong RL 81 (9), Cond.constantLong RL 86 (1000003), Cond.constantLong RL 91 (211), Cond.constantLong RL 93 (41), Cond.constantLong RL 95 (2), Cond.methodLink RL 88 yX2_firmOwes]
def wsL_notices_r2 : List Cond := [Cond.instanceMethod yX2_firmOwes, Cond.selects RX2 yX2_firmOwes yX2_firmOwes, Cond.code yX2_firmOwes cX2_firmOwes 1 (some .int), Cond.fieldLink RX2 128 "ShortWork" "firmDebt" "I", Cond.methodLink RL 57 yX2_cutWeeks, Cond.instanceMethod yX2_cutWeeks, Cond.selects RX2 yX2_cutWeeks yX2_cutWeeks, Cond.code yX2_cutWeeks cX2_cutWeeks 2 (some .int), Cond.methodLink RX2 47 yX2_workerAt, Cond.instanceMethod yX2_workerAt, Cond.selects RX2 yX2_workerAt yX2_workerAt, Cond.code yX2_workerAt cX2_workerAt 3 (some (.object "ShortWork$Worker")), Cond.classLink RX2 141 "java/lang/IndexOutOfBoundsException", Cond.initialized "java/lang/IndexOutOfBoundsException", Cond.fieldLink RX2 11 "ShortWork" "staff" "[LShortWork$Worker;", Cond.methodLink RX2 30 yX2_isWithin, Cond.static yX2_isWithin, Cond.code yX2_isWithin cX2_isWithin 3 (some .boolean), Cond.methodLink RL 71 yX2_owes, Cond.instanceMethod yX2_owes, Cond.selects RX2 yX2_owes yX2_owes, Cond.code yX2_owes cX2_owes 2 (some .int), Cond.methodLink RL 74 yX2_net, Cond.instanceMethod yX2_net]
def wsL_notices_r3 : List Cond := [Cond.selects RX2 yX2_net yX2_net, Cond.code yX2_net cX2_net 3 (some .int), Cond.methodLink RL 41 yX2_cut, Cond.instanceMethod yX2_cut, Cond.selects RX2 yX2_cut yX2_cut, Cond.code yX2_cut cX2_cut 4 (some .int), Cond.methodLink RX2 34 yX2_requireArgument, Cond.static yX2_requireArgument, Cond.code yX2_requireArgument cX2_requireArgument 1 none, Cond.classLink RX2 144 "java/lang/IllegalArgumentException", Cond.initialized "java/lang/IllegalArgumentException", Cond.methodLink RL 44 yX2_isFilled, Cond.instanceMethod yX2_isFilled, Cond.selects RX2 yX2_isFilled yX2_isFilled, Cond.code yX2_isFilled cX2_isFilled 4 (some .boolean), Cond.methodLink RX2 95 yX1_hasFilled, Cond.instanceMethod yX1_hasFilled, Cond.selects RX1 yX1_hasFilled yX1_hasFilled, Cond.initialized RX1, Cond.code yX1_hasFilled cX1_hasFilled 2 (some .boolean), Cond.fieldLink RX1 23 "ShortWork$Worker" "courseHours" "[I", Cond.fieldLink RX1 19 "ShortWork$Worker" "cutHours" "[I", Cond.methodLink RL 97 yL_call, Cond.static yL_call]
def wsL_notices_r4 : List Cond := [Cond.codeWith yL_call cL_call 7 (some .int) [(0, 11, 12, 14), (0, 11, 17, 16), (0, 11, 22, 18)], Cond.classLink RL 14 "java/lang/IndexOutOfBoundsException", Cond.classLink RL 16 "java/lang/IllegalArgumentException", Cond.classLink RL 18 "java/lang/IllegalStateException", Cond.methodLink RL 8 yL_does, Cond.static yL_does, Cond.code yL_does cL_does 6 (some .int), Cond.methodLink RL 20 yX2_add, Cond.instanceMethod yX2_add, Cond.selects RX2 yX2_add yX2_add, Cond.code yX2_add cX2_add 4 (some .int), Cond.constant RX2 29 (100000), Cond.classLink RX2 9 RX1, Cond.instantiable RX1 12, Cond.methodLink RX2 41 yX2_requireState, Cond.static yX2_requireState, Cond.code yX2_requireState cX2_requireState 1 none, Cond.classLink RX2 147 "java/lang/IllegalStateException", Cond.initialized "java/lang/IllegalStateException", Cond.methodLink RX2 44 yX1_init, Cond.instanceMethod yX1_init, Cond.code yX1_init cX1_init 3 none, Cond.methodLink RX1 3 objectInit, Cond.instanceMethod objectInit]
def wsL_notices_r5 : List Cond := [Cond.code objectInit ⟨#[0xb1]⟩ 1 none, Cond.fieldLink RX1 9 "ShortWork$Worker" "fullPay" "I", Cond.fieldLink RX1 15 "ShortWork$Worker" "hasChildren" "Z", Cond.arrayClass .int, Cond.fieldLink RX1 26 "ShortWork$Worker" "firmPay" "[I", Cond.fieldLink RX1 29 "ShortWork$Worker" "fundPay" "[I", Cond.fieldLink RX1 32 "ShortWork$Worker" "doorHours" "[I", Cond.arrayClass .boolean, Cond.fieldLink RX1 35 "ShortWork$Worker" "mailed" "[Z", Cond.methodLink RL 26 yX2_notice, Cond.instanceMethod yX2_notice, Cond.selects RX2 yX2_notice yX2_notice, Cond.code yX2_notice cX2_notice 6 (some .int), Cond.methodLink RX2 51 yX2_isSpan, Cond.static yX2_isSpan, Cond.code yX2_isSpan cX2_isSpan 2 (some .boolean), Cond.methodLink RX2 61 yX1_takeNotice, Cond.instanceMethod yX1_takeNotice, Cond.selects RX1 yX1_takeNotice yX1_takeNotice, Cond.code yX1_takeNotice cX1_takeNotice 5 none, Cond.fieldLink RX1 39 "ShortWork$Worker" "noticeCount" "I", Cond.methodLink RL 30 yX2_addCourse, Cond.instanceMethod yX2_addCourse, Cond.selects RX2 yX2_addCourse yX2_addCourse]
def wsL_notices_r6 : List Cond := [Cond.code yX2_addCourse cX2_addCourse 6 (some .int), Cond.fieldLink RX2 65 "ShortWork" "courseCount" "I", Cond.fieldLink RX2 17 "ShortWork" "courses" "[LShortWork$Course;", Cond.classLink RX2 15 RX0, Cond.instantiable RX0 4, Cond.initialized RX0, Cond.methodLink RX2 68 yX0_init, Cond.instanceMethod yX0_init, Cond.code yX0_init cX0_init 5 none, Cond.methodLink RX0 1 objectInit, Cond.fieldLink RX0 7 "ShortWork$Course" "from" "I", Cond.fieldLink RX0 13 "ShortWork$Course" "to" "I", Cond.fieldLink RX0 16 "ShortWork$Course" "hours" "I", Cond.fieldLink RX0 19 "ShortWork$Course" "seatsLeft" "I", Cond.methodLink RL 33 yX2_enrol, Cond.instanceMethod yX2_enrol, Cond.selects RX2 yX2_enrol yX2_enrol, Cond.code yX2_enrol cX2_enrol 5 (some .int), Cond.methodLink RX2 71 yX2_courseAt, Cond.instanceMethod yX2_courseAt, Cond.selects RX2 yX2_courseAt yX2_courseAt, Cond.code yX2_courseAt cX2_courseAt 3 (some (.object "ShortWork$Course")), Cond.methodLink RX2 84 yX1_hasNoCourseFrom, Cond.instanceMethod yX1_hasNoCourseFrom]
def wsL_notices_r7 : List Cond := [Cond.selects RX1 yX1_hasNoCourseFrom yX1_hasNoCourseFrom, Cond.code yX1_hasNoCourseFrom cX1_hasNoCourseFrom 4 (some .boolean), Cond.methodLink RX2 87 yX1_goTo, Cond.instanceMethod yX1_goTo, Cond.selects RX1 yX1_goTo yX1_goTo, Cond.code yX1_goTo cX1_goTo 3 none, Cond.methodLink RL 37 yX2_setFloor, Cond.instanceMethod yX2_setFloor, Cond.selects RX2 yX2_setFloor yX2_setFloor, Cond.code yX2_setFloor cX2_setFloor 3 (some .int), Cond.fieldLink RX2 25 "ShortWork" "floorPercent" "I", Cond.methodLink RL 48 yX2_pass, Cond.instanceMethod yX2_pass, Cond.selects RX2 yX2_pass yX2_pass, Cond.code yX2_pass cX2_pass 4 (some .int), Cond.methodLink RX2 99 yX2_payCurrentWeek, Cond.instanceMethod yX2_payCurrentWeek, Cond.selects RX2 yX2_payCurrentWeek yX2_payCurrentWeek, Cond.code yX2_payCurrentWeek cX2_payCurrentWeek 6 (some .int), Cond.methodLink RX2 137 yX1_payFor, Cond.instanceMethod yX1_payFor, Cond.selects RX1 yX1_payFor yX1_payFor, Cond.code yX1_payFor cX1_payFor 6 (some .int), Cond.methodLink RX1 57 Lib.Math.max.name]
def wsL_notices_r8 : List Cond := [Cond.static Lib.Math.max.name, Cond.initialized "java/lang/Math", Cond.code Lib.Math.max.name Lib.Math.max.code 2 (some .int), Cond.fieldLink RX1 63 "ShortWork$Worker" "received" "I", Cond.fieldLink RX1 66 "ShortWork$Worker" "cutWeekCount" "I", Cond.methodLink RX1 53 yX1_madeUpPercent, Cond.instanceMethod yX1_madeUpPercent, Cond.selects RX1 yX1_madeUpPercent yX1_madeUpPercent, Cond.code yX1_madeUpPercent cX1_madeUpPercent 3 (some .int), Cond.methodLink RX1 69 yX1_stepPercent, Cond.instanceMethod yX1_stepPercent, Cond.selects RX1 yX1_stepPercent yX1_stepPercent, Cond.code yX1_stepPercent cX1_stepPercent 1 (some .int), Cond.methodLink RX1 73 yX1_hasFilled, Cond.methodLink RL 51 yX2_paid, Cond.instanceMethod yX2_paid, Cond.selects RX2 yX2_paid yX2_paid, Cond.code yX2_paid cX2_paid 4 (some .int), Cond.methodLink RX2 103 yX2_hasPassed, Cond.instanceMethod yX2_hasPassed, Cond.selects RX2 yX2_hasPassed yX2_hasPassed, Cond.code yX2_hasPassed cX2_hasPassed 2 (some .boolean), Cond.methodLink RL 54 yX2_madeUp, Cond.instanceMethod yX2_madeUp]
def wsL_notices_r9 : List Cond := [Cond.selects RX2 yX2_madeUp yX2_madeUp, Cond.code yX2_madeUp cX2_madeUp 4 (some .int), Cond.methodLink RL 60 yX2_door, Cond.instanceMethod yX2_door, Cond.selects RX2 yX2_door yX2_door, Cond.code yX2_door cX2_door 5 none, Cond.fieldLink RX2 21 "ShortWork" "checked" "[Z", Cond.methodLink RL 64 yX2_mail, Cond.instanceMethod yX2_mail, Cond.selects RX2 yX2_mail yX2_mail, Cond.code yX2_mail cX2_mail 4 none, Cond.methodLink RL 68 yX2_check, Cond.instanceMethod yX2_check, Cond.selects RX2 yX2_check yX2_check, Cond.code yX2_check cX2_check 7 (some .int), Cond.methodLink RX2 121 yX1_hasWorkedTooMuch, Cond.instanceMethod yX1_hasWorkedTooMuch, Cond.selects RX1 yX1_hasWorkedTooMuch yX1_hasWorkedTooMuch, Cond.code yX1_hasWorkedTooMuch cX1_hasWorkedTooMuch 3 (some .boolean), Cond.methodLink RX2 124 yX2_chargeBack, Cond.instanceMethod yX2_chargeBack, Cond.selects RX2 yX2_chargeBack yX2_chargeBack, Cond.code yX2_chargeBack cX2_chargeBack 5 none]
def wsL_notices : List Cond := .code yL_notices cL_notices 19 (some .boolean) :: ((wsL_notices_r1 ++ (wsL_notices_r2 ++ (wsL_notices_r3 ++ (wsL_notices_r4 ++ (wsL_notices_r5 ++ (wsL_notices_r6 ++ (wsL_notices_r7 ++ (wsL_notices_r8 ++ wsL_notices_r9)))))))) ++ wsX20 ++ wsX10 ++ wsX00 ++ (vx_at0 RX2 143 "java/lang/IndexOutOfBoundsException" ["java/lang/RuntimeException", "java/lang/Exception"]).filter goodWord ++ (vx_at0 RX2 146 "java/lang/IllegalArgumentException" ["java/lang/RuntimeException", "java/lang/Exception"]).filter goodWord ++ (vx_at0 RX2 149 "java/lang/IllegalStateException" ["java/lang/RuntimeException", "java/lang/Exception"]).filter goodWord)
def wsL_courses_r1 : List Cond := [Cond.methodLink RL 103 yL_all, Cond.static yL_all, Cond.initialized RL, Cond.code yL_all cL_all 5 (some .long), Cond.constantLong RL 81 (9), Cond.constantLong RL 86 (1000003), Cond.constantLong RL 91 (211), Cond.constantLong RL 93 (41), Cond.constantLong RL 95 (2), Cond.methodLink RL 77 yX2_workers, Cond.instanceMethod yX2_workers, Cond.selects RX2 yX2_workers yX2_workers, Cond.initialized RX2, Cond.code yX2_workers cX2_workers 1 (some .int), Cond.fieldLink RX2 38 "ShortWork" "workerCount" "I", Cond.methodLink RL 83 yX2_week, Cond.instanceMethod yX2_week, Cond.selects RX2 yX2_week yX2_week, Cond.code yX2_week cX2_week 1 (some .int), Cond.fieldLink RX2 55 "ShortWork" "currentWeek" "I", Cond.methodLink RL 88 yX2_firmOwes, Cond.instanceMethod yX2_firmOwes, Cond.selects RX2 yX2_firmOwes yX2_firmOwes, Cond.code yX2_firmOwes cX2_firmOwes 1 (some .int)]
def wsL_courses_r2 : List Cond := [Cond.fieldLink RX2 128 "ShortWork" "firmDebt" "I", Cond.methodLink RL 57 yX2_cutWeeks, Cond.instanceMethod yX2_cutWeeks, Cond.selects RX2 yX2_cutWeeks yX2_cutWeeks, Cond.code yX2_cutWeeks cX2_cutWeeks 2 (some .int), Cond.methodLink RX2 47 yX2_workerAt, Cond.instanceMethod yX2_workerAt, Cond.selects RX2 yX2_workerAt yX2_workerAt, Cond.code yX2_workerAt cX2_workerAt 3 (some (.object "ShortWork$Worker")), Cond.classLink RX2 141 "java/lang/IndexOutOfBoundsException", Cond.initialized "java/lang/IndexOutOfBoundsException", Cond.fieldLink RX2 11 "ShortWork" "staff" "[LShortWork$Worker;", Cond.methodLink RX2 30 yX2_isWithin, Cond.static yX2_isWithin, Cond.code yX2_isWithin cX2_isWithin 3 (some .boolean), Cond.methodLink RL 71 yX2_owes, Cond.instanceMethod yX2_owes, Cond.selects RX2 yX2_owes yX2_owes, Cond.code yX2_owes cX2_owes 2 (some .int), Cond.methodLink RL 74 yX2_net, Cond.instanceMethod yX2_net, Cond.selects RX2 yX2_net yX2_net, Cond.code yX2_net cX2_net 3 (some .int), Cond.methodLink RL 41 yX2_cut]
def wsL_courses_r3 : List Cond := [Cond.instanceMethod yX2_cut, Cond.selects RX2 yX2_cut yX2_cut, Cond.code yX2_cut cX2_cut 4 (some .int), Cond.methodLink RX2 34 yX2_requireArgument, Cond.static yX2_requireArgument, Cond.code yX2_requireArgument cX2_requireArgument 1 none, Cond.classLink RX2 144 "java/lang/IllegalArgumentException", Cond.initialized "java/lang/IllegalArgumentException", Cond.methodLink RL 44 yX2_isFilled, Cond.instanceMethod yX2_isFilled, Cond.selects RX2 yX2_isFilled yX2_isFilled, Cond.code yX2_isFilled cX2_isFilled 4 (some .boolean), Cond.methodLink RX2 95 yX1_hasFilled, Cond.instanceMethod yX1_hasFilled, Cond.selects RX1 yX1_hasFilled yX1_hasFilled, Cond.initialized RX1, Cond.code yX1_hasFilled cX1_hasFilled 2 (some .boolean), Cond.fieldLink RX1 23 "ShortWork$Worker" "courseHours" "[I", Cond.fieldLink RX1 19 "ShortWork$Worker" "cutHours" "[I", Cond.methodLink RL 100 yL_some, Cond.static yL_some, Cond.code yL_some cL_some 2 (some .int), Cond.methodLink RL 97 yL_call, Cond.static yL_call]
def wsL_courses_r4 : List Cond := [Cond.codeWith yL_call cL_call 7 (some .int) [(0, 11, 12, 14), (0, 11, 17, 16), (0, 11, 22, 18)], Cond.classLink RL 14 "java/lang/IndexOutOfBoundsException", Cond.classLink RL 16 "java/lang/IllegalArgumentException", Cond.classLink RL 18 "java/lang/IllegalStateException", Cond.methodLink RL 8 yL_does, Cond.static yL_does, Cond.code yL_does cL_does 6 (some .int), Cond.methodLink RL 20 yX2_add, Cond.instanceMethod yX2_add, Cond.selects RX2 yX2_add yX2_add, Cond.code yX2_add cX2_add 4 (some .int), Cond.constant RX2 29 (100000), Cond.classLink RX2 9 RX1, Cond.instantiable RX1 12, Cond.methodLink RX2 41 yX2_requireState, Cond.static yX2_requireState, Cond.code yX2_requireState cX2_requireState 1 none, Cond.classLink RX2 147 "java/lang/IllegalStateException", Cond.initialized "java/lang/IllegalStateException", Cond.methodLink RX2 44 yX1_init, Cond.instanceMethod yX1_init, Cond.code yX1_init cX1_init 3 none, Cond.methodLink RX1 3 objectInit, Cond.instanceMethod objectInit]
def wsL_courses_r5 : List Cond := [Cond.code objectInit ⟨#[0xb1]⟩ 1 none, Cond.fieldLink RX1 9 "ShortWork$Worker" "fullPay" "I", Cond.fieldLink RX1 15 "ShortWork$Worker" "hasChildren" "Z", Cond.arrayClass .int, Cond.fieldLink RX1 26 "ShortWork$Worker" "firmPay" "[I", Cond.fieldLink RX1 29 "ShortWork$Worker" "fundPay" "[I", Cond.fieldLink RX1 32 "ShortWork$Worker" "doorHours" "[I", Cond.arrayClass .boolean, Cond.fieldLink RX1 35 "ShortWork$Worker" "mailed" "[Z", Cond.methodLink RL 26 yX2_notice, Cond.instanceMethod yX2_notice, Cond.selects RX2 yX2_notice yX2_notice, Cond.code yX2_notice cX2_notice 6 (some .int), Cond.methodLink RX2 51 yX2_isSpan, Cond.static yX2_isSpan, Cond.code yX2_isSpan cX2_isSpan 2 (some .boolean), Cond.methodLink RX2 61 yX1_takeNotice, Cond.instanceMethod yX1_takeNotice, Cond.selects RX1 yX1_takeNotice yX1_takeNotice, Cond.code yX1_takeNotice cX1_takeNotice 5 none, Cond.fieldLink RX1 39 "ShortWork$Worker" "noticeCount" "I", Cond.methodLink RL 30 yX2_addCourse, Cond.instanceMethod yX2_addCourse, Cond.selects RX2 yX2_addCourse yX2_addCourse]
def wsL_courses_r6 : List Cond := [Cond.code yX2_addCourse cX2_addCourse 6 (some .int), Cond.fieldLink RX2 65 "ShortWork" "courseCount" "I", Cond.fieldLink RX2 17 "ShortWork" "courses" "[LShortWork$Course;", Cond.classLink RX2 15 RX0, Cond.instantiable RX0 4, Cond.initialized RX0, Cond.methodLink RX2 68 yX0_init, Cond.instanceMethod yX0_init, Cond.code yX0_init cX0_init 5 none, Cond.methodLink RX0 1 objectInit, Cond.fieldLink RX0 7 "ShortWork$Course" "from" "I", Cond.fieldLink RX0 13 "ShortWork$Course" "to" "I", Cond.fieldLink RX0 16 "ShortWork$Course" "hours" "I", Cond.fieldLink RX0 19 "ShortWork$Course" "seatsLeft" "I", Cond.methodLink RL 33 yX2_enrol, Cond.instanceMethod yX2_enrol, Cond.selects RX2 yX2_enrol yX2_enrol, Cond.code yX2_enrol cX2_enrol 5 (some .int), Cond.methodLink RX2 71 yX2_courseAt, Cond.instanceMethod yX2_courseAt, Cond.selects RX2 yX2_courseAt yX2_courseAt, Cond.code yX2_courseAt cX2_courseAt 3 (some (.object "ShortWork$Course")), Cond.methodLink RX2 84 yX1_hasNoCourseFrom, Cond.instanceMethod yX1_hasNoCourseFrom]
def wsL_courses_r7 : List Cond := [Cond.selects RX1 yX1_hasNoCourseFrom yX1_hasNoCourseFrom, Cond.code yX1_hasNoCourseFrom cX1_hasNoCourseFrom 4 (some .boolean), Cond.methodLink RX2 87 yX1_goTo, Cond.instanceMethod yX1_goTo, Cond.selects RX1 yX1_goTo yX1_goTo, Cond.code yX1_goTo cX1_goTo 3 none, Cond.methodLink RL 37 yX2_setFloor, Cond.instanceMethod yX2_setFloor, Cond.selects RX2 yX2_setFloor yX2_setFloor, Cond.code yX2_setFloor cX2_setFloor 3 (some .int), Cond.fieldLink RX2 25 "ShortWork" "floorPercent" "I", Cond.methodLink RL 48 yX2_pass, Cond.instanceMethod yX2_pass, Cond.selects RX2 yX2_pass yX2_pass, Cond.code yX2_pass cX2_pass 4 (some .int), Cond.methodLink RX2 99 yX2_payCurrentWeek, Cond.instanceMethod yX2_payCurrentWeek, Cond.selects RX2 yX2_payCurrentWeek yX2_payCurrentWeek, Cond.code yX2_payCurrentWeek cX2_payCurrentWeek 6 (some .int), Cond.methodLink RX2 137 yX1_payFor, Cond.instanceMethod yX1_payFor, Cond.selects RX1 yX1_payFor yX1_payFor, Cond.code yX1_payFor cX1_payFor 6 (some .int), Cond.methodLink RX1 57 Lib.Math.max.name]
def wsL_courses_r8 : List Cond := [Cond.static Lib.Math.max.name, Cond.initialized "java/lang/Math", Cond.code Lib.Math.max.name Lib.Math.max.code 2 (some .int), Cond.fieldLink RX1 63 "ShortWork$Worker" "received" "I", Cond.fieldLink RX1 66 "ShortWork$Worker" "cutWeekCount" "I", Cond.methodLink RX1 53 yX1_madeUpPercent, Cond.instanceMethod yX1_madeUpPercent, Cond.selects RX1 yX1_madeUpPercent yX1_madeUpPercent, Cond.code yX1_madeUpPercent cX1_madeUpPercent 3 (some .int), Cond.methodLink RX1 69 yX1_stepPercent, Cond.instanceMethod yX1_stepPercent, Cond.selects RX1 yX1_stepPercent yX1_stepPercent, Cond.code yX1_stepPercent cX1_stepPercent 1 (some .int), Cond.methodLink RX1 73 yX1_hasFilled, Cond.methodLink RL 51 yX2_paid, Cond.instanceMethod yX2_paid, Cond.selects RX2 yX2_paid yX2_paid, Cond.code yX2_paid cX2_paid 4 (some .int), Cond.methodLink RX2 103 yX2_hasPassed, Cond.instanceMethod yX2_hasPassed, Cond.selects RX2 yX2_hasPassed yX2_hasPassed, Cond.code yX2_hasPassed cX2_hasPassed 2 (some .boolean), Cond.methodLink RL 54 yX2_madeUp, Cond.instanceMethod yX2_madeUp]
def wsL_courses_r9 : List Cond := [Cond.selects RX2 yX2_madeUp yX2_madeUp, Cond.code yX2_madeUp cX2_madeUp 4 (some .int), Cond.methodLink RL 60 yX2_door, Cond.instanceMethod yX2_door, Cond.selects RX2 yX2_door yX2_door, Cond.code yX2_door cX2_door 5 none, Cond.fieldLink RX2 21 "ShortWork" "checked" "[Z", Cond.methodLink RL 64 yX2_mail, Cond.instanceMethod yX2_mail, Cond.selects RX2 yX2_mail yX2_mail, Cond.code yX2_mail cX2_mail 4 none, Cond.methodLink RL 68 yX2_check, Cond.instanceMethod yX2_check, Cond.selects RX2 yX2_check yX2_check, Cond.code yX2_check cX2_check 7 (some .int), Cond.methodLink RX2 121 yX1_hasWorkedTooMuch, Cond.instanceMethod yX1_hasWorkedTooMuch, Cond.selects RX1 yX1_hasWorkedTooMuch yX1_hasWorkedTooMuch, Cond.code yX1_hasWorkedTooMuch cX1_hasWorkedTooMuch 3 (some .boolean), Cond.methodLink RX2 124 yX2_chargeBack, Cond.instanceMethod yX2_chargeBack, Cond.selects RX2 yX2_chargeBack yX2_chargeBack, Cond.code yX2_chargeBack cX2_chargeBack 5 none]
def wsL_courses : List Cond := .code yL_courses cL_courses 15 (some .boolean) :: ((wsL_courses_r1 ++ (wsL_courses_r2 ++ (wsL_courses_r3 ++ (wsL_courses_r4 ++ (wsL_courses_r5 ++ (wsL_courses_r6 ++ (wsL_courses_r7 ++ (wsL_courses_r8 ++ wsL_courses_r9)))))))) ++ wsX20 ++ wsX10 ++ wsX00 ++ (vx_at0 RX2 143 "java/lang/IndexOutOfBoundsException" ["java/lang/RuntimeException", "java/lang/Exception"]).filter goodWord ++ (vx_at0 RX2 146 "java/lang/IllegalArgumentException" ["java/lang/RuntimeException", "java/lang/Exception"]).filter goodWord ++ (vx_at0 RX2 149 "java/lang/IllegalStateException" ["java/lang/RuntimeException", "java/lang/Exception"]).filter goodWord)
def wsL_passes_r1 : List Cond := [Cond.methodLink RL 83 yX2_week, Cond.instanceMethod yX2_week, Cond.selects RX2 yX2_week yX2_week, Cond.initialized RX2, Cond.code yX2_week cX2_week 1 (some .int), Cond.fieldLink RX2 55 "ShortWork" "currentWeek" "I", Cond.methodLink RL 97 yL_call, Cond.static yL_call, Cond.initialized RL, Cond.codeWith yL_call cL_call 7 (some .int) [(0, 11, 12, 14), (0, 11, 17, 16), (0, 11, 22, 18)], Cond.classLink RL 14 "java/lang/IndexOutOfBoundsException", Cond.classLink RL 16 "java/lang/IllegalArgumentException", Cond.classLink RL 18 "java/lang/IllegalStateException", Cond.methodLink RL 8 yL_does, Cond.static yL_does, Cond.code yL_does cL_does 6 (some .int), Cond.methodLink RL 20 yX2_add, Cond.instanceMethod yX2_add, Cond.selects RX2 yX2_add yX2_add, Cond.code yX2_add cX2_add 4 (some .int), Cond.constant RX2 29 (100000), Cond.fieldLink RX2 38 "ShortWork" "workerCount" "I", Cond.fieldLink RX2 11 "ShortWork" "staff" "[LShortWork$Worker;", Cond.classLink RX2 9 RX1]
def wsL_passes_r2 : List Cond := [Cond.instantiable RX1 12, Cond.initialized RX1, Cond.methodLink RX2 30 yX2_isWithin, Cond.static yX2_isWithin, Cond.code yX2_isWithin cX2_isWithin 3 (some .boolean), Cond.methodLink RX2 34 yX2_requireArgument, Cond.static yX2_requireArgument, Cond.code yX2_requireArgument cX2_requireArgument 1 none, Cond.classLink RX2 144 "java/lang/IllegalArgumentException", Cond.initialized "java/lang/IllegalArgumentException", Cond.methodLink RX2 41 yX2_requireState, Cond.static yX2_requireState, Cond.code yX2_requireState cX2_requireState 1 none, Cond.classLink RX2 147 "java/lang/IllegalStateException", Cond.initialized "java/lang/IllegalStateException", Cond.methodLink RX2 44 yX1_init, Cond.instanceMethod yX1_init, Cond.code yX1_init cX1_init 3 none, Cond.methodLink RX1 3 objectInit, Cond.instanceMethod objectInit, Cond.code objectInit ⟨#[0xb1]⟩ 1 none, Cond.fieldLink RX1 9 "ShortWork$Worker" "fullPay" "I", Cond.fieldLink RX1 15 "ShortWork$Worker" "hasChildren" "Z", Cond.arrayClass .int]
def wsL_passes_r3 : List Cond := [Cond.fieldLink RX1 19 "ShortWork$Worker" "cutHours" "[I", Cond.fieldLink RX1 23 "ShortWork$Worker" "courseHours" "[I", Cond.fieldLink RX1 26 "ShortWork$Worker" "firmPay" "[I", Cond.fieldLink RX1 29 "ShortWork$Worker" "fundPay" "[I", Cond.fieldLink RX1 32 "ShortWork$Worker" "doorHours" "[I", Cond.arrayClass .boolean, Cond.fieldLink RX1 35 "ShortWork$Worker" "mailed" "[Z", Cond.methodLink RL 26 yX2_notice, Cond.instanceMethod yX2_notice, Cond.selects RX2 yX2_notice yX2_notice, Cond.code yX2_notice cX2_notice 6 (some .int), Cond.methodLink RX2 47 yX2_workerAt, Cond.instanceMethod yX2_workerAt, Cond.selects RX2 yX2_workerAt yX2_workerAt, Cond.code yX2_workerAt cX2_workerAt 3 (some (.object "ShortWork$Worker")), Cond.classLink RX2 141 "java/lang/IndexOutOfBoundsException", Cond.initialized "java/lang/IndexOutOfBoundsException", Cond.methodLink RX2 51 yX2_isSpan, Cond.static yX2_isSpan, Cond.code yX2_isSpan cX2_isSpan 2 (some .boolean), Cond.methodLink RX2 61 yX1_takeNotice, Cond.instanceMethod yX1_takeNotice, Cond.selects RX1 yX1_takeNotice yX1_takeNotice, Cond.code yX1_takeNotice cX1_takeNotice 5 none]
def wsL_passes_r4 : List Cond := [Cond.fieldLink RX1 39 "ShortWork$Worker" "noticeCount" "I", Cond.methodLink RL 30 yX2_addCourse, Cond.instanceMethod yX2_addCourse, Cond.selects RX2 yX2_addCourse yX2_addCourse, Cond.code yX2_addCourse cX2_addCourse 6 (some .int), Cond.fieldLink RX2 65 "ShortWork" "courseCount" "I", Cond.fieldLink RX2 17 "ShortWork" "courses" "[LShortWork$Course;", Cond.classLink RX2 15 RX0, Cond.instantiable RX0 4, Cond.initialized RX0, Cond.methodLink RX2 68 yX0_init, Cond.instanceMethod yX0_init, Cond.code yX0_init cX0_init 5 none, Cond.methodLink RX0 1 objectInit, Cond.fieldLink RX0 7 "ShortWork$Course" "from" "I", Cond.fieldLink RX0 13 "ShortWork$Course" "to" "I", Cond.fieldLink RX0 16 "ShortWork$Course" "hours" "I", Cond.fieldLink RX0 19 "ShortWork$Course" "seatsLeft" "I", Cond.methodLink RL 33 yX2_enrol, Cond.instanceMethod yX2_enrol, Cond.selects RX2 yX2_enrol yX2_enrol, Cond.code yX2_enrol cX2_enrol 5 (some .int), Cond.methodLink RX2 71 yX2_courseAt, Cond.instanceMethod yX2_courseAt]
def wsL_passes_r5 : List Cond := [Cond.selects RX2 yX2_courseAt yX2_courseAt, Cond.code yX2_courseAt cX2_courseAt 3 (some (.object "ShortWork$Course")), Cond.methodLink RX2 84 yX1_hasNoCourseFrom, Cond.instanceMethod yX1_hasNoCourseFrom, Cond.selects RX1 yX1_hasNoCourseFrom yX1_hasNoCourseFrom, Cond.code yX1_hasNoCourseFrom cX1_hasNoCourseFrom 4 (some .boolean), Cond.methodLink RX2 87 yX1_goTo, Cond.instanceMethod yX1_goTo, Cond.selects RX1 yX1_goTo yX1_goTo, Cond.code yX1_goTo cX1_goTo 3 none, Cond.methodLink RL 37 yX2_setFloor, Cond.instanceMethod yX2_setFloor, Cond.selects RX2 yX2_setFloor yX2_setFloor, Cond.code yX2_setFloor cX2_setFloor 3 (some .int), Cond.fieldLink RX2 25 "ShortWork" "floorPercent" "I", Cond.methodLink RL 41 yX2_cut, Cond.instanceMethod yX2_cut, Cond.selects RX2 yX2_cut yX2_cut, Cond.code yX2_cut cX2_cut 4 (some .int), Cond.methodLink RL 44 yX2_isFilled, Cond.instanceMethod yX2_isFilled, Cond.selects RX2 yX2_isFilled yX2_isFilled, Cond.code yX2_isFilled cX2_isFilled 4 (some .boolean), Cond.methodLink RX2 95 yX1_hasFilled]
def wsL_passes_r6 : List Cond := [Cond.instanceMethod yX1_hasFilled, Cond.selects RX1 yX1_hasFilled yX1_hasFilled, Cond.code yX1_hasFilled cX1_hasFilled 2 (some .boolean), Cond.methodLink RL 48 yX2_pass, Cond.instanceMethod yX2_pass, Cond.selects RX2 yX2_pass yX2_pass, Cond.code yX2_pass cX2_pass 4 (some .int), Cond.methodLink RX2 99 yX2_payCurrentWeek, Cond.instanceMethod yX2_payCurrentWeek, Cond.selects RX2 yX2_payCurrentWeek yX2_payCurrentWeek, Cond.code yX2_payCurrentWeek cX2_payCurrentWeek 6 (some .int), Cond.methodLink RX2 137 yX1_payFor, Cond.instanceMethod yX1_payFor, Cond.selects RX1 yX1_payFor yX1_payFor, Cond.code yX1_payFor cX1_payFor 6 (some .int), Cond.methodLink RX1 57 Lib.Math.max.name, Cond.static Lib.Math.max.name, Cond.initialized "java/lang/Math", Cond.code Lib.Math.max.name Lib.Math.max.code 2 (some .int), Cond.fieldLink RX1 63 "ShortWork$Worker" "received" "I", Cond.fieldLink RX1 66 "ShortWork$Worker" "cutWeekCount" "I", Cond.methodLink RX1 53 yX1_madeUpPercent, Cond.instanceMethod yX1_madeUpPercent, Cond.selects RX1 yX1_madeUpPercent yX1_madeUpPercent]
def wsL_passes_r7 : List Cond := [Cond.code yX1_madeUpPercent cX1_madeUpPercent 3 (some .int), Cond.methodLink RX1 69 yX1_stepPercent, Cond.instanceMethod yX1_stepPercent, Cond.selects RX1 yX1_stepPercent yX1_stepPercent, Cond.code yX1_stepPercent cX1_stepPercent 1 (some .int), Cond.methodLink RX1 73 yX1_hasFilled, Cond.methodLink RL 51 yX2_paid, Cond.instanceMethod yX2_paid, Cond.selects RX2 yX2_paid yX2_paid, Cond.code yX2_paid cX2_paid 4 (some .int), Cond.methodLink RX2 103 yX2_hasPassed, Cond.instanceMethod yX2_hasPassed, Cond.selects RX2 yX2_hasPassed yX2_hasPassed, Cond.code yX2_hasPassed cX2_hasPassed 2 (some .boolean), Cond.methodLink RL 54 yX2_madeUp, Cond.instanceMethod yX2_madeUp, Cond.selects RX2 yX2_madeUp yX2_madeUp, Cond.code yX2_madeUp cX2_madeUp 4 (some .int), Cond.methodLink RL 57 yX2_cutWeeks, Cond.instanceMethod yX2_cutWeeks, Cond.selects RX2 yX2_cutWeeks yX2_cutWeeks, Cond.code yX2_cutWeeks cX2_cutWeeks 2 (some .int), Cond.methodLink RL 60 yX2_door, Cond.instanceMethod yX2_door]
def wsL_passes_r8 : List Cond := [Cond.selects RX2 yX2_door yX2_door, Cond.code yX2_door cX2_door 5 none, Cond.fieldLink RX2 21 "ShortWork" "checked" "[Z", Cond.methodLink RL 64 yX2_mail, Cond.instanceMethod yX2_mail, Cond.selects RX2 yX2_mail yX2_mail, Cond.code yX2_mail cX2_mail 4 none, Cond.methodLink RL 68 yX2_check, Cond.instanceMethod yX2_check, Cond.selects RX2 yX2_check yX2_check, Cond.code yX2_check cX2_check 7 (some .int), Cond.methodLink RX2 121 yX1_hasWorkedTooMuch, Cond.instanceMethod yX1_hasWorkedTooMuch, Cond.selects RX1 yX1_hasWorkedTooMuch yX1_hasWorkedTooMuch, Cond.code yX1_hasWorkedTooMuch cX1_hasWorkedTooMuch 3 (some .boolean), Cond.methodLink RX2 124 yX2_chargeBack, Cond.instanceMethod yX2_chargeBack, Cond.selects RX2 yX2_chargeBack yX2_chargeBack, Cond.code yX2_chargeBack cX2_chargeBack 5 none, Cond.fieldLink RX2 128 "ShortWork" "firmDebt" "I", Cond.methodLink RL 71 yX2_owes, Cond.instanceMethod yX2_owes, Cond.selects RX2 yX2_owes yX2_owes, Cond.code yX2_owes cX2_owes 2 (some .int)]
def wsL_passes_r9 : List Cond := [Cond.methodLink RL 74 yX2_net, Cond.instanceMethod yX2_net, Cond.selects RX2 yX2_net yX2_net, Cond.code yX2_net cX2_net 3 (some .int), Cond.methodLink RL 77 yX2_workers, Cond.instanceMethod yX2_workers, Cond.selects RX2 yX2_workers yX2_workers, Cond.code yX2_workers cX2_workers 1 (some .int)]
def wsL_passes : List Cond := .code yL_passes cL_passes 12 (some .boolean) :: ((wsL_passes_r1 ++ (wsL_passes_r2 ++ (wsL_passes_r3 ++ (wsL_passes_r4 ++ (wsL_passes_r5 ++ (wsL_passes_r6 ++ (wsL_passes_r7 ++ (wsL_passes_r8 ++ wsL_passes_r9)))))))) ++ wsX20 ++ wsX10 ++ wsX00 ++ (vx_at0 RX2 146 "java/lang/IllegalArgumentException" ["java/lang/RuntimeException", "java/lang/Exception"]).filter goodWord ++ (vx_at0 RX2 149 "java/lang/IllegalStateException" ["java/lang/RuntimeException", "java/lang/Exception"]).filter goodWord ++ (vx_at0 RX2 143 "java/lang/IndexOutOfBoundsException" ["java/lang/RuntimeException", "java/lang/Exception"]).filter goodWord)
def wsL_checks_r1 : List Cond := [Cond.methodLink RL 77 yX2_workers, Cond.instanceMethod yX2_workers, Cond.selects RX2 yX2_workers yX2_workers, Cond.initialized RX2, Cond.code yX2_workers cX2_workers 1 (some .int), Cond.fieldLink RX2 38 "ShortWork" "workerCount" "I", Cond.methodLink RL 83 yX2_week, Cond.instanceMethod yX2_week, Cond.selects RX2 yX2_week yX2_week, Cond.code yX2_week cX2_week 1 (some .int), Cond.fieldLink RX2 55 "ShortWork" "currentWeek" "I", Cond.methodLink RL 100 yL_some, Cond.static yL_some, Cond.initialized RL, Cond.code yL_some cL_some 2 (some .int), Cond.methodLink RL 103 yL_all, Cond.static yL_all, Cond.code yL_all cL_all 5 (some .long), Cond.constantLong RL 81 (9), Cond.constantLong RL 86 (1000003), Cond.constantLong RL 91 (211), Cond.constantLong RL 93 (41), Cond.constantLong RL 95 (2), Cond.methodLink RL 88 yX2_firmOwes]
def wsL_checks_r2 : List Cond := [Cond.instanceMethod yX2_firmOwes, Cond.selects RX2 yX2_firmOwes yX2_firmOwes, Cond.code yX2_firmOwes cX2_firmOwes 1 (some .int), Cond.fieldLink RX2 128 "ShortWork" "firmDebt" "I", Cond.methodLink RL 57 yX2_cutWeeks, Cond.instanceMethod yX2_cutWeeks, Cond.selects RX2 yX2_cutWeeks yX2_cutWeeks, Cond.code yX2_cutWeeks cX2_cutWeeks 2 (some .int), Cond.methodLink RX2 47 yX2_workerAt, Cond.instanceMethod yX2_workerAt, Cond.selects RX2 yX2_workerAt yX2_workerAt, Cond.code yX2_workerAt cX2_workerAt 3 (some (.object "ShortWork$Worker")), Cond.classLink RX2 141 "java/lang/IndexOutOfBoundsException", Cond.initialized "java/lang/IndexOutOfBoundsException", Cond.fieldLink RX2 11 "ShortWork" "staff" "[LShortWork$Worker;", Cond.methodLink RX2 30 yX2_isWithin, Cond.static yX2_isWithin, Cond.code yX2_isWithin cX2_isWithin 3 (some .boolean), Cond.methodLink RL 71 yX2_owes, Cond.instanceMethod yX2_owes, Cond.selects RX2 yX2_owes yX2_owes, Cond.code yX2_owes cX2_owes 2 (some .int), Cond.methodLink RL 74 yX2_net, Cond.instanceMethod yX2_net]
def wsL_checks_r3 : List Cond := [Cond.selects RX2 yX2_net yX2_net, Cond.code yX2_net cX2_net 3 (some .int), Cond.methodLink RL 41 yX2_cut, Cond.instanceMethod yX2_cut, Cond.selects RX2 yX2_cut yX2_cut, Cond.code yX2_cut cX2_cut 4 (some .int), Cond.methodLink RX2 34 yX2_requireArgument, Cond.static yX2_requireArgument, Cond.code yX2_requireArgument cX2_requireArgument 1 none, Cond.classLink RX2 144 "java/lang/IllegalArgumentException", Cond.initialized "java/lang/IllegalArgumentException", Cond.methodLink RL 44 yX2_isFilled, Cond.instanceMethod yX2_isFilled, Cond.selects RX2 yX2_isFilled yX2_isFilled, Cond.code yX2_isFilled cX2_isFilled 4 (some .boolean), Cond.methodLink RX2 95 yX1_hasFilled, Cond.instanceMethod yX1_hasFilled, Cond.selects RX1 yX1_hasFilled yX1_hasFilled, Cond.initialized RX1, Cond.code yX1_hasFilled cX1_hasFilled 2 (some .boolean), Cond.fieldLink RX1 23 "ShortWork$Worker" "courseHours" "[I", Cond.fieldLink RX1 19 "ShortWork$Worker" "cutHours" "[I", Cond.methodLink RL 97 yL_call, Cond.static yL_call]
def wsL_checks_r4 : List Cond := [Cond.codeWith yL_call cL_call 7 (some .int) [(0, 11, 12, 14), (0, 11, 17, 16), (0, 11, 22, 18)], Cond.classLink RL 14 "java/lang/IndexOutOfBoundsException", Cond.classLink RL 16 "java/lang/IllegalArgumentException", Cond.classLink RL 18 "java/lang/IllegalStateException", Cond.methodLink RL 8 yL_does, Cond.static yL_does, Cond.code yL_does cL_does 6 (some .int), Cond.methodLink RL 20 yX2_add, Cond.instanceMethod yX2_add, Cond.selects RX2 yX2_add yX2_add, Cond.code yX2_add cX2_add 4 (some .int), Cond.constant RX2 29 (100000), Cond.classLink RX2 9 RX1, Cond.instantiable RX1 12, Cond.methodLink RX2 41 yX2_requireState, Cond.static yX2_requireState, Cond.code yX2_requireState cX2_requireState 1 none, Cond.classLink RX2 147 "java/lang/IllegalStateException", Cond.initialized "java/lang/IllegalStateException", Cond.methodLink RX2 44 yX1_init, Cond.instanceMethod yX1_init, Cond.code yX1_init cX1_init 3 none, Cond.methodLink RX1 3 objectInit, Cond.instanceMethod objectInit]
def wsL_checks_r5 : List Cond := [Cond.code objectInit ⟨#[0xb1]⟩ 1 none, Cond.fieldLink RX1 9 "ShortWork$Worker" "fullPay" "I", Cond.fieldLink RX1 15 "ShortWork$Worker" "hasChildren" "Z", Cond.arrayClass .int, Cond.fieldLink RX1 26 "ShortWork$Worker" "firmPay" "[I", Cond.fieldLink RX1 29 "ShortWork$Worker" "fundPay" "[I", Cond.fieldLink RX1 32 "ShortWork$Worker" "doorHours" "[I", Cond.arrayClass .boolean, Cond.fieldLink RX1 35 "ShortWork$Worker" "mailed" "[Z", Cond.methodLink RL 26 yX2_notice, Cond.instanceMethod yX2_notice, Cond.selects RX2 yX2_notice yX2_notice, Cond.code yX2_notice cX2_notice 6 (some .int), Cond.methodLink RX2 51 yX2_isSpan, Cond.static yX2_isSpan, Cond.code yX2_isSpan cX2_isSpan 2 (some .boolean), Cond.methodLink RX2 61 yX1_takeNotice, Cond.instanceMethod yX1_takeNotice, Cond.selects RX1 yX1_takeNotice yX1_takeNotice, Cond.code yX1_takeNotice cX1_takeNotice 5 none, Cond.fieldLink RX1 39 "ShortWork$Worker" "noticeCount" "I", Cond.methodLink RL 30 yX2_addCourse, Cond.instanceMethod yX2_addCourse, Cond.selects RX2 yX2_addCourse yX2_addCourse]
def wsL_checks_r6 : List Cond := [Cond.code yX2_addCourse cX2_addCourse 6 (some .int), Cond.fieldLink RX2 65 "ShortWork" "courseCount" "I", Cond.fieldLink RX2 17 "ShortWork" "courses" "[LShortWork$Course;", Cond.classLink RX2 15 RX0, Cond.instantiable RX0 4, Cond.initialized RX0, Cond.methodLink RX2 68 yX0_init, Cond.instanceMethod yX0_init, Cond.code yX0_init cX0_init 5 none, Cond.methodLink RX0 1 objectInit, Cond.fieldLink RX0 7 "ShortWork$Course" "from" "I", Cond.fieldLink RX0 13 "ShortWork$Course" "to" "I", Cond.fieldLink RX0 16 "ShortWork$Course" "hours" "I", Cond.fieldLink RX0 19 "ShortWork$Course" "seatsLeft" "I", Cond.methodLink RL 33 yX2_enrol, Cond.instanceMethod yX2_enrol, Cond.selects RX2 yX2_enrol yX2_enrol, Cond.code yX2_enrol cX2_enrol 5 (some .int), Cond.methodLink RX2 71 yX2_courseAt, Cond.instanceMethod yX2_courseAt, Cond.selects RX2 yX2_courseAt yX2_courseAt, Cond.code yX2_courseAt cX2_courseAt 3 (some (.object "ShortWork$Course")), Cond.methodLink RX2 84 yX1_hasNoCourseFrom, Cond.instanceMethod yX1_hasNoCourseFrom]
def wsL_checks_r7 : List Cond := [Cond.selects RX1 yX1_hasNoCourseFrom yX1_hasNoCourseFrom, Cond.code yX1_hasNoCourseFrom cX1_hasNoCourseFrom 4 (some .boolean), Cond.methodLink RX2 87 yX1_goTo, Cond.instanceMethod yX1_goTo, Cond.selects RX1 yX1_goTo yX1_goTo, Cond.code yX1_goTo cX1_goTo 3 none, Cond.methodLink RL 37 yX2_setFloor, Cond.instanceMethod yX2_setFloor, Cond.selects RX2 yX2_setFloor yX2_setFloor, Cond.code yX2_setFloor cX2_setFloor 3 (some .int), Cond.fieldLink RX2 25 "ShortWork" "floorPercent" "I", Cond.methodLink RL 48 yX2_pass, Cond.instanceMethod yX2_pass, Cond.selects RX2 yX2_pass yX2_pass, Cond.code yX2_pass cX2_pass 4 (some .int), Cond.methodLink RX2 99 yX2_payCurrentWeek, Cond.instanceMethod yX2_payCurrentWeek, Cond.selects RX2 yX2_payCurrentWeek yX2_payCurrentWeek, Cond.code yX2_payCurrentWeek cX2_payCurrentWeek 6 (some .int), Cond.methodLink RX2 137 yX1_payFor, Cond.instanceMethod yX1_payFor, Cond.selects RX1 yX1_payFor yX1_payFor, Cond.code yX1_payFor cX1_payFor 6 (some .int), Cond.methodLink RX1 57 Lib.Math.max.name]
def wsL_checks_r8 : List Cond := [Cond.static Lib.Math.max.name, Cond.initialized "java/lang/Math", Cond.code Lib.Math.max.name Lib.Math.max.code 2 (some .int), Cond.fieldLink RX1 63 "ShortWork$Worker" "received" "I", Cond.fieldLink RX1 66 "ShortWork$Worker" "cutWeekCount" "I", Cond.methodLink RX1 53 yX1_madeUpPercent, Cond.instanceMethod yX1_madeUpPercent, Cond.selects RX1 yX1_madeUpPercent yX1_madeUpPercent, Cond.code yX1_madeUpPercent cX1_madeUpPercent 3 (some .int), Cond.methodLink RX1 69 yX1_stepPercent, Cond.instanceMethod yX1_stepPercent, Cond.selects RX1 yX1_stepPercent yX1_stepPercent, Cond.code yX1_stepPercent cX1_stepPercent 1 (some .int), Cond.methodLink RX1 73 yX1_hasFilled, Cond.methodLink RL 51 yX2_paid, Cond.instanceMethod yX2_paid, Cond.selects RX2 yX2_paid yX2_paid, Cond.code yX2_paid cX2_paid 4 (some .int), Cond.methodLink RX2 103 yX2_hasPassed, Cond.instanceMethod yX2_hasPassed, Cond.selects RX2 yX2_hasPassed yX2_hasPassed, Cond.code yX2_hasPassed cX2_hasPassed 2 (some .boolean), Cond.methodLink RL 54 yX2_madeUp, Cond.instanceMethod yX2_madeUp]
def wsL_checks_r9 : List Cond := [Cond.selects RX2 yX2_madeUp yX2_madeUp, Cond.code yX2_madeUp cX2_madeUp 4 (some .int), Cond.methodLink RL 60 yX2_door, Cond.instanceMethod yX2_door, Cond.selects RX2 yX2_door yX2_door, Cond.code yX2_door cX2_door 5 none, Cond.fieldLink RX2 21 "ShortWork" "checked" "[Z", Cond.methodLink RL 64 yX2_mail, Cond.instanceMethod yX2_mail, Cond.selects RX2 yX2_mail yX2_mail, Cond.code yX2_mail cX2_mail 4 none, Cond.methodLink RL 68 yX2_check, Cond.instanceMethod yX2_check, Cond.selects RX2 yX2_check yX2_check, Cond.code yX2_check cX2_check 7 (some .int), Cond.methodLink RX2 121 yX1_hasWorkedTooMuch, Cond.instanceMethod yX1_hasWorkedTooMuch, Cond.selects RX1 yX1_hasWorkedTooMuch yX1_hasWorkedTooMuch, Cond.code yX1_hasWorkedTooMuch cX1_hasWorkedTooMuch 3 (some .boolean), Cond.methodLink RX2 124 yX2_chargeBack, Cond.instanceMethod yX2_chargeBack, Cond.selects RX2 yX2_chargeBack yX2_chargeBack, Cond.code yX2_chargeBack cX2_chargeBack 5 none]
def wsL_checks : List Cond := .code yL_checks cL_checks 22 (some .boolean) :: ((wsL_checks_r1 ++ (wsL_checks_r2 ++ (wsL_checks_r3 ++ (wsL_checks_r4 ++ (wsL_checks_r5 ++ (wsL_checks_r6 ++ (wsL_checks_r7 ++ (wsL_checks_r8 ++ wsL_checks_r9)))))))) ++ wsX20 ++ wsX10 ++ wsX00 ++ (vx_at0 RX2 143 "java/lang/IndexOutOfBoundsException" ["java/lang/RuntimeException", "java/lang/Exception"]).filter goodWord ++ (vx_at0 RX2 146 "java/lang/IllegalArgumentException" ["java/lang/RuntimeException", "java/lang/Exception"]).filter goodWord ++ (vx_at0 RX2 149 "java/lang/IllegalStateException" ["java/lang/RuntimeException", "java/lang/Exception"]).filter goodWord)
def wsL_law0_r1 : List Cond := [Cond.classLink RL 21 RX2, Cond.instantiable RX2 8, Cond.initialized RX2, Cond.arrayClass .int, Cond.constant RL 116 (100001), Cond.constant RL 117 (100000), Cond.methodLink RL 107 yX2_init, Cond.instanceMethod yX2_init, Cond.code yX2_init cX2_init 1 none, Cond.methodLink RX2 3 objectInit, Cond.instanceMethod objectInit, Cond.code objectInit ⟨#[0xb1]⟩ 1 none, Cond.classLink RX2 9 RX1, Cond.fieldLink RX2 11 "ShortWork" "staff" "[LShortWork$Worker;", Cond.classLink RX2 15 RX0, Cond.fieldLink RX2 17 "ShortWork" "courses" "[LShortWork$Course;", Cond.arrayClass .boolean, Cond.fieldLink RX2 21 "ShortWork" "checked" "[Z", Cond.fieldLink RX2 25 "ShortWork" "floorPercent" "I", Cond.methodLink RL 103 yL_all, Cond.static yL_all, Cond.initialized RL, Cond.code yL_all cL_all 5 (some .long), Cond.constantLong RL 81 (9)]
def wsL_law0_r2 : List Cond := [Cond.constantLong RL 86 (1000003), Cond.constantLong RL 91 (211), Cond.constantLong RL 93 (41), Cond.constantLong RL 95 (2), Cond.methodLink RL 77 yX2_workers, Cond.instanceMethod yX2_workers, Cond.selects RX2 yX2_workers yX2_workers, Cond.code yX2_workers cX2_workers 1 (some .int), Cond.fieldLink RX2 38 "ShortWork" "workerCount" "I", Cond.methodLink RL 83 yX2_week, Cond.instanceMethod yX2_week, Cond.selects RX2 yX2_week yX2_week, Cond.code yX2_week cX2_week 1 (some .int), Cond.fieldLink RX2 55 "ShortWork" "currentWeek" "I", Cond.methodLink RL 88 yX2_firmOwes, Cond.instanceMethod yX2_firmOwes, Cond.selects RX2 yX2_firmOwes yX2_firmOwes, Cond.code yX2_firmOwes cX2_firmOwes 1 (some .int), Cond.fieldLink RX2 128 "ShortWork" "firmDebt" "I", Cond.methodLink RL 57 yX2_cutWeeks, Cond.instanceMethod yX2_cutWeeks, Cond.selects RX2 yX2_cutWeeks yX2_cutWeeks, Cond.code yX2_cutWeeks cX2_cutWeeks 2 (some .int), Cond.methodLink RX2 47 yX2_workerAt]
def wsL_law0_r3 : List Cond := [Cond.instanceMethod yX2_workerAt, Cond.selects RX2 yX2_workerAt yX2_workerAt, Cond.code yX2_workerAt cX2_workerAt 3 (some (.object "ShortWork$Worker")), Cond.classLink RX2 141 "java/lang/IndexOutOfBoundsException", Cond.initialized "java/lang/IndexOutOfBoundsException", Cond.methodLink RX2 30 yX2_isWithin, Cond.static yX2_isWithin, Cond.code yX2_isWithin cX2_isWithin 3 (some .boolean), Cond.methodLink RL 71 yX2_owes, Cond.instanceMethod yX2_owes, Cond.selects RX2 yX2_owes yX2_owes, Cond.code yX2_owes cX2_owes 2 (some .int), Cond.methodLink RL 74 yX2_net, Cond.instanceMethod yX2_net, Cond.selects RX2 yX2_net yX2_net, Cond.code yX2_net cX2_net 3 (some .int), Cond.methodLink RL 41 yX2_cut, Cond.instanceMethod yX2_cut, Cond.selects RX2 yX2_cut yX2_cut, Cond.code yX2_cut cX2_cut 4 (some .int), Cond.methodLink RX2 34 yX2_requireArgument, Cond.static yX2_requireArgument, Cond.code yX2_requireArgument cX2_requireArgument 1 none, Cond.classLink RX2 144 "java/lang/IllegalArgumentException"]
def wsL_law0_r4 : List Cond := [Cond.initialized "java/lang/IllegalArgumentException", Cond.methodLink RL 44 yX2_isFilled, Cond.instanceMethod yX2_isFilled, Cond.selects RX2 yX2_isFilled yX2_isFilled, Cond.code yX2_isFilled cX2_isFilled 4 (some .boolean), Cond.methodLink RX2 95 yX1_hasFilled, Cond.instanceMethod yX1_hasFilled, Cond.selects RX1 yX1_hasFilled yX1_hasFilled, Cond.initialized RX1, Cond.code yX1_hasFilled cX1_hasFilled 2 (some .boolean), Cond.fieldLink RX1 23 "ShortWork$Worker" "courseHours" "[I", Cond.fieldLink RX1 19 "ShortWork$Worker" "cutHours" "[I", Cond.methodLink RL 108 yL_kept, Cond.static yL_kept, Cond.code yL_kept cL_kept 11 (some .boolean), Cond.methodLink RL 97 yL_call, Cond.static yL_call, Cond.codeWith yL_call cL_call 7 (some .int) [(0, 11, 12, 14), (0, 11, 17, 16), (0, 11, 22, 18)], Cond.classLink RL 14 "java/lang/IndexOutOfBoundsException", Cond.classLink RL 16 "java/lang/IllegalArgumentException", Cond.classLink RL 18 "java/lang/IllegalStateException", Cond.methodLink RL 8 yL_does, Cond.static yL_does, Cond.code yL_does cL_does 6 (some .int)]
def wsL_law0_r5 : List Cond := [Cond.methodLink RL 20 yX2_add, Cond.instanceMethod yX2_add, Cond.selects RX2 yX2_add yX2_add, Cond.code yX2_add cX2_add 4 (some .int), Cond.constant RX2 29 (100000), Cond.instantiable RX1 12, Cond.methodLink RX2 41 yX2_requireState, Cond.static yX2_requireState, Cond.code yX2_requireState cX2_requireState 1 none, Cond.classLink RX2 147 "java/lang/IllegalStateException", Cond.initialized "java/lang/IllegalStateException", Cond.methodLink RX2 44 yX1_init, Cond.instanceMethod yX1_init, Cond.code yX1_init cX1_init 3 none, Cond.methodLink RX1 3 objectInit, Cond.fieldLink RX1 9 "ShortWork$Worker" "fullPay" "I", Cond.fieldLink RX1 15 "ShortWork$Worker" "hasChildren" "Z", Cond.fieldLink RX1 26 "ShortWork$Worker" "firmPay" "[I", Cond.fieldLink RX1 29 "ShortWork$Worker" "fundPay" "[I", Cond.fieldLink RX1 32 "ShortWork$Worker" "doorHours" "[I", Cond.fieldLink RX1 35 "ShortWork$Worker" "mailed" "[Z", Cond.methodLink RL 26 yX2_notice, Cond.instanceMethod yX2_notice, Cond.selects RX2 yX2_notice yX2_notice]
def wsL_law0_r6 : List Cond := [Cond.code yX2_notice cX2_notice 6 (some .int), Cond.methodLink RX2 51 yX2_isSpan, Cond.static yX2_isSpan, Cond.code yX2_isSpan cX2_isSpan 2 (some .boolean), Cond.methodLink RX2 61 yX1_takeNotice, Cond.instanceMethod yX1_takeNotice, Cond.selects RX1 yX1_takeNotice yX1_takeNotice, Cond.code yX1_takeNotice cX1_takeNotice 5 none, Cond.fieldLink RX1 39 "ShortWork$Worker" "noticeCount" "I", Cond.methodLink RL 30 yX2_addCourse, Cond.instanceMethod yX2_addCourse, Cond.selects RX2 yX2_addCourse yX2_addCourse, Cond.code yX2_addCourse cX2_addCourse 6 (some .int), Cond.fieldLink RX2 65 "ShortWork" "courseCount" "I", Cond.instantiable RX0 4, Cond.initialized RX0, Cond.methodLink RX2 68 yX0_init, Cond.instanceMethod yX0_init, Cond.code yX0_init cX0_init 5 none, Cond.methodLink RX0 1 objectInit, Cond.fieldLink RX0 7 "ShortWork$Course" "from" "I", Cond.fieldLink RX0 13 "ShortWork$Course" "to" "I", Cond.fieldLink RX0 16 "ShortWork$Course" "hours" "I", Cond.fieldLink RX0 19 "ShortWork$Course" "seatsLeft" "I"]
def wsL_law0_r7 : List Cond := [Cond.methodLink RL 33 yX2_enrol, Cond.instanceMethod yX2_enrol, Cond.selects RX2 yX2_enrol yX2_enrol, Cond.code yX2_enrol cX2_enrol 5 (some .int), Cond.methodLink RX2 71 yX2_courseAt, Cond.instanceMethod yX2_courseAt, Cond.selects RX2 yX2_courseAt yX2_courseAt, Cond.code yX2_courseAt cX2_courseAt 3 (some (.object "ShortWork$Course")), Cond.methodLink RX2 84 yX1_hasNoCourseFrom, Cond.instanceMethod yX1_hasNoCourseFrom, Cond.selects RX1 yX1_hasNoCourseFrom yX1_hasNoCourseFrom, Cond.code yX1_hasNoCourseFrom cX1_hasNoCourseFrom 4 (some .boolean), Cond.methodLink RX2 87 yX1_goTo, Cond.instanceMethod yX1_goTo, Cond.selects RX1 yX1_goTo yX1_goTo, Cond.code yX1_goTo cX1_goTo 3 none, Cond.methodLink RL 37 yX2_setFloor, Cond.instanceMethod yX2_setFloor, Cond.selects RX2 yX2_setFloor yX2_setFloor, Cond.code yX2_setFloor cX2_setFloor 3 (some .int), Cond.methodLink RL 48 yX2_pass, Cond.instanceMethod yX2_pass, Cond.selects RX2 yX2_pass yX2_pass, Cond.code yX2_pass cX2_pass 4 (some .int)]
def wsL_law0_r8 : List Cond := [Cond.methodLink RX2 99 yX2_payCurrentWeek, Cond.instanceMethod yX2_payCurrentWeek, Cond.selects RX2 yX2_payCurrentWeek yX2_payCurrentWeek, Cond.code yX2_payCurrentWeek cX2_payCurrentWeek 6 (some .int), Cond.methodLink RX2 137 yX1_payFor, Cond.instanceMethod yX1_payFor, Cond.selects RX1 yX1_payFor yX1_payFor, Cond.code yX1_payFor cX1_payFor 6 (some .int), Cond.methodLink RX1 57 Lib.Math.max.name, Cond.static Lib.Math.max.name, Cond.initialized "java/lang/Math", Cond.code Lib.Math.max.name Lib.Math.max.code 2 (some .int), Cond.fieldLink RX1 63 "ShortWork$Worker" "received" "I", Cond.fieldLink RX1 66 "ShortWork$Worker" "cutWeekCount" "I", Cond.methodLink RX1 53 yX1_madeUpPercent, Cond.instanceMethod yX1_madeUpPercent, Cond.selects RX1 yX1_madeUpPercent yX1_madeUpPercent, Cond.code yX1_madeUpPercent cX1_madeUpPercent 3 (some .int), Cond.methodLink RX1 69 yX1_stepPercent, Cond.instanceMethod yX1_stepPercent, Cond.selects RX1 yX1_stepPercent yX1_stepPercent, Cond.code yX1_stepPercent cX1_stepPercent 1 (some .int), Cond.methodLink RX1 73 yX1_hasFilled, Cond.methodLink RL 51 yX2_paid]
def wsL_law0_r9 : List Cond := [Cond.instanceMethod yX2_paid, Cond.selects RX2 yX2_paid yX2_paid, Cond.code yX2_paid cX2_paid 4 (some .int), Cond.methodLink RX2 103 yX2_hasPassed, Cond.instanceMethod yX2_hasPassed, Cond.selects RX2 yX2_hasPassed yX2_hasPassed, Cond.code yX2_hasPassed cX2_hasPassed 2 (some .boolean), Cond.methodLink RL 54 yX2_madeUp, Cond.instanceMethod yX2_madeUp, Cond.selects RX2 yX2_madeUp yX2_madeUp, Cond.code yX2_madeUp cX2_madeUp 4 (some .int), Cond.methodLink RL 60 yX2_door, Cond.instanceMethod yX2_door, Cond.selects RX2 yX2_door yX2_door, Cond.code yX2_door cX2_door 5 none, Cond.methodLink RL 64 yX2_mail, Cond.instanceMethod yX2_mail, Cond.selects RX2 yX2_mail yX2_mail, Cond.code yX2_mail cX2_mail 4 none, Cond.methodLink RL 68 yX2_check, Cond.instanceMethod yX2_check, Cond.selects RX2 yX2_check yX2_check, Cond.code yX2_check cX2_check 7 (some .int), Cond.methodLink RX2 121 yX1_hasWorkedTooMuch]
def wsL_law0_r10 : List Cond := [Cond.instanceMethod yX1_hasWorkedTooMuch, Cond.selects RX1 yX1_hasWorkedTooMuch yX1_hasWorkedTooMuch, Cond.code yX1_hasWorkedTooMuch cX1_hasWorkedTooMuch 3 (some .boolean), Cond.methodLink RX2 124 yX2_chargeBack, Cond.instanceMethod yX2_chargeBack, Cond.selects RX2 yX2_chargeBack yX2_chargeBack, Cond.code yX2_chargeBack cX2_chargeBack 5 none, Cond.methodLink RL 112 yL_cell, Cond.static yL_cell, Cond.code yL_cell cL_cell 3 (some .int), Cond.constant RL 7 (1541459225), Cond.methodLink RL 100 yL_some, Cond.static yL_some, Cond.code yL_some cL_some 2 (some .int), Cond.methodLink RL 118 yL_notices, Cond.static yL_notices, Cond.code yL_notices cL_notices 19 (some .boolean), Cond.methodLink RL 122 yL_courses, Cond.static yL_courses, Cond.code yL_courses cL_courses 15 (some .boolean), Cond.methodLink RL 126 yL_passes, Cond.static yL_passes, Cond.code yL_passes cL_passes 12 (some .boolean), Cond.methodLink RL 130 yL_checks]
def wsL_law0_r11 : List Cond := [Cond.static yL_checks, Cond.code yL_checks cL_checks 22 (some .boolean)]
def wsL_law0 : List Cond := (wsL_law0_r1 ++ (wsL_law0_r2 ++ (wsL_law0_r3 ++ (wsL_law0_r4 ++ (wsL_law0_r5 ++ (wsL_law0_r6 ++ (wsL_law0_r7 ++ (wsL_law0_r8 ++ (wsL_law0_r9 ++ (wsL_law0_r10 ++ wsL_law0_r11)))))))))) ++ wsX20 ++ wsX10 ++ wsX00 ++ ([] : List Cond)
def wsL_law : List Cond := wsL_law0 ++ (vx_at0 RX2 143 "java/lang/IndexOutOfBoundsException" ["java/lang/RuntimeException", "java/lang/Exception"]).filter goodWord ++ (vx_at0 RX2 146 "java/lang/IllegalArgumentException" ["java/lang/RuntimeException", "java/lang/Exception"]).filter goodWord ++ (vx_at0 RX2 149 "java/lang/IllegalStateException" ["java/lang/RuntimeException", "java/lang/Exception"]).filter goodWord
abbrev vwCl : List vw_C := [(RX0, TX0, 4), (RX1, TX1, 12), (RX2, TX2, 8)]
end
section
set_option maxRecDepth 20000 in
theorem wsL_law_in0_1 : ∀ w ∈ wsL_law0_r1, w ∈ lw_tbl := fun w h => (goodIn_p wsL_law0_r1 [23, 26, 380] (by decide +kernel) (by decide +kernel) w h).1
set_option maxRecDepth 20000 in
theorem wsL_law_in0_2 : ∀ w ∈ wsL_law0_r2, w ∈ lw_tbl := fun w h => (goodIn_p wsL_law0_r2 [207, 385, 390, 211] (by decide +kernel) (by decide +kernel) w h).1
set_option maxRecDepth 20000 in
theorem wsL_law_in0_3 : ∀ w ∈ wsL_law0_r3, w ∈ lw_tbl := fun w h => (goodIn_p wsL_law0_r3 [215, 64, 234, 238, 313, 67] (by decide +kernel) (by decide +kernel) w h).1
set_option maxRecDepth 20000 in
theorem wsL_law_in0_4 : ∀ w ∈ wsL_law0_r4, w ∈ lw_tbl := fun w h => (goodIn_p wsL_law0_r4 [317, 321, 396, 254] (by decide +kernel) (by decide +kernel) w h).1
set_option maxRecDepth 20000 in
theorem wsL_law_in0_5 : ∀ w ∈ wsL_law0_r5, w ∈ lw_tbl := fun w h => (goodIn_p wsL_law0_r5 [60, 133, 152] (by decide +kernel) (by decide +kernel) w h).1
end
section
set_option maxRecDepth 20000 in
theorem wsL_law_in0_6 : ∀ w ∈ wsL_law0_r6, w ∈ lw_tbl := fun w h => (goodIn_p wsL_law0_r6 [258, 261, 265, 269, 273] (by decide +kernel) (by decide +kernel) w h).1
set_option maxRecDepth 20000 in
theorem wsL_law_in0_7 : ∀ w ∈ wsL_law0_r7, w ∈ lw_tbl := fun w h => (goodIn_p wsL_law0_r7 [297, 301, 305, 309, 203, 325] (by decide +kernel) (by decide +kernel) w h).1
set_option maxRecDepth 20000 in
theorem wsL_law_in0_8 : ∀ w ∈ wsL_law0_r8, w ∈ lw_tbl := fun w h => (goodIn_p wsL_law0_r8 [329, 333, 345, 337, 341] (by decide +kernel) (by decide +kernel) w h).1
set_option maxRecDepth 20000 in
theorem wsL_law_in0_9 : ∀ w ∈ wsL_law0_r9, w ∈ lw_tbl := fun w h => (goodIn_p wsL_law0_r9 [349, 353, 357, 361, 365, 369] (by decide +kernel) (by decide +kernel) w h).1
set_option maxRecDepth 20000 in
theorem wsL_law_in0_10 : ∀ w ∈ wsL_law0_r10, w ∈ lw_tbl := fun w h => (goodIn_p wsL_law0_r10 [373, 377, 241, 245, 399, 402, 405] (by rfl) (by decide +kernel) w h).1
set_option maxRecDepth 20000 in
theorem wsL_law_in0_11 : ∀ w ∈ wsL_law0_r11, w ∈ lw_tbl := fun w h => (goodIn_p wsL_law0_r11 [408] (by rfl) (by decide +kernel) w h).1
theorem wsL_law_inX2 : ∀ w ∈ wsX20, w ∈ lw_tbl := by decide +kernel
theorem wsL_law_inX1 : ∀ w ∈ wsX10, w ∈ lw_tbl := by decide +kernel
theorem wsL_law_inX0 : ∀ w ∈ wsX00, w ∈ lw_tbl := by decide +kernel
theorem wsL_law_in0 : ∀ w ∈ wsL_law0, w ∈ lw_tbl := by
  intro w h
  rcases List.mem_append.mp h with h | h
  · rcases List.mem_append.mp h with h | h
    · rcases List.mem_append.mp h with h | h
      · rcases List.mem_append.mp h with h | h
        · exact (fun h => (List.mem_append.mp h).elim (fun h => wsL_law_in0_1 w h) (fun h => (List.mem_append.mp h).elim (fun h => wsL_law_in0_2 w h) (fun h => (List.mem_append.mp h).elim (fun h => wsL_law_in0_3 w h) (fun h => (List.mem_append.mp h).elim (fun h => wsL_law_in0_4 w h) (fun h => (List.mem_append.mp h).elim (fun h => wsL_law_in0_5 w h) (fun h => (List.mem_append.mp h).elim (fun h => wsL_law_in0_6 w h) (fun h => (List.mem_append.mp h).elim (fun h => wsL_law_in0_7 w h) (fun h => (List.mem_append.mp h).elim (fun h => wsL_law_in0_8 w h) (fun h => (List.mem_append.mp h).elim (fun h => wsL_law_in0_9 w h) (fun h => (List.mem_append.mp h).elim (fun h => wsL_law_in0_10 w h) (fun h => wsL_law_in0_11 w h))))))))))) h
        · exact wsL_law_inX2 w h
      · exact wsL_law_inX1 w h
    · exact wsL_law_inX0 w h
  · exact absurd h List.not_mem_nil
end
section
theorem wsL_law_x0 : ∀ w ∈ (vx_at0 RX2 143 "java/lang/IndexOutOfBoundsException" ["java/lang/RuntimeException", "java/lang/Exception"]).filter goodWord, w ∈ lw_tbl := by decide +kernel
theorem wsL_law_x1 : ∀ w ∈ (vx_at0 RX2 146 "java/lang/IllegalArgumentException" ["java/lang/RuntimeException", "java/lang/Exception"]).filter goodWord, w ∈ lw_tbl := by decide +kernel
theorem wsL_law_x2 : ∀ w ∈ (vx_at0 RX2 149 "java/lang/IllegalStateException" ["java/lang/RuntimeException", "java/lang/Exception"]).filter goodWord, w ∈ lw_tbl := by decide +kernel
theorem wsL_law_in : ∀ w ∈ wsL_law, w ∈ lw_tbl := fun w h => (List.mem_append.mp h).elim (fun h => (List.mem_append.mp h).elim (fun h => (List.mem_append.mp h).elim (fun h => wsL_law_in0 w h) (fun h => wsL_law_x0 w h)) (fun h => wsL_law_x1 w h)) (fun h => wsL_law_x2 w h)
theorem inlX0 : ∀ w ∈ wsX00, w ∈ wsL_law := fun _ h => List.mem_append_left _ (List.mem_append_left _ (List.mem_append_left _ (List.mem_append_left _ (List.mem_append_right _ h))))
theorem inX0 : ∀ w ∈ wsX00, w ∈ lw_tbl := fun w h => wsL_law_in w (inlX0 w h)
theorem inlX1 : ∀ w ∈ wsX10, w ∈ wsL_law := fun _ h => List.mem_append_left _ (List.mem_append_left _ (List.mem_append_left _ (List.mem_append_left _ (List.mem_append_left _ (List.mem_append_right _ h)))))
theorem inX1 : ∀ w ∈ wsX10, w ∈ lw_tbl := fun w h => wsL_law_in w (inlX1 w h)
theorem inlX2 : ∀ w ∈ wsX20, w ∈ wsL_law := fun _ h => List.mem_append_left _ (List.mem_append_left _ (List.mem_append_left _ (List.mem_append_left _ (List.mem_append_left _ (List.mem_append_left _ (List.mem_append_right _ h))))))
theorem inX2 : ∀ w ∈ wsX20, w ∈ lw_tbl := fun w h => wsL_law_in w (inlX2 w h)
theorem inX3 : ∀ w ∈ wsX30, w ∈ lw_tbl := by decide +kernel
theorem inJ9 : ∀ w ∈ wsJ90, w ∈ lw_tbl := by decide +kernel
end
section
set_option maxRecDepth 20000 in
theorem ggX1_payFor_X1_madeUpPercent : GoodIn wsX1_payFor wsX1_madeUpPercent := goodIn_r _ [15, 16, 10, 17, 18, 19, 14, 20, 21, 22, 23, 24, 25, 2, 26, 27, 28, 29, 30, 31, 32, 33, 34, 35, 36, 37] (by decide +kernel) (by decide +kernel)
set_option maxRecDepth 20000 in
theorem gX1_payFor_X1_madeUpPercent : GoodIn wsX1_payFor (wsV RX1 53 RX1 yX1_madeUpPercent wsX1_madeUpPercent) := goodIn_app (goodIn_of _ (by decide +kernel)) ggX1_payFor_X1_madeUpPercent
set_option maxRecDepth 20000 in
theorem ggX1_madeUpPercent_X1_stepPercent : GoodIn wsX1_madeUpPercent wsX1_stepPercent := goodIn_r _ [7, 2, 14, 15, 16, 17, 18, 19, 20, 21, 22, 23, 24, 25] (by decide +kernel) (by decide +kernel)
set_option maxRecDepth 20000 in
theorem gX1_madeUpPercent_X1_stepPercent : GoodIn wsX1_madeUpPercent (wsV RX1 69 RX1 yX1_stepPercent wsX1_stepPercent) := goodIn_app (goodIn_of _ (by decide +kernel)) ggX1_madeUpPercent_X1_stepPercent
set_option maxRecDepth 20000 in
theorem ggX1_madeUpPercent_X1_hasFilled : GoodIn wsX1_madeUpPercent wsX1_hasFilled := goodIn_r _ [11, 12, 13, 14, 15, 16, 17, 18, 19, 20, 21, 22, 23, 24, 25] (by decide +kernel) (by decide +kernel)
set_option maxRecDepth 20000 in
theorem gX1_madeUpPercent_X1_hasFilled : GoodIn wsX1_madeUpPercent (wsV RX1 73 RX1 yX1_hasFilled wsX1_hasFilled) := goodIn_app (goodIn_of _ (by decide +kernel)) ggX1_madeUpPercent_X1_hasFilled
set_option maxRecDepth 20000 in
theorem ggX2_add_X2_isWithin : GoodIn wsX2_add wsX2_isWithin := goodIn_r _ [10] (by decide +kernel) (by decide +kernel)
set_option maxRecDepth 20000 in
theorem gX2_add_X2_isWithin : GoodIn wsX2_add (va_wsS RX2 30 yX2_isWithin wsX2_isWithin) := goodIn_app (goodIn_of _ (by decide +kernel)) ggX2_add_X2_isWithin
set_option maxRecDepth 20000 in
theorem ggX2_add_X2_requireArgument : GoodIn wsX2_add wsX2_requireArgument := goodIn_ca (goodIn_r _ [13, 14, 15] (by decide +kernel) (by decide +kernel)) (goodIn_sub (fun _ h => List.mem_cons_of_mem _ (List.mem_append_left _ (List.mem_append_right _ h))) (by decide +kernel))
set_option maxRecDepth 20000 in
theorem gX2_add_X2_requireArgument : GoodIn wsX2_add (va_wsS RX2 34 yX2_requireArgument wsX2_requireArgument) := goodIn_app (goodIn_of _ (by decide +kernel)) ggX2_add_X2_requireArgument
set_option maxRecDepth 20000 in
theorem ggX2_add_X2_requireState : GoodIn wsX2_add wsX2_requireState := goodIn_ca (goodIn_r _ [18, 19, 20] (by decide +kernel) (by decide +kernel)) (goodIn_sub (fun _ h => List.mem_cons_of_mem _ (List.mem_append_right _ h)) (by decide +kernel))
set_option maxRecDepth 20000 in
theorem gX2_add_X2_requireState : GoodIn wsX2_add (va_wsS RX2 41 yX2_requireState wsX2_requireState) := goodIn_app (goodIn_of _ (by decide +kernel)) ggX2_add_X2_requireState
set_option maxRecDepth 20000 in
theorem ggX2_add_X1_init : GoodIn wsX2_add wsX1_init := goodIn_r _ [23, 24, 25, 26, 27, 28, 29, 30, 31, 32, 33, 34, 35, 36, 45, 46, 47, 48, 49, 50, 51, 52, 53, 54, 55, 56] (by decide +kernel) (by decide +kernel)
set_option maxRecDepth 20000 in
theorem gX2_add_X1_init : GoodIn wsX2_add (wsX1_init) := ggX2_add_X1_init
set_option maxRecDepth 20000 in
theorem ggX2_notice_X2_workerAt : GoodIn wsX2_notice wsX2_workerAt := goodIn_ca (goodIn_r _ [6, 7, 8, 9, 10, 11, 12, 5, 13, 34, 35, 36, 37, 38, 39, 40, 41] (by decide +kernel) (by decide +kernel)) (goodIn_sub (fun _ h => List.mem_cons_of_mem _ (List.mem_append_left _ (List.mem_append_left _ (List.mem_append_right _ h)))) (by decide +kernel))
set_option maxRecDepth 20000 in
theorem gX2_notice_X2_workerAt : GoodIn wsX2_notice (wsV RX2 47 RX2 yX2_workerAt wsX2_workerAt) := goodIn_app (goodIn_of _ (by decide +kernel)) ggX2_notice_X2_workerAt
set_option maxRecDepth 20000 in
theorem ggX2_notice_X2_isSpan : GoodIn wsX2_notice wsX2_isSpan := goodIn_r _ [16, 11, 12, 5, 13] (by decide +kernel) (by decide +kernel)
set_option maxRecDepth 20000 in
theorem gX2_notice_X2_isSpan : GoodIn wsX2_notice (va_wsS RX2 51 yX2_isSpan wsX2_isSpan) := goodIn_app (goodIn_of _ (by decide +kernel)) ggX2_notice_X2_isSpan
set_option maxRecDepth 20000 in
theorem ggX2_notice_X2_isWithin : GoodIn wsX2_notice wsX2_isWithin := goodIn_r _ [13] (by decide +kernel) (by decide +kernel)
set_option maxRecDepth 20000 in
theorem gX2_notice_X2_isWithin : GoodIn wsX2_notice (va_wsS RX2 30 yX2_isWithin wsX2_isWithin) := goodIn_app (goodIn_of _ (by decide +kernel)) ggX2_notice_X2_isWithin
set_option maxRecDepth 20000 in
theorem ggX2_notice_X2_requireArgument : GoodIn wsX2_notice wsX2_requireArgument := goodIn_ca (goodIn_r _ [19, 20, 21] (by decide +kernel) (by decide +kernel)) (goodIn_sub (fun _ h => List.mem_cons_of_mem _ (List.mem_append_left _ (List.mem_append_right _ h))) (by decide +kernel))
set_option maxRecDepth 20000 in
theorem gX2_notice_X2_requireArgument : GoodIn wsX2_notice (va_wsS RX2 34 yX2_requireArgument wsX2_requireArgument) := goodIn_app (goodIn_of _ (by decide +kernel)) ggX2_notice_X2_requireArgument
set_option maxRecDepth 20000 in
theorem ggX2_notice_X2_requireState : GoodIn wsX2_notice wsX2_requireState := goodIn_ca (goodIn_r _ [24, 25, 26] (by decide +kernel) (by decide +kernel)) (goodIn_sub (fun _ h => List.mem_cons_of_mem _ (List.mem_append_right _ h)) (by decide +kernel))
set_option maxRecDepth 20000 in
theorem gX2_notice_X2_requireState : GoodIn wsX2_notice (va_wsS RX2 41 yX2_requireState wsX2_requireState) := goodIn_app (goodIn_of _ (by decide +kernel)) ggX2_notice_X2_requireState
set_option maxRecDepth 20000 in
theorem ggX2_notice_X1_takeNotice : GoodIn wsX2_notice wsX1_takeNotice := goodIn_r _ [31, 32, 33, 42, 43, 44, 45, 46, 47, 48, 49, 50, 51, 52, 53] (by decide +kernel) (by decide +kernel)
set_option maxRecDepth 20000 in
theorem gX2_notice_X1_takeNotice : GoodIn wsX2_notice (wsV RX2 61 RX1 yX1_takeNotice wsX1_takeNotice) := goodIn_app (goodIn_of _ (by decide +kernel)) ggX2_notice_X1_takeNotice
set_option maxRecDepth 20000 in
theorem ggX2_addCourse_X2_isWithin : GoodIn wsX2_addCourse wsX2_isWithin := goodIn_r _ [9] (by decide +kernel) (by decide +kernel)
set_option maxRecDepth 20000 in
theorem gX2_addCourse_X2_isWithin : GoodIn wsX2_addCourse (va_wsS RX2 30 yX2_isWithin wsX2_isWithin) := goodIn_app (goodIn_of _ (by decide +kernel)) ggX2_addCourse_X2_isWithin
set_option maxRecDepth 20000 in
theorem ggX2_addCourse_X2_isSpan : GoodIn wsX2_addCourse wsX2_isSpan := goodIn_r _ [12, 6, 7, 8, 9] (by decide +kernel) (by decide +kernel)
set_option maxRecDepth 20000 in
theorem gX2_addCourse_X2_isSpan : GoodIn wsX2_addCourse (va_wsS RX2 51 yX2_isSpan wsX2_isSpan) := goodIn_app (goodIn_of _ (by decide +kernel)) ggX2_addCourse_X2_isSpan
set_option maxRecDepth 20000 in
theorem ggX2_addCourse_X2_requireArgument : GoodIn wsX2_addCourse wsX2_requireArgument := goodIn_ca (goodIn_r _ [15, 16, 17] (by decide +kernel) (by decide +kernel)) (goodIn_sub (fun _ h => List.mem_cons_of_mem _ (List.mem_append_left _ (List.mem_append_right _ h))) (by decide +kernel))
set_option maxRecDepth 20000 in
theorem gX2_addCourse_X2_requireArgument : GoodIn wsX2_addCourse (va_wsS RX2 34 yX2_requireArgument wsX2_requireArgument) := goodIn_app (goodIn_of _ (by decide +kernel)) ggX2_addCourse_X2_requireArgument
set_option maxRecDepth 20000 in
theorem ggX2_addCourse_X2_requireState : GoodIn wsX2_addCourse wsX2_requireState := goodIn_ca (goodIn_r _ [20, 21, 22] (by decide +kernel) (by decide +kernel)) (goodIn_sub (fun _ h => List.mem_cons_of_mem _ (List.mem_append_right _ h)) (by decide +kernel))
set_option maxRecDepth 20000 in
theorem gX2_addCourse_X2_requireState : GoodIn wsX2_addCourse (va_wsS RX2 41 yX2_requireState wsX2_requireState) := goodIn_app (goodIn_of _ (by decide +kernel)) ggX2_addCourse_X2_requireState
set_option maxRecDepth 20000 in
theorem ggX2_addCourse_X0_init : GoodIn wsX2_addCourse wsX0_init := goodIn_r _ [25, 26, 27, 28, 29, 30, 31, 32, 41, 42, 43, 44] (by decide +kernel) (by decide +kernel)
set_option maxRecDepth 20000 in
theorem gX2_addCourse_X0_init : GoodIn wsX2_addCourse (wsX0_init) := ggX2_addCourse_X0_init
set_option maxRecDepth 20000 in
theorem ggX2_enrol_X2_workerAt : GoodIn wsX2_enrol wsX2_workerAt := goodIn_ca (goodIn_r _ [6, 7, 8, 9, 10, 11, 12, 5, 13, 39, 40, 41, 42, 43, 44, 45, 46] (by decide +kernel) (by decide +kernel)) (goodIn_sub (fun _ h => List.mem_cons_of_mem _ (List.mem_append_left _ (List.mem_append_right _ h))) (by decide +kernel))
set_option maxRecDepth 20000 in
theorem gX2_enrol_X2_workerAt : GoodIn wsX2_enrol (wsV RX2 47 RX2 yX2_workerAt wsX2_workerAt) := goodIn_app (goodIn_of _ (by decide +kernel)) ggX2_enrol_X2_workerAt
set_option maxRecDepth 20000 in
theorem ggX2_enrol_X2_courseAt : GoodIn wsX2_enrol wsX2_courseAt := goodIn_ca (goodIn_r _ [17, 7, 8, 18, 19, 11, 12, 5, 13, 39, 40, 41, 42, 43, 44, 45, 46] (by decide +kernel) (by decide +kernel)) (goodIn_sub (fun _ h => List.mem_cons_of_mem _ (List.mem_append_left _ (List.mem_append_right _ h))) (by decide +kernel))
set_option maxRecDepth 20000 in
theorem gX2_enrol_X2_courseAt : GoodIn wsX2_enrol (wsV RX2 71 RX2 yX2_courseAt wsX2_courseAt) := goodIn_app (goodIn_of _ (by decide +kernel)) ggX2_enrol_X2_courseAt
set_option maxRecDepth 20000 in
theorem ggX2_enrol_X1_hasNoCourseFrom : GoodIn wsX2_enrol wsX1_hasNoCourseFrom := goodIn_r _ [24, 25, 47, 48, 49, 50, 51, 52, 53, 54, 55, 56, 57, 58] (by decide +kernel) (by decide +kernel)
set_option maxRecDepth 20000 in
theorem gX2_enrol_X1_hasNoCourseFrom : GoodIn wsX2_enrol (wsV RX2 84 RX1 yX1_hasNoCourseFrom wsX1_hasNoCourseFrom) := goodIn_app (goodIn_of _ (by decide +kernel)) ggX2_enrol_X1_hasNoCourseFrom
set_option maxRecDepth 20000 in
theorem ggX2_enrol_X2_requireState : GoodIn wsX2_enrol wsX2_requireState := goodIn_ca (goodIn_r _ [28, 29, 30] (by decide +kernel) (by decide +kernel)) (goodIn_sub (fun _ h => List.mem_cons_of_mem _ (List.mem_append_right _ h)) (by decide +kernel))
set_option maxRecDepth 20000 in
theorem gX2_enrol_X2_requireState : GoodIn wsX2_enrol (va_wsS RX2 41 yX2_requireState wsX2_requireState) := goodIn_app (goodIn_of _ (by decide +kernel)) ggX2_enrol_X2_requireState
set_option maxRecDepth 20000 in
theorem ggX2_enrol_X1_goTo : GoodIn wsX2_enrol wsX1_goTo := goodIn_r _ [34, 25, 35, 36, 37, 38, 47, 48, 49, 50, 51, 52, 53, 54, 55, 56, 57, 58] (by decide +kernel) (by decide +kernel)
set_option maxRecDepth 20000 in
theorem gX2_enrol_X1_goTo : GoodIn wsX2_enrol (wsV RX2 87 RX1 yX1_goTo wsX1_goTo) := goodIn_app (goodIn_of _ (by decide +kernel)) ggX2_enrol_X1_goTo
set_option maxRecDepth 20000 in
theorem ggX2_setFloor_X2_isWithin : GoodIn wsX2_setFloor wsX2_isWithin := goodIn_r _ [5] (by decide +kernel) (by decide +kernel)
set_option maxRecDepth 20000 in
theorem gX2_setFloor_X2_isWithin : GoodIn wsX2_setFloor (va_wsS RX2 30 yX2_isWithin wsX2_isWithin) := goodIn_app (goodIn_of _ (by decide +kernel)) ggX2_setFloor_X2_isWithin
set_option maxRecDepth 20000 in
theorem ggX2_setFloor_X2_requireArgument : GoodIn wsX2_setFloor wsX2_requireArgument := goodIn_ca (goodIn_r _ [8, 9, 10] (by decide +kernel) (by decide +kernel)) (goodIn_sub (fun _ h => List.mem_cons_of_mem _ (List.mem_append_right _ h)) (by decide +kernel))
set_option maxRecDepth 20000 in
theorem gX2_setFloor_X2_requireArgument : GoodIn wsX2_setFloor (va_wsS RX2 34 yX2_requireArgument wsX2_requireArgument) := goodIn_app (goodIn_of _ (by decide +kernel)) ggX2_setFloor_X2_requireArgument
set_option maxRecDepth 20000 in
theorem ggX2_cut_X2_workerAt : GoodIn wsX2_cut wsX2_workerAt := goodIn_ca (goodIn_r _ [5, 6, 7, 8, 9, 10, 11, 4, 12, 30, 31, 32, 33, 34, 35, 36, 37] (by decide +kernel) (by decide +kernel)) (goodIn_sub (fun _ h => List.mem_cons_of_mem _ (List.mem_append_left _ (List.mem_append_right _ h))) (by decide +kernel))
set_option maxRecDepth 20000 in
theorem gX2_cut_X2_workerAt : GoodIn wsX2_cut (wsV RX2 47 RX2 yX2_workerAt wsX2_workerAt) := goodIn_app (goodIn_of _ (by decide +kernel)) ggX2_cut_X2_workerAt
set_option maxRecDepth 20000 in
theorem ggX2_cut_X2_isWithin : GoodIn wsX2_cut wsX2_isWithin := goodIn_r _ [12] (by decide +kernel) (by decide +kernel)
set_option maxRecDepth 20000 in
theorem gX2_cut_X2_isWithin : GoodIn wsX2_cut (va_wsS RX2 30 yX2_isWithin wsX2_isWithin) := goodIn_app (goodIn_of _ (by decide +kernel)) ggX2_cut_X2_isWithin
set_option maxRecDepth 20000 in
theorem ggX2_cut_X2_requireArgument : GoodIn wsX2_cut wsX2_requireArgument := goodIn_ca (goodIn_r _ [15, 16, 17] (by decide +kernel) (by decide +kernel)) (goodIn_sub (fun _ h => List.mem_cons_of_mem _ (List.mem_append_right _ h)) (by decide +kernel))
set_option maxRecDepth 20000 in
theorem gX2_cut_X2_requireArgument : GoodIn wsX2_cut (va_wsS RX2 34 yX2_requireArgument wsX2_requireArgument) := goodIn_app (goodIn_of _ (by decide +kernel)) ggX2_cut_X2_requireArgument
set_option maxRecDepth 20000 in
theorem ggX2_isFilled_X2_workerAt : GoodIn wsX2_isFilled wsX2_workerAt := goodIn_ca (goodIn_r _ [5, 6, 7, 8, 9, 10, 11, 4, 12, 25, 26, 27, 28, 29, 30, 31, 32] (by decide +kernel) (by decide +kernel)) (goodIn_sub (fun _ h => List.mem_cons_of_mem _ (List.mem_append_left _ (List.mem_append_right _ h))) (by decide +kernel))
set_option maxRecDepth 20000 in
theorem gX2_isFilled_X2_workerAt : GoodIn wsX2_isFilled (wsV RX2 47 RX2 yX2_workerAt wsX2_workerAt) := goodIn_app (goodIn_of _ (by decide +kernel)) ggX2_isFilled_X2_workerAt
set_option maxRecDepth 20000 in
theorem ggX2_isFilled_X2_isWithin : GoodIn wsX2_isFilled wsX2_isWithin := goodIn_r _ [12] (by decide +kernel) (by decide +kernel)
set_option maxRecDepth 20000 in
theorem gX2_isFilled_X2_isWithin : GoodIn wsX2_isFilled (va_wsS RX2 30 yX2_isWithin wsX2_isWithin) := goodIn_app (goodIn_of _ (by decide +kernel)) ggX2_isFilled_X2_isWithin
set_option maxRecDepth 20000 in
theorem ggX2_isFilled_X2_requireArgument : GoodIn wsX2_isFilled wsX2_requireArgument := goodIn_ca (goodIn_r _ [15, 16, 17] (by decide +kernel) (by decide +kernel)) (goodIn_sub (fun _ h => List.mem_cons_of_mem _ (List.mem_append_right _ h)) (by decide +kernel))
set_option maxRecDepth 20000 in
theorem gX2_isFilled_X2_requireArgument : GoodIn wsX2_isFilled (va_wsS RX2 34 yX2_requireArgument wsX2_requireArgument) := goodIn_app (goodIn_of _ (by decide +kernel)) ggX2_isFilled_X2_requireArgument
set_option maxRecDepth 20000 in
theorem ggX2_isFilled_X1_hasFilled : GoodIn wsX2_isFilled wsX1_hasFilled := goodIn_r _ [22, 23, 24, 33, 34, 35, 36, 37, 38, 39, 40, 41, 42, 43, 44] (by decide +kernel) (by decide +kernel)
set_option maxRecDepth 20000 in
theorem gX2_isFilled_X1_hasFilled : GoodIn wsX2_isFilled (wsV RX2 95 RX1 yX1_hasFilled wsX1_hasFilled) := goodIn_app (goodIn_of _ (by decide +kernel)) ggX2_isFilled_X1_hasFilled
set_option maxRecDepth 20000 in
theorem ggX2_pass_X2_isWithin : GoodIn wsX2_pass wsX2_isWithin := goodIn_r _ [5] (by decide +kernel) (by decide +kernel)
set_option maxRecDepth 20000 in
theorem gX2_pass_X2_isWithin : GoodIn wsX2_pass (va_wsS RX2 30 yX2_isWithin wsX2_isWithin) := goodIn_app (goodIn_of _ (by decide +kernel)) ggX2_pass_X2_isWithin
set_option maxRecDepth 20000 in
theorem ggX2_pass_X2_requireArgument : GoodIn wsX2_pass wsX2_requireArgument := goodIn_ca (goodIn_r _ [8, 9, 10] (by decide +kernel) (by decide +kernel)) (goodIn_sub (fun _ h => List.mem_cons_of_mem _ (List.mem_append_left _ (List.mem_append_right _ h))) (by decide +kernel))
set_option maxRecDepth 20000 in
theorem gX2_pass_X2_requireArgument : GoodIn wsX2_pass (va_wsS RX2 34 yX2_requireArgument wsX2_requireArgument) := goodIn_app (goodIn_of _ (by decide +kernel)) ggX2_pass_X2_requireArgument
set_option maxRecDepth 20000 in
theorem ggX2_pass_X2_requireState : GoodIn wsX2_pass wsX2_requireState := goodIn_ca (goodIn_r _ [13, 14, 15] (by decide +kernel) (by decide +kernel)) (goodIn_sub (fun _ h => List.mem_cons_of_mem _ (List.mem_append_right _ h)) (by decide +kernel))
set_option maxRecDepth 20000 in
theorem gX2_pass_X2_requireState : GoodIn wsX2_pass (va_wsS RX2 41 yX2_requireState wsX2_requireState) := goodIn_app (goodIn_of _ (by decide +kernel)) ggX2_pass_X2_requireState
set_option maxRecDepth 20000 in
theorem ggX2_pass_X2_payCurrentWeek : GoodIn wsX2_pass wsX2_payCurrentWeek := goodIn_r _ [19, 20, 1, 21, 22, 23, 24, 25, 26, 27, 28, 29, 30, 31, 32, 33, 34, 35, 36, 37, 38, 39, 40, 41, 42, 43, 44, 45, 46, 47, 48, 49, 50, 51, 52, 53, 54, 55, 56, 57, 58, 59, 60, 61, 62, 63, 64, 65, 66, 67, 68, 69, 70] (by decide +kernel) (by decide +kernel)
set_option maxRecDepth 20000 in
theorem gX2_pass_X2_payCurrentWeek : GoodIn wsX2_pass (wsV RX2 99 RX2 yX2_payCurrentWeek wsX2_payCurrentWeek) := goodIn_app (goodIn_of _ (by decide +kernel)) ggX2_pass_X2_payCurrentWeek
set_option maxRecDepth 20000 in
theorem ggX2_paid_X2_workerAt : GoodIn wsX2_paid wsX2_workerAt := goodIn_ca (goodIn_r _ [5, 6, 7, 8, 9, 10, 11, 4, 12, 35, 36, 37, 38, 39, 40, 41, 42] (by decide +kernel) (by decide +kernel)) (goodIn_sub (fun _ h => List.mem_cons_of_mem _ (List.mem_append_left _ (List.mem_append_right _ h))) (by decide +kernel))
set_option maxRecDepth 20000 in
theorem gX2_paid_X2_workerAt : GoodIn wsX2_paid (wsV RX2 47 RX2 yX2_workerAt wsX2_workerAt) := goodIn_app (goodIn_of _ (by decide +kernel)) ggX2_paid_X2_workerAt
set_option maxRecDepth 20000 in
theorem ggX2_paid_X2_hasPassed : GoodIn wsX2_paid wsX2_hasPassed := goodIn_r _ [16, 17, 10, 11, 4, 12, 35, 36, 37, 38, 39, 40, 41, 42] (by decide +kernel) (by decide +kernel)
set_option maxRecDepth 20000 in
theorem gX2_paid_X2_hasPassed : GoodIn wsX2_paid (wsV RX2 103 RX2 yX2_hasPassed wsX2_hasPassed) := goodIn_app (goodIn_of _ (by decide +kernel)) ggX2_paid_X2_hasPassed
set_option maxRecDepth 20000 in
theorem ggX2_paid_X2_requireArgument : GoodIn wsX2_paid wsX2_requireArgument := goodIn_ca (goodIn_r _ [20, 21, 22] (by decide +kernel) (by decide +kernel)) (goodIn_sub (fun _ h => List.mem_cons_of_mem _ (List.mem_append_right _ h)) (by decide +kernel))
set_option maxRecDepth 20000 in
theorem gX2_paid_X2_requireArgument : GoodIn wsX2_paid (va_wsS RX2 34 yX2_requireArgument wsX2_requireArgument) := goodIn_app (goodIn_of _ (by decide +kernel)) ggX2_paid_X2_requireArgument
set_option maxRecDepth 20000 in
theorem ggX2_madeUp_X2_workerAt : GoodIn wsX2_madeUp wsX2_workerAt := goodIn_ca (goodIn_r _ [5, 6, 7, 8, 9, 10, 11, 4, 12, 35, 36, 37, 38, 39, 40, 41, 42] (by decide +kernel) (by decide +kernel)) (goodIn_sub (fun _ h => List.mem_cons_of_mem _ (List.mem_append_left _ (List.mem_append_right _ h))) (by decide +kernel))
set_option maxRecDepth 20000 in
theorem gX2_madeUp_X2_workerAt : GoodIn wsX2_madeUp (wsV RX2 47 RX2 yX2_workerAt wsX2_workerAt) := goodIn_app (goodIn_of _ (by decide +kernel)) ggX2_madeUp_X2_workerAt
set_option maxRecDepth 20000 in
theorem ggX2_madeUp_X2_hasPassed : GoodIn wsX2_madeUp wsX2_hasPassed := goodIn_r _ [16, 17, 10, 11, 4, 12, 35, 36, 37, 38, 39, 40, 41, 42] (by decide +kernel) (by decide +kernel)
set_option maxRecDepth 20000 in
theorem gX2_madeUp_X2_hasPassed : GoodIn wsX2_madeUp (wsV RX2 103 RX2 yX2_hasPassed wsX2_hasPassed) := goodIn_app (goodIn_of _ (by decide +kernel)) ggX2_madeUp_X2_hasPassed
set_option maxRecDepth 20000 in
theorem ggX2_madeUp_X2_requireArgument : GoodIn wsX2_madeUp wsX2_requireArgument := goodIn_ca (goodIn_r _ [20, 21, 22] (by decide +kernel) (by decide +kernel)) (goodIn_sub (fun _ h => List.mem_cons_of_mem _ (List.mem_append_right _ h)) (by decide +kernel))
set_option maxRecDepth 20000 in
theorem gX2_madeUp_X2_requireArgument : GoodIn wsX2_madeUp (va_wsS RX2 34 yX2_requireArgument wsX2_requireArgument) := goodIn_app (goodIn_of _ (by decide +kernel)) ggX2_madeUp_X2_requireArgument
set_option maxRecDepth 20000 in
theorem ggX2_cutWeeks_X2_workerAt : GoodIn wsX2_cutWeeks wsX2_workerAt := goodIn_ca (goodIn_r _ [5, 6, 7, 8, 9, 10, 11, 4, 12, 25, 26, 27, 28, 29, 30, 31, 32] (by decide +kernel) (by decide +kernel)) (goodIn_sub (fun _ h => List.mem_cons_of_mem _ (List.mem_append_right _ h)) (by decide +kernel))
set_option maxRecDepth 20000 in
theorem gX2_cutWeeks_X2_workerAt : GoodIn wsX2_cutWeeks (wsV RX2 47 RX2 yX2_workerAt wsX2_workerAt) := goodIn_app (goodIn_of _ (by decide +kernel)) ggX2_cutWeeks_X2_workerAt
set_option maxRecDepth 20000 in
theorem ggX2_door_X2_workerAt : GoodIn wsX2_door wsX2_workerAt := goodIn_ca (goodIn_r _ [6, 7, 8, 9, 10, 11, 12, 5, 13, 29, 30, 31, 32, 33, 34, 35, 36] (by decide +kernel) (by decide +kernel)) (goodIn_sub (fun _ h => List.mem_cons_of_mem _ (List.mem_append_left _ (List.mem_append_left _ (List.mem_append_right _ h)))) (by decide +kernel))
set_option maxRecDepth 20000 in
theorem gX2_door_X2_workerAt : GoodIn wsX2_door (wsV RX2 47 RX2 yX2_workerAt wsX2_workerAt) := goodIn_app (goodIn_of _ (by decide +kernel)) ggX2_door_X2_workerAt
set_option maxRecDepth 20000 in
theorem ggX2_door_X2_hasPassed : GoodIn wsX2_door wsX2_hasPassed := goodIn_r _ [17, 18, 11, 12, 5, 13, 29, 30, 31, 32, 33, 34, 35, 36] (by decide +kernel) (by decide +kernel)
set_option maxRecDepth 20000 in
theorem gX2_door_X2_hasPassed : GoodIn wsX2_door (wsV RX2 103 RX2 yX2_hasPassed wsX2_hasPassed) := goodIn_app (goodIn_of _ (by decide +kernel)) ggX2_door_X2_hasPassed
set_option maxRecDepth 20000 in
theorem ggX2_door_X2_isWithin : GoodIn wsX2_door wsX2_isWithin := goodIn_r _ [13] (by decide +kernel) (by decide +kernel)
set_option maxRecDepth 20000 in
theorem gX2_door_X2_isWithin : GoodIn wsX2_door (va_wsS RX2 30 yX2_isWithin wsX2_isWithin) := goodIn_app (goodIn_of _ (by decide +kernel)) ggX2_door_X2_isWithin
set_option maxRecDepth 20000 in
theorem ggX2_door_X2_requireArgument : GoodIn wsX2_door wsX2_requireArgument := goodIn_ca (goodIn_r _ [21, 22, 23] (by decide +kernel) (by decide +kernel)) (goodIn_sub (fun _ h => List.mem_cons_of_mem _ (List.mem_append_left _ (List.mem_append_right _ h))) (by decide +kernel))
set_option maxRecDepth 20000 in
theorem gX2_door_X2_requireArgument : GoodIn wsX2_door (va_wsS RX2 34 yX2_requireArgument wsX2_requireArgument) := goodIn_app (goodIn_of _ (by decide +kernel)) ggX2_door_X2_requireArgument
set_option maxRecDepth 20000 in
theorem ggX2_door_X2_requireState : GoodIn wsX2_door wsX2_requireState := goodIn_ca (goodIn_r _ [26, 27, 28] (by decide +kernel) (by decide +kernel)) (goodIn_sub (fun _ h => List.mem_cons_of_mem _ (List.mem_append_right _ h)) (by decide +kernel))
set_option maxRecDepth 20000 in
theorem gX2_door_X2_requireState : GoodIn wsX2_door (va_wsS RX2 41 yX2_requireState wsX2_requireState) := goodIn_app (goodIn_of _ (by decide +kernel)) ggX2_door_X2_requireState
set_option maxRecDepth 20000 in
theorem ggX2_mail_X2_workerAt : GoodIn wsX2_mail wsX2_workerAt := goodIn_ca (goodIn_r _ [6, 7, 8, 9, 10, 11, 12, 5, 13, 29, 30, 31, 32, 33, 34, 35, 36] (by decide +kernel) (by decide +kernel)) (goodIn_sub (fun _ h => List.mem_cons_of_mem _ (List.mem_append_left _ (List.mem_append_left _ (List.mem_append_right _ h)))) (by decide +kernel))
set_option maxRecDepth 20000 in
theorem gX2_mail_X2_workerAt : GoodIn wsX2_mail (wsV RX2 47 RX2 yX2_workerAt wsX2_workerAt) := goodIn_app (goodIn_of _ (by decide +kernel)) ggX2_mail_X2_workerAt
set_option maxRecDepth 20000 in
theorem ggX2_mail_X2_hasPassed : GoodIn wsX2_mail wsX2_hasPassed := goodIn_r _ [17, 18, 11, 12, 5, 13, 29, 30, 31, 32, 33, 34, 35, 36] (by decide +kernel) (by decide +kernel)
set_option maxRecDepth 20000 in
theorem gX2_mail_X2_hasPassed : GoodIn wsX2_mail (wsV RX2 103 RX2 yX2_hasPassed wsX2_hasPassed) := goodIn_app (goodIn_of _ (by decide +kernel)) ggX2_mail_X2_hasPassed
set_option maxRecDepth 20000 in
theorem ggX2_mail_X2_requireArgument : GoodIn wsX2_mail wsX2_requireArgument := goodIn_ca (goodIn_r _ [21, 22, 23] (by decide +kernel) (by decide +kernel)) (goodIn_sub (fun _ h => List.mem_cons_of_mem _ (List.mem_append_left _ (List.mem_append_right _ h))) (by decide +kernel))
set_option maxRecDepth 20000 in
theorem gX2_mail_X2_requireArgument : GoodIn wsX2_mail (va_wsS RX2 34 yX2_requireArgument wsX2_requireArgument) := goodIn_app (goodIn_of _ (by decide +kernel)) ggX2_mail_X2_requireArgument
set_option maxRecDepth 20000 in
theorem ggX2_mail_X2_requireState : GoodIn wsX2_mail wsX2_requireState := goodIn_ca (goodIn_r _ [26, 27, 28] (by decide +kernel) (by decide +kernel)) (goodIn_sub (fun _ h => List.mem_cons_of_mem _ (List.mem_append_right _ h)) (by decide +kernel))
set_option maxRecDepth 20000 in
theorem gX2_mail_X2_requireState : GoodIn wsX2_mail (va_wsS RX2 41 yX2_requireState wsX2_requireState) := goodIn_app (goodIn_of _ (by decide +kernel)) ggX2_mail_X2_requireState
set_option maxRecDepth 20000 in
theorem ggX2_check_X2_hasPassed : GoodIn wsX2_check wsX2_hasPassed := goodIn_r _ [7, 8, 9, 10, 6, 11, 35, 36, 37, 38, 39, 40, 41, 42] (by decide +kernel) (by decide +kernel)
set_option maxRecDepth 20000 in
theorem gX2_check_X2_hasPassed : GoodIn wsX2_check (wsV RX2 103 RX2 yX2_hasPassed wsX2_hasPassed) := goodIn_app (goodIn_of _ (by decide +kernel)) ggX2_check_X2_hasPassed
set_option maxRecDepth 20000 in
theorem ggX2_check_X2_requireArgument : GoodIn wsX2_check wsX2_requireArgument := goodIn_ca (goodIn_r _ [14, 15, 16] (by decide +kernel) (by decide +kernel)) (goodIn_sub (fun _ h => List.mem_cons_of_mem _ (List.mem_append_left _ (List.mem_append_right _ h))) (by decide +kernel))
set_option maxRecDepth 20000 in
theorem gX2_check_X2_requireArgument : GoodIn wsX2_check (va_wsS RX2 34 yX2_requireArgument wsX2_requireArgument) := goodIn_app (goodIn_of _ (by decide +kernel)) ggX2_check_X2_requireArgument
set_option maxRecDepth 20000 in
theorem ggX2_check_X2_requireState : GoodIn wsX2_check wsX2_requireState := goodIn_ca (goodIn_r _ [19, 20, 21] (by decide +kernel) (by decide +kernel)) (goodIn_sub (fun _ h => List.mem_cons_of_mem _ (List.mem_append_right _ h)) (by decide +kernel))
set_option maxRecDepth 20000 in
theorem gX2_check_X2_requireState : GoodIn wsX2_check (va_wsS RX2 41 yX2_requireState wsX2_requireState) := goodIn_app (goodIn_of _ (by decide +kernel)) ggX2_check_X2_requireState
set_option maxRecDepth 20000 in
theorem ggX2_check_X1_hasWorkedTooMuch : GoodIn wsX2_check wsX1_hasWorkedTooMuch := goodIn_r _ [26, 27, 28, 29, 43, 44, 45, 46, 47, 48, 49, 50, 51, 52, 53, 54] (by decide +kernel) (by decide +kernel)
set_option maxRecDepth 20000 in
theorem gX2_check_X1_hasWorkedTooMuch : GoodIn wsX2_check (wsV RX2 121 RX1 yX1_hasWorkedTooMuch wsX1_hasWorkedTooMuch) := goodIn_app (goodIn_of _ (by decide +kernel)) ggX2_check_X1_hasWorkedTooMuch
set_option maxRecDepth 20000 in
theorem ggX2_check_X2_chargeBack : GoodIn wsX2_check wsX2_chargeBack := goodIn_r _ [33, 34, 43, 44, 45, 46, 47, 48, 49, 50, 51, 52, 53, 54, 35, 36, 37, 38, 39, 40, 41, 42] (by decide +kernel) (by decide +kernel)
set_option maxRecDepth 20000 in
theorem gX2_check_X2_chargeBack : GoodIn wsX2_check (wsV RX2 124 RX2 yX2_chargeBack wsX2_chargeBack) := goodIn_app (goodIn_of _ (by decide +kernel)) ggX2_check_X2_chargeBack
set_option maxRecDepth 20000 in
theorem ggX2_owes_X2_workerAt : GoodIn wsX2_owes wsX2_workerAt := goodIn_ca (goodIn_r _ [5, 6, 7, 8, 9, 10, 11, 4, 12, 25, 26, 27, 28, 29, 30, 31, 32] (by decide +kernel) (by decide +kernel)) (goodIn_sub (fun _ h => List.mem_cons_of_mem _ (List.mem_append_right _ h)) (by decide +kernel))
set_option maxRecDepth 20000 in
theorem gX2_owes_X2_workerAt : GoodIn wsX2_owes (wsV RX2 47 RX2 yX2_workerAt wsX2_workerAt) := goodIn_app (goodIn_of _ (by decide +kernel)) ggX2_owes_X2_workerAt
set_option maxRecDepth 20000 in
theorem ggX2_net_X2_workerAt : GoodIn wsX2_net wsX2_workerAt := goodIn_ca (goodIn_r _ [5, 6, 7, 8, 9, 10, 11, 4, 12, 25, 26, 27, 28, 29, 30, 31, 32] (by decide +kernel) (by decide +kernel)) (goodIn_sub (fun _ h => List.mem_cons_of_mem _ (List.mem_append_right _ h)) (by decide +kernel))
set_option maxRecDepth 20000 in
theorem gX2_net_X2_workerAt : GoodIn wsX2_net (wsV RX2 47 RX2 yX2_workerAt wsX2_workerAt) := goodIn_app (goodIn_of _ (by decide +kernel)) ggX2_net_X2_workerAt
set_option maxRecDepth 20000 in
theorem ggX2_payCurrentWeek_X1_payFor : GoodIn wsX2_payCurrentWeek wsX1_payFor := goodIn_r _ [8, 9, 10, 11, 12, 13, 14, 15, 16, 17, 18, 19, 20, 21, 7, 22, 23, 24, 25, 26, 27, 28, 29, 30, 31, 32, 41, 42, 43, 44, 45, 46, 47, 48, 49, 50, 51, 52] (by decide +kernel) (by decide +kernel)
set_option maxRecDepth 20000 in
theorem gX2_payCurrentWeek_X1_payFor : GoodIn wsX2_payCurrentWeek (wsV RX2 137 RX1 yX1_payFor wsX1_payFor) := goodIn_app (goodIn_of _ (by decide +kernel)) ggX2_payCurrentWeek_X1_payFor
set_option maxRecDepth 20000 in
theorem ggX2_workerAt_X2_isWithin : GoodIn wsX2_workerAt wsX2_isWithin := goodIn_r _ [8] (by decide +kernel) (by decide +kernel)
set_option maxRecDepth 20000 in
theorem gX2_workerAt_X2_isWithin : GoodIn wsX2_workerAt (va_wsS RX2 30 yX2_isWithin wsX2_isWithin) := goodIn_app (goodIn_of _ (by decide +kernel)) ggX2_workerAt_X2_isWithin
set_option maxRecDepth 20000 in
theorem ggX2_courseAt_X2_isWithin : GoodIn wsX2_courseAt wsX2_isWithin := goodIn_r _ [8] (by decide +kernel) (by decide +kernel)
set_option maxRecDepth 20000 in
theorem gX2_courseAt_X2_isWithin : GoodIn wsX2_courseAt (va_wsS RX2 30 yX2_isWithin wsX2_isWithin) := goodIn_app (goodIn_of _ (by decide +kernel)) ggX2_courseAt_X2_isWithin
set_option maxRecDepth 20000 in
theorem ggX2_hasPassed_X2_isWithin : GoodIn wsX2_hasPassed wsX2_isWithin := goodIn_r _ [5] (by decide +kernel) (by decide +kernel)
set_option maxRecDepth 20000 in
theorem gX2_hasPassed_X2_isWithin : GoodIn wsX2_hasPassed (va_wsS RX2 30 yX2_isWithin wsX2_isWithin) := goodIn_app (goodIn_of _ (by decide +kernel)) ggX2_hasPassed_X2_isWithin
set_option maxRecDepth 20000 in
theorem ggX2_isSpan_X2_isWithin : GoodIn wsX2_isSpan wsX2_isWithin := goodIn_r _ [4] (by decide +kernel) (by decide +kernel)
set_option maxRecDepth 20000 in
theorem gX2_isSpan_X2_isWithin : GoodIn wsX2_isSpan (va_wsS RX2 30 yX2_isWithin wsX2_isWithin) := goodIn_app (goodIn_of _ (by decide +kernel)) ggX2_isSpan_X2_isWithin
end
section
set_option maxRecDepth 20000 in
theorem ggL_call_L_does : GoodIn wsL_call wsL_does := goodIn_ca (goodIn_ca (goodIn_ca (goodIn_r _ [7, 8, 9, 10, 11, 12, 13, 14, 15, 16, 17, 18, 19, 20, 21, 22, 23, 24, 25, 26, 27, 28, 29, 30, 31, 32, 33, 34, 35, 36, 37, 38, 39, 40, 41, 42, 43, 44, 45, 46, 47, 48, 49, 50, 51, 52, 53, 54, 55, 56, 57, 58, 59, 60, 61, 62, 63, 64, 65, 66, 67, 68, 69, 70, 71, 72, 73, 74, 75, 76, 77, 78, 79, 80, 81, 82, 83, 84, 85, 86, 87, 88, 89, 90, 91, 92, 93, 94, 95, 96, 97, 98, 99, 100, 101, 102, 103, 104, 105, 106, 107, 108, 109, 110, 111, 112, 113, 114, 115, 116, 117, 118, 119, 120, 121, 122, 123, 124, 125, 126, 127, 128, 129, 130, 131, 132, 133, 134, 135, 136, 137, 138, 139, 140, 141, 142, 143, 144, 145, 146, 147, 148, 149, 150, 151, 152, 153, 154, 155, 156, 157, 158, 159, 160, 161, 162, 163, 164, 165, 166, 167, 168, 169, 170, 171, 172, 173, 174, 175, 176, 177, 178, 179, 180, 181, 182, 183, 184, 185, 186, 187, 188, 189, 190, 191, 192, 193, 194, 195, 196, 197, 198, 199, 200, 201, 202, 203, 204, 205, 206, 207, 208, 209, 210, 211, 212, 213] (by decide +kernel) (by decide +kernel)) (goodIn_sub (fun _ h => List.mem_cons_of_mem _ (List.mem_append_left _ (List.mem_append_left _ (List.mem_append_right _ h)))) (by decide +kernel))) (goodIn_sub (fun _ h => List.mem_cons_of_mem _ (List.mem_append_left _ (List.mem_append_right _ h))) (by decide +kernel))) (goodIn_sub (fun _ h => List.mem_cons_of_mem _ (List.mem_append_right _ h)) (by decide +kernel))
set_option maxRecDepth 20000 in
theorem gL_call_L_does : GoodIn wsL_call (va_wsS RL 8 yL_does wsL_does) := goodIn_app (goodIn_of _ (by decide +kernel)) ggL_call_L_does
set_option maxRecDepth 20000 in
theorem ggL_all_X2_workers : GoodIn wsL_all wsX2_workers := goodIn_r _ [10, 11, 64, 65, 66, 67, 68, 69, 70, 71] (by decide +kernel) (by decide +kernel)
set_option maxRecDepth 20000 in
theorem gL_all_X2_workers : GoodIn wsL_all (wsV RL 77 RX2 yX2_workers wsX2_workers) := goodIn_app (goodIn_of _ (by decide +kernel)) ggL_all_X2_workers
set_option maxRecDepth 20000 in
theorem ggL_all_X2_week : GoodIn wsL_all wsX2_week := goodIn_r _ [15, 16, 64, 65, 66, 67, 68, 69, 70, 71] (by decide +kernel) (by decide +kernel)
set_option maxRecDepth 20000 in
theorem gL_all_X2_week : GoodIn wsL_all (wsV RL 83 RX2 yX2_week wsX2_week) := goodIn_app (goodIn_of _ (by decide +kernel)) ggL_all_X2_week
set_option maxRecDepth 20000 in
theorem ggL_all_X2_firmOwes : GoodIn wsL_all wsX2_firmOwes := goodIn_r _ [20, 21, 64, 65, 66, 67, 68, 69, 70, 71] (by decide +kernel) (by decide +kernel)
set_option maxRecDepth 20000 in
theorem gL_all_X2_firmOwes : GoodIn wsL_all (wsV RL 88 RX2 yX2_firmOwes wsX2_firmOwes) := goodIn_app (goodIn_of _ (by decide +kernel)) ggL_all_X2_firmOwes
set_option maxRecDepth 20000 in
theorem ggL_all_X2_cutWeeks : GoodIn wsL_all wsX2_cutWeeks := goodIn_ca (goodIn_r _ [25, 26, 27, 28, 9, 29, 30, 31, 11, 32, 33, 34, 35, 72, 73, 74, 75, 76, 77, 78, 79, 80, 81, 82, 83, 64, 65, 66, 67, 68, 69, 70, 71] (by decide +kernel) (by decide +kernel)) (goodIn_sub (fun _ h => List.mem_cons_of_mem _ (List.mem_append_left _ (List.mem_append_right _ h))) (by decide +kernel))
set_option maxRecDepth 20000 in
theorem gL_all_X2_cutWeeks : GoodIn wsL_all (wsV RL 57 RX2 yX2_cutWeeks wsX2_cutWeeks) := goodIn_app (goodIn_of _ (by decide +kernel)) ggL_all_X2_cutWeeks
set_option maxRecDepth 20000 in
theorem ggL_all_X2_owes : GoodIn wsL_all wsX2_owes := goodIn_ca (goodIn_r _ [39, 26, 27, 28, 9, 29, 30, 31, 11, 32, 33, 34, 35, 72, 73, 74, 75, 76, 77, 78, 79, 80, 81, 82, 83, 64, 65, 66, 67, 68, 69, 70, 71] (by decide +kernel) (by decide +kernel)) (goodIn_sub (fun _ h => List.mem_cons_of_mem _ (List.mem_append_left _ (List.mem_append_right _ h))) (by decide +kernel))
set_option maxRecDepth 20000 in
theorem gL_all_X2_owes : GoodIn wsL_all (wsV RL 71 RX2 yX2_owes wsX2_owes) := goodIn_app (goodIn_of _ (by decide +kernel)) ggL_all_X2_owes
set_option maxRecDepth 20000 in
theorem ggL_all_X2_net : GoodIn wsL_all wsX2_net := goodIn_ca (goodIn_r _ [43, 26, 27, 28, 9, 29, 30, 31, 11, 32, 33, 34, 35, 72, 73, 74, 75, 76, 77, 78, 79, 80, 81, 82, 83, 64, 65, 66, 67, 68, 69, 70, 71] (by decide +kernel) (by decide +kernel)) (goodIn_sub (fun _ h => List.mem_cons_of_mem _ (List.mem_append_left _ (List.mem_append_right _ h))) (by decide +kernel))
set_option maxRecDepth 20000 in
theorem gL_all_X2_net : GoodIn wsL_all (wsV RL 74 RX2 yX2_net wsX2_net) := goodIn_app (goodIn_of _ (by decide +kernel)) ggL_all_X2_net
set_option maxRecDepth 20000 in
theorem ggL_all_X2_cut : GoodIn wsL_all wsX2_cut := goodIn_ca (goodIn_ca (goodIn_r _ [47, 26, 27, 28, 9, 29, 30, 31, 11, 32, 33, 34, 35, 48, 49, 50, 51, 52, 72, 73, 74, 75, 76, 77, 78, 79, 80, 81, 82, 83, 64, 65, 66, 67, 68, 69, 70, 71] (by decide +kernel) (by decide +kernel)) (goodIn_sub (fun _ h => List.mem_cons_of_mem _ (List.mem_append_left _ (List.mem_append_right _ h))) (by decide +kernel))) (goodIn_sub (fun _ h => List.mem_cons_of_mem _ (List.mem_append_right _ h)) (by decide +kernel))
set_option maxRecDepth 20000 in
theorem gL_all_X2_cut : GoodIn wsL_all (wsV RL 41 RX2 yX2_cut wsX2_cut) := goodIn_app (goodIn_of _ (by decide +kernel)) ggL_all_X2_cut
set_option maxRecDepth 20000 in
theorem ggL_all_X2_isFilled : GoodIn wsL_all wsX2_isFilled := goodIn_ca (goodIn_ca (goodIn_r _ [56, 26, 27, 28, 9, 29, 30, 31, 11, 32, 33, 34, 35, 48, 49, 50, 51, 52, 57, 58, 59, 60, 61, 62, 63, 64, 65, 66, 67, 68, 69, 70, 71, 72, 73, 74, 75, 76, 77, 78, 79, 80, 81, 82, 83] (by decide +kernel) (by decide +kernel)) (goodIn_sub (fun _ h => List.mem_cons_of_mem _ (List.mem_append_left _ (List.mem_append_right _ h))) (by decide +kernel))) (goodIn_sub (fun _ h => List.mem_cons_of_mem _ (List.mem_append_right _ h)) (by decide +kernel))
set_option maxRecDepth 20000 in
theorem gL_all_X2_isFilled : GoodIn wsL_all (wsV RL 44 RX2 yX2_isFilled wsX2_isFilled) := goodIn_app (goodIn_of _ (by decide +kernel)) ggL_all_X2_isFilled
end
section
set_option maxRecDepth 20000 in
theorem ggL_does_X2_add : GoodIn wsL_does wsX2_add := goodIn_ca (goodIn_ca (goodIn_r _ [5, 6, 7, 8, 9, 10, 11, 12, 13, 4, 14, 15, 16, 17, 18, 19, 20, 21, 22, 23, 24, 25, 26, 27, 28, 29, 30, 31, 32, 33, 34, 35, 36, 37, 38, 39, 40, 183, 184, 185, 186, 187, 188, 189, 190, 191, 192, 193, 194, 195, 196, 197, 198, 199, 200, 201, 202] (by decide +kernel) (by decide +kernel)) (goodIn_sub (fun _ h => List.mem_cons_of_mem _ (List.mem_append_left _ (List.mem_append_left _ (List.mem_append_right _ h)))) (by decide +kernel))) (goodIn_sub (fun _ h => List.mem_cons_of_mem _ (List.mem_append_left _ (List.mem_append_right _ h))) (by decide +kernel))
set_option maxRecDepth 20000 in
theorem gL_does_X2_add : GoodIn wsL_does (wsV RL 20 RX2 yX2_add wsX2_add) := goodIn_app (goodIn_of _ (by decide +kernel)) ggL_does_X2_add
set_option maxRecDepth 20000 in
theorem ggL_does_X2_notice : GoodIn wsL_does wsX2_notice := goodIn_ca (goodIn_ca (goodIn_ca (goodIn_r _ [44, 45, 46, 47, 48, 4, 49, 50, 51, 7, 8, 12, 13, 14, 52, 53, 54, 15, 16, 17, 18, 19, 20, 21, 22, 23, 24, 55, 56, 57, 11, 58, 34, 59, 183, 184, 185, 186, 187, 188, 189, 190, 191, 192, 193, 194, 195, 196, 197, 198, 199, 200, 201, 202] (by decide +kernel) (by decide +kernel)) (goodIn_sub (fun _ h => List.mem_cons_of_mem _ (List.mem_append_right _ h)) (by decide +kernel))) (goodIn_sub (fun _ h => List.mem_cons_of_mem _ (List.mem_append_left _ (List.mem_append_left _ (List.mem_append_right _ h)))) (by decide +kernel))) (goodIn_sub (fun _ h => List.mem_cons_of_mem _ (List.mem_append_left _ (List.mem_append_right _ h))) (by decide +kernel))
set_option maxRecDepth 20000 in
theorem gL_does_X2_notice : GoodIn wsL_does (wsV RL 26 RX2 yX2_notice wsX2_notice) := goodIn_app (goodIn_of _ (by decide +kernel)) ggL_does_X2_notice
set_option maxRecDepth 20000 in
theorem ggL_does_X2_addCourse : GoodIn wsL_does wsX2_addCourse := goodIn_ca (goodIn_ca (goodIn_r _ [63, 64, 65, 66, 67, 68, 12, 13, 4, 14, 52, 53, 54, 15, 16, 17, 18, 19, 20, 21, 22, 23, 24, 69, 70, 71, 72, 29, 30, 73, 74, 75, 76, 183, 184, 185, 186, 187, 188, 189, 190, 203, 204, 205, 206] (by decide +kernel) (by decide +kernel)) (goodIn_sub (fun _ h => List.mem_cons_of_mem _ (List.mem_append_left _ (List.mem_append_left _ (List.mem_append_right _ h)))) (by decide +kernel))) (goodIn_sub (fun _ h => List.mem_cons_of_mem _ (List.mem_append_left _ (List.mem_append_right _ h))) (by decide +kernel))
set_option maxRecDepth 20000 in
theorem gL_does_X2_addCourse : GoodIn wsL_does (wsV RL 30 RX2 yX2_addCourse wsX2_addCourse) := goodIn_app (goodIn_of _ (by decide +kernel)) ggL_does_X2_addCourse
set_option maxRecDepth 20000 in
theorem ggL_does_X2_enrol : GoodIn wsL_does wsX2_enrol := goodIn_ca (goodIn_ca (goodIn_r _ [80, 45, 46, 47, 48, 4, 49, 50, 51, 7, 8, 12, 13, 14, 81, 82, 83, 84, 64, 65, 85, 86, 87, 11, 88, 35, 20, 21, 22, 23, 24, 89, 90, 91, 92, 203, 204, 205, 206, 183, 184, 185, 186, 187, 188, 189, 190, 191, 192, 193, 194, 195, 196, 197, 198, 199, 200, 201, 202] (by decide +kernel) (by decide +kernel)) (goodIn_sub (fun _ h => List.mem_cons_of_mem _ (List.mem_append_right _ h)) (by decide +kernel))) (goodIn_sub (fun _ h => List.mem_cons_of_mem _ (List.mem_append_left _ (List.mem_append_right _ h))) (by decide +kernel))
set_option maxRecDepth 20000 in
theorem gL_does_X2_enrol : GoodIn wsL_does (wsV RL 33 RX2 yX2_enrol wsX2_enrol) := goodIn_app (goodIn_of _ (by decide +kernel)) ggL_does_X2_enrol
set_option maxRecDepth 20000 in
theorem ggL_does_X2_setFloor : GoodIn wsL_does wsX2_setFloor := goodIn_ca (goodIn_r _ [96, 97, 12, 13, 4, 14, 15, 16, 17, 18, 19, 183, 184, 185, 186, 187, 188, 189, 190] (by decide +kernel) (by decide +kernel)) (goodIn_sub (fun _ h => List.mem_cons_of_mem _ (List.mem_append_left _ (List.mem_append_left _ (List.mem_append_right _ h)))) (by decide +kernel))
set_option maxRecDepth 20000 in
theorem gL_does_X2_setFloor : GoodIn wsL_does (wsV RL 37 RX2 yX2_setFloor wsX2_setFloor) := goodIn_app (goodIn_of _ (by decide +kernel)) ggL_does_X2_setFloor
set_option maxRecDepth 20000 in
theorem ggL_does_X2_cut : GoodIn wsL_does wsX2_cut := goodIn_ca (goodIn_ca (goodIn_r _ [101, 46, 47, 48, 4, 49, 50, 51, 7, 8, 12, 13, 14, 15, 16, 17, 18, 19, 191, 192, 193, 194, 195, 196, 197, 198, 199, 200, 201, 202, 183, 184, 185, 186, 187, 188, 189, 190] (by decide +kernel) (by decide +kernel)) (goodIn_sub (fun _ h => List.mem_cons_of_mem _ (List.mem_append_right _ h)) (by decide +kernel))) (goodIn_sub (fun _ h => List.mem_cons_of_mem _ (List.mem_append_left _ (List.mem_append_left _ (List.mem_append_right _ h)))) (by decide +kernel))
set_option maxRecDepth 20000 in
theorem gL_does_X2_cut : GoodIn wsL_does (wsV RL 41 RX2 yX2_cut wsX2_cut) := goodIn_app (goodIn_of _ (by decide +kernel)) ggL_does_X2_cut
set_option maxRecDepth 20000 in
theorem ggL_does_X2_isFilled : GoodIn wsL_does wsX2_isFilled := goodIn_ca (goodIn_ca (goodIn_r _ [105, 46, 47, 48, 4, 49, 50, 51, 7, 8, 12, 13, 14, 15, 16, 17, 18, 19, 106, 107, 108, 11, 109, 35, 34, 183, 184, 185, 186, 187, 188, 189, 190, 191, 192, 193, 194, 195, 196, 197, 198, 199, 200, 201, 202] (by decide +kernel) (by decide +kernel)) (goodIn_sub (fun _ h => List.mem_cons_of_mem _ (List.mem_append_right _ h)) (by decide +kernel))) (goodIn_sub (fun _ h => List.mem_cons_of_mem _ (List.mem_append_left _ (List.mem_append_left _ (List.mem_append_right _ h)))) (by decide +kernel))
set_option maxRecDepth 20000 in
theorem gL_does_X2_isFilled : GoodIn wsL_does (wsV RL 44 RX2 yX2_isFilled wsX2_isFilled) := goodIn_app (goodIn_of _ (by decide +kernel)) ggL_does_X2_isFilled
set_option maxRecDepth 20000 in
theorem ggL_does_X2_pass : GoodIn wsL_does wsX2_pass := goodIn_ca (goodIn_ca (goodIn_r _ [113, 45, 12, 13, 4, 14, 15, 16, 17, 18, 19, 20, 21, 22, 23, 24, 114, 115, 116, 117, 8, 97, 118, 119, 120, 11, 121, 31, 34, 122, 123, 124, 125, 36, 37, 126, 127, 128, 129, 130, 131, 32, 132, 133, 134, 135, 136, 107, 108, 109, 35, 183, 184, 185, 186, 187, 188, 189, 190, 191, 192, 193, 194, 195, 196, 197, 198, 199, 200, 201, 202] (by decide +kernel) (by decide +kernel)) (goodIn_sub (fun _ h => List.mem_cons_of_mem _ (List.mem_append_left _ (List.mem_append_left _ (List.mem_append_right _ h)))) (by decide +kernel))) (goodIn_sub (fun _ h => List.mem_cons_of_mem _ (List.mem_append_left _ (List.mem_append_right _ h))) (by decide +kernel))
set_option maxRecDepth 20000 in
theorem gL_does_X2_pass : GoodIn wsL_does (wsV RL 48 RX2 yX2_pass wsX2_pass) := goodIn_app (goodIn_of _ (by decide +kernel)) ggL_does_X2_pass
set_option maxRecDepth 20000 in
theorem ggL_does_X2_paid : GoodIn wsL_does wsX2_paid := goodIn_ca (goodIn_ca (goodIn_r _ [140, 46, 47, 48, 4, 49, 50, 51, 7, 8, 12, 13, 14, 141, 142, 143, 144, 45, 15, 16, 17, 18, 19, 191, 192, 193, 194, 195, 196, 197, 198, 199, 200, 201, 202, 183, 184, 185, 186, 187, 188, 189, 190] (by decide +kernel) (by decide +kernel)) (goodIn_sub (fun _ h => List.mem_cons_of_mem _ (List.mem_append_right _ h)) (by decide +kernel))) (goodIn_sub (fun _ h => List.mem_cons_of_mem _ (List.mem_append_left _ (List.mem_append_left _ (List.mem_append_right _ h)))) (by decide +kernel))
set_option maxRecDepth 20000 in
theorem gL_does_X2_paid : GoodIn wsL_does (wsV RL 51 RX2 yX2_paid wsX2_paid) := goodIn_app (goodIn_of _ (by decide +kernel)) ggL_does_X2_paid
set_option maxRecDepth 20000 in
theorem ggL_does_X2_madeUp : GoodIn wsL_does wsX2_madeUp := goodIn_ca (goodIn_ca (goodIn_r _ [148, 46, 47, 48, 4, 49, 50, 51, 7, 8, 12, 13, 14, 141, 142, 143, 144, 45, 15, 16, 17, 18, 19, 191, 192, 193, 194, 195, 196, 197, 198, 199, 200, 201, 202, 183, 184, 185, 186, 187, 188, 189, 190] (by decide +kernel) (by decide +kernel)) (goodIn_sub (fun _ h => List.mem_cons_of_mem _ (List.mem_append_right _ h)) (by decide +kernel))) (goodIn_sub (fun _ h => List.mem_cons_of_mem _ (List.mem_append_left _ (List.mem_append_left _ (List.mem_append_right _ h)))) (by decide +kernel))
set_option maxRecDepth 20000 in
theorem gL_does_X2_madeUp : GoodIn wsL_does (wsV RL 54 RX2 yX2_madeUp wsX2_madeUp) := goodIn_app (goodIn_of _ (by decide +kernel)) ggL_does_X2_madeUp
set_option maxRecDepth 20000 in
theorem ggL_does_X2_cutWeeks : GoodIn wsL_does wsX2_cutWeeks := goodIn_ca (goodIn_r _ [152, 46, 47, 48, 4, 49, 50, 51, 7, 8, 12, 13, 14, 191, 192, 193, 194, 195, 196, 197, 198, 199, 200, 201, 202, 183, 184, 185, 186, 187, 188, 189, 190] (by decide +kernel) (by decide +kernel)) (goodIn_sub (fun _ h => List.mem_cons_of_mem _ (List.mem_append_right _ h)) (by decide +kernel))
set_option maxRecDepth 20000 in
theorem gL_does_X2_cutWeeks : GoodIn wsL_does (wsV RL 57 RX2 yX2_cutWeeks wsX2_cutWeeks) := goodIn_app (goodIn_of _ (by decide +kernel)) ggL_does_X2_cutWeeks
set_option maxRecDepth 20000 in
theorem ggL_does_X2_door : GoodIn wsL_does wsX2_door := goodIn_ca (goodIn_ca (goodIn_ca (goodIn_r _ [156, 157, 46, 47, 48, 4, 49, 50, 51, 7, 8, 12, 13, 14, 141, 142, 143, 144, 45, 15, 16, 17, 18, 19, 20, 21, 22, 23, 24, 183, 184, 185, 186, 187, 188, 189, 190, 191, 192, 193, 194, 195, 196, 197, 198, 199, 200, 201, 202] (by decide +kernel) (by decide +kernel)) (goodIn_sub (fun _ h => List.mem_cons_of_mem _ (List.mem_append_right _ h)) (by decide +kernel))) (goodIn_sub (fun _ h => List.mem_cons_of_mem _ (List.mem_append_left _ (List.mem_append_left _ (List.mem_append_right _ h)))) (by decide +kernel))) (goodIn_sub (fun _ h => List.mem_cons_of_mem _ (List.mem_append_left _ (List.mem_append_right _ h))) (by decide +kernel))
set_option maxRecDepth 20000 in
theorem gL_does_X2_door : GoodIn wsL_does (wsV RL 60 RX2 yX2_door wsX2_door) := goodIn_app (goodIn_of _ (by decide +kernel)) ggL_does_X2_door
set_option maxRecDepth 20000 in
theorem ggL_does_X2_mail : GoodIn wsL_does wsX2_mail := goodIn_ca (goodIn_ca (goodIn_ca (goodIn_r _ [161, 157, 46, 47, 48, 4, 49, 50, 51, 7, 8, 12, 13, 14, 141, 142, 143, 144, 45, 15, 16, 17, 18, 19, 20, 21, 22, 23, 24, 183, 184, 185, 186, 187, 188, 189, 190, 191, 192, 193, 194, 195, 196, 197, 198, 199, 200, 201, 202] (by decide +kernel) (by decide +kernel)) (goodIn_sub (fun _ h => List.mem_cons_of_mem _ (List.mem_append_right _ h)) (by decide +kernel))) (goodIn_sub (fun _ h => List.mem_cons_of_mem _ (List.mem_append_left _ (List.mem_append_left _ (List.mem_append_right _ h)))) (by decide +kernel))) (goodIn_sub (fun _ h => List.mem_cons_of_mem _ (List.mem_append_left _ (List.mem_append_right _ h))) (by decide +kernel))
set_option maxRecDepth 20000 in
theorem gL_does_X2_mail : GoodIn wsL_does (wsV RL 64 RX2 yX2_mail wsX2_mail) := goodIn_app (goodIn_of _ (by decide +kernel)) ggL_does_X2_mail
set_option maxRecDepth 20000 in
theorem ggL_does_X2_check : GoodIn wsL_does wsX2_check := goodIn_ca (goodIn_ca (goodIn_r _ [165, 157, 8, 141, 142, 143, 4, 144, 45, 12, 13, 14, 15, 16, 17, 18, 19, 20, 21, 22, 23, 24, 166, 167, 168, 11, 169, 34, 38, 37, 170, 171, 172, 173, 174, 183, 184, 185, 186, 187, 188, 189, 190, 191, 192, 193, 194, 195, 196, 197, 198, 199, 200, 201, 202] (by decide +kernel) (by decide +kernel)) (goodIn_sub (fun _ h => List.mem_cons_of_mem _ (List.mem_append_left _ (List.mem_append_left _ (List.mem_append_right _ h)))) (by decide +kernel))) (goodIn_sub (fun _ h => List.mem_cons_of_mem _ (List.mem_append_left _ (List.mem_append_right _ h))) (by decide +kernel))
set_option maxRecDepth 20000 in
theorem gL_does_X2_check : GoodIn wsL_does (wsV RL 68 RX2 yX2_check wsX2_check) := goodIn_app (goodIn_of _ (by decide +kernel)) ggL_does_X2_check
set_option maxRecDepth 20000 in
theorem ggL_does_X2_owes : GoodIn wsL_does wsX2_owes := goodIn_ca (goodIn_r _ [178, 46, 47, 48, 4, 49, 50, 51, 7, 8, 12, 13, 14, 191, 192, 193, 194, 195, 196, 197, 198, 199, 200, 201, 202, 183, 184, 185, 186, 187, 188, 189, 190] (by decide +kernel) (by decide +kernel)) (goodIn_sub (fun _ h => List.mem_cons_of_mem _ (List.mem_append_right _ h)) (by decide +kernel))
set_option maxRecDepth 20000 in
theorem gL_does_X2_owes : GoodIn wsL_does (wsV RL 71 RX2 yX2_owes wsX2_owes) := goodIn_app (goodIn_of _ (by decide +kernel)) ggL_does_X2_owes
set_option maxRecDepth 20000 in
theorem ggL_does_X2_net : GoodIn wsL_does wsX2_net := goodIn_ca (goodIn_r _ [182, 46, 47, 48, 4, 49, 50, 51, 7, 8, 12, 13, 14, 191, 192, 193, 194, 195, 196, 197, 198, 199, 200, 201, 202, 183, 184, 185, 186, 187, 188, 189, 190] (by decide +kernel) (by decide +kernel)) (goodIn_sub (fun _ h => List.mem_cons_of_mem _ (List.mem_append_right _ h)) (by decide +kernel))
set_option maxRecDepth 20000 in
theorem gL_does_X2_net : GoodIn wsL_does (wsV RL 74 RX2 yX2_net wsX2_net) := goodIn_app (goodIn_of _ (by decide +kernel)) ggL_does_X2_net
end
section
set_option maxRecDepth 20000 in
theorem ggL_kept_X2_workers : GoodIn wsL_kept wsX2_workers := goodIn_r _ [5, 6, 205, 206, 207, 208, 209, 210, 211, 212] (by decide +kernel) (by decide +kernel)
set_option maxRecDepth 20000 in
theorem gL_kept_X2_workers : GoodIn wsL_kept (wsV RL 77 RX2 yX2_workers wsX2_workers) := goodIn_app (goodIn_of _ (by decide +kernel)) ggL_kept_X2_workers
set_option maxRecDepth 20000 in
theorem ggL_kept_X2_week : GoodIn wsL_kept wsX2_week := goodIn_r _ [10, 11, 205, 206, 207, 208, 209, 210, 211, 212] (by decide +kernel) (by decide +kernel)
set_option maxRecDepth 20000 in
theorem gL_kept_X2_week : GoodIn wsL_kept (wsV RL 83 RX2 yX2_week wsX2_week) := goodIn_app (goodIn_of _ (by decide +kernel)) ggL_kept_X2_week
set_option maxRecDepth 20000 in
theorem ggL_kept_L_call : GoodIn wsL_kept wsL_call := goodIn_ca (goodIn_ca (goodIn_ca (goodIn_r _ [15, 16, 17, 18, 19, 20, 14, 21, 22, 23, 24, 4, 25, 26, 6, 27, 28, 29, 30, 31, 32, 33, 34, 35, 36, 37, 38, 39, 40, 41, 42, 43, 44, 45, 46, 47, 48, 49, 50, 51, 52, 53, 54, 55, 56, 57, 58, 59, 60, 61, 62, 63, 11, 64, 65, 66, 67, 68, 69, 70, 71, 72, 73, 74, 75, 76, 77, 78, 79, 80, 81, 82, 83, 84, 85, 86, 87, 88, 89, 90, 91, 92, 93, 94, 95, 96, 97, 98, 99, 100, 101, 102, 103, 104, 105, 106, 107, 108, 109, 110, 111, 112, 113, 114, 115, 116, 117, 118, 119, 120, 121, 122, 123, 124, 125, 126, 127, 128, 129, 130, 131, 132, 133, 134, 135, 136, 137, 138, 139, 140, 141, 142, 143, 144, 145, 146, 147, 148, 149, 150, 151, 152, 153, 154, 155, 156, 157, 158, 159, 160, 161, 162, 163, 164, 165, 166, 167, 168, 169, 170, 171, 172, 173, 174, 175, 176, 177, 178, 179, 180, 181, 182, 183, 184, 185, 186, 187, 188, 189, 190, 191, 192, 193, 194, 195, 196, 197, 198, 199, 200, 205, 206, 207, 208, 209, 210, 211, 212, 213, 214, 215, 216, 217, 218, 219, 220, 221, 222, 223, 224, 225, 226, 227, 228] (by decide +kernel) (by decide +kernel)) (goodIn_sub (fun _ h => List.mem_cons_of_mem _ (List.mem_append_left _ (List.mem_append_left _ (List.mem_append_right _ h)))) (by decide +kernel))) (goodIn_sub (fun _ h => List.mem_cons_of_mem _ (List.mem_append_left _ (List.mem_append_right _ h))) (by decide +kernel))) (goodIn_sub (fun _ h => List.mem_cons_of_mem _ (List.mem_append_right _ h)) (by decide +kernel))
set_option maxRecDepth 20000 in
theorem gL_kept_L_call : GoodIn wsL_kept (va_wsS RL 97 yL_call wsL_call) := goodIn_app (goodIn_of _ (by decide +kernel)) ggL_kept_L_call
set_option maxRecDepth 20000 in
theorem ggL_kept_X2_owes : GoodIn wsL_kept wsX2_owes := goodIn_ca (goodIn_r _ [196, 64, 65, 66, 4, 67, 68, 69, 6, 27, 31, 32, 33, 213, 214, 215, 216, 217, 218, 219, 220, 221, 222, 223, 224, 205, 206, 207, 208, 209, 210, 211, 212] (by decide +kernel) (by decide +kernel)) (goodIn_sub (fun _ h => List.mem_cons_of_mem _ (List.mem_append_right _ h)) (by decide +kernel))
set_option maxRecDepth 20000 in
theorem gL_kept_X2_owes : GoodIn wsL_kept (wsV RL 71 RX2 yX2_owes wsX2_owes) := goodIn_app (goodIn_of _ (by decide +kernel)) ggL_kept_X2_owes
set_option maxRecDepth 20000 in
theorem ggL_kept_X2_paid : GoodIn wsL_kept wsX2_paid := goodIn_ca (goodIn_ca (goodIn_r _ [158, 64, 65, 66, 4, 67, 68, 69, 6, 27, 31, 32, 33, 159, 160, 161, 162, 11, 34, 35, 36, 37, 38, 213, 214, 215, 216, 217, 218, 219, 220, 221, 222, 223, 224, 205, 206, 207, 208, 209, 210, 211, 212] (by decide +kernel) (by decide +kernel)) (goodIn_sub (fun _ h => List.mem_cons_of_mem _ (List.mem_append_right _ h)) (by decide +kernel))) (goodIn_sub (fun _ h => List.mem_cons_of_mem _ (List.mem_append_left _ (List.mem_append_left _ (List.mem_append_right _ h)))) (by decide +kernel))
set_option maxRecDepth 20000 in
theorem gL_kept_X2_paid : GoodIn wsL_kept (wsV RL 51 RX2 yX2_paid wsX2_paid) := goodIn_app (goodIn_of _ (by decide +kernel)) ggL_kept_X2_paid
set_option maxRecDepth 20000 in
theorem ggL_kept_X2_madeUp : GoodIn wsL_kept wsX2_madeUp := goodIn_ca (goodIn_ca (goodIn_r _ [166, 64, 65, 66, 4, 67, 68, 69, 6, 27, 31, 32, 33, 159, 160, 161, 162, 11, 34, 35, 36, 37, 38, 213, 214, 215, 216, 217, 218, 219, 220, 221, 222, 223, 224, 205, 206, 207, 208, 209, 210, 211, 212] (by decide +kernel) (by decide +kernel)) (goodIn_sub (fun _ h => List.mem_cons_of_mem _ (List.mem_append_right _ h)) (by decide +kernel))) (goodIn_sub (fun _ h => List.mem_cons_of_mem _ (List.mem_append_left _ (List.mem_append_left _ (List.mem_append_right _ h)))) (by decide +kernel))
set_option maxRecDepth 20000 in
theorem gL_kept_X2_madeUp : GoodIn wsL_kept (wsV RL 54 RX2 yX2_madeUp wsX2_madeUp) := goodIn_app (goodIn_of _ (by decide +kernel)) ggL_kept_X2_madeUp
set_option maxRecDepth 20000 in
theorem ggL_kept_X2_cut : GoodIn wsL_kept wsX2_cut := goodIn_ca (goodIn_ca (goodIn_r _ [119, 64, 65, 66, 4, 67, 68, 69, 6, 27, 31, 32, 33, 34, 35, 36, 37, 38, 213, 214, 215, 216, 217, 218, 219, 220, 221, 222, 223, 224, 205, 206, 207, 208, 209, 210, 211, 212] (by decide +kernel) (by decide +kernel)) (goodIn_sub (fun _ h => List.mem_cons_of_mem _ (List.mem_append_right _ h)) (by decide +kernel))) (goodIn_sub (fun _ h => List.mem_cons_of_mem _ (List.mem_append_left _ (List.mem_append_left _ (List.mem_append_right _ h)))) (by decide +kernel))
set_option maxRecDepth 20000 in
theorem gL_kept_X2_cut : GoodIn wsL_kept (wsV RL 41 RX2 yX2_cut wsX2_cut) := goodIn_app (goodIn_of _ (by decide +kernel)) ggL_kept_X2_cut
set_option maxRecDepth 20000 in
theorem ggL_kept_X2_net : GoodIn wsL_kept wsX2_net := goodIn_ca (goodIn_r _ [200, 64, 65, 66, 4, 67, 68, 69, 6, 27, 31, 32, 33, 213, 214, 215, 216, 217, 218, 219, 220, 221, 222, 223, 224, 205, 206, 207, 208, 209, 210, 211, 212] (by decide +kernel) (by decide +kernel)) (goodIn_sub (fun _ h => List.mem_cons_of_mem _ (List.mem_append_right _ h)) (by decide +kernel))
set_option maxRecDepth 20000 in
theorem gL_kept_X2_net : GoodIn wsL_kept (wsV RL 74 RX2 yX2_net wsX2_net) := goodIn_app (goodIn_of _ (by decide +kernel)) ggL_kept_X2_net
set_option maxRecDepth 20000 in
theorem ggL_kept_X2_cutWeeks : GoodIn wsL_kept wsX2_cutWeeks := goodIn_ca (goodIn_r _ [170, 64, 65, 66, 4, 67, 68, 69, 6, 27, 31, 32, 33, 213, 214, 215, 216, 217, 218, 219, 220, 221, 222, 223, 224, 205, 206, 207, 208, 209, 210, 211, 212] (by decide +kernel) (by decide +kernel)) (goodIn_sub (fun _ h => List.mem_cons_of_mem _ (List.mem_append_right _ h)) (by decide +kernel))
set_option maxRecDepth 20000 in
theorem gL_kept_X2_cutWeeks : GoodIn wsL_kept (wsV RL 57 RX2 yX2_cutWeeks wsX2_cutWeeks) := goodIn_app (goodIn_of _ (by decide +kernel)) ggL_kept_X2_cutWeeks
set_option maxRecDepth 20000 in
theorem ggL_kept_X2_firmOwes : GoodIn wsL_kept wsX2_firmOwes := goodIn_r _ [204, 192, 205, 206, 207, 208, 209, 210, 211, 212] (by decide +kernel) (by decide +kernel)
set_option maxRecDepth 20000 in
theorem gL_kept_X2_firmOwes : GoodIn wsL_kept (wsV RL 88 RX2 yX2_firmOwes wsX2_firmOwes) := goodIn_app (goodIn_of _ (by decide +kernel)) ggL_kept_X2_firmOwes
set_option maxRecDepth 20000 in
theorem ggL_notices_X2_workers : GoodIn wsL_notices wsX2_workers := goodIn_r _ [5, 6, 216, 217, 218, 219, 220, 221, 222, 223] (by decide +kernel) (by decide +kernel)
set_option maxRecDepth 20000 in
theorem gL_notices_X2_workers : GoodIn wsL_notices (wsV RL 77 RX2 yX2_workers wsX2_workers) := goodIn_app (goodIn_of _ (by decide +kernel)) ggL_notices_X2_workers
set_option maxRecDepth 20000 in
theorem ggL_notices_X2_week : GoodIn wsL_notices wsX2_week := goodIn_r _ [10, 11, 216, 217, 218, 219, 220, 221, 222, 223] (by decide +kernel) (by decide +kernel)
set_option maxRecDepth 20000 in
theorem gL_notices_X2_week : GoodIn wsL_notices (wsV RL 83 RX2 yX2_week wsX2_week) := goodIn_app (goodIn_of _ (by decide +kernel)) ggL_notices_X2_week
set_option maxRecDepth 20000 in
theorem ggL_notices_L_some : GoodIn wsL_notices wsL_some := goodIn_r _ [15] (by decide +kernel) (by decide +kernel)
set_option maxRecDepth 20000 in
theorem gL_notices_L_some : GoodIn wsL_notices (va_wsS RL 100 yL_some wsL_some) := goodIn_app (goodIn_of _ (by decide +kernel)) ggL_notices_L_some
set_option maxRecDepth 20000 in
theorem ggL_notices_L_all : GoodIn wsL_notices wsL_all := goodIn_ca (goodIn_ca (goodIn_r _ [18, 19, 20, 21, 22, 23, 1, 2, 3, 4, 5, 6, 7, 8, 9, 10, 11, 24, 25, 26, 27, 28, 29, 30, 31, 32, 33, 34, 35, 36, 37, 38, 39, 40, 41, 42, 43, 44, 45, 46, 47, 48, 49, 50, 51, 52, 53, 54, 55, 56, 57, 58, 59, 60, 61, 62, 63, 64, 65, 66, 67, 68, 69, 70, 216, 217, 218, 219, 220, 221, 222, 223, 224, 225, 226, 227, 228, 229, 230, 231, 232, 233, 234, 235] (by decide +kernel) (by decide +kernel)) (goodIn_sub (fun _ h => List.mem_cons_of_mem _ (List.mem_append_left _ (List.mem_append_left _ (List.mem_append_right _ h)))) (by decide +kernel))) (goodIn_sub (fun _ h => List.mem_cons_of_mem _ (List.mem_append_left _ (List.mem_append_right _ h))) (by decide +kernel))
set_option maxRecDepth 20000 in
theorem gL_notices_L_all : GoodIn wsL_notices (va_wsS RL 103 yL_all wsL_all) := goodIn_app (goodIn_of _ (by decide +kernel)) ggL_notices_L_all
set_option maxRecDepth 20000 in
theorem ggL_notices_X2_cut : GoodIn wsL_notices wsX2_cut := goodIn_ca (goodIn_ca (goodIn_r _ [54, 33, 34, 35, 4, 36, 37, 38, 6, 39, 40, 41, 42, 55, 56, 57, 58, 59, 224, 225, 226, 227, 228, 229, 230, 231, 232, 233, 234, 235, 216, 217, 218, 219, 220, 221, 222, 223] (by decide +kernel) (by decide +kernel)) (goodIn_sub (fun _ h => List.mem_cons_of_mem _ (List.mem_append_left _ (List.mem_append_left _ (List.mem_append_right _ h)))) (by decide +kernel))) (goodIn_sub (fun _ h => List.mem_cons_of_mem _ (List.mem_append_left _ (List.mem_append_right _ h))) (by decide +kernel))
set_option maxRecDepth 20000 in
theorem gL_notices_X2_cut : GoodIn wsL_notices (wsV RL 41 RX2 yX2_cut wsX2_cut) := goodIn_app (goodIn_of _ (by decide +kernel)) ggL_notices_X2_cut
set_option maxRecDepth 20000 in
theorem ggL_notices_L_call : GoodIn wsL_notices wsL_call := goodIn_ca (goodIn_ca (goodIn_ca (goodIn_r _ [73, 74, 75, 76, 77, 78, 14, 79, 80, 81, 82, 4, 83, 84, 6, 39, 85, 86, 67, 40, 41, 42, 55, 56, 57, 58, 59, 87, 88, 89, 90, 91, 92, 93, 94, 95, 96, 97, 98, 99, 100, 70, 69, 101, 102, 103, 104, 105, 106, 107, 108, 109, 11, 33, 34, 35, 36, 37, 38, 110, 111, 112, 113, 114, 115, 116, 117, 118, 119, 120, 121, 122, 123, 124, 125, 126, 127, 128, 129, 130, 131, 132, 133, 134, 135, 136, 137, 138, 139, 140, 141, 142, 143, 144, 145, 146, 147, 148, 149, 150, 151, 152, 153, 154, 155, 51, 52, 53, 54, 60, 61, 62, 63, 64, 65, 66, 68, 156, 157, 158, 159, 160, 161, 162, 163, 164, 165, 166, 167, 168, 169, 170, 171, 172, 173, 174, 175, 176, 177, 178, 179, 180, 181, 182, 183, 184, 185, 186, 187, 188, 189, 190, 191, 192, 193, 194, 29, 30, 31, 32, 195, 196, 197, 198, 199, 200, 201, 202, 203, 204, 205, 206, 207, 208, 209, 210, 211, 212, 213, 214, 215, 28, 43, 44, 45, 46, 47, 48, 49, 50, 216, 217, 218, 219, 220, 221, 222, 223, 224, 225, 226, 227, 228, 229, 230, 231, 232, 233, 234, 235, 236, 237, 238, 239] (by decide +kernel) (by decide +kernel)) (goodIn_sub (fun _ h => List.mem_cons_of_mem _ (List.mem_append_left _ (List.mem_append_right _ h))) (by decide +kernel))) (goodIn_sub (fun _ h => List.mem_cons_of_mem _ (List.mem_append_right _ h)) (by decide +kernel))) (goodIn_sub (fun _ h => List.mem_cons_of_mem _ (List.mem_append_left _ (List.mem_append_left _ (List.mem_append_right _ h)))) (by decide +kernel))
set_option maxRecDepth 20000 in
theorem gL_notices_L_call : GoodIn wsL_notices (va_wsS RL 97 yL_call wsL_call) := goodIn_app (goodIn_of _ (by decide +kernel)) ggL_notices_L_call
end
section
set_option maxRecDepth 20000 in
theorem ggL_courses_L_all : GoodIn wsL_courses wsL_all := goodIn_ca (goodIn_ca (goodIn_r _ [4, 5, 6, 7, 8, 9, 10, 11, 12, 13, 14, 15, 16, 17, 18, 19, 20, 21, 22, 23, 24, 25, 26, 27, 28, 29, 30, 31, 32, 33, 34, 35, 36, 37, 38, 39, 40, 41, 42, 43, 44, 45, 46, 47, 48, 49, 50, 51, 52, 53, 54, 55, 56, 57, 58, 59, 60, 61, 62, 63, 64, 65, 66, 67, 216, 217, 218, 219, 220, 221, 222, 223, 224, 225, 226, 227, 228, 229, 230, 231, 232, 233, 234, 235] (by decide +kernel) (by decide +kernel)) (goodIn_sub (fun _ h => List.mem_cons_of_mem _ (List.mem_append_left _ (List.mem_append_left _ (List.mem_append_right _ h)))) (by decide +kernel))) (goodIn_sub (fun _ h => List.mem_cons_of_mem _ (List.mem_append_left _ (List.mem_append_right _ h))) (by decide +kernel))
set_option maxRecDepth 20000 in
theorem gL_courses_L_all : GoodIn wsL_courses (va_wsS RL 103 yL_all wsL_all) := goodIn_app (goodIn_of _ (by decide +kernel)) ggL_courses_L_all
set_option maxRecDepth 20000 in
theorem ggL_courses_X2_workers : GoodIn wsL_courses wsX2_workers := goodIn_r _ [14, 15, 216, 217, 218, 219, 220, 221, 222, 223] (by decide +kernel) (by decide +kernel)
set_option maxRecDepth 20000 in
theorem gL_courses_X2_workers : GoodIn wsL_courses (wsV RL 77 RX2 yX2_workers wsX2_workers) := goodIn_app (goodIn_of _ (by decide +kernel)) ggL_courses_X2_workers
set_option maxRecDepth 20000 in
theorem ggL_courses_L_some : GoodIn wsL_courses wsL_some := goodIn_r _ [70] (by decide +kernel) (by decide +kernel)
set_option maxRecDepth 20000 in
theorem gL_courses_L_some : GoodIn wsL_courses (va_wsS RL 100 yL_some wsL_some) := goodIn_app (goodIn_of _ (by decide +kernel)) ggL_courses_L_some
set_option maxRecDepth 20000 in
theorem ggL_courses_L_call : GoodIn wsL_courses wsL_call := goodIn_ca (goodIn_ca (goodIn_ca (goodIn_r _ [73, 74, 75, 76, 77, 78, 3, 79, 80, 81, 82, 13, 83, 84, 15, 36, 85, 86, 64, 37, 38, 39, 52, 53, 54, 55, 56, 87, 88, 89, 90, 91, 92, 93, 94, 95, 96, 97, 98, 99, 100, 67, 66, 101, 102, 103, 104, 105, 106, 107, 108, 109, 20, 30, 31, 32, 33, 34, 35, 110, 111, 112, 113, 114, 115, 116, 117, 118, 119, 120, 121, 122, 123, 124, 125, 126, 127, 128, 129, 130, 131, 132, 133, 134, 135, 136, 137, 138, 139, 140, 141, 142, 143, 144, 145, 146, 147, 148, 149, 150, 151, 152, 153, 154, 155, 48, 49, 50, 51, 57, 58, 59, 60, 61, 62, 63, 65, 156, 157, 158, 159, 160, 161, 162, 163, 164, 165, 166, 167, 168, 169, 170, 171, 172, 173, 174, 175, 176, 177, 178, 179, 180, 181, 182, 183, 184, 185, 186, 187, 188, 189, 190, 191, 192, 193, 194, 26, 27, 28, 29, 195, 196, 197, 198, 199, 200, 201, 202, 203, 204, 205, 206, 207, 208, 209, 210, 211, 212, 213, 214, 215, 25, 40, 41, 42, 43, 44, 45, 46, 47, 216, 217, 218, 219, 220, 221, 222, 223, 224, 225, 226, 227, 228, 229, 230, 231, 232, 233, 234, 235, 236, 237, 238, 239] (by decide +kernel) (by decide +kernel)) (goodIn_sub (fun _ h => List.mem_cons_of_mem _ (List.mem_append_left _ (List.mem_append_right _ h))) (by decide +kernel))) (goodIn_sub (fun _ h => List.mem_cons_of_mem _ (List.mem_append_right _ h)) (by decide +kernel))) (goodIn_sub (fun _ h => List.mem_cons_of_mem _ (List.mem_append_left _ (List.mem_append_left _ (List.mem_append_right _ h)))) (by decide +kernel))
set_option maxRecDepth 20000 in
theorem gL_courses_L_call : GoodIn wsL_courses (va_wsS RL 97 yL_call wsL_call) := goodIn_app (goodIn_of _ (by decide +kernel)) ggL_courses_L_call
set_option maxRecDepth 20000 in
theorem ggL_passes_X2_week : GoodIn wsL_passes wsX2_week := goodIn_r _ [5, 6, 201, 202, 203, 204, 205, 206, 207, 208] (by decide +kernel) (by decide +kernel)
set_option maxRecDepth 20000 in
theorem gL_passes_X2_week : GoodIn wsL_passes (wsV RL 83 RX2 yX2_week wsX2_week) := goodIn_app (goodIn_of _ (by decide +kernel)) ggL_passes_X2_week
set_option maxRecDepth 20000 in
theorem ggL_passes_L_call : GoodIn wsL_passes wsL_call := goodIn_ca (goodIn_ca (goodIn_ca (goodIn_r _ [10, 11, 12, 13, 14, 15, 9, 16, 17, 18, 19, 4, 20, 21, 22, 23, 24, 25, 26, 27, 28, 29, 30, 31, 32, 33, 34, 35, 36, 37, 38, 39, 40, 41, 42, 43, 44, 45, 46, 47, 48, 49, 50, 51, 52, 53, 54, 55, 56, 57, 58, 59, 6, 60, 61, 62, 63, 64, 65, 66, 67, 68, 69, 70, 71, 72, 73, 74, 75, 76, 77, 78, 79, 80, 81, 82, 83, 84, 85, 86, 87, 88, 89, 90, 91, 92, 93, 94, 95, 96, 97, 98, 99, 100, 101, 102, 103, 104, 105, 106, 107, 108, 109, 110, 111, 112, 113, 114, 115, 116, 117, 118, 119, 120, 121, 122, 123, 124, 125, 126, 127, 128, 129, 130, 131, 132, 133, 134, 135, 136, 137, 138, 139, 140, 141, 142, 143, 144, 145, 146, 147, 148, 149, 150, 151, 152, 153, 154, 155, 156, 157, 158, 159, 160, 161, 162, 163, 164, 165, 166, 167, 168, 169, 170, 171, 172, 173, 174, 175, 176, 177, 178, 179, 180, 181, 182, 183, 184, 185, 186, 187, 188, 189, 190, 191, 192, 193, 194, 195, 196, 201, 202, 203, 204, 205, 206, 207, 208, 209, 210, 211, 212, 213, 214, 215, 216, 217, 218, 219, 220, 221, 222, 223, 224] (by decide +kernel) (by decide +kernel)) (goodIn_sub (fun _ h => List.mem_cons_of_mem _ (List.mem_append_left _ (List.mem_append_left _ (List.mem_append_right _ h)))) (by decide +kernel))) (goodIn_sub (fun _ h => List.mem_cons_of_mem _ (List.mem_append_left _ (List.mem_append_right _ h))) (by decide +kernel))) (goodIn_sub (fun _ h => List.mem_cons_of_mem _ (List.mem_append_right _ h)) (by decide +kernel))
set_option maxRecDepth 20000 in
theorem gL_passes_L_call : GoodIn wsL_passes (va_wsS RL 97 yL_call wsL_call) := goodIn_app (goodIn_of _ (by decide +kernel)) ggL_passes_L_call
set_option maxRecDepth 20000 in
theorem ggL_passes_X2_workers : GoodIn wsL_passes wsX2_workers := goodIn_r _ [200, 22, 201, 202, 203, 204, 205, 206, 207, 208] (by decide +kernel) (by decide +kernel)
set_option maxRecDepth 20000 in
theorem gL_passes_X2_workers : GoodIn wsL_passes (wsV RL 77 RX2 yX2_workers wsX2_workers) := goodIn_app (goodIn_of _ (by decide +kernel)) ggL_passes_X2_workers
set_option maxRecDepth 20000 in
theorem ggL_passes_X2_net : GoodIn wsL_passes wsX2_net := goodIn_ca (goodIn_r _ [196, 60, 61, 62, 4, 63, 64, 65, 22, 23, 27, 28, 29, 209, 210, 211, 212, 213, 214, 215, 216, 217, 218, 219, 220, 201, 202, 203, 204, 205, 206, 207, 208] (by decide +kernel) (by decide +kernel)) (goodIn_sub (fun _ h => List.mem_cons_of_mem _ (List.mem_append_right _ h)) (by decide +kernel))
set_option maxRecDepth 20000 in
theorem gL_passes_X2_net : GoodIn wsL_passes (wsV RL 74 RX2 yX2_net wsX2_net) := goodIn_app (goodIn_of _ (by decide +kernel)) ggL_passes_X2_net
set_option maxRecDepth 20000 in
theorem ggL_passes_X2_cutWeeks : GoodIn wsL_passes wsX2_cutWeeks := goodIn_ca (goodIn_r _ [166, 60, 61, 62, 4, 63, 64, 65, 22, 23, 27, 28, 29, 209, 210, 211, 212, 213, 214, 215, 216, 217, 218, 219, 220, 201, 202, 203, 204, 205, 206, 207, 208] (by decide +kernel) (by decide +kernel)) (goodIn_sub (fun _ h => List.mem_cons_of_mem _ (List.mem_append_right _ h)) (by decide +kernel))
set_option maxRecDepth 20000 in
theorem gL_passes_X2_cutWeeks : GoodIn wsL_passes (wsV RL 57 RX2 yX2_cutWeeks wsX2_cutWeeks) := goodIn_app (goodIn_of _ (by decide +kernel)) ggL_passes_X2_cutWeeks
set_option maxRecDepth 20000 in
theorem ggL_passes_X2_cut : GoodIn wsL_passes wsX2_cut := goodIn_ca (goodIn_ca (goodIn_r _ [115, 60, 61, 62, 4, 63, 64, 65, 22, 23, 27, 28, 29, 30, 31, 32, 33, 34, 209, 210, 211, 212, 213, 214, 215, 216, 217, 218, 219, 220, 201, 202, 203, 204, 205, 206, 207, 208] (by decide +kernel) (by decide +kernel)) (goodIn_sub (fun _ h => List.mem_cons_of_mem _ (List.mem_append_right _ h)) (by decide +kernel))) (goodIn_sub (fun _ h => List.mem_cons_of_mem _ (List.mem_append_left _ (List.mem_append_left _ (List.mem_append_right _ h)))) (by decide +kernel))
set_option maxRecDepth 20000 in
theorem gL_passes_X2_cut : GoodIn wsL_passes (wsV RL 41 RX2 yX2_cut wsX2_cut) := goodIn_app (goodIn_of _ (by decide +kernel)) ggL_passes_X2_cut
set_option maxRecDepth 20000 in
theorem ggL_passes_X2_pass : GoodIn wsL_passes wsX2_pass := goodIn_ca (goodIn_ca (goodIn_r _ [127, 6, 27, 28, 4, 29, 30, 31, 32, 33, 34, 35, 36, 37, 38, 39, 128, 129, 130, 131, 23, 111, 132, 133, 134, 26, 135, 46, 49, 136, 137, 138, 139, 51, 52, 140, 141, 142, 143, 144, 145, 47, 146, 147, 148, 149, 150, 121, 122, 123, 50, 201, 202, 203, 204, 205, 206, 207, 208, 209, 210, 211, 212, 213, 214, 215, 216, 217, 218, 219, 220] (by decide +kernel) (by decide +kernel)) (goodIn_sub (fun _ h => List.mem_cons_of_mem _ (List.mem_append_left _ (List.mem_append_left _ (List.mem_append_right _ h)))) (by decide +kernel))) (goodIn_sub (fun _ h => List.mem_cons_of_mem _ (List.mem_append_left _ (List.mem_append_right _ h))) (by decide +kernel))
set_option maxRecDepth 20000 in
theorem gL_passes_X2_pass : GoodIn wsL_passes (wsV RL 48 RX2 yX2_pass wsX2_pass) := goodIn_app (goodIn_of _ (by decide +kernel)) ggL_passes_X2_pass
set_option maxRecDepth 20000 in
theorem ggL_passes_X2_paid : GoodIn wsL_passes wsX2_paid := goodIn_ca (goodIn_ca (goodIn_r _ [154, 60, 61, 62, 4, 63, 64, 65, 22, 23, 27, 28, 29, 155, 156, 157, 158, 6, 30, 31, 32, 33, 34, 209, 210, 211, 212, 213, 214, 215, 216, 217, 218, 219, 220, 201, 202, 203, 204, 205, 206, 207, 208] (by decide +kernel) (by decide +kernel)) (goodIn_sub (fun _ h => List.mem_cons_of_mem _ (List.mem_append_right _ h)) (by decide +kernel))) (goodIn_sub (fun _ h => List.mem_cons_of_mem _ (List.mem_append_left _ (List.mem_append_left _ (List.mem_append_right _ h)))) (by decide +kernel))
set_option maxRecDepth 20000 in
theorem gL_passes_X2_paid : GoodIn wsL_passes (wsV RL 51 RX2 yX2_paid wsX2_paid) := goodIn_app (goodIn_of _ (by decide +kernel)) ggL_passes_X2_paid
set_option maxRecDepth 20000 in
theorem ggL_passes_X2_madeUp : GoodIn wsL_passes wsX2_madeUp := goodIn_ca (goodIn_ca (goodIn_r _ [162, 60, 61, 62, 4, 63, 64, 65, 22, 23, 27, 28, 29, 155, 156, 157, 158, 6, 30, 31, 32, 33, 34, 209, 210, 211, 212, 213, 214, 215, 216, 217, 218, 219, 220, 201, 202, 203, 204, 205, 206, 207, 208] (by decide +kernel) (by decide +kernel)) (goodIn_sub (fun _ h => List.mem_cons_of_mem _ (List.mem_append_right _ h)) (by decide +kernel))) (goodIn_sub (fun _ h => List.mem_cons_of_mem _ (List.mem_append_left _ (List.mem_append_left _ (List.mem_append_right _ h)))) (by decide +kernel))
set_option maxRecDepth 20000 in
theorem gL_passes_X2_madeUp : GoodIn wsL_passes (wsV RL 54 RX2 yX2_madeUp wsX2_madeUp) := goodIn_app (goodIn_of _ (by decide +kernel)) ggL_passes_X2_madeUp
end
section
set_option maxRecDepth 20000 in
theorem ggL_checks_X2_workers : GoodIn wsL_checks wsX2_workers := goodIn_r _ [5, 6, 216, 217, 218, 219, 220, 221, 222, 223] (by decide +kernel) (by decide +kernel)
set_option maxRecDepth 20000 in
theorem gL_checks_X2_workers : GoodIn wsL_checks (wsV RL 77 RX2 yX2_workers wsX2_workers) := goodIn_app (goodIn_of _ (by decide +kernel)) ggL_checks_X2_workers
set_option maxRecDepth 20000 in
theorem ggL_checks_X2_week : GoodIn wsL_checks wsX2_week := goodIn_r _ [10, 11, 216, 217, 218, 219, 220, 221, 222, 223] (by decide +kernel) (by decide +kernel)
set_option maxRecDepth 20000 in
theorem gL_checks_X2_week : GoodIn wsL_checks (wsV RL 83 RX2 yX2_week wsX2_week) := goodIn_app (goodIn_of _ (by decide +kernel)) ggL_checks_X2_week
set_option maxRecDepth 20000 in
theorem ggL_checks_L_some : GoodIn wsL_checks wsL_some := goodIn_r _ [15] (by decide +kernel) (by decide +kernel)
set_option maxRecDepth 20000 in
theorem gL_checks_L_some : GoodIn wsL_checks (va_wsS RL 100 yL_some wsL_some) := goodIn_app (goodIn_of _ (by decide +kernel)) ggL_checks_L_some
set_option maxRecDepth 20000 in
theorem ggL_checks_L_all : GoodIn wsL_checks wsL_all := goodIn_ca (goodIn_ca (goodIn_r _ [18, 19, 20, 21, 22, 23, 1, 2, 3, 4, 5, 6, 7, 8, 9, 10, 11, 24, 25, 26, 27, 28, 29, 30, 31, 32, 33, 34, 35, 36, 37, 38, 39, 40, 41, 42, 43, 44, 45, 46, 47, 48, 49, 50, 51, 52, 53, 54, 55, 56, 57, 58, 59, 60, 61, 62, 63, 64, 65, 66, 67, 68, 69, 70, 216, 217, 218, 219, 220, 221, 222, 223, 224, 225, 226, 227, 228, 229, 230, 231, 232, 233, 234, 235] (by decide +kernel) (by decide +kernel)) (goodIn_sub (fun _ h => List.mem_cons_of_mem _ (List.mem_append_left _ (List.mem_append_left _ (List.mem_append_right _ h)))) (by decide +kernel))) (goodIn_sub (fun _ h => List.mem_cons_of_mem _ (List.mem_append_left _ (List.mem_append_right _ h))) (by decide +kernel))
set_option maxRecDepth 20000 in
theorem gL_checks_L_all : GoodIn wsL_checks (va_wsS RL 103 yL_all wsL_all) := goodIn_app (goodIn_of _ (by decide +kernel)) ggL_checks_L_all
set_option maxRecDepth 20000 in
theorem ggL_checks_L_call : GoodIn wsL_checks wsL_call := goodIn_ca (goodIn_ca (goodIn_ca (goodIn_r _ [73, 74, 75, 76, 77, 78, 14, 79, 80, 81, 82, 4, 83, 84, 6, 39, 85, 86, 67, 40, 41, 42, 55, 56, 57, 58, 59, 87, 88, 89, 90, 91, 92, 93, 94, 95, 96, 97, 98, 99, 100, 70, 69, 101, 102, 103, 104, 105, 106, 107, 108, 109, 11, 33, 34, 35, 36, 37, 38, 110, 111, 112, 113, 114, 115, 116, 117, 118, 119, 120, 121, 122, 123, 124, 125, 126, 127, 128, 129, 130, 131, 132, 133, 134, 135, 136, 137, 138, 139, 140, 141, 142, 143, 144, 145, 146, 147, 148, 149, 150, 151, 152, 153, 154, 155, 51, 52, 53, 54, 60, 61, 62, 63, 64, 65, 66, 68, 156, 157, 158, 159, 160, 161, 162, 163, 164, 165, 166, 167, 168, 169, 170, 171, 172, 173, 174, 175, 176, 177, 178, 179, 180, 181, 182, 183, 184, 185, 186, 187, 188, 189, 190, 191, 192, 193, 194, 29, 30, 31, 32, 195, 196, 197, 198, 199, 200, 201, 202, 203, 204, 205, 206, 207, 208, 209, 210, 211, 212, 213, 214, 215, 28, 43, 44, 45, 46, 47, 48, 49, 50, 216, 217, 218, 219, 220, 221, 222, 223, 224, 225, 226, 227, 228, 229, 230, 231, 232, 233, 234, 235, 236, 237, 238, 239] (by decide +kernel) (by decide +kernel)) (goodIn_sub (fun _ h => List.mem_cons_of_mem _ (List.mem_append_left _ (List.mem_append_right _ h))) (by decide +kernel))) (goodIn_sub (fun _ h => List.mem_cons_of_mem _ (List.mem_append_right _ h)) (by decide +kernel))) (goodIn_sub (fun _ h => List.mem_cons_of_mem _ (List.mem_append_left _ (List.mem_append_left _ (List.mem_append_right _ h)))) (by decide +kernel))
set_option maxRecDepth 20000 in
theorem gL_checks_L_call : GoodIn wsL_checks (va_wsS RL 97 yL_call wsL_call) := goodIn_app (goodIn_of _ (by decide +kernel)) ggL_checks_L_call
set_option maxRecDepth 20000 in
theorem ggL_checks_X2_firmOwes : GoodIn wsL_checks wsX2_firmOwes := goodIn_r _ [27, 28, 216, 217, 218, 219, 220, 221, 222, 223] (by decide +kernel) (by decide +kernel)
set_option maxRecDepth 20000 in
theorem gL_checks_X2_firmOwes : GoodIn wsL_checks (wsV RL 88 RX2 yX2_firmOwes wsX2_firmOwes) := goodIn_app (goodIn_of _ (by decide +kernel)) ggL_checks_X2_firmOwes
set_option maxRecDepth 20000 in
theorem ggL_checks_X2_owes : GoodIn wsL_checks wsX2_owes := goodIn_ca (goodIn_r _ [46, 33, 34, 35, 4, 36, 37, 38, 6, 39, 40, 41, 42, 224, 225, 226, 227, 228, 229, 230, 231, 232, 233, 234, 235, 216, 217, 218, 219, 220, 221, 222, 223] (by decide +kernel) (by decide +kernel)) (goodIn_sub (fun _ h => List.mem_cons_of_mem _ (List.mem_append_left _ (List.mem_append_left _ (List.mem_append_right _ h)))) (by decide +kernel))
set_option maxRecDepth 20000 in
theorem gL_checks_X2_owes : GoodIn wsL_checks (wsV RL 71 RX2 yX2_owes wsX2_owes) := goodIn_app (goodIn_of _ (by decide +kernel)) ggL_checks_X2_owes
set_option maxRecDepth 20000 in
theorem ggL_checks_X2_madeUp : GoodIn wsL_checks wsX2_madeUp := goodIn_ca (goodIn_ca (goodIn_r _ [194, 33, 34, 35, 4, 36, 37, 38, 6, 39, 40, 41, 42, 187, 188, 189, 190, 11, 55, 56, 57, 58, 59, 224, 225, 226, 227, 228, 229, 230, 231, 232, 233, 234, 235, 216, 217, 218, 219, 220, 221, 222, 223] (by decide +kernel) (by decide +kernel)) (goodIn_sub (fun _ h => List.mem_cons_of_mem _ (List.mem_append_left _ (List.mem_append_left _ (List.mem_append_right _ h)))) (by decide +kernel))) (goodIn_sub (fun _ h => List.mem_cons_of_mem _ (List.mem_append_left _ (List.mem_append_right _ h))) (by decide +kernel))
set_option maxRecDepth 20000 in
theorem gL_checks_X2_madeUp : GoodIn wsL_checks (wsV RL 54 RX2 yX2_madeUp wsX2_madeUp) := goodIn_app (goodIn_of _ (by decide +kernel)) ggL_checks_X2_madeUp
set_option maxRecDepth 20000 in
theorem ggL_checks_X2_cut : GoodIn wsL_checks wsX2_cut := goodIn_ca (goodIn_ca (goodIn_r _ [54, 33, 34, 35, 4, 36, 37, 38, 6, 39, 40, 41, 42, 55, 56, 57, 58, 59, 224, 225, 226, 227, 228, 229, 230, 231, 232, 233, 234, 235, 216, 217, 218, 219, 220, 221, 222, 223] (by decide +kernel) (by decide +kernel)) (goodIn_sub (fun _ h => List.mem_cons_of_mem _ (List.mem_append_left _ (List.mem_append_left _ (List.mem_append_right _ h)))) (by decide +kernel))) (goodIn_sub (fun _ h => List.mem_cons_of_mem _ (List.mem_append_left _ (List.mem_append_right _ h))) (by decide +kernel))
set_option maxRecDepth 20000 in
theorem gL_checks_X2_cut : GoodIn wsL_checks (wsV RL 41 RX2 yX2_cut wsX2_cut) := goodIn_app (goodIn_of _ (by decide +kernel)) ggL_checks_X2_cut
end
section
set_option maxRecDepth 20000 in
theorem ggL_law_X2_init : GoodIn wsL_law wsX2_init := goodIn_r _ [8, 9, 10, 11, 12, 13, 14, 15, 16, 17, 18, 242, 243, 244, 245, 246, 247, 248, 249] (by decide +kernel) (by decide +kernel)
set_option maxRecDepth 20000 in
theorem gL_law_X2_init : GoodIn wsL_law (wsX2_init) := ggL_law_X2_init
set_option maxRecDepth 20000 in
theorem ggL_law_L_all : GoodIn wsL_law wsL_all := goodIn_ca (goodIn_ca (goodIn_r _ [22, 23, 24, 25, 26, 27, 28, 29, 30, 2, 31, 32, 33, 34, 35, 36, 37, 38, 39, 40, 41, 42, 43, 44, 45, 46, 47, 48, 49, 50, 51, 52, 13, 53, 54, 55, 56, 57, 58, 59, 60, 61, 62, 63, 64, 65, 66, 67, 68, 69, 70, 71, 72, 73, 74, 75, 76, 77, 78, 79, 80, 81, 82, 83, 242, 243, 244, 245, 246, 247, 248, 249, 250, 251, 252, 253, 254, 255, 256, 257, 258, 259, 260, 261] (by decide +kernel) (by decide +kernel)) (goodIn_sub (fun _ h => List.mem_append_left _ (List.mem_append_left _ (List.mem_append_right _ h))) (by decide +kernel))) (goodIn_sub (fun _ h => List.mem_append_left _ (List.mem_append_right _ h)) (by decide +kernel))
set_option maxRecDepth 20000 in
theorem gL_law_L_all : GoodIn wsL_law (va_wsS RL 103 yL_all wsL_all) := goodIn_app (goodIn_of _ (by decide +kernel)) ggL_law_L_all
set_option maxRecDepth 20000 in
theorem ggL_law_L_kept : GoodIn wsL_law wsL_kept := goodIn_ca (goodIn_ca (goodIn_ca (goodIn_r _ [86, 28, 29, 30, 2, 31, 32, 33, 34, 35, 36, 37, 87, 88, 21, 89, 90, 91, 92, 93, 94, 95, 96, 97, 98, 99, 100, 13, 12, 101, 80, 53, 54, 55, 68, 69, 70, 71, 72, 102, 103, 104, 105, 106, 107, 108, 109, 110, 10, 11, 111, 112, 3, 83, 82, 113, 114, 115, 16, 116, 117, 118, 119, 120, 47, 48, 49, 50, 51, 52, 121, 122, 123, 124, 125, 126, 127, 128, 129, 130, 131, 132, 133, 15, 14, 134, 135, 136, 137, 138, 139, 140, 141, 142, 143, 144, 145, 146, 147, 148, 149, 150, 151, 152, 153, 154, 155, 156, 157, 158, 159, 160, 161, 162, 163, 18, 64, 65, 66, 67, 73, 74, 75, 76, 77, 78, 79, 81, 164, 165, 166, 167, 168, 169, 170, 171, 172, 173, 174, 175, 176, 177, 178, 179, 180, 181, 182, 183, 184, 185, 186, 187, 188, 189, 190, 191, 192, 193, 194, 195, 196, 197, 198, 199, 200, 201, 202, 43, 44, 45, 46, 203, 204, 205, 206, 17, 207, 208, 209, 210, 211, 212, 213, 214, 215, 216, 217, 218, 219, 220, 221, 222, 42, 56, 57, 58, 59, 60, 61, 62, 63, 38, 39, 40, 41, 242, 243, 244, 245, 246, 247, 248, 249, 250, 251, 252, 253, 254, 255, 256, 257, 258, 259, 260, 261, 262, 263, 264, 265] (by decide +kernel) (by decide +kernel)) (goodIn_sub (fun _ h => List.mem_append_left _ (List.mem_append_right _ h)) (by decide +kernel))) (goodIn_sub (fun _ h => List.mem_append_right _ h) (by decide +kernel))) (goodIn_sub (fun _ h => List.mem_append_left _ (List.mem_append_left _ (List.mem_append_right _ h))) (by decide +kernel))
set_option maxRecDepth 20000 in
theorem gL_law_L_kept : GoodIn wsL_law (va_wsS RL 108 yL_kept wsL_kept) := goodIn_app (goodIn_of _ (by decide +kernel)) ggL_law_L_kept
set_option maxRecDepth 20000 in
theorem ggL_law_X2_setFloor : GoodIn wsL_law wsX2_setFloor := goodIn_ca (goodIn_r _ [163, 18, 53, 54, 2, 55, 68, 69, 70, 71, 72, 242, 243, 244, 245, 246, 247, 248, 249] (by decide +kernel) (by decide +kernel)) (goodIn_sub (fun _ h => List.mem_append_left _ (List.mem_append_right _ h)) (by decide +kernel))
set_option maxRecDepth 20000 in
theorem gL_law_X2_setFloor : GoodIn wsL_law (wsV RL 37 RX2 yX2_setFloor wsX2_setFloor) := goodIn_app (goodIn_of _ (by decide +kernel)) ggL_law_X2_setFloor
set_option maxRecDepth 20000 in
theorem ggL_law_L_cell : GoodIn wsL_law wsL_cell := goodIn_r _ [225, 226] (by decide +kernel) (by decide +kernel)
set_option maxRecDepth 20000 in
theorem gL_law_L_cell : GoodIn wsL_law (va_wsS RL 112 yL_cell wsL_cell) := goodIn_app (goodIn_of _ (by decide +kernel)) ggL_law_L_cell
set_option maxRecDepth 20000 in
theorem ggL_law_L_some : GoodIn wsL_law wsL_some := goodIn_r _ [229] (by decide +kernel) (by decide +kernel)
set_option maxRecDepth 20000 in
theorem gL_law_L_some : GoodIn wsL_law (va_wsS RL 100 yL_some wsL_some) := goodIn_app (goodIn_of _ (by decide +kernel)) ggL_law_L_some
set_option maxRecDepth 20000 in
theorem ggL_law_X2_workers : GoodIn wsL_law wsX2_workers := goodIn_r _ [31, 32, 242, 243, 244, 245, 246, 247, 248, 249] (by decide +kernel) (by decide +kernel)
set_option maxRecDepth 20000 in
theorem gL_law_X2_workers : GoodIn wsL_law (wsV RL 77 RX2 yX2_workers wsX2_workers) := goodIn_app (goodIn_of _ (by decide +kernel)) ggL_law_X2_workers
set_option maxRecDepth 20000 in
theorem ggL_law_L_call : GoodIn wsL_law wsL_call := goodIn_ca (goodIn_ca (goodIn_ca (goodIn_r _ [89, 90, 91, 92, 93, 94, 21, 95, 96, 97, 98, 2, 99, 100, 32, 13, 12, 101, 80, 53, 54, 55, 68, 69, 70, 71, 72, 102, 103, 104, 105, 106, 107, 108, 109, 110, 10, 11, 111, 112, 3, 83, 82, 113, 114, 115, 16, 116, 117, 118, 119, 120, 37, 47, 48, 49, 50, 51, 52, 121, 122, 123, 124, 125, 126, 127, 128, 129, 130, 131, 132, 133, 15, 14, 134, 135, 136, 137, 138, 139, 140, 141, 142, 143, 144, 145, 146, 147, 148, 149, 150, 151, 152, 153, 154, 155, 156, 157, 158, 159, 160, 161, 162, 163, 18, 64, 65, 66, 67, 73, 74, 75, 76, 77, 78, 79, 81, 164, 165, 166, 167, 168, 169, 170, 171, 172, 173, 174, 175, 176, 177, 178, 179, 180, 181, 182, 183, 184, 185, 186, 187, 188, 189, 190, 191, 192, 193, 194, 195, 196, 197, 198, 199, 200, 201, 202, 43, 44, 45, 46, 203, 204, 205, 206, 17, 207, 208, 209, 210, 211, 212, 213, 214, 215, 216, 217, 218, 219, 220, 221, 222, 42, 56, 57, 58, 59, 60, 61, 62, 63, 242, 243, 244, 245, 246, 247, 248, 249, 250, 251, 252, 253, 254, 255, 256, 257, 258, 259, 260, 261, 262, 263, 264, 265] (by decide +kernel) (by decide +kernel)) (goodIn_sub (fun _ h => List.mem_append_left _ (List.mem_append_right _ h)) (by decide +kernel))) (goodIn_sub (fun _ h => List.mem_append_right _ h) (by decide +kernel))) (goodIn_sub (fun _ h => List.mem_append_left _ (List.mem_append_left _ (List.mem_append_right _ h))) (by decide +kernel))
set_option maxRecDepth 20000 in
theorem gL_law_L_call : GoodIn wsL_law (va_wsS RL 97 yL_call wsL_call) := goodIn_app (goodIn_of _ (by decide +kernel)) ggL_law_L_call
set_option maxRecDepth 20000 in
theorem ggL_law_X2_add : GoodIn wsL_law wsX2_add := goodIn_ca (goodIn_ca (goodIn_r _ [99, 100, 32, 13, 12, 101, 80, 53, 54, 2, 55, 68, 69, 70, 71, 72, 102, 103, 104, 105, 106, 107, 108, 109, 110, 10, 11, 111, 112, 3, 83, 82, 113, 114, 115, 16, 116, 242, 243, 244, 245, 246, 247, 248, 249, 250, 251, 252, 253, 254, 255, 256, 257, 258, 259, 260, 261] (by decide +kernel) (by decide +kernel)) (goodIn_sub (fun _ h => List.mem_append_left _ (List.mem_append_right _ h)) (by decide +kernel))) (goodIn_sub (fun _ h => List.mem_append_right _ h) (by decide +kernel))
set_option maxRecDepth 20000 in
theorem gL_law_X2_add : GoodIn wsL_law (wsV RL 20 RX2 yX2_add wsX2_add) := goodIn_app (goodIn_of _ (by decide +kernel)) ggL_law_X2_add
set_option maxRecDepth 20000 in
theorem ggL_law_X2_net : GoodIn wsL_law wsX2_net := goodIn_ca (goodIn_r _ [63, 47, 48, 49, 2, 50, 51, 52, 32, 13, 53, 54, 55, 250, 251, 252, 253, 254, 255, 256, 257, 258, 259, 260, 261, 242, 243, 244, 245, 246, 247, 248, 249] (by decide +kernel) (by decide +kernel)) (goodIn_sub (fun _ h => List.mem_append_left _ (List.mem_append_left _ (List.mem_append_right _ h))) (by decide +kernel))
set_option maxRecDepth 20000 in
theorem gL_law_X2_net : GoodIn wsL_law (wsV RL 74 RX2 yX2_net wsX2_net) := goodIn_app (goodIn_of _ (by decide +kernel)) ggL_law_X2_net
set_option maxRecDepth 20000 in
theorem ggL_law_X2_owes : GoodIn wsL_law wsX2_owes := goodIn_ca (goodIn_r _ [59, 47, 48, 49, 2, 50, 51, 52, 32, 13, 53, 54, 55, 250, 251, 252, 253, 254, 255, 256, 257, 258, 259, 260, 261, 242, 243, 244, 245, 246, 247, 248, 249] (by decide +kernel) (by decide +kernel)) (goodIn_sub (fun _ h => List.mem_append_left _ (List.mem_append_left _ (List.mem_append_right _ h))) (by decide +kernel))
set_option maxRecDepth 20000 in
theorem gL_law_X2_owes : GoodIn wsL_law (wsV RL 71 RX2 yX2_owes wsX2_owes) := goodIn_app (goodIn_of _ (by decide +kernel)) ggL_law_X2_owes
set_option maxRecDepth 20000 in
theorem ggL_law_X2_cutWeeks : GoodIn wsL_law wsX2_cutWeeks := goodIn_ca (goodIn_r _ [46, 47, 48, 49, 2, 50, 51, 52, 32, 13, 53, 54, 55, 250, 251, 252, 253, 254, 255, 256, 257, 258, 259, 260, 261, 242, 243, 244, 245, 246, 247, 248, 249] (by decide +kernel) (by decide +kernel)) (goodIn_sub (fun _ h => List.mem_append_left _ (List.mem_append_left _ (List.mem_append_right _ h))) (by decide +kernel))
set_option maxRecDepth 20000 in
theorem gL_law_X2_cutWeeks : GoodIn wsL_law (wsV RL 57 RX2 yX2_cutWeeks wsX2_cutWeeks) := goodIn_app (goodIn_of _ (by decide +kernel)) ggL_law_X2_cutWeeks
set_option maxRecDepth 20000 in
theorem ggL_law_L_notices : GoodIn wsL_law wsL_notices := goodIn_ca (goodIn_ca (goodIn_ca (goodIn_r _ [232, 28, 29, 30, 2, 31, 32, 33, 34, 35, 36, 37, 227, 228, 21, 229, 19, 20, 22, 23, 24, 25, 26, 27, 38, 39, 40, 41, 42, 43, 44, 45, 46, 47, 48, 49, 50, 51, 52, 13, 53, 54, 55, 56, 57, 58, 59, 60, 61, 62, 63, 64, 65, 66, 67, 68, 69, 70, 71, 72, 73, 74, 75, 76, 77, 78, 79, 80, 81, 82, 83, 87, 88, 89, 90, 91, 92, 93, 94, 95, 96, 97, 98, 99, 100, 12, 101, 102, 103, 104, 105, 106, 107, 108, 109, 110, 10, 11, 111, 112, 3, 113, 114, 115, 16, 116, 117, 118, 119, 120, 121, 122, 123, 124, 125, 126, 127, 128, 129, 130, 131, 132, 133, 15, 14, 134, 135, 136, 137, 138, 139, 140, 141, 142, 143, 144, 145, 146, 147, 148, 149, 150, 151, 152, 153, 154, 155, 156, 157, 158, 159, 160, 161, 162, 163, 18, 164, 165, 166, 167, 168, 169, 170, 171, 172, 173, 174, 175, 176, 177, 178, 179, 180, 181, 182, 183, 184, 185, 186, 187, 188, 189, 190, 191, 192, 193, 194, 195, 196, 197, 198, 199, 200, 201, 202, 203, 204, 205, 206, 17, 207, 208, 209, 210, 211, 212, 213, 214, 215, 216, 217, 218, 219, 220, 221, 222, 242, 243, 244, 245, 246, 247, 248, 249, 250, 251, 252, 253, 254, 255, 256, 257, 258, 259, 260, 261, 262, 263, 264, 265] (by decide +kernel) (by decide +kernel)) (goodIn_sub (fun _ h => List.mem_append_left _ (List.mem_append_left _ (List.mem_append_right _ h))) (by decide +kernel))) (goodIn_sub (fun _ h => List.mem_append_left _ (List.mem_append_right _ h)) (by decide +kernel))) (goodIn_sub (fun _ h => List.mem_append_right _ h) (by decide +kernel))
set_option maxRecDepth 20000 in
theorem gL_law_L_notices : GoodIn wsL_law (va_wsS RL 118 yL_notices wsL_notices) := goodIn_app (goodIn_of _ (by decide +kernel)) ggL_law_L_notices
set_option maxRecDepth 20000 in
theorem ggL_law_L_courses : GoodIn wsL_law wsL_courses := goodIn_ca (goodIn_ca (goodIn_ca (goodIn_r _ [235, 19, 20, 21, 22, 23, 24, 25, 26, 27, 28, 29, 30, 2, 31, 32, 33, 34, 35, 36, 37, 38, 39, 40, 41, 42, 43, 44, 45, 46, 47, 48, 49, 50, 51, 52, 13, 53, 54, 55, 56, 57, 58, 59, 60, 61, 62, 63, 64, 65, 66, 67, 68, 69, 70, 71, 72, 73, 74, 75, 76, 77, 78, 79, 80, 81, 82, 83, 227, 228, 229, 87, 88, 89, 90, 91, 92, 93, 94, 95, 96, 97, 98, 99, 100, 12, 101, 102, 103, 104, 105, 106, 107, 108, 109, 110, 10, 11, 111, 112, 3, 113, 114, 115, 16, 116, 117, 118, 119, 120, 121, 122, 123, 124, 125, 126, 127, 128, 129, 130, 131, 132, 133, 15, 14, 134, 135, 136, 137, 138, 139, 140, 141, 142, 143, 144, 145, 146, 147, 148, 149, 150, 151, 152, 153, 154, 155, 156, 157, 158, 159, 160, 161, 162, 163, 18, 164, 165, 166, 167, 168, 169, 170, 171, 172, 173, 174, 175, 176, 177, 178, 179, 180, 181, 182, 183, 184, 185, 186, 187, 188, 189, 190, 191, 192, 193, 194, 195, 196, 197, 198, 199, 200, 201, 202, 203, 204, 205, 206, 17, 207, 208, 209, 210, 211, 212, 213, 214, 215, 216, 217, 218, 219, 220, 221, 222, 242, 243, 244, 245, 246, 247, 248, 249, 250, 251, 252, 253, 254, 255, 256, 257, 258, 259, 260, 261, 262, 263, 264, 265] (by decide +kernel) (by decide +kernel)) (goodIn_sub (fun _ h => List.mem_append_left _ (List.mem_append_left _ (List.mem_append_right _ h))) (by decide +kernel))) (goodIn_sub (fun _ h => List.mem_append_left _ (List.mem_append_right _ h)) (by decide +kernel))) (goodIn_sub (fun _ h => List.mem_append_right _ h) (by decide +kernel))
set_option maxRecDepth 20000 in
theorem gL_law_L_courses : GoodIn wsL_law (va_wsS RL 122 yL_courses wsL_courses) := goodIn_app (goodIn_of _ (by decide +kernel)) ggL_law_L_courses
set_option maxRecDepth 20000 in
theorem ggL_law_L_passes : GoodIn wsL_law wsL_passes := goodIn_ca (goodIn_ca (goodIn_ca (goodIn_r _ [238, 33, 34, 35, 2, 36, 37, 87, 88, 21, 89, 90, 91, 92, 93, 94, 95, 96, 97, 98, 99, 100, 32, 13, 12, 101, 80, 53, 54, 55, 68, 69, 70, 71, 72, 102, 103, 104, 105, 106, 107, 108, 109, 110, 10, 11, 111, 112, 3, 83, 82, 113, 114, 115, 16, 116, 117, 118, 119, 120, 47, 48, 49, 50, 51, 52, 121, 122, 123, 124, 125, 126, 127, 128, 129, 130, 131, 132, 133, 15, 14, 134, 135, 136, 137, 138, 139, 140, 141, 142, 143, 144, 145, 146, 147, 148, 149, 150, 151, 152, 153, 154, 155, 156, 157, 158, 159, 160, 161, 162, 163, 18, 64, 65, 66, 67, 73, 74, 75, 76, 77, 78, 79, 81, 164, 165, 166, 167, 168, 169, 170, 171, 172, 173, 174, 175, 176, 177, 178, 179, 180, 181, 182, 183, 184, 185, 186, 187, 188, 189, 190, 191, 192, 193, 194, 195, 196, 197, 198, 199, 200, 201, 202, 43, 44, 45, 46, 203, 204, 205, 206, 17, 207, 208, 209, 210, 211, 212, 213, 214, 215, 216, 217, 218, 219, 220, 221, 222, 42, 56, 57, 58, 59, 60, 61, 62, 63, 28, 29, 30, 31, 242, 243, 244, 245, 246, 247, 248, 249, 250, 251, 252, 253, 254, 255, 256, 257, 258, 259, 260, 261, 262, 263, 264, 265] (by decide +kernel) (by decide +kernel)) (goodIn_sub (fun _ h => List.mem_append_left _ (List.mem_append_right _ h)) (by decide +kernel))) (goodIn_sub (fun _ h => List.mem_append_right _ h) (by decide +kernel))) (goodIn_sub (fun _ h => List.mem_append_left _ (List.mem_append_left _ (List.mem_append_right _ h))) (by decide +kernel))
set_option maxRecDepth 20000 in
theorem gL_law_L_passes : GoodIn wsL_law (va_wsS RL 126 yL_passes wsL_passes) := goodIn_app (goodIn_of _ (by decide +kernel)) ggL_law_L_passes
set_option maxRecDepth 20000 in
theorem ggL_law_L_checks : GoodIn wsL_law wsL_checks := goodIn_ca (goodIn_ca (goodIn_ca (goodIn_r _ [241, 28, 29, 30, 2, 31, 32, 33, 34, 35, 36, 37, 227, 228, 21, 229, 19, 20, 22, 23, 24, 25, 26, 27, 38, 39, 40, 41, 42, 43, 44, 45, 46, 47, 48, 49, 50, 51, 52, 13, 53, 54, 55, 56, 57, 58, 59, 60, 61, 62, 63, 64, 65, 66, 67, 68, 69, 70, 71, 72, 73, 74, 75, 76, 77, 78, 79, 80, 81, 82, 83, 87, 88, 89, 90, 91, 92, 93, 94, 95, 96, 97, 98, 99, 100, 12, 101, 102, 103, 104, 105, 106, 107, 108, 109, 110, 10, 11, 111, 112, 3, 113, 114, 115, 16, 116, 117, 118, 119, 120, 121, 122, 123, 124, 125, 126, 127, 128, 129, 130, 131, 132, 133, 15, 14, 134, 135, 136, 137, 138, 139, 140, 141, 142, 143, 144, 145, 146, 147, 148, 149, 150, 151, 152, 153, 154, 155, 156, 157, 158, 159, 160, 161, 162, 163, 18, 164, 165, 166, 167, 168, 169, 170, 171, 172, 173, 174, 175, 176, 177, 178, 179, 180, 181, 182, 183, 184, 185, 186, 187, 188, 189, 190, 191, 192, 193, 194, 195, 196, 197, 198, 199, 200, 201, 202, 203, 204, 205, 206, 17, 207, 208, 209, 210, 211, 212, 213, 214, 215, 216, 217, 218, 219, 220, 221, 222, 242, 243, 244, 245, 246, 247, 248, 249, 250, 251, 252, 253, 254, 255, 256, 257, 258, 259, 260, 261, 262, 263, 264, 265] (by decide +kernel) (by decide +kernel)) (goodIn_sub (fun _ h => List.mem_append_left _ (List.mem_append_left _ (List.mem_append_right _ h))) (by decide +kernel))) (goodIn_sub (fun _ h => List.mem_append_left _ (List.mem_append_right _ h)) (by decide +kernel))) (goodIn_sub (fun _ h => List.mem_append_right _ h) (by decide +kernel))
set_option maxRecDepth 20000 in
theorem gL_law_L_checks : GoodIn wsL_law (va_wsS RL 130 yL_checks wsL_checks) := goodIn_app (goodIn_of _ (by decide +kernel)) ggL_law_L_checks
end
section
theorem dX0_init_0 : decode cX0_init 0 = .ok (.aload_n 0, 1) := by decide +kernel
theorem dX0_init_1 : decode cX0_init 1 = .ok (.invokespecial 1, 3) := by decide +kernel
theorem dX0_init_4 : decode cX0_init 4 = .ok (.aload_n 0, 1) := by decide +kernel
theorem dX0_init_5 : decode cX0_init 5 = .ok (.iload_n 2, 1) := by decide +kernel
theorem dX0_init_6 : decode cX0_init 6 = .ok (.putfield 7, 3) := by decide +kernel
theorem dX0_init_9 : decode cX0_init 9 = .ok (.aload_n 0, 1) := by decide +kernel
theorem dX0_init_10 : decode cX0_init 10 = .ok (.iload_n 3, 1) := by decide +kernel
theorem dX0_init_11 : decode cX0_init 11 = .ok (.putfield 13, 3) := by decide +kernel
theorem dX0_init_14 : decode cX0_init 14 = .ok (.aload_n 0, 1) := by decide +kernel
theorem dX0_init_15 : decode cX0_init 15 = .ok (.iload 4, 2) := by decide +kernel
theorem dX0_init_17 : decode cX0_init 17 = .ok (.putfield 16, 3) := by decide +kernel
theorem dX0_init_20 : decode cX0_init 20 = .ok (.aload_n 0, 1) := by decide +kernel
theorem dX0_init_21 : decode cX0_init 21 = .ok (.iload_n 1, 1) := by decide +kernel
theorem dX0_init_22 : decode cX0_init 22 = .ok (.putfield 19, 3) := by decide +kernel
theorem dX0_init_25 : decode cX0_init 25 = .ok (.return_, 1) := by decide +kernel
theorem dX1_init_0 : decode cX1_init 0 = .ok (.aload_n 0, 1) := by decide +kernel
theorem dX1_init_1 : decode cX1_init 1 = .ok (.invokespecial 3, 3) := by decide +kernel
theorem dX1_init_4 : decode cX1_init 4 = .ok (.aload_n 0, 1) := by decide +kernel
theorem dX1_init_5 : decode cX1_init 5 = .ok (.iload_n 1, 1) := by decide +kernel
theorem dX1_init_6 : decode cX1_init 6 = .ok (.putfield 9, 3) := by decide +kernel
theorem dX1_init_9 : decode cX1_init 9 = .ok (.aload_n 0, 1) := by decide +kernel
theorem dX1_init_10 : decode cX1_init 10 = .ok (.iload_n 2, 1) := by decide +kernel
theorem dX1_init_11 : decode cX1_init 11 = .ok (.putfield 15, 3) := by decide +kernel
theorem dX1_init_14 : decode cX1_init 14 = .ok (.aload_n 0, 1) := by decide +kernel
theorem dX1_init_15 : decode cX1_init 15 = .ok (.sipush 201, 3) := by decide +kernel
theorem dX1_init_18 : decode cX1_init 18 = .ok (.newarray .int, 2) := by decide +kernel
theorem dX1_init_20 : decode cX1_init 20 = .ok (.putfield 19, 3) := by decide +kernel
theorem dX1_init_23 : decode cX1_init 23 = .ok (.aload_n 0, 1) := by decide +kernel
theorem dX1_init_24 : decode cX1_init 24 = .ok (.sipush 201, 3) := by decide +kernel
theorem dX1_init_27 : decode cX1_init 27 = .ok (.newarray .int, 2) := by decide +kernel
theorem dX1_init_29 : decode cX1_init 29 = .ok (.putfield 23, 3) := by decide +kernel
theorem dX1_init_32 : decode cX1_init 32 = .ok (.aload_n 0, 1) := by decide +kernel
theorem dX1_init_33 : decode cX1_init 33 = .ok (.sipush 201, 3) := by decide +kernel
theorem dX1_init_36 : decode cX1_init 36 = .ok (.newarray .int, 2) := by decide +kernel
theorem dX1_init_38 : decode cX1_init 38 = .ok (.putfield 26, 3) := by decide +kernel
theorem dX1_init_41 : decode cX1_init 41 = .ok (.aload_n 0, 1) := by decide +kernel
theorem dX1_init_42 : decode cX1_init 42 = .ok (.sipush 201, 3) := by decide +kernel
theorem dX1_init_45 : decode cX1_init 45 = .ok (.newarray .int, 2) := by decide +kernel
theorem dX1_init_47 : decode cX1_init 47 = .ok (.putfield 29, 3) := by decide +kernel
theorem dX1_init_50 : decode cX1_init 50 = .ok (.aload_n 0, 1) := by decide +kernel
theorem dX1_init_51 : decode cX1_init 51 = .ok (.sipush 201, 3) := by decide +kernel
theorem dX1_init_54 : decode cX1_init 54 = .ok (.newarray .int, 2) := by decide +kernel
theorem dX1_init_56 : decode cX1_init 56 = .ok (.putfield 32, 3) := by decide +kernel
theorem dX1_init_59 : decode cX1_init 59 = .ok (.aload_n 0, 1) := by decide +kernel
theorem dX1_init_60 : decode cX1_init 60 = .ok (.sipush 201, 3) := by decide +kernel
theorem dX1_init_63 : decode cX1_init 63 = .ok (.newarray .boolean, 2) := by decide +kernel
theorem dX1_init_65 : decode cX1_init 65 = .ok (.putfield 35, 3) := by decide +kernel
theorem dX1_init_68 : decode cX1_init 68 = .ok (.return_, 1) := by decide +kernel
theorem dX1_takeNotice_0 : decode cX1_takeNotice 0 = .ok (.iload_n 1, 1) := by decide +kernel
theorem dX1_takeNotice_1 : decode cX1_takeNotice 1 = .ok (.istore 4, 2) := by decide +kernel
theorem dX1_takeNotice_3 : decode cX1_takeNotice 3 = .ok (.iload 4, 2) := by decide +kernel
theorem dX1_takeNotice_5 : decode cX1_takeNotice 5 = .ok (.iload_n 2, 1) := by decide +kernel
theorem dX1_takeNotice_6 : decode cX1_takeNotice 6 = .ok (.if_icmp .gt 17, 3) := by decide +kernel
theorem dX1_takeNotice_9 : decode cX1_takeNotice 9 = .ok (.aload_n 0, 1) := by decide +kernel
theorem dX1_takeNotice_10 : decode cX1_takeNotice 10 = .ok (.getfield 19, 3) := by decide +kernel
theorem dX1_takeNotice_13 : decode cX1_takeNotice 13 = .ok (.iload 4, 2) := by decide +kernel
theorem dX1_takeNotice_15 : decode cX1_takeNotice 15 = .ok (.iload_n 3, 1) := by decide +kernel
theorem dX1_takeNotice_16 : decode cX1_takeNotice 16 = .ok (.iastore, 1) := by decide +kernel
theorem dX1_takeNotice_17 : decode cX1_takeNotice 17 = .ok (.iinc 4 1, 3) := by decide +kernel
theorem dX1_takeNotice_20 : decode cX1_takeNotice 20 = .ok (.goto (-17), 3) := by decide +kernel
theorem dX1_takeNotice_23 : decode cX1_takeNotice 23 = .ok (.aload_n 0, 1) := by decide +kernel
theorem dX1_takeNotice_24 : decode cX1_takeNotice 24 = .ok (.dup, 1) := by decide +kernel
theorem dX1_takeNotice_25 : decode cX1_takeNotice 25 = .ok (.getfield 39, 3) := by decide +kernel
theorem dX1_takeNotice_28 : decode cX1_takeNotice 28 = .ok (.iconst 1, 1) := by decide +kernel
theorem dX1_takeNotice_29 : decode cX1_takeNotice 29 = .ok (.iadd, 1) := by decide +kernel
theorem dX1_takeNotice_30 : decode cX1_takeNotice 30 = .ok (.putfield 39, 3) := by decide +kernel
theorem dX1_takeNotice_33 : decode cX1_takeNotice 33 = .ok (.return_, 1) := by decide +kernel
theorem dX1_hasNoCourseFrom_0 : decode cX1_hasNoCourseFrom 0 = .ok (.iload_n 1, 1) := by decide +kernel
theorem dX1_hasNoCourseFrom_1 : decode cX1_hasNoCourseFrom 1 = .ok (.istore_n 3, 1) := by decide +kernel
theorem dX1_hasNoCourseFrom_2 : decode cX1_hasNoCourseFrom 2 = .ok (.iload_n 3, 1) := by decide +kernel
theorem dX1_hasNoCourseFrom_3 : decode cX1_hasNoCourseFrom 3 = .ok (.iload_n 2, 1) := by decide +kernel
theorem dX1_hasNoCourseFrom_4 : decode cX1_hasNoCourseFrom 4 = .ok (.if_icmp .gt 20, 3) := by decide +kernel
theorem dX1_hasNoCourseFrom_7 : decode cX1_hasNoCourseFrom 7 = .ok (.aload_n 0, 1) := by decide +kernel
theorem dX1_hasNoCourseFrom_8 : decode cX1_hasNoCourseFrom 8 = .ok (.getfield 23, 3) := by decide +kernel
theorem dX1_hasNoCourseFrom_11 : decode cX1_hasNoCourseFrom 11 = .ok (.iload_n 3, 1) := by decide +kernel
theorem dX1_hasNoCourseFrom_12 : decode cX1_hasNoCourseFrom 12 = .ok (.iaload, 1) := by decide +kernel
theorem dX1_hasNoCourseFrom_13 : decode cX1_hasNoCourseFrom 13 = .ok (.ifCond .le 5, 3) := by decide +kernel
theorem dX1_hasNoCourseFrom_16 : decode cX1_hasNoCourseFrom 16 = .ok (.iconst 0, 1) := by decide +kernel
theorem dX1_hasNoCourseFrom_17 : decode cX1_hasNoCourseFrom 17 = .ok (.ireturn, 1) := by decide +kernel
theorem dX1_hasNoCourseFrom_18 : decode cX1_hasNoCourseFrom 18 = .ok (.iinc 3 1, 3) := by decide +kernel
theorem dX1_hasNoCourseFrom_21 : decode cX1_hasNoCourseFrom 21 = .ok (.goto (-19), 3) := by decide +kernel
theorem dX1_hasNoCourseFrom_24 : decode cX1_hasNoCourseFrom 24 = .ok (.iconst 1, 1) := by decide +kernel
theorem dX1_hasNoCourseFrom_25 : decode cX1_hasNoCourseFrom 25 = .ok (.ireturn, 1) := by decide +kernel
theorem dX1_goTo_0 : decode cX1_goTo 0 = .ok (.aload_n 1, 1) := by decide +kernel
theorem dX1_goTo_1 : decode cX1_goTo 1 = .ok (.getfield 42, 3) := by decide +kernel
theorem dX1_goTo_4 : decode cX1_goTo 4 = .ok (.istore_n 2, 1) := by decide +kernel
theorem dX1_goTo_5 : decode cX1_goTo 5 = .ok (.iload_n 2, 1) := by decide +kernel
theorem dX1_goTo_6 : decode cX1_goTo 6 = .ok (.aload_n 1, 1) := by decide +kernel
theorem dX1_goTo_7 : decode cX1_goTo 7 = .ok (.getfield 47, 3) := by decide +kernel
theorem dX1_goTo_10 : decode cX1_goTo 10 = .ok (.if_icmp .gt 19, 3) := by decide +kernel
theorem dX1_goTo_13 : decode cX1_goTo 13 = .ok (.aload_n 0, 1) := by decide +kernel
theorem dX1_goTo_14 : decode cX1_goTo 14 = .ok (.getfield 23, 3) := by decide +kernel
theorem dX1_goTo_17 : decode cX1_goTo 17 = .ok (.iload_n 2, 1) := by decide +kernel
theorem dX1_goTo_18 : decode cX1_goTo 18 = .ok (.aload_n 1, 1) := by decide +kernel
theorem dX1_goTo_19 : decode cX1_goTo 19 = .ok (.getfield 50, 3) := by decide +kernel
theorem dX1_goTo_22 : decode cX1_goTo 22 = .ok (.iastore, 1) := by decide +kernel
theorem dX1_goTo_23 : decode cX1_goTo 23 = .ok (.iinc 2 1, 3) := by decide +kernel
theorem dX1_goTo_26 : decode cX1_goTo 26 = .ok (.goto (-21), 3) := by decide +kernel
theorem dX1_goTo_29 : decode cX1_goTo 29 = .ok (.return_, 1) := by decide +kernel
theorem dX1_hasFilled_0 : decode cX1_hasFilled 0 = .ok (.aload_n 0, 1) := by decide +kernel
theorem dX1_hasFilled_1 : decode cX1_hasFilled 1 = .ok (.getfield 23, 3) := by decide +kernel
theorem dX1_hasFilled_4 : decode cX1_hasFilled 4 = .ok (.iload_n 1, 1) := by decide +kernel
theorem dX1_hasFilled_5 : decode cX1_hasFilled 5 = .ok (.iaload, 1) := by decide +kernel
theorem dX1_hasFilled_6 : decode cX1_hasFilled 6 = .ok (.ifCond .le 24, 3) := by decide +kernel
theorem dX1_hasFilled_9 : decode cX1_hasFilled 9 = .ok (.iconst 2, 1) := by decide +kernel
theorem dX1_hasFilled_10 : decode cX1_hasFilled 10 = .ok (.aload_n 0, 1) := by decide +kernel
theorem dX1_hasFilled_11 : decode cX1_hasFilled 11 = .ok (.getfield 23, 3) := by decide +kernel
theorem dX1_hasFilled_14 : decode cX1_hasFilled 14 = .ok (.iload_n 1, 1) := by decide +kernel
theorem dX1_hasFilled_15 : decode cX1_hasFilled 15 = .ok (.iaload, 1) := by decide +kernel
theorem dX1_hasFilled_16 : decode cX1_hasFilled 16 = .ok (.imul, 1) := by decide +kernel
theorem dX1_hasFilled_17 : decode cX1_hasFilled 17 = .ok (.aload_n 0, 1) := by decide +kernel
theorem dX1_hasFilled_18 : decode cX1_hasFilled 18 = .ok (.getfield 19, 3) := by decide +kernel
theorem dX1_hasFilled_21 : decode cX1_hasFilled 21 = .ok (.iload_n 1, 1) := by decide +kernel
theorem dX1_hasFilled_22 : decode cX1_hasFilled 22 = .ok (.iaload, 1) := by decide +kernel
theorem dX1_hasFilled_23 : decode cX1_hasFilled 23 = .ok (.if_icmp .lt 7, 3) := by decide +kernel
theorem dX1_hasFilled_26 : decode cX1_hasFilled 26 = .ok (.iconst 1, 1) := by decide +kernel
theorem dX1_hasFilled_27 : decode cX1_hasFilled 27 = .ok (.goto 4, 3) := by decide +kernel
theorem dX1_hasFilled_30 : decode cX1_hasFilled 30 = .ok (.iconst 0, 1) := by decide +kernel
theorem dX1_hasFilled_31 : decode cX1_hasFilled 31 = .ok (.ireturn, 1) := by decide +kernel
theorem dX1_payFor_0 : decode cX1_payFor 0 = .ok (.aload_n 0, 1) := by decide +kernel
theorem dX1_payFor_1 : decode cX1_payFor 1 = .ok (.getfield 9, 3) := by decide +kernel
theorem dX1_payFor_4 : decode cX1_payFor 4 = .ok (.bipush 40, 2) := by decide +kernel
theorem dX1_payFor_6 : decode cX1_payFor 6 = .ok (.aload_n 0, 1) := by decide +kernel
theorem dX1_payFor_7 : decode cX1_payFor 7 = .ok (.getfield 19, 3) := by decide +kernel
theorem dX1_payFor_10 : decode cX1_payFor 10 = .ok (.iload_n 1, 1) := by decide +kernel
theorem dX1_payFor_11 : decode cX1_payFor 11 = .ok (.iaload, 1) := by decide +kernel
theorem dX1_payFor_12 : decode cX1_payFor 12 = .ok (.isub, 1) := by decide +kernel
theorem dX1_payFor_13 : decode cX1_payFor 13 = .ok (.imul, 1) := by decide +kernel
theorem dX1_payFor_14 : decode cX1_payFor 14 = .ok (.bipush 40, 2) := by decide +kernel
theorem dX1_payFor_16 : decode cX1_payFor 16 = .ok (.idiv, 1) := by decide +kernel
theorem dX1_payFor_17 : decode cX1_payFor 17 = .ok (.istore_n 3, 1) := by decide +kernel
theorem dX1_payFor_18 : decode cX1_payFor 18 = .ok (.aload_n 0, 1) := by decide +kernel
theorem dX1_payFor_19 : decode cX1_payFor 19 = .ok (.getfield 9, 3) := by decide +kernel
theorem dX1_payFor_22 : decode cX1_payFor 22 = .ok (.iload_n 3, 1) := by decide +kernel
theorem dX1_payFor_23 : decode cX1_payFor 23 = .ok (.isub, 1) := by decide +kernel
theorem dX1_payFor_24 : decode cX1_payFor 24 = .ok (.aload_n 0, 1) := by decide +kernel
theorem dX1_payFor_25 : decode cX1_payFor 25 = .ok (.iload_n 1, 1) := by decide +kernel
theorem dX1_payFor_26 : decode cX1_payFor 26 = .ok (.invokevirtual 53, 3) := by decide +kernel
theorem dX1_payFor_29 : decode cX1_payFor 29 = .ok (.imul, 1) := by decide +kernel
theorem dX1_payFor_30 : decode cX1_payFor 30 = .ok (.bipush 100, 2) := by decide +kernel
theorem dX1_payFor_32 : decode cX1_payFor 32 = .ok (.idiv, 1) := by decide +kernel
theorem dX1_payFor_33 : decode cX1_payFor 33 = .ok (.istore 4, 2) := by decide +kernel
theorem dX1_payFor_35 : decode cX1_payFor 35 = .ok (.aload_n 0, 1) := by decide +kernel
theorem dX1_payFor_36 : decode cX1_payFor 36 = .ok (.getfield 9, 3) := by decide +kernel
theorem dX1_payFor_39 : decode cX1_payFor 39 = .ok (.iload_n 2, 1) := by decide +kernel
theorem dX1_payFor_40 : decode cX1_payFor 40 = .ok (.imul, 1) := by decide +kernel
theorem dX1_payFor_41 : decode cX1_payFor 41 = .ok (.bipush 100, 2) := by decide +kernel
theorem dX1_payFor_43 : decode cX1_payFor 43 = .ok (.idiv, 1) := by decide +kernel
theorem dX1_payFor_44 : decode cX1_payFor 44 = .ok (.istore 5, 2) := by decide +kernel
theorem dX1_payFor_46 : decode cX1_payFor 46 = .ok (.iload 4, 2) := by decide +kernel
theorem dX1_payFor_48 : decode cX1_payFor 48 = .ok (.iload 5, 2) := by decide +kernel
theorem dX1_payFor_50 : decode cX1_payFor 50 = .ok (.iload_n 3, 1) := by decide +kernel
theorem dX1_payFor_51 : decode cX1_payFor 51 = .ok (.isub, 1) := by decide +kernel
theorem dX1_payFor_52 : decode cX1_payFor 52 = .ok (.invokestatic 57, 3) := by decide +kernel
theorem dX1_payFor_55 : decode cX1_payFor 55 = .ok (.istore 4, 2) := by decide +kernel
theorem dX1_payFor_57 : decode cX1_payFor 57 = .ok (.aload_n 0, 1) := by decide +kernel
theorem dX1_payFor_58 : decode cX1_payFor 58 = .ok (.getfield 26, 3) := by decide +kernel
theorem dX1_payFor_61 : decode cX1_payFor 61 = .ok (.iload_n 1, 1) := by decide +kernel
theorem dX1_payFor_62 : decode cX1_payFor 62 = .ok (.iload_n 3, 1) := by decide +kernel
theorem dX1_payFor_63 : decode cX1_payFor 63 = .ok (.iastore, 1) := by decide +kernel
theorem dX1_payFor_64 : decode cX1_payFor 64 = .ok (.aload_n 0, 1) := by decide +kernel
theorem dX1_payFor_65 : decode cX1_payFor 65 = .ok (.getfield 29, 3) := by decide +kernel
theorem dX1_payFor_68 : decode cX1_payFor 68 = .ok (.iload_n 1, 1) := by decide +kernel
theorem dX1_payFor_69 : decode cX1_payFor 69 = .ok (.iload 4, 2) := by decide +kernel
theorem dX1_payFor_71 : decode cX1_payFor 71 = .ok (.iastore, 1) := by decide +kernel
theorem dX1_payFor_72 : decode cX1_payFor 72 = .ok (.aload_n 0, 1) := by decide +kernel
theorem dX1_payFor_73 : decode cX1_payFor 73 = .ok (.dup, 1) := by decide +kernel
theorem dX1_payFor_74 : decode cX1_payFor 74 = .ok (.getfield 63, 3) := by decide +kernel
theorem dX1_payFor_77 : decode cX1_payFor 77 = .ok (.iload_n 3, 1) := by decide +kernel
theorem dX1_payFor_78 : decode cX1_payFor 78 = .ok (.iload 4, 2) := by decide +kernel
theorem dX1_payFor_80 : decode cX1_payFor 80 = .ok (.iadd, 1) := by decide +kernel
theorem dX1_payFor_81 : decode cX1_payFor 81 = .ok (.iadd, 1) := by decide +kernel
theorem dX1_payFor_82 : decode cX1_payFor 82 = .ok (.putfield 63, 3) := by decide +kernel
theorem dX1_payFor_85 : decode cX1_payFor 85 = .ok (.aload_n 0, 1) := by decide +kernel
theorem dX1_payFor_86 : decode cX1_payFor 86 = .ok (.getfield 19, 3) := by decide +kernel
theorem dX1_payFor_89 : decode cX1_payFor 89 = .ok (.iload_n 1, 1) := by decide +kernel
theorem dX1_payFor_90 : decode cX1_payFor 90 = .ok (.iaload, 1) := by decide +kernel
theorem dX1_payFor_91 : decode cX1_payFor 91 = .ok (.ifCond .le 13, 3) := by decide +kernel
theorem dX1_payFor_94 : decode cX1_payFor 94 = .ok (.aload_n 0, 1) := by decide +kernel
theorem dX1_payFor_95 : decode cX1_payFor 95 = .ok (.dup, 1) := by decide +kernel
theorem dX1_payFor_96 : decode cX1_payFor 96 = .ok (.getfield 66, 3) := by decide +kernel
theorem dX1_payFor_99 : decode cX1_payFor 99 = .ok (.iconst 1, 1) := by decide +kernel
theorem dX1_payFor_100 : decode cX1_payFor 100 = .ok (.iadd, 1) := by decide +kernel
theorem dX1_payFor_101 : decode cX1_payFor 101 = .ok (.putfield 66, 3) := by decide +kernel
theorem dX1_payFor_104 : decode cX1_payFor 104 = .ok (.iload 4, 2) := by decide +kernel
theorem dX1_payFor_106 : decode cX1_payFor 106 = .ok (.ireturn, 1) := by decide +kernel
theorem dX1_madeUpPercent_0 : decode cX1_madeUpPercent 0 = .ok (.aload_n 0, 1) := by decide +kernel
theorem dX1_madeUpPercent_1 : decode cX1_madeUpPercent 1 = .ok (.invokevirtual 69, 3) := by decide +kernel
theorem dX1_madeUpPercent_4 : decode cX1_madeUpPercent 4 = .ok (.istore_n 2, 1) := by decide +kernel
theorem dX1_madeUpPercent_5 : decode cX1_madeUpPercent 5 = .ok (.aload_n 0, 1) := by decide +kernel
theorem dX1_madeUpPercent_6 : decode cX1_madeUpPercent 6 = .ok (.getfield 15, 3) := by decide +kernel
theorem dX1_madeUpPercent_9 : decode cX1_madeUpPercent 9 = .ok (.ifCond .eq 6, 3) := by decide +kernel
theorem dX1_madeUpPercent_12 : decode cX1_madeUpPercent 12 = .ok (.iinc 2 7, 3) := by decide +kernel
theorem dX1_madeUpPercent_15 : decode cX1_madeUpPercent 15 = .ok (.aload_n 0, 1) := by decide +kernel
theorem dX1_madeUpPercent_16 : decode cX1_madeUpPercent 16 = .ok (.iload_n 1, 1) := by decide +kernel
theorem dX1_madeUpPercent_17 : decode cX1_madeUpPercent 17 = .ok (.invokevirtual 73, 3) := by decide +kernel
theorem dX1_madeUpPercent_20 : decode cX1_madeUpPercent 20 = .ok (.ifCond .eq 9, 3) := by decide +kernel
theorem dX1_madeUpPercent_23 : decode cX1_madeUpPercent 23 = .ok (.iinc 2 5, 3) := by decide +kernel
theorem dX1_madeUpPercent_26 : decode cX1_madeUpPercent 26 = .ok (.goto 15, 3) := by decide +kernel
theorem dX1_madeUpPercent_29 : decode cX1_madeUpPercent 29 = .ok (.aload_n 0, 1) := by decide +kernel
theorem dX1_madeUpPercent_30 : decode cX1_madeUpPercent 30 = .ok (.getfield 66, 3) := by decide +kernel
theorem dX1_madeUpPercent_33 : decode cX1_madeUpPercent 33 = .ok (.bipush 12, 2) := by decide +kernel
theorem dX1_madeUpPercent_35 : decode cX1_madeUpPercent 35 = .ok (.if_icmp .lt 6, 3) := by decide +kernel
theorem dX1_madeUpPercent_38 : decode cX1_madeUpPercent 38 = .ok (.iinc 2 (-10), 3) := by decide +kernel
theorem dX1_madeUpPercent_41 : decode cX1_madeUpPercent 41 = .ok (.iload_n 2, 1) := by decide +kernel
theorem dX1_madeUpPercent_42 : decode cX1_madeUpPercent 42 = .ok (.ireturn, 1) := by decide +kernel
theorem dX1_stepPercent_0 : decode cX1_stepPercent 0 = .ok (.aload_n 0, 1) := by decide +kernel
theorem dX1_stepPercent_1 : decode cX1_stepPercent 1 = .ok (.getfield 66, 3) := by decide +kernel
theorem dX1_stepPercent_4 : decode cX1_stepPercent 4 = .ok (.bipush 24, 2) := by decide +kernel
theorem dX1_stepPercent_6 : decode cX1_stepPercent 6 = .ok (.if_icmp .lt 6, 3) := by decide +kernel
theorem dX1_stepPercent_9 : decode cX1_stepPercent 9 = .ok (.bipush 80, 2) := by decide +kernel
theorem dX1_stepPercent_11 : decode cX1_stepPercent 11 = .ok (.ireturn, 1) := by decide +kernel
theorem dX1_stepPercent_12 : decode cX1_stepPercent 12 = .ok (.aload_n 0, 1) := by decide +kernel
theorem dX1_stepPercent_13 : decode cX1_stepPercent 13 = .ok (.getfield 66, 3) := by decide +kernel
theorem dX1_stepPercent_16 : decode cX1_stepPercent 16 = .ok (.bipush 12, 2) := by decide +kernel
theorem dX1_stepPercent_18 : decode cX1_stepPercent 18 = .ok (.if_icmp .lt 8, 3) := by decide +kernel
theorem dX1_stepPercent_21 : decode cX1_stepPercent 21 = .ok (.bipush 70, 2) := by decide +kernel
theorem dX1_stepPercent_23 : decode cX1_stepPercent 23 = .ok (.goto 5, 3) := by decide +kernel
theorem dX1_stepPercent_26 : decode cX1_stepPercent 26 = .ok (.bipush 60, 2) := by decide +kernel
theorem dX1_stepPercent_28 : decode cX1_stepPercent 28 = .ok (.ireturn, 1) := by decide +kernel
theorem dX1_hasWorkedTooMuch_0 : decode cX1_hasWorkedTooMuch 0 = .ok (.bipush 40, 2) := by decide +kernel
theorem dX1_hasWorkedTooMuch_2 : decode cX1_hasWorkedTooMuch 2 = .ok (.aload_n 0, 1) := by decide +kernel
theorem dX1_hasWorkedTooMuch_3 : decode cX1_hasWorkedTooMuch 3 = .ok (.getfield 19, 3) := by decide +kernel
theorem dX1_hasWorkedTooMuch_6 : decode cX1_hasWorkedTooMuch 6 = .ok (.iload_n 1, 1) := by decide +kernel
theorem dX1_hasWorkedTooMuch_7 : decode cX1_hasWorkedTooMuch 7 = .ok (.iaload, 1) := by decide +kernel
theorem dX1_hasWorkedTooMuch_8 : decode cX1_hasWorkedTooMuch 8 = .ok (.isub, 1) := by decide +kernel
theorem dX1_hasWorkedTooMuch_9 : decode cX1_hasWorkedTooMuch 9 = .ok (.iconst 2, 1) := by decide +kernel
theorem dX1_hasWorkedTooMuch_10 : decode cX1_hasWorkedTooMuch 10 = .ok (.iadd, 1) := by decide +kernel
theorem dX1_hasWorkedTooMuch_11 : decode cX1_hasWorkedTooMuch 11 = .ok (.istore_n 2, 1) := by decide +kernel
theorem dX1_hasWorkedTooMuch_12 : decode cX1_hasWorkedTooMuch 12 = .ok (.aload_n 0, 1) := by decide +kernel
theorem dX1_hasWorkedTooMuch_13 : decode cX1_hasWorkedTooMuch 13 = .ok (.getfield 32, 3) := by decide +kernel
theorem dX1_hasWorkedTooMuch_16 : decode cX1_hasWorkedTooMuch 16 = .ok (.iload_n 1, 1) := by decide +kernel
theorem dX1_hasWorkedTooMuch_17 : decode cX1_hasWorkedTooMuch 17 = .ok (.iaload, 1) := by decide +kernel
theorem dX1_hasWorkedTooMuch_18 : decode cX1_hasWorkedTooMuch 18 = .ok (.iload_n 2, 1) := by decide +kernel
theorem dX1_hasWorkedTooMuch_19 : decode cX1_hasWorkedTooMuch 19 = .ok (.if_icmp .le 16, 3) := by decide +kernel
theorem dX1_hasWorkedTooMuch_22 : decode cX1_hasWorkedTooMuch 22 = .ok (.aload_n 0, 1) := by decide +kernel
theorem dX1_hasWorkedTooMuch_23 : decode cX1_hasWorkedTooMuch 23 = .ok (.getfield 29, 3) := by decide +kernel
theorem dX1_hasWorkedTooMuch_26 : decode cX1_hasWorkedTooMuch 26 = .ok (.iload_n 1, 1) := by decide +kernel
theorem dX1_hasWorkedTooMuch_27 : decode cX1_hasWorkedTooMuch 27 = .ok (.iaload, 1) := by decide +kernel
theorem dX1_hasWorkedTooMuch_28 : decode cX1_hasWorkedTooMuch 28 = .ok (.ifCond .le 7, 3) := by decide +kernel
theorem dX1_hasWorkedTooMuch_31 : decode cX1_hasWorkedTooMuch 31 = .ok (.iconst 1, 1) := by decide +kernel
theorem dX1_hasWorkedTooMuch_32 : decode cX1_hasWorkedTooMuch 32 = .ok (.goto 4, 3) := by decide +kernel
theorem dX1_hasWorkedTooMuch_35 : decode cX1_hasWorkedTooMuch 35 = .ok (.iconst 0, 1) := by decide +kernel
theorem dX1_hasWorkedTooMuch_36 : decode cX1_hasWorkedTooMuch 36 = .ok (.ireturn, 1) := by decide +kernel
theorem dX2_init_0 : decode cX2_init 0 = .ok (.aload_n 0, 1) := by decide +kernel
theorem dX2_init_1 : decode cX2_init 1 = .ok (.invokespecial 3, 3) := by decide +kernel
theorem dX2_init_4 : decode cX2_init 4 = .ok (.aload_n 0, 1) := by decide +kernel
theorem dX2_init_5 : decode cX2_init 5 = .ok (.bipush 8, 2) := by decide +kernel
theorem dX2_init_7 : decode cX2_init 7 = .ok (.anewarray 9, 3) := by decide +kernel
theorem dX2_init_10 : decode cX2_init 10 = .ok (.putfield 11, 3) := by decide +kernel
theorem dX2_init_13 : decode cX2_init 13 = .ok (.aload_n 0, 1) := by decide +kernel
theorem dX2_init_14 : decode cX2_init 14 = .ok (.bipush 10, 2) := by decide +kernel
theorem dX2_init_16 : decode cX2_init 16 = .ok (.anewarray 15, 3) := by decide +kernel
theorem dX2_init_19 : decode cX2_init 19 = .ok (.putfield 17, 3) := by decide +kernel
theorem dX2_init_22 : decode cX2_init 22 = .ok (.aload_n 0, 1) := by decide +kernel
theorem dX2_init_23 : decode cX2_init 23 = .ok (.sipush 201, 3) := by decide +kernel
theorem dX2_init_26 : decode cX2_init 26 = .ok (.newarray .boolean, 2) := by decide +kernel
theorem dX2_init_28 : decode cX2_init 28 = .ok (.putfield 21, 3) := by decide +kernel
theorem dX2_init_31 : decode cX2_init 31 = .ok (.aload_n 0, 1) := by decide +kernel
theorem dX2_init_32 : decode cX2_init 32 = .ok (.bipush 50, 2) := by decide +kernel
theorem dX2_init_34 : decode cX2_init 34 = .ok (.putfield 25, 3) := by decide +kernel
theorem dX2_init_37 : decode cX2_init 37 = .ok (.return_, 1) := by decide +kernel
theorem dX2_add_0 : decode cX2_add 0 = .ok (.iload_n 1, 1) := by decide +kernel
theorem dX2_add_1 : decode cX2_add 1 = .ok (.iconst 1, 1) := by decide +kernel
theorem dX2_add_2 : decode cX2_add 2 = .ok (.ldc 29, 2) := by decide +kernel
theorem dX2_add_4 : decode cX2_add 4 = .ok (.invokestatic 30, 3) := by decide +kernel
theorem dX2_add_7 : decode cX2_add 7 = .ok (.invokestatic 34, 3) := by decide +kernel
theorem dX2_add_10 : decode cX2_add 10 = .ok (.aload_n 0, 1) := by decide +kernel
theorem dX2_add_11 : decode cX2_add 11 = .ok (.getfield 38, 3) := by decide +kernel
theorem dX2_add_14 : decode cX2_add 14 = .ok (.bipush 8, 2) := by decide +kernel
theorem dX2_add_16 : decode cX2_add 16 = .ok (.if_icmp .ge 7, 3) := by decide +kernel
theorem dX2_add_19 : decode cX2_add 19 = .ok (.iconst 1, 1) := by decide +kernel
theorem dX2_add_20 : decode cX2_add 20 = .ok (.goto 4, 3) := by decide +kernel
theorem dX2_add_23 : decode cX2_add 23 = .ok (.iconst 0, 1) := by decide +kernel
theorem dX2_add_24 : decode cX2_add 24 = .ok (.invokestatic 41, 3) := by decide +kernel
theorem dX2_add_27 : decode cX2_add 27 = .ok (.aload_n 0, 1) := by decide +kernel
theorem dX2_add_28 : decode cX2_add 28 = .ok (.getfield 38, 3) := by decide +kernel
theorem dX2_add_31 : decode cX2_add 31 = .ok (.istore_n 3, 1) := by decide +kernel
theorem dX2_add_32 : decode cX2_add 32 = .ok (.aload_n 0, 1) := by decide +kernel
theorem dX2_add_33 : decode cX2_add 33 = .ok (.getfield 11, 3) := by decide +kernel
theorem dX2_add_36 : decode cX2_add 36 = .ok (.iload_n 3, 1) := by decide +kernel
theorem dX2_add_37 : decode cX2_add 37 = .ok (.new 9, 3) := by decide +kernel
theorem dX2_add_40 : decode cX2_add 40 = .ok (.dup, 1) := by decide +kernel
theorem dX2_add_41 : decode cX2_add 41 = .ok (.iload_n 1, 1) := by decide +kernel
theorem dX2_add_42 : decode cX2_add 42 = .ok (.iload_n 2, 1) := by decide +kernel
theorem dX2_add_43 : decode cX2_add 43 = .ok (.invokespecial 44, 3) := by decide +kernel
theorem dX2_add_46 : decode cX2_add 46 = .ok (.aastore, 1) := by decide +kernel
theorem dX2_add_47 : decode cX2_add 47 = .ok (.aload_n 0, 1) := by decide +kernel
theorem dX2_add_48 : decode cX2_add 48 = .ok (.iload_n 3, 1) := by decide +kernel
theorem dX2_add_49 : decode cX2_add 49 = .ok (.iconst 1, 1) := by decide +kernel
theorem dX2_add_50 : decode cX2_add 50 = .ok (.iadd, 1) := by decide +kernel
theorem dX2_add_51 : decode cX2_add 51 = .ok (.putfield 38, 3) := by decide +kernel
theorem dX2_add_54 : decode cX2_add 54 = .ok (.iload_n 3, 1) := by decide +kernel
theorem dX2_add_55 : decode cX2_add 55 = .ok (.ireturn, 1) := by decide +kernel
theorem dX2_notice_0 : decode cX2_notice 0 = .ok (.aload_n 0, 1) := by decide +kernel
theorem dX2_notice_1 : decode cX2_notice 1 = .ok (.iload_n 1, 1) := by decide +kernel
theorem dX2_notice_2 : decode cX2_notice 2 = .ok (.invokevirtual 47, 3) := by decide +kernel
theorem dX2_notice_5 : decode cX2_notice 5 = .ok (.astore 5, 2) := by decide +kernel
theorem dX2_notice_7 : decode cX2_notice 7 = .ok (.iload_n 2, 1) := by decide +kernel
theorem dX2_notice_8 : decode cX2_notice 8 = .ok (.iload_n 3, 1) := by decide +kernel
theorem dX2_notice_9 : decode cX2_notice 9 = .ok (.invokestatic 51, 3) := by decide +kernel
theorem dX2_notice_12 : decode cX2_notice 12 = .ok (.ifCond .eq 18, 3) := by decide +kernel
theorem dX2_notice_15 : decode cX2_notice 15 = .ok (.iload 4, 2) := by decide +kernel
theorem dX2_notice_17 : decode cX2_notice 17 = .ok (.iconst 0, 1) := by decide +kernel
theorem dX2_notice_18 : decode cX2_notice 18 = .ok (.bipush 40, 2) := by decide +kernel
theorem dX2_notice_20 : decode cX2_notice 20 = .ok (.invokestatic 30, 3) := by decide +kernel
theorem dX2_notice_23 : decode cX2_notice 23 = .ok (.ifCond .eq 7, 3) := by decide +kernel
theorem dX2_notice_26 : decode cX2_notice 26 = .ok (.iconst 1, 1) := by decide +kernel
theorem dX2_notice_27 : decode cX2_notice 27 = .ok (.goto 4, 3) := by decide +kernel
theorem dX2_notice_30 : decode cX2_notice 30 = .ok (.iconst 0, 1) := by decide +kernel
theorem dX2_notice_31 : decode cX2_notice 31 = .ok (.invokestatic 34, 3) := by decide +kernel
theorem dX2_notice_34 : decode cX2_notice 34 = .ok (.iload_n 2, 1) := by decide +kernel
theorem dX2_notice_35 : decode cX2_notice 35 = .ok (.aload_n 0, 1) := by decide +kernel
theorem dX2_notice_36 : decode cX2_notice 36 = .ok (.getfield 55, 3) := by decide +kernel
theorem dX2_notice_39 : decode cX2_notice 39 = .ok (.iconst 2, 1) := by decide +kernel
theorem dX2_notice_40 : decode cX2_notice 40 = .ok (.iadd, 1) := by decide +kernel
theorem dX2_notice_41 : decode cX2_notice 41 = .ok (.if_icmp .lt 17, 3) := by decide +kernel
theorem dX2_notice_44 : decode cX2_notice 44 = .ok (.aload 5, 2) := by decide +kernel
theorem dX2_notice_46 : decode cX2_notice 46 = .ok (.getfield 58, 3) := by decide +kernel
theorem dX2_notice_49 : decode cX2_notice 49 = .ok (.bipush 30, 2) := by decide +kernel
theorem dX2_notice_51 : decode cX2_notice 51 = .ok (.if_icmp .ge 7, 3) := by decide +kernel
theorem dX2_notice_54 : decode cX2_notice 54 = .ok (.iconst 1, 1) := by decide +kernel
theorem dX2_notice_55 : decode cX2_notice 55 = .ok (.goto 4, 3) := by decide +kernel
theorem dX2_notice_58 : decode cX2_notice 58 = .ok (.iconst 0, 1) := by decide +kernel
theorem dX2_notice_59 : decode cX2_notice 59 = .ok (.invokestatic 41, 3) := by decide +kernel
theorem dX2_notice_62 : decode cX2_notice 62 = .ok (.aload 5, 2) := by decide +kernel
theorem dX2_notice_64 : decode cX2_notice 64 = .ok (.iload_n 2, 1) := by decide +kernel
theorem dX2_notice_65 : decode cX2_notice 65 = .ok (.iload_n 3, 1) := by decide +kernel
theorem dX2_notice_66 : decode cX2_notice 66 = .ok (.iload 4, 2) := by decide +kernel
theorem dX2_notice_68 : decode cX2_notice 68 = .ok (.invokevirtual 61, 3) := by decide +kernel
theorem dX2_notice_71 : decode cX2_notice 71 = .ok (.aload 5, 2) := by decide +kernel
theorem dX2_notice_73 : decode cX2_notice 73 = .ok (.getfield 58, 3) := by decide +kernel
theorem dX2_notice_76 : decode cX2_notice 76 = .ok (.ireturn, 1) := by decide +kernel
theorem dX2_addCourse_0 : decode cX2_addCourse 0 = .ok (.iload_n 1, 1) := by decide +kernel
theorem dX2_addCourse_1 : decode cX2_addCourse 1 = .ok (.iconst 1, 1) := by decide +kernel
theorem dX2_addCourse_2 : decode cX2_addCourse 2 = .ok (.bipush 8, 2) := by decide +kernel
theorem dX2_addCourse_4 : decode cX2_addCourse 4 = .ok (.invokestatic 30, 3) := by decide +kernel
theorem dX2_addCourse_7 : decode cX2_addCourse 7 = .ok (.ifCond .eq 26, 3) := by decide +kernel
theorem dX2_addCourse_10 : decode cX2_addCourse 10 = .ok (.iload_n 2, 1) := by decide +kernel
theorem dX2_addCourse_11 : decode cX2_addCourse 11 = .ok (.iload_n 3, 1) := by decide +kernel
theorem dX2_addCourse_12 : decode cX2_addCourse 12 = .ok (.invokestatic 51, 3) := by decide +kernel
theorem dX2_addCourse_15 : decode cX2_addCourse 15 = .ok (.ifCond .eq 18, 3) := by decide +kernel
theorem dX2_addCourse_18 : decode cX2_addCourse 18 = .ok (.iload 4, 2) := by decide +kernel
theorem dX2_addCourse_20 : decode cX2_addCourse 20 = .ok (.iconst 1, 1) := by decide +kernel
theorem dX2_addCourse_21 : decode cX2_addCourse 21 = .ok (.bipush 40, 2) := by decide +kernel
theorem dX2_addCourse_23 : decode cX2_addCourse 23 = .ok (.invokestatic 30, 3) := by decide +kernel
theorem dX2_addCourse_26 : decode cX2_addCourse 26 = .ok (.ifCond .eq 7, 3) := by decide +kernel
theorem dX2_addCourse_29 : decode cX2_addCourse 29 = .ok (.iconst 1, 1) := by decide +kernel
theorem dX2_addCourse_30 : decode cX2_addCourse 30 = .ok (.goto 4, 3) := by decide +kernel
theorem dX2_addCourse_33 : decode cX2_addCourse 33 = .ok (.iconst 0, 1) := by decide +kernel
theorem dX2_addCourse_34 : decode cX2_addCourse 34 = .ok (.invokestatic 34, 3) := by decide +kernel
theorem dX2_addCourse_37 : decode cX2_addCourse 37 = .ok (.aload_n 0, 1) := by decide +kernel
theorem dX2_addCourse_38 : decode cX2_addCourse 38 = .ok (.getfield 65, 3) := by decide +kernel
theorem dX2_addCourse_41 : decode cX2_addCourse 41 = .ok (.bipush 10, 2) := by decide +kernel
theorem dX2_addCourse_43 : decode cX2_addCourse 43 = .ok (.if_icmp .ge 7, 3) := by decide +kernel
theorem dX2_addCourse_46 : decode cX2_addCourse 46 = .ok (.iconst 1, 1) := by decide +kernel
theorem dX2_addCourse_47 : decode cX2_addCourse 47 = .ok (.goto 4, 3) := by decide +kernel
theorem dX2_addCourse_50 : decode cX2_addCourse 50 = .ok (.iconst 0, 1) := by decide +kernel
theorem dX2_addCourse_51 : decode cX2_addCourse 51 = .ok (.invokestatic 41, 3) := by decide +kernel
theorem dX2_addCourse_54 : decode cX2_addCourse 54 = .ok (.aload_n 0, 1) := by decide +kernel
theorem dX2_addCourse_55 : decode cX2_addCourse 55 = .ok (.getfield 65, 3) := by decide +kernel
theorem dX2_addCourse_58 : decode cX2_addCourse 58 = .ok (.istore 5, 2) := by decide +kernel
theorem dX2_addCourse_60 : decode cX2_addCourse 60 = .ok (.aload_n 0, 1) := by decide +kernel
theorem dX2_addCourse_61 : decode cX2_addCourse 61 = .ok (.getfield 17, 3) := by decide +kernel
theorem dX2_addCourse_64 : decode cX2_addCourse 64 = .ok (.iload 5, 2) := by decide +kernel
theorem dX2_addCourse_66 : decode cX2_addCourse 66 = .ok (.new 15, 3) := by decide +kernel
theorem dX2_addCourse_69 : decode cX2_addCourse 69 = .ok (.dup, 1) := by decide +kernel
theorem dX2_addCourse_70 : decode cX2_addCourse 70 = .ok (.iload_n 1, 1) := by decide +kernel
theorem dX2_addCourse_71 : decode cX2_addCourse 71 = .ok (.iload_n 2, 1) := by decide +kernel
theorem dX2_addCourse_72 : decode cX2_addCourse 72 = .ok (.iload_n 3, 1) := by decide +kernel
theorem dX2_addCourse_73 : decode cX2_addCourse 73 = .ok (.iload 4, 2) := by decide +kernel
theorem dX2_addCourse_75 : decode cX2_addCourse 75 = .ok (.invokespecial 68, 3) := by decide +kernel
theorem dX2_addCourse_78 : decode cX2_addCourse 78 = .ok (.aastore, 1) := by decide +kernel
theorem dX2_addCourse_79 : decode cX2_addCourse 79 = .ok (.aload_n 0, 1) := by decide +kernel
theorem dX2_addCourse_80 : decode cX2_addCourse 80 = .ok (.iload 5, 2) := by decide +kernel
theorem dX2_addCourse_82 : decode cX2_addCourse 82 = .ok (.iconst 1, 1) := by decide +kernel
theorem dX2_addCourse_83 : decode cX2_addCourse 83 = .ok (.iadd, 1) := by decide +kernel
theorem dX2_addCourse_84 : decode cX2_addCourse 84 = .ok (.putfield 65, 3) := by decide +kernel
theorem dX2_addCourse_87 : decode cX2_addCourse 87 = .ok (.iload 5, 2) := by decide +kernel
theorem dX2_addCourse_89 : decode cX2_addCourse 89 = .ok (.ireturn, 1) := by decide +kernel
theorem dX2_enrol_0 : decode cX2_enrol 0 = .ok (.aload_n 0, 1) := by decide +kernel
theorem dX2_enrol_1 : decode cX2_enrol 1 = .ok (.iload_n 1, 1) := by decide +kernel
theorem dX2_enrol_2 : decode cX2_enrol 2 = .ok (.invokevirtual 47, 3) := by decide +kernel
theorem dX2_enrol_5 : decode cX2_enrol 5 = .ok (.astore_n 3, 1) := by decide +kernel
theorem dX2_enrol_6 : decode cX2_enrol 6 = .ok (.aload_n 0, 1) := by decide +kernel
theorem dX2_enrol_7 : decode cX2_enrol 7 = .ok (.iload_n 2, 1) := by decide +kernel
theorem dX2_enrol_8 : decode cX2_enrol 8 = .ok (.invokevirtual 71, 3) := by decide +kernel
theorem dX2_enrol_11 : decode cX2_enrol 11 = .ok (.astore 4, 2) := by decide +kernel
theorem dX2_enrol_13 : decode cX2_enrol 13 = .ok (.aload 4, 2) := by decide +kernel
theorem dX2_enrol_15 : decode cX2_enrol 15 = .ok (.getfield 75, 3) := by decide +kernel
theorem dX2_enrol_18 : decode cX2_enrol 18 = .ok (.ifCond .le 36, 3) := by decide +kernel
theorem dX2_enrol_21 : decode cX2_enrol 21 = .ok (.aload 4, 2) := by decide +kernel
theorem dX2_enrol_23 : decode cX2_enrol 23 = .ok (.getfield 78, 3) := by decide +kernel
theorem dX2_enrol_26 : decode cX2_enrol 26 = .ok (.aload_n 0, 1) := by decide +kernel
theorem dX2_enrol_27 : decode cX2_enrol 27 = .ok (.getfield 55, 3) := by decide +kernel
theorem dX2_enrol_30 : decode cX2_enrol 30 = .ok (.if_icmp .lt 24, 3) := by decide +kernel
theorem dX2_enrol_33 : decode cX2_enrol 33 = .ok (.aload_n 3, 1) := by decide +kernel
theorem dX2_enrol_34 : decode cX2_enrol 34 = .ok (.aload 4, 2) := by decide +kernel
theorem dX2_enrol_36 : decode cX2_enrol 36 = .ok (.getfield 81, 3) := by decide +kernel
theorem dX2_enrol_39 : decode cX2_enrol 39 = .ok (.aload 4, 2) := by decide +kernel
theorem dX2_enrol_41 : decode cX2_enrol 41 = .ok (.getfield 78, 3) := by decide +kernel
theorem dX2_enrol_44 : decode cX2_enrol 44 = .ok (.invokevirtual 84, 3) := by decide +kernel
theorem dX2_enrol_47 : decode cX2_enrol 47 = .ok (.ifCond .eq 7, 3) := by decide +kernel
theorem dX2_enrol_50 : decode cX2_enrol 50 = .ok (.iconst 1, 1) := by decide +kernel
theorem dX2_enrol_51 : decode cX2_enrol 51 = .ok (.goto 4, 3) := by decide +kernel
theorem dX2_enrol_54 : decode cX2_enrol 54 = .ok (.iconst 0, 1) := by decide +kernel
theorem dX2_enrol_55 : decode cX2_enrol 55 = .ok (.invokestatic 41, 3) := by decide +kernel
theorem dX2_enrol_58 : decode cX2_enrol 58 = .ok (.aload_n 3, 1) := by decide +kernel
theorem dX2_enrol_59 : decode cX2_enrol 59 = .ok (.aload 4, 2) := by decide +kernel
theorem dX2_enrol_61 : decode cX2_enrol 61 = .ok (.invokevirtual 87, 3) := by decide +kernel
theorem dX2_enrol_64 : decode cX2_enrol 64 = .ok (.aload 4, 2) := by decide +kernel
theorem dX2_enrol_66 : decode cX2_enrol 66 = .ok (.dup, 1) := by decide +kernel
theorem dX2_enrol_67 : decode cX2_enrol 67 = .ok (.getfield 75, 3) := by decide +kernel
theorem dX2_enrol_70 : decode cX2_enrol 70 = .ok (.iconst 1, 1) := by decide +kernel
theorem dX2_enrol_71 : decode cX2_enrol 71 = .ok (.isub, 1) := by decide +kernel
theorem dX2_enrol_72 : decode cX2_enrol 72 = .ok (.putfield 75, 3) := by decide +kernel
theorem dX2_enrol_75 : decode cX2_enrol 75 = .ok (.aload 4, 2) := by decide +kernel
theorem dX2_enrol_77 : decode cX2_enrol 77 = .ok (.getfield 75, 3) := by decide +kernel
theorem dX2_enrol_80 : decode cX2_enrol 80 = .ok (.ireturn, 1) := by decide +kernel
theorem dX2_setFloor_0 : decode cX2_setFloor 0 = .ok (.iload_n 1, 1) := by decide +kernel
theorem dX2_setFloor_1 : decode cX2_setFloor 1 = .ok (.iconst 0, 1) := by decide +kernel
theorem dX2_setFloor_2 : decode cX2_setFloor 2 = .ok (.bipush 100, 2) := by decide +kernel
theorem dX2_setFloor_4 : decode cX2_setFloor 4 = .ok (.invokestatic 30, 3) := by decide +kernel
theorem dX2_setFloor_7 : decode cX2_setFloor 7 = .ok (.invokestatic 34, 3) := by decide +kernel
theorem dX2_setFloor_10 : decode cX2_setFloor 10 = .ok (.aload_n 0, 1) := by decide +kernel
theorem dX2_setFloor_11 : decode cX2_setFloor 11 = .ok (.getfield 25, 3) := by decide +kernel
theorem dX2_setFloor_14 : decode cX2_setFloor 14 = .ok (.istore_n 2, 1) := by decide +kernel
theorem dX2_setFloor_15 : decode cX2_setFloor 15 = .ok (.aload_n 0, 1) := by decide +kernel
theorem dX2_setFloor_16 : decode cX2_setFloor 16 = .ok (.iload_n 1, 1) := by decide +kernel
theorem dX2_setFloor_17 : decode cX2_setFloor 17 = .ok (.putfield 25, 3) := by decide +kernel
theorem dX2_setFloor_20 : decode cX2_setFloor 20 = .ok (.iload_n 2, 1) := by decide +kernel
theorem dX2_setFloor_21 : decode cX2_setFloor 21 = .ok (.ireturn, 1) := by decide +kernel
theorem dX2_workers_0 : decode cX2_workers 0 = .ok (.aload_n 0, 1) := by decide +kernel
theorem dX2_workers_1 : decode cX2_workers 1 = .ok (.getfield 38, 3) := by decide +kernel
theorem dX2_workers_4 : decode cX2_workers 4 = .ok (.ireturn, 1) := by decide +kernel
theorem dX2_cut_0 : decode cX2_cut 0 = .ok (.aload_n 0, 1) := by decide +kernel
theorem dX2_cut_1 : decode cX2_cut 1 = .ok (.iload_n 1, 1) := by decide +kernel
theorem dX2_cut_2 : decode cX2_cut 2 = .ok (.invokevirtual 47, 3) := by decide +kernel
theorem dX2_cut_5 : decode cX2_cut 5 = .ok (.astore_n 3, 1) := by decide +kernel
theorem dX2_cut_6 : decode cX2_cut 6 = .ok (.iload_n 2, 1) := by decide +kernel
theorem dX2_cut_7 : decode cX2_cut 7 = .ok (.iconst 0, 1) := by decide +kernel
theorem dX2_cut_8 : decode cX2_cut 8 = .ok (.sipush 200, 3) := by decide +kernel
theorem dX2_cut_11 : decode cX2_cut 11 = .ok (.invokestatic 30, 3) := by decide +kernel
theorem dX2_cut_14 : decode cX2_cut 14 = .ok (.invokestatic 34, 3) := by decide +kernel
theorem dX2_cut_17 : decode cX2_cut 17 = .ok (.aload_n 3, 1) := by decide +kernel
theorem dX2_cut_18 : decode cX2_cut 18 = .ok (.getfield 91, 3) := by decide +kernel
theorem dX2_cut_21 : decode cX2_cut 21 = .ok (.iload_n 2, 1) := by decide +kernel
theorem dX2_cut_22 : decode cX2_cut 22 = .ok (.iaload, 1) := by decide +kernel
theorem dX2_cut_23 : decode cX2_cut 23 = .ok (.ireturn, 1) := by decide +kernel
theorem dX2_isFilled_0 : decode cX2_isFilled 0 = .ok (.aload_n 0, 1) := by decide +kernel
theorem dX2_isFilled_1 : decode cX2_isFilled 1 = .ok (.iload_n 1, 1) := by decide +kernel
theorem dX2_isFilled_2 : decode cX2_isFilled 2 = .ok (.invokevirtual 47, 3) := by decide +kernel
theorem dX2_isFilled_5 : decode cX2_isFilled 5 = .ok (.astore_n 3, 1) := by decide +kernel
theorem dX2_isFilled_6 : decode cX2_isFilled 6 = .ok (.iload_n 2, 1) := by decide +kernel
theorem dX2_isFilled_7 : decode cX2_isFilled 7 = .ok (.iconst 0, 1) := by decide +kernel
theorem dX2_isFilled_8 : decode cX2_isFilled 8 = .ok (.sipush 200, 3) := by decide +kernel
theorem dX2_isFilled_11 : decode cX2_isFilled 11 = .ok (.invokestatic 30, 3) := by decide +kernel
theorem dX2_isFilled_14 : decode cX2_isFilled 14 = .ok (.invokestatic 34, 3) := by decide +kernel
theorem dX2_isFilled_17 : decode cX2_isFilled 17 = .ok (.aload_n 3, 1) := by decide +kernel
theorem dX2_isFilled_18 : decode cX2_isFilled 18 = .ok (.iload_n 2, 1) := by decide +kernel
theorem dX2_isFilled_19 : decode cX2_isFilled 19 = .ok (.invokevirtual 95, 3) := by decide +kernel
theorem dX2_isFilled_22 : decode cX2_isFilled 22 = .ok (.ireturn, 1) := by decide +kernel
theorem dX2_pass_0 : decode cX2_pass 0 = .ok (.iload_n 1, 1) := by decide +kernel
theorem dX2_pass_1 : decode cX2_pass 1 = .ok (.iconst 1, 1) := by decide +kernel
theorem dX2_pass_2 : decode cX2_pass 2 = .ok (.bipush 60, 2) := by decide +kernel
theorem dX2_pass_4 : decode cX2_pass 4 = .ok (.invokestatic 30, 3) := by decide +kernel
theorem dX2_pass_7 : decode cX2_pass 7 = .ok (.invokestatic 34, 3) := by decide +kernel
theorem dX2_pass_10 : decode cX2_pass 10 = .ok (.aload_n 0, 1) := by decide +kernel
theorem dX2_pass_11 : decode cX2_pass 11 = .ok (.getfield 55, 3) := by decide +kernel
theorem dX2_pass_14 : decode cX2_pass 14 = .ok (.iload_n 1, 1) := by decide +kernel
theorem dX2_pass_15 : decode cX2_pass 15 = .ok (.iadd, 1) := by decide +kernel
theorem dX2_pass_16 : decode cX2_pass 16 = .ok (.sipush 201, 3) := by decide +kernel
theorem dX2_pass_19 : decode cX2_pass 19 = .ok (.if_icmp .gt 7, 3) := by decide +kernel
theorem dX2_pass_22 : decode cX2_pass 22 = .ok (.iconst 1, 1) := by decide +kernel
theorem dX2_pass_23 : decode cX2_pass 23 = .ok (.goto 4, 3) := by decide +kernel
theorem dX2_pass_26 : decode cX2_pass 26 = .ok (.iconst 0, 1) := by decide +kernel
theorem dX2_pass_27 : decode cX2_pass 27 = .ok (.invokestatic 41, 3) := by decide +kernel
theorem dX2_pass_30 : decode cX2_pass 30 = .ok (.iconst 0, 1) := by decide +kernel
theorem dX2_pass_31 : decode cX2_pass 31 = .ok (.istore_n 2, 1) := by decide +kernel
theorem dX2_pass_32 : decode cX2_pass 32 = .ok (.iconst 0, 1) := by decide +kernel
theorem dX2_pass_33 : decode cX2_pass 33 = .ok (.istore_n 3, 1) := by decide +kernel
theorem dX2_pass_34 : decode cX2_pass 34 = .ok (.iload_n 3, 1) := by decide +kernel
theorem dX2_pass_35 : decode cX2_pass 35 = .ok (.iload_n 1, 1) := by decide +kernel
theorem dX2_pass_36 : decode cX2_pass 36 = .ok (.if_icmp .ge 26, 3) := by decide +kernel
theorem dX2_pass_39 : decode cX2_pass 39 = .ok (.iload_n 2, 1) := by decide +kernel
theorem dX2_pass_40 : decode cX2_pass 40 = .ok (.aload_n 0, 1) := by decide +kernel
theorem dX2_pass_41 : decode cX2_pass 41 = .ok (.invokevirtual 99, 3) := by decide +kernel
theorem dX2_pass_44 : decode cX2_pass 44 = .ok (.iadd, 1) := by decide +kernel
theorem dX2_pass_45 : decode cX2_pass 45 = .ok (.istore_n 2, 1) := by decide +kernel
theorem dX2_pass_46 : decode cX2_pass 46 = .ok (.aload_n 0, 1) := by decide +kernel
theorem dX2_pass_47 : decode cX2_pass 47 = .ok (.dup, 1) := by decide +kernel
theorem dX2_pass_48 : decode cX2_pass 48 = .ok (.getfield 55, 3) := by decide +kernel
theorem dX2_pass_51 : decode cX2_pass 51 = .ok (.iconst 1, 1) := by decide +kernel
theorem dX2_pass_52 : decode cX2_pass 52 = .ok (.iadd, 1) := by decide +kernel
theorem dX2_pass_53 : decode cX2_pass 53 = .ok (.putfield 55, 3) := by decide +kernel
theorem dX2_pass_56 : decode cX2_pass 56 = .ok (.iinc 3 1, 3) := by decide +kernel
theorem dX2_pass_59 : decode cX2_pass 59 = .ok (.goto (-25), 3) := by decide +kernel
theorem dX2_pass_62 : decode cX2_pass 62 = .ok (.iload_n 2, 1) := by decide +kernel
theorem dX2_pass_63 : decode cX2_pass 63 = .ok (.ireturn, 1) := by decide +kernel
theorem dX2_week_0 : decode cX2_week 0 = .ok (.aload_n 0, 1) := by decide +kernel
theorem dX2_week_1 : decode cX2_week 1 = .ok (.getfield 55, 3) := by decide +kernel
theorem dX2_week_4 : decode cX2_week 4 = .ok (.ireturn, 1) := by decide +kernel
theorem dX2_paid_0 : decode cX2_paid 0 = .ok (.aload_n 0, 1) := by decide +kernel
theorem dX2_paid_1 : decode cX2_paid 1 = .ok (.iload_n 1, 1) := by decide +kernel
theorem dX2_paid_2 : decode cX2_paid 2 = .ok (.invokevirtual 47, 3) := by decide +kernel
theorem dX2_paid_5 : decode cX2_paid 5 = .ok (.astore_n 3, 1) := by decide +kernel
theorem dX2_paid_6 : decode cX2_paid 6 = .ok (.aload_n 0, 1) := by decide +kernel
theorem dX2_paid_7 : decode cX2_paid 7 = .ok (.iload_n 2, 1) := by decide +kernel
theorem dX2_paid_8 : decode cX2_paid 8 = .ok (.invokevirtual 103, 3) := by decide +kernel
theorem dX2_paid_11 : decode cX2_paid 11 = .ok (.invokestatic 34, 3) := by decide +kernel
theorem dX2_paid_14 : decode cX2_paid 14 = .ok (.aload_n 3, 1) := by decide +kernel
theorem dX2_paid_15 : decode cX2_paid 15 = .ok (.getfield 106, 3) := by decide +kernel
theorem dX2_paid_18 : decode cX2_paid 18 = .ok (.iload_n 2, 1) := by decide +kernel
theorem dX2_paid_19 : decode cX2_paid 19 = .ok (.iaload, 1) := by decide +kernel
theorem dX2_paid_20 : decode cX2_paid 20 = .ok (.ireturn, 1) := by decide +kernel
theorem dX2_madeUp_0 : decode cX2_madeUp 0 = .ok (.aload_n 0, 1) := by decide +kernel
theorem dX2_madeUp_1 : decode cX2_madeUp 1 = .ok (.iload_n 1, 1) := by decide +kernel
theorem dX2_madeUp_2 : decode cX2_madeUp 2 = .ok (.invokevirtual 47, 3) := by decide +kernel
theorem dX2_madeUp_5 : decode cX2_madeUp 5 = .ok (.astore_n 3, 1) := by decide +kernel
theorem dX2_madeUp_6 : decode cX2_madeUp 6 = .ok (.aload_n 0, 1) := by decide +kernel
theorem dX2_madeUp_7 : decode cX2_madeUp 7 = .ok (.iload_n 2, 1) := by decide +kernel
theorem dX2_madeUp_8 : decode cX2_madeUp 8 = .ok (.invokevirtual 103, 3) := by decide +kernel
theorem dX2_madeUp_11 : decode cX2_madeUp 11 = .ok (.invokestatic 34, 3) := by decide +kernel
theorem dX2_madeUp_14 : decode cX2_madeUp 14 = .ok (.aload_n 3, 1) := by decide +kernel
theorem dX2_madeUp_15 : decode cX2_madeUp 15 = .ok (.getfield 109, 3) := by decide +kernel
theorem dX2_madeUp_18 : decode cX2_madeUp 18 = .ok (.iload_n 2, 1) := by decide +kernel
theorem dX2_madeUp_19 : decode cX2_madeUp 19 = .ok (.iaload, 1) := by decide +kernel
theorem dX2_madeUp_20 : decode cX2_madeUp 20 = .ok (.ireturn, 1) := by decide +kernel
theorem dX2_cutWeeks_0 : decode cX2_cutWeeks 0 = .ok (.aload_n 0, 1) := by decide +kernel
theorem dX2_cutWeeks_1 : decode cX2_cutWeeks 1 = .ok (.iload_n 1, 1) := by decide +kernel
theorem dX2_cutWeeks_2 : decode cX2_cutWeeks 2 = .ok (.invokevirtual 47, 3) := by decide +kernel
theorem dX2_cutWeeks_5 : decode cX2_cutWeeks 5 = .ok (.getfield 112, 3) := by decide +kernel
theorem dX2_cutWeeks_8 : decode cX2_cutWeeks 8 = .ok (.ireturn, 1) := by decide +kernel
theorem dX2_door_0 : decode cX2_door 0 = .ok (.aload_n 0, 1) := by decide +kernel
theorem dX2_door_1 : decode cX2_door 1 = .ok (.iload_n 1, 1) := by decide +kernel
theorem dX2_door_2 : decode cX2_door 2 = .ok (.invokevirtual 47, 3) := by decide +kernel
theorem dX2_door_5 : decode cX2_door 5 = .ok (.astore 4, 2) := by decide +kernel
theorem dX2_door_7 : decode cX2_door 7 = .ok (.aload_n 0, 1) := by decide +kernel
theorem dX2_door_8 : decode cX2_door 8 = .ok (.iload_n 2, 1) := by decide +kernel
theorem dX2_door_9 : decode cX2_door 9 = .ok (.invokevirtual 103, 3) := by decide +kernel
theorem dX2_door_12 : decode cX2_door 12 = .ok (.ifCond .eq 17, 3) := by decide +kernel
theorem dX2_door_15 : decode cX2_door 15 = .ok (.iload_n 3, 1) := by decide +kernel
theorem dX2_door_16 : decode cX2_door 16 = .ok (.iconst 0, 1) := by decide +kernel
theorem dX2_door_17 : decode cX2_door 17 = .ok (.bipush 80, 2) := by decide +kernel
theorem dX2_door_19 : decode cX2_door 19 = .ok (.invokestatic 30, 3) := by decide +kernel
theorem dX2_door_22 : decode cX2_door 22 = .ok (.ifCond .eq 7, 3) := by decide +kernel
theorem dX2_door_25 : decode cX2_door 25 = .ok (.iconst 1, 1) := by decide +kernel
theorem dX2_door_26 : decode cX2_door 26 = .ok (.goto 4, 3) := by decide +kernel
theorem dX2_door_29 : decode cX2_door 29 = .ok (.iconst 0, 1) := by decide +kernel
theorem dX2_door_30 : decode cX2_door 30 = .ok (.invokestatic 34, 3) := by decide +kernel
theorem dX2_door_33 : decode cX2_door 33 = .ok (.aload_n 0, 1) := by decide +kernel
theorem dX2_door_34 : decode cX2_door 34 = .ok (.getfield 21, 3) := by decide +kernel
theorem dX2_door_37 : decode cX2_door 37 = .ok (.iload_n 2, 1) := by decide +kernel
theorem dX2_door_38 : decode cX2_door 38 = .ok (.baload, 1) := by decide +kernel
theorem dX2_door_39 : decode cX2_door 39 = .ok (.ifCond .ne 7, 3) := by decide +kernel
theorem dX2_door_42 : decode cX2_door 42 = .ok (.iconst 1, 1) := by decide +kernel
theorem dX2_door_43 : decode cX2_door 43 = .ok (.goto 4, 3) := by decide +kernel
theorem dX2_door_46 : decode cX2_door 46 = .ok (.iconst 0, 1) := by decide +kernel
theorem dX2_door_47 : decode cX2_door 47 = .ok (.invokestatic 41, 3) := by decide +kernel
theorem dX2_door_50 : decode cX2_door 50 = .ok (.aload 4, 2) := by decide +kernel
theorem dX2_door_52 : decode cX2_door 52 = .ok (.getfield 115, 3) := by decide +kernel
theorem dX2_door_55 : decode cX2_door 55 = .ok (.iload_n 2, 1) := by decide +kernel
theorem dX2_door_56 : decode cX2_door 56 = .ok (.iload_n 3, 1) := by decide +kernel
theorem dX2_door_57 : decode cX2_door 57 = .ok (.iastore, 1) := by decide +kernel
theorem dX2_door_58 : decode cX2_door 58 = .ok (.return_, 1) := by decide +kernel
theorem dX2_mail_0 : decode cX2_mail 0 = .ok (.aload_n 0, 1) := by decide +kernel
theorem dX2_mail_1 : decode cX2_mail 1 = .ok (.iload_n 1, 1) := by decide +kernel
theorem dX2_mail_2 : decode cX2_mail 2 = .ok (.invokevirtual 47, 3) := by decide +kernel
theorem dX2_mail_5 : decode cX2_mail 5 = .ok (.astore_n 3, 1) := by decide +kernel
theorem dX2_mail_6 : decode cX2_mail 6 = .ok (.aload_n 0, 1) := by decide +kernel
theorem dX2_mail_7 : decode cX2_mail 7 = .ok (.iload_n 2, 1) := by decide +kernel
theorem dX2_mail_8 : decode cX2_mail 8 = .ok (.invokevirtual 103, 3) := by decide +kernel
theorem dX2_mail_11 : decode cX2_mail 11 = .ok (.invokestatic 34, 3) := by decide +kernel
theorem dX2_mail_14 : decode cX2_mail 14 = .ok (.aload_n 0, 1) := by decide +kernel
theorem dX2_mail_15 : decode cX2_mail 15 = .ok (.getfield 21, 3) := by decide +kernel
theorem dX2_mail_18 : decode cX2_mail 18 = .ok (.iload_n 2, 1) := by decide +kernel
theorem dX2_mail_19 : decode cX2_mail 19 = .ok (.baload, 1) := by decide +kernel
theorem dX2_mail_20 : decode cX2_mail 20 = .ok (.ifCond .ne 7, 3) := by decide +kernel
theorem dX2_mail_23 : decode cX2_mail 23 = .ok (.iconst 1, 1) := by decide +kernel
theorem dX2_mail_24 : decode cX2_mail 24 = .ok (.goto 4, 3) := by decide +kernel
theorem dX2_mail_27 : decode cX2_mail 27 = .ok (.iconst 0, 1) := by decide +kernel
theorem dX2_mail_28 : decode cX2_mail 28 = .ok (.invokestatic 41, 3) := by decide +kernel
theorem dX2_mail_31 : decode cX2_mail 31 = .ok (.aload_n 3, 1) := by decide +kernel
theorem dX2_mail_32 : decode cX2_mail 32 = .ok (.getfield 118, 3) := by decide +kernel
theorem dX2_mail_35 : decode cX2_mail 35 = .ok (.iload_n 2, 1) := by decide +kernel
theorem dX2_mail_36 : decode cX2_mail 36 = .ok (.iconst 1, 1) := by decide +kernel
theorem dX2_mail_37 : decode cX2_mail 37 = .ok (.bastore, 1) := by decide +kernel
theorem dX2_mail_38 : decode cX2_mail 38 = .ok (.return_, 1) := by decide +kernel
theorem dX2_check_0 : decode cX2_check 0 = .ok (.aload_n 0, 1) := by decide +kernel
theorem dX2_check_1 : decode cX2_check 1 = .ok (.iload_n 1, 1) := by decide +kernel
theorem dX2_check_2 : decode cX2_check 2 = .ok (.invokevirtual 103, 3) := by decide +kernel
theorem dX2_check_5 : decode cX2_check 5 = .ok (.invokestatic 34, 3) := by decide +kernel
theorem dX2_check_8 : decode cX2_check 8 = .ok (.aload_n 0, 1) := by decide +kernel
theorem dX2_check_9 : decode cX2_check 9 = .ok (.getfield 21, 3) := by decide +kernel
theorem dX2_check_12 : decode cX2_check 12 = .ok (.iload_n 1, 1) := by decide +kernel
theorem dX2_check_13 : decode cX2_check 13 = .ok (.baload, 1) := by decide +kernel
theorem dX2_check_14 : decode cX2_check 14 = .ok (.ifCond .ne 7, 3) := by decide +kernel
theorem dX2_check_17 : decode cX2_check 17 = .ok (.iconst 1, 1) := by decide +kernel
theorem dX2_check_18 : decode cX2_check 18 = .ok (.goto 4, 3) := by decide +kernel
theorem dX2_check_21 : decode cX2_check 21 = .ok (.iconst 0, 1) := by decide +kernel
theorem dX2_check_22 : decode cX2_check 22 = .ok (.invokestatic 41, 3) := by decide +kernel
theorem dX2_check_25 : decode cX2_check 25 = .ok (.aload_n 0, 1) := by decide +kernel
theorem dX2_check_26 : decode cX2_check 26 = .ok (.getfield 21, 3) := by decide +kernel
theorem dX2_check_29 : decode cX2_check 29 = .ok (.iload_n 1, 1) := by decide +kernel
theorem dX2_check_30 : decode cX2_check 30 = .ok (.iconst 1, 1) := by decide +kernel
theorem dX2_check_31 : decode cX2_check 31 = .ok (.bastore, 1) := by decide +kernel
theorem dX2_check_32 : decode cX2_check 32 = .ok (.iconst 0, 1) := by decide +kernel
theorem dX2_check_33 : decode cX2_check 33 = .ok (.istore_n 2, 1) := by decide +kernel
theorem dX2_check_34 : decode cX2_check 34 = .ok (.aload_n 0, 1) := by decide +kernel
theorem dX2_check_35 : decode cX2_check 35 = .ok (.getfield 11, 3) := by decide +kernel
theorem dX2_check_38 : decode cX2_check 38 = .ok (.astore_n 3, 1) := by decide +kernel
theorem dX2_check_39 : decode cX2_check 39 = .ok (.aload_n 3, 1) := by decide +kernel
theorem dX2_check_40 : decode cX2_check 40 = .ok (.arraylength, 1) := by decide +kernel
theorem dX2_check_41 : decode cX2_check 41 = .ok (.istore 4, 2) := by decide +kernel
theorem dX2_check_43 : decode cX2_check 43 = .ok (.iconst 0, 1) := by decide +kernel
theorem dX2_check_44 : decode cX2_check 44 = .ok (.istore 5, 2) := by decide +kernel
theorem dX2_check_46 : decode cX2_check 46 = .ok (.iload 5, 2) := by decide +kernel
theorem dX2_check_48 : decode cX2_check 48 = .ok (.iload 4, 2) := by decide +kernel
theorem dX2_check_50 : decode cX2_check 50 = .ok (.if_icmp .ge 39, 3) := by decide +kernel
theorem dX2_check_53 : decode cX2_check 53 = .ok (.aload_n 3, 1) := by decide +kernel
theorem dX2_check_54 : decode cX2_check 54 = .ok (.iload 5, 2) := by decide +kernel
theorem dX2_check_56 : decode cX2_check 56 = .ok (.aaload, 1) := by decide +kernel
theorem dX2_check_57 : decode cX2_check 57 = .ok (.astore 6, 2) := by decide +kernel
theorem dX2_check_59 : decode cX2_check 59 = .ok (.aload 6, 2) := by decide +kernel
theorem dX2_check_61 : decode cX2_check 61 = .ok (.ifnull 22, 3) := by decide +kernel
theorem dX2_check_64 : decode cX2_check 64 = .ok (.aload 6, 2) := by decide +kernel
theorem dX2_check_66 : decode cX2_check 66 = .ok (.iload_n 1, 1) := by decide +kernel
theorem dX2_check_67 : decode cX2_check 67 = .ok (.invokevirtual 121, 3) := by decide +kernel
theorem dX2_check_70 : decode cX2_check 70 = .ok (.ifCond .eq 13, 3) := by decide +kernel
theorem dX2_check_73 : decode cX2_check 73 = .ok (.aload_n 0, 1) := by decide +kernel
theorem dX2_check_74 : decode cX2_check 74 = .ok (.aload 6, 2) := by decide +kernel
theorem dX2_check_76 : decode cX2_check 76 = .ok (.iload_n 1, 1) := by decide +kernel
theorem dX2_check_77 : decode cX2_check 77 = .ok (.invokevirtual 124, 3) := by decide +kernel
theorem dX2_check_80 : decode cX2_check 80 = .ok (.iinc 2 1, 3) := by decide +kernel
theorem dX2_check_83 : decode cX2_check 83 = .ok (.iinc 5 1, 3) := by decide +kernel
theorem dX2_check_86 : decode cX2_check 86 = .ok (.goto (-40), 3) := by decide +kernel
theorem dX2_check_89 : decode cX2_check 89 = .ok (.iload_n 2, 1) := by decide +kernel
theorem dX2_check_90 : decode cX2_check 90 = .ok (.ireturn, 1) := by decide +kernel
theorem dX2_firmOwes_0 : decode cX2_firmOwes 0 = .ok (.aload_n 0, 1) := by decide +kernel
theorem dX2_firmOwes_1 : decode cX2_firmOwes 1 = .ok (.getfield 128, 3) := by decide +kernel
theorem dX2_firmOwes_4 : decode cX2_firmOwes 4 = .ok (.ireturn, 1) := by decide +kernel
theorem dX2_owes_0 : decode cX2_owes 0 = .ok (.aload_n 0, 1) := by decide +kernel
theorem dX2_owes_1 : decode cX2_owes 1 = .ok (.iload_n 1, 1) := by decide +kernel
theorem dX2_owes_2 : decode cX2_owes 2 = .ok (.invokevirtual 47, 3) := by decide +kernel
theorem dX2_owes_5 : decode cX2_owes 5 = .ok (.getfield 131, 3) := by decide +kernel
theorem dX2_owes_8 : decode cX2_owes 8 = .ok (.ireturn, 1) := by decide +kernel
theorem dX2_net_0 : decode cX2_net 0 = .ok (.aload_n 0, 1) := by decide +kernel
theorem dX2_net_1 : decode cX2_net 1 = .ok (.iload_n 1, 1) := by decide +kernel
theorem dX2_net_2 : decode cX2_net 2 = .ok (.invokevirtual 47, 3) := by decide +kernel
theorem dX2_net_5 : decode cX2_net 5 = .ok (.astore_n 2, 1) := by decide +kernel
theorem dX2_net_6 : decode cX2_net 6 = .ok (.aload_n 2, 1) := by decide +kernel
theorem dX2_net_7 : decode cX2_net 7 = .ok (.getfield 134, 3) := by decide +kernel
theorem dX2_net_10 : decode cX2_net 10 = .ok (.aload_n 2, 1) := by decide +kernel
theorem dX2_net_11 : decode cX2_net 11 = .ok (.getfield 131, 3) := by decide +kernel
theorem dX2_net_14 : decode cX2_net 14 = .ok (.isub, 1) := by decide +kernel
theorem dX2_net_15 : decode cX2_net 15 = .ok (.ireturn, 1) := by decide +kernel
theorem dX2_payCurrentWeek_0 : decode cX2_payCurrentWeek 0 = .ok (.iconst 0, 1) := by decide +kernel
theorem dX2_payCurrentWeek_1 : decode cX2_payCurrentWeek 1 = .ok (.istore_n 1, 1) := by decide +kernel
theorem dX2_payCurrentWeek_2 : decode cX2_payCurrentWeek 2 = .ok (.aload_n 0, 1) := by decide +kernel
theorem dX2_payCurrentWeek_3 : decode cX2_payCurrentWeek 3 = .ok (.getfield 11, 3) := by decide +kernel
theorem dX2_payCurrentWeek_6 : decode cX2_payCurrentWeek 6 = .ok (.astore_n 2, 1) := by decide +kernel
theorem dX2_payCurrentWeek_7 : decode cX2_payCurrentWeek 7 = .ok (.aload_n 2, 1) := by decide +kernel
theorem dX2_payCurrentWeek_8 : decode cX2_payCurrentWeek 8 = .ok (.arraylength, 1) := by decide +kernel
theorem dX2_payCurrentWeek_9 : decode cX2_payCurrentWeek 9 = .ok (.istore_n 3, 1) := by decide +kernel
theorem dX2_payCurrentWeek_10 : decode cX2_payCurrentWeek 10 = .ok (.iconst 0, 1) := by decide +kernel
theorem dX2_payCurrentWeek_11 : decode cX2_payCurrentWeek 11 = .ok (.istore 4, 2) := by decide +kernel
theorem dX2_payCurrentWeek_13 : decode cX2_payCurrentWeek 13 = .ok (.iload 4, 2) := by decide +kernel
theorem dX2_payCurrentWeek_15 : decode cX2_payCurrentWeek 15 = .ok (.iload_n 3, 1) := by decide +kernel
theorem dX2_payCurrentWeek_16 : decode cX2_payCurrentWeek 16 = .ok (.if_icmp .ge 36, 3) := by decide +kernel
theorem dX2_payCurrentWeek_19 : decode cX2_payCurrentWeek 19 = .ok (.aload_n 2, 1) := by decide +kernel
theorem dX2_payCurrentWeek_20 : decode cX2_payCurrentWeek 20 = .ok (.iload 4, 2) := by decide +kernel
theorem dX2_payCurrentWeek_22 : decode cX2_payCurrentWeek 22 = .ok (.aaload, 1) := by decide +kernel
theorem dX2_payCurrentWeek_23 : decode cX2_payCurrentWeek 23 = .ok (.astore 5, 2) := by decide +kernel
theorem dX2_payCurrentWeek_25 : decode cX2_payCurrentWeek 25 = .ok (.aload 5, 2) := by decide +kernel
theorem dX2_payCurrentWeek_27 : decode cX2_payCurrentWeek 27 = .ok (.ifnull 19, 3) := by decide +kernel
theorem dX2_payCurrentWeek_30 : decode cX2_payCurrentWeek 30 = .ok (.iload_n 1, 1) := by decide +kernel
theorem dX2_payCurrentWeek_31 : decode cX2_payCurrentWeek 31 = .ok (.aload 5, 2) := by decide +kernel
theorem dX2_payCurrentWeek_33 : decode cX2_payCurrentWeek 33 = .ok (.aload_n 0, 1) := by decide +kernel
theorem dX2_payCurrentWeek_34 : decode cX2_payCurrentWeek 34 = .ok (.getfield 55, 3) := by decide +kernel
theorem dX2_payCurrentWeek_37 : decode cX2_payCurrentWeek 37 = .ok (.aload_n 0, 1) := by decide +kernel
theorem dX2_payCurrentWeek_38 : decode cX2_payCurrentWeek 38 = .ok (.getfield 25, 3) := by decide +kernel
theorem dX2_payCurrentWeek_41 : decode cX2_payCurrentWeek 41 = .ok (.invokevirtual 137, 3) := by decide +kernel
theorem dX2_payCurrentWeek_44 : decode cX2_payCurrentWeek 44 = .ok (.iadd, 1) := by decide +kernel
theorem dX2_payCurrentWeek_45 : decode cX2_payCurrentWeek 45 = .ok (.istore_n 1, 1) := by decide +kernel
theorem dX2_payCurrentWeek_46 : decode cX2_payCurrentWeek 46 = .ok (.iinc 4 1, 3) := by decide +kernel
theorem dX2_payCurrentWeek_49 : decode cX2_payCurrentWeek 49 = .ok (.goto (-36), 3) := by decide +kernel
theorem dX2_payCurrentWeek_52 : decode cX2_payCurrentWeek 52 = .ok (.iload_n 1, 1) := by decide +kernel
theorem dX2_payCurrentWeek_53 : decode cX2_payCurrentWeek 53 = .ok (.ireturn, 1) := by decide +kernel
theorem dX2_chargeBack_0 : decode cX2_chargeBack 0 = .ok (.aload_n 1, 1) := by decide +kernel
theorem dX2_chargeBack_1 : decode cX2_chargeBack 1 = .ok (.getfield 109, 3) := by decide +kernel
theorem dX2_chargeBack_4 : decode cX2_chargeBack 4 = .ok (.iload_n 2, 1) := by decide +kernel
theorem dX2_chargeBack_5 : decode cX2_chargeBack 5 = .ok (.iaload, 1) := by decide +kernel
theorem dX2_chargeBack_6 : decode cX2_chargeBack 6 = .ok (.istore_n 3, 1) := by decide +kernel
theorem dX2_chargeBack_7 : decode cX2_chargeBack 7 = .ok (.aload_n 1, 1) := by decide +kernel
theorem dX2_chargeBack_8 : decode cX2_chargeBack 8 = .ok (.getfield 118, 3) := by decide +kernel
theorem dX2_chargeBack_11 : decode cX2_chargeBack 11 = .ok (.iload_n 2, 1) := by decide +kernel
theorem dX2_chargeBack_12 : decode cX2_chargeBack 12 = .ok (.baload, 1) := by decide +kernel
theorem dX2_chargeBack_13 : decode cX2_chargeBack 13 = .ok (.ifCond .eq 24, 3) := by decide +kernel
theorem dX2_chargeBack_16 : decode cX2_chargeBack 16 = .ok (.aload_n 0, 1) := by decide +kernel
theorem dX2_chargeBack_17 : decode cX2_chargeBack 17 = .ok (.dup, 1) := by decide +kernel
theorem dX2_chargeBack_18 : decode cX2_chargeBack 18 = .ok (.getfield 128, 3) := by decide +kernel
theorem dX2_chargeBack_21 : decode cX2_chargeBack 21 = .ok (.iload_n 3, 1) := by decide +kernel
theorem dX2_chargeBack_22 : decode cX2_chargeBack 22 = .ok (.iload_n 3, 1) := by decide +kernel
theorem dX2_chargeBack_23 : decode cX2_chargeBack 23 = .ok (.bipush 10, 2) := by decide +kernel
theorem dX2_chargeBack_25 : decode cX2_chargeBack 25 = .ok (.imul, 1) := by decide +kernel
theorem dX2_chargeBack_26 : decode cX2_chargeBack 26 = .ok (.bipush 100, 2) := by decide +kernel
theorem dX2_chargeBack_28 : decode cX2_chargeBack 28 = .ok (.idiv, 1) := by decide +kernel
theorem dX2_chargeBack_29 : decode cX2_chargeBack 29 = .ok (.iadd, 1) := by decide +kernel
theorem dX2_chargeBack_30 : decode cX2_chargeBack 30 = .ok (.iadd, 1) := by decide +kernel
theorem dX2_chargeBack_31 : decode cX2_chargeBack 31 = .ok (.putfield 128, 3) := by decide +kernel
theorem dX2_chargeBack_34 : decode cX2_chargeBack 34 = .ok (.goto 32, 3) := by decide +kernel
theorem dX2_chargeBack_37 : decode cX2_chargeBack 37 = .ok (.iload_n 3, 1) := by decide +kernel
theorem dX2_chargeBack_38 : decode cX2_chargeBack 38 = .ok (.iconst 2, 1) := by decide +kernel
theorem dX2_chargeBack_39 : decode cX2_chargeBack 39 = .ok (.idiv, 1) := by decide +kernel
theorem dX2_chargeBack_40 : decode cX2_chargeBack 40 = .ok (.istore 4, 2) := by decide +kernel
theorem dX2_chargeBack_42 : decode cX2_chargeBack 42 = .ok (.aload_n 1, 1) := by decide +kernel
theorem dX2_chargeBack_43 : decode cX2_chargeBack 43 = .ok (.dup, 1) := by decide +kernel
theorem dX2_chargeBack_44 : decode cX2_chargeBack 44 = .ok (.getfield 131, 3) := by decide +kernel
theorem dX2_chargeBack_47 : decode cX2_chargeBack 47 = .ok (.iload 4, 2) := by decide +kernel
theorem dX2_chargeBack_49 : decode cX2_chargeBack 49 = .ok (.iadd, 1) := by decide +kernel
theorem dX2_chargeBack_50 : decode cX2_chargeBack 50 = .ok (.putfield 131, 3) := by decide +kernel
theorem dX2_chargeBack_53 : decode cX2_chargeBack 53 = .ok (.aload_n 0, 1) := by decide +kernel
theorem dX2_chargeBack_54 : decode cX2_chargeBack 54 = .ok (.dup, 1) := by decide +kernel
theorem dX2_chargeBack_55 : decode cX2_chargeBack 55 = .ok (.getfield 128, 3) := by decide +kernel
theorem dX2_chargeBack_58 : decode cX2_chargeBack 58 = .ok (.iload_n 3, 1) := by decide +kernel
theorem dX2_chargeBack_59 : decode cX2_chargeBack 59 = .ok (.iload 4, 2) := by decide +kernel
theorem dX2_chargeBack_61 : decode cX2_chargeBack 61 = .ok (.isub, 1) := by decide +kernel
theorem dX2_chargeBack_62 : decode cX2_chargeBack 62 = .ok (.iadd, 1) := by decide +kernel
theorem dX2_chargeBack_63 : decode cX2_chargeBack 63 = .ok (.putfield 128, 3) := by decide +kernel
theorem dX2_chargeBack_66 : decode cX2_chargeBack 66 = .ok (.return_, 1) := by decide +kernel
theorem dX2_workerAt_0 : decode cX2_workerAt 0 = .ok (.iload_n 1, 1) := by decide +kernel
theorem dX2_workerAt_1 : decode cX2_workerAt 1 = .ok (.iconst 0, 1) := by decide +kernel
theorem dX2_workerAt_2 : decode cX2_workerAt 2 = .ok (.aload_n 0, 1) := by decide +kernel
theorem dX2_workerAt_3 : decode cX2_workerAt 3 = .ok (.getfield 38, 3) := by decide +kernel
theorem dX2_workerAt_6 : decode cX2_workerAt 6 = .ok (.iconst 1, 1) := by decide +kernel
theorem dX2_workerAt_7 : decode cX2_workerAt 7 = .ok (.isub, 1) := by decide +kernel
theorem dX2_workerAt_8 : decode cX2_workerAt 8 = .ok (.invokestatic 30, 3) := by decide +kernel
theorem dX2_workerAt_11 : decode cX2_workerAt 11 = .ok (.ifCond .eq 12, 3) := by decide +kernel
theorem dX2_workerAt_14 : decode cX2_workerAt 14 = .ok (.aload_n 0, 1) := by decide +kernel
theorem dX2_workerAt_15 : decode cX2_workerAt 15 = .ok (.getfield 11, 3) := by decide +kernel
theorem dX2_workerAt_18 : decode cX2_workerAt 18 = .ok (.iload_n 1, 1) := by decide +kernel
theorem dX2_workerAt_19 : decode cX2_workerAt 19 = .ok (.aaload, 1) := by decide +kernel
theorem dX2_workerAt_20 : decode cX2_workerAt 20 = .ok (.goto 4, 3) := by decide +kernel
theorem dX2_workerAt_23 : decode cX2_workerAt 23 = .ok (.aconst_null, 1) := by decide +kernel
theorem dX2_workerAt_24 : decode cX2_workerAt 24 = .ok (.astore_n 2, 1) := by decide +kernel
theorem dX2_workerAt_25 : decode cX2_workerAt 25 = .ok (.aload_n 2, 1) := by decide +kernel
theorem dX2_workerAt_26 : decode cX2_workerAt 26 = .ok (.ifnonnull 11, 3) := by decide +kernel
theorem dX2_workerAt_29 : decode cX2_workerAt 29 = .ok (.new 141, 3) := by decide +kernel
theorem dX2_workerAt_32 : decode cX2_workerAt 32 = .ok (.dup, 1) := by decide +kernel
theorem dX2_workerAt_33 : decode cX2_workerAt 33 = .ok (.invokespecial 143, 3) := by decide +kernel
theorem dX2_workerAt_36 : decode cX2_workerAt 36 = .ok (.athrow, 1) := by decide +kernel
theorem dX2_workerAt_37 : decode cX2_workerAt 37 = .ok (.aload_n 2, 1) := by decide +kernel
theorem dX2_workerAt_38 : decode cX2_workerAt 38 = .ok (.areturn, 1) := by decide +kernel
theorem dX2_courseAt_0 : decode cX2_courseAt 0 = .ok (.iload_n 1, 1) := by decide +kernel
theorem dX2_courseAt_1 : decode cX2_courseAt 1 = .ok (.iconst 0, 1) := by decide +kernel
theorem dX2_courseAt_2 : decode cX2_courseAt 2 = .ok (.aload_n 0, 1) := by decide +kernel
theorem dX2_courseAt_3 : decode cX2_courseAt 3 = .ok (.getfield 65, 3) := by decide +kernel
theorem dX2_courseAt_6 : decode cX2_courseAt 6 = .ok (.iconst 1, 1) := by decide +kernel
theorem dX2_courseAt_7 : decode cX2_courseAt 7 = .ok (.isub, 1) := by decide +kernel
theorem dX2_courseAt_8 : decode cX2_courseAt 8 = .ok (.invokestatic 30, 3) := by decide +kernel
theorem dX2_courseAt_11 : decode cX2_courseAt 11 = .ok (.ifCond .eq 12, 3) := by decide +kernel
theorem dX2_courseAt_14 : decode cX2_courseAt 14 = .ok (.aload_n 0, 1) := by decide +kernel
theorem dX2_courseAt_15 : decode cX2_courseAt 15 = .ok (.getfield 17, 3) := by decide +kernel
theorem dX2_courseAt_18 : decode cX2_courseAt 18 = .ok (.iload_n 1, 1) := by decide +kernel
theorem dX2_courseAt_19 : decode cX2_courseAt 19 = .ok (.aaload, 1) := by decide +kernel
theorem dX2_courseAt_20 : decode cX2_courseAt 20 = .ok (.goto 4, 3) := by decide +kernel
theorem dX2_courseAt_23 : decode cX2_courseAt 23 = .ok (.aconst_null, 1) := by decide +kernel
theorem dX2_courseAt_24 : decode cX2_courseAt 24 = .ok (.astore_n 2, 1) := by decide +kernel
theorem dX2_courseAt_25 : decode cX2_courseAt 25 = .ok (.aload_n 2, 1) := by decide +kernel
theorem dX2_courseAt_26 : decode cX2_courseAt 26 = .ok (.ifnonnull 11, 3) := by decide +kernel
theorem dX2_courseAt_29 : decode cX2_courseAt 29 = .ok (.new 141, 3) := by decide +kernel
theorem dX2_courseAt_32 : decode cX2_courseAt 32 = .ok (.dup, 1) := by decide +kernel
theorem dX2_courseAt_33 : decode cX2_courseAt 33 = .ok (.invokespecial 143, 3) := by decide +kernel
theorem dX2_courseAt_36 : decode cX2_courseAt 36 = .ok (.athrow, 1) := by decide +kernel
theorem dX2_courseAt_37 : decode cX2_courseAt 37 = .ok (.aload_n 2, 1) := by decide +kernel
theorem dX2_courseAt_38 : decode cX2_courseAt 38 = .ok (.areturn, 1) := by decide +kernel
theorem dX2_hasPassed_0 : decode cX2_hasPassed 0 = .ok (.iload_n 1, 1) := by decide +kernel
theorem dX2_hasPassed_1 : decode cX2_hasPassed 1 = .ok (.iconst 0, 1) := by decide +kernel
theorem dX2_hasPassed_2 : decode cX2_hasPassed 2 = .ok (.aload_n 0, 1) := by decide +kernel
theorem dX2_hasPassed_3 : decode cX2_hasPassed 3 = .ok (.getfield 55, 3) := by decide +kernel
theorem dX2_hasPassed_6 : decode cX2_hasPassed 6 = .ok (.iconst 1, 1) := by decide +kernel
theorem dX2_hasPassed_7 : decode cX2_hasPassed 7 = .ok (.isub, 1) := by decide +kernel
theorem dX2_hasPassed_8 : decode cX2_hasPassed 8 = .ok (.invokestatic 30, 3) := by decide +kernel
theorem dX2_hasPassed_11 : decode cX2_hasPassed 11 = .ok (.ireturn, 1) := by decide +kernel
theorem dX2_isSpan_0 : decode cX2_isSpan 0 = .ok (.iload_n 0, 1) := by decide +kernel
theorem dX2_isSpan_1 : decode cX2_isSpan 1 = .ok (.iconst 0, 1) := by decide +kernel
theorem dX2_isSpan_2 : decode cX2_isSpan 2 = .ok (.sipush 200, 3) := by decide +kernel
theorem dX2_isSpan_5 : decode cX2_isSpan 5 = .ok (.invokestatic 30, 3) := by decide +kernel
theorem dX2_isSpan_8 : decode cX2_isSpan 8 = .ok (.ifCond .eq 18, 3) := by decide +kernel
theorem dX2_isSpan_11 : decode cX2_isSpan 11 = .ok (.iload_n 1, 1) := by decide +kernel
theorem dX2_isSpan_12 : decode cX2_isSpan 12 = .ok (.iload_n 0, 1) := by decide +kernel
theorem dX2_isSpan_13 : decode cX2_isSpan 13 = .ok (.sipush 200, 3) := by decide +kernel
theorem dX2_isSpan_16 : decode cX2_isSpan 16 = .ok (.invokestatic 30, 3) := by decide +kernel
theorem dX2_isSpan_19 : decode cX2_isSpan 19 = .ok (.ifCond .eq 7, 3) := by decide +kernel
theorem dX2_isSpan_22 : decode cX2_isSpan 22 = .ok (.iconst 1, 1) := by decide +kernel
theorem dX2_isSpan_23 : decode cX2_isSpan 23 = .ok (.goto 4, 3) := by decide +kernel
theorem dX2_isSpan_26 : decode cX2_isSpan 26 = .ok (.iconst 0, 1) := by decide +kernel
theorem dX2_isSpan_27 : decode cX2_isSpan 27 = .ok (.ireturn, 1) := by decide +kernel
theorem dX2_isWithin_0 : decode cX2_isWithin 0 = .ok (.iload_n 0, 1) := by decide +kernel
theorem dX2_isWithin_1 : decode cX2_isWithin 1 = .ok (.iload_n 1, 1) := by decide +kernel
theorem dX2_isWithin_2 : decode cX2_isWithin 2 = .ok (.if_icmp .lt 12, 3) := by decide +kernel
theorem dX2_isWithin_5 : decode cX2_isWithin 5 = .ok (.iload_n 0, 1) := by decide +kernel
theorem dX2_isWithin_6 : decode cX2_isWithin 6 = .ok (.iload_n 2, 1) := by decide +kernel
theorem dX2_isWithin_7 : decode cX2_isWithin 7 = .ok (.if_icmp .gt 7, 3) := by decide +kernel
theorem dX2_isWithin_10 : decode cX2_isWithin 10 = .ok (.iconst 1, 1) := by decide +kernel
theorem dX2_isWithin_11 : decode cX2_isWithin 11 = .ok (.goto 4, 3) := by decide +kernel
theorem dX2_isWithin_14 : decode cX2_isWithin 14 = .ok (.iconst 0, 1) := by decide +kernel
theorem dX2_isWithin_15 : decode cX2_isWithin 15 = .ok (.ireturn, 1) := by decide +kernel
theorem dX2_requireArgument_0 : decode cX2_requireArgument 0 = .ok (.iload_n 0, 1) := by decide +kernel
theorem dX2_requireArgument_1 : decode cX2_requireArgument 1 = .ok (.ifCond .ne 11, 3) := by decide +kernel
theorem dX2_requireArgument_4 : decode cX2_requireArgument 4 = .ok (.new 144, 3) := by decide +kernel
theorem dX2_requireArgument_7 : decode cX2_requireArgument 7 = .ok (.dup, 1) := by decide +kernel
theorem dX2_requireArgument_8 : decode cX2_requireArgument 8 = .ok (.invokespecial 146, 3) := by decide +kernel
theorem dX2_requireArgument_11 : decode cX2_requireArgument 11 = .ok (.athrow, 1) := by decide +kernel
theorem dX2_requireArgument_12 : decode cX2_requireArgument 12 = .ok (.return_, 1) := by decide +kernel
theorem dX2_requireState_0 : decode cX2_requireState 0 = .ok (.iload_n 0, 1) := by decide +kernel
theorem dX2_requireState_1 : decode cX2_requireState 1 = .ok (.ifCond .ne 11, 3) := by decide +kernel
theorem dX2_requireState_4 : decode cX2_requireState 4 = .ok (.new 147, 3) := by decide +kernel
theorem dX2_requireState_7 : decode cX2_requireState 7 = .ok (.dup, 1) := by decide +kernel
theorem dX2_requireState_8 : decode cX2_requireState 8 = .ok (.invokespecial 149, 3) := by decide +kernel
theorem dX2_requireState_11 : decode cX2_requireState 11 = .ok (.athrow, 1) := by decide +kernel
theorem dX2_requireState_12 : decode cX2_requireState 12 = .ok (.return_, 1) := by decide +kernel
theorem dJ9_max_7cf53_0 : decode cJ9_max_7cf53 0 = .ok (.iload_n 0, 1) := by decide +kernel
theorem dJ9_max_7cf53_1 : decode cJ9_max_7cf53 1 = .ok (.iload_n 1, 1) := by decide +kernel
theorem dJ9_max_7cf53_2 : decode cJ9_max_7cf53 2 = .ok (.if_icmp .lt 7, 3) := by decide +kernel
theorem dJ9_max_7cf53_5 : decode cJ9_max_7cf53 5 = .ok (.iload_n 0, 1) := by decide +kernel
theorem dJ9_max_7cf53_6 : decode cJ9_max_7cf53 6 = .ok (.goto 4, 3) := by decide +kernel
theorem dJ9_max_7cf53_9 : decode cJ9_max_7cf53 9 = .ok (.iload_n 1, 1) := by decide +kernel
theorem dJ9_max_7cf53_10 : decode cJ9_max_7cf53 10 = .ok (.ireturn, 1) := by decide +kernel
end
section
theorem dL_cell_0 : decode cL_cell 0 = .ok (.iload_n 1, 1) := by decide +kernel
theorem dL_cell_1 : decode cL_cell 1 = .ok (.aload_n 0, 1) := by decide +kernel
theorem dL_cell_2 : decode cL_cell 2 = .ok (.arraylength, 1) := by decide +kernel
theorem dL_cell_3 : decode cL_cell 3 = .ok (.if_icmp .ge 9, 3) := by decide +kernel
theorem dL_cell_6 : decode cL_cell 6 = .ok (.aload_n 0, 1) := by decide +kernel
theorem dL_cell_7 : decode cL_cell 7 = .ok (.iload_n 1, 1) := by decide +kernel
theorem dL_cell_8 : decode cL_cell 8 = .ok (.iaload, 1) := by decide +kernel
theorem dL_cell_9 : decode cL_cell 9 = .ok (.goto 11, 3) := by decide +kernel
theorem dL_cell_12 : decode cL_cell 12 = .ok (.sipush 7177, 3) := by decide +kernel
theorem dL_cell_15 : decode cL_cell 15 = .ok (.iload_n 1, 1) := by decide +kernel
theorem dL_cell_16 : decode cL_cell 16 = .ok (.bipush 39, 2) := by decide +kernel
theorem dL_cell_18 : decode cL_cell 18 = .ok (.iadd, 1) := by decide +kernel
theorem dL_cell_19 : decode cL_cell 19 = .ok (.imul, 1) := by decide +kernel
theorem dL_cell_20 : decode cL_cell 20 = .ok (.istore_n 2, 1) := by decide +kernel
theorem dL_cell_21 : decode cL_cell 21 = .ok (.iload_n 2, 1) := by decide +kernel
theorem dL_cell_22 : decode cL_cell 22 = .ok (.iload_n 2, 1) := by decide +kernel
theorem dL_cell_23 : decode cL_cell 23 = .ok (.bipush 14, 2) := by decide +kernel
theorem dL_cell_25 : decode cL_cell 25 = .ok (.iushr, 1) := by decide +kernel
theorem dL_cell_26 : decode cL_cell 26 = .ok (.ixor, 1) := by decide +kernel
theorem dL_cell_27 : decode cL_cell 27 = .ok (.ldc 7, 2) := by decide +kernel
theorem dL_cell_29 : decode cL_cell 29 = .ok (.imul, 1) := by decide +kernel
theorem dL_cell_30 : decode cL_cell 30 = .ok (.sipush 141, 3) := by decide +kernel
theorem dL_cell_33 : decode cL_cell 33 = .ok (.iload_n 1, 1) := by decide +kernel
theorem dL_cell_34 : decode cL_cell 34 = .ok (.imul, 1) := by decide +kernel
theorem dL_cell_35 : decode cL_cell 35 = .ok (.iadd, 1) := by decide +kernel
theorem dL_cell_36 : decode cL_cell 36 = .ok (.ireturn, 1) := by decide +kernel
theorem dL_some_0 : decode cL_some 0 = .ok (.iload_n 0, 1) := by decide +kernel
theorem dL_some_1 : decode cL_some 1 = .ok (.iconst 1, 1) := by decide +kernel
theorem dL_some_2 : decode cL_some 2 = .ok (.iushr, 1) := by decide +kernel
theorem dL_some_3 : decode cL_some 3 = .ok (.iload_n 1, 1) := by decide +kernel
theorem dL_some_4 : decode cL_some 4 = .ok (.irem, 1) := by decide +kernel
theorem dL_some_5 : decode cL_some 5 = .ok (.ireturn, 1) := by decide +kernel
theorem dL_call_0 : decode cL_call 0 = .ok (.aload_n 0, 1) := by decide +kernel
theorem dL_call_1 : decode cL_call 1 = .ok (.iload_n 1, 1) := by decide +kernel
theorem dL_call_2 : decode cL_call 2 = .ok (.iload_n 2, 1) := by decide +kernel
theorem dL_call_3 : decode cL_call 3 = .ok (.iload_n 3, 1) := by decide +kernel
theorem dL_call_4 : decode cL_call 4 = .ok (.iload 4, 2) := by decide +kernel
theorem dL_call_6 : decode cL_call 6 = .ok (.iload 5, 2) := by decide +kernel
theorem dL_call_8 : decode cL_call 8 = .ok (.invokestatic 8, 3) := by decide +kernel
theorem dL_call_11 : decode cL_call 11 = .ok (.ireturn, 1) := by decide +kernel
theorem dL_call_12 : decode cL_call 12 = .ok (.astore 6, 2) := by decide +kernel
theorem dL_call_14 : decode cL_call 14 = .ok (.bipush (-61), 2) := by decide +kernel
theorem dL_call_16 : decode cL_call 16 = .ok (.ireturn, 1) := by decide +kernel
theorem dL_call_17 : decode cL_call 17 = .ok (.astore 6, 2) := by decide +kernel
theorem dL_call_19 : decode cL_call 19 = .ok (.bipush (-62), 2) := by decide +kernel
theorem dL_call_21 : decode cL_call 21 = .ok (.ireturn, 1) := by decide +kernel
theorem dL_call_22 : decode cL_call 22 = .ok (.astore 6, 2) := by decide +kernel
theorem dL_call_24 : decode cL_call 24 = .ok (.bipush (-63), 2) := by decide +kernel
theorem dL_call_26 : decode cL_call 26 = .ok (.ireturn, 1) := by decide +kernel
theorem dL_does_0 : decode cL_does 0 = .ok (.iload_n 1, 1) := by decide +kernel
theorem dL_does_1 : decode cL_does 1 = .ok (.tableswitch 204 0 14 #[75, 91, 102, 113, 120, 126, 133, 148, 154, 161, 168, 174, 184, 192, 198], 75) := by decide +kernel
theorem dL_does_76 : decode cL_does 76 = .ok (.aload_n 0, 1) := by decide +kernel
theorem dL_does_77 : decode cL_does 77 = .ok (.iload_n 2, 1) := by decide +kernel
theorem dL_does_78 : decode cL_does 78 = .ok (.iload_n 3, 1) := by decide +kernel
theorem dL_does_79 : decode cL_does 79 = .ok (.iconst 1, 1) := by decide +kernel
theorem dL_does_80 : decode cL_does 80 = .ok (.if_icmp .ne 7, 3) := by decide +kernel
theorem dL_does_83 : decode cL_does 83 = .ok (.iconst 1, 1) := by decide +kernel
theorem dL_does_84 : decode cL_does 84 = .ok (.goto 4, 3) := by decide +kernel
theorem dL_does_87 : decode cL_does 87 = .ok (.iconst 0, 1) := by decide +kernel
theorem dL_does_88 : decode cL_does 88 = .ok (.invokevirtual 20, 3) := by decide +kernel
theorem dL_does_91 : decode cL_does 91 = .ok (.ireturn, 1) := by decide +kernel
theorem dL_does_92 : decode cL_does 92 = .ok (.aload_n 0, 1) := by decide +kernel
theorem dL_does_93 : decode cL_does 93 = .ok (.iload_n 2, 1) := by decide +kernel
theorem dL_does_94 : decode cL_does 94 = .ok (.iload_n 3, 1) := by decide +kernel
theorem dL_does_95 : decode cL_does 95 = .ok (.iload 4, 2) := by decide +kernel
theorem dL_does_97 : decode cL_does 97 = .ok (.iload 5, 2) := by decide +kernel
theorem dL_does_99 : decode cL_does 99 = .ok (.invokevirtual 26, 3) := by decide +kernel
theorem dL_does_102 : decode cL_does 102 = .ok (.ireturn, 1) := by decide +kernel
theorem dL_does_103 : decode cL_does 103 = .ok (.aload_n 0, 1) := by decide +kernel
theorem dL_does_104 : decode cL_does 104 = .ok (.iload_n 2, 1) := by decide +kernel
theorem dL_does_105 : decode cL_does 105 = .ok (.iload_n 3, 1) := by decide +kernel
theorem dL_does_106 : decode cL_does 106 = .ok (.iload 4, 2) := by decide +kernel
theorem dL_does_108 : decode cL_does 108 = .ok (.iload 5, 2) := by decide +kernel
theorem dL_does_110 : decode cL_does 110 = .ok (.invokevirtual 30, 3) := by decide +kernel
theorem dL_does_113 : decode cL_does 113 = .ok (.ireturn, 1) := by decide +kernel
theorem dL_does_114 : decode cL_does 114 = .ok (.aload_n 0, 1) := by decide +kernel
theorem dL_does_115 : decode cL_does 115 = .ok (.iload_n 2, 1) := by decide +kernel
theorem dL_does_116 : decode cL_does 116 = .ok (.iload_n 3, 1) := by decide +kernel
theorem dL_does_117 : decode cL_does 117 = .ok (.invokevirtual 33, 3) := by decide +kernel
theorem dL_does_120 : decode cL_does 120 = .ok (.ireturn, 1) := by decide +kernel
theorem dL_does_121 : decode cL_does 121 = .ok (.aload_n 0, 1) := by decide +kernel
theorem dL_does_122 : decode cL_does 122 = .ok (.iload_n 2, 1) := by decide +kernel
theorem dL_does_123 : decode cL_does 123 = .ok (.invokevirtual 37, 3) := by decide +kernel
theorem dL_does_126 : decode cL_does 126 = .ok (.ireturn, 1) := by decide +kernel
theorem dL_does_127 : decode cL_does 127 = .ok (.aload_n 0, 1) := by decide +kernel
theorem dL_does_128 : decode cL_does 128 = .ok (.iload_n 2, 1) := by decide +kernel
theorem dL_does_129 : decode cL_does 129 = .ok (.iload_n 3, 1) := by decide +kernel
theorem dL_does_130 : decode cL_does 130 = .ok (.invokevirtual 41, 3) := by decide +kernel
theorem dL_does_133 : decode cL_does 133 = .ok (.ireturn, 1) := by decide +kernel
theorem dL_does_134 : decode cL_does 134 = .ok (.aload_n 0, 1) := by decide +kernel
theorem dL_does_135 : decode cL_does 135 = .ok (.iload_n 2, 1) := by decide +kernel
theorem dL_does_136 : decode cL_does 136 = .ok (.iload_n 3, 1) := by decide +kernel
theorem dL_does_137 : decode cL_does 137 = .ok (.invokevirtual 44, 3) := by decide +kernel
theorem dL_does_140 : decode cL_does 140 = .ok (.ifCond .eq 7, 3) := by decide +kernel
theorem dL_does_143 : decode cL_does 143 = .ok (.iconst 1, 1) := by decide +kernel
theorem dL_does_144 : decode cL_does 144 = .ok (.goto 4, 3) := by decide +kernel
theorem dL_does_147 : decode cL_does 147 = .ok (.iconst 0, 1) := by decide +kernel
theorem dL_does_148 : decode cL_does 148 = .ok (.ireturn, 1) := by decide +kernel
theorem dL_does_149 : decode cL_does 149 = .ok (.aload_n 0, 1) := by decide +kernel
theorem dL_does_150 : decode cL_does 150 = .ok (.iload_n 2, 1) := by decide +kernel
theorem dL_does_151 : decode cL_does 151 = .ok (.invokevirtual 48, 3) := by decide +kernel
theorem dL_does_154 : decode cL_does 154 = .ok (.ireturn, 1) := by decide +kernel
theorem dL_does_155 : decode cL_does 155 = .ok (.aload_n 0, 1) := by decide +kernel
theorem dL_does_156 : decode cL_does 156 = .ok (.iload_n 2, 1) := by decide +kernel
theorem dL_does_157 : decode cL_does 157 = .ok (.iload_n 3, 1) := by decide +kernel
theorem dL_does_158 : decode cL_does 158 = .ok (.invokevirtual 51, 3) := by decide +kernel
theorem dL_does_161 : decode cL_does 161 = .ok (.ireturn, 1) := by decide +kernel
theorem dL_does_162 : decode cL_does 162 = .ok (.aload_n 0, 1) := by decide +kernel
theorem dL_does_163 : decode cL_does 163 = .ok (.iload_n 2, 1) := by decide +kernel
theorem dL_does_164 : decode cL_does 164 = .ok (.iload_n 3, 1) := by decide +kernel
theorem dL_does_165 : decode cL_does 165 = .ok (.invokevirtual 54, 3) := by decide +kernel
theorem dL_does_168 : decode cL_does 168 = .ok (.ireturn, 1) := by decide +kernel
theorem dL_does_169 : decode cL_does 169 = .ok (.aload_n 0, 1) := by decide +kernel
theorem dL_does_170 : decode cL_does 170 = .ok (.iload_n 2, 1) := by decide +kernel
theorem dL_does_171 : decode cL_does 171 = .ok (.invokevirtual 57, 3) := by decide +kernel
theorem dL_does_174 : decode cL_does 174 = .ok (.ireturn, 1) := by decide +kernel
theorem dL_does_175 : decode cL_does 175 = .ok (.aload_n 0, 1) := by decide +kernel
theorem dL_does_176 : decode cL_does 176 = .ok (.iload_n 2, 1) := by decide +kernel
theorem dL_does_177 : decode cL_does 177 = .ok (.iload_n 3, 1) := by decide +kernel
theorem dL_does_178 : decode cL_does 178 = .ok (.iload 4, 2) := by decide +kernel
theorem dL_does_180 : decode cL_does 180 = .ok (.invokevirtual 60, 3) := by decide +kernel
theorem dL_does_183 : decode cL_does 183 = .ok (.iconst 0, 1) := by decide +kernel
theorem dL_does_184 : decode cL_does 184 = .ok (.ireturn, 1) := by decide +kernel
theorem dL_does_185 : decode cL_does 185 = .ok (.aload_n 0, 1) := by decide +kernel
theorem dL_does_186 : decode cL_does 186 = .ok (.iload_n 2, 1) := by decide +kernel
theorem dL_does_187 : decode cL_does 187 = .ok (.iload_n 3, 1) := by decide +kernel
theorem dL_does_188 : decode cL_does 188 = .ok (.invokevirtual 64, 3) := by decide +kernel
theorem dL_does_191 : decode cL_does 191 = .ok (.iconst 0, 1) := by decide +kernel
theorem dL_does_192 : decode cL_does 192 = .ok (.ireturn, 1) := by decide +kernel
theorem dL_does_193 : decode cL_does 193 = .ok (.aload_n 0, 1) := by decide +kernel
theorem dL_does_194 : decode cL_does 194 = .ok (.iload_n 2, 1) := by decide +kernel
theorem dL_does_195 : decode cL_does 195 = .ok (.invokevirtual 68, 3) := by decide +kernel
theorem dL_does_198 : decode cL_does 198 = .ok (.ireturn, 1) := by decide +kernel
theorem dL_does_199 : decode cL_does 199 = .ok (.aload_n 0, 1) := by decide +kernel
theorem dL_does_200 : decode cL_does 200 = .ok (.iload_n 2, 1) := by decide +kernel
theorem dL_does_201 : decode cL_does 201 = .ok (.invokevirtual 71, 3) := by decide +kernel
theorem dL_does_204 : decode cL_does 204 = .ok (.ireturn, 1) := by decide +kernel
theorem dL_does_205 : decode cL_does 205 = .ok (.aload_n 0, 1) := by decide +kernel
theorem dL_does_206 : decode cL_does 206 = .ok (.iload_n 2, 1) := by decide +kernel
theorem dL_does_207 : decode cL_does 207 = .ok (.invokevirtual 74, 3) := by decide +kernel
theorem dL_does_210 : decode cL_does 210 = .ok (.ireturn, 1) := by decide +kernel
theorem dL_all_0 : decode cL_all 0 = .ok (.aload_n 0, 1) := by decide +kernel
theorem dL_all_1 : decode cL_all 1 = .ok (.invokevirtual 77, 3) := by decide +kernel
theorem dL_all_4 : decode cL_all 4 = .ok (.i2l, 1) := by decide +kernel
theorem dL_all_5 : decode cL_all 5 = .ok (.ldc2_w 81, 3) := by decide +kernel
theorem dL_all_8 : decode cL_all 8 = .ok (.lmul, 1) := by decide +kernel
theorem dL_all_9 : decode cL_all 9 = .ok (.aload_n 0, 1) := by decide +kernel
theorem dL_all_10 : decode cL_all 10 = .ok (.invokevirtual 83, 3) := by decide +kernel
theorem dL_all_13 : decode cL_all 13 = .ok (.i2l, 1) := by decide +kernel
theorem dL_all_14 : decode cL_all 14 = .ok (.ladd, 1) := by decide +kernel
theorem dL_all_15 : decode cL_all 15 = .ok (.ldc2_w 86, 3) := by decide +kernel
theorem dL_all_18 : decode cL_all 18 = .ok (.lmul, 1) := by decide +kernel
theorem dL_all_19 : decode cL_all 19 = .ok (.aload_n 0, 1) := by decide +kernel
theorem dL_all_20 : decode cL_all 20 = .ok (.invokevirtual 88, 3) := by decide +kernel
theorem dL_all_23 : decode cL_all 23 = .ok (.i2l, 1) := by decide +kernel
theorem dL_all_24 : decode cL_all 24 = .ok (.ladd, 1) := by decide +kernel
theorem dL_all_25 : decode cL_all 25 = .ok (.lstore_n 1, 1) := by decide +kernel
theorem dL_all_26 : decode cL_all 26 = .ok (.iconst 0, 1) := by decide +kernel
theorem dL_all_27 : decode cL_all 27 = .ok (.istore_n 3, 1) := by decide +kernel
theorem dL_all_28 : decode cL_all 28 = .ok (.iload_n 3, 1) := by decide +kernel
theorem dL_all_29 : decode cL_all 29 = .ok (.aload_n 0, 1) := by decide +kernel
theorem dL_all_30 : decode cL_all 30 = .ok (.invokevirtual 77, 3) := by decide +kernel
theorem dL_all_33 : decode cL_all 33 = .ok (.if_icmp .ge 96, 3) := by decide +kernel
theorem dL_all_36 : decode cL_all 36 = .ok (.lload_n 1, 1) := by decide +kernel
theorem dL_all_37 : decode cL_all 37 = .ok (.ldc2_w 91, 3) := by decide +kernel
theorem dL_all_40 : decode cL_all 40 = .ok (.lmul, 1) := by decide +kernel
theorem dL_all_41 : decode cL_all 41 = .ok (.aload_n 0, 1) := by decide +kernel
theorem dL_all_42 : decode cL_all 42 = .ok (.iload_n 3, 1) := by decide +kernel
theorem dL_all_43 : decode cL_all 43 = .ok (.invokevirtual 57, 3) := by decide +kernel
theorem dL_all_46 : decode cL_all 46 = .ok (.i2l, 1) := by decide +kernel
theorem dL_all_47 : decode cL_all 47 = .ok (.ladd, 1) := by decide +kernel
theorem dL_all_48 : decode cL_all 48 = .ok (.ldc2_w 86, 3) := by decide +kernel
theorem dL_all_51 : decode cL_all 51 = .ok (.lmul, 1) := by decide +kernel
theorem dL_all_52 : decode cL_all 52 = .ok (.aload_n 0, 1) := by decide +kernel
theorem dL_all_53 : decode cL_all 53 = .ok (.iload_n 3, 1) := by decide +kernel
theorem dL_all_54 : decode cL_all 54 = .ok (.invokevirtual 71, 3) := by decide +kernel
theorem dL_all_57 : decode cL_all 57 = .ok (.i2l, 1) := by decide +kernel
theorem dL_all_58 : decode cL_all 58 = .ok (.ladd, 1) := by decide +kernel
theorem dL_all_59 : decode cL_all 59 = .ok (.ldc2_w 86, 3) := by decide +kernel
theorem dL_all_62 : decode cL_all 62 = .ok (.lmul, 1) := by decide +kernel
theorem dL_all_63 : decode cL_all 63 = .ok (.aload_n 0, 1) := by decide +kernel
theorem dL_all_64 : decode cL_all 64 = .ok (.iload_n 3, 1) := by decide +kernel
theorem dL_all_65 : decode cL_all 65 = .ok (.invokevirtual 74, 3) := by decide +kernel
theorem dL_all_68 : decode cL_all 68 = .ok (.i2l, 1) := by decide +kernel
theorem dL_all_69 : decode cL_all 69 = .ok (.ladd, 1) := by decide +kernel
theorem dL_all_70 : decode cL_all 70 = .ok (.lstore_n 1, 1) := by decide +kernel
theorem dL_all_71 : decode cL_all 71 = .ok (.iconst 0, 1) := by decide +kernel
theorem dL_all_72 : decode cL_all 72 = .ok (.istore 4, 2) := by decide +kernel
theorem dL_all_74 : decode cL_all 74 = .ok (.iload 4, 2) := by decide +kernel
theorem dL_all_76 : decode cL_all 76 = .ok (.bipush 60, 2) := by decide +kernel
theorem dL_all_78 : decode cL_all 78 = .ok (.if_icmp .ge 45, 3) := by decide +kernel
theorem dL_all_81 : decode cL_all 81 = .ok (.lload_n 1, 1) := by decide +kernel
theorem dL_all_82 : decode cL_all 82 = .ok (.ldc2_w 93, 3) := by decide +kernel
theorem dL_all_85 : decode cL_all 85 = .ok (.lmul, 1) := by decide +kernel
theorem dL_all_86 : decode cL_all 86 = .ok (.aload_n 0, 1) := by decide +kernel
theorem dL_all_87 : decode cL_all 87 = .ok (.iload_n 3, 1) := by decide +kernel
theorem dL_all_88 : decode cL_all 88 = .ok (.iload 4, 2) := by decide +kernel
theorem dL_all_90 : decode cL_all 90 = .ok (.invokevirtual 41, 3) := by decide +kernel
theorem dL_all_93 : decode cL_all 93 = .ok (.i2l, 1) := by decide +kernel
theorem dL_all_94 : decode cL_all 94 = .ok (.ladd, 1) := by decide +kernel
theorem dL_all_95 : decode cL_all 95 = .ok (.ldc2_w 95, 3) := by decide +kernel
theorem dL_all_98 : decode cL_all 98 = .ok (.lmul, 1) := by decide +kernel
theorem dL_all_99 : decode cL_all 99 = .ok (.aload_n 0, 1) := by decide +kernel
theorem dL_all_100 : decode cL_all 100 = .ok (.iload_n 3, 1) := by decide +kernel
theorem dL_all_101 : decode cL_all 101 = .ok (.iload 4, 2) := by decide +kernel
theorem dL_all_103 : decode cL_all 103 = .ok (.invokevirtual 44, 3) := by decide +kernel
theorem dL_all_106 : decode cL_all 106 = .ok (.ifCond .eq 7, 3) := by decide +kernel
theorem dL_all_109 : decode cL_all 109 = .ok (.iconst 1, 1) := by decide +kernel
theorem dL_all_110 : decode cL_all 110 = .ok (.goto 4, 3) := by decide +kernel
theorem dL_all_113 : decode cL_all 113 = .ok (.iconst 0, 1) := by decide +kernel
theorem dL_all_114 : decode cL_all 114 = .ok (.i2l, 1) := by decide +kernel
theorem dL_all_115 : decode cL_all 115 = .ok (.ladd, 1) := by decide +kernel
theorem dL_all_116 : decode cL_all 116 = .ok (.lstore_n 1, 1) := by decide +kernel
theorem dL_all_117 : decode cL_all 117 = .ok (.iinc 4 4, 3) := by decide +kernel
theorem dL_all_120 : decode cL_all 120 = .ok (.goto (-46), 3) := by decide +kernel
theorem dL_all_123 : decode cL_all 123 = .ok (.iinc 3 1, 3) := by decide +kernel
theorem dL_all_126 : decode cL_all 126 = .ok (.goto (-98), 3) := by decide +kernel
theorem dL_all_129 : decode cL_all 129 = .ok (.lload_n 1, 1) := by decide +kernel
theorem dL_all_130 : decode cL_all 130 = .ok (.lreturn, 1) := by decide +kernel
theorem dL_kept_0 : decode cL_kept 0 = .ok (.aload_n 0, 1) := by decide +kernel
theorem dL_kept_1 : decode cL_kept 1 = .ok (.invokevirtual 77, 3) := by decide +kernel
theorem dL_kept_4 : decode cL_kept 4 = .ok (.istore_n 1, 1) := by decide +kernel
theorem dL_kept_5 : decode cL_kept 5 = .ok (.aload_n 0, 1) := by decide +kernel
theorem dL_kept_6 : decode cL_kept 6 = .ok (.invokevirtual 83, 3) := by decide +kernel
theorem dL_kept_9 : decode cL_kept 9 = .ok (.istore_n 2, 1) := by decide +kernel
theorem dL_kept_10 : decode cL_kept 10 = .ok (.iload_n 1, 1) := by decide +kernel
theorem dL_kept_11 : decode cL_kept 11 = .ok (.bipush 9, 2) := by decide +kernel
theorem dL_kept_13 : decode cL_kept 13 = .ok (.if_icmp .ge 126, 3) := by decide +kernel
theorem dL_kept_16 : decode cL_kept 16 = .ok (.aload_n 0, 1) := by decide +kernel
theorem dL_kept_17 : decode cL_kept 17 = .ok (.iconst 5, 1) := by decide +kernel
theorem dL_kept_18 : decode cL_kept 18 = .ok (.iload_n 1, 1) := by decide +kernel
theorem dL_kept_19 : decode cL_kept 19 = .ok (.iconst 0, 1) := by decide +kernel
theorem dL_kept_20 : decode cL_kept 20 = .ok (.iconst 0, 1) := by decide +kernel
theorem dL_kept_21 : decode cL_kept 21 = .ok (.iconst 0, 1) := by decide +kernel
theorem dL_kept_22 : decode cL_kept 22 = .ok (.invokestatic 97, 3) := by decide +kernel
theorem dL_kept_25 : decode cL_kept 25 = .ok (.bipush (-61), 2) := by decide +kernel
theorem dL_kept_27 : decode cL_kept 27 = .ok (.if_icmp .ne 112, 3) := by decide +kernel
theorem dL_kept_30 : decode cL_kept 30 = .ok (.aload_n 0, 1) := by decide +kernel
theorem dL_kept_31 : decode cL_kept 31 = .ok (.bipush 6, 2) := by decide +kernel
theorem dL_kept_33 : decode cL_kept 33 = .ok (.iconst (-1), 1) := by decide +kernel
theorem dL_kept_34 : decode cL_kept 34 = .ok (.iconst 0, 1) := by decide +kernel
theorem dL_kept_35 : decode cL_kept 35 = .ok (.iconst 0, 1) := by decide +kernel
theorem dL_kept_36 : decode cL_kept 36 = .ok (.iconst 0, 1) := by decide +kernel
theorem dL_kept_37 : decode cL_kept 37 = .ok (.invokestatic 97, 3) := by decide +kernel
theorem dL_kept_40 : decode cL_kept 40 = .ok (.bipush (-61), 2) := by decide +kernel
theorem dL_kept_42 : decode cL_kept 42 = .ok (.if_icmp .ne 97, 3) := by decide +kernel
theorem dL_kept_45 : decode cL_kept 45 = .ok (.aload_n 0, 1) := by decide +kernel
theorem dL_kept_46 : decode cL_kept 46 = .ok (.bipush 10, 2) := by decide +kernel
theorem dL_kept_48 : decode cL_kept 48 = .ok (.iload_n 1, 1) := by decide +kernel
theorem dL_kept_49 : decode cL_kept 49 = .ok (.iconst 0, 1) := by decide +kernel
theorem dL_kept_50 : decode cL_kept 50 = .ok (.iconst 0, 1) := by decide +kernel
theorem dL_kept_51 : decode cL_kept 51 = .ok (.iconst 0, 1) := by decide +kernel
theorem dL_kept_52 : decode cL_kept 52 = .ok (.invokestatic 97, 3) := by decide +kernel
theorem dL_kept_55 : decode cL_kept 55 = .ok (.bipush (-61), 2) := by decide +kernel
theorem dL_kept_57 : decode cL_kept 57 = .ok (.if_icmp .ne 82, 3) := by decide +kernel
theorem dL_kept_60 : decode cL_kept 60 = .ok (.aload_n 0, 1) := by decide +kernel
theorem dL_kept_61 : decode cL_kept 61 = .ok (.bipush 14, 2) := by decide +kernel
theorem dL_kept_63 : decode cL_kept 63 = .ok (.iconst (-1), 1) := by decide +kernel
theorem dL_kept_64 : decode cL_kept 64 = .ok (.iconst 0, 1) := by decide +kernel
theorem dL_kept_65 : decode cL_kept 65 = .ok (.iconst 0, 1) := by decide +kernel
theorem dL_kept_66 : decode cL_kept 66 = .ok (.iconst 0, 1) := by decide +kernel
theorem dL_kept_67 : decode cL_kept 67 = .ok (.invokestatic 97, 3) := by decide +kernel
theorem dL_kept_70 : decode cL_kept 70 = .ok (.bipush (-61), 2) := by decide +kernel
theorem dL_kept_72 : decode cL_kept 72 = .ok (.if_icmp .ne 67, 3) := by decide +kernel
theorem dL_kept_75 : decode cL_kept 75 = .ok (.aload_n 0, 1) := by decide +kernel
theorem dL_kept_76 : decode cL_kept 76 = .ok (.bipush 15, 2) := by decide +kernel
theorem dL_kept_78 : decode cL_kept 78 = .ok (.iload_n 1, 1) := by decide +kernel
theorem dL_kept_79 : decode cL_kept 79 = .ok (.iconst 0, 1) := by decide +kernel
theorem dL_kept_80 : decode cL_kept 80 = .ok (.iconst 0, 1) := by decide +kernel
theorem dL_kept_81 : decode cL_kept 81 = .ok (.iconst 0, 1) := by decide +kernel
theorem dL_kept_82 : decode cL_kept 82 = .ok (.invokestatic 97, 3) := by decide +kernel
theorem dL_kept_85 : decode cL_kept 85 = .ok (.bipush (-61), 2) := by decide +kernel
theorem dL_kept_87 : decode cL_kept 87 = .ok (.if_icmp .ne 52, 3) := by decide +kernel
theorem dL_kept_90 : decode cL_kept 90 = .ok (.aload_n 0, 1) := by decide +kernel
theorem dL_kept_91 : decode cL_kept 91 = .ok (.bipush 13, 2) := by decide +kernel
theorem dL_kept_93 : decode cL_kept 93 = .ok (.iload_n 2, 1) := by decide +kernel
theorem dL_kept_94 : decode cL_kept 94 = .ok (.iconst 0, 1) := by decide +kernel
theorem dL_kept_95 : decode cL_kept 95 = .ok (.iconst 0, 1) := by decide +kernel
theorem dL_kept_96 : decode cL_kept 96 = .ok (.iconst 0, 1) := by decide +kernel
theorem dL_kept_97 : decode cL_kept 97 = .ok (.invokestatic 97, 3) := by decide +kernel
theorem dL_kept_100 : decode cL_kept 100 = .ok (.bipush (-62), 2) := by decide +kernel
theorem dL_kept_102 : decode cL_kept 102 = .ok (.if_icmp .ne 37, 3) := by decide +kernel
theorem dL_kept_105 : decode cL_kept 105 = .ok (.aload_n 0, 1) := by decide +kernel
theorem dL_kept_106 : decode cL_kept 106 = .ok (.bipush 7, 2) := by decide +kernel
theorem dL_kept_108 : decode cL_kept 108 = .ok (.iconst 0, 1) := by decide +kernel
theorem dL_kept_109 : decode cL_kept 109 = .ok (.iconst 0, 1) := by decide +kernel
theorem dL_kept_110 : decode cL_kept 110 = .ok (.iconst 0, 1) := by decide +kernel
theorem dL_kept_111 : decode cL_kept 111 = .ok (.iconst 0, 1) := by decide +kernel
theorem dL_kept_112 : decode cL_kept 112 = .ok (.invokestatic 97, 3) := by decide +kernel
theorem dL_kept_115 : decode cL_kept 115 = .ok (.bipush (-62), 2) := by decide +kernel
theorem dL_kept_117 : decode cL_kept 117 = .ok (.if_icmp .ne 22, 3) := by decide +kernel
theorem dL_kept_120 : decode cL_kept 120 = .ok (.aload_n 0, 1) := by decide +kernel
theorem dL_kept_121 : decode cL_kept 121 = .ok (.iconst 4, 1) := by decide +kernel
theorem dL_kept_122 : decode cL_kept 122 = .ok (.bipush 101, 2) := by decide +kernel
theorem dL_kept_124 : decode cL_kept 124 = .ok (.iconst 0, 1) := by decide +kernel
theorem dL_kept_125 : decode cL_kept 125 = .ok (.iconst 0, 1) := by decide +kernel
theorem dL_kept_126 : decode cL_kept 126 = .ok (.iconst 0, 1) := by decide +kernel
theorem dL_kept_127 : decode cL_kept 127 = .ok (.invokestatic 97, 3) := by decide +kernel
theorem dL_kept_130 : decode cL_kept 130 = .ok (.bipush (-62), 2) := by decide +kernel
theorem dL_kept_132 : decode cL_kept 132 = .ok (.if_icmp .ne 7, 3) := by decide +kernel
theorem dL_kept_135 : decode cL_kept 135 = .ok (.iconst 1, 1) := by decide +kernel
theorem dL_kept_136 : decode cL_kept 136 = .ok (.goto 4, 3) := by decide +kernel
theorem dL_kept_139 : decode cL_kept 139 = .ok (.iconst 0, 1) := by decide +kernel
theorem dL_kept_140 : decode cL_kept 140 = .ok (.istore_n 3, 1) := by decide +kernel
theorem dL_kept_141 : decode cL_kept 141 = .ok (.iconst 0, 1) := by decide +kernel
theorem dL_kept_142 : decode cL_kept 142 = .ok (.istore 4, 2) := by decide +kernel
theorem dL_kept_144 : decode cL_kept 144 = .ok (.iconst 0, 1) := by decide +kernel
theorem dL_kept_145 : decode cL_kept 145 = .ok (.istore 5, 2) := by decide +kernel
theorem dL_kept_147 : decode cL_kept 147 = .ok (.iload 5, 2) := by decide +kernel
theorem dL_kept_149 : decode cL_kept 149 = .ok (.iload_n 1, 1) := by decide +kernel
theorem dL_kept_150 : decode cL_kept 150 = .ok (.if_icmp .ge 220, 3) := by decide +kernel
theorem dL_kept_153 : decode cL_kept 153 = .ok (.iload_n 3, 1) := by decide +kernel
theorem dL_kept_154 : decode cL_kept 154 = .ok (.ifCond .eq 216, 3) := by decide +kernel
theorem dL_kept_157 : decode cL_kept 157 = .ok (.aload_n 0, 1) := by decide +kernel
theorem dL_kept_158 : decode cL_kept 158 = .ok (.iload 5, 2) := by decide +kernel
theorem dL_kept_160 : decode cL_kept 160 = .ok (.invokevirtual 71, 3) := by decide +kernel
theorem dL_kept_163 : decode cL_kept 163 = .ok (.ineg, 1) := by decide +kernel
theorem dL_kept_164 : decode cL_kept 164 = .ok (.istore 6, 2) := by decide +kernel
theorem dL_kept_166 : decode cL_kept 166 = .ok (.iconst 0, 1) := by decide +kernel
theorem dL_kept_167 : decode cL_kept 167 = .ok (.istore 7, 2) := by decide +kernel
theorem dL_kept_169 : decode cL_kept 169 = .ok (.iconst 0, 1) := by decide +kernel
theorem dL_kept_170 : decode cL_kept 170 = .ok (.istore 8, 2) := by decide +kernel
theorem dL_kept_172 : decode cL_kept 172 = .ok (.iload 8, 2) := by decide +kernel
theorem dL_kept_174 : decode cL_kept 174 = .ok (.iload_n 2, 1) := by decide +kernel
theorem dL_kept_175 : decode cL_kept 175 = .ok (.if_icmp .ge 104, 3) := by decide +kernel
theorem dL_kept_178 : decode cL_kept 178 = .ok (.iload_n 3, 1) := by decide +kernel
theorem dL_kept_179 : decode cL_kept 179 = .ok (.ifCond .eq 100, 3) := by decide +kernel
theorem dL_kept_182 : decode cL_kept 182 = .ok (.aload_n 0, 1) := by decide +kernel
theorem dL_kept_183 : decode cL_kept 183 = .ok (.iload 5, 2) := by decide +kernel
theorem dL_kept_185 : decode cL_kept 185 = .ok (.iload 8, 2) := by decide +kernel
theorem dL_kept_187 : decode cL_kept 187 = .ok (.invokevirtual 51, 3) := by decide +kernel
theorem dL_kept_190 : decode cL_kept 190 = .ok (.istore 9, 2) := by decide +kernel
theorem dL_kept_192 : decode cL_kept 192 = .ok (.aload_n 0, 1) := by decide +kernel
theorem dL_kept_193 : decode cL_kept 193 = .ok (.iload 5, 2) := by decide +kernel
theorem dL_kept_195 : decode cL_kept 195 = .ok (.iload 8, 2) := by decide +kernel
theorem dL_kept_197 : decode cL_kept 197 = .ok (.invokevirtual 54, 3) := by decide +kernel
theorem dL_kept_200 : decode cL_kept 200 = .ok (.istore 10, 2) := by decide +kernel
theorem dL_kept_202 : decode cL_kept 202 = .ok (.iload 6, 2) := by decide +kernel
theorem dL_kept_204 : decode cL_kept 204 = .ok (.iload 9, 2) := by decide +kernel
theorem dL_kept_206 : decode cL_kept 206 = .ok (.iload 10, 2) := by decide +kernel
theorem dL_kept_208 : decode cL_kept 208 = .ok (.iadd, 1) := by decide +kernel
theorem dL_kept_209 : decode cL_kept 209 = .ok (.iadd, 1) := by decide +kernel
theorem dL_kept_210 : decode cL_kept 210 = .ok (.istore 6, 2) := by decide +kernel
theorem dL_kept_212 : decode cL_kept 212 = .ok (.iload 7, 2) := by decide +kernel
theorem dL_kept_214 : decode cL_kept 214 = .ok (.aload_n 0, 1) := by decide +kernel
theorem dL_kept_215 : decode cL_kept 215 = .ok (.iload 5, 2) := by decide +kernel
theorem dL_kept_217 : decode cL_kept 217 = .ok (.iload 8, 2) := by decide +kernel
theorem dL_kept_219 : decode cL_kept 219 = .ok (.invokevirtual 41, 3) := by decide +kernel
theorem dL_kept_222 : decode cL_kept 222 = .ok (.ifCond .le 15, 3) := by decide +kernel
theorem dL_kept_225 : decode cL_kept 225 = .ok (.iload 9, 2) := by decide +kernel
theorem dL_kept_227 : decode cL_kept 227 = .ok (.iload 10, 2) := by decide +kernel
theorem dL_kept_229 : decode cL_kept 229 = .ok (.iadd, 1) := by decide +kernel
theorem dL_kept_230 : decode cL_kept 230 = .ok (.ifCond .le 7, 3) := by decide +kernel
theorem dL_kept_233 : decode cL_kept 233 = .ok (.iconst 1, 1) := by decide +kernel
theorem dL_kept_234 : decode cL_kept 234 = .ok (.goto 4, 3) := by decide +kernel
theorem dL_kept_237 : decode cL_kept 237 = .ok (.iconst 0, 1) := by decide +kernel
theorem dL_kept_238 : decode cL_kept 238 = .ok (.iadd, 1) := by decide +kernel
theorem dL_kept_239 : decode cL_kept 239 = .ok (.istore 7, 2) := by decide +kernel
theorem dL_kept_241 : decode cL_kept 241 = .ok (.iload 9, 2) := by decide +kernel
theorem dL_kept_243 : decode cL_kept 243 = .ok (.ifCond .lt 28, 3) := by decide +kernel
theorem dL_kept_246 : decode cL_kept 246 = .ok (.iload 10, 2) := by decide +kernel
theorem dL_kept_248 : decode cL_kept 248 = .ok (.ifCond .lt 23, 3) := by decide +kernel
theorem dL_kept_251 : decode cL_kept 251 = .ok (.aload_n 0, 1) := by decide +kernel
theorem dL_kept_252 : decode cL_kept 252 = .ok (.iload 5, 2) := by decide +kernel
theorem dL_kept_254 : decode cL_kept 254 = .ok (.iload 8, 2) := by decide +kernel
theorem dL_kept_256 : decode cL_kept 256 = .ok (.invokevirtual 41, 3) := by decide +kernel
theorem dL_kept_259 : decode cL_kept 259 = .ok (.ifCond .gt 8, 3) := by decide +kernel
theorem dL_kept_262 : decode cL_kept 262 = .ok (.iload 10, 2) := by decide +kernel
theorem dL_kept_264 : decode cL_kept 264 = .ok (.ifCond .ne 7, 3) := by decide +kernel
theorem dL_kept_267 : decode cL_kept 267 = .ok (.iconst 1, 1) := by decide +kernel
theorem dL_kept_268 : decode cL_kept 268 = .ok (.goto 4, 3) := by decide +kernel
theorem dL_kept_271 : decode cL_kept 271 = .ok (.iconst 0, 1) := by decide +kernel
theorem dL_kept_272 : decode cL_kept 272 = .ok (.istore_n 3, 1) := by decide +kernel
theorem dL_kept_273 : decode cL_kept 273 = .ok (.iinc 8 1, 3) := by decide +kernel
theorem dL_kept_276 : decode cL_kept 276 = .ok (.goto (-104), 3) := by decide +kernel
theorem dL_kept_279 : decode cL_kept 279 = .ok (.iload 4, 2) := by decide +kernel
theorem dL_kept_281 : decode cL_kept 281 = .ok (.aload_n 0, 1) := by decide +kernel
theorem dL_kept_282 : decode cL_kept 282 = .ok (.iload 5, 2) := by decide +kernel
theorem dL_kept_284 : decode cL_kept 284 = .ok (.invokevirtual 71, 3) := by decide +kernel
theorem dL_kept_287 : decode cL_kept 287 = .ok (.iadd, 1) := by decide +kernel
theorem dL_kept_288 : decode cL_kept 288 = .ok (.istore 4, 2) := by decide +kernel
theorem dL_kept_290 : decode cL_kept 290 = .ok (.iload_n 3, 1) := by decide +kernel
theorem dL_kept_291 : decode cL_kept 291 = .ok (.ifCond .eq 71, 3) := by decide +kernel
theorem dL_kept_294 : decode cL_kept 294 = .ok (.iload 6, 2) := by decide +kernel
theorem dL_kept_296 : decode cL_kept 296 = .ok (.aload_n 0, 1) := by decide +kernel
theorem dL_kept_297 : decode cL_kept 297 = .ok (.iload 5, 2) := by decide +kernel
theorem dL_kept_299 : decode cL_kept 299 = .ok (.invokevirtual 74, 3) := by decide +kernel
theorem dL_kept_302 : decode cL_kept 302 = .ok (.if_icmp .ne 60, 3) := by decide +kernel
theorem dL_kept_305 : decode cL_kept 305 = .ok (.aload_n 0, 1) := by decide +kernel
theorem dL_kept_306 : decode cL_kept 306 = .ok (.iload 5, 2) := by decide +kernel
theorem dL_kept_308 : decode cL_kept 308 = .ok (.invokevirtual 57, 3) := by decide +kernel
theorem dL_kept_311 : decode cL_kept 311 = .ok (.iload 7, 2) := by decide +kernel
theorem dL_kept_313 : decode cL_kept 313 = .ok (.if_icmp .lt 49, 3) := by decide +kernel
theorem dL_kept_316 : decode cL_kept 316 = .ok (.aload_n 0, 1) := by decide +kernel
theorem dL_kept_317 : decode cL_kept 317 = .ok (.iload 5, 2) := by decide +kernel
theorem dL_kept_319 : decode cL_kept 319 = .ok (.invokevirtual 57, 3) := by decide +kernel
theorem dL_kept_322 : decode cL_kept 322 = .ok (.iload_n 2, 1) := by decide +kernel
theorem dL_kept_323 : decode cL_kept 323 = .ok (.if_icmp .gt 39, 3) := by decide +kernel
theorem dL_kept_326 : decode cL_kept 326 = .ok (.aload_n 0, 1) := by decide +kernel
theorem dL_kept_327 : decode cL_kept 327 = .ok (.bipush 8, 2) := by decide +kernel
theorem dL_kept_329 : decode cL_kept 329 = .ok (.iload 5, 2) := by decide +kernel
theorem dL_kept_331 : decode cL_kept 331 = .ok (.iload_n 2, 1) := by decide +kernel
theorem dL_kept_332 : decode cL_kept 332 = .ok (.iconst 0, 1) := by decide +kernel
theorem dL_kept_333 : decode cL_kept 333 = .ok (.iconst 0, 1) := by decide +kernel
theorem dL_kept_334 : decode cL_kept 334 = .ok (.invokestatic 97, 3) := by decide +kernel
theorem dL_kept_337 : decode cL_kept 337 = .ok (.bipush (-62), 2) := by decide +kernel
theorem dL_kept_339 : decode cL_kept 339 = .ok (.if_icmp .ne 23, 3) := by decide +kernel
theorem dL_kept_342 : decode cL_kept 342 = .ok (.aload_n 0, 1) := by decide +kernel
theorem dL_kept_343 : decode cL_kept 343 = .ok (.bipush 9, 2) := by decide +kernel
theorem dL_kept_345 : decode cL_kept 345 = .ok (.iload 5, 2) := by decide +kernel
theorem dL_kept_347 : decode cL_kept 347 = .ok (.iconst (-1), 1) := by decide +kernel
theorem dL_kept_348 : decode cL_kept 348 = .ok (.iconst 0, 1) := by decide +kernel
theorem dL_kept_349 : decode cL_kept 349 = .ok (.iconst 0, 1) := by decide +kernel
theorem dL_kept_350 : decode cL_kept 350 = .ok (.invokestatic 97, 3) := by decide +kernel
theorem dL_kept_353 : decode cL_kept 353 = .ok (.bipush (-62), 2) := by decide +kernel
theorem dL_kept_355 : decode cL_kept 355 = .ok (.if_icmp .ne 7, 3) := by decide +kernel
theorem dL_kept_358 : decode cL_kept 358 = .ok (.iconst 1, 1) := by decide +kernel
theorem dL_kept_359 : decode cL_kept 359 = .ok (.goto 4, 3) := by decide +kernel
theorem dL_kept_362 : decode cL_kept 362 = .ok (.iconst 0, 1) := by decide +kernel
theorem dL_kept_363 : decode cL_kept 363 = .ok (.istore_n 3, 1) := by decide +kernel
theorem dL_kept_364 : decode cL_kept 364 = .ok (.iinc 5 1, 3) := by decide +kernel
theorem dL_kept_367 : decode cL_kept 367 = .ok (.goto (-220), 3) := by decide +kernel
theorem dL_kept_370 : decode cL_kept 370 = .ok (.iload_n 3, 1) := by decide +kernel
theorem dL_kept_371 : decode cL_kept 371 = .ok (.ifCond .eq 16, 3) := by decide +kernel
theorem dL_kept_374 : decode cL_kept 374 = .ok (.aload_n 0, 1) := by decide +kernel
theorem dL_kept_375 : decode cL_kept 375 = .ok (.invokevirtual 88, 3) := by decide +kernel
theorem dL_kept_378 : decode cL_kept 378 = .ok (.iload 4, 2) := by decide +kernel
theorem dL_kept_380 : decode cL_kept 380 = .ok (.if_icmp .lt 7, 3) := by decide +kernel
theorem dL_kept_383 : decode cL_kept 383 = .ok (.iconst 1, 1) := by decide +kernel
theorem dL_kept_384 : decode cL_kept 384 = .ok (.goto 4, 3) := by decide +kernel
theorem dL_kept_387 : decode cL_kept 387 = .ok (.iconst 0, 1) := by decide +kernel
theorem dL_kept_388 : decode cL_kept 388 = .ok (.ireturn, 1) := by decide +kernel
theorem dL_notices_0 : decode cL_notices 0 = .ok (.aload_n 0, 1) := by decide +kernel
theorem dL_notices_1 : decode cL_notices 1 = .ok (.invokevirtual 77, 3) := by decide +kernel
theorem dL_notices_4 : decode cL_notices 4 = .ok (.istore 4, 2) := by decide +kernel
theorem dL_notices_6 : decode cL_notices 6 = .ok (.aload_n 0, 1) := by decide +kernel
theorem dL_notices_7 : decode cL_notices 7 = .ok (.invokevirtual 83, 3) := by decide +kernel
theorem dL_notices_10 : decode cL_notices 10 = .ok (.istore 5, 2) := by decide +kernel
theorem dL_notices_12 : decode cL_notices 12 = .ok (.iload_n 3, 1) := by decide +kernel
theorem dL_notices_13 : decode cL_notices 13 = .ok (.ifCond .eq 16, 3) := by decide +kernel
theorem dL_notices_16 : decode cL_notices 16 = .ok (.iload_n 1, 1) := by decide +kernel
theorem dL_notices_17 : decode cL_notices 17 = .ok (.iload 4, 2) := by decide +kernel
theorem dL_notices_19 : decode cL_notices 19 = .ok (.iconst 2, 1) := by decide +kernel
theorem dL_notices_20 : decode cL_notices 20 = .ok (.iadd, 1) := by decide +kernel
theorem dL_notices_21 : decode cL_notices 21 = .ok (.invokestatic 100, 3) := by decide +kernel
theorem dL_notices_24 : decode cL_notices 24 = .ok (.iconst 1, 1) := by decide +kernel
theorem dL_notices_25 : decode cL_notices 25 = .ok (.isub, 1) := by decide +kernel
theorem dL_notices_26 : decode cL_notices 26 = .ok (.goto 18, 3) := by decide +kernel
theorem dL_notices_29 : decode cL_notices 29 = .ok (.iload_n 1, 1) := by decide +kernel
theorem dL_notices_30 : decode cL_notices 30 = .ok (.iload 4, 2) := by decide +kernel
theorem dL_notices_32 : decode cL_notices 32 = .ok (.ifCond .ne 7, 3) := by decide +kernel
theorem dL_notices_35 : decode cL_notices 35 = .ok (.iconst 1, 1) := by decide +kernel
theorem dL_notices_36 : decode cL_notices 36 = .ok (.goto 5, 3) := by decide +kernel
theorem dL_notices_39 : decode cL_notices 39 = .ok (.iload 4, 2) := by decide +kernel
theorem dL_notices_41 : decode cL_notices 41 = .ok (.invokestatic 100, 3) := by decide +kernel
theorem dL_notices_44 : decode cL_notices 44 = .ok (.istore 6, 2) := by decide +kernel
theorem dL_notices_46 : decode cL_notices 46 = .ok (.iload_n 3, 1) := by decide +kernel
theorem dL_notices_47 : decode cL_notices 47 = .ok (.ifCond .eq 15, 3) := by decide +kernel
theorem dL_notices_50 : decode cL_notices 50 = .ok (.iload_n 2, 1) := by decide +kernel
theorem dL_notices_51 : decode cL_notices 51 = .ok (.sipush 204, 3) := by decide +kernel
theorem dL_notices_54 : decode cL_notices 54 = .ok (.invokestatic 100, 3) := by decide +kernel
theorem dL_notices_57 : decode cL_notices 57 = .ok (.iconst 2, 1) := by decide +kernel
theorem dL_notices_58 : decode cL_notices 58 = .ok (.isub, 1) := by decide +kernel
theorem dL_notices_59 : decode cL_notices 59 = .ok (.goto 14, 3) := by decide +kernel
theorem dL_notices_62 : decode cL_notices 62 = .ok (.iload 5, 2) := by decide +kernel
theorem dL_notices_64 : decode cL_notices 64 = .ok (.iconst 1, 1) := by decide +kernel
theorem dL_notices_65 : decode cL_notices 65 = .ok (.iadd, 1) := by decide +kernel
theorem dL_notices_66 : decode cL_notices 66 = .ok (.iload_n 2, 1) := by decide +kernel
theorem dL_notices_67 : decode cL_notices 67 = .ok (.bipush 8, 2) := by decide +kernel
theorem dL_notices_69 : decode cL_notices 69 = .ok (.invokestatic 100, 3) := by decide +kernel
theorem dL_notices_72 : decode cL_notices 72 = .ok (.iadd, 1) := by decide +kernel
theorem dL_notices_73 : decode cL_notices 73 = .ok (.istore 7, 2) := by decide +kernel
theorem dL_notices_75 : decode cL_notices 75 = .ok (.iload 7, 2) := by decide +kernel
theorem dL_notices_77 : decode cL_notices 77 = .ok (.iload_n 3, 1) := by decide +kernel
theorem dL_notices_78 : decode cL_notices 78 = .ok (.ifCond .eq 16, 3) := by decide +kernel
theorem dL_notices_81 : decode cL_notices 81 = .ok (.iload_n 2, 1) := by decide +kernel
theorem dL_notices_82 : decode cL_notices 82 = .ok (.iconst 4, 1) := by decide +kernel
theorem dL_notices_83 : decode cL_notices 83 = .ok (.ishr, 1) := by decide +kernel
theorem dL_notices_84 : decode cL_notices 84 = .ok (.bipush 24, 2) := by decide +kernel
theorem dL_notices_86 : decode cL_notices 86 = .ok (.invokestatic 100, 3) := by decide +kernel
theorem dL_notices_89 : decode cL_notices 89 = .ok (.iconst 2, 1) := by decide +kernel
theorem dL_notices_90 : decode cL_notices 90 = .ok (.isub, 1) := by decide +kernel
theorem dL_notices_91 : decode cL_notices 91 = .ok (.goto 11, 3) := by decide +kernel
theorem dL_notices_94 : decode cL_notices 94 = .ok (.iload_n 2, 1) := by decide +kernel
theorem dL_notices_95 : decode cL_notices 95 = .ok (.iconst 4, 1) := by decide +kernel
theorem dL_notices_96 : decode cL_notices 96 = .ok (.ishr, 1) := by decide +kernel
theorem dL_notices_97 : decode cL_notices 97 = .ok (.bipush 12, 2) := by decide +kernel
theorem dL_notices_99 : decode cL_notices 99 = .ok (.invokestatic 100, 3) := by decide +kernel
theorem dL_notices_102 : decode cL_notices 102 = .ok (.iadd, 1) := by decide +kernel
theorem dL_notices_103 : decode cL_notices 103 = .ok (.istore 8, 2) := by decide +kernel
theorem dL_notices_105 : decode cL_notices 105 = .ok (.iload_n 3, 1) := by decide +kernel
theorem dL_notices_106 : decode cL_notices 106 = .ok (.ifCond .eq 17, 3) := by decide +kernel
theorem dL_notices_109 : decode cL_notices 109 = .ok (.iload_n 2, 1) := by decide +kernel
theorem dL_notices_110 : decode cL_notices 110 = .ok (.bipush 9, 2) := by decide +kernel
theorem dL_notices_112 : decode cL_notices 112 = .ok (.ishr, 1) := by decide +kernel
theorem dL_notices_113 : decode cL_notices 113 = .ok (.bipush 44, 2) := by decide +kernel
theorem dL_notices_115 : decode cL_notices 115 = .ok (.invokestatic 100, 3) := by decide +kernel
theorem dL_notices_118 : decode cL_notices 118 = .ok (.iconst 2, 1) := by decide +kernel
theorem dL_notices_119 : decode cL_notices 119 = .ok (.isub, 1) := by decide +kernel
theorem dL_notices_120 : decode cL_notices 120 = .ok (.goto 12, 3) := by decide +kernel
theorem dL_notices_123 : decode cL_notices 123 = .ok (.iload_n 2, 1) := by decide +kernel
theorem dL_notices_124 : decode cL_notices 124 = .ok (.bipush 9, 2) := by decide +kernel
theorem dL_notices_126 : decode cL_notices 126 = .ok (.ishr, 1) := by decide +kernel
theorem dL_notices_127 : decode cL_notices 127 = .ok (.bipush 41, 2) := by decide +kernel
theorem dL_notices_129 : decode cL_notices 129 = .ok (.invokestatic 100, 3) := by decide +kernel
theorem dL_notices_132 : decode cL_notices 132 = .ok (.istore 9, 2) := by decide +kernel
theorem dL_notices_134 : decode cL_notices 134 = .ok (.aload_n 0, 1) := by decide +kernel
theorem dL_notices_135 : decode cL_notices 135 = .ok (.invokestatic 103, 3) := by decide +kernel
theorem dL_notices_138 : decode cL_notices 138 = .ok (.lstore 10, 2) := by decide +kernel
theorem dL_notices_140 : decode cL_notices 140 = .ok (.iload 6, 2) := by decide +kernel
theorem dL_notices_142 : decode cL_notices 142 = .ok (.ifCond .lt 10, 3) := by decide +kernel
theorem dL_notices_145 : decode cL_notices 145 = .ok (.iload 6, 2) := by decide +kernel
theorem dL_notices_147 : decode cL_notices 147 = .ok (.iload 4, 2) := by decide +kernel
theorem dL_notices_149 : decode cL_notices 149 = .ok (.if_icmp .lt 7, 3) := by decide +kernel
theorem dL_notices_152 : decode cL_notices 152 = .ok (.iconst 1, 1) := by decide +kernel
theorem dL_notices_153 : decode cL_notices 153 = .ok (.goto 4, 3) := by decide +kernel
theorem dL_notices_156 : decode cL_notices 156 = .ok (.iconst 0, 1) := by decide +kernel
theorem dL_notices_157 : decode cL_notices 157 = .ok (.istore 12, 2) := by decide +kernel
theorem dL_notices_159 : decode cL_notices 159 = .ok (.iload 7, 2) := by decide +kernel
theorem dL_notices_161 : decode cL_notices 161 = .ok (.ifCond .lt 38, 3) := by decide +kernel
theorem dL_notices_164 : decode cL_notices 164 = .ok (.iload 7, 2) := by decide +kernel
theorem dL_notices_166 : decode cL_notices 166 = .ok (.sipush 200, 3) := by decide +kernel
theorem dL_notices_169 : decode cL_notices 169 = .ok (.if_icmp .gt 30, 3) := by decide +kernel
theorem dL_notices_172 : decode cL_notices 172 = .ok (.iload 8, 2) := by decide +kernel
theorem dL_notices_174 : decode cL_notices 174 = .ok (.iload 7, 2) := by decide +kernel
theorem dL_notices_176 : decode cL_notices 176 = .ok (.if_icmp .lt 23, 3) := by decide +kernel
theorem dL_notices_179 : decode cL_notices 179 = .ok (.iload 8, 2) := by decide +kernel
theorem dL_notices_181 : decode cL_notices 181 = .ok (.sipush 200, 3) := by decide +kernel
theorem dL_notices_184 : decode cL_notices 184 = .ok (.if_icmp .gt 15, 3) := by decide +kernel
theorem dL_notices_187 : decode cL_notices 187 = .ok (.iload 9, 2) := by decide +kernel
theorem dL_notices_189 : decode cL_notices 189 = .ok (.ifCond .lt 10, 3) := by decide +kernel
theorem dL_notices_192 : decode cL_notices 192 = .ok (.iload 9, 2) := by decide +kernel
theorem dL_notices_194 : decode cL_notices 194 = .ok (.bipush 40, 2) := by decide +kernel
theorem dL_notices_196 : decode cL_notices 196 = .ok (.if_icmp .le 7, 3) := by decide +kernel
theorem dL_notices_199 : decode cL_notices 199 = .ok (.iconst 1, 1) := by decide +kernel
theorem dL_notices_200 : decode cL_notices 200 = .ok (.goto 4, 3) := by decide +kernel
theorem dL_notices_203 : decode cL_notices 203 = .ok (.iconst 0, 1) := by decide +kernel
theorem dL_notices_204 : decode cL_notices 204 = .ok (.istore 13, 2) := by decide +kernel
theorem dL_notices_206 : decode cL_notices 206 = .ok (.iload 12, 2) := by decide +kernel
theorem dL_notices_208 : decode cL_notices 208 = .ok (.ifCond .ne 13, 3) := by decide +kernel
theorem dL_notices_211 : decode cL_notices 211 = .ok (.iload 13, 2) := by decide +kernel
theorem dL_notices_213 : decode cL_notices 213 = .ok (.ifCond .ne 8, 3) := by decide +kernel
theorem dL_notices_216 : decode cL_notices 216 = .ok (.iload 7, 2) := by decide +kernel
theorem dL_notices_218 : decode cL_notices 218 = .ok (.ifCond .ne 7, 3) := by decide +kernel
theorem dL_notices_221 : decode cL_notices 221 = .ok (.iconst 0, 1) := by decide +kernel
theorem dL_notices_222 : decode cL_notices 222 = .ok (.goto 13, 3) := by decide +kernel
theorem dL_notices_225 : decode cL_notices 225 = .ok (.aload_n 0, 1) := by decide +kernel
theorem dL_notices_226 : decode cL_notices 226 = .ok (.iload 6, 2) := by decide +kernel
theorem dL_notices_228 : decode cL_notices 228 = .ok (.iload 7, 2) := by decide +kernel
theorem dL_notices_230 : decode cL_notices 230 = .ok (.iconst 1, 1) := by decide +kernel
theorem dL_notices_231 : decode cL_notices 231 = .ok (.isub, 1) := by decide +kernel
theorem dL_notices_232 : decode cL_notices 232 = .ok (.invokevirtual 41, 3) := by decide +kernel
theorem dL_notices_235 : decode cL_notices 235 = .ok (.istore 14, 2) := by decide +kernel
theorem dL_notices_237 : decode cL_notices 237 = .ok (.iload 12, 2) := by decide +kernel
theorem dL_notices_239 : decode cL_notices 239 = .ok (.ifCond .ne 16, 3) := by decide +kernel
theorem dL_notices_242 : decode cL_notices 242 = .ok (.iload 13, 2) := by decide +kernel
theorem dL_notices_244 : decode cL_notices 244 = .ok (.ifCond .ne 11, 3) := by decide +kernel
theorem dL_notices_247 : decode cL_notices 247 = .ok (.iload 8, 2) := by decide +kernel
theorem dL_notices_249 : decode cL_notices 249 = .ok (.sipush 200, 3) := by decide +kernel
theorem dL_notices_252 : decode cL_notices 252 = .ok (.if_icmp .ne 7, 3) := by decide +kernel
theorem dL_notices_255 : decode cL_notices 255 = .ok (.iconst 0, 1) := by decide +kernel
theorem dL_notices_256 : decode cL_notices 256 = .ok (.goto 13, 3) := by decide +kernel
theorem dL_notices_259 : decode cL_notices 259 = .ok (.aload_n 0, 1) := by decide +kernel
theorem dL_notices_260 : decode cL_notices 260 = .ok (.iload 6, 2) := by decide +kernel
theorem dL_notices_262 : decode cL_notices 262 = .ok (.iload 8, 2) := by decide +kernel
theorem dL_notices_264 : decode cL_notices 264 = .ok (.iconst 1, 1) := by decide +kernel
theorem dL_notices_265 : decode cL_notices 265 = .ok (.iadd, 1) := by decide +kernel
theorem dL_notices_266 : decode cL_notices 266 = .ok (.invokevirtual 41, 3) := by decide +kernel
theorem dL_notices_269 : decode cL_notices 269 = .ok (.istore 15, 2) := by decide +kernel
theorem dL_notices_271 : decode cL_notices 271 = .ok (.aload_n 0, 1) := by decide +kernel
theorem dL_notices_272 : decode cL_notices 272 = .ok (.iconst 1, 1) := by decide +kernel
theorem dL_notices_273 : decode cL_notices 273 = .ok (.iload 6, 2) := by decide +kernel
theorem dL_notices_275 : decode cL_notices 275 = .ok (.iload 7, 2) := by decide +kernel
theorem dL_notices_277 : decode cL_notices 277 = .ok (.iload 8, 2) := by decide +kernel
theorem dL_notices_279 : decode cL_notices 279 = .ok (.iload 9, 2) := by decide +kernel
theorem dL_notices_281 : decode cL_notices 281 = .ok (.invokestatic 97, 3) := by decide +kernel
theorem dL_notices_284 : decode cL_notices 284 = .ok (.istore 16, 2) := by decide +kernel
theorem dL_notices_286 : decode cL_notices 286 = .ok (.iload 16, 2) := by decide +kernel
theorem dL_notices_288 : decode cL_notices 288 = .ok (.ifCond .ge 46, 3) := by decide +kernel
theorem dL_notices_291 : decode cL_notices 291 = .ok (.aload_n 0, 1) := by decide +kernel
theorem dL_notices_292 : decode cL_notices 292 = .ok (.invokestatic 103, 3) := by decide +kernel
theorem dL_notices_295 : decode cL_notices 295 = .ok (.lload 10, 2) := by decide +kernel
theorem dL_notices_297 : decode cL_notices 297 = .ok (.lcmp, 1) := by decide +kernel
theorem dL_notices_298 : decode cL_notices 298 = .ok (.ifCond .ne 34, 3) := by decide +kernel
theorem dL_notices_301 : decode cL_notices 301 = .ok (.iload 16, 2) := by decide +kernel
theorem dL_notices_303 : decode cL_notices 303 = .ok (.iload 12, 2) := by decide +kernel
theorem dL_notices_305 : decode cL_notices 305 = .ok (.ifCond .eq 8, 3) := by decide +kernel
theorem dL_notices_308 : decode cL_notices 308 = .ok (.bipush (-61), 2) := by decide +kernel
theorem dL_notices_310 : decode cL_notices 310 = .ok (.goto 15, 3) := by decide +kernel
theorem dL_notices_313 : decode cL_notices 313 = .ok (.iload 13, 2) := by decide +kernel
theorem dL_notices_315 : decode cL_notices 315 = .ok (.ifCond .eq 8, 3) := by decide +kernel
theorem dL_notices_318 : decode cL_notices 318 = .ok (.bipush (-62), 2) := by decide +kernel
theorem dL_notices_320 : decode cL_notices 320 = .ok (.goto 5, 3) := by decide +kernel
theorem dL_notices_323 : decode cL_notices 323 = .ok (.bipush (-63), 2) := by decide +kernel
theorem dL_notices_325 : decode cL_notices 325 = .ok (.if_icmp .ne 7, 3) := by decide +kernel
theorem dL_notices_328 : decode cL_notices 328 = .ok (.iconst 1, 1) := by decide +kernel
theorem dL_notices_329 : decode cL_notices 329 = .ok (.goto 4, 3) := by decide +kernel
theorem dL_notices_332 : decode cL_notices 332 = .ok (.iconst 0, 1) := by decide +kernel
theorem dL_notices_333 : decode cL_notices 333 = .ok (.ireturn, 1) := by decide +kernel
theorem dL_notices_334 : decode cL_notices 334 = .ok (.iload 12, 2) := by decide +kernel
theorem dL_notices_336 : decode cL_notices 336 = .ok (.ifCond .ne 76, 3) := by decide +kernel
theorem dL_notices_339 : decode cL_notices 339 = .ok (.iload 13, 2) := by decide +kernel
theorem dL_notices_341 : decode cL_notices 341 = .ok (.ifCond .ne 71, 3) := by decide +kernel
theorem dL_notices_344 : decode cL_notices 344 = .ok (.iload 16, 2) := by decide +kernel
theorem dL_notices_346 : decode cL_notices 346 = .ok (.ifCond .le 66, 3) := by decide +kernel
theorem dL_notices_349 : decode cL_notices 349 = .ok (.iload 16, 2) := by decide +kernel
theorem dL_notices_351 : decode cL_notices 351 = .ok (.bipush 31, 2) := by decide +kernel
theorem dL_notices_353 : decode cL_notices 353 = .ok (.if_icmp .ge 59, 3) := by decide +kernel
theorem dL_notices_356 : decode cL_notices 356 = .ok (.iload 7, 2) := by decide +kernel
theorem dL_notices_358 : decode cL_notices 358 = .ok (.iload 5, 2) := by decide +kernel
theorem dL_notices_360 : decode cL_notices 360 = .ok (.iconst 2, 1) := by decide +kernel
theorem dL_notices_361 : decode cL_notices 361 = .ok (.iadd, 1) := by decide +kernel
theorem dL_notices_362 : decode cL_notices 362 = .ok (.if_icmp .lt 50, 3) := by decide +kernel
theorem dL_notices_365 : decode cL_notices 365 = .ok (.iload 7, 2) := by decide +kernel
theorem dL_notices_367 : decode cL_notices 367 = .ok (.ifCond .eq 18, 3) := by decide +kernel
theorem dL_notices_370 : decode cL_notices 370 = .ok (.aload_n 0, 1) := by decide +kernel
theorem dL_notices_371 : decode cL_notices 371 = .ok (.iload 6, 2) := by decide +kernel
theorem dL_notices_373 : decode cL_notices 373 = .ok (.iload 7, 2) := by decide +kernel
theorem dL_notices_375 : decode cL_notices 375 = .ok (.iconst 1, 1) := by decide +kernel
theorem dL_notices_376 : decode cL_notices 376 = .ok (.isub, 1) := by decide +kernel
theorem dL_notices_377 : decode cL_notices 377 = .ok (.invokevirtual 41, 3) := by decide +kernel
theorem dL_notices_380 : decode cL_notices 380 = .ok (.iload 14, 2) := by decide +kernel
theorem dL_notices_382 : decode cL_notices 382 = .ok (.if_icmp .ne 30, 3) := by decide +kernel
theorem dL_notices_385 : decode cL_notices 385 = .ok (.iload 8, 2) := by decide +kernel
theorem dL_notices_387 : decode cL_notices 387 = .ok (.sipush 200, 3) := by decide +kernel
theorem dL_notices_390 : decode cL_notices 390 = .ok (.if_icmp .eq 18, 3) := by decide +kernel
theorem dL_notices_393 : decode cL_notices 393 = .ok (.aload_n 0, 1) := by decide +kernel
theorem dL_notices_394 : decode cL_notices 394 = .ok (.iload 6, 2) := by decide +kernel
theorem dL_notices_396 : decode cL_notices 396 = .ok (.iload 8, 2) := by decide +kernel
theorem dL_notices_398 : decode cL_notices 398 = .ok (.iconst 1, 1) := by decide +kernel
theorem dL_notices_399 : decode cL_notices 399 = .ok (.iadd, 1) := by decide +kernel
theorem dL_notices_400 : decode cL_notices 400 = .ok (.invokevirtual 41, 3) := by decide +kernel
theorem dL_notices_403 : decode cL_notices 403 = .ok (.iload 15, 2) := by decide +kernel
theorem dL_notices_405 : decode cL_notices 405 = .ok (.if_icmp .ne 7, 3) := by decide +kernel
theorem dL_notices_408 : decode cL_notices 408 = .ok (.iconst 1, 1) := by decide +kernel
theorem dL_notices_409 : decode cL_notices 409 = .ok (.goto 4, 3) := by decide +kernel
theorem dL_notices_412 : decode cL_notices 412 = .ok (.iconst 0, 1) := by decide +kernel
theorem dL_notices_413 : decode cL_notices 413 = .ok (.istore 17, 2) := by decide +kernel
theorem dL_notices_415 : decode cL_notices 415 = .ok (.iload 7, 2) := by decide +kernel
theorem dL_notices_417 : decode cL_notices 417 = .ok (.istore 18, 2) := by decide +kernel
theorem dL_notices_419 : decode cL_notices 419 = .ok (.iload 18, 2) := by decide +kernel
theorem dL_notices_421 : decode cL_notices 421 = .ok (.iload 8, 2) := by decide +kernel
theorem dL_notices_423 : decode cL_notices 423 = .ok (.if_icmp .gt 34, 3) := by decide +kernel
theorem dL_notices_426 : decode cL_notices 426 = .ok (.iload 17, 2) := by decide +kernel
theorem dL_notices_428 : decode cL_notices 428 = .ok (.ifCond .eq 29, 3) := by decide +kernel
theorem dL_notices_431 : decode cL_notices 431 = .ok (.aload_n 0, 1) := by decide +kernel
theorem dL_notices_432 : decode cL_notices 432 = .ok (.iload 6, 2) := by decide +kernel
theorem dL_notices_434 : decode cL_notices 434 = .ok (.iload 18, 2) := by decide +kernel
theorem dL_notices_436 : decode cL_notices 436 = .ok (.invokevirtual 41, 3) := by decide +kernel
theorem dL_notices_439 : decode cL_notices 439 = .ok (.iload 9, 2) := by decide +kernel
theorem dL_notices_441 : decode cL_notices 441 = .ok (.if_icmp .ne 7, 3) := by decide +kernel
theorem dL_notices_444 : decode cL_notices 444 = .ok (.iconst 1, 1) := by decide +kernel
theorem dL_notices_445 : decode cL_notices 445 = .ok (.goto 4, 3) := by decide +kernel
theorem dL_notices_448 : decode cL_notices 448 = .ok (.iconst 0, 1) := by decide +kernel
theorem dL_notices_449 : decode cL_notices 449 = .ok (.istore 17, 2) := by decide +kernel
theorem dL_notices_451 : decode cL_notices 451 = .ok (.iinc 18 1, 3) := by decide +kernel
theorem dL_notices_454 : decode cL_notices 454 = .ok (.goto (-35), 3) := by decide +kernel
theorem dL_notices_457 : decode cL_notices 457 = .ok (.iload 17, 2) := by decide +kernel
theorem dL_notices_459 : decode cL_notices 459 = .ok (.ireturn, 1) := by decide +kernel
theorem dL_courses_0 : decode cL_courses 0 = .ok (.aload_n 0, 1) := by decide +kernel
theorem dL_courses_1 : decode cL_courses 1 = .ok (.invokestatic 103, 3) := by decide +kernel
theorem dL_courses_4 : decode cL_courses 4 = .ok (.lstore 5, 2) := by decide +kernel
theorem dL_courses_6 : decode cL_courses 6 = .ok (.aload_n 0, 1) := by decide +kernel
theorem dL_courses_7 : decode cL_courses 7 = .ok (.invokevirtual 77, 3) := by decide +kernel
theorem dL_courses_10 : decode cL_courses 10 = .ok (.istore 7, 2) := by decide +kernel
theorem dL_courses_12 : decode cL_courses 12 = .ok (.iload_n 2, 1) := by decide +kernel
theorem dL_courses_13 : decode cL_courses 13 = .ok (.iconst 3, 1) := by decide +kernel
theorem dL_courses_14 : decode cL_courses 14 = .ok (.invokestatic 100, 3) := by decide +kernel
theorem dL_courses_17 : decode cL_courses 17 = .ok (.ifCond .ne 263, 3) := by decide +kernel
theorem dL_courses_20 : decode cL_courses 20 = .ok (.iload 4, 2) := by decide +kernel
theorem dL_courses_22 : decode cL_courses 22 = .ok (.ifCond .eq 12, 3) := by decide +kernel
theorem dL_courses_25 : decode cL_courses 25 = .ok (.iload_n 3, 1) := by decide +kernel
theorem dL_courses_26 : decode cL_courses 26 = .ok (.bipush 10, 2) := by decide +kernel
theorem dL_courses_28 : decode cL_courses 28 = .ok (.invokestatic 100, 3) := by decide +kernel
theorem dL_courses_31 : decode cL_courses 31 = .ok (.goto 10, 3) := by decide +kernel
theorem dL_courses_34 : decode cL_courses 34 = .ok (.iconst 1, 1) := by decide +kernel
theorem dL_courses_35 : decode cL_courses 35 = .ok (.iload_n 3, 1) := by decide +kernel
theorem dL_courses_36 : decode cL_courses 36 = .ok (.iconst 3, 1) := by decide +kernel
theorem dL_courses_37 : decode cL_courses 37 = .ok (.invokestatic 100, 3) := by decide +kernel
theorem dL_courses_40 : decode cL_courses 40 = .ok (.iadd, 1) := by decide +kernel
theorem dL_courses_41 : decode cL_courses 41 = .ok (.istore 8, 2) := by decide +kernel
theorem dL_courses_43 : decode cL_courses 43 = .ok (.iload 4, 2) := by decide +kernel
theorem dL_courses_45 : decode cL_courses 45 = .ok (.ifCond .eq 17, 3) := by decide +kernel
theorem dL_courses_48 : decode cL_courses 48 = .ok (.iload_n 3, 1) := by decide +kernel
theorem dL_courses_49 : decode cL_courses 49 = .ok (.iconst 3, 1) := by decide +kernel
theorem dL_courses_50 : decode cL_courses 50 = .ok (.ishr, 1) := by decide +kernel
theorem dL_courses_51 : decode cL_courses 51 = .ok (.sipush 204, 3) := by decide +kernel
theorem dL_courses_54 : decode cL_courses 54 = .ok (.invokestatic 100, 3) := by decide +kernel
theorem dL_courses_57 : decode cL_courses 57 = .ok (.iconst 2, 1) := by decide +kernel
theorem dL_courses_58 : decode cL_courses 58 = .ok (.isub, 1) := by decide +kernel
theorem dL_courses_59 : decode cL_courses 59 = .ok (.goto 11, 3) := by decide +kernel
theorem dL_courses_62 : decode cL_courses 62 = .ok (.iload_n 3, 1) := by decide +kernel
theorem dL_courses_63 : decode cL_courses 63 = .ok (.iconst 3, 1) := by decide +kernel
theorem dL_courses_64 : decode cL_courses 64 = .ok (.ishr, 1) := by decide +kernel
theorem dL_courses_65 : decode cL_courses 65 = .ok (.bipush 50, 2) := by decide +kernel
theorem dL_courses_67 : decode cL_courses 67 = .ok (.invokestatic 100, 3) := by decide +kernel
theorem dL_courses_70 : decode cL_courses 70 = .ok (.istore 9, 2) := by decide +kernel
theorem dL_courses_72 : decode cL_courses 72 = .ok (.iload 9, 2) := by decide +kernel
theorem dL_courses_74 : decode cL_courses 74 = .ok (.iload 4, 2) := by decide +kernel
theorem dL_courses_76 : decode cL_courses 76 = .ok (.ifCond .eq 17, 3) := by decide +kernel
theorem dL_courses_79 : decode cL_courses 79 = .ok (.iload_n 3, 1) := by decide +kernel
theorem dL_courses_80 : decode cL_courses 80 = .ok (.bipush 6, 2) := by decide +kernel
theorem dL_courses_82 : decode cL_courses 82 = .ok (.ishr, 1) := by decide +kernel
theorem dL_courses_83 : decode cL_courses 83 = .ok (.bipush 24, 2) := by decide +kernel
theorem dL_courses_85 : decode cL_courses 85 = .ok (.invokestatic 100, 3) := by decide +kernel
theorem dL_courses_88 : decode cL_courses 88 = .ok (.iconst 2, 1) := by decide +kernel
theorem dL_courses_89 : decode cL_courses 89 = .ok (.isub, 1) := by decide +kernel
theorem dL_courses_90 : decode cL_courses 90 = .ok (.goto 12, 3) := by decide +kernel
theorem dL_courses_93 : decode cL_courses 93 = .ok (.iload_n 3, 1) := by decide +kernel
theorem dL_courses_94 : decode cL_courses 94 = .ok (.bipush 6, 2) := by decide +kernel
theorem dL_courses_96 : decode cL_courses 96 = .ok (.ishr, 1) := by decide +kernel
theorem dL_courses_97 : decode cL_courses 97 = .ok (.bipush 9, 2) := by decide +kernel
theorem dL_courses_99 : decode cL_courses 99 = .ok (.invokestatic 100, 3) := by decide +kernel
theorem dL_courses_102 : decode cL_courses 102 = .ok (.iadd, 1) := by decide +kernel
theorem dL_courses_103 : decode cL_courses 103 = .ok (.istore 10, 2) := by decide +kernel
theorem dL_courses_105 : decode cL_courses 105 = .ok (.iload 4, 2) := by decide +kernel
theorem dL_courses_107 : decode cL_courses 107 = .ok (.ifCond .eq 17, 3) := by decide +kernel
theorem dL_courses_110 : decode cL_courses 110 = .ok (.iload_n 3, 1) := by decide +kernel
theorem dL_courses_111 : decode cL_courses 111 = .ok (.bipush 9, 2) := by decide +kernel
theorem dL_courses_113 : decode cL_courses 113 = .ok (.ishr, 1) := by decide +kernel
theorem dL_courses_114 : decode cL_courses 114 = .ok (.bipush 44, 2) := by decide +kernel
theorem dL_courses_116 : decode cL_courses 116 = .ok (.invokestatic 100, 3) := by decide +kernel
theorem dL_courses_119 : decode cL_courses 119 = .ok (.iconst 2, 1) := by decide +kernel
theorem dL_courses_120 : decode cL_courses 120 = .ok (.isub, 1) := by decide +kernel
theorem dL_courses_121 : decode cL_courses 121 = .ok (.goto 14, 3) := by decide +kernel
theorem dL_courses_124 : decode cL_courses 124 = .ok (.iconst 1, 1) := by decide +kernel
theorem dL_courses_125 : decode cL_courses 125 = .ok (.iload_n 3, 1) := by decide +kernel
theorem dL_courses_126 : decode cL_courses 126 = .ok (.bipush 9, 2) := by decide +kernel
theorem dL_courses_128 : decode cL_courses 128 = .ok (.ishr, 1) := by decide +kernel
theorem dL_courses_129 : decode cL_courses 129 = .ok (.bipush 22, 2) := by decide +kernel
theorem dL_courses_131 : decode cL_courses 131 = .ok (.invokestatic 100, 3) := by decide +kernel
theorem dL_courses_134 : decode cL_courses 134 = .ok (.iadd, 1) := by decide +kernel
theorem dL_courses_135 : decode cL_courses 135 = .ok (.istore 11, 2) := by decide +kernel
theorem dL_courses_137 : decode cL_courses 137 = .ok (.iload 8, 2) := by decide +kernel
theorem dL_courses_139 : decode cL_courses 139 = .ok (.iconst 1, 1) := by decide +kernel
theorem dL_courses_140 : decode cL_courses 140 = .ok (.if_icmp .lt 51, 3) := by decide +kernel
theorem dL_courses_143 : decode cL_courses 143 = .ok (.iload 8, 2) := by decide +kernel
theorem dL_courses_145 : decode cL_courses 145 = .ok (.bipush 8, 2) := by decide +kernel
theorem dL_courses_147 : decode cL_courses 147 = .ok (.if_icmp .gt 44, 3) := by decide +kernel
theorem dL_courses_150 : decode cL_courses 150 = .ok (.iload 9, 2) := by decide +kernel
theorem dL_courses_152 : decode cL_courses 152 = .ok (.ifCond .lt 39, 3) := by decide +kernel
theorem dL_courses_155 : decode cL_courses 155 = .ok (.iload 9, 2) := by decide +kernel
theorem dL_courses_157 : decode cL_courses 157 = .ok (.sipush 200, 3) := by decide +kernel
theorem dL_courses_160 : decode cL_courses 160 = .ok (.if_icmp .gt 31, 3) := by decide +kernel
theorem dL_courses_163 : decode cL_courses 163 = .ok (.iload 10, 2) := by decide +kernel
theorem dL_courses_165 : decode cL_courses 165 = .ok (.iload 9, 2) := by decide +kernel
theorem dL_courses_167 : decode cL_courses 167 = .ok (.if_icmp .lt 24, 3) := by decide +kernel
theorem dL_courses_170 : decode cL_courses 170 = .ok (.iload 10, 2) := by decide +kernel
theorem dL_courses_172 : decode cL_courses 172 = .ok (.sipush 200, 3) := by decide +kernel
theorem dL_courses_175 : decode cL_courses 175 = .ok (.if_icmp .gt 16, 3) := by decide +kernel
theorem dL_courses_178 : decode cL_courses 178 = .ok (.iload 11, 2) := by decide +kernel
theorem dL_courses_180 : decode cL_courses 180 = .ok (.iconst 1, 1) := by decide +kernel
theorem dL_courses_181 : decode cL_courses 181 = .ok (.if_icmp .lt 10, 3) := by decide +kernel
theorem dL_courses_184 : decode cL_courses 184 = .ok (.iload 11, 2) := by decide +kernel
theorem dL_courses_186 : decode cL_courses 186 = .ok (.bipush 40, 2) := by decide +kernel
theorem dL_courses_188 : decode cL_courses 188 = .ok (.if_icmp .le 7, 3) := by decide +kernel
theorem dL_courses_191 : decode cL_courses 191 = .ok (.iconst 1, 1) := by decide +kernel
theorem dL_courses_192 : decode cL_courses 192 = .ok (.goto 4, 3) := by decide +kernel
theorem dL_courses_195 : decode cL_courses 195 = .ok (.iconst 0, 1) := by decide +kernel
theorem dL_courses_196 : decode cL_courses 196 = .ok (.istore 12, 2) := by decide +kernel
theorem dL_courses_198 : decode cL_courses 198 = .ok (.aload_n 0, 1) := by decide +kernel
theorem dL_courses_199 : decode cL_courses 199 = .ok (.iconst 2, 1) := by decide +kernel
theorem dL_courses_200 : decode cL_courses 200 = .ok (.iload 8, 2) := by decide +kernel
theorem dL_courses_202 : decode cL_courses 202 = .ok (.iload 9, 2) := by decide +kernel
theorem dL_courses_204 : decode cL_courses 204 = .ok (.iload 10, 2) := by decide +kernel
theorem dL_courses_206 : decode cL_courses 206 = .ok (.iload 11, 2) := by decide +kernel
theorem dL_courses_208 : decode cL_courses 208 = .ok (.invokestatic 97, 3) := by decide +kernel
theorem dL_courses_211 : decode cL_courses 211 = .ok (.istore 13, 2) := by decide +kernel
theorem dL_courses_213 : decode cL_courses 213 = .ok (.aload_n 0, 1) := by decide +kernel
theorem dL_courses_214 : decode cL_courses 214 = .ok (.invokestatic 103, 3) := by decide +kernel
theorem dL_courses_217 : decode cL_courses 217 = .ok (.lload 5, 2) := by decide +kernel
theorem dL_courses_219 : decode cL_courses 219 = .ok (.lcmp, 1) := by decide +kernel
theorem dL_courses_220 : decode cL_courses 220 = .ok (.ifCond .ne 38, 3) := by decide +kernel
theorem dL_courses_223 : decode cL_courses 223 = .ok (.iload 13, 2) := by decide +kernel
theorem dL_courses_225 : decode cL_courses 225 = .ok (.iload 12, 2) := by decide +kernel
theorem dL_courses_227 : decode cL_courses 227 = .ok (.ifCond .eq 8, 3) := by decide +kernel
theorem dL_courses_230 : decode cL_courses 230 = .ok (.bipush (-62), 2) := by decide +kernel
theorem dL_courses_232 : decode cL_courses 232 = .ok (.goto 19, 3) := by decide +kernel
theorem dL_courses_235 : decode cL_courses 235 = .ok (.aload_n 1, 1) := by decide +kernel
theorem dL_courses_236 : decode cL_courses 236 = .ok (.iconst 0, 1) := by decide +kernel
theorem dL_courses_237 : decode cL_courses 237 = .ok (.iaload, 1) := by decide +kernel
theorem dL_courses_238 : decode cL_courses 238 = .ok (.bipush 10, 2) := by decide +kernel
theorem dL_courses_240 : decode cL_courses 240 = .ok (.if_icmp .ne 8, 3) := by decide +kernel
theorem dL_courses_243 : decode cL_courses 243 = .ok (.bipush (-63), 2) := by decide +kernel
end
section
theorem dL_courses_245 : decode cL_courses 245 = .ok (.goto 6, 3) := by decide +kernel
theorem dL_courses_248 : decode cL_courses 248 = .ok (.aload_n 1, 1) := by decide +kernel
theorem dL_courses_249 : decode cL_courses 249 = .ok (.iconst 0, 1) := by decide +kernel
theorem dL_courses_250 : decode cL_courses 250 = .ok (.iaload, 1) := by decide +kernel
theorem dL_courses_251 : decode cL_courses 251 = .ok (.if_icmp .ne 7, 3) := by decide +kernel
theorem dL_courses_254 : decode cL_courses 254 = .ok (.iconst 1, 1) := by decide +kernel
theorem dL_courses_255 : decode cL_courses 255 = .ok (.goto 4, 3) := by decide +kernel
theorem dL_courses_258 : decode cL_courses 258 = .ok (.iconst 0, 1) := by decide +kernel
theorem dL_courses_259 : decode cL_courses 259 = .ok (.istore 14, 2) := by decide +kernel
theorem dL_courses_261 : decode cL_courses 261 = .ok (.aload_n 1, 1) := by decide +kernel
theorem dL_courses_262 : decode cL_courses 262 = .ok (.iconst 0, 1) := by decide +kernel
theorem dL_courses_263 : decode cL_courses 263 = .ok (.dup2, 1) := by decide +kernel
theorem dL_courses_264 : decode cL_courses 264 = .ok (.iaload, 1) := by decide +kernel
theorem dL_courses_265 : decode cL_courses 265 = .ok (.iload 13, 2) := by decide +kernel
theorem dL_courses_267 : decode cL_courses 267 = .ok (.ifCond .lt 7, 3) := by decide +kernel
theorem dL_courses_270 : decode cL_courses 270 = .ok (.iconst 1, 1) := by decide +kernel
theorem dL_courses_271 : decode cL_courses 271 = .ok (.goto 4, 3) := by decide +kernel
theorem dL_courses_274 : decode cL_courses 274 = .ok (.iconst 0, 1) := by decide +kernel
theorem dL_courses_275 : decode cL_courses 275 = .ok (.iadd, 1) := by decide +kernel
theorem dL_courses_276 : decode cL_courses 276 = .ok (.iastore, 1) := by decide +kernel
theorem dL_courses_277 : decode cL_courses 277 = .ok (.iload 14, 2) := by decide +kernel
theorem dL_courses_279 : decode cL_courses 279 = .ok (.ireturn, 1) := by decide +kernel
theorem dL_courses_280 : decode cL_courses 280 = .ok (.iload 4, 2) := by decide +kernel
theorem dL_courses_282 : decode cL_courses 282 = .ok (.ifCond .eq 18, 3) := by decide +kernel
theorem dL_courses_285 : decode cL_courses 285 = .ok (.iload_n 2, 1) := by decide +kernel
theorem dL_courses_286 : decode cL_courses 286 = .ok (.iconst 3, 1) := by decide +kernel
theorem dL_courses_287 : decode cL_courses 287 = .ok (.ishr, 1) := by decide +kernel
theorem dL_courses_288 : decode cL_courses 288 = .ok (.iload 7, 2) := by decide +kernel
theorem dL_courses_290 : decode cL_courses 290 = .ok (.iconst 2, 1) := by decide +kernel
theorem dL_courses_291 : decode cL_courses 291 = .ok (.iadd, 1) := by decide +kernel
theorem dL_courses_292 : decode cL_courses 292 = .ok (.invokestatic 100, 3) := by decide +kernel
theorem dL_courses_295 : decode cL_courses 295 = .ok (.iconst 1, 1) := by decide +kernel
theorem dL_courses_296 : decode cL_courses 296 = .ok (.isub, 1) := by decide +kernel
theorem dL_courses_297 : decode cL_courses 297 = .ok (.goto 20, 3) := by decide +kernel
theorem dL_courses_300 : decode cL_courses 300 = .ok (.iload_n 2, 1) := by decide +kernel
theorem dL_courses_301 : decode cL_courses 301 = .ok (.iconst 3, 1) := by decide +kernel
theorem dL_courses_302 : decode cL_courses 302 = .ok (.ishr, 1) := by decide +kernel
theorem dL_courses_303 : decode cL_courses 303 = .ok (.iload 7, 2) := by decide +kernel
theorem dL_courses_305 : decode cL_courses 305 = .ok (.ifCond .ne 7, 3) := by decide +kernel
theorem dL_courses_308 : decode cL_courses 308 = .ok (.iconst 1, 1) := by decide +kernel
theorem dL_courses_309 : decode cL_courses 309 = .ok (.goto 5, 3) := by decide +kernel
theorem dL_courses_312 : decode cL_courses 312 = .ok (.iload 7, 2) := by decide +kernel
theorem dL_courses_314 : decode cL_courses 314 = .ok (.invokestatic 100, 3) := by decide +kernel
theorem dL_courses_317 : decode cL_courses 317 = .ok (.istore 8, 2) := by decide +kernel
theorem dL_courses_319 : decode cL_courses 319 = .ok (.iload 4, 2) := by decide +kernel
theorem dL_courses_321 : decode cL_courses 321 = .ok (.ifCond .eq 17, 3) := by decide +kernel
theorem dL_courses_324 : decode cL_courses 324 = .ok (.iload_n 3, 1) := by decide +kernel
theorem dL_courses_325 : decode cL_courses 325 = .ok (.aload_n 1, 1) := by decide +kernel
theorem dL_courses_326 : decode cL_courses 326 = .ok (.iconst 0, 1) := by decide +kernel
theorem dL_courses_327 : decode cL_courses 327 = .ok (.iaload, 1) := by decide +kernel
theorem dL_courses_328 : decode cL_courses 328 = .ok (.iconst 2, 1) := by decide +kernel
theorem dL_courses_329 : decode cL_courses 329 = .ok (.iadd, 1) := by decide +kernel
theorem dL_courses_330 : decode cL_courses 330 = .ok (.invokestatic 100, 3) := by decide +kernel
theorem dL_courses_333 : decode cL_courses 333 = .ok (.iconst 1, 1) := by decide +kernel
theorem dL_courses_334 : decode cL_courses 334 = .ok (.isub, 1) := by decide +kernel
theorem dL_courses_335 : decode cL_courses 335 = .ok (.goto 20, 3) := by decide +kernel
theorem dL_courses_338 : decode cL_courses 338 = .ok (.iload_n 3, 1) := by decide +kernel
theorem dL_courses_339 : decode cL_courses 339 = .ok (.aload_n 1, 1) := by decide +kernel
theorem dL_courses_340 : decode cL_courses 340 = .ok (.iconst 0, 1) := by decide +kernel
theorem dL_courses_341 : decode cL_courses 341 = .ok (.iaload, 1) := by decide +kernel
theorem dL_courses_342 : decode cL_courses 342 = .ok (.ifCond .ne 7, 3) := by decide +kernel
theorem dL_courses_345 : decode cL_courses 345 = .ok (.iconst 1, 1) := by decide +kernel
theorem dL_courses_346 : decode cL_courses 346 = .ok (.goto 6, 3) := by decide +kernel
theorem dL_courses_349 : decode cL_courses 349 = .ok (.aload_n 1, 1) := by decide +kernel
theorem dL_courses_350 : decode cL_courses 350 = .ok (.iconst 0, 1) := by decide +kernel
theorem dL_courses_351 : decode cL_courses 351 = .ok (.iaload, 1) := by decide +kernel
theorem dL_courses_352 : decode cL_courses 352 = .ok (.invokestatic 100, 3) := by decide +kernel
theorem dL_courses_355 : decode cL_courses 355 = .ok (.istore 9, 2) := by decide +kernel
theorem dL_courses_357 : decode cL_courses 357 = .ok (.aload_n 0, 1) := by decide +kernel
theorem dL_courses_358 : decode cL_courses 358 = .ok (.iconst 3, 1) := by decide +kernel
theorem dL_courses_359 : decode cL_courses 359 = .ok (.iload 8, 2) := by decide +kernel
theorem dL_courses_361 : decode cL_courses 361 = .ok (.iload 9, 2) := by decide +kernel
theorem dL_courses_363 : decode cL_courses 363 = .ok (.iconst 0, 1) := by decide +kernel
theorem dL_courses_364 : decode cL_courses 364 = .ok (.iconst 0, 1) := by decide +kernel
theorem dL_courses_365 : decode cL_courses 365 = .ok (.invokestatic 97, 3) := by decide +kernel
theorem dL_courses_368 : decode cL_courses 368 = .ok (.istore 10, 2) := by decide +kernel
theorem dL_courses_370 : decode cL_courses 370 = .ok (.iload 10, 2) := by decide +kernel
theorem dL_courses_372 : decode cL_courses 372 = .ok (.ifCond .ge 56, 3) := by decide +kernel
theorem dL_courses_375 : decode cL_courses 375 = .ok (.aload_n 0, 1) := by decide +kernel
theorem dL_courses_376 : decode cL_courses 376 = .ok (.invokestatic 103, 3) := by decide +kernel
theorem dL_courses_379 : decode cL_courses 379 = .ok (.lload 5, 2) := by decide +kernel
theorem dL_courses_381 : decode cL_courses 381 = .ok (.lcmp, 1) := by decide +kernel
theorem dL_courses_382 : decode cL_courses 382 = .ok (.ifCond .ne 44, 3) := by decide +kernel
theorem dL_courses_385 : decode cL_courses 385 = .ok (.iload 10, 2) := by decide +kernel
theorem dL_courses_387 : decode cL_courses 387 = .ok (.iload 8, 2) := by decide +kernel
theorem dL_courses_389 : decode cL_courses 389 = .ok (.ifCond .lt 23, 3) := by decide +kernel
theorem dL_courses_392 : decode cL_courses 392 = .ok (.iload 8, 2) := by decide +kernel
theorem dL_courses_394 : decode cL_courses 394 = .ok (.iload 7, 2) := by decide +kernel
theorem dL_courses_396 : decode cL_courses 396 = .ok (.if_icmp .ge 16, 3) := by decide +kernel
theorem dL_courses_399 : decode cL_courses 399 = .ok (.iload 9, 2) := by decide +kernel
theorem dL_courses_401 : decode cL_courses 401 = .ok (.ifCond .lt 11, 3) := by decide +kernel
theorem dL_courses_404 : decode cL_courses 404 = .ok (.iload 9, 2) := by decide +kernel
theorem dL_courses_406 : decode cL_courses 406 = .ok (.aload_n 1, 1) := by decide +kernel
theorem dL_courses_407 : decode cL_courses 407 = .ok (.iconst 0, 1) := by decide +kernel
theorem dL_courses_408 : decode cL_courses 408 = .ok (.iaload, 1) := by decide +kernel
theorem dL_courses_409 : decode cL_courses 409 = .ok (.if_icmp .lt 8, 3) := by decide +kernel
theorem dL_courses_412 : decode cL_courses 412 = .ok (.bipush (-61), 2) := by decide +kernel
theorem dL_courses_414 : decode cL_courses 414 = .ok (.goto 5, 3) := by decide +kernel
theorem dL_courses_417 : decode cL_courses 417 = .ok (.bipush (-63), 2) := by decide +kernel
theorem dL_courses_419 : decode cL_courses 419 = .ok (.if_icmp .ne 7, 3) := by decide +kernel
theorem dL_courses_422 : decode cL_courses 422 = .ok (.iconst 1, 1) := by decide +kernel
theorem dL_courses_423 : decode cL_courses 423 = .ok (.goto 4, 3) := by decide +kernel
theorem dL_courses_426 : decode cL_courses 426 = .ok (.iconst 0, 1) := by decide +kernel
theorem dL_courses_427 : decode cL_courses 427 = .ok (.ireturn, 1) := by decide +kernel
theorem dL_courses_428 : decode cL_courses 428 = .ok (.iload 10, 2) := by decide +kernel
theorem dL_courses_430 : decode cL_courses 430 = .ok (.bipush 8, 2) := by decide +kernel
theorem dL_courses_432 : decode cL_courses 432 = .ok (.if_icmp .ge 23, 3) := by decide +kernel
theorem dL_courses_435 : decode cL_courses 435 = .ok (.aload_n 0, 1) := by decide +kernel
theorem dL_courses_436 : decode cL_courses 436 = .ok (.iconst 3, 1) := by decide +kernel
theorem dL_courses_437 : decode cL_courses 437 = .ok (.iload 8, 2) := by decide +kernel
theorem dL_courses_439 : decode cL_courses 439 = .ok (.iload 9, 2) := by decide +kernel
theorem dL_courses_441 : decode cL_courses 441 = .ok (.iconst 0, 1) := by decide +kernel
theorem dL_courses_442 : decode cL_courses 442 = .ok (.iconst 0, 1) := by decide +kernel
theorem dL_courses_443 : decode cL_courses 443 = .ok (.invokestatic 97, 3) := by decide +kernel
theorem dL_courses_446 : decode cL_courses 446 = .ok (.bipush (-63), 2) := by decide +kernel
theorem dL_courses_448 : decode cL_courses 448 = .ok (.if_icmp .ne 7, 3) := by decide +kernel
theorem dL_courses_451 : decode cL_courses 451 = .ok (.iconst 1, 1) := by decide +kernel
theorem dL_courses_452 : decode cL_courses 452 = .ok (.goto 4, 3) := by decide +kernel
theorem dL_courses_455 : decode cL_courses 455 = .ok (.iconst 0, 1) := by decide +kernel
theorem dL_courses_456 : decode cL_courses 456 = .ok (.ireturn, 1) := by decide +kernel
theorem dL_passes_0 : decode cL_passes 0 = .ok (.aload_n 0, 1) := by decide +kernel
theorem dL_passes_1 : decode cL_passes 1 = .ok (.invokevirtual 83, 3) := by decide +kernel
theorem dL_passes_4 : decode cL_passes 4 = .ok (.istore_n 2, 1) := by decide +kernel
theorem dL_passes_5 : decode cL_passes 5 = .ok (.iload_n 2, 1) := by decide +kernel
theorem dL_passes_6 : decode cL_passes 6 = .ok (.bipush 55, 2) := by decide +kernel
theorem dL_passes_8 : decode cL_passes 8 = .ok (.if_icmp .le 25, 3) := by decide +kernel
theorem dL_passes_11 : decode cL_passes 11 = .ok (.aload_n 0, 1) := by decide +kernel
theorem dL_passes_12 : decode cL_passes 12 = .ok (.bipush 7, 2) := by decide +kernel
theorem dL_passes_14 : decode cL_passes 14 = .ok (.bipush 61, 2) := by decide +kernel
theorem dL_passes_16 : decode cL_passes 16 = .ok (.iconst 0, 1) := by decide +kernel
theorem dL_passes_17 : decode cL_passes 17 = .ok (.iconst 0, 1) := by decide +kernel
theorem dL_passes_18 : decode cL_passes 18 = .ok (.iconst 0, 1) := by decide +kernel
theorem dL_passes_19 : decode cL_passes 19 = .ok (.invokestatic 97, 3) := by decide +kernel
theorem dL_passes_22 : decode cL_passes 22 = .ok (.bipush (-62), 2) := by decide +kernel
theorem dL_passes_24 : decode cL_passes 24 = .ok (.if_icmp .ne 7, 3) := by decide +kernel
theorem dL_passes_27 : decode cL_passes 27 = .ok (.iconst 1, 1) := by decide +kernel
theorem dL_passes_28 : decode cL_passes 28 = .ok (.goto 4, 3) := by decide +kernel
theorem dL_passes_31 : decode cL_passes 31 = .ok (.iconst 0, 1) := by decide +kernel
theorem dL_passes_32 : decode cL_passes 32 = .ok (.ireturn, 1) := by decide +kernel
theorem dL_passes_33 : decode cL_passes 33 = .ok (.aload_n 0, 1) := by decide +kernel
theorem dL_passes_34 : decode cL_passes 34 = .ok (.invokevirtual 77, 3) := by decide +kernel
theorem dL_passes_37 : decode cL_passes 37 = .ok (.istore_n 3, 1) := by decide +kernel
theorem dL_passes_38 : decode cL_passes 38 = .ok (.iconst 0, 1) := by decide +kernel
theorem dL_passes_39 : decode cL_passes 39 = .ok (.istore 4, 2) := by decide +kernel
theorem dL_passes_41 : decode cL_passes 41 = .ok (.iconst 0, 1) := by decide +kernel
theorem dL_passes_42 : decode cL_passes 42 = .ok (.istore 5, 2) := by decide +kernel
theorem dL_passes_44 : decode cL_passes 44 = .ok (.iconst 0, 1) := by decide +kernel
theorem dL_passes_45 : decode cL_passes 45 = .ok (.istore 6, 2) := by decide +kernel
theorem dL_passes_47 : decode cL_passes 47 = .ok (.iconst 0, 1) := by decide +kernel
theorem dL_passes_48 : decode cL_passes 48 = .ok (.istore 7, 2) := by decide +kernel
theorem dL_passes_50 : decode cL_passes 50 = .ok (.iload 7, 2) := by decide +kernel
theorem dL_passes_52 : decode cL_passes 52 = .ok (.iload_n 3, 1) := by decide +kernel
theorem dL_passes_53 : decode cL_passes 53 = .ok (.if_icmp .ge 51, 3) := by decide +kernel
theorem dL_passes_56 : decode cL_passes 56 = .ok (.iload 4, 2) := by decide +kernel
theorem dL_passes_58 : decode cL_passes 58 = .ok (.aload_n 0, 1) := by decide +kernel
theorem dL_passes_59 : decode cL_passes 59 = .ok (.iload 7, 2) := by decide +kernel
theorem dL_passes_61 : decode cL_passes 61 = .ok (.invokevirtual 74, 3) := by decide +kernel
theorem dL_passes_64 : decode cL_passes 64 = .ok (.iadd, 1) := by decide +kernel
theorem dL_passes_65 : decode cL_passes 65 = .ok (.istore 4, 2) := by decide +kernel
theorem dL_passes_67 : decode cL_passes 67 = .ok (.iload 5, 2) := by decide +kernel
theorem dL_passes_69 : decode cL_passes 69 = .ok (.aload_n 0, 1) := by decide +kernel
theorem dL_passes_70 : decode cL_passes 70 = .ok (.iload 7, 2) := by decide +kernel
theorem dL_passes_72 : decode cL_passes 72 = .ok (.invokevirtual 57, 3) := by decide +kernel
theorem dL_passes_75 : decode cL_passes 75 = .ok (.iadd, 1) := by decide +kernel
theorem dL_passes_76 : decode cL_passes 76 = .ok (.istore 5, 2) := by decide +kernel
theorem dL_passes_78 : decode cL_passes 78 = .ok (.iload 6, 2) := by decide +kernel
theorem dL_passes_80 : decode cL_passes 80 = .ok (.aload_n 0, 1) := by decide +kernel
theorem dL_passes_81 : decode cL_passes 81 = .ok (.iload 7, 2) := by decide +kernel
theorem dL_passes_83 : decode cL_passes 83 = .ok (.iload_n 2, 1) := by decide +kernel
theorem dL_passes_84 : decode cL_passes 84 = .ok (.invokevirtual 41, 3) := by decide +kernel
theorem dL_passes_87 : decode cL_passes 87 = .ok (.ifCond .le 7, 3) := by decide +kernel
theorem dL_passes_90 : decode cL_passes 90 = .ok (.iconst 1, 1) := by decide +kernel
theorem dL_passes_91 : decode cL_passes 91 = .ok (.goto 4, 3) := by decide +kernel
theorem dL_passes_94 : decode cL_passes 94 = .ok (.iconst 0, 1) := by decide +kernel
theorem dL_passes_95 : decode cL_passes 95 = .ok (.iadd, 1) := by decide +kernel
theorem dL_passes_96 : decode cL_passes 96 = .ok (.istore 6, 2) := by decide +kernel
theorem dL_passes_98 : decode cL_passes 98 = .ok (.iinc 7 1, 3) := by decide +kernel
theorem dL_passes_101 : decode cL_passes 101 = .ok (.goto (-51), 3) := by decide +kernel
theorem dL_passes_104 : decode cL_passes 104 = .ok (.aload_n 0, 1) := by decide +kernel
theorem dL_passes_105 : decode cL_passes 105 = .ok (.iconst 1, 1) := by decide +kernel
theorem dL_passes_106 : decode cL_passes 106 = .ok (.invokevirtual 48, 3) := by decide +kernel
theorem dL_passes_109 : decode cL_passes 109 = .ok (.istore 7, 2) := by decide +kernel
theorem dL_passes_111 : decode cL_passes 111 = .ok (.iconst 0, 1) := by decide +kernel
theorem dL_passes_112 : decode cL_passes 112 = .ok (.istore 8, 2) := by decide +kernel
theorem dL_passes_114 : decode cL_passes 114 = .ok (.iconst 0, 1) := by decide +kernel
theorem dL_passes_115 : decode cL_passes 115 = .ok (.istore 9, 2) := by decide +kernel
theorem dL_passes_117 : decode cL_passes 117 = .ok (.iconst 0, 1) := by decide +kernel
theorem dL_passes_118 : decode cL_passes 118 = .ok (.istore 10, 2) := by decide +kernel
theorem dL_passes_120 : decode cL_passes 120 = .ok (.iconst 0, 1) := by decide +kernel
theorem dL_passes_121 : decode cL_passes 121 = .ok (.istore 11, 2) := by decide +kernel
theorem dL_passes_123 : decode cL_passes 123 = .ok (.iload 11, 2) := by decide +kernel
theorem dL_passes_125 : decode cL_passes 125 = .ok (.iload_n 3, 1) := by decide +kernel
theorem dL_passes_126 : decode cL_passes 126 = .ok (.if_icmp .ge 55, 3) := by decide +kernel
theorem dL_passes_129 : decode cL_passes 129 = .ok (.iload 8, 2) := by decide +kernel
theorem dL_passes_131 : decode cL_passes 131 = .ok (.aload_n 0, 1) := by decide +kernel
theorem dL_passes_132 : decode cL_passes 132 = .ok (.iload 11, 2) := by decide +kernel
theorem dL_passes_134 : decode cL_passes 134 = .ok (.invokevirtual 74, 3) := by decide +kernel
theorem dL_passes_137 : decode cL_passes 137 = .ok (.iadd, 1) := by decide +kernel
theorem dL_passes_138 : decode cL_passes 138 = .ok (.istore 8, 2) := by decide +kernel
theorem dL_passes_140 : decode cL_passes 140 = .ok (.iload 5, 2) := by decide +kernel
theorem dL_passes_142 : decode cL_passes 142 = .ok (.aload_n 0, 1) := by decide +kernel
theorem dL_passes_143 : decode cL_passes 143 = .ok (.iload 11, 2) := by decide +kernel
theorem dL_passes_145 : decode cL_passes 145 = .ok (.invokevirtual 57, 3) := by decide +kernel
theorem dL_passes_148 : decode cL_passes 148 = .ok (.isub, 1) := by decide +kernel
theorem dL_passes_149 : decode cL_passes 149 = .ok (.istore 5, 2) := by decide +kernel
theorem dL_passes_151 : decode cL_passes 151 = .ok (.iload 9, 2) := by decide +kernel
theorem dL_passes_153 : decode cL_passes 153 = .ok (.aload_n 0, 1) := by decide +kernel
theorem dL_passes_154 : decode cL_passes 154 = .ok (.iload 11, 2) := by decide +kernel
theorem dL_passes_156 : decode cL_passes 156 = .ok (.iload_n 2, 1) := by decide +kernel
theorem dL_passes_157 : decode cL_passes 157 = .ok (.invokevirtual 51, 3) := by decide +kernel
theorem dL_passes_160 : decode cL_passes 160 = .ok (.iadd, 1) := by decide +kernel
theorem dL_passes_161 : decode cL_passes 161 = .ok (.istore 9, 2) := by decide +kernel
theorem dL_passes_163 : decode cL_passes 163 = .ok (.iload 10, 2) := by decide +kernel
theorem dL_passes_165 : decode cL_passes 165 = .ok (.aload_n 0, 1) := by decide +kernel
theorem dL_passes_166 : decode cL_passes 166 = .ok (.iload 11, 2) := by decide +kernel
theorem dL_passes_168 : decode cL_passes 168 = .ok (.iload_n 2, 1) := by decide +kernel
theorem dL_passes_169 : decode cL_passes 169 = .ok (.invokevirtual 54, 3) := by decide +kernel
theorem dL_passes_172 : decode cL_passes 172 = .ok (.iadd, 1) := by decide +kernel
theorem dL_passes_173 : decode cL_passes 173 = .ok (.istore 10, 2) := by decide +kernel
theorem dL_passes_175 : decode cL_passes 175 = .ok (.iinc 11 1, 3) := by decide +kernel
theorem dL_passes_178 : decode cL_passes 178 = .ok (.goto (-55), 3) := by decide +kernel
theorem dL_passes_181 : decode cL_passes 181 = .ok (.aload_n 0, 1) := by decide +kernel
theorem dL_passes_182 : decode cL_passes 182 = .ok (.invokevirtual 83, 3) := by decide +kernel
theorem dL_passes_185 : decode cL_passes 185 = .ok (.iload_n 2, 1) := by decide +kernel
theorem dL_passes_186 : decode cL_passes 186 = .ok (.iconst 1, 1) := by decide +kernel
theorem dL_passes_187 : decode cL_passes 187 = .ok (.iadd, 1) := by decide +kernel
theorem dL_passes_188 : decode cL_passes 188 = .ok (.if_icmp .ne 45, 3) := by decide +kernel
theorem dL_passes_191 : decode cL_passes 191 = .ok (.iload 7, 2) := by decide +kernel
theorem dL_passes_193 : decode cL_passes 193 = .ok (.iload 10, 2) := by decide +kernel
theorem dL_passes_195 : decode cL_passes 195 = .ok (.if_icmp .ne 38, 3) := by decide +kernel
theorem dL_passes_198 : decode cL_passes 198 = .ok (.iload 8, 2) := by decide +kernel
theorem dL_passes_200 : decode cL_passes 200 = .ok (.iload 4, 2) := by decide +kernel
theorem dL_passes_202 : decode cL_passes 202 = .ok (.iload 9, 2) := by decide +kernel
theorem dL_passes_204 : decode cL_passes 204 = .ok (.iadd, 1) := by decide +kernel
theorem dL_passes_205 : decode cL_passes 205 = .ok (.iload 10, 2) := by decide +kernel
theorem dL_passes_207 : decode cL_passes 207 = .ok (.iadd, 1) := by decide +kernel
theorem dL_passes_208 : decode cL_passes 208 = .ok (.if_icmp .ne 25, 3) := by decide +kernel
theorem dL_passes_211 : decode cL_passes 211 = .ok (.iload 5, 2) := by decide +kernel
theorem dL_passes_213 : decode cL_passes 213 = .ok (.iload 6, 2) := by decide +kernel
theorem dL_passes_215 : decode cL_passes 215 = .ok (.iadd, 1) := by decide +kernel
theorem dL_passes_216 : decode cL_passes 216 = .ok (.ifCond .ne 17, 3) := by decide +kernel
theorem dL_passes_219 : decode cL_passes 219 = .ok (.iload 6, 2) := by decide +kernel
theorem dL_passes_221 : decode cL_passes 221 = .ok (.ifCond .gt 8, 3) := by decide +kernel
theorem dL_passes_224 : decode cL_passes 224 = .ok (.iload 7, 2) := by decide +kernel
theorem dL_passes_226 : decode cL_passes 226 = .ok (.ifCond .ne 7, 3) := by decide +kernel
theorem dL_passes_229 : decode cL_passes 229 = .ok (.iconst 1, 1) := by decide +kernel
theorem dL_passes_230 : decode cL_passes 230 = .ok (.goto 4, 3) := by decide +kernel
theorem dL_passes_233 : decode cL_passes 233 = .ok (.iconst 0, 1) := by decide +kernel
theorem dL_passes_234 : decode cL_passes 234 = .ok (.ireturn, 1) := by decide +kernel
theorem dL_checks_0 : decode cL_checks 0 = .ok (.aload_n 0, 1) := by decide +kernel
theorem dL_checks_1 : decode cL_checks 1 = .ok (.invokevirtual 77, 3) := by decide +kernel
theorem dL_checks_4 : decode cL_checks 4 = .ok (.istore 4, 2) := by decide +kernel
theorem dL_checks_6 : decode cL_checks 6 = .ok (.aload_n 0, 1) := by decide +kernel
theorem dL_checks_7 : decode cL_checks 7 = .ok (.invokevirtual 83, 3) := by decide +kernel
theorem dL_checks_10 : decode cL_checks 10 = .ok (.istore 5, 2) := by decide +kernel
theorem dL_checks_12 : decode cL_checks 12 = .ok (.iload_n 3, 1) := by decide +kernel
theorem dL_checks_13 : decode cL_checks 13 = .ok (.ifCond .eq 16, 3) := by decide +kernel
theorem dL_checks_16 : decode cL_checks 16 = .ok (.iload_n 2, 1) := by decide +kernel
theorem dL_checks_17 : decode cL_checks 17 = .ok (.iload 5, 2) := by decide +kernel
theorem dL_checks_19 : decode cL_checks 19 = .ok (.iconst 3, 1) := by decide +kernel
theorem dL_checks_20 : decode cL_checks 20 = .ok (.iadd, 1) := by decide +kernel
theorem dL_checks_21 : decode cL_checks 21 = .ok (.invokestatic 100, 3) := by decide +kernel
theorem dL_checks_24 : decode cL_checks 24 = .ok (.iconst 1, 1) := by decide +kernel
theorem dL_checks_25 : decode cL_checks 25 = .ok (.isub, 1) := by decide +kernel
theorem dL_checks_26 : decode cL_checks 26 = .ok (.goto 18, 3) := by decide +kernel
theorem dL_checks_29 : decode cL_checks 29 = .ok (.iload 5, 2) := by decide +kernel
theorem dL_checks_31 : decode cL_checks 31 = .ok (.ifCond .ne 7, 3) := by decide +kernel
theorem dL_checks_34 : decode cL_checks 34 = .ok (.iconst 0, 1) := by decide +kernel
theorem dL_checks_35 : decode cL_checks 35 = .ok (.goto 9, 3) := by decide +kernel
theorem dL_checks_38 : decode cL_checks 38 = .ok (.iload_n 2, 1) := by decide +kernel
theorem dL_checks_39 : decode cL_checks 39 = .ok (.iload 5, 2) := by decide +kernel
theorem dL_checks_41 : decode cL_checks 41 = .ok (.invokestatic 100, 3) := by decide +kernel
theorem dL_checks_44 : decode cL_checks 44 = .ok (.istore 6, 2) := by decide +kernel
theorem dL_checks_46 : decode cL_checks 46 = .ok (.iload 6, 2) := by decide +kernel
theorem dL_checks_48 : decode cL_checks 48 = .ok (.ifCond .lt 14, 3) := by decide +kernel
theorem dL_checks_51 : decode cL_checks 51 = .ok (.iload 6, 2) := by decide +kernel
theorem dL_checks_53 : decode cL_checks 53 = .ok (.iload 5, 2) := by decide +kernel
theorem dL_checks_55 : decode cL_checks 55 = .ok (.if_icmp .ge 7, 3) := by decide +kernel
theorem dL_checks_58 : decode cL_checks 58 = .ok (.iconst 1, 1) := by decide +kernel
theorem dL_checks_59 : decode cL_checks 59 = .ok (.goto 4, 3) := by decide +kernel
theorem dL_checks_62 : decode cL_checks 62 = .ok (.iconst 0, 1) := by decide +kernel
theorem dL_checks_63 : decode cL_checks 63 = .ok (.istore 7, 2) := by decide +kernel
theorem dL_checks_65 : decode cL_checks 65 = .ok (.iload_n 3, 1) := by decide +kernel
theorem dL_checks_66 : decode cL_checks 66 = .ok (.ifCond .eq 16, 3) := by decide +kernel
theorem dL_checks_69 : decode cL_checks 69 = .ok (.iload_n 1, 1) := by decide +kernel
theorem dL_checks_70 : decode cL_checks 70 = .ok (.iload 4, 2) := by decide +kernel
theorem dL_checks_72 : decode cL_checks 72 = .ok (.iconst 2, 1) := by decide +kernel
theorem dL_checks_73 : decode cL_checks 73 = .ok (.iadd, 1) := by decide +kernel
theorem dL_checks_74 : decode cL_checks 74 = .ok (.invokestatic 100, 3) := by decide +kernel
theorem dL_checks_77 : decode cL_checks 77 = .ok (.iconst 1, 1) := by decide +kernel
theorem dL_checks_78 : decode cL_checks 78 = .ok (.isub, 1) := by decide +kernel
theorem dL_checks_79 : decode cL_checks 79 = .ok (.goto 18, 3) := by decide +kernel
theorem dL_checks_82 : decode cL_checks 82 = .ok (.iload_n 1, 1) := by decide +kernel
theorem dL_checks_83 : decode cL_checks 83 = .ok (.iload 4, 2) := by decide +kernel
theorem dL_checks_85 : decode cL_checks 85 = .ok (.ifCond .ne 7, 3) := by decide +kernel
theorem dL_checks_88 : decode cL_checks 88 = .ok (.iconst 1, 1) := by decide +kernel
theorem dL_checks_89 : decode cL_checks 89 = .ok (.goto 5, 3) := by decide +kernel
theorem dL_checks_92 : decode cL_checks 92 = .ok (.iload 4, 2) := by decide +kernel
theorem dL_checks_94 : decode cL_checks 94 = .ok (.invokestatic 100, 3) := by decide +kernel
theorem dL_checks_97 : decode cL_checks 97 = .ok (.istore 8, 2) := by decide +kernel
theorem dL_checks_99 : decode cL_checks 99 = .ok (.iload 8, 2) := by decide +kernel
theorem dL_checks_101 : decode cL_checks 101 = .ok (.ifCond .lt 10, 3) := by decide +kernel
theorem dL_checks_104 : decode cL_checks 104 = .ok (.iload 8, 2) := by decide +kernel
theorem dL_checks_106 : decode cL_checks 106 = .ok (.iload 4, 2) := by decide +kernel
theorem dL_checks_108 : decode cL_checks 108 = .ok (.if_icmp .lt 7, 3) := by decide +kernel
theorem dL_checks_111 : decode cL_checks 111 = .ok (.iconst 1, 1) := by decide +kernel
theorem dL_checks_112 : decode cL_checks 112 = .ok (.goto 4, 3) := by decide +kernel
theorem dL_checks_115 : decode cL_checks 115 = .ok (.iconst 0, 1) := by decide +kernel
theorem dL_checks_116 : decode cL_checks 116 = .ok (.istore 9, 2) := by decide +kernel
theorem dL_checks_118 : decode cL_checks 118 = .ok (.iload_n 3, 1) := by decide +kernel
theorem dL_checks_119 : decode cL_checks 119 = .ok (.ifCond .eq 17, 3) := by decide +kernel
theorem dL_checks_122 : decode cL_checks 122 = .ok (.iload_n 2, 1) := by decide +kernel
theorem dL_checks_123 : decode cL_checks 123 = .ok (.bipush 6, 2) := by decide +kernel
theorem dL_checks_125 : decode cL_checks 125 = .ok (.ishr, 1) := by decide +kernel
theorem dL_checks_126 : decode cL_checks 126 = .ok (.bipush 84, 2) := by decide +kernel
theorem dL_checks_128 : decode cL_checks 128 = .ok (.invokestatic 100, 3) := by decide +kernel
theorem dL_checks_131 : decode cL_checks 131 = .ok (.iconst 2, 1) := by decide +kernel
theorem dL_checks_132 : decode cL_checks 132 = .ok (.isub, 1) := by decide +kernel
theorem dL_checks_133 : decode cL_checks 133 = .ok (.goto 12, 3) := by decide +kernel
theorem dL_checks_136 : decode cL_checks 136 = .ok (.iload_n 2, 1) := by decide +kernel
theorem dL_checks_137 : decode cL_checks 137 = .ok (.bipush 6, 2) := by decide +kernel
theorem dL_checks_139 : decode cL_checks 139 = .ok (.ishr, 1) := by decide +kernel
theorem dL_checks_140 : decode cL_checks 140 = .ok (.bipush 70, 2) := by decide +kernel
theorem dL_checks_142 : decode cL_checks 142 = .ok (.invokestatic 100, 3) := by decide +kernel
theorem dL_checks_145 : decode cL_checks 145 = .ok (.istore 10, 2) := by decide +kernel
theorem dL_checks_147 : decode cL_checks 147 = .ok (.aload_n 0, 1) := by decide +kernel
theorem dL_checks_148 : decode cL_checks 148 = .ok (.invokestatic 103, 3) := by decide +kernel
theorem dL_checks_151 : decode cL_checks 151 = .ok (.lstore 11, 2) := by decide +kernel
theorem dL_checks_153 : decode cL_checks 153 = .ok (.aload_n 0, 1) := by decide +kernel
theorem dL_checks_154 : decode cL_checks 154 = .ok (.bipush 11, 2) := by decide +kernel
theorem dL_checks_156 : decode cL_checks 156 = .ok (.iload 8, 2) := by decide +kernel
theorem dL_checks_158 : decode cL_checks 158 = .ok (.iload 6, 2) := by decide +kernel
theorem dL_checks_160 : decode cL_checks 160 = .ok (.iload 10, 2) := by decide +kernel
theorem dL_checks_162 : decode cL_checks 162 = .ok (.iconst 0, 1) := by decide +kernel
theorem dL_checks_163 : decode cL_checks 163 = .ok (.invokestatic 97, 3) := by decide +kernel
theorem dL_checks_166 : decode cL_checks 166 = .ok (.istore 13, 2) := by decide +kernel
theorem dL_checks_168 : decode cL_checks 168 = .ok (.iload_n 1, 1) := by decide +kernel
theorem dL_checks_169 : decode cL_checks 169 = .ok (.iconst 4, 1) := by decide +kernel
theorem dL_checks_170 : decode cL_checks 170 = .ok (.ishr, 1) := by decide +kernel
theorem dL_checks_171 : decode cL_checks 171 = .ok (.iconst 2, 1) := by decide +kernel
theorem dL_checks_172 : decode cL_checks 172 = .ok (.invokestatic 100, 3) := by decide +kernel
theorem dL_checks_175 : decode cL_checks 175 = .ok (.ifCond .ne 18, 3) := by decide +kernel
theorem dL_checks_178 : decode cL_checks 178 = .ok (.aload_n 0, 1) := by decide +kernel
theorem dL_checks_179 : decode cL_checks 179 = .ok (.bipush 12, 2) := by decide +kernel
theorem dL_checks_181 : decode cL_checks 181 = .ok (.iload 8, 2) := by decide +kernel
theorem dL_checks_183 : decode cL_checks 183 = .ok (.iload 6, 2) := by decide +kernel
theorem dL_checks_185 : decode cL_checks 185 = .ok (.iconst 0, 1) := by decide +kernel
theorem dL_checks_186 : decode cL_checks 186 = .ok (.iconst 0, 1) := by decide +kernel
theorem dL_checks_187 : decode cL_checks 187 = .ok (.invokestatic 97, 3) := by decide +kernel
theorem dL_checks_190 : decode cL_checks 190 = .ok (.goto 4, 3) := by decide +kernel
theorem dL_checks_193 : decode cL_checks 193 = .ok (.iconst 0, 1) := by decide +kernel
theorem dL_checks_194 : decode cL_checks 194 = .ok (.istore 14, 2) := by decide +kernel
theorem dL_checks_196 : decode cL_checks 196 = .ok (.aload_n 0, 1) := by decide +kernel
theorem dL_checks_197 : decode cL_checks 197 = .ok (.invokestatic 103, 3) := by decide +kernel
theorem dL_checks_200 : decode cL_checks 200 = .ok (.lload 11, 2) := by decide +kernel
theorem dL_checks_202 : decode cL_checks 202 = .ok (.lcmp, 1) := by decide +kernel
theorem dL_checks_203 : decode cL_checks 203 = .ok (.ifCond .ne 97, 3) := by decide +kernel
theorem dL_checks_206 : decode cL_checks 206 = .ok (.iload 9, 2) := by decide +kernel
theorem dL_checks_208 : decode cL_checks 208 = .ok (.ifCond .eq 27, 3) := by decide +kernel
theorem dL_checks_211 : decode cL_checks 211 = .ok (.iload 13, 2) := by decide +kernel
theorem dL_checks_213 : decode cL_checks 213 = .ok (.bipush (-61), 2) := by decide +kernel
theorem dL_checks_215 : decode cL_checks 215 = .ok (.if_icmp .ne 85, 3) := by decide +kernel
theorem dL_checks_218 : decode cL_checks 218 = .ok (.iload 14, 2) := by decide +kernel
theorem dL_checks_220 : decode cL_checks 220 = .ok (.bipush (-62), 2) := by decide +kernel
theorem dL_checks_222 : decode cL_checks 222 = .ok (.if_icmp .eq 78, 3) := by decide +kernel
theorem dL_checks_225 : decode cL_checks 225 = .ok (.iload 14, 2) := by decide +kernel
theorem dL_checks_227 : decode cL_checks 227 = .ok (.bipush (-63), 2) := by decide +kernel
theorem dL_checks_229 : decode cL_checks 229 = .ok (.if_icmp .eq 71, 3) := by decide +kernel
theorem dL_checks_232 : decode cL_checks 232 = .ok (.goto 42, 3) := by decide +kernel
theorem dL_checks_235 : decode cL_checks 235 = .ok (.iload 7, 2) := by decide +kernel
theorem dL_checks_237 : decode cL_checks 237 = .ok (.ifCond .eq 15, 3) := by decide +kernel
theorem dL_checks_240 : decode cL_checks 240 = .ok (.iload 10, 2) := by decide +kernel
theorem dL_checks_242 : decode cL_checks 242 = .ok (.ifCond .lt 10, 3) := by decide +kernel
theorem dL_checks_245 : decode cL_checks 245 = .ok (.iload 10, 2) := by decide +kernel
theorem dL_checks_247 : decode cL_checks 247 = .ok (.bipush 80, 2) := by decide +kernel
theorem dL_checks_249 : decode cL_checks 249 = .ok (.if_icmp .le 13, 3) := by decide +kernel
theorem dL_checks_252 : decode cL_checks 252 = .ok (.iload 13, 2) := by decide +kernel
theorem dL_checks_254 : decode cL_checks 254 = .ok (.bipush (-62), 2) := by decide +kernel
theorem dL_checks_256 : decode cL_checks 256 = .ok (.if_icmp .ne 44, 3) := by decide +kernel
theorem dL_checks_259 : decode cL_checks 259 = .ok (.goto 15, 3) := by decide +kernel
theorem dL_checks_262 : decode cL_checks 262 = .ok (.iload 13, 2) := by decide +kernel
theorem dL_checks_264 : decode cL_checks 264 = .ok (.ifCond .eq 10, 3) := by decide +kernel
theorem dL_checks_267 : decode cL_checks 267 = .ok (.iload 13, 2) := by decide +kernel
theorem dL_checks_269 : decode cL_checks 269 = .ok (.bipush (-63), 2) := by decide +kernel
theorem dL_checks_271 : decode cL_checks 271 = .ok (.if_icmp .ne 29, 3) := by decide +kernel
theorem dL_checks_274 : decode cL_checks 274 = .ok (.iload 9, 2) := by decide +kernel
theorem dL_checks_276 : decode cL_checks 276 = .ok (.ifCond .ne 20, 3) := by decide +kernel
theorem dL_checks_279 : decode cL_checks 279 = .ok (.iload 7, 2) := by decide +kernel
theorem dL_checks_281 : decode cL_checks 281 = .ok (.ifCond .ne 15, 3) := by decide +kernel
theorem dL_checks_284 : decode cL_checks 284 = .ok (.iload 14, 2) := by decide +kernel
theorem dL_checks_286 : decode cL_checks 286 = .ok (.ifCond .eq 10, 3) := by decide +kernel
theorem dL_checks_289 : decode cL_checks 289 = .ok (.iload 14, 2) := by decide +kernel
theorem dL_checks_291 : decode cL_checks 291 = .ok (.bipush (-62), 2) := by decide +kernel
theorem dL_checks_293 : decode cL_checks 293 = .ok (.if_icmp .ne 7, 3) := by decide +kernel
theorem dL_checks_296 : decode cL_checks 296 = .ok (.iconst 1, 1) := by decide +kernel
theorem dL_checks_297 : decode cL_checks 297 = .ok (.goto 4, 3) := by decide +kernel
theorem dL_checks_300 : decode cL_checks 300 = .ok (.iconst 0, 1) := by decide +kernel
theorem dL_checks_301 : decode cL_checks 301 = .ok (.istore 15, 2) := by decide +kernel
theorem dL_checks_303 : decode cL_checks 303 = .ok (.iload 15, 2) := by decide +kernel
theorem dL_checks_305 : decode cL_checks 305 = .ok (.ifCond .eq 14, 3) := by decide +kernel
theorem dL_checks_308 : decode cL_checks 308 = .ok (.iload_n 1, 1) := by decide +kernel
theorem dL_checks_309 : decode cL_checks 309 = .ok (.bipush 6, 2) := by decide +kernel
theorem dL_checks_311 : decode cL_checks 311 = .ok (.ishr, 1) := by decide +kernel
theorem dL_checks_312 : decode cL_checks 312 = .ok (.iconst 3, 1) := by decide +kernel
theorem dL_checks_313 : decode cL_checks 313 = .ok (.invokestatic 100, 3) := by decide +kernel
theorem dL_checks_316 : decode cL_checks 316 = .ok (.ifCond .le 6, 3) := by decide +kernel
theorem dL_checks_319 : decode cL_checks 319 = .ok (.iload 15, 2) := by decide +kernel
theorem dL_checks_321 : decode cL_checks 321 = .ok (.ireturn, 1) := by decide +kernel
theorem dL_checks_322 : decode cL_checks 322 = .ok (.aload_n 0, 1) := by decide +kernel
theorem dL_checks_323 : decode cL_checks 323 = .ok (.invokevirtual 88, 3) := by decide +kernel
theorem dL_checks_326 : decode cL_checks 326 = .ok (.istore 16, 2) := by decide +kernel
theorem dL_checks_328 : decode cL_checks 328 = .ok (.iload 9, 2) := by decide +kernel
theorem dL_checks_330 : decode cL_checks 330 = .ok (.ifCond .eq 7, 3) := by decide +kernel
theorem dL_checks_333 : decode cL_checks 333 = .ok (.iconst 0, 1) := by decide +kernel
theorem dL_checks_334 : decode cL_checks 334 = .ok (.goto 9, 3) := by decide +kernel
theorem dL_checks_337 : decode cL_checks 337 = .ok (.aload_n 0, 1) := by decide +kernel
theorem dL_checks_338 : decode cL_checks 338 = .ok (.iload 8, 2) := by decide +kernel
theorem dL_checks_340 : decode cL_checks 340 = .ok (.invokevirtual 71, 3) := by decide +kernel
theorem dL_checks_343 : decode cL_checks 343 = .ok (.istore 17, 2) := by decide +kernel
theorem dL_checks_345 : decode cL_checks 345 = .ok (.aload_n 0, 1) := by decide +kernel
theorem dL_checks_346 : decode cL_checks 346 = .ok (.bipush 13, 2) := by decide +kernel
theorem dL_checks_348 : decode cL_checks 348 = .ok (.iload 6, 2) := by decide +kernel
theorem dL_checks_350 : decode cL_checks 350 = .ok (.iconst 0, 1) := by decide +kernel
theorem dL_checks_351 : decode cL_checks 351 = .ok (.iconst 0, 1) := by decide +kernel
theorem dL_checks_352 : decode cL_checks 352 = .ok (.iconst 0, 1) := by decide +kernel
theorem dL_checks_353 : decode cL_checks 353 = .ok (.invokestatic 97, 3) := by decide +kernel
theorem dL_checks_356 : decode cL_checks 356 = .ok (.istore 18, 2) := by decide +kernel
theorem dL_checks_358 : decode cL_checks 358 = .ok (.iload 18, 2) := by decide +kernel
theorem dL_checks_360 : decode cL_checks 360 = .ok (.ifCond .ge 36, 3) := by decide +kernel
theorem dL_checks_363 : decode cL_checks 363 = .ok (.aload_n 0, 1) := by decide +kernel
theorem dL_checks_364 : decode cL_checks 364 = .ok (.invokestatic 103, 3) := by decide +kernel
theorem dL_checks_367 : decode cL_checks 367 = .ok (.lload 11, 2) := by decide +kernel
theorem dL_checks_369 : decode cL_checks 369 = .ok (.lcmp, 1) := by decide +kernel
theorem dL_checks_370 : decode cL_checks 370 = .ok (.ifCond .ne 24, 3) := by decide +kernel
theorem dL_checks_373 : decode cL_checks 373 = .ok (.iload 18, 2) := by decide +kernel
theorem dL_checks_375 : decode cL_checks 375 = .ok (.iload 7, 2) := by decide +kernel
theorem dL_checks_377 : decode cL_checks 377 = .ok (.ifCond .eq 8, 3) := by decide +kernel
theorem dL_checks_380 : decode cL_checks 380 = .ok (.bipush (-63), 2) := by decide +kernel
theorem dL_checks_382 : decode cL_checks 382 = .ok (.goto 5, 3) := by decide +kernel
theorem dL_checks_385 : decode cL_checks 385 = .ok (.bipush (-62), 2) := by decide +kernel
theorem dL_checks_387 : decode cL_checks 387 = .ok (.if_icmp .ne 7, 3) := by decide +kernel
theorem dL_checks_390 : decode cL_checks 390 = .ok (.iconst 1, 1) := by decide +kernel
theorem dL_checks_391 : decode cL_checks 391 = .ok (.goto 4, 3) := by decide +kernel
theorem dL_checks_394 : decode cL_checks 394 = .ok (.iconst 0, 1) := by decide +kernel
theorem dL_checks_395 : decode cL_checks 395 = .ok (.ireturn, 1) := by decide +kernel
theorem dL_checks_396 : decode cL_checks 396 = .ok (.iload 7, 2) := by decide +kernel
theorem dL_checks_398 : decode cL_checks 398 = .ok (.ifCond .eq 63, 3) := by decide +kernel
theorem dL_checks_401 : decode cL_checks 401 = .ok (.iload 18, 2) := by decide +kernel
theorem dL_checks_403 : decode cL_checks 403 = .ok (.iload 4, 2) := by decide +kernel
theorem dL_checks_405 : decode cL_checks 405 = .ok (.if_icmp .gt 56, 3) := by decide +kernel
theorem dL_checks_408 : decode cL_checks 408 = .ok (.aload_n 0, 1) := by decide +kernel
theorem dL_checks_409 : decode cL_checks 409 = .ok (.bipush 13, 2) := by decide +kernel
theorem dL_checks_411 : decode cL_checks 411 = .ok (.iload 6, 2) := by decide +kernel
theorem dL_checks_413 : decode cL_checks 413 = .ok (.iconst 0, 1) := by decide +kernel
theorem dL_checks_414 : decode cL_checks 414 = .ok (.iconst 0, 1) := by decide +kernel
theorem dL_checks_415 : decode cL_checks 415 = .ok (.iconst 0, 1) := by decide +kernel
theorem dL_checks_416 : decode cL_checks 416 = .ok (.invokestatic 97, 3) := by decide +kernel
theorem dL_checks_419 : decode cL_checks 419 = .ok (.bipush (-63), 2) := by decide +kernel
theorem dL_checks_421 : decode cL_checks 421 = .ok (.if_icmp .ne 40, 3) := by decide +kernel
theorem dL_checks_424 : decode cL_checks 424 = .ok (.aload_n 0, 1) := by decide +kernel
theorem dL_checks_425 : decode cL_checks 425 = .ok (.invokevirtual 88, 3) := by decide +kernel
theorem dL_checks_428 : decode cL_checks 428 = .ok (.iload 16, 2) := by decide +kernel
theorem dL_checks_430 : decode cL_checks 430 = .ok (.if_icmp .lt 31, 3) := by decide +kernel
theorem dL_checks_433 : decode cL_checks 433 = .ok (.iload 18, 2) := by decide +kernel
theorem dL_checks_435 : decode cL_checks 435 = .ok (.ifCond .gt 22, 3) := by decide +kernel
theorem dL_checks_438 : decode cL_checks 438 = .ok (.aload_n 0, 1) := by decide +kernel
theorem dL_checks_439 : decode cL_checks 439 = .ok (.invokestatic 103, 3) := by decide +kernel
theorem dL_checks_442 : decode cL_checks 442 = .ok (.lload 11, 2) := by decide +kernel
theorem dL_checks_444 : decode cL_checks 444 = .ok (.lcmp, 1) := by decide +kernel
theorem dL_checks_445 : decode cL_checks 445 = .ok (.ifCond .ne 16, 3) := by decide +kernel
theorem dL_checks_448 : decode cL_checks 448 = .ok (.aload_n 0, 1) := by decide +kernel
theorem dL_checks_449 : decode cL_checks 449 = .ok (.invokevirtual 88, 3) := by decide +kernel
theorem dL_checks_452 : decode cL_checks 452 = .ok (.iload 16, 2) := by decide +kernel
theorem dL_checks_454 : decode cL_checks 454 = .ok (.if_icmp .ne 7, 3) := by decide +kernel
theorem dL_checks_457 : decode cL_checks 457 = .ok (.iconst 1, 1) := by decide +kernel
theorem dL_checks_458 : decode cL_checks 458 = .ok (.goto 4, 3) := by decide +kernel
theorem dL_checks_461 : decode cL_checks 461 = .ok (.iconst 0, 1) := by decide +kernel
theorem dL_checks_462 : decode cL_checks 462 = .ok (.istore 15, 2) := by decide +kernel
theorem dL_checks_464 : decode cL_checks 464 = .ok (.iload 9, 2) := by decide +kernel
theorem dL_checks_466 : decode cL_checks 466 = .ok (.ifCond .ne 127, 3) := by decide +kernel
theorem dL_checks_469 : decode cL_checks 469 = .ok (.aload_n 0, 1) := by decide +kernel
theorem dL_checks_470 : decode cL_checks 470 = .ok (.iload 8, 2) := by decide +kernel
theorem dL_checks_472 : decode cL_checks 472 = .ok (.iload 6, 2) := by decide +kernel
theorem dL_checks_474 : decode cL_checks 474 = .ok (.invokevirtual 54, 3) := by decide +kernel
theorem dL_checks_477 : decode cL_checks 477 = .ok (.istore 19, 2) := by decide +kernel
theorem dL_checks_479 : decode cL_checks 479 = .ok (.aload_n 0, 1) := by decide +kernel
theorem dL_checks_480 : decode cL_checks 480 = .ok (.iload 8, 2) := by decide +kernel
theorem dL_checks_482 : decode cL_checks 482 = .ok (.invokevirtual 71, 3) := by decide +kernel
theorem dL_checks_485 : decode cL_checks 485 = .ok (.iload 17, 2) := by decide +kernel
theorem dL_checks_487 : decode cL_checks 487 = .ok (.isub, 1) := by decide +kernel
theorem dL_checks_488 : decode cL_checks 488 = .ok (.istore 20, 2) := by decide +kernel
theorem dL_checks_490 : decode cL_checks 490 = .ok (.iload 13, 2) := by decide +kernel
theorem dL_checks_492 : decode cL_checks 492 = .ok (.ifCond .ne 28, 3) := by decide +kernel
theorem dL_checks_495 : decode cL_checks 495 = .ok (.iload 10, 2) := by decide +kernel
theorem dL_checks_497 : decode cL_checks 497 = .ok (.bipush 42, 2) := by decide +kernel
theorem dL_checks_499 : decode cL_checks 499 = .ok (.aload_n 0, 1) := by decide +kernel
theorem dL_checks_500 : decode cL_checks 500 = .ok (.iload 8, 2) := by decide +kernel
theorem dL_checks_502 : decode cL_checks 502 = .ok (.iload 6, 2) := by decide +kernel
theorem dL_checks_504 : decode cL_checks 504 = .ok (.invokevirtual 41, 3) := by decide +kernel
theorem dL_checks_507 : decode cL_checks 507 = .ok (.isub, 1) := by decide +kernel
theorem dL_checks_508 : decode cL_checks 508 = .ok (.if_icmp .le 12, 3) := by decide +kernel
theorem dL_checks_511 : decode cL_checks 511 = .ok (.iload 19, 2) := by decide +kernel
theorem dL_checks_513 : decode cL_checks 513 = .ok (.ifCond .le 7, 3) := by decide +kernel
theorem dL_checks_516 : decode cL_checks 516 = .ok (.iconst 1, 1) := by decide +kernel
theorem dL_checks_517 : decode cL_checks 517 = .ok (.goto 4, 3) := by decide +kernel
theorem dL_checks_520 : decode cL_checks 520 = .ok (.iconst 0, 1) := by decide +kernel
theorem dL_checks_521 : decode cL_checks 521 = .ok (.istore 21, 2) := by decide +kernel
theorem dL_checks_523 : decode cL_checks 523 = .ok (.iload 15, 2) := by decide +kernel
theorem dL_checks_525 : decode cL_checks 525 = .ok (.ifCond .eq 65, 3) := by decide +kernel
theorem dL_checks_528 : decode cL_checks 528 = .ok (.iload 20, 2) := by decide +kernel
theorem dL_checks_530 : decode cL_checks 530 = .ok (.ifCond .eq 12, 3) := by decide +kernel
theorem dL_checks_533 : decode cL_checks 533 = .ok (.iload 20, 2) := by decide +kernel
theorem dL_checks_535 : decode cL_checks 535 = .ok (.iload 19, 2) := by decide +kernel
theorem dL_checks_537 : decode cL_checks 537 = .ok (.iconst 2, 1) := by decide +kernel
theorem dL_checks_538 : decode cL_checks 538 = .ok (.idiv, 1) := by decide +kernel
theorem dL_checks_539 : decode cL_checks 539 = .ok (.if_icmp .ne 51, 3) := by decide +kernel
theorem dL_checks_542 : decode cL_checks 542 = .ok (.iload 21, 2) := by decide +kernel
theorem dL_checks_544 : decode cL_checks 544 = .ok (.ifCond .eq 8, 3) := by decide +kernel
theorem dL_checks_547 : decode cL_checks 547 = .ok (.iload 18, 2) := by decide +kernel
theorem dL_checks_549 : decode cL_checks 549 = .ok (.ifCond .le 41, 3) := by decide +kernel
theorem dL_checks_552 : decode cL_checks 552 = .ok (.aload_n 0, 1) := by decide +kernel
theorem dL_checks_553 : decode cL_checks 553 = .ok (.bipush 11, 2) := by decide +kernel
theorem dL_checks_555 : decode cL_checks 555 = .ok (.iload 8, 2) := by decide +kernel
theorem dL_checks_557 : decode cL_checks 557 = .ok (.iload 6, 2) := by decide +kernel
theorem dL_checks_559 : decode cL_checks 559 = .ok (.iconst 5, 1) := by decide +kernel
theorem dL_checks_560 : decode cL_checks 560 = .ok (.iconst 0, 1) := by decide +kernel
theorem dL_checks_561 : decode cL_checks 561 = .ok (.invokestatic 97, 3) := by decide +kernel
theorem dL_checks_564 : decode cL_checks 564 = .ok (.bipush (-63), 2) := by decide +kernel
theorem dL_checks_566 : decode cL_checks 566 = .ok (.if_icmp .ne 24, 3) := by decide +kernel
theorem dL_checks_569 : decode cL_checks 569 = .ok (.aload_n 0, 1) := by decide +kernel
theorem dL_checks_570 : decode cL_checks 570 = .ok (.bipush 12, 2) := by decide +kernel
theorem dL_checks_572 : decode cL_checks 572 = .ok (.iload 8, 2) := by decide +kernel
theorem dL_checks_574 : decode cL_checks 574 = .ok (.iload 6, 2) := by decide +kernel
theorem dL_checks_576 : decode cL_checks 576 = .ok (.iconst 0, 1) := by decide +kernel
theorem dL_checks_577 : decode cL_checks 577 = .ok (.iconst 0, 1) := by decide +kernel
theorem dL_checks_578 : decode cL_checks 578 = .ok (.invokestatic 97, 3) := by decide +kernel
theorem dL_checks_581 : decode cL_checks 581 = .ok (.bipush (-63), 2) := by decide +kernel
theorem dL_checks_583 : decode cL_checks 583 = .ok (.if_icmp .ne 7, 3) := by decide +kernel
theorem dL_checks_586 : decode cL_checks 586 = .ok (.iconst 1, 1) := by decide +kernel
theorem dL_checks_587 : decode cL_checks 587 = .ok (.goto 4, 3) := by decide +kernel
theorem dL_checks_590 : decode cL_checks 590 = .ok (.iconst 0, 1) := by decide +kernel
theorem dL_checks_591 : decode cL_checks 591 = .ok (.istore 15, 2) := by decide +kernel
theorem dL_checks_593 : decode cL_checks 593 = .ok (.iload 15, 2) := by decide +kernel
theorem dL_checks_595 : decode cL_checks 595 = .ok (.ireturn, 1) := by decide +kernel
theorem dL_law_0 : decode cL_law 0 = .ok (.new 21, 3) := by decide +kernel
theorem dL_law_3 : decode cL_law 3 = .ok (.dup, 1) := by decide +kernel
theorem dL_law_4 : decode cL_law 4 = .ok (.invokespecial 107, 3) := by decide +kernel
theorem dL_law_7 : decode cL_law 7 = .ok (.astore_n 1, 1) := by decide +kernel
theorem dL_law_8 : decode cL_law 8 = .ok (.iconst 1, 1) := by decide +kernel
theorem dL_law_9 : decode cL_law 9 = .ok (.newarray .int, 2) := by decide +kernel
theorem dL_law_11 : decode cL_law 11 = .ok (.astore_n 2, 1) := by decide +kernel
theorem dL_law_12 : decode cL_law 12 = .ok (.aload_n 1, 1) := by decide +kernel
theorem dL_law_13 : decode cL_law 13 = .ok (.invokestatic 103, 3) := by decide +kernel
theorem dL_law_16 : decode cL_law 16 = .ok (.aload_n 1, 1) := by decide +kernel
theorem dL_law_17 : decode cL_law 17 = .ok (.invokestatic 103, 3) := by decide +kernel
theorem dL_law_20 : decode cL_law 20 = .ok (.lcmp, 1) := by decide +kernel
theorem dL_law_21 : decode cL_law 21 = .ok (.ifCond .ne 25, 3) := by decide +kernel
theorem dL_law_24 : decode cL_law 24 = .ok (.aload_n 1, 1) := by decide +kernel
theorem dL_law_25 : decode cL_law 25 = .ok (.invokestatic 108, 3) := by decide +kernel
theorem dL_law_28 : decode cL_law 28 = .ok (.ifCond .eq 18, 3) := by decide +kernel
theorem dL_law_31 : decode cL_law 31 = .ok (.aload_n 1, 1) := by decide +kernel
theorem dL_law_32 : decode cL_law 32 = .ok (.bipush 50, 2) := by decide +kernel
theorem dL_law_34 : decode cL_law 34 = .ok (.invokevirtual 37, 3) := by decide +kernel
theorem dL_law_37 : decode cL_law 37 = .ok (.bipush 50, 2) := by decide +kernel
theorem dL_law_39 : decode cL_law 39 = .ok (.if_icmp .ne 7, 3) := by decide +kernel
theorem dL_law_42 : decode cL_law 42 = .ok (.iconst 1, 1) := by decide +kernel
theorem dL_law_43 : decode cL_law 43 = .ok (.goto 4, 3) := by decide +kernel
theorem dL_law_46 : decode cL_law 46 = .ok (.iconst 0, 1) := by decide +kernel
theorem dL_law_47 : decode cL_law 47 = .ok (.istore_n 3, 1) := by decide +kernel
theorem dL_law_48 : decode cL_law 48 = .ok (.bipush 50, 2) := by decide +kernel
theorem dL_law_50 : decode cL_law 50 = .ok (.istore 4, 2) := by decide +kernel
theorem dL_law_52 : decode cL_law 52 = .ok (.iconst 0, 1) := by decide +kernel
theorem dL_law_53 : decode cL_law 53 = .ok (.istore 5, 2) := by decide +kernel
theorem dL_law_55 : decode cL_law 55 = .ok (.iload 5, 2) := by decide +kernel
theorem dL_law_57 : decode cL_law 57 = .ok (.bipush 90, 2) := by decide +kernel
theorem dL_law_59 : decode cL_law 59 = .ok (.if_icmp .ge 380, 3) := by decide +kernel
theorem dL_law_62 : decode cL_law 62 = .ok (.iload_n 3, 1) := by decide +kernel
theorem dL_law_63 : decode cL_law 63 = .ok (.ifCond .eq 376, 3) := by decide +kernel
theorem dL_law_66 : decode cL_law 66 = .ok (.aload_n 0, 1) := by decide +kernel
theorem dL_law_67 : decode cL_law 67 = .ok (.iconst 2, 1) := by decide +kernel
theorem dL_law_68 : decode cL_law 68 = .ok (.iload 5, 2) := by decide +kernel
theorem dL_law_70 : decode cL_law 70 = .ok (.imul, 1) := by decide +kernel
theorem dL_law_71 : decode cL_law 71 = .ok (.invokestatic 112, 3) := by decide +kernel
theorem dL_law_74 : decode cL_law 74 = .ok (.istore 6, 2) := by decide +kernel
theorem dL_law_76 : decode cL_law 76 = .ok (.aload_n 0, 1) := by decide +kernel
theorem dL_law_77 : decode cL_law 77 = .ok (.iconst 2, 1) := by decide +kernel
theorem dL_law_78 : decode cL_law 78 = .ok (.iload 5, 2) := by decide +kernel
theorem dL_law_80 : decode cL_law 80 = .ok (.imul, 1) := by decide +kernel
theorem dL_law_81 : decode cL_law 81 = .ok (.iconst 1, 1) := by decide +kernel
theorem dL_law_82 : decode cL_law 82 = .ok (.iadd, 1) := by decide +kernel
theorem dL_law_83 : decode cL_law 83 = .ok (.invokestatic 112, 3) := by decide +kernel
theorem dL_law_86 : decode cL_law 86 = .ok (.istore 7, 2) := by decide +kernel
theorem dL_law_88 : decode cL_law 88 = .ok (.iload 6, 2) := by decide +kernel
theorem dL_law_90 : decode cL_law 90 = .ok (.bipush 9, 2) := by decide +kernel
theorem dL_law_92 : decode cL_law 92 = .ok (.ishr, 1) := by decide +kernel
theorem dL_law_93 : decode cL_law 93 = .ok (.bipush 10, 2) := by decide +kernel
theorem dL_law_95 : decode cL_law 95 = .ok (.invokestatic 100, 3) := by decide +kernel
theorem dL_law_98 : decode cL_law 98 = .ok (.ifCond .ne 7, 3) := by decide +kernel
theorem dL_law_101 : decode cL_law 101 = .ok (.iconst 1, 1) := by decide +kernel
theorem dL_law_102 : decode cL_law 102 = .ok (.goto 4, 3) := by decide +kernel
theorem dL_law_105 : decode cL_law 105 = .ok (.iconst 0, 1) := by decide +kernel
theorem dL_law_106 : decode cL_law 106 = .ok (.istore 8, 2) := by decide +kernel
theorem dL_law_108 : decode cL_law 108 = .ok (.iload 6, 2) := by decide +kernel
theorem dL_law_110 : decode cL_law 110 = .ok (.bipush 16, 2) := by decide +kernel
theorem dL_law_112 : decode cL_law 112 = .ok (.invokestatic 100, 3) := by decide +kernel
theorem dL_law_115 : decode cL_law 115 = .ok (.istore 9, 2) := by decide +kernel
theorem dL_law_117 : decode cL_law 117 = .ok (.aload_n 1, 1) := by decide +kernel
theorem dL_law_118 : decode cL_law 118 = .ok (.invokevirtual 77, 3) := by decide +kernel
theorem dL_law_121 : decode cL_law 121 = .ok (.iconst 2, 1) := by decide +kernel
theorem dL_law_122 : decode cL_law 122 = .ok (.if_icmp .lt 16, 3) := by decide +kernel
theorem dL_law_125 : decode cL_law 125 = .ok (.iload 9, 2) := by decide +kernel
theorem dL_law_127 : decode cL_law 127 = .ok (.ifCond .ne 132, 3) := by decide +kernel
theorem dL_law_130 : decode cL_law 130 = .ok (.aload_n 1, 1) := by decide +kernel
theorem dL_law_131 : decode cL_law 131 = .ok (.invokevirtual 77, 3) := by decide +kernel
theorem dL_law_134 : decode cL_law 134 = .ok (.iconst 4, 1) := by decide +kernel
theorem dL_law_135 : decode cL_law 135 = .ok (.if_icmp .ge 124, 3) := by decide +kernel
theorem dL_law_138 : decode cL_law 138 = .ok (.aload_n 1, 1) := by decide +kernel
theorem dL_law_139 : decode cL_law 139 = .ok (.invokevirtual 77, 3) := by decide +kernel
theorem dL_law_142 : decode cL_law 142 = .ok (.istore 10, 2) := by decide +kernel
theorem dL_law_144 : decode cL_law 144 = .ok (.aload_n 1, 1) := by decide +kernel
theorem dL_law_145 : decode cL_law 145 = .ok (.invokestatic 103, 3) := by decide +kernel
theorem dL_law_148 : decode cL_law 148 = .ok (.lstore 11, 2) := by decide +kernel
theorem dL_law_150 : decode cL_law 150 = .ok (.aload_n 1, 1) := by decide +kernel
theorem dL_law_151 : decode cL_law 151 = .ok (.iconst 0, 1) := by decide +kernel
theorem dL_law_152 : decode cL_law 152 = .ok (.iconst 0, 1) := by decide +kernel
theorem dL_law_153 : decode cL_law 153 = .ok (.iconst 0, 1) := by decide +kernel
theorem dL_law_154 : decode cL_law 154 = .ok (.iconst 0, 1) := by decide +kernel
theorem dL_law_155 : decode cL_law 155 = .ok (.iconst 0, 1) := by decide +kernel
theorem dL_law_156 : decode cL_law 156 = .ok (.invokestatic 97, 3) := by decide +kernel
theorem dL_law_159 : decode cL_law 159 = .ok (.bipush (-62), 2) := by decide +kernel
theorem dL_law_161 : decode cL_law 161 = .ok (.if_icmp .ne 93, 3) := by decide +kernel
theorem dL_law_164 : decode cL_law 164 = .ok (.aload_n 1, 1) := by decide +kernel
theorem dL_law_165 : decode cL_law 165 = .ok (.iconst 0, 1) := by decide +kernel
theorem dL_law_166 : decode cL_law 166 = .ok (.ldc 116, 2) := by decide +kernel
theorem dL_law_168 : decode cL_law 168 = .ok (.iconst 1, 1) := by decide +kernel
theorem dL_law_169 : decode cL_law 169 = .ok (.iconst 0, 1) := by decide +kernel
theorem dL_law_170 : decode cL_law 170 = .ok (.iconst 0, 1) := by decide +kernel
theorem dL_law_171 : decode cL_law 171 = .ok (.invokestatic 97, 3) := by decide +kernel
theorem dL_law_174 : decode cL_law 174 = .ok (.bipush (-62), 2) := by decide +kernel
theorem dL_law_176 : decode cL_law 176 = .ok (.if_icmp .ne 78, 3) := by decide +kernel
theorem dL_law_179 : decode cL_law 179 = .ok (.aload_n 1, 1) := by decide +kernel
theorem dL_law_180 : decode cL_law 180 = .ok (.invokestatic 103, 3) := by decide +kernel
theorem dL_law_183 : decode cL_law 183 = .ok (.lload 11, 2) := by decide +kernel
theorem dL_law_185 : decode cL_law 185 = .ok (.lcmp, 1) := by decide +kernel
theorem dL_law_186 : decode cL_law 186 = .ok (.ifCond .ne 68, 3) := by decide +kernel
theorem dL_law_189 : decode cL_law 189 = .ok (.aload_n 1, 1) := by decide +kernel
theorem dL_law_190 : decode cL_law 190 = .ok (.iconst 1, 1) := by decide +kernel
theorem dL_law_191 : decode cL_law 191 = .ok (.iload 7, 2) := by decide +kernel
theorem dL_law_193 : decode cL_law 193 = .ok (.ldc 117, 2) := by decide +kernel
theorem dL_law_195 : decode cL_law 195 = .ok (.invokestatic 100, 3) := by decide +kernel
theorem dL_law_198 : decode cL_law 198 = .ok (.iadd, 1) := by decide +kernel
theorem dL_law_199 : decode cL_law 199 = .ok (.iload 7, 2) := by decide +kernel
theorem dL_law_201 : decode cL_law 201 = .ok (.iconst 3, 1) := by decide +kernel
theorem dL_law_202 : decode cL_law 202 = .ok (.ishr, 1) := by decide +kernel
theorem dL_law_203 : decode cL_law 203 = .ok (.iconst 2, 1) := by decide +kernel
theorem dL_law_204 : decode cL_law 204 = .ok (.invokestatic 100, 3) := by decide +kernel
theorem dL_law_207 : decode cL_law 207 = .ok (.ifCond .ne 7, 3) := by decide +kernel
theorem dL_law_210 : decode cL_law 210 = .ok (.iconst 1, 1) := by decide +kernel
theorem dL_law_211 : decode cL_law 211 = .ok (.goto 4, 3) := by decide +kernel
theorem dL_law_214 : decode cL_law 214 = .ok (.iconst 0, 1) := by decide +kernel
theorem dL_law_215 : decode cL_law 215 = .ok (.invokevirtual 20, 3) := by decide +kernel
theorem dL_law_218 : decode cL_law 218 = .ok (.iload 10, 2) := by decide +kernel
theorem dL_law_220 : decode cL_law 220 = .ok (.if_icmp .ne 34, 3) := by decide +kernel
theorem dL_law_223 : decode cL_law 223 = .ok (.aload_n 1, 1) := by decide +kernel
theorem dL_law_224 : decode cL_law 224 = .ok (.iload 10, 2) := by decide +kernel
theorem dL_law_226 : decode cL_law 226 = .ok (.invokevirtual 74, 3) := by decide +kernel
theorem dL_law_229 : decode cL_law 229 = .ok (.ifCond .ne 25, 3) := by decide +kernel
theorem dL_law_232 : decode cL_law 232 = .ok (.aload_n 1, 1) := by decide +kernel
theorem dL_law_233 : decode cL_law 233 = .ok (.iload 10, 2) := by decide +kernel
theorem dL_law_235 : decode cL_law 235 = .ok (.invokevirtual 71, 3) := by decide +kernel
theorem dL_law_238 : decode cL_law 238 = .ok (.ifCond .ne 16, 3) := by decide +kernel
theorem dL_law_241 : decode cL_law 241 = .ok (.aload_n 1, 1) := by decide +kernel
theorem dL_law_242 : decode cL_law 242 = .ok (.iload 10, 2) := by decide +kernel
theorem dL_law_244 : decode cL_law 244 = .ok (.invokevirtual 57, 3) := by decide +kernel
theorem dL_law_247 : decode cL_law 247 = .ok (.ifCond .ne 7, 3) := by decide +kernel
theorem dL_law_250 : decode cL_law 250 = .ok (.iconst 1, 1) := by decide +kernel
theorem dL_law_251 : decode cL_law 251 = .ok (.goto 4, 3) := by decide +kernel
theorem dL_law_254 : decode cL_law 254 = .ok (.iconst 0, 1) := by decide +kernel
theorem dL_law_255 : decode cL_law 255 = .ok (.istore_n 3, 1) := by decide +kernel
theorem dL_law_256 : decode cL_law 256 = .ok (.goto 133, 3) := by decide +kernel
theorem dL_law_259 : decode cL_law 259 = .ok (.iload 9, 2) := by decide +kernel
theorem dL_law_261 : decode cL_law 261 = .ok (.iconst 5, 1) := by decide +kernel
theorem dL_law_262 : decode cL_law 262 = .ok (.if_icmp .ge 19, 3) := by decide +kernel
theorem dL_law_265 : decode cL_law 265 = .ok (.aload_n 1, 1) := by decide +kernel
theorem dL_law_266 : decode cL_law 266 = .ok (.iload 6, 2) := by decide +kernel
theorem dL_law_268 : decode cL_law 268 = .ok (.iconst 4, 1) := by decide +kernel
theorem dL_law_269 : decode cL_law 269 = .ok (.ishr, 1) := by decide +kernel
theorem dL_law_270 : decode cL_law 270 = .ok (.iload 7, 2) := by decide +kernel
theorem dL_law_272 : decode cL_law 272 = .ok (.iload 8, 2) := by decide +kernel
theorem dL_law_274 : decode cL_law 274 = .ok (.invokestatic 118, 3) := by decide +kernel
theorem dL_law_277 : decode cL_law 277 = .ok (.istore_n 3, 1) := by decide +kernel
theorem dL_law_278 : decode cL_law 278 = .ok (.goto 111, 3) := by decide +kernel
theorem dL_law_281 : decode cL_law 281 = .ok (.iload 9, 2) := by decide +kernel
theorem dL_law_283 : decode cL_law 283 = .ok (.bipush 7, 2) := by decide +kernel
theorem dL_law_285 : decode cL_law 285 = .ok (.if_icmp .ge 20, 3) := by decide +kernel
theorem dL_law_288 : decode cL_law 288 = .ok (.aload_n 1, 1) := by decide +kernel
theorem dL_law_289 : decode cL_law 289 = .ok (.aload_n 2, 1) := by decide +kernel
theorem dL_law_290 : decode cL_law 290 = .ok (.iload 6, 2) := by decide +kernel
theorem dL_law_292 : decode cL_law 292 = .ok (.iconst 4, 1) := by decide +kernel
theorem dL_law_293 : decode cL_law 293 = .ok (.ishr, 1) := by decide +kernel
theorem dL_law_294 : decode cL_law 294 = .ok (.iload 7, 2) := by decide +kernel
theorem dL_law_296 : decode cL_law 296 = .ok (.iload 8, 2) := by decide +kernel
theorem dL_law_298 : decode cL_law 298 = .ok (.invokestatic 122, 3) := by decide +kernel
theorem dL_law_301 : decode cL_law 301 = .ok (.istore_n 3, 1) := by decide +kernel
theorem dL_law_302 : decode cL_law 302 = .ok (.goto 87, 3) := by decide +kernel
theorem dL_law_305 : decode cL_law 305 = .ok (.iload 9, 2) := by decide +kernel
theorem dL_law_307 : decode cL_law 307 = .ok (.bipush 11, 2) := by decide +kernel
theorem dL_law_309 : decode cL_law 309 = .ok (.if_icmp .ge 13, 3) := by decide +kernel
theorem dL_law_312 : decode cL_law 312 = .ok (.aload_n 1, 1) := by decide +kernel
theorem dL_law_313 : decode cL_law 313 = .ok (.iload 7, 2) := by decide +kernel
theorem dL_law_315 : decode cL_law 315 = .ok (.invokestatic 126, 3) := by decide +kernel
theorem dL_law_318 : decode cL_law 318 = .ok (.istore_n 3, 1) := by decide +kernel
theorem dL_law_319 : decode cL_law 319 = .ok (.goto 70, 3) := by decide +kernel
theorem dL_law_322 : decode cL_law 322 = .ok (.iload 9, 2) := by decide +kernel
theorem dL_law_324 : decode cL_law 324 = .ok (.bipush 15, 2) := by decide +kernel
theorem dL_law_326 : decode cL_law 326 = .ok (.if_icmp .ge 19, 3) := by decide +kernel
theorem dL_law_329 : decode cL_law 329 = .ok (.aload_n 1, 1) := by decide +kernel
theorem dL_law_330 : decode cL_law 330 = .ok (.iload 6, 2) := by decide +kernel
theorem dL_law_332 : decode cL_law 332 = .ok (.iconst 4, 1) := by decide +kernel
theorem dL_law_333 : decode cL_law 333 = .ok (.ishr, 1) := by decide +kernel
theorem dL_law_334 : decode cL_law 334 = .ok (.iload 7, 2) := by decide +kernel
theorem dL_law_336 : decode cL_law 336 = .ok (.iload 8, 2) := by decide +kernel
theorem dL_law_338 : decode cL_law 338 = .ok (.invokestatic 130, 3) := by decide +kernel
theorem dL_law_341 : decode cL_law 341 = .ok (.istore_n 3, 1) := by decide +kernel
theorem dL_law_342 : decode cL_law 342 = .ok (.goto 47, 3) := by decide +kernel
theorem dL_law_345 : decode cL_law 345 = .ok (.iload 7, 2) := by decide +kernel
theorem dL_law_347 : decode cL_law 347 = .ok (.bipush 101, 2) := by decide +kernel
theorem dL_law_349 : decode cL_law 349 = .ok (.invokestatic 100, 3) := by decide +kernel
theorem dL_law_352 : decode cL_law 352 = .ok (.istore 10, 2) := by decide +kernel
theorem dL_law_354 : decode cL_law 354 = .ok (.aload_n 1, 1) := by decide +kernel
theorem dL_law_355 : decode cL_law 355 = .ok (.iload 10, 2) := by decide +kernel
theorem dL_law_357 : decode cL_law 357 = .ok (.invokevirtual 37, 3) := by decide +kernel
theorem dL_law_360 : decode cL_law 360 = .ok (.iload 4, 2) := by decide +kernel
theorem dL_law_362 : decode cL_law 362 = .ok (.if_icmp .ne 21, 3) := by decide +kernel
theorem dL_law_365 : decode cL_law 365 = .ok (.aload_n 1, 1) := by decide +kernel
theorem dL_law_366 : decode cL_law 366 = .ok (.iconst 4, 1) := by decide +kernel
theorem dL_law_367 : decode cL_law 367 = .ok (.iconst (-1), 1) := by decide +kernel
theorem dL_law_368 : decode cL_law 368 = .ok (.iconst 0, 1) := by decide +kernel
theorem dL_law_369 : decode cL_law 369 = .ok (.iconst 0, 1) := by decide +kernel
theorem dL_law_370 : decode cL_law 370 = .ok (.iconst 0, 1) := by decide +kernel
theorem dL_law_371 : decode cL_law 371 = .ok (.invokestatic 97, 3) := by decide +kernel
theorem dL_law_374 : decode cL_law 374 = .ok (.bipush (-62), 2) := by decide +kernel
theorem dL_law_376 : decode cL_law 376 = .ok (.if_icmp .ne 7, 3) := by decide +kernel
theorem dL_law_379 : decode cL_law 379 = .ok (.iconst 1, 1) := by decide +kernel
theorem dL_law_380 : decode cL_law 380 = .ok (.goto 4, 3) := by decide +kernel
theorem dL_law_383 : decode cL_law 383 = .ok (.iconst 0, 1) := by decide +kernel
theorem dL_law_384 : decode cL_law 384 = .ok (.istore_n 3, 1) := by decide +kernel
theorem dL_law_385 : decode cL_law 385 = .ok (.iload 10, 2) := by decide +kernel
theorem dL_law_387 : decode cL_law 387 = .ok (.istore 4, 2) := by decide +kernel
theorem dL_law_389 : decode cL_law 389 = .ok (.iload_n 3, 1) := by decide +kernel
theorem dL_law_390 : decode cL_law 390 = .ok (.ifCond .eq 41, 3) := by decide +kernel
theorem dL_law_393 : decode cL_law 393 = .ok (.aload_n 1, 1) := by decide +kernel
theorem dL_law_394 : decode cL_law 394 = .ok (.iload 7, 2) := by decide +kernel
theorem dL_law_396 : decode cL_law 396 = .ok (.iconst 2, 1) := by decide +kernel
theorem dL_law_397 : decode cL_law 397 = .ok (.ishr, 1) := by decide +kernel
theorem dL_law_398 : decode cL_law 398 = .ok (.iload 6, 2) := by decide +kernel
theorem dL_law_400 : decode cL_law 400 = .ok (.iconst 5, 1) := by decide +kernel
theorem dL_law_401 : decode cL_law 401 = .ok (.imul, 1) := by decide +kernel
theorem dL_law_402 : decode cL_law 402 = .ok (.iload 7, 2) := by decide +kernel
theorem dL_law_404 : decode cL_law 404 = .ok (.iadd, 1) := by decide +kernel
theorem dL_law_405 : decode cL_law 405 = .ok (.iconst 0, 1) := by decide +kernel
theorem dL_law_406 : decode cL_law 406 = .ok (.invokestatic 118, 3) := by decide +kernel
theorem dL_law_409 : decode cL_law 409 = .ok (.ifCond .eq 22, 3) := by decide +kernel
theorem dL_law_412 : decode cL_law 412 = .ok (.iload 5, 2) := by decide +kernel
theorem dL_law_414 : decode cL_law 414 = .ok (.bipush 9, 2) := by decide +kernel
theorem dL_law_416 : decode cL_law 416 = .ok (.irem, 1) := by decide +kernel
theorem dL_law_417 : decode cL_law 417 = .ok (.ifCond .gt 10, 3) := by decide +kernel
theorem dL_law_420 : decode cL_law 420 = .ok (.aload_n 1, 1) := by decide +kernel
theorem dL_law_421 : decode cL_law 421 = .ok (.invokestatic 108, 3) := by decide +kernel
theorem dL_law_424 : decode cL_law 424 = .ok (.ifCond .eq 7, 3) := by decide +kernel
theorem dL_law_427 : decode cL_law 427 = .ok (.iconst 1, 1) := by decide +kernel
theorem dL_law_428 : decode cL_law 428 = .ok (.goto 4, 3) := by decide +kernel
theorem dL_law_431 : decode cL_law 431 = .ok (.iconst 0, 1) := by decide +kernel
theorem dL_law_432 : decode cL_law 432 = .ok (.istore_n 3, 1) := by decide +kernel
theorem dL_law_433 : decode cL_law 433 = .ok (.iinc 5 1, 3) := by decide +kernel
theorem dL_law_436 : decode cL_law 436 = .ok (.goto (-381), 3) := by decide +kernel
theorem dL_law_439 : decode cL_law 439 = .ok (.iload_n 3, 1) := by decide +kernel
theorem dL_law_440 : decode cL_law 440 = .ok (.ifCond .eq 14, 3) := by decide +kernel
theorem dL_law_443 : decode cL_law 443 = .ok (.aload_n 1, 1) := by decide +kernel
theorem dL_law_444 : decode cL_law 444 = .ok (.invokestatic 108, 3) := by decide +kernel
theorem dL_law_447 : decode cL_law 447 = .ok (.ifCond .eq 7, 3) := by decide +kernel
theorem dL_law_450 : decode cL_law 450 = .ok (.iconst 1, 1) := by decide +kernel
theorem dL_law_451 : decode cL_law 451 = .ok (.goto 4, 3) := by decide +kernel
theorem dL_law_454 : decode cL_law 454 = .ok (.iconst 0, 1) := by decide +kernel
theorem dL_law_455 : decode cL_law 455 = .ok (.ireturn, 1) := by decide +kernel
end
section
/-! worlds as lists of cells, contracts over them, calls -/
abbrev Gx : Type := va_G × (Nat → ClassId)
def tyL (G : Gx) : List (ClassId × FieldType) := [(G.2 0, .int), (G.2 1, .boolean), (G.2 2, .object "ShortWork$Worker"), (G.2 3, .object "ShortWork$Course")]
def evL : List Cond := [.fieldLinkNest RX2 91 RX1 "cutHours" "[I" RX2, .fieldLinkNest RX2 106 RX1 "firmPay" "[I" RX2, .fieldLinkNest RX2 109 RX1 "fundPay" "[I" RX2, .fieldLinkNest RX2 115 RX1 "doorHours" "[I" RX2, .fieldLinkNest RX2 118 RX1 "mailed" "[Z" RX2, .fieldLinkNest RX2 58 RX1 "noticeCount" "I" RX2, .fieldLinkNest RX2 112 RX1 "cutWeekCount" "I" RX2, .fieldLinkNest RX2 134 RX1 "received" "I" RX2, .fieldLinkNest RX2 131 RX1 "debt" "I" RX2, .fieldLinkNest RX1 42 RX0 "from" "I" RX2, .fieldLinkNest RX2 81 RX0 "from" "I" RX2, .fieldLinkNest RX1 47 RX0 "to" "I" RX2, .fieldLinkNest RX2 78 RX0 "to" "I" RX2, .fieldLinkNest RX1 50 RX0 "hours" "I" RX2, .fieldLinkNest RX2 75 RX0 "seatsLeft" "I" RX2]
def exL : List String := ["java/lang/IllegalArgumentException", "java/lang/IllegalStateException", "java/lang/IndexOutOfBoundsException"]
def exW : List Cond := [.castable "java/lang/IllegalArgumentException" "java/lang/IllegalArgumentException", .castable "java/lang/IllegalStateException" "java/lang/IllegalStateException", .castable "java/lang/IndexOutOfBoundsException" "java/lang/IndexOutOfBoundsException", .declares ⟨"java/lang/RuntimeException", "<init>", "()V"⟩, .declares ⟨"java/lang/Exception", "<init>", "()V"⟩, .declares ⟨"java/lang/Throwable", "<init>", "()V"⟩]
def CsW (w : Cond) (U : State) : Prop := w.before #[] U = true
theorem exW_ok : ∀ w ∈ exW, w.faceAtom = true ∧ w.onTables = true := by
  intro w hw
  simp only [exW, List.mem_cons, List.not_mem_nil, or_false] at hw
  rcases hw with h | h | h | h | h | h <;> subst h <;> exact ⟨rfl, rfl⟩
theorem CsW.moved {w : Cond} (hw : w ∈ exW) {u U : State} (hvm : u.vm.Alike U.vm) (h : CsW w u) : CsW w U :=
  va_tabs (A := #[]) (exW_ok w hw).2 (rfl : (u.setVm U.vm).vm = U.vm) (Cond.faceAtom_setVm hvm w (exW_ok w hw).1 h)
def ncL : List (String × String) := [("java/lang/IllegalArgumentException", "java/lang/IndexOutOfBoundsException"), ("java/lang/IllegalStateException", "java/lang/IndexOutOfBoundsException"), ("java/lang/IllegalStateException", "java/lang/IllegalArgumentException")]
def EVt (U : State) : Prop := (∀ w ∈ evL, va_Nw w U) ∧ va_AO RX1 U ∧ va_AO RX0 U ∧ (∀ w ∈ exW, CsW w U) ∧ ∀ z ∈ ncL, va_Nc z.1 z.2 U
def EVh (A : Nat → Prop) (U : State) (H : Heap) : Prop := vx_Zq Bundle.tN "UNASSIGNED_STACK" Bundle.steD A U H ∧ vx_Zq Bundle.tN "SUPPRESSED_SENTINEL" Bundle.listD A U H
theorem evL_form : ∀ w ∈ evL, ∃ a i b n d h, w = Cond.fieldLinkNest a i b n d h := by
  intro w hw
  simp only [evL, List.mem_cons, List.not_mem_nil, or_false] at hw
  rcases hw with h | h | h | h | h | h | h | h | h | h | h | h | h | h | h <;> exact ⟨_, _, _, _, _, _, h⟩
theorem evL_ot : ∀ w ∈ evL, w.onTables = true := by
  intro w hw
  obtain ⟨a, i, b, n, d, h, rfl⟩ := evL_form w hw
  rfl
theorem EVt.moved {s U : State} (hW : s.WarmedH U.vm) (h : EVt s) : EVt U := by
  refine ⟨fun w hw => ?_, h.2.1.moved hW.alike, h.2.2.1.moved hW.alike, fun w hw => (h.2.2.2.1 w hw).moved hw hW.alike, fun z hz => (h.2.2.2.2 z hz).moved hW.alike⟩
  have h1 := h.1 w hw
  obtain ⟨a, i, b, n, d, hh, rfl⟩ := evL_form w hw
  exact va_Nw.warmF hW h1
theorem EVt.same {s U : State} (hvm : s.vm = U.vm) (h : EVt s) : EVt U := by
  refine ⟨fun w hw => (h.1 w hw).same (evL_ot w hw) hvm, ?_, ?_, fun w hw => ?_, fun z hz => ?_⟩
  · exact va_AO.moved (by rw [hvm]; exact Vm.Alike.refl U.vm) h.2.1
  · exact va_AO.moved (by rw [hvm]; exact Vm.Alike.refl U.vm) h.2.2.1
  · exact CsW.moved hw (by rw [hvm]; exact Vm.Alike.refl U.vm) (h.2.2.2.1 w hw)
  · exact (h.2.2.2.2 z hz).moved (by rw [hvm]; exact Vm.Alike.refl U.vm)
theorem EVh.moved {A : Nat → Prop} {s U : State} {H : Heap} (hvm : s.vm.Alike U.vm) (h : EVh A s H) : EVh A U H := ⟨h.1.moved hvm, h.2.moved hvm⟩
theorem EVh.kept {A : Nat → Prop} {s : State} {H H1 : Heap} (h : EVh A s H) (hq : ∀ a : Nat, a < H.size → ¬ A a → H1[a]? = H[a]?) : EVh A s H1 := ⟨h.1.kept hq, h.2.kept hq⟩
theorem EVh.narrow {A B : Nat → Prop} {s : State} {H : Heap} (h : EVh A s H) (hAB : ∀ q, B q → A q) : EVh B s H := ⟨h.1.narrow hAB, h.2.narrow hAB⟩
def BP (G : Gx) (ws : va_W) (sz : Nat) (U : State) : Prop := U.heap.size = sz ∧ va_P G.1 vwCl ws U.heap ∧ va_K G.1 vwCl (tyL G) U ∧ va_D (fun _ => True) ws ∧ EVt U ∧ EVh (va_A ws sz) U U.heap
def BQ (G : Gx) (A : Nat → Prop) (ws : va_W) (t : State) : Prop := va_P G.1 vwCl ws t.heap ∧ va_K G.1 vwCl (tyL G) t ∧ va_D A ws
theorem BP.blind {G : Gx} {ws : va_W} {sz : Nat} {av : List Value} : FrameBlind (va_Pc av (BP G ws sz)) := by
  intro a U g mk q
  obtain ⟨q0, q1, qP, qK, qD, qE, qH⟩ := q
  exact ⟨q0, q1, qP, va_K.moved (u := U) (U := U.calling g mk a) (Vm.Alike.refl U.vm) qK, qD, EVt.same (s := U) (U := U.calling g mk a) rfl qE, EVh.moved (s := U) (U := U.calling g mk a) (Vm.Alike.refl U.vm) qH⟩
/-- what stays in a method's body -/
def Fx (G : Gx) (p : Program) (s : State) (m : MethodId) (args : Array Value) (meth : Method) (c : Code) (cc : ByteArray) (nL : Nat) (Ts : List Cond) (own : String) (A : Nat → Prop) : Prop :=
  CallFix p m c cc nL s args Ts own ∧ meth.locks = false ∧ va_K G.1 vwCl (tyL G) s ∧ EVt s ∧ EVh A s s.heap ∧ ∀ q, s.heap.size ≤ q → A q
def HH (G : Gx) (A : Nat → Prop) (s : State) (ws : va_W) (H : Heap) (locs : List Loc) : Prop := va_P G.1 vwCl ws H ∧ va_D A ws ∧ va_S A s.heap H locs
/-! parts of a world -/
theorem va_P_mem {D : va_G} {cl : List vw_C} {ws : va_W} {H : Heap} : va_P D cl ws H ↔ ∀ q ∈ ws, va_at D cl q H := by
  constructor
  · intro h q hq
    obtain ⟨k, hk⟩ := List.getElem?_of_mem hq
    exact h k q hk
  · intro h k q hk
    exact h q (List.mem_of_getElem? hk)
theorem mid_at {a w b : va_W} {k : Nat} {q : Nat × va_E} (h : w[k]? = some q) : (a ++ w ++ b)[a.length + k]? = some q := by
  have hk := (List.getElem?_eq_some_iff.mp h).1
  rw [List.getElem?_append_left (by rw [List.length_append]; omega), List.getElem?_append_right (by omega), Nat.add_sub_cancel_left]
  exact h
theorem mid_set {a w b : va_W} {k : Nat} {q : Nat × va_E} (h : k < w.length) : (a ++ w ++ b).set (a.length + k) q = a ++ w.set k q ++ b := by
  rw [List.set_append_left _ _ (by rw [List.length_append]; omega), List.set_append_right _ _ (by omega), Nat.add_sub_cancel_left]
theorem midP {D : va_G} {cl : List vw_C} {a w b : va_W} {H : Heap} (h : va_P D cl (a ++ w ++ b) H) : va_P D cl w H := fun _ q hk => h _ q (mid_at hk)
theorem midD {A : Nat → Prop} {a w b : va_W} (h : va_D A (a ++ w ++ b)) : va_D A w := h.by (fun k => a.length + k) (fun _ _ hk => mid_at hk) (fun i j _ _ e => Nat.add_left_cancel e)
theorem lefD {A : Nat → Prop} {a b : va_W} (h : va_D A (a ++ b)) : va_D A a := h.by id (fun k q hk => by
  show (a ++ b)[k]? = some q
  rw [List.getElem?_append_left (List.getElem?_eq_some_iff.mp hk).1]; exact hk) (fun _ _ _ _ e => e)
theorem rigD {A : Nat → Prop} {a b : va_W} (h : va_D A (a ++ b)) : va_D A b := h.by (fun k => a.length + k) (fun k q hk => by
  show (a ++ b)[a.length + k]? = some q
  rw [List.getElem?_append_right (by omega), Nat.add_sub_cancel_left]; exact hk) (fun i j _ _ e => Nat.add_left_cancel e)
theorem disD {A : Nat → Prop} {a b : va_W} (h : va_D A (a ++ b)) {p q : Nat × va_E} (hp : p ∈ a) (hq : q ∈ b) : p.1 ≠ q.1 := by
  obtain ⟨i, hi⟩ := List.getElem?_of_mem hp
  obtain ⟨j, hj⟩ := List.getElem?_of_mem hq
  intro e
  have hl := (List.getElem?_eq_some_iff.mp hi).1
  have h1 : (a ++ b)[i]? = some p := by rw [List.getElem?_append_left hl]; exact hi
  have h2 : (a ++ b)[a.length + j]? = some q := by rw [List.getElem?_append_right (by omega), Nat.add_sub_cancel_left]; exact hj
  have := h.1 _ _ p q h1 h2 e
  omega
theorem joinM {A0 : Nat → Prop} {D : va_G} {cl : List vw_C} {a w b w1 : va_W} {H H1 : Heap} (hP : va_P D cl (a ++ w ++ b) H) (hD : va_D A0 (a ++ w ++ b))
    (hk : ∀ q : Nat, q < H.size → ¬ va_A w H.size q → H1[q]? = H[q]?) (hF : ∀ q, va_A w H.size q → A0 q) (hP1 : va_P D cl w1 H1) (hD1 : va_D (va_A w H.size) w1) : va_P D cl (a ++ w1 ++ b) H1 ∧ va_D A0 (a ++ w1 ++ b) := by
  have hDaw : va_D A0 (a ++ w) := lefD hD
  have outA : ∀ x : Nat × va_E, x.1 < H.size → (∀ y ∈ w, y.1 ≠ x.1) → ¬ va_A w H.size x.1 := by
    intro x hx hy h
    rcases h with ⟨k, e, h⟩ | h
    · exact hy _ (List.mem_of_getElem? h) rfl
    · omega
  have ha : ∀ x ∈ a, x.1 < H.size ∧ ¬ va_A w H.size x.1 := by
    intro x hx
    have hl := (va_P_mem.mp hP x (List.mem_append_left _ (List.mem_append_left _ hx))).lt
    exact ⟨hl, outA x hl fun y hy e => disD hDaw hx hy e.symm⟩
  have hb : ∀ x ∈ b, x.1 < H.size ∧ ¬ va_A w H.size x.1 := by
    intro x hx
    have hl := (va_P_mem.mp hP x (List.mem_append_right _ hx)).lt
    exact ⟨hl, outA x hl fun y hy e => disD hD (List.mem_append_right _ hy) hx e⟩
  constructor
  · refine va_P_mem.mpr fun x hx => ?_
    rcases List.mem_append.mp hx with hx | hx
    · rcases List.mem_append.mp hx with hx | hx
      · exact (va_P_mem.mp hP x (List.mem_append_left _ (List.mem_append_left _ hx))).kept (hk _ (ha x hx).1 (ha x hx).2)
      · exact va_P_mem.mp hP1 x hx
    · exact (va_P_mem.mp hP x (List.mem_append_right _ hx)).kept (hk _ (hb x hx).1 (hb x hx).2)
  · refine va_D.app (va_D.app (lefD hDaw) (hD1.weaken fun _ q _ h => hF q.1 h) ?_) (rigD hD) ?_
    · intro i j x y hx hy e
      have h1 := ha x (List.mem_of_getElem? hx)
      have h2 := hD1.2 j y hy
      rw [← e] at h2
      exact h1.2 h2
    · intro i j x y hx hy e
      rcases List.mem_append.mp (List.mem_of_getElem? hx) with hx | hx
      · exact disD (a := a) (b := b) (by
          have h9 : va_D A0 (a ++ b) := hD.by (fun k => if k < a.length then k else k + w.length) (fun k q hk => by
            by_cases hl : k < a.length
            · rw [if_pos hl]
              rw [List.getElem?_append_left hl] at hk
              rw [List.getElem?_append_left (by rw [List.length_append]; omega), List.getElem?_append_left hl]
              exact hk
            · rw [if_neg hl]
              rw [List.getElem?_append_right (by omega)] at hk
              rw [List.getElem?_append_right (by rw [List.length_append]; omega), List.length_append, show k + w.length - (a.length + w.length) = k - a.length by omega]
              exact hk) (fun i j _ _ e => by
            by_cases h1 : i < a.length <;> by_cases h2 : j < a.length <;> simp only [h1, h2, if_true, if_false] at e <;> omega)
          exact h9) hx (List.mem_of_getElem? hy) e
      · obtain ⟨k, hk⟩ := List.getElem?_of_mem hx
        have h2 := hD1.2 k x hk
        rw [e] at h2
        exact (hb y (List.mem_of_getElem? hy)).2 h2
theorem freeM {A0 : Nat → Prop} {a w b : va_W} {H0 H : Heap} {locs : List Loc} (hD : va_D A0 (a ++ w ++ b)) (hS : va_S A0 H0 H locs) (hA : ∀ q, H0.size ≤ q → A0 q) : ∀ q, va_A w H.size q → A0 q := by
  intro q h
  rcases h with ⟨k, e, h⟩ | h
  · exact hD.2 _ (q, e) (mid_at h)
  · exact hA q (Nat.le_trans hS.1 h)
/-! contracts -/
/-- returns 'ans', the world is then ws' (u: addresses of what was made) -/
def MI (l : Launch) (y : MethodName) (Wd : List Cond) (rm : Room) (av : List Value) (G : Gx) (ws : va_W) (ws' : (Nat → Nat) → va_W) (ans : Int32) : Prop :=
  ∀ sz : Nat, Met l y Wd rm (va_Pc av (BP G ws sz)) (va_Qi (fun r (_ : Nat → Nat) => r = ans) (fun u => BQ G (va_A ws sz) (ws' u)) (va_A ws sz)) rm.cells rm.slots (va_A ws sz)
def MV (l : Launch) (y : MethodName) (Wd : List Cond) (rm : Room) (av : List Value) (G : Gx) (ws : va_W) (ws' : (Nat → Nat) → va_W) : Prop :=
  ∀ sz : Nat, Met l y Wd rm (va_Pc av (BP G ws sz)) (va_Qv (fun (_ : Nat → Nat) => True) (fun u => BQ G (va_A ws sz) (ws' u)) (va_A ws sz)) rm.cells rm.slots (va_A ws sz)
/-- returns the reference r, the world stays -/
def MR (l : Launch) (y : MethodName) (Wd : List Cond) (rm : Room) (av : List Value) (G : Gx) (ws : va_W) (r : Nat) : Prop :=
  ∀ sz : Nat, Met l y Wd rm (va_Pc av (BP G ws sz)) (va_Qr (fun (_ : Unit) => True) (fun _ a t => a = r ∧ BQ G (va_A ws sz) ws t) (va_A ws sz)) rm.cells rm.slots (va_A ws sz)
def XQ (G : Gx) (A : Nat → Prop) (ws : va_W) (E : String) : String → State → State → Prop := vx_X (fun (_ : Unit) => True) (fun E' _ t => E' = E ∧ BQ G A ws t) A
/-- throws E, the world stays -/
def MX (l : Launch) (y : MethodName) (Wd : List Cond) (rm : Room) (av : List Value) (G : Gx) (ws : va_W) (E : String) : Prop :=
  ∀ sz : Nat, vx_Met l y Wd rm (va_Pc av (BP G ws sz)) (fun _ _ _ _ => False) (XQ G (va_A ws sz) ws E) rm.cells rm.slots (va_A ws sz)
abbrev EnI (G : Gx) (A : Nat → Prop) (below : List Frame) (s : State) (args : Array Value) (rm : Room) (ws' : (Nat → Nat) → va_W) (ans : Int32) : State → Prop :=
  MQ below (va_Qi (fun r (_ : Nat → Nat) => r = ans) (fun u => BQ G A (ws' u)) A) args s rm.cells rm.slots A
abbrev EnV (G : Gx) (A : Nat → Prop) (below : List Frame) (s : State) (args : Array Value) (rm : Room) (ws' : (Nat → Nat) → va_W) : State → Prop :=
  MQ below (va_Qv (fun (_ : Nat → Nat) => True) (fun u => BQ G A (ws' u)) A) args s rm.cells rm.slots A
abbrev EnR (G : Gx) (A : Nat → Prop) (below : List Frame) (s : State) (args : Array Value) (rm : Room) (ws : va_W) (r : Nat) : State → Prop :=
  MQ below (va_Qr (fun (_ : Unit) => True) (fun _ a t => a = r ∧ BQ G A ws t) A) args s rm.cells rm.slots A
abbrev EnX (G : Gx) (A : Nat → Prop) (below : List Frame) (s : State) (args : Array Value) (rm : Room) (ws : va_W) (E : String) : State → Prop :=
  vx_MQ below (fun _ _ _ _ => False) (XQ G A ws E) args s rm.cells rm.slots A
section Entry
variable {l : Launch} {y : MethodName} {Wd Wd' : List Cond} {rm : Room} {av : List Value} {G : Gx} {ws : va_W} {ws' : (Nat → Nat) → va_W} {ans : Int32} {r : Nat} {E : String} {cc : ByteArray} {maxL : Nat} {ret : Option FieldType}
theorem ofMI (hy : plainName y.cls = true) (hw : Wd = Cond.code y cc maxL ret :: Wd') (hlen : (lg_sl av).length ≤ maxL)
    (body : ∀ (p : Program) (e : Env) (s : State) (m : MethodId) (below : List Frame) (meth : Method) (c : Code) (A : Nat → Prop) (ls : Array Slot), Fx G p s m av.toArray meth c cc maxL Wd y.cls A → meth.sig.returnType = ret → meth.name = y.name → HH G A s ws s.heap [] → lv_has ls maxL (lv_args 0 av) →
      W p l e rm s m av.toArray below meth c s.heap [] 0 0 (EnI G A below s av.toArray rm ws' ans) (F0 m 0 ls [])) : MI l y Wd rm av G ws ws' ans := by
  intro sz
  refine Met.ofW (cc := cc) (maxL := maxL) (ret := ret) hy hw ?_
  intro p e s m args below meth c s₁ B hml hv
  obtain ⟨rfl, hsz, hP, hK, hD0, hE, hE2⟩ := hv
  subst hsz
  have hl := lv_entry av (n := maxL) hlen
  rw [lg_entry_eq]
  exact body p e s m below meth c (va_A ws s.heap.size) _ ⟨⟨B.exec, B.bytes, hml, findClass_of_methodNamed B.named, atoms_spec (ws := Wd) B.pre⟩, B.notSynchronized, hK, hE, hE2, fun q h => Or.inr h⟩ B.returns (name_of_methodNamed B.named B.method).1 ⟨hP, hD0.self, va_S.rf⟩ hl
theorem ofMV (hy : plainName y.cls = true) (hw : Wd = Cond.code y cc maxL ret :: Wd') (hlen : (lg_sl av).length ≤ maxL)
    (body : ∀ (p : Program) (e : Env) (s : State) (m : MethodId) (below : List Frame) (meth : Method) (c : Code) (A : Nat → Prop) (ls : Array Slot), Fx G p s m av.toArray meth c cc maxL Wd y.cls A → meth.sig.returnType = ret → meth.name = y.name → HH G A s ws s.heap [] → lv_has ls maxL (lv_args 0 av) →
      W p l e rm s m av.toArray below meth c s.heap [] 0 0 (EnV G A below s av.toArray rm ws') (F0 m 0 ls [])) : MV l y Wd rm av G ws ws' := by
  intro sz
  refine Met.ofW (cc := cc) (maxL := maxL) (ret := ret) hy hw ?_
  intro p e s m args below meth c s₁ B hml hv
  obtain ⟨rfl, hsz, hP, hK, hD0, hE, hE2⟩ := hv
  subst hsz
  have hl := lv_entry av (n := maxL) hlen
  rw [lg_entry_eq]
  exact body p e s m below meth c (va_A ws s.heap.size) _ ⟨⟨B.exec, B.bytes, hml, findClass_of_methodNamed B.named, atoms_spec (ws := Wd) B.pre⟩, B.notSynchronized, hK, hE, hE2, fun q h => Or.inr h⟩ B.returns (name_of_methodNamed B.named B.method).1 ⟨hP, hD0.self, va_S.rf⟩ hl
theorem ofMR (hy : plainName y.cls = true) (hw : Wd = Cond.code y cc maxL ret :: Wd') (hlen : (lg_sl av).length ≤ maxL)
    (body : ∀ (p : Program) (e : Env) (s : State) (m : MethodId) (below : List Frame) (meth : Method) (c : Code) (A : Nat → Prop) (ls : Array Slot), Fx G p s m av.toArray meth c cc maxL Wd y.cls A → meth.sig.returnType = ret → meth.name = y.name → HH G A s ws s.heap [] → lv_has ls maxL (lv_args 0 av) →
      W p l e rm s m av.toArray below meth c s.heap [] 0 0 (EnR G A below s av.toArray rm ws r) (F0 m 0 ls [])) : MR l y Wd rm av G ws r := by
  intro sz
  refine Met.ofW (cc := cc) (maxL := maxL) (ret := ret) hy hw ?_
  intro p e s m args below meth c s₁ B hml hv
  obtain ⟨rfl, hsz, hP, hK, hD0, hE, hE2⟩ := hv
  subst hsz
  have hl := lv_entry av (n := maxL) hlen
  rw [lg_entry_eq]
  exact body p e s m below meth c (va_A ws s.heap.size) _ ⟨⟨B.exec, B.bytes, hml, findClass_of_methodNamed B.named, atoms_spec (ws := Wd) B.pre⟩, B.notSynchronized, hK, hE, hE2, fun q h => Or.inr h⟩ B.returns (name_of_methodNamed B.named B.method).1 ⟨hP, hD0.self, va_S.rf⟩ hl
theorem ofMX (hy : plainName y.cls = true) (hw : Wd = Cond.code y cc maxL ret :: Wd') (hlen : (lg_sl av).length ≤ maxL)
    (body : ∀ (p : Program) (e : Env) (s : State) (m : MethodId) (below : List Frame) (meth : Method) (c : Code) (A : Nat → Prop) (ls : Array Slot), Fx G p s m av.toArray meth c cc maxL Wd y.cls A → (∀ x ∈ c.exceptionTable.toList, False) → HH G A s ws s.heap [] → lv_has ls maxL (lv_args 0 av) →
      W p l e rm s m av.toArray below meth c s.heap [] 0 0 (EnX G A below s av.toArray rm ws E) (F0 m 0 ls [])) : MX l y Wd rm av G ws E := by
  intro sz
  refine vx_ofW (cc := cc) (maxL := maxL) (ret := ret) hy hw ?_
  intro p e s m args below meth c s₁ B hml ht hv
  obtain ⟨rfl, hsz, hP, hK, hD0, hE, hE2⟩ := hv
  subst hsz
  have hl := lv_entry av (n := maxL) hlen
  rw [lg_entry_eq]
  exact body p e s m below meth c (va_A ws s.heap.size) _ ⟨⟨B.exec, B.bytes, hml, findClass_of_methodNamed B.named, atoms_spec (ws := Wd) B.pre⟩, B.notSynchronized, hK, hE, hE2, fun q h => Or.inr h⟩ ht ⟨hP, hD0.self, va_S.rf⟩ hl
/-- a method with a table of handlers -/
theorem ofLI {hh : List (Nat × Nat × Nat × Nat)} (hy : plainName y.cls = true) (hw : Wd = Cond.codeWith y cc maxL ret hh :: Wd') (hlen : (lg_sl av).length ≤ maxL)
    (body : ∀ (p : Program) (e : Env) (s : State) (m : MethodId) (below : List Frame) (meth : Method) (c : Code) (A : Nat → Prop) (ls : Array Slot), Fx G p s m av.toArray meth c cc maxL Wd y.cls A → meth.sig.returnType = ret → c.exceptionTable.toList = tableOf hh → HH G A s ws s.heap [] → lv_has ls maxL (lv_args 0 av) →
      W p l e rm s m av.toArray below meth c s.heap [] 0 0 (EnI G A below s av.toArray rm ws' ans) (F0 m 0 ls [])) : MI l y Wd rm av G ws ws' ans := by
  intro sz
  refine va_MetW (cc := cc) (maxL := maxL) (ret := ret) (hh := hh) hy hw ?_
  intro p e s m args below meth c s₁ B hml hv
  obtain ⟨rfl, hsz, hP, hK, hD0, hE, hE2⟩ := hv
  subst hsz
  have hl := lv_entry av (n := maxL) hlen
  have ht := vx_table (x := y) B (atoms_spec (ws := Wd) B.pre _ (by rw [hw]; exact List.mem_cons_self))
  rw [lg_entry_eq]
  exact body p e s m below meth c (va_A ws s.heap.size) _ ⟨⟨B.exec, B.bytes, hml, findClass_of_methodNamed B.named, atoms_spec (ws := Wd) B.pre⟩, B.notSynchronized, hK, hE, hE2, fun q h => Or.inr h⟩ B.returns ht ⟨hP, hD0.self, va_S.rf⟩ hl
end Entry
section Ends9
variable {p : Program} {l : Launch} {e : Env} {R rm : Room} {s : State} {m : MethodId} {args : Array Value} {below : List Frame} {meth : Method} {c : Code} {H : Heap} {locs : List Loc} {cells slots : Nat} {Q : State → Prop}
variable {cc : ByteArray} {pc nL : Nat} {ls : Array Slot} {rest st0 : List Value} {G : Gx} {Ts : List Cond} {own : String} {A : Nat → Prop} {ws w0 w1 : va_W} {ws' : (Nat → Nat) → va_W} {ans v : Int32} {ty : FieldType} {r : Nat} {E : String}
theorem retI (F : Fx G p s m args meth c cc nL Ts own A) (hr : meth.sig.returnType = some ty) (hn : narrow ty (.int v) = .int v) (u : Nat → Nat) (hH : HH G A s (ws' u) H locs) (hv : v = ans) (hc : cells ≤ rm.cells) (hs : slots ≤ rm.slots) (hdg : decode cc pc = .ok (.ireturn, 1)) :
    W p l e R s m args below meth c H locs cells slots (EnI G A below s args rm ws' ans) (F0 m pc ls [.int v]) := by
  subst hv
  refine W.widen hc hs ?_
  exact W.zret F.1.1 F.1.2.1 hr hn (fun t ht hW => ⟨⟨_, u, rfl, rfl, by rw [ht]; exact hH.1, va_K.moved hW.alike F.2.2.1, hH.2.1⟩, hH.2.2.F ht⟩) hH.2.2.2.2 hdg F.2.1
theorem retV (F : Fx G p s m args meth c cc nL Ts own A) (hr : meth.sig.returnType = none) (u : Nat → Nat) (hH : HH G A s (ws' u) H locs) (hc : cells ≤ rm.cells) (hs : slots ≤ rm.slots) (hdg : decode cc pc = .ok (.return_, 1)) :
    W p l e R s m args below meth c H locs cells slots (EnV G A below s args rm ws') (F0 m pc ls []) := by
  refine W.widen hc hs ?_
  exact W.vret F.1.1 F.1.2.1 hr (fun t ht hW => ⟨⟨u, rfl, trivial, by rw [ht]; exact hH.1, va_K.moved hW.alike F.2.2.1, hH.2.1⟩, hH.2.2.F ht⟩) hH.2.2.2.2 hdg F.2.1
theorem retR (F : Fx G p s m args meth c cc nL Ts own A) {C : String} (hr : meth.sig.returnType = some (.object C)) (hH : HH G A s ws H locs) (hc : cells ≤ rm.cells) (hs : slots ≤ rm.slots) (hdg : decode cc pc = .ok (.areturn, 1)) :
    W p l e R s m args below meth c H locs cells slots (EnR G A below s args rm ws r) (F0 m pc ls [.ref r]) := by
  refine W.widen hc hs ?_
  exact W.aret F.1.1 F.1.2.1 hr (Or.inl ⟨_, rfl⟩) (Or.inr ⟨_, rfl⟩) (fun t ht hW => ⟨⟨(), r, rfl, trivial, rfl, by rw [ht]; exact hH.1, va_K.moved hW.alike F.2.2.1, hH.2.1⟩, hH.2.2.F ht⟩) hH.2.2.2.2 hdg F.2.1
/-- new E(); throw -/
theorem throw0 (F : Fx G p s m args meth c cc nL Ts own A) (hl : l.stackTraces = false) {names : List String} {ik ic : Nat} (hcls : Bundle.fit E = true) (hnames : ∀ n ∈ names, Bundle.fit n = true)
    (hk : (Cond.classLink own ik E) ∈ Ts) (hini : (Cond.initialized E) ∈ Ts) (hat : ∀ w ∈ (vx_at0 own ic E names).filter goodWord, w ∈ Ts) (hca : ∀ w ∈ (vx_at0 own ic E names).filter (fun w => !goodWord w), w ∈ exW) (hgood : ∀ w ∈ Cond.classLink own ik E :: Cond.initialized E :: vx_at0 own ic E names, vx_ot w = true)
    (hH : HH G A s ws H locs) (hsize : ls.size = nL)
    (d0 : decode cc pc = .ok (.new ik, 3)) (d3 : decode cc (pc + 3) = .ok (.dup, 1)) (d4 : decode cc (pc + 4) = .ok (.invokespecial ic, 3)) (d7 : decode cc (pc + 7) = .ok (.athrow, 1))
    (hout : ∀ x ∈ c.exceptionTable.toList, False)
    (hRframes : names.length + 3 < R.frames) (hRlocals : (rest.map fun v => v.category).sum + (13 * (names.length + 1) + 42) ≤ R.locals) (hRcells : cells + 1 ≤ R.cells) (hRslots : slots + 6 ≤ R.slots) (hc : cells + 1 ≤ rm.cells) (hs : slots + 6 ≤ rm.slots) :
    W p l e R s m args below meth c H locs cells slots (EnX G A below s args rm ws E) (F0 m pc ls rest) := by
  have hts := F.1.2.2.2.2
  refine vx_throw0 F.1.1 F.1.2.1 hl (own := own) (cls := E) (names := names) (ik := ik) (ic := ic) (A := A) F.1.2.2.2.1 hcls hnames (hts _ hk) (hts _ hini) (vx_hat (B := exW) (fun w hw => hts _ (hat w hw)) hca (fun w hw => va_tabs (exW_ok w hw).2 rfl (F.2.2.2.1.2.2.2.1 w hw))) hgood F.2.2.2.2.1.1 F.2.2.2.2.1.2 hH.2.2 (by rw [hsize]; exact F.1.2.2.1.symm) d0 d3 d4 d7 (fun x hx => (hout x hx).elim) hRframes hRlocals hRcells hRslots F.2.1 ?_ hH.2.2.2.2 hc hs
  intro t hvm hz hq
  refine ⟨(), trivial, ⟨rfl, hH.1.kept fun k q hk => hq _ (hH.1 k q hk).lt, va_K.moved hvm F.2.2.1, hH.2.1⟩, Nat.le_trans hH.2.2.1 hz, fun q h1 h2 => ?_⟩
  rw [hq q (Nat.lt_of_lt_of_le h1 hH.2.2.1)]
  exact hH.2.2.2.1 q h1 h2
end Ends9
end
section
section C9
variable {p : Program} {l : Launch} {e : Env} {R rm : Room} {s : State} {m : MethodId} {args : Array Value} {below : List Frame} {meth : Method} {c : Code} {H : Heap} {locs : List Loc} {cells slots : Nat} {Q : State → Prop}
variable {cc : ByteArray} {pc nL : Nat} {ls : Array Slot} {rest st0 : List Value} {G : Gx} {Ts : List Cond} {own : String} {A : Nat → Prop} {ws w0 w1 : va_W} {E : String} {q : Addr}
variable {y : MethodName} {bytes : ByteArray} {maxL n index : Nat} {ret : Option FieldType} {Wc Wc' : List Cond} {rmc : Room} {b0 : Nat} {As : List Value} {wsc : va_W} {wsc' : (Nat → Nat) → va_W} {ans : Int32} {C : String} {r : Nat}
theorem callVI (F : Fx G p s m args meth c cc nL Ts own A) (hM : MI l y Wc rmc (.ref b0 :: As) G wsc wsc' ans) (hg : GoodIn Ts (wsV own index C y Wc)) (hwc : Wc = Cond.code y bytes maxL ret :: Wc') (hd : y.cls = C ∧ y.cls ≠ "java/lang/invoke/MethodHandle" ∧ y.cls ≠ "java/lang/invoke/VarHandle" ∧ (parseMethodDescriptor y.desc).map (fun d => d.parameters.length) = some n) (hR : rmc.frames + 1 ≤ R.frames ∧ 8 + (maxL + 11) + rmc.locals ≤ R.locals)
    (a b : va_W) (hH : HH G A s w0 H locs) (hw : w0 = a ++ wsc ++ b) (hrec : ∃ (i ci : Nat) (fs : List Value) (q : vw_C), wsc[i]? = some (b0, .inr (ci, fs)) ∧ vwCl[ci]? = some q ∧ q.1 = C) (hn : As.length = n) (hsz : ls.size = nL) (hrest : (rest.map fun v => v.category).sum ≤ 8) (hdg : decode cc pc = .ok (.invokevirtual index, 3)) (hf : cells + rmc.cells ≤ R.cells ∧ slots + rmc.slots ≤ R.slots) (hst : st0 = As.reverse ++ .ref b0 :: rest)
    (kk : ∀ (u : Nat → Nat) (H1 : Heap) (locs1 : List Loc), HH G A s (a ++ wsc' u ++ b) H1 locs1 → W p l e R s m args below meth c H1 locs1 (cells + rmc.cells) (slots + rmc.slots) Q (F0 m (pc + 3) ls (.int ans :: rest))) :
    W p l e R s m args below meth c H locs cells slots Q (F0 m pc ls st0) := by
  subst hw
  have hPc := midP hH.1
  have hDc := midD hH.2.1
  have hFc := freeM hH.2.1 hH.2.2 F.2.2.2.2.2
  have hE : EVh (va_A wsc H.size) s H := (F.2.2.2.2.1.kept hH.2.2.2.1).narrow hFc
  obtain ⟨i, ci, fs, q, hr1, hr2, hr3⟩ := hrec
  subst hr3
  refine va_calli (va_runV (As := As) (rest := rest) F.1 (hM H.size) (cwV n F.1.2.2.2.2 hg hwc rfl rfl hd hR) ⟨BP.blind, va_recv F.2.2.1 hPc hr2 hr1, fun U hU hW => ⟨rfl, by rw [hU], by rw [hU]; exact hPc, va_K.moved hW.alike F.2.2.1, hDc.weaken (fun _ _ _ _ => trivial), F.2.2.2.1.moved hW, by rw [hU]; exact hE.moved hW.alike⟩⟩ rfl hn hsz hst (lv_room hrest) hdg hf) hH.2.2 (fun q _ h => hFc q h) hFc (fun r u t H1 locs1 ht hvm hw hB hz1 hk1 hS => ?_)
  subst hw
  obtain ⟨hP1, -, hD1⟩ := hB
  rw [ht] at hP1
  obtain ⟨j1, j2⟩ := joinM hH.1 hH.2.1 hk1 hFc hP1 hD1
  exact kk u H1 locs1 ⟨j1, j2, hS⟩
theorem callVV (F : Fx G p s m args meth c cc nL Ts own A) (hM : MV l y Wc rmc (.ref b0 :: As) G wsc wsc') (hg : GoodIn Ts (wsV own index C y Wc)) (hwc : Wc = Cond.code y bytes maxL ret :: Wc') (hd : y.cls = C ∧ y.cls ≠ "java/lang/invoke/MethodHandle" ∧ y.cls ≠ "java/lang/invoke/VarHandle" ∧ (parseMethodDescriptor y.desc).map (fun d => d.parameters.length) = some n) (hR : rmc.frames + 1 ≤ R.frames ∧ 8 + (maxL + 11) + rmc.locals ≤ R.locals)
    (a b : va_W) (hH : HH G A s w0 H locs) (hw : w0 = a ++ wsc ++ b) (hrec : ∃ (i ci : Nat) (fs : List Value) (q : vw_C), wsc[i]? = some (b0, .inr (ci, fs)) ∧ vwCl[ci]? = some q ∧ q.1 = C) (hn : As.length = n) (hsz : ls.size = nL) (hrest : (rest.map fun v => v.category).sum ≤ 8) (hdg : decode cc pc = .ok (.invokevirtual index, 3)) (hf : cells + rmc.cells ≤ R.cells ∧ slots + rmc.slots ≤ R.slots) (hst : st0 = As.reverse ++ .ref b0 :: rest)
    (kk : ∀ (u : Nat → Nat) (H1 : Heap) (locs1 : List Loc), HH G A s (a ++ wsc' u ++ b) H1 locs1 → W p l e R s m args below meth c H1 locs1 (cells + rmc.cells) (slots + rmc.slots) Q (F0 m (pc + 3) ls rest)) :
    W p l e R s m args below meth c H locs cells slots Q (F0 m pc ls st0) := by
  subst hw
  have hPc := midP hH.1
  have hDc := midD hH.2.1
  have hFc := freeM hH.2.1 hH.2.2 F.2.2.2.2.2
  have hE : EVh (va_A wsc H.size) s H := (F.2.2.2.2.1.kept hH.2.2.2.1).narrow hFc
  obtain ⟨i, ci, fs, q, hr1, hr2, hr3⟩ := hrec
  subst hr3
  refine va_callv (va_runV (As := As) (rest := rest) F.1 (hM H.size) (cwV n F.1.2.2.2.2 hg hwc rfl rfl hd hR) ⟨BP.blind, va_recv F.2.2.1 hPc hr2 hr1, fun U hU hW => ⟨rfl, by rw [hU], by rw [hU]; exact hPc, va_K.moved hW.alike F.2.2.1, hDc.weaken (fun _ _ _ _ => trivial), F.2.2.2.1.moved hW, by rw [hU]; exact hE.moved hW.alike⟩⟩ rfl hn hsz hst (lv_room hrest) hdg hf) hH.2.2 (fun q _ h => hFc q h) hFc (fun u t H1 locs1 ht hvm hw hB hz1 hk1 hS => ?_)
  obtain ⟨hP1, -, hD1⟩ := hB
  rw [ht] at hP1
  obtain ⟨j1, j2⟩ := joinM hH.1 hH.2.1 hk1 hFc hP1 hD1
  exact kk u H1 locs1 ⟨j1, j2, hS⟩
theorem callVR (F : Fx G p s m args meth c cc nL Ts own A) (hM : MR l y Wc rmc (.ref b0 :: As) G wsc r) (hg : GoodIn Ts (wsV own index C y Wc)) (hwc : Wc = Cond.code y bytes maxL ret :: Wc') (hd : y.cls = C ∧ y.cls ≠ "java/lang/invoke/MethodHandle" ∧ y.cls ≠ "java/lang/invoke/VarHandle" ∧ (parseMethodDescriptor y.desc).map (fun d => d.parameters.length) = some n) (hR : rmc.frames + 1 ≤ R.frames ∧ 8 + (maxL + 11) + rmc.locals ≤ R.locals)
    (a b : va_W) (hH : HH G A s w0 H locs) (hw : w0 = a ++ wsc ++ b) (hrec : ∃ (i ci : Nat) (fs : List Value) (q : vw_C), wsc[i]? = some (b0, .inr (ci, fs)) ∧ vwCl[ci]? = some q ∧ q.1 = C) (hn : As.length = n) (hsz : ls.size = nL) (hrest : (rest.map fun v => v.category).sum ≤ 8) (hdg : decode cc pc = .ok (.invokevirtual index, 3)) (hf : cells + rmc.cells ≤ R.cells ∧ slots + rmc.slots ≤ R.slots) (hst : st0 = As.reverse ++ .ref b0 :: rest)
    (kk : ∀ (H1 : Heap) (locs1 : List Loc), HH G A s w0 H1 locs1 → W p l e R s m args below meth c H1 locs1 (cells + rmc.cells) (slots + rmc.slots) Q (F0 m (pc + 3) ls (.ref r :: rest))) :
    W p l e R s m args below meth c H locs cells slots Q (F0 m pc ls st0) := by
  subst hw
  have hPc := midP hH.1
  have hDc := midD hH.2.1
  have hFc := freeM hH.2.1 hH.2.2 F.2.2.2.2.2
  have hE : EVh (va_A wsc H.size) s H := (F.2.2.2.2.1.kept hH.2.2.2.1).narrow hFc
  obtain ⟨i, ci, fs, q, hr1, hr2, hr3⟩ := hrec
  subst hr3
  refine va_callr (va_runV (As := As) (rest := rest) F.1 (hM H.size) (cwV n F.1.2.2.2.2 hg hwc rfl rfl hd hR) ⟨BP.blind, va_recv F.2.2.1 hPc hr2 hr1, fun U hU hW => ⟨rfl, by rw [hU], by rw [hU]; exact hPc, va_K.moved hW.alike F.2.2.1, hDc.weaken (fun _ _ _ _ => trivial), F.2.2.2.1.moved hW, by rw [hU]; exact hE.moved hW.alike⟩⟩ rfl hn hsz hst (lv_room hrest) hdg hf) hH.2.2 (fun q _ h => hFc q h) hFc (fun u r9 t H1 locs1 ht hvm hw hB hz1 hk1 hS => ?_)
  obtain ⟨hr9, hP1, -, hD1⟩ := hB
  subst hr9
  rw [ht] at hP1
  obtain ⟨j1, j2⟩ := joinM hH.1 hH.2.1 hk1 hFc hP1 hD1
  exact kk H1 locs1 ⟨j1, j2, hS⟩
theorem callSI (F : Fx G p s m args meth c cc nL Ts own A) (hM : MI l y Wc rmc As G wsc wsc' ans) (hg : GoodIn Ts (va_wsS own index y Wc)) (hwc : Wc = Cond.code y bytes maxL ret :: Wc') (hd : y.cls = own ∧ y.cls ≠ "java/lang/invoke/MethodHandle" ∧ y.cls ≠ "java/lang/invoke/VarHandle" ∧ (parseMethodDescriptor y.desc).map (fun d => d.parameters.length) = some n) (hR : rmc.frames + 1 ≤ R.frames ∧ 8 + (maxL + 11) + rmc.locals ≤ R.locals)
    (a b : va_W) (hH : HH G A s w0 H locs) (hw : w0 = a ++ wsc ++ b) (hn : As.length = n) (hsz : ls.size = nL) (hrest : (rest.map fun v => v.category).sum ≤ 8) (hdg : decode cc pc = .ok (.invokestatic index, 3)) (hf : cells + rmc.cells ≤ R.cells ∧ slots + rmc.slots ≤ R.slots) (hst : st0 = As.reverse ++ rest)
    (kk : ∀ (u : Nat → Nat) (H1 : Heap) (locs1 : List Loc), HH G A s (a ++ wsc' u ++ b) H1 locs1 → W p l e R s m args below meth c H1 locs1 (cells + rmc.cells) (slots + rmc.slots) Q (F0 m (pc + 3) ls (.int ans :: rest))) :
    W p l e R s m args below meth c H locs cells slots Q (F0 m pc ls st0) := by
  subst hw
  have hPc := midP hH.1
  have hDc := midD hH.2.1
  have hFc := freeM hH.2.1 hH.2.2 F.2.2.2.2.2
  have hE : EVh (va_A wsc H.size) s H := (F.2.2.2.2.1.kept hH.2.2.2.1).narrow hFc
  have hg' : GoodIn Ts (wsS own index y Wc) := by
    have h0 : wsS own index y Wc = va_wsS own index y Wc := by unfold wsS va_wsS; rw [hd.1]
    rw [h0]; exact hg
  refine va_calli (va_runS (As := As) (rest := rest) F.1 (hM H.size) (cwS n F.1.2.2.2.2 hg' hwc rfl rfl hd hR) ⟨BP.blind, fun U hU hW => ⟨rfl, by rw [hU], by rw [hU]; exact hPc, va_K.moved hW.alike F.2.2.1, hDc.weaken (fun _ _ _ _ => trivial), F.2.2.2.1.moved hW, by rw [hU]; exact hE.moved hW.alike⟩⟩ rfl hn hsz hst (lv_room hrest) hdg hf) hH.2.2 (fun q _ h => hFc q h) hFc (fun r u t H1 locs1 ht hvm hw hB hz1 hk1 hS => ?_)
  subst hw
  obtain ⟨hP1, -, hD1⟩ := hB
  rw [ht] at hP1
  obtain ⟨j1, j2⟩ := joinM hH.1 hH.2.1 hk1 hFc hP1 hD1
  exact kk u H1 locs1 ⟨j1, j2, hS⟩
theorem callSV (F : Fx G p s m args meth c cc nL Ts own A) (hM : MV l y Wc rmc As G wsc wsc') (hg : GoodIn Ts (va_wsS own index y Wc)) (hwc : Wc = Cond.code y bytes maxL ret :: Wc') (hd : y.cls = own ∧ y.cls ≠ "java/lang/invoke/MethodHandle" ∧ y.cls ≠ "java/lang/invoke/VarHandle" ∧ (parseMethodDescriptor y.desc).map (fun d => d.parameters.length) = some n) (hR : rmc.frames + 1 ≤ R.frames ∧ 8 + (maxL + 11) + rmc.locals ≤ R.locals)
    (a b : va_W) (hH : HH G A s w0 H locs) (hw : w0 = a ++ wsc ++ b) (hn : As.length = n) (hsz : ls.size = nL) (hrest : (rest.map fun v => v.category).sum ≤ 8) (hdg : decode cc pc = .ok (.invokestatic index, 3)) (hf : cells + rmc.cells ≤ R.cells ∧ slots + rmc.slots ≤ R.slots) (hst : st0 = As.reverse ++ rest)
    (kk : ∀ (u : Nat → Nat) (H1 : Heap) (locs1 : List Loc), HH G A s (a ++ wsc' u ++ b) H1 locs1 → W p l e R s m args below meth c H1 locs1 (cells + rmc.cells) (slots + rmc.slots) Q (F0 m (pc + 3) ls rest)) :
    W p l e R s m args below meth c H locs cells slots Q (F0 m pc ls st0) := by
  subst hw
  have hPc := midP hH.1
  have hDc := midD hH.2.1
  have hFc := freeM hH.2.1 hH.2.2 F.2.2.2.2.2
  have hE : EVh (va_A wsc H.size) s H := (F.2.2.2.2.1.kept hH.2.2.2.1).narrow hFc
  have hg' : GoodIn Ts (wsS own index y Wc) := by
    have h0 : wsS own index y Wc = va_wsS own index y Wc := by unfold wsS va_wsS; rw [hd.1]
    rw [h0]; exact hg
  refine va_callv (va_runS (As := As) (rest := rest) F.1 (hM H.size) (cwS n F.1.2.2.2.2 hg' hwc rfl rfl hd hR) ⟨BP.blind, fun U hU hW => ⟨rfl, by rw [hU], by rw [hU]; exact hPc, va_K.moved hW.alike F.2.2.1, hDc.weaken (fun _ _ _ _ => trivial), F.2.2.2.1.moved hW, by rw [hU]; exact hE.moved hW.alike⟩⟩ rfl hn hsz hst (lv_room hrest) hdg hf) hH.2.2 (fun q _ h => hFc q h) hFc (fun u t H1 locs1 ht hvm hw hB hz1 hk1 hS => ?_)
  obtain ⟨hP1, -, hD1⟩ := hB
  rw [ht] at hP1
  obtain ⟨j1, j2⟩ := joinM hH.1 hH.2.1 hk1 hFc hP1 hD1
  exact kk u H1 locs1 ⟨j1, j2, hS⟩
theorem callIV (F : Fx G p s m args meth c cc nL Ts own A) (hM : MV l y Wc rmc (.ref b0 :: As) G wsc wsc') (hg : GoodIn Ts Wc) (hwc : Wc = Cond.code y bytes maxL none :: Wc') (hini : Cond.initialized y.cls ∈ Ts) (hli : Cond.methodLink own index y ∈ Ts) (hinst : Cond.instanceMethod y ∈ Ts) (hy1 : y.name = "<init>") (hd : y.cls ≠ "java/lang/invoke/MethodHandle" ∧ y.cls ≠ "java/lang/invoke/VarHandle" ∧ (parseMethodDescriptor y.desc).map (fun d => d.parameters.length) = some n) (hR : rmc.frames + 1 ≤ R.frames ∧ 8 + (maxL + 11) + rmc.locals ≤ R.locals)
    (a b : va_W) (hH : HH G A s w0 H locs) (hw : w0 = a ++ wsc ++ b) (hn : As.length = n) (hsz : ls.size = nL) (hrest : (rest.map fun v => v.category).sum ≤ 8) (hdg : decode cc pc = .ok (.invokespecial index, 3)) (hf : cells + rmc.cells ≤ R.cells ∧ slots + rmc.slots ≤ R.slots) (hst : st0 = As.reverse ++ .ref b0 :: rest)
    (kk : ∀ (u : Nat → Nat) (H1 : Heap) (locs1 : List Loc), HH G A s (a ++ wsc' u ++ b) H1 locs1 → W p l e R s m args below meth c H1 locs1 (cells + rmc.cells) (slots + rmc.slots) Q (F0 m (pc + 3) ls rest)) :
    W p l e R s m args below meth c H locs cells slots Q (F0 m pc ls st0) := by
  subst hw
  have hPc := midP hH.1
  have hDc := midD hH.2.1
  have hFc := freeM hH.2.1 hH.2.2 F.2.2.2.2.2
  have hE : EVh (va_A wsc H.size) s H := (F.2.2.2.2.1.kept hH.2.2.2.1).narrow hFc
  have hts := F.1.2.2.2.2
  refine va_callv (va_runI (As := As) (rest := rest) F.1 (hM H.size) (cwI n hts hg hwc rfl rfl (hts _ hini) (hts _ hli) (hts _ hinst) hy1 hd hR) ⟨BP.blind, fun U hU hW => ⟨rfl, by rw [hU], by rw [hU]; exact hPc, va_K.moved hW.alike F.2.2.1, hDc.weaken (fun _ _ _ _ => trivial), F.2.2.2.1.moved hW, by rw [hU]; exact hE.moved hW.alike⟩⟩ rfl hn hsz hst (lv_room hrest) hdg hf) hH.2.2 (fun q _ h => hFc q h) hFc (fun u t H1 locs1 ht hvm hw hB hz1 hk1 hS => ?_)
  obtain ⟨hP1, -, hD1⟩ := hB
  rw [ht] at hP1
  obtain ⟨j1, j2⟩ := joinM hH.1 hH.2.1 hk1 hFc hP1 hD1
  exact kk u H1 locs1 ⟨j1, j2, hS⟩
theorem callF9 {mc ms : Nat} {free AX : Nat → Prop} {px : Unit → Prop} {BX : String → Unit → State → Prop} (hr : vx_Run p l e R s m args below meth c H locs cells slots mc ms (F0 m pc ls st0) rest (fun _ _ _ => False) (vx_X px BX AX) free) (hS : va_S A s.heap H locs) (hf : ∀ q, free q → A q) (hAX : ∀ q, q < H.size → AX q → A q)
    (kx : ∀ (E : String) (ce : Cell) (q9 : Addr) (u : Unit) (t : State) (H1 : Heap) (locs1 : List Loc), t.heap = H1 → s.vm.Alike t.vm → px u → BX E u t → H.size ≤ H1.size → (∀ q : Nat, q < H.size → ¬ AX q → H1[q]? = H[q]?) → va_S A s.heap H1 locs1 → H1[q9]? = some ce → ce.vm = .none → s.vm.findClass E = some ce.cls → vx_W p l e R s m args below meth c H1 locs1 (cells + mc) (slots + ms) Q (F0 m pc ls rest) q9) : W p l e R s m args below meth c H locs cells slots Q (F0 m pc ls st0) := by
  intro T hT X
  rcases hr T hT X with ⟨v, st₀, t, T', L, h0, X', hL, e1, e2, hF, st⟩ | ⟨q, st₀, t, T', L, E, ce, h0, X', hL, e1, e2, ⟨u, hp, hb, hF⟩, hce, hcv, hcl, st⟩
  · exact hF.elim
  · obtain ⟨k1, k2, k3⟩ := vx_keep h0 e1 hS hAX hf hL hF
    obtain ⟨t2, a1, b1⟩ := kx E ce q u t T'.heap (locs ++ L) e1.symm (by rw [← e2]; exact X'.warmed.alike) hp hb k1 k2 k3 (by rw [e1]; exact hce) hcv hcl T' rfl X'
    exact ⟨t2, st.trans a1, b1⟩
theorem callVX (F : Fx G p s m args meth c cc nL Ts own A) (hM : MX l y Wc rmc (.ref b0 :: As) G wsc E) (hg : GoodIn Ts (wsV own index C y Wc)) (hwc : Wc = Cond.code y bytes maxL ret :: Wc') (hd : y.cls = C ∧ y.cls ≠ "java/lang/invoke/MethodHandle" ∧ y.cls ≠ "java/lang/invoke/VarHandle" ∧ (parseMethodDescriptor y.desc).map (fun d => d.parameters.length) = some n) (hR : rmc.frames + 1 ≤ R.frames ∧ 8 + (maxL + 11) + rmc.locals ≤ R.locals)
    (a b : va_W) (hH : HH G A s w0 H locs) (hw : w0 = a ++ wsc ++ b) (hrec : ∃ (i ci : Nat) (fs : List Value) (q : vw_C), wsc[i]? = some (b0, .inr (ci, fs)) ∧ vwCl[ci]? = some q ∧ q.1 = C) (hn : As.length = n) (hsz : ls.size = nL) (hrest : (rest.map fun v => v.category).sum ≤ 8) (hdg : decode cc pc = .ok (.invokevirtual index, 3)) (hf : cells + rmc.cells ≤ R.cells ∧ slots + rmc.slots ≤ R.slots) (hst : st0 = As.reverse ++ .ref b0 :: rest)
    (kx : ∀ (ce : Cell) (q9 : Addr) (H1 : Heap) (locs1 : List Loc), HH G A s w0 H1 locs1 → H1[q9]? = some ce → ce.vm = .none → s.vm.findClass E = some ce.cls → vx_W p l e R s m args below meth c H1 locs1 (cells + rmc.cells) (slots + rmc.slots) Q (F0 m pc ls rest) q9) :
    W p l e R s m args below meth c H locs cells slots Q (F0 m pc ls st0) := by
  subst hw
  have hPc := midP hH.1
  have hDc := midD hH.2.1
  have hFc := freeM hH.2.1 hH.2.2 F.2.2.2.2.2
  have hE : EVh (va_A wsc H.size) s H := (F.2.2.2.2.1.kept hH.2.2.2.1).narrow hFc
  obtain ⟨i, ci, fs, q, hr1, hr2, hr3⟩ := hrec
  subst hr3
  refine callF9 (vx_runV (As := As) (rest := rest) F.1 (hM H.size) (cwV n F.1.2.2.2.2 hg hwc rfl rfl hd hR) ⟨BP.blind, va_recv F.2.2.1 hPc hr2 hr1, fun U hU hW => ⟨rfl, by rw [hU], by rw [hU]; exact hPc, va_K.moved hW.alike F.2.2.1, hDc.weaken (fun _ _ _ _ => trivial), F.2.2.2.1.moved hW, by rw [hU]; exact hE.moved hW.alike⟩⟩ rfl hn hsz hst (lv_room hrest) hdg hf) hH.2.2 hFc (fun q _ h => hFc q h) (fun E' ce q9 u t H1 locs1 ht hvm hw hB hz1 hk1 hS h1 h2 h3 => ?_)
  obtain ⟨rfl, hP1, -, hD1⟩ := hB
  rw [ht] at hP1
  obtain ⟨j1, j2⟩ := joinM hH.1 hH.2.1 hk1 hFc hP1 hD1
  exact kx ce q9 H1 locs1 ⟨j1, j2, hS⟩ h1 h2 h3
theorem callSX (F : Fx G p s m args meth c cc nL Ts own A) (hM : MX l y Wc rmc As G wsc E) (hg : GoodIn Ts (va_wsS own index y Wc)) (hwc : Wc = Cond.code y bytes maxL ret :: Wc') (hd : y.cls = own ∧ y.cls ≠ "java/lang/invoke/MethodHandle" ∧ y.cls ≠ "java/lang/invoke/VarHandle" ∧ (parseMethodDescriptor y.desc).map (fun d => d.parameters.length) = some n) (hR : rmc.frames + 1 ≤ R.frames ∧ 8 + (maxL + 11) + rmc.locals ≤ R.locals)
    (a b : va_W) (hH : HH G A s w0 H locs) (hw : w0 = a ++ wsc ++ b) (hn : As.length = n) (hsz : ls.size = nL) (hrest : (rest.map fun v => v.category).sum ≤ 8) (hdg : decode cc pc = .ok (.invokestatic index, 3)) (hf : cells + rmc.cells ≤ R.cells ∧ slots + rmc.slots ≤ R.slots) (hst : st0 = As.reverse ++ rest)
    (kx : ∀ (ce : Cell) (q9 : Addr) (H1 : Heap) (locs1 : List Loc), HH G A s w0 H1 locs1 → H1[q9]? = some ce → ce.vm = .none → s.vm.findClass E = some ce.cls → vx_W p l e R s m args below meth c H1 locs1 (cells + rmc.cells) (slots + rmc.slots) Q (F0 m pc ls rest) q9) :
    W p l e R s m args below meth c H locs cells slots Q (F0 m pc ls st0) := by
  subst hw
  have hPc := midP hH.1
  have hDc := midD hH.2.1
  have hFc := freeM hH.2.1 hH.2.2 F.2.2.2.2.2
  have hE : EVh (va_A wsc H.size) s H := (F.2.2.2.2.1.kept hH.2.2.2.1).narrow hFc
  have hg' : GoodIn Ts (wsS own index y Wc) := by
    have h0 : wsS own index y Wc = va_wsS own index y Wc := by unfold wsS va_wsS; rw [hd.1]
    rw [h0]; exact hg
  refine callF9 (vx_runS (As := As) (rest := rest) F.1 (hM H.size) (cwS n F.1.2.2.2.2 hg' hwc rfl rfl hd hR) ⟨BP.blind, fun U hU hW => ⟨rfl, by rw [hU], by rw [hU]; exact hPc, va_K.moved hW.alike F.2.2.1, hDc.weaken (fun _ _ _ _ => trivial), F.2.2.2.1.moved hW, by rw [hU]; exact hE.moved hW.alike⟩⟩ rfl hn hsz hst (lv_room hrest) hdg hf) hH.2.2 hFc (fun q _ h => hFc q h) (fun E' ce q9 u t H1 locs1 ht hvm hw hB hz1 hk1 hS h1 h2 h3 => ?_)
  obtain ⟨rfl, hP1, -, hD1⟩ := hB
  rw [ht] at hP1
  obtain ⟨j1, j2⟩ := joinM hH.1 hH.2.1 hk1 hFc hP1 hD1
  exact kx ce q9 H1 locs1 ⟨j1, j2, hS⟩ h1 h2 h3
/-- what was thrown goes on -/
theorem outX (F : Fx G p s m args meth c cc nL Ts own A) (hout : ∀ x ∈ c.exceptionTable.toList, False) {ce : Cell} (hH : HH G A s ws H locs) (hcell : H[q]? = some ce) (hv : ce.vm = .none) (hcl : s.vm.findClass E = some ce.cls) (hc : cells ≤ rm.cells) (hs : slots ≤ rm.slots) :
    vx_W p l e R s m args below meth c H locs cells slots (EnX G A below s args rm ws E) (F0 m pc ls rest) q :=
  vx_out (fun x hx => (hout x hx).elim) F.2.1 hcell hv hcl (fun t ht hvm => ⟨(), trivial, ⟨rfl, by rw [ht]; exact hH.1, va_K.moved hvm F.2.2.1, hH.2.1⟩, hH.2.2.F ht⟩) hH.2.2.2.2 hc hs
end C9
section D9
variable {p : Program} {l : Launch} {e : Env} {R rm : Room} {s : State} {m : MethodId} {args : Array Value} {below : List Frame} {meth : Method} {c : Code} {H : Heap} {locs : List Loc} {cells slots : Nat} {Q : State → Prop}
variable {cc : ByteArray} {pc nL a : Nat} {ls : Array Slot} {rest st0 : List Value} {G : Gx} {Ts : List Cond} {own : String} {A : Nat → Prop} {ws w0 w1 : va_W}
theorem rget (F : Fx G p s m args meth c cc nL Ts own A) {ref C : String} {T : u_T} {N ci index : Nat} (hin : ∀ w ∈ u_ws C T N, w ∈ Ts) (hH : HH G A s w0 H locs) (q0 : Nat) {fs : List Value} (he : w0[q0]? = some (a, .inr (ci, fs))) (hc : vwCl[ci]? = some (C, T, N)) (k : Nat) (hk : k < N) (hlink : Cond.fieldLink own index ref (T k).2.1 (T k).2.2.1 ∈ Ts) (hsame : ∀ x, s.fieldFound? (T k).1 (T k).2.1 (T k).2.2.1 = some x → s.fieldFound? ref (T k).2.1 (T k).2.2.1 = some x) {v : Value} (hv : fs[k]? = some v) (hdg : decode cc pc = .ok (.getfield index, 3))
    (kk : W p l e R s m args below meth c H locs cells slots Q (F0 m (pc + 3) ls (v :: rest))) : W p l e R s m args below meth c H locs cells slots Q (F0 m pc ls (.ref a :: rest)) :=
  va_get F.1.1 F.1.2.1 F.1.2.2.2.2 hin F.1.2.2.2.1 F.2.2.1 hH.1 q0 he hc k hk (F.1.2.2.2.2 _ hlink) hsame hv hdg kk
theorem rgetN (F : Fx G p s m args meth c cc nL Ts own A) {ref C host : String} {T : u_T} {N ci index : Nat} (hin : ∀ w ∈ u_ws C T N, w ∈ Ts) (hH : HH G A s w0 H locs) (q0 : Nat) {fs : List Value} (he : w0[q0]? = some (a, .inr (ci, fs))) (hc : vwCl[ci]? = some (C, T, N)) (k : Nat) (hk : k < N) (hlink : Cond.fieldLinkNest own index ref (T k).2.1 (T k).2.2.1 host ∈ evL) (hsame : ∀ x, s.fieldFound? (T k).1 (T k).2.1 (T k).2.2.1 = some x → s.fieldFound? ref (T k).2.1 (T k).2.2.1 = some x) {v : Value} (hv : fs[k]? = some v) (hdg : decode cc pc = .ok (.getfield index, 3))
    (kk : W p l e R s m args below meth c H locs cells slots Q (F0 m (pc + 3) ls (v :: rest))) : W p l e R s m args below meth c H locs cells slots Q (F0 m pc ls (.ref a :: rest)) :=
  va_getN F.1.1 F.1.2.1 F.1.2.2.2.2 hin F.1.2.2.2.1 F.2.2.1 hH.1 q0 he hc k hk (va_Nw.use rfl (F.2.2.2.1.1 _ hlink)) hsame hv hdg kk
theorem rput (F : Fx G p s m args meth c cc nL Ts own A) {ref C : String} {T : u_T} {N ci index : Nat} (hin : ∀ w ∈ u_ws C T N, w ∈ Ts) (ty0 : Nat → FieldType) (hty : ∀ k, k < N → parseFieldDescriptor (T k).2.2.1 = some (ty0 k)) (hnm : ∀ a, a < N → ∀ b, b < N → a ≠ b → (T a).2.1 ≠ (T b).2.1) (hH : HH G A s w0 H locs) (q0 : Nat) {fs : List Value} (he : w0[q0]? = some (a, .inr (ci, fs))) (hc : vwCl[ci]? = some (C, T, N)) (k : Nat) (hk : k < N) (hlink : Cond.fieldLink own index ref (T k).2.1 (T k).2.2.1 ∈ Ts) (hsame : ∀ x, s.fieldFound? (T k).1 (T k).2.1 (T k).2.2.1 = some x → s.fieldFound? ref (T k).2.1 (T k).2.2.1 = some x) (hfin : (T k).2.2.2 = false) {v : Value} (hn : narrow (ty0 k) v = v) (hfit : fits (ty0 k) v = true) (hl : k < fs.length) (hdg : decode cc pc = .ok (.putfield index, 3))
    (kk : ∀ (H1 : Heap) (locs1 : List Loc), HH G A s (w0.set q0 (a, .inr (ci, fs.set k v))) H1 locs1 → W p l e R s m args below meth c H1 locs1 cells slots Q (F0 m (pc + 3) ls rest)) : W p l e R s m args below meth c H locs cells slots Q (F0 m pc ls (v :: .ref a :: rest)) :=
  va_put F.1.1 F.1.2.1 F.1.2.2.2.2 hin ty0 hty hnm F.1.2.2.2.1 F.2.2.1 hH.1 hH.2.1 hH.2.2 q0 he hc k hk (F.1.2.2.2.2 _ hlink) hsame hfin (hty k hk) hn hfit hl hdg (fun H1 locs1 h1 h2 h3 => kk H1 locs1 ⟨h1, h2, h3⟩)
theorem rputN (F : Fx G p s m args meth c cc nL Ts own A) {ref C host : String} {T : u_T} {N ci index : Nat} (hin : ∀ w ∈ u_ws C T N, w ∈ Ts) (ty0 : Nat → FieldType) (hty : ∀ k, k < N → parseFieldDescriptor (T k).2.2.1 = some (ty0 k)) (hnm : ∀ a, a < N → ∀ b, b < N → a ≠ b → (T a).2.1 ≠ (T b).2.1) (hH : HH G A s w0 H locs) (q0 : Nat) {fs : List Value} (he : w0[q0]? = some (a, .inr (ci, fs))) (hc : vwCl[ci]? = some (C, T, N)) (k : Nat) (hk : k < N) (hlink : Cond.fieldLinkNest own index ref (T k).2.1 (T k).2.2.1 host ∈ evL) (hsame : ∀ x, s.fieldFound? (T k).1 (T k).2.1 (T k).2.2.1 = some x → s.fieldFound? ref (T k).2.1 (T k).2.2.1 = some x) (hfin : (T k).2.2.2 = false) {v : Value} (hn : narrow (ty0 k) v = v) (hfit : fits (ty0 k) v = true) (hl : k < fs.length) (hdg : decode cc pc = .ok (.putfield index, 3))
    (kk : ∀ (H1 : Heap) (locs1 : List Loc), HH G A s (w0.set q0 (a, .inr (ci, fs.set k v))) H1 locs1 → W p l e R s m args below meth c H1 locs1 cells slots Q (F0 m (pc + 3) ls rest)) : W p l e R s m args below meth c H locs cells slots Q (F0 m pc ls (v :: .ref a :: rest)) :=
  va_putN F.1.1 F.1.2.1 F.1.2.2.2.2 hin ty0 hty hnm F.1.2.2.2.1 F.2.2.1 hH.1 hH.2.1 hH.2.2 q0 he hc k hk (va_Nw.use rfl (F.2.2.2.1.1 _ hlink)) hsame hfin (hty k hk) hn hfit hl hdg (fun H1 locs1 h1 h2 h3 => kk H1 locs1 ⟨h1, h2, h3⟩)
theorem rputF (F : Fx G p s m args meth c cc nL Ts own A) {ref C : String} {T : u_T} {N ci index : Nat} (hin : ∀ w ∈ u_ws C T N, w ∈ Ts) (ty0 : Nat → FieldType) (hty : ∀ k, k < N → parseFieldDescriptor (T k).2.2.1 = some (ty0 k)) (hnm : ∀ a, a < N → ∀ b, b < N → a ≠ b → (T a).2.1 ≠ (T b).2.1) (hH : HH G A s w0 H locs) (q0 : Nat) {fs : List Value} (he : w0[q0]? = some (a, .inr (ci, fs))) (hc : vwCl[ci]? = some (C, T, N)) (k : Nat) (hk : k < N) (hlink : Cond.fieldLink own index ref (T k).2.1 (T k).2.2.1 ∈ Ts) (hsame : ∀ x, s.fieldFound? (T k).1 (T k).2.1 (T k).2.2.1 = some x → s.fieldFound? ref (T k).2.1 (T k).2.2.1 = some x) (hfin : (T k).2.2.2 = true) (hnm9 : meth.name = "<init>") (hdecl : (T k).1 = own) {v : Value} (hn : narrow (ty0 k) v = v) (hfit : fits (ty0 k) v = true) (hl : k < fs.length) (hdg : decode cc pc = .ok (.putfield index, 3))
    (kk : ∀ (H1 : Heap) (locs1 : List Loc), HH G A s (w0.set q0 (a, .inr (ci, fs.set k v))) H1 locs1 → W p l e R s m args below meth c H1 locs1 cells slots Q (F0 m (pc + 3) ls rest)) : W p l e R s m args below meth c H locs cells slots Q (F0 m pc ls (v :: .ref a :: rest)) :=
  va_putF F.1.1 F.1.2.1 F.1.2.2.2.2 hin ty0 hty hnm F.1.2.2.2.1 F.2.2.1 hH.1 hH.2.1 hH.2.2 q0 he hc k hk (F.1.2.2.2.2 _ hlink) hsame hfin hnm9 hdecl (hty k hk) hn hfit hl hdg (fun H1 locs1 h1 h2 h3 => kk H1 locs1 ⟨h1, h2, h3⟩)
theorem riald (F : Fx G p s m args meth c cc nL Ts own A) (hH : HH G A s w0 H locs) (q0 : Nat) {n : Nat} {f : Nat → Int32} (he : w0[q0]? = some (a, .inl (G.2 0, n, .inl f))) (k : Nat) {i : Int32} (hi : i = nI k) (hk : k < n) (hn : n < 2 ^ 31) (hdg : decode cc pc = .ok (.iaload, 1))
    (kk : W p l e R s m args below meth c H locs cells slots Q (F0 m (pc + 1) ls (.int (f k) :: rest))) : W p l e R s m args below meth c H locs cells slots Q (F0 m pc ls (.int i :: .ref a :: rest)) := by
  subst hi
  refine va_iald F.1.1 F.1.2.1 F.2.2.1 hH.1 q0 0 he rfl (vp_in_nI hk hn) hdg ?_
  rw [nI_clamp (by omega)]; exact kk
theorem rzald (F : Fx G p s m args meth c cc nL Ts own A) (hH : HH G A s w0 H locs) (q0 : Nat) {n : Nat} {f : Nat → Int32} (he : w0[q0]? = some (a, .inl (G.2 1, n, .inl f))) (k : Nat) {i : Int32} (hi : i = nI k) (hk : k < n) (hn : n < 2 ^ 31) (hdg : decode cc pc = .ok (.baload, 1))
    (kk : W p l e R s m args below meth c H locs cells slots Q (F0 m (pc + 1) ls (.int (f k) :: rest))) : W p l e R s m args below meth c H locs cells slots Q (F0 m pc ls (.int i :: .ref a :: rest)) := by
  subst hi
  refine va_zald F.1.1 F.1.2.1 F.2.2.1 hH.1 q0 1 he rfl (vp_in_nI hk hn) hdg ?_
  rw [nI_clamp (by omega)]; exact kk
theorem riast (F : Fx G p s m args meth c cc nL Ts own A) (hH : HH G A s w0 H locs) (q0 : Nat) {n : Nat} {f : Nat → Int32} (he : w0[q0]? = some (a, .inl (G.2 0, n, .inl f))) (k : Nat) {i x : Int32} (hi : i = nI k) (hk : k < n) (hn : n < 2 ^ 31) (hdg : decode cc pc = .ok (.iastore, 1))
    (kk : ∀ (H1 : Heap) (locs1 : List Loc), HH G A s (w0.set q0 (a, .inl (G.2 0, n, .inl (upd f k x)))) H1 locs1 → W p l e R s m args below meth c H1 locs1 cells slots Q (F0 m (pc + 1) ls rest)) : W p l e R s m args below meth c H locs cells slots Q (F0 m pc ls (.int x :: .int i :: .ref a :: rest)) := by
  subst hi
  refine va_iast F.1.1 F.1.2.1 F.2.2.1 hH.1 hH.2.1 hH.2.2 q0 0 he rfl (vp_in_nI hk hn) hdg (fun H1 locs1 h1 h2 h3 => kk H1 locs1 ?_)
  rw [nI_clamp (by omega)] at h1 h2
  exact ⟨h1, h2, h3⟩
theorem rzast (F : Fx G p s m args meth c cc nL Ts own A) (hH : HH G A s w0 H locs) (q0 : Nat) {n : Nat} {f : Nat → Int32} (he : w0[q0]? = some (a, .inl (G.2 1, n, .inl f))) (k : Nat) {i x : Int32} (hi : i = nI k) (hk : k < n) (hn : n < 2 ^ 31) (hx : vp_nar .boolean x = x) (hdg : decode cc pc = .ok (.bastore, 1))
    (kk : ∀ (H1 : Heap) (locs1 : List Loc), HH G A s (w0.set q0 (a, .inl (G.2 1, n, .inl (upd f k x)))) H1 locs1 → W p l e R s m args below meth c H1 locs1 cells slots Q (F0 m (pc + 1) ls rest)) : W p l e R s m args below meth c H locs cells slots Q (F0 m pc ls (.int x :: .int i :: .ref a :: rest)) := by
  subst hi
  refine va_zast F.1.1 F.1.2.1 F.2.2.1 hH.1 hH.2.1 hH.2.2 q0 1 he rfl (vp_in_nI hk hn) hdg (fun H1 locs1 h1 h2 h3 => kk H1 locs1 ?_)
  rw [nI_clamp (by omega), hx] at h1 h2
  exact ⟨h1, h2, h3⟩
theorem raald (F : Fx G p s m args meth c cc nL Ts own A) (hH : HH G A s w0 H locs) (q0 t0 : Nat) {cA : ClassId} {C : String} {n : Nat} {f : Nat → Option Nat} (he : w0[q0]? = some (a, .inl (cA, n, .inr (.inr (.inr (.inr f)))))) (ht : (tyL G)[t0]? = some (cA, .object C)) (k : Nat) {i : Int32} (hi : i = nI k) (hk : k < n) (hn : n < 2 ^ 31) {v : Value} (hv : va_rf (f k) = v) (hdg : decode cc pc = .ok (.aaload, 1))
    (kk : W p l e R s m args below meth c H locs cells slots Q (F0 m (pc + 1) ls (v :: rest))) : W p l e R s m args below meth c H locs cells slots Q (F0 m pc ls (.int i :: .ref a :: rest)) := by
  subst hi
  subst hv
  refine va_aldq F.1.1 F.1.2.1 F.2.2.1 hH.1 q0 t0 he ht (vp_in_nI hk hn) hdg ?_
  rw [nI_clamp (by omega)]; exact kk
theorem raast (F : Fx G p s m args meth c cc nL Ts own A) (hH : HH G A s w0 H locs) (q0 t0 qk ci : Nat) {cA : ClassId} {r : vw_C} {n v : Nat} {vs : List Value} {f : Nat → Option Nat} (he : w0[q0]? = some (a, .inl (cA, n, .inr (.inr (.inr (.inr f)))))) (ht : (tyL G)[t0]? = some (cA, .object r.1)) (hv : w0[qk]? = some (v, .inr (ci, vs))) (hc : vwCl[ci]? = some r) (k : Nat) {i : Int32} (hi : i = nI k) (hk : k < n) (hn : n < 2 ^ 31) (hdg : decode cc pc = .ok (.aastore, 1))
    (kk : ∀ (H1 : Heap) (locs1 : List Loc), HH G A s (w0.set q0 (a, .inl (cA, n, .inr (.inr (.inr (.inr (va_up f k (some v)))))))) H1 locs1 → W p l e R s m args below meth c H1 locs1 cells slots Q (F0 m (pc + 1) ls rest)) : W p l e R s m args below meth c H locs cells slots Q (F0 m pc ls (.ref v :: .int i :: .ref a :: rest)) := by
  subst hi
  refine va_astq F.1.1 F.1.2.1 F.2.2.1 hH.1 hH.2.1 hH.2.2 q0 t0 qk ci he ht hv hc (vp_in_nI hk hn) hdg (fun H1 locs1 h1 h2 h3 => kk H1 locs1 ?_)
  rw [nI_clamp (by omega)] at h1 h2
  exact ⟨h1, h2, h3⟩
theorem ralen (F : Fx G p s m args meth c cc nL Ts own A) (hH : HH G A s w0 H locs) (q0 t0 : Nat) {cA : ClassId} {x : vp_A} (he : w0[q0]? = some (a, .inl (cA, x))) {ty : FieldType} (ht : (tyL G)[t0]? = some (cA, ty)) {v : Int32} (hv : Int32.ofNat x.1 = v) (hdg : decode cc pc = .ok (.arraylength, 1))
    (kk : W p l e R s m args below meth c H locs cells slots Q (F0 m (pc + 1) ls (.int v :: rest))) : W p l e R s m args below meth c H locs cells slots Q (F0 m pc ls (.ref a :: rest)) :=
  va_alen F.1.1 F.1.2.1 F.2.2.1 hH.1 q0 t0 he ht hv hdg kk
theorem tyL_uni {G : Gx} {U : State} {t0 : Nat} {ty : FieldType} {cA cB : ClassId} (hK : va_K G.1 vwCl (tyL G) U) (ht : (tyL G)[t0]? = some (cB, ty)) (h : va_RA U cA ty) : cA = cB := by
  have h1 := (hK.2 t0 _ ht).2
  cases ty with
  | object C =>
    obtain ⟨_, _, -, -, -, h2⟩ := h
    obtain ⟨_, _, -, -, -, h3⟩ := h1
    exact Option.some.inj (h2.symm.trans h3)
  | _ => exact Option.some.inj (Eq.trans (Eq.symm h) h1)
theorem rnewa (F : Fx G p s m args meth c cc nL Ts own A) {atype : ArrayType} (harr : Cond.arrayClass (newarray.typeOf atype) ∈ Ts) (t0 : Nat) {cB : ClassId} {ty : FieldType} (hty : newarray.typeOf atype = ty) (ht : (tyL G)[t0]? = some (cB, ty)) (hH : HH G A s w0 H locs) {n : Int32} {N' : Nat} {a0 : vp_A} (ha : ∀ cA : ClassId, vp_cell cA a0 = arrV cA N' (fun _ => defaultValue ty)) (hn : ¬ n < 0) (hN : n.toNatClampNeg = N') (hbytes : N' * componentBytes ty ≤ 536870912) (hcells : cells + 1 ≤ R.cells) (hslots : slots + N' ≤ R.slots) (hdg : decode cc pc = .ok (.newarray atype, 2))
    (kk : ∀ (q : Nat) (H1 : Heap), HH G A s (w0 ++ [(q, .inl (cB, a0))]) H1 locs → W p l e R s m args below meth c H1 locs (cells + 1) (slots + N') Q (F0 m (pc + 2) ls (.ref q :: rest))) : W p l e R s m args below meth c H locs cells slots Q (F0 m pc ls (.int n :: rest)) := by
  refine va_newa F.1.1 F.1.2.1 (F.1.2.2.2.2 _ harr) hty F.2.2.1 hH.1 hH.2.1 hH.2.2 F.2.2.2.2.2 ha hn hN hbytes hcells hslots hdg (fun q cA H1 hK hP hD hS => ?_)
  have hx : (tyL G ++ [(cA, ty)])[(tyL G).length]? = some (cA, ty) := by rw [List.getElem?_append_right (Nat.le_refl _), Nat.sub_self]; rfl
  have he := tyL_uni F.2.2.1 ht (hK.2 _ _ hx).2
  subst he
  exact kk q H1 ⟨hP, hD, hS⟩
theorem rnewq (F : Fx G p s m args meth c cc nL Ts own A) {C : String} {index : Nat} (hcl : Cond.classLink own index C ∈ Ts) (hover : va_AO C s) (t0 : Nat) {cB : ClassId} (ht : (tyL G)[t0]? = some (cB, .object C)) (hH : HH G A s w0 H locs) {n : Int32} {N' : Nat} (hn : ¬ n < 0) (hN : n.toNatClampNeg = N') (hbytes : N' * 4 ≤ 536870912) (hcells : cells + 1 ≤ R.cells) (hslots : slots + N' ≤ R.slots) (hdg : decode cc pc = .ok (.anewarray index, 3))
    (kk : ∀ (q : Nat) (H1 : Heap), HH G A s (w0 ++ [(q, .inl (cB, N', .inr (.inr (.inr (.inr (fun _ => none))))))]) H1 locs → W p l e R s m args below meth c H1 locs (cells + 1) (slots + N') Q (F0 m (pc + 3) ls (.ref q :: rest))) : W p l e R s m args below meth c H locs cells slots Q (F0 m pc ls (.int n :: rest)) := by
  refine va_newq F.1.1 F.1.2.1 F.1.2.2.2.1 (F.1.2.2.2.2 _ hcl) hover F.2.2.1 hH.1 hH.2.1 hH.2.2 F.2.2.2.2.2 hn hN hbytes hcells hslots hdg (fun q cA H1 hK hP hD hS => ?_)
  have hx : (tyL G ++ [(cA, .object C)])[(tyL G).length]? = some (cA, .object C) := by rw [List.getElem?_append_right (Nat.le_refl _), Nat.sub_self]; rfl
  have he := tyL_uni F.2.2.1 ht (hK.2 _ _ hx).2
  subst he
  exact kk q H1 ⟨hP, hD, hS⟩
theorem rnew (F : Fx G p s m args meth c cc nL Ts own A) {C : String} {T : u_T} {N ci index : Nat} (hin : ∀ w ∈ u_ws C T N, w ∈ Ts) (ty : Nat → FieldType) (hty : ∀ k, k < N → parseFieldDescriptor (T k).2.2.1 = some (ty k)) (hcl : Cond.classLink own index C ∈ Ts) (hinst : Cond.instantiable C N ∈ Ts) (hini : Cond.initialized C ∈ Ts) (hH : HH G A s w0 H locs) (hc : vwCl[ci]? = some (C, T, N)) {fs : List Value} (hfs : ∀ j, j < N → defaultValue (ty j) = vp_V fs j) (hcells : cells + 1 ≤ R.cells) (hslots : slots + N ≤ R.slots) (hdg : decode cc pc = .ok (.new index, 3))
    (kk : ∀ (q : Nat) (H1 : Heap), HH G A s (w0 ++ [(q, .inr (ci, fs))]) H1 locs → W p l e R s m args below meth c H1 locs (cells + 1) (slots + N) Q (F0 m (pc + 3) ls (.ref q :: rest))) : W p l e R s m args below meth c H locs cells slots Q (F0 m pc ls rest) :=
  va_new F.1.1 F.1.2.1 F.1.2.2.2.2 hin ty hty F.1.2.2.2.1 (F.1.2.2.2.2 _ hcl) (F.1.2.2.2.2 _ hinst) (F.1.2.2.2.2 _ hini) F.2.2.1 hH.1 hH.2.1 hH.2.2 F.2.2.2.2.2 hc hfs hcells hslots hdg (fun q H1 h1 h2 h3 => kk q H1 ⟨h1, h2, h3⟩)
end D9
section C0
variable {p : Program} {l : Launch} {e : Env} {R rm : Room} {s : State} {m : MethodId} {args : Array Value} {below : List Frame} {meth : Method} {c : Code} {H : Heap} {locs : List Loc} {cells slots : Nat} {Q : State → Prop}
variable {cc : ByteArray} {pc nL : Nat} {ls : Array Slot} {rest st0 : List Value} {G : Gx} {Ts : List Cond} {own : String} {A : Nat → Prop} {w0 : va_W} {E : String}
variable {y : MethodName} {bytes : ByteArray} {maxL n index : Nat} {ret : Option FieldType} {Wc Wc' : List Cond} {rmc : Room} {b0 : Nat} {As : List Value} {wsc' : (Nat → Nat) → va_W} {ans : Int32} {C : String} {r : Nat}
theorem callVI0 (F : Fx G p s m args meth c cc nL Ts own A) (hM : MI l y Wc rmc (.ref b0 :: As) G w0 wsc' ans) (hg : GoodIn Ts (wsV own index C y Wc)) (hwc : Wc = Cond.code y bytes maxL ret :: Wc') (hd : y.cls = C ∧ y.cls ≠ "java/lang/invoke/MethodHandle" ∧ y.cls ≠ "java/lang/invoke/VarHandle" ∧ (parseMethodDescriptor y.desc).map (fun d => d.parameters.length) = some n) (hR : rmc.frames + 1 ≤ R.frames ∧ 8 + (maxL + 11) + rmc.locals ≤ R.locals)
    (hH : HH G A s w0 H locs) (hrec : ∃ (i ci : Nat) (fs : List Value) (q : vw_C), w0[i]? = some (b0, .inr (ci, fs)) ∧ vwCl[ci]? = some q ∧ q.1 = C) (hn : As.length = n) (hsz : ls.size = nL) (hrest : (rest.map fun v => v.category).sum ≤ 8) (hdg : decode cc pc = .ok (.invokevirtual index, 3)) (hf : cells + rmc.cells ≤ R.cells ∧ slots + rmc.slots ≤ R.slots) (hst : st0 = As.reverse ++ .ref b0 :: rest)
    (kk : ∀ (u : Nat → Nat) (H1 : Heap) (locs1 : List Loc), HH G A s (wsc' u) H1 locs1 → W p l e R s m args below meth c H1 locs1 (cells + rmc.cells) (slots + rmc.slots) Q (F0 m (pc + 3) ls (.int ans :: rest))) :
    W p l e R s m args below meth c H locs cells slots Q (F0 m pc ls st0) :=
  callVI F hM hg hwc hd hR [] [] hH (by simp) hrec hn hsz hrest hdg hf hst (fun u H1 locs1 h => kk u H1 locs1 (by rw [List.nil_append, List.append_nil] at h; exact h))
theorem callVV0 (F : Fx G p s m args meth c cc nL Ts own A) (hM : MV l y Wc rmc (.ref b0 :: As) G w0 wsc') (hg : GoodIn Ts (wsV own index C y Wc)) (hwc : Wc = Cond.code y bytes maxL ret :: Wc') (hd : y.cls = C ∧ y.cls ≠ "java/lang/invoke/MethodHandle" ∧ y.cls ≠ "java/lang/invoke/VarHandle" ∧ (parseMethodDescriptor y.desc).map (fun d => d.parameters.length) = some n) (hR : rmc.frames + 1 ≤ R.frames ∧ 8 + (maxL + 11) + rmc.locals ≤ R.locals)
    (hH : HH G A s w0 H locs) (hrec : ∃ (i ci : Nat) (fs : List Value) (q : vw_C), w0[i]? = some (b0, .inr (ci, fs)) ∧ vwCl[ci]? = some q ∧ q.1 = C) (hn : As.length = n) (hsz : ls.size = nL) (hrest : (rest.map fun v => v.category).sum ≤ 8) (hdg : decode cc pc = .ok (.invokevirtual index, 3)) (hf : cells + rmc.cells ≤ R.cells ∧ slots + rmc.slots ≤ R.slots) (hst : st0 = As.reverse ++ .ref b0 :: rest)
    (kk : ∀ (u : Nat → Nat) (H1 : Heap) (locs1 : List Loc), HH G A s (wsc' u) H1 locs1 → W p l e R s m args below meth c H1 locs1 (cells + rmc.cells) (slots + rmc.slots) Q (F0 m (pc + 3) ls rest)) :
    W p l e R s m args below meth c H locs cells slots Q (F0 m pc ls st0) :=
  callVV F hM hg hwc hd hR [] [] hH (by simp) hrec hn hsz hrest hdg hf hst (fun u H1 locs1 h => kk u H1 locs1 (by rw [List.nil_append, List.append_nil] at h; exact h))
theorem callVR0 (F : Fx G p s m args meth c cc nL Ts own A) (hM : MR l y Wc rmc (.ref b0 :: As) G w0 r) (hg : GoodIn Ts (wsV own index C y Wc)) (hwc : Wc = Cond.code y bytes maxL ret :: Wc') (hd : y.cls = C ∧ y.cls ≠ "java/lang/invoke/MethodHandle" ∧ y.cls ≠ "java/lang/invoke/VarHandle" ∧ (parseMethodDescriptor y.desc).map (fun d => d.parameters.length) = some n) (hR : rmc.frames + 1 ≤ R.frames ∧ 8 + (maxL + 11) + rmc.locals ≤ R.locals)
    (hH : HH G A s w0 H locs) (hrec : ∃ (i ci : Nat) (fs : List Value) (q : vw_C), w0[i]? = some (b0, .inr (ci, fs)) ∧ vwCl[ci]? = some q ∧ q.1 = C) (hn : As.length = n) (hsz : ls.size = nL) (hrest : (rest.map fun v => v.category).sum ≤ 8) (hdg : decode cc pc = .ok (.invokevirtual index, 3)) (hf : cells + rmc.cells ≤ R.cells ∧ slots + rmc.slots ≤ R.slots) (hst : st0 = As.reverse ++ .ref b0 :: rest)
    (kk : ∀ (H1 : Heap) (locs1 : List Loc), HH G A s w0 H1 locs1 → W p l e R s m args below meth c H1 locs1 (cells + rmc.cells) (slots + rmc.slots) Q (F0 m (pc + 3) ls (.ref r :: rest))) :
    W p l e R s m args below meth c H locs cells slots Q (F0 m pc ls st0) :=
  callVR F hM hg hwc hd hR [] [] hH (by simp) hrec hn hsz hrest hdg hf hst kk
theorem callVX0 (F : Fx G p s m args meth c cc nL Ts own A) (hM : MX l y Wc rmc (.ref b0 :: As) G w0 E) (hg : GoodIn Ts (wsV own index C y Wc)) (hwc : Wc = Cond.code y bytes maxL ret :: Wc') (hd : y.cls = C ∧ y.cls ≠ "java/lang/invoke/MethodHandle" ∧ y.cls ≠ "java/lang/invoke/VarHandle" ∧ (parseMethodDescriptor y.desc).map (fun d => d.parameters.length) = some n) (hR : rmc.frames + 1 ≤ R.frames ∧ 8 + (maxL + 11) + rmc.locals ≤ R.locals)
    (hH : HH G A s w0 H locs) (hrec : ∃ (i ci : Nat) (fs : List Value) (q : vw_C), w0[i]? = some (b0, .inr (ci, fs)) ∧ vwCl[ci]? = some q ∧ q.1 = C) (hn : As.length = n) (hsz : ls.size = nL) (hrest : (rest.map fun v => v.category).sum ≤ 8) (hdg : decode cc pc = .ok (.invokevirtual index, 3)) (hf : cells + rmc.cells ≤ R.cells ∧ slots + rmc.slots ≤ R.slots) (hst : st0 = As.reverse ++ .ref b0 :: rest)
    (hout : ∀ x ∈ c.exceptionTable.toList, False) (hc : cells + rmc.cells ≤ rm.cells) (hs : slots + rmc.slots ≤ rm.slots) :
    W p l e R s m args below meth c H locs cells slots (EnX G A below s args rm w0 E) (F0 m pc ls st0) :=
  callVX F hM hg hwc hd hR [] [] hH (by simp) hrec hn hsz hrest hdg hf hst (fun ce q9 H1 locs1 h h1 h2 h3 => outX F hout h h1 h2 h3 hc hs)
theorem callSI0 (F : Fx G p s m args meth c cc nL Ts own A) (hM : MI l y Wc rmc As G w0 wsc' ans) (hg : GoodIn Ts (va_wsS own index y Wc)) (hwc : Wc = Cond.code y bytes maxL ret :: Wc') (hd : y.cls = own ∧ y.cls ≠ "java/lang/invoke/MethodHandle" ∧ y.cls ≠ "java/lang/invoke/VarHandle" ∧ (parseMethodDescriptor y.desc).map (fun d => d.parameters.length) = some n) (hR : rmc.frames + 1 ≤ R.frames ∧ 8 + (maxL + 11) + rmc.locals ≤ R.locals)
    (hH : HH G A s w0 H locs) (hn : As.length = n) (hsz : ls.size = nL) (hrest : (rest.map fun v => v.category).sum ≤ 8) (hdg : decode cc pc = .ok (.invokestatic index, 3)) (hf : cells + rmc.cells ≤ R.cells ∧ slots + rmc.slots ≤ R.slots) (hst : st0 = As.reverse ++ rest)
    (kk : ∀ (u : Nat → Nat) (H1 : Heap) (locs1 : List Loc), HH G A s (wsc' u) H1 locs1 → W p l e R s m args below meth c H1 locs1 (cells + rmc.cells) (slots + rmc.slots) Q (F0 m (pc + 3) ls (.int ans :: rest))) :
    W p l e R s m args below meth c H locs cells slots Q (F0 m pc ls st0) :=
  callSI F hM hg hwc hd hR [] [] hH (by simp) hn hsz hrest hdg hf hst (fun u H1 locs1 h => kk u H1 locs1 (by rw [List.nil_append, List.append_nil] at h; exact h))
theorem callSV0 (F : Fx G p s m args meth c cc nL Ts own A) (hM : MV l y Wc rmc As G w0 wsc') (hg : GoodIn Ts (va_wsS own index y Wc)) (hwc : Wc = Cond.code y bytes maxL ret :: Wc') (hd : y.cls = own ∧ y.cls ≠ "java/lang/invoke/MethodHandle" ∧ y.cls ≠ "java/lang/invoke/VarHandle" ∧ (parseMethodDescriptor y.desc).map (fun d => d.parameters.length) = some n) (hR : rmc.frames + 1 ≤ R.frames ∧ 8 + (maxL + 11) + rmc.locals ≤ R.locals)
    (hH : HH G A s w0 H locs) (hn : As.length = n) (hsz : ls.size = nL) (hrest : (rest.map fun v => v.category).sum ≤ 8) (hdg : decode cc pc = .ok (.invokestatic index, 3)) (hf : cells + rmc.cells ≤ R.cells ∧ slots + rmc.slots ≤ R.slots) (hst : st0 = As.reverse ++ rest)
    (kk : ∀ (u : Nat → Nat) (H1 : Heap) (locs1 : List Loc), HH G A s (wsc' u) H1 locs1 → W p l e R s m args below meth c H1 locs1 (cells + rmc.cells) (slots + rmc.slots) Q (F0 m (pc + 3) ls rest)) :
    W p l e R s m args below meth c H locs cells slots Q (F0 m pc ls st0) :=
  callSV F hM hg hwc hd hR [] [] hH (by simp) hn hsz hrest hdg hf hst (fun u H1 locs1 h => kk u H1 locs1 (by rw [List.nil_append, List.append_nil] at h; exact h))
theorem callSX0 (F : Fx G p s m args meth c cc nL Ts own A) (hM : MX l y Wc rmc As G w0 E) (hg : GoodIn Ts (va_wsS own index y Wc)) (hwc : Wc = Cond.code y bytes maxL ret :: Wc') (hd : y.cls = own ∧ y.cls ≠ "java/lang/invoke/MethodHandle" ∧ y.cls ≠ "java/lang/invoke/VarHandle" ∧ (parseMethodDescriptor y.desc).map (fun d => d.parameters.length) = some n) (hR : rmc.frames + 1 ≤ R.frames ∧ 8 + (maxL + 11) + rmc.locals ≤ R.locals)
    (hH : HH G A s w0 H locs) (hn : As.length = n) (hsz : ls.size = nL) (hrest : (rest.map fun v => v.category).sum ≤ 8) (hdg : decode cc pc = .ok (.invokestatic index, 3)) (hf : cells + rmc.cells ≤ R.cells ∧ slots + rmc.slots ≤ R.slots) (hst : st0 = As.reverse ++ rest)
    (hout : ∀ x ∈ c.exceptionTable.toList, False) (hc : cells + rmc.cells ≤ rm.cells) (hs : slots + rmc.slots ≤ rm.slots) :
    W p l e R s m args below meth c H locs cells slots (EnX G A below s args rm w0 E) (F0 m pc ls st0) :=
  callSX F hM hg hwc hd hR [] [] hH (by simp) hn hsz hrest hdg hf hst (fun ce q9 H1 locs1 h h1 h2 h3 => outX F hout h h1 h2 h3 hc hs)
end C0
end
section
/-! the cells of the system and of the reference -/
/-- a worker: d addresses (0: the object, 2..7: the rows), f int fields, a rows -/
def wW (G : Gx) (d : Nat → Nat) (f : Nat → Int32) (a : Nat → Nat → Int32) : va_W := [(d 0, .inr (1, [.int (f 0), .int (f 1), .ref (d 2), .ref (d 3), .ref (d 4), .ref (d 5), .ref (d 6), .ref (d 7), .int (f 8), .int (f 9), .int (f 10), .int (f 11)])), (d 2, .inl (G.2 0, 201, .inl (a 2))), (d 3, .inl (G.2 0, 201, .inl (a 3))), (d 4, .inl (G.2 0, 201, .inl (a 4))), (d 5, .inl (G.2 0, 201, .inl (a 5))), (d 6, .inl (G.2 0, 201, .inl (a 6))), (d 7, .inl (G.2 1, 201, .inl (a 7)))]
def cC (d : Nat) (f : Nat → Int32) : va_W := [(d, .inr (0, [.int (f 0), .int (f 1), .int (f 2), .int (f 3)]))]
def wkL (G : Gx) (wd : Nat → Nat → Nat) (wf : Nat → Nat → Int32) (wa : Nat → Nat → Nat → Int32) : Nat → va_W
  | 0 => []
  | n + 1 => wkL G wd wf wa n ++ wW G (wd n) (wf n) (wa n)
def crL (cd : Nat → Nat) (cf : Nat → Nat → Int32) : Nat → va_W
  | 0 => []
  | m + 1 => crL cd cf m ++ cC (cd m) (cf m)
def rfT (d : Nat → Nat) (n : Nat) : Nat → Option Nat := fun i => if i < n then some (d i) else none
/-- the system: q addresses of the object and its three rows, n workers, m courses, t the week, fl the floor, fd the firm's debt, k the checked weeks -/
def sW (G : Gx) (q : Nat → Nat) (n m t : Nat) (fl fd : Int32) (k : Nat → Int32) (wd : Nat → Nat → Nat) (wf : Nat → Nat → Int32) (wa : Nat → Nat → Nat → Int32) (cd : Nat → Nat) (cf : Nat → Nat → Int32) : va_W :=
  (q 0, .inr (2, [.ref (q 1), .ref (q 2), .ref (q 3), .int (nI n), .int (nI m), .int (nI t), .int fl, .int fd])) :: (q 1, .inl (G.2 2, 8, .inr (.inr (.inr (.inr (rfT (fun i => wd i 0) n)))))) :: (q 2, .inl (G.2 3, 10, .inr (.inr (.inr (.inr (rfT cd m)))))) :: (q 3, .inl (G.2 1, 201, .inl k)) :: (wkL G wd wf wa n ++ crL cd cf m)
theorem wW_len {G : Gx} {d : Nat → Nat} {f : Nat → Int32} {a : Nat → Nat → Int32} : (wW G d f a).length = 7 := rfl
theorem wkL_congr {G : Gx} {wd wd' : Nat → Nat → Nat} {wf wf' : Nat → Nat → Int32} {wa wa' : Nat → Nat → Nat → Int32} : ∀ {n : Nat}, (∀ i, i < n → wd i = wd' i ∧ wf i = wf' i ∧ wa i = wa' i) → wkL G wd wf wa n = wkL G wd' wf' wa' n
  | 0, _ => rfl
  | n + 1, h => by
    have h0 := h n (Nat.lt_succ_self n)
    show wkL G wd wf wa n ++ wW G (wd n) (wf n) (wa n) = wkL G wd' wf' wa' n ++ wW G (wd' n) (wf' n) (wa' n)
    rw [wkL_congr (fun i hi => h i (Nat.lt_succ_of_lt hi)), h0.1, h0.2.1, h0.2.2]
theorem crL_congr {cd cd' : Nat → Nat} {cf cf' : Nat → Nat → Int32} : ∀ {n : Nat}, (∀ i, i < n → cd i = cd' i ∧ cf i = cf' i) → crL cd cf n = crL cd' cf' n
  | 0, _ => rfl
  | n + 1, h => by
    have h0 := h n (Nat.lt_succ_self n)
    show crL cd cf n ++ cC (cd n) (cf n) = crL cd' cf' n ++ cC (cd' n) (cf' n)
    rw [crL_congr (fun i hi => h i (Nat.lt_succ_of_lt hi)), h0.1, h0.2]
theorem wkL_mid {G : Gx} {wd : Nat → Nat → Nat} {wf : Nat → Nat → Int32} {wa : Nat → Nat → Nat → Int32} {i : Nat} : ∀ {n : Nat}, i < n → ∃ a b : va_W, a.length = 7 * i ∧ wkL G wd wf wa n = a ++ wW G (wd i) (wf i) (wa i) ++ b ∧ ∀ f' a', wkL G wd (va_up wf i f') (va_up wa i a') n = a ++ wW G (wd i) f' a' ++ b
  | 0, h => absurd h (Nat.not_lt_zero _)
  | n + 1, h => by
    have hlen : ∀ k : Nat, (wkL G wd wf wa k).length = 7 * k := by
      intro k
      induction k with
      | zero => rfl
      | succ k ih =>
        show (wkL G wd wf wa k ++ wW G (wd k) (wf k) (wa k)).length = _
        rw [List.length_append, ih, wW_len]; omega
    by_cases hi : i = n
    · subst hi
      refine ⟨wkL G wd wf wa i, [], hlen i, by simp [wkL], fun f' a' => ?_⟩
      show wkL G wd (va_up wf i f') (va_up wa i a') i ++ wW G (wd i) (va_up wf i f' i) (va_up wa i a' i) = _
      rw [va_up_self, va_up_self, List.append_nil, wkL_congr (wd' := wd) (wf' := wf) (wa' := wa) (fun j hj => ⟨rfl, va_up_ne _ _ (Nat.ne_of_lt hj), va_up_ne _ _ (Nat.ne_of_lt hj)⟩)]
    · obtain ⟨a, b, h0, h1, h2⟩ := wkL_mid (G := G) (wd := wd) (wf := wf) (wa := wa) (n := n) (i := i) (by omega)
      refine ⟨a, b ++ wW G (wd n) (wf n) (wa n), h0, ?_, fun f' a' => ?_⟩
      · show wkL G wd wf wa n ++ wW G (wd n) (wf n) (wa n) = _
        rw [h1, List.append_assoc]
      · show wkL G wd (va_up wf i f') (va_up wa i a') n ++ wW G (wd n) (va_up wf i f' n) (va_up wa i a' n) = _
        rw [h2, List.append_assoc, va_up_ne _ _ (Ne.symm hi), va_up_ne _ _ (Ne.symm hi)]
theorem wkL_len {G : Gx} {wd : Nat → Nat → Nat} {wf : Nat → Nat → Int32} {wa : Nat → Nat → Nat → Int32} (k : Nat) : (wkL G wd wf wa k).length = 7 * k := by
  induction k with
  | zero => rfl
  | succ k ih =>
    show (wkL G wd wf wa k ++ wW G (wd k) (wf k) (wa k)).length = _
    rw [List.length_append, ih, wW_len]; omega
theorem crL_mid {cd : Nat → Nat} {cf : Nat → Nat → Int32} {i : Nat} : ∀ {n : Nat}, i < n → ∃ a b : va_W, a.length = i ∧ crL cd cf n = a ++ cC (cd i) (cf i) ++ b ∧ ∀ f', crL cd (va_up cf i f') n = a ++ cC (cd i) f' ++ b
  | 0, h => absurd h (Nat.not_lt_zero _)
  | n + 1, h => by
    have hlen : ∀ k : Nat, (crL cd cf k).length = k := by
      intro k
      induction k with
      | zero => rfl
      | succ k ih =>
        show (crL cd cf k ++ cC (cd k) (cf k)).length = _
        rw [List.length_append, ih]; rfl
    by_cases hi : i = n
    · subst hi
      refine ⟨crL cd cf i, [], hlen i, by simp [crL], fun f' => ?_⟩
      show crL cd (va_up cf i f') i ++ cC (cd i) (va_up cf i f' i) = _
      rw [va_up_self, List.append_nil, crL_congr (cd' := cd) (cf' := cf) (fun j hj => ⟨rfl, va_up_ne _ _ (Nat.ne_of_lt hj)⟩)]
    · obtain ⟨a, b, h0, h1, h2⟩ := crL_mid (cd := cd) (cf := cf) (n := n) (i := i) (by omega)
      refine ⟨a, b ++ cC (cd n) (cf n), h0, ?_, fun f' => ?_⟩
      · show crL cd cf n ++ cC (cd n) (cf n) = _
        rw [h1, List.append_assoc]
      · show crL cd (va_up cf i f') n ++ cC (cd n) (va_up cf i f' n) = _
        rw [h2, List.append_assoc, va_up_ne _ _ (Ne.symm hi)]
section SW9
variable {G : Gx} {q : Nat → Nat} {n m t i : Nat} {fl fd : Int32} {k : Nat → Int32} {wd : Nat → Nat → Nat} {wf : Nat → Nat → Int32} {wa : Nat → Nat → Nat → Int32} {cd : Nat → Nat} {cf : Nat → Nat → Int32}
/-- a worker among the rest -/
theorem sW_mid (h : i < n) : ∃ a b : va_W, a.length = 4 + 7 * i ∧ sW G q n m t fl fd k wd wf wa cd cf = a ++ wW G (wd i) (wf i) (wa i) ++ b ∧ ∀ f' a', sW G q n m t fl fd k wd (va_up wf i f') (va_up wa i a') cd cf = a ++ wW G (wd i) f' a' ++ b := by
  obtain ⟨a, b, h0, h1, h2⟩ := wkL_mid (G := G) (wd := wd) (wf := wf) (wa := wa) h
  refine ⟨(q 0, .inr (2, [.ref (q 1), .ref (q 2), .ref (q 3), .int (nI n), .int (nI m), .int (nI t), .int fl, .int fd])) :: (q 1, .inl (G.2 2, 8, .inr (.inr (.inr (.inr (rfT (fun i => wd i 0) n)))))) :: (q 2, .inl (G.2 3, 10, .inr (.inr (.inr (.inr (rfT cd m)))))) :: (q 3, .inl (G.2 1, 201, .inl k)) :: a, b ++ crL cd cf m, ?_, ?_, fun f' a' => ?_⟩
  · simp only [List.length_cons]; omega
  · unfold sW
    rw [h1]
    simp only [List.cons_append, List.append_assoc]
  · unfold sW
    rw [h2]
    simp only [List.cons_append, List.append_assoc]
theorem sW_at (h : i < n) {j : Nat} {c : Nat × va_E} (hc : (wW G (wd i) (wf i) (wa i))[j]? = some c) : (sW G q n m t fl fd k wd wf wa cd cf)[4 + 7 * i + j]? = some c := by
  obtain ⟨a, b, h0, h1, -⟩ := sW_mid (G := G) (q := q) (m := m) (t := t) (fl := fl) (fd := fd) (k := k) (wd := wd) (wf := wf) (wa := wa) (cd := cd) (cf := cf) h
  rw [h1, ← h0]
  exact mid_at hc
theorem sW_set (h : i < n) {j : Nat} {c : Nat × va_E} (hj : j < 7) {f' : Nat → Int32} {a' : Nat → Nat → Int32} (hc : (wW G (wd i) (wf i) (wa i)).set j c = wW G (wd i) f' a') : (sW G q n m t fl fd k wd wf wa cd cf).set (4 + 7 * i + j) c = sW G q n m t fl fd k wd (va_up wf i f') (va_up wa i a') cd cf := by
  obtain ⟨a, b, h0, h1, h2⟩ := sW_mid (G := G) (q := q) (m := m) (t := t) (fl := fl) (fd := fd) (k := k) (wd := wd) (wf := wf) (wa := wa) (cd := cd) (cf := cf) h
  rw [h1, h2, ← h0, mid_set (by rw [wW_len]; exact hj), hc]
theorem va_up_id {α : Type} (g : Nat → α) (i : Nat) : va_up g i (g i) = g := by
  funext j
  unfold va_up
  by_cases h : j = i
  · rw [if_pos h, h]
  · rw [if_neg h]
theorem sW_setF (h : i < n) {c : Nat × va_E} {f' : Nat → Int32} (hc : (wW G (wd i) (wf i) (wa i)).set 0 c = wW G (wd i) f' (wa i)) : (sW G q n m t fl fd k wd wf wa cd cf).set (4 + 7 * i + 0) c = sW G q n m t fl fd k wd (va_up wf i f') wa cd cf := by
  rw [sW_set h (by decide) hc, va_up_id]
theorem sW_setA (h : i < n) {j : Nat} {c : Nat × va_E} (hj : j < 7) {a' : Nat → Nat → Int32} (hc : (wW G (wd i) (wf i) (wa i)).set j c = wW G (wd i) (wf i) a') : (sW G q n m t fl fd k wd wf wa cd cf).set (4 + 7 * i + j) c = sW G q n m t fl fd k wd wf (va_up wa i a') cd cf := by
  rw [sW_set h hj hc, va_up_id]
/-- a course among the rest -/
theorem sW_midC (h : i < m) : ∃ a b : va_W, a.length = 4 + 7 * n + i ∧ sW G q n m t fl fd k wd wf wa cd cf = a ++ cC (cd i) (cf i) ++ b ∧ ∀ f', sW G q n m t fl fd k wd wf wa cd (va_up cf i f') = a ++ cC (cd i) f' ++ b := by
  obtain ⟨a, b, h0, h1, h2⟩ := crL_mid (cd := cd) (cf := cf) h
  refine ⟨(q 0, .inr (2, [.ref (q 1), .ref (q 2), .ref (q 3), .int (nI n), .int (nI m), .int (nI t), .int fl, .int fd])) :: (q 1, .inl (G.2 2, 8, .inr (.inr (.inr (.inr (rfT (fun i => wd i 0) n)))))) :: (q 2, .inl (G.2 3, 10, .inr (.inr (.inr (.inr (rfT cd m)))))) :: (q 3, .inl (G.2 1, 201, .inl k)) :: (wkL G wd wf wa n ++ a), b, ?_, ?_, fun f' => ?_⟩
  · simp only [List.length_cons, List.length_append, wkL_len]; omega
  · unfold sW
    rw [h1]
    simp only [List.cons_append, List.append_assoc]
  · unfold sW
    rw [h2]
    simp only [List.cons_append, List.append_assoc]
theorem sW_atC (h : i < m) : (sW G q n m t fl fd k wd wf wa cd cf)[4 + 7 * n + i]? = some (cd i, .inr (0, [.int (cf i 0), .int (cf i 1), .int (cf i 2), .int (cf i 3)])) := by
  obtain ⟨a, b, h0, h1, -⟩ := sW_midC (G := G) (q := q) (n := n) (t := t) (fl := fl) (fd := fd) (k := k) (wd := wd) (wf := wf) (wa := wa) (cd := cd) (cf := cf) h
  rw [h1, ← h0]
  exact mid_at (k := 0) rfl
theorem sW_setC (h : i < m) {c : Nat × va_E} {f' : Nat → Int32} (hc : (cC (cd i) (cf i)).set 0 c = cC (cd i) f') : (sW G q n m t fl fd k wd wf wa cd cf).set (4 + 7 * n + i) c = sW G q n m t fl fd k wd wf wa cd (va_up cf i f') := by
  obtain ⟨a, b, h0, h1, h2⟩ := sW_midC (G := G) (q := q) (n := n) (t := t) (fl := fl) (fd := fd) (k := k) (wd := wd) (wf := wf) (wa := wa) (cd := cd) (cf := cf) h
  rw [h1, h2, ← h0]
  have h9 := mid_set (a := a) (w := cC (cd i) (cf i)) (b := b) (k := 0) (q := c) (Nat.zero_lt_succ _)
  rw [Nat.add_zero] at h9
  rw [h9, hc]
end SW9
end
section
/-! numbers -/
theorem nI_m1_toInt {n : Nat} (h : n < 2 ^ 30) : (nI n - 1).toInt = (n : Int) - 1 := by
  have h1 : (1 : Int32) = nI 1 := rfl
  rw [h1, pk_sub_toInt h (by decide)]
  rfl
theorem nI_le_m1 {i n : Nat} (h : i < n) (hn : n < 2 ^ 30) : nI i ≤ nI n - 1 := by
  rw [Int32.le_iff_toInt_le, nI_m1_toInt hn, nI_toInt (by omega)]
  omega
theorem nI_m1_lt {n : Nat} {v : Int32} (hn : n < 2 ^ 30) (h : nI n ≤ v) : nI n - 1 < v := by
  rw [Int32.le_iff_toInt_le, nI_toInt (by omega)] at h
  rw [Int32.lt_iff_toInt_lt, nI_m1_toInt hn]
  omega
theorem out_m1 {n : Nat} {v : Int32} (hn : n < 2 ^ 30) (h : v < 0 ∨ nI n ≤ v) : v < 0 ∨ nI n - 1 < v := h.imp id (nI_m1_lt hn)
theorem i_nle {a b : Int32} (h : a < b) : ¬ b ≤ a := fun h2 => by
  rw [Int32.lt_iff_toInt_lt] at h
  rw [Int32.le_iff_toInt_le] at h2
  omega
theorem i_nlt {a b : Int32} (h : a ≤ b) : ¬ b < a := fun h2 => by
  rw [Int32.le_iff_toInt_le] at h
  rw [Int32.lt_iff_toInt_lt] at h2
  omega
theorem i_lt {a b : Int32} (h : ¬ b ≤ a) : a < b := by
  rw [Int32.le_iff_toInt_le] at h
  rw [Int32.lt_iff_toInt_lt]
  omega
theorem i_le {a b : Int32} (h : ¬ b < a) : a ≤ b := by
  rw [Int32.lt_iff_toInt_lt] at h
  rw [Int32.le_iff_toInt_le]
  omega
theorem rfT_in {d : Nat → Nat} {n i : Nat} (h : i < n) : va_rf (rfT d n i) = .ref (d i) := by simp [rfT, h, va_rf]
theorem rfT_out {d : Nat → Nat} {n i : Nat} (h : ¬ i < n) : va_rf (rfT d n i) = .null := by simp [rfT, h, va_rf]
/-! what the methods say, of their numbers -/
/-- the step by the cut weeks that were paid -/
def stepP (x : Int32) : Int32 := if x < 24 then (if x < 12 then 60 else 70) else 80
/-- is the week filled: c the course's hours, h the cut -/
def fillB (c h : Int32) : Int32 := if c ≤ 0 then 0 else if 2 * c < h then 0 else 1
/-- the percentage: ch children, w the cut weeks paid, b filled -/
def pctS (ch w b : Int32) : Int32 :=
  let p := if ch = 0 then stepP w else stepP w + 7
  if b = 0 then (if w < 12 then p else p + (-10)) else p + 5
/-- too much work seen: h the cut, d the hours at the door, m made up -/
def muchB (h d m : Int32) : Int32 := if d ≤ 40 - h + 2 then 0 else if m ≤ 0 then 0 else 1
/-- the firm's pay, what the fund makes up: p full pay, h the cut, c percentage, fl the floor -/
def firmP (p h : Int32) : Int32 := p * (40 - h) / 40
def fundP (p h c fl : Int32) : Int32 := if (p - firmP p h) * c / 100 < p * fl / 100 - firmP p h then p * fl / 100 - firmP p h else (p - firmP p h) * c / 100
theorem fillB_nar (c h : Int32) : narrow .boolean (.int (fillB c h)) = .int (fillB c h) := by
  unfold fillB
  split
  · rfl
  · split <;> rfl
theorem muchB_nar (h d m : Int32) : narrow .boolean (.int (muchB h d m)) = .int (muchB h d m) := by
  unfold muchB
  split
  · rfl
  · split <;> rfl
/-- g with h laid at x .. i - 1 -/
def fillR (g : Nat → Int32) (x i : Nat) (h : Int32) : Nat → Int32 := fun j => if x ≤ j ∧ j < i then h else g j
theorem fillR_0 {g : Nat → Int32} {x : Nat} {h : Int32} : fillR g x x h = g := by
  funext j
  unfold fillR
  rw [if_neg (by omega)]
theorem fillR_step {g : Nat → Int32} {x i : Nat} {h : Int32} (hxi : x ≤ i) : upd (fillR g x i h) i h = fillR g x (i + 1) h := by
  funext j
  unfold fillR upd
  by_cases h1 : j = i
  · subst h1
    rw [if_pos rfl, if_pos (by omega)]
  · rw [if_neg h1]
    show (if x ≤ j ∧ j < i then h else g j) = _
    by_cases h2 : x ≤ j ∧ j < i
    · rw [if_pos h2, if_pos (by omega)]
    · rw [if_neg h2, if_neg (by omega)]
end
section
theorem hdX1_hasFilled : yX1_hasFilled.cls = RX1 ∧ yX1_hasFilled.cls ≠ "java/lang/invoke/MethodHandle" ∧ yX1_hasFilled.cls ≠ "java/lang/invoke/VarHandle" ∧ (parseMethodDescriptor yX1_hasFilled.desc).map (fun d => d.parameters.length) = some 1 := by decide +kernel
theorem hdX1_madeUpPercent : yX1_madeUpPercent.cls = RX1 ∧ yX1_madeUpPercent.cls ≠ "java/lang/invoke/MethodHandle" ∧ yX1_madeUpPercent.cls ≠ "java/lang/invoke/VarHandle" ∧ (parseMethodDescriptor yX1_madeUpPercent.desc).map (fun d => d.parameters.length) = some 1 := by decide +kernel
theorem hdX1_stepPercent : yX1_stepPercent.cls = RX1 ∧ yX1_stepPercent.cls ≠ "java/lang/invoke/MethodHandle" ∧ yX1_stepPercent.cls ≠ "java/lang/invoke/VarHandle" ∧ (parseMethodDescriptor yX1_stepPercent.desc).map (fun d => d.parameters.length) = some 0 := by decide +kernel
theorem hdX2_isWithin : yX2_isWithin.cls = RX2 ∧ yX2_isWithin.cls ≠ "java/lang/invoke/MethodHandle" ∧ yX2_isWithin.cls ≠ "java/lang/invoke/VarHandle" ∧ (parseMethodDescriptor yX2_isWithin.desc).map (fun d => d.parameters.length) = some 3 := by decide +kernel
theorem in_X1_hasFilled_X1 : ∀ w ∈ wsX10, w ∈ wsX1_hasFilled := by decide +kernel
theorem in_X1_hasWorkedTooMuch_X1 : ∀ w ∈ wsX10, w ∈ wsX1_hasWorkedTooMuch := by decide +kernel
theorem in_X1_madeUpPercent_X1 : ∀ w ∈ wsX10, w ∈ wsX1_madeUpPercent := by decide +kernel
theorem in_X1_payFor_X1 : ∀ w ∈ wsX10, w ∈ wsX1_payFor := by decide +kernel
theorem in_X1_stepPercent_X1 : ∀ w ∈ wsX10, w ∈ wsX1_stepPercent := by decide +kernel
theorem in_X2_courseAt_X2 : ∀ w ∈ wsX20, w ∈ wsX2_courseAt := by decide +kernel
theorem in_X2_firmOwes_X2 : ∀ w ∈ wsX20, w ∈ wsX2_firmOwes := by decide +kernel
theorem in_X2_hasPassed_X2 : ∀ w ∈ wsX20, w ∈ wsX2_hasPassed := by decide +kernel
theorem in_X2_week_X2 : ∀ w ∈ wsX20, w ∈ wsX2_week := by decide +kernel
theorem in_X2_workerAt_X2 : ∀ w ∈ wsX20, w ∈ wsX2_workerAt := by decide +kernel
theorem in_X2_workers_X2 : ∀ w ∈ wsX20, w ∈ wsX2_workers := by decide +kernel
theorem thr_X2_requireArgument : ∀ w ∈ (vx_at0 RX2 146 "java/lang/IllegalArgumentException" ["java/lang/RuntimeException", "java/lang/Exception"]).filter goodWord, w ∈ wsX2_requireArgument := by decide +kernel
theorem thr_X2_requireArgument_c : ∀ w ∈ (vx_at0 RX2 146 "java/lang/IllegalArgumentException" ["java/lang/RuntimeException", "java/lang/Exception"]).filter (fun w => !goodWord w), w ∈ exW := by decide +kernel
theorem thr_X2_requireArgument_ot : ∀ w ∈ Cond.classLink RX2 144 "java/lang/IllegalArgumentException" :: Cond.initialized "java/lang/IllegalArgumentException" :: vx_at0 RX2 146 "java/lang/IllegalArgumentException" ["java/lang/RuntimeException", "java/lang/Exception"], vx_ot w = true := by decide +kernel
theorem thr_X2_requireState : ∀ w ∈ (vx_at0 RX2 149 "java/lang/IllegalStateException" ["java/lang/RuntimeException", "java/lang/Exception"]).filter goodWord, w ∈ wsX2_requireState := by decide +kernel
theorem thr_X2_requireState_c : ∀ w ∈ (vx_at0 RX2 149 "java/lang/IllegalStateException" ["java/lang/RuntimeException", "java/lang/Exception"]).filter (fun w => !goodWord w), w ∈ exW := by decide +kernel
theorem thr_X2_requireState_ot : ∀ w ∈ Cond.classLink RX2 147 "java/lang/IllegalStateException" :: Cond.initialized "java/lang/IllegalStateException" :: vx_at0 RX2 149 "java/lang/IllegalStateException" ["java/lang/RuntimeException", "java/lang/Exception"], vx_ot w = true := by decide +kernel
theorem thr_X2_workerAt : ∀ w ∈ (vx_at0 RX2 143 "java/lang/IndexOutOfBoundsException" ["java/lang/RuntimeException", "java/lang/Exception"]).filter goodWord, w ∈ wsX2_workerAt := by decide +kernel
theorem thr_X2_workerAt_c : ∀ w ∈ (vx_at0 RX2 143 "java/lang/IndexOutOfBoundsException" ["java/lang/RuntimeException", "java/lang/Exception"]).filter (fun w => !goodWord w), w ∈ exW := by decide +kernel
theorem thr_X2_workerAt_ot : ∀ w ∈ Cond.classLink RX2 141 "java/lang/IndexOutOfBoundsException" :: Cond.initialized "java/lang/IndexOutOfBoundsException" :: vx_at0 RX2 143 "java/lang/IndexOutOfBoundsException" ["java/lang/RuntimeException", "java/lang/Exception"], vx_ot w = true := by decide +kernel
theorem thr_X2_courseAt : ∀ w ∈ (vx_at0 RX2 143 "java/lang/IndexOutOfBoundsException" ["java/lang/RuntimeException", "java/lang/Exception"]).filter goodWord, w ∈ wsX2_courseAt := by decide +kernel
theorem thr_X2_courseAt_c : ∀ w ∈ (vx_at0 RX2 143 "java/lang/IndexOutOfBoundsException" ["java/lang/RuntimeException", "java/lang/Exception"]).filter (fun w => !goodWord w), w ∈ exW := by decide +kernel
theorem thr_X2_courseAt_ot : ∀ w ∈ Cond.classLink RX2 141 "java/lang/IndexOutOfBoundsException" :: Cond.initialized "java/lang/IndexOutOfBoundsException" :: vx_at0 RX2 143 "java/lang/IndexOutOfBoundsException" ["java/lang/RuntimeException", "java/lang/Exception"], vx_ot w = true := by decide +kernel
end
section
set_option maxHeartbeats 4000000 in
set_option maxRecDepth 100000 in
theorem c_X2_isWithin_1 (l : Launch) (G : Gx) (ws : va_W) (v lo hi : Int32) (h1 : lo ≤ v) (h2 : v ≤ hi) : MI l yX2_isWithin wsX2_isWithin ({ frames := 0, cells := 0, slots := 0, locals := 0 } : Room) [.int v, .int lo, .int hi] G (ws) (fun u => ws) 1 := by
  refine ofMI (cc := cX2_isWithin) (maxL := 3) (ret := (some .boolean)) (by decide) rfl (Nat.le_of_ble_eq_true rfl) (fun p e s m below meth c A ls F hr hnm hH hl => ?_)
  have F : Fx G p s m _ meth c cX2_isWithin 3 wsX2_isWithin RX2 A := F
  have hx := F.1.1
  have hb := F.1.2.1
  have hl : lv_has ls 3 [(0, .int v), (1, .int lo), (2, .int hi)] := hl
  refine lv_iload_n hx hb dX2_isWithin_0 rfl (lv_at hl 0 rfl) ?_
  refine lv_iload_n hx hb dX2_isWithin_1 rfl (lv_at hl 1 rfl) ?_
  refine lv_icmp_lt (tgt := 14) hx hb dX2_isWithin_2 (by decide) (fun c_2 => absurd c_2 (i_nlt h1)) (fun c_2 => ?_)
  refine lv_iload_n hx hb dX2_isWithin_5 rfl (lv_at hl 0 rfl) ?_
  refine lv_iload_n hx hb dX2_isWithin_6 rfl (lv_at hl 2 rfl) ?_
  refine lv_icmp_gt (tgt := 14) hx hb dX2_isWithin_7 (by decide) (fun c_7 => absurd c_7 (i_nlt h2)) (fun c_7 => ?_)
  refine lv_iconst (v := 1) hx hb dX2_isWithin_10 (by decide) ?_
  refine lv_goto (tgt := 15) hx hb dX2_isWithin_11 (by decide) ?_
  exact retI F hr rfl (fun _ => 0) hH rfl (Nat.le_of_ble_eq_true rfl) (Nat.le_of_ble_eq_true rfl) dX2_isWithin_15

set_option maxHeartbeats 4000000 in
set_option maxRecDepth 100000 in
theorem c_X2_isWithin_0 (l : Launch) (G : Gx) (ws : va_W) (v lo hi : Int32) (h : v < lo ∨ hi < v) : MI l yX2_isWithin wsX2_isWithin ({ frames := 0, cells := 0, slots := 0, locals := 0 } : Room) [.int v, .int lo, .int hi] G (ws) (fun u => ws) 0 := by
  refine ofMI (cc := cX2_isWithin) (maxL := 3) (ret := (some .boolean)) (by decide) rfl (Nat.le_of_ble_eq_true rfl) (fun p e s m below meth c A ls F hr hnm hH hl => ?_)
  have F : Fx G p s m _ meth c cX2_isWithin 3 wsX2_isWithin RX2 A := F
  have hx := F.1.1
  have hb := F.1.2.1
  have hl : lv_has ls 3 [(0, .int v), (1, .int lo), (2, .int hi)] := hl
  refine lv_iload_n hx hb dX2_isWithin_0 rfl (lv_at hl 0 rfl) ?_
  refine lv_iload_n hx hb dX2_isWithin_1 rfl (lv_at hl 1 rfl) ?_
  refine lv_icmp_lt (tgt := 14) hx hb dX2_isWithin_2 (by decide) (fun c_2 => ?_) (fun c_2 => ?_)
  · refine lv_iconst (v := 0) hx hb dX2_isWithin_14 (by decide) ?_
    exact retI F hr rfl (fun _ => 0) hH rfl (Nat.le_of_ble_eq_true rfl) (Nat.le_of_ble_eq_true rfl) dX2_isWithin_15
  · refine lv_iload_n hx hb dX2_isWithin_5 rfl (lv_at hl 0 rfl) ?_
    refine lv_iload_n hx hb dX2_isWithin_6 rfl (lv_at hl 2 rfl) ?_
    refine lv_icmp_gt (tgt := 14) hx hb dX2_isWithin_7 (by decide) (fun c_7 => ?_) (fun c_7 => absurd (h.resolve_left c_2) c_7)
    refine lv_iconst (v := 0) hx hb dX2_isWithin_14 (by decide) ?_
    exact retI F hr rfl (fun _ => 0) hH rfl (Nat.le_of_ble_eq_true rfl) (Nat.le_of_ble_eq_true rfl) dX2_isWithin_15

set_option maxHeartbeats 4000000 in
set_option maxRecDepth 100000 in
theorem c_X2_requireArgument_1 (l : Launch) (G : Gx) (ws : va_W) : MV l yX2_requireArgument wsX2_requireArgument ({ frames := 0, cells := 0, slots := 0, locals := 0 } : Room) [.int 1] G (ws) (fun u => ws) := by
  refine ofMV (cc := cX2_requireArgument) (maxL := 1) (ret := none) (by decide) rfl (Nat.le_of_ble_eq_true rfl) (fun p e s m below meth c A ls F hr hnm hH hl => ?_)
  have F : Fx G p s m _ meth c cX2_requireArgument 1 wsX2_requireArgument RX2 A := F
  have hx := F.1.1
  have hb := F.1.2.1
  have hl : lv_has ls 1 [(0, .int 1)] := hl
  refine lv_iload_n hx hb dX2_requireArgument_0 rfl (lv_at hl 0 rfl) ?_
  refine lv_if_ne (tgt := 12) hx hb dX2_requireArgument_1 (by decide) (fun c_1 => ?_) (fun c_1 => absurd c_1 (by decide))
  exact retV F hr (fun _ => 0) hH (Nat.le_of_ble_eq_true rfl) (Nat.le_of_ble_eq_true rfl) dX2_requireArgument_12

set_option maxHeartbeats 4000000 in
set_option maxRecDepth 100000 in
theorem c_X2_requireArgument_0 (l : Launch) (hst : l.stackTraces = false) (G : Gx) (ws : va_W) : MX l yX2_requireArgument wsX2_requireArgument ({ frames := 6, cells := 1, slots := 6, locals := 90 } : Room) [.int 0] G (ws) "java/lang/IllegalArgumentException" := by
  refine ofMX (cc := cX2_requireArgument) (maxL := 1) (ret := none) (by decide) rfl (Nat.le_of_ble_eq_true rfl) (fun p e s m below meth c A ls F htb hH hl => ?_)
  have F : Fx G p s m _ meth c cX2_requireArgument 1 wsX2_requireArgument RX2 A := F
  have hx := F.1.1
  have hb := F.1.2.1
  have hl : lv_has ls 1 [(0, .int 0)] := hl
  refine lv_iload_n hx hb dX2_requireArgument_0 rfl (lv_at hl 0 rfl) ?_
  refine lv_if_ne (tgt := 12) hx hb dX2_requireArgument_1 (by decide) (fun c_1 => absurd rfl c_1) (fun c_1 => ?_)
  exact throw0 F hst (names := ["java/lang/RuntimeException", "java/lang/Exception"]) (ik := 144) (ic := 146) (by decide +kernel) (by decide +kernel) (by decide +kernel) (by decide +kernel) thr_X2_requireArgument thr_X2_requireArgument_c thr_X2_requireArgument_ot hH hl.1 dX2_requireArgument_4 dX2_requireArgument_7 dX2_requireArgument_8 dX2_requireArgument_11 htb (Nat.le_of_ble_eq_true rfl) (Nat.le_of_ble_eq_true rfl) (Nat.le_of_ble_eq_true rfl) (Nat.le_of_ble_eq_true rfl) (Nat.le_of_ble_eq_true rfl) (Nat.le_of_ble_eq_true rfl)

set_option maxHeartbeats 4000000 in
set_option maxRecDepth 100000 in
theorem c_X2_requireState_1 (l : Launch) (G : Gx) (ws : va_W) : MV l yX2_requireState wsX2_requireState ({ frames := 0, cells := 0, slots := 0, locals := 0 } : Room) [.int 1] G (ws) (fun u => ws) := by
  refine ofMV (cc := cX2_requireState) (maxL := 1) (ret := none) (by decide) rfl (Nat.le_of_ble_eq_true rfl) (fun p e s m below meth c A ls F hr hnm hH hl => ?_)
  have F : Fx G p s m _ meth c cX2_requireState 1 wsX2_requireState RX2 A := F
  have hx := F.1.1
  have hb := F.1.2.1
  have hl : lv_has ls 1 [(0, .int 1)] := hl
  refine lv_iload_n hx hb dX2_requireState_0 rfl (lv_at hl 0 rfl) ?_
  refine lv_if_ne (tgt := 12) hx hb dX2_requireState_1 (by decide) (fun c_1 => ?_) (fun c_1 => absurd c_1 (by decide))
  exact retV F hr (fun _ => 0) hH (Nat.le_of_ble_eq_true rfl) (Nat.le_of_ble_eq_true rfl) dX2_requireState_12

set_option maxHeartbeats 4000000 in
set_option maxRecDepth 100000 in
theorem c_X2_requireState_0 (l : Launch) (hst : l.stackTraces = false) (G : Gx) (ws : va_W) : MX l yX2_requireState wsX2_requireState ({ frames := 6, cells := 1, slots := 6, locals := 90 } : Room) [.int 0] G (ws) "java/lang/IllegalStateException" := by
  refine ofMX (cc := cX2_requireState) (maxL := 1) (ret := none) (by decide) rfl (Nat.le_of_ble_eq_true rfl) (fun p e s m below meth c A ls F htb hH hl => ?_)
  have F : Fx G p s m _ meth c cX2_requireState 1 wsX2_requireState RX2 A := F
  have hx := F.1.1
  have hb := F.1.2.1
  have hl : lv_has ls 1 [(0, .int 0)] := hl
  refine lv_iload_n hx hb dX2_requireState_0 rfl (lv_at hl 0 rfl) ?_
  refine lv_if_ne (tgt := 12) hx hb dX2_requireState_1 (by decide) (fun c_1 => absurd rfl c_1) (fun c_1 => ?_)
  exact throw0 F hst (names := ["java/lang/RuntimeException", "java/lang/Exception"]) (ik := 147) (ic := 149) (by decide +kernel) (by decide +kernel) (by decide +kernel) (by decide +kernel) thr_X2_requireState thr_X2_requireState_c thr_X2_requireState_ot hH hl.1 dX2_requireState_4 dX2_requireState_7 dX2_requireState_8 dX2_requireState_11 htb (Nat.le_of_ble_eq_true rfl) (Nat.le_of_ble_eq_true rfl) (Nat.le_of_ble_eq_true rfl) (Nat.le_of_ble_eq_true rfl) (Nat.le_of_ble_eq_true rfl) (Nat.le_of_ble_eq_true rfl)

set_option maxHeartbeats 4000000 in
set_option maxRecDepth 100000 in
theorem c_X2_isSpan_1 (l : Launch) (G : Gx) (ws : va_W) (x y : Int32) (h1 : 0 ≤ x) (h2 : x ≤ 200) (h3 : x ≤ y) (h4 : y ≤ 200) : MI l yX2_isSpan wsX2_isSpan ({ frames := 1, cells := 0, slots := 0, locals := 22 } : Room) [.int x, .int y] G (ws) (fun u => ws) 1 := by
  refine ofMI (cc := cX2_isSpan) (maxL := 2) (ret := (some .boolean)) (by decide) rfl (Nat.le_of_ble_eq_true rfl) (fun p e s m below meth c A ls F hr hnm hH hl => ?_)
  have F : Fx G p s m _ meth c cX2_isSpan 2 wsX2_isSpan RX2 A := F
  have hx := F.1.1
  have hb := F.1.2.1
  have hl : lv_has ls 2 [(0, .int x), (1, .int y)] := hl
  refine lv_iload_n hx hb dX2_isSpan_0 rfl (lv_at hl 0 rfl) ?_
  refine lv_iconst (v := 0) hx hb dX2_isSpan_1 (by decide) ?_
  refine lv_sipush (v := 200) hx hb dX2_isSpan_2 (by decide) ?_
  refine callSI0 (rest := []) F (c_X2_isWithin_1 l G ws x 0 200 h1 h2) gX2_isSpan_X2_isWithin rfl hdX2_isWithin ⟨Nat.le_of_ble_eq_true rfl, Nat.le_of_ble_eq_true rfl⟩ hH rfl hl.1 (Nat.le_of_ble_eq_true rfl) dX2_isSpan_5 ⟨Nat.le_of_ble_eq_true rfl, Nat.le_of_ble_eq_true rfl⟩ rfl (fun u H locs hH => ?_)
  have hH : HH G A s (ws) H locs := hH
  refine lv_if_eq (tgt := 26) hx hb dX2_isSpan_8 (by decide) (fun c_8 => absurd c_8 (by decide)) (fun c_8 => ?_)
  refine lv_iload_n hx hb dX2_isSpan_11 rfl (lv_at hl 1 rfl) ?_
  refine lv_iload_n hx hb dX2_isSpan_12 rfl (lv_at hl 0 rfl) ?_
  refine lv_sipush (v := 200) hx hb dX2_isSpan_13 (by decide) ?_
  refine callSI0 (rest := []) F (c_X2_isWithin_1 l G ws y x 200 h3 h4) gX2_isSpan_X2_isWithin rfl hdX2_isWithin ⟨Nat.le_of_ble_eq_true rfl, Nat.le_of_ble_eq_true rfl⟩ hH rfl hl.1 (Nat.le_of_ble_eq_true rfl) dX2_isSpan_16 ⟨Nat.le_of_ble_eq_true rfl, Nat.le_of_ble_eq_true rfl⟩ rfl (fun u H locs hH => ?_)
  have hH : HH G A s (ws) H locs := hH
  refine lv_if_eq (tgt := 26) hx hb dX2_isSpan_19 (by decide) (fun c_19 => absurd c_19 (by decide)) (fun c_19 => ?_)
  refine lv_iconst (v := 1) hx hb dX2_isSpan_22 (by decide) ?_
  refine lv_goto (tgt := 27) hx hb dX2_isSpan_23 (by decide) ?_
  exact retI F hr rfl (fun _ => 0) hH rfl (Nat.le_of_ble_eq_true rfl) (Nat.le_of_ble_eq_true rfl) dX2_isSpan_27

set_option maxHeartbeats 4000000 in
set_option maxRecDepth 100000 in
theorem c_X2_isSpan_0 (l : Launch) (G : Gx) (ws : va_W) (x y : Int32) (h : x < 0 ∨ 200 < x) : MI l yX2_isSpan wsX2_isSpan ({ frames := 1, cells := 0, slots := 0, locals := 22 } : Room) [.int x, .int y] G (ws) (fun u => ws) 0 := by
  refine ofMI (cc := cX2_isSpan) (maxL := 2) (ret := (some .boolean)) (by decide) rfl (Nat.le_of_ble_eq_true rfl) (fun p e s m below meth c A ls F hr hnm hH hl => ?_)
  have F : Fx G p s m _ meth c cX2_isSpan 2 wsX2_isSpan RX2 A := F
  have hx := F.1.1
  have hb := F.1.2.1
  have hl : lv_has ls 2 [(0, .int x), (1, .int y)] := hl
  refine lv_iload_n hx hb dX2_isSpan_0 rfl (lv_at hl 0 rfl) ?_
  refine lv_iconst (v := 0) hx hb dX2_isSpan_1 (by decide) ?_
  refine lv_sipush (v := 200) hx hb dX2_isSpan_2 (by decide) ?_
  refine callSI0 (rest := []) F (c_X2_isWithin_0 l G ws x 0 200 h) gX2_isSpan_X2_isWithin rfl hdX2_isWithin ⟨Nat.le_of_ble_eq_true rfl, Nat.le_of_ble_eq_true rfl⟩ hH rfl hl.1 (Nat.le_of_ble_eq_true rfl) dX2_isSpan_5 ⟨Nat.le_of_ble_eq_true rfl, Nat.le_of_ble_eq_true rfl⟩ rfl (fun u H locs hH => ?_)
  have hH : HH G A s (ws) H locs := hH
  refine lv_if_eq (tgt := 26) hx hb dX2_isSpan_8 (by decide) (fun c_8 => ?_) (fun c_8 => absurd rfl c_8)
  refine lv_iconst (v := 0) hx hb dX2_isSpan_26 (by decide) ?_
  exact retI F hr rfl (fun _ => 0) hH rfl (Nat.le_of_ble_eq_true rfl) (Nat.le_of_ble_eq_true rfl) dX2_isSpan_27

set_option maxHeartbeats 4000000 in
set_option maxRecDepth 100000 in
theorem c_X2_isSpan_00 (l : Launch) (G : Gx) (ws : va_W) (x y : Int32) (h1 : 0 ≤ x) (h2 : x ≤ 200) (h : y < x ∨ 200 < y) : MI l yX2_isSpan wsX2_isSpan ({ frames := 1, cells := 0, slots := 0, locals := 22 } : Room) [.int x, .int y] G (ws) (fun u => ws) 0 := by
  refine ofMI (cc := cX2_isSpan) (maxL := 2) (ret := (some .boolean)) (by decide) rfl (Nat.le_of_ble_eq_true rfl) (fun p e s m below meth c A ls F hr hnm hH hl => ?_)
  have F : Fx G p s m _ meth c cX2_isSpan 2 wsX2_isSpan RX2 A := F
  have hx := F.1.1
  have hb := F.1.2.1
  have hl : lv_has ls 2 [(0, .int x), (1, .int y)] := hl
  refine lv_iload_n hx hb dX2_isSpan_0 rfl (lv_at hl 0 rfl) ?_
  refine lv_iconst (v := 0) hx hb dX2_isSpan_1 (by decide) ?_
  refine lv_sipush (v := 200) hx hb dX2_isSpan_2 (by decide) ?_
  refine callSI0 (rest := []) F (c_X2_isWithin_1 l G ws x 0 200 h1 h2) gX2_isSpan_X2_isWithin rfl hdX2_isWithin ⟨Nat.le_of_ble_eq_true rfl, Nat.le_of_ble_eq_true rfl⟩ hH rfl hl.1 (Nat.le_of_ble_eq_true rfl) dX2_isSpan_5 ⟨Nat.le_of_ble_eq_true rfl, Nat.le_of_ble_eq_true rfl⟩ rfl (fun u H locs hH => ?_)
  have hH : HH G A s (ws) H locs := hH
  refine lv_if_eq (tgt := 26) hx hb dX2_isSpan_8 (by decide) (fun c_8 => absurd c_8 (by decide)) (fun c_8 => ?_)
  refine lv_iload_n hx hb dX2_isSpan_11 rfl (lv_at hl 1 rfl) ?_
  refine lv_iload_n hx hb dX2_isSpan_12 rfl (lv_at hl 0 rfl) ?_
  refine lv_sipush (v := 200) hx hb dX2_isSpan_13 (by decide) ?_
  refine callSI0 (rest := []) F (c_X2_isWithin_0 l G ws y x 200 h) gX2_isSpan_X2_isWithin rfl hdX2_isWithin ⟨Nat.le_of_ble_eq_true rfl, Nat.le_of_ble_eq_true rfl⟩ hH rfl hl.1 (Nat.le_of_ble_eq_true rfl) dX2_isSpan_16 ⟨Nat.le_of_ble_eq_true rfl, Nat.le_of_ble_eq_true rfl⟩ rfl (fun u H locs hH => ?_)
  have hH : HH G A s (ws) H locs := hH
  refine lv_if_eq (tgt := 26) hx hb dX2_isSpan_19 (by decide) (fun c_19 => ?_) (fun c_19 => absurd rfl c_19)
  refine lv_iconst (v := 0) hx hb dX2_isSpan_26 (by decide) ?_
  exact retI F hr rfl (fun _ => 0) hH rfl (Nat.le_of_ble_eq_true rfl) (Nat.le_of_ble_eq_true rfl) dX2_isSpan_27

set_option maxHeartbeats 4000000 in
set_option maxRecDepth 100000 in
theorem c_X2_hasPassed_1 (l : Launch) (G : Gx) (q : Nat → Nat) (n nc t : Nat) (fl fd : Int32) (k : Nat → Int32) (wd : Nat → Nat → Nat) (wf : Nat → Nat → Int32) (wa : Nat → Nat → Nat → Int32) (cd : Nat → Nat) (cf : Nat → Nat → Int32) (ht : t < 1000) (j : Nat) (hj : j < t) : MI l yX2_hasPassed wsX2_hasPassed ({ frames := 1, cells := 0, slots := 0, locals := 22 } : Room) [.ref (q 0), .int (nI j)] G (sW G q n nc t fl fd k wd wf wa cd cf) (fun u => sW G q n nc t fl fd k wd wf wa cd cf) 1 := by
  refine ofMI (cc := cX2_hasPassed) (maxL := 2) (ret := (some .boolean)) (by decide) rfl (Nat.le_of_ble_eq_true rfl) (fun p e s m below meth c A ls F hr hnm hH hl => ?_)
  have F : Fx G p s m _ meth c cX2_hasPassed 2 wsX2_hasPassed RX2 A := F
  have hx := F.1.1
  have hb := F.1.2.1
  have hl : lv_has ls 2 [(0, .ref (q 0)), (1, .int (nI j))] := hl
  refine lv_iload_n hx hb dX2_hasPassed_0 rfl (lv_at hl 1 rfl) ?_
  refine lv_iconst (v := 0) hx hb dX2_hasPassed_1 (by decide) ?_
  refine lv_aload_n hx hb dX2_hasPassed_2 rfl (lv_at hl 0 rfl) ?_
  refine rget (C := RX2) (T := TX2) (N := 8) (ref := RX2) F in_X2_hasPassed_X2 hH 0 rfl rfl 5 (by decide) (by decide +kernel) (fun _ h9 => h9) (v := .int (nI t)) rfl dX2_hasPassed_3 ?_
  refine lv_iconst (v := 1) hx hb dX2_hasPassed_6 (by decide) ?_
  refine lv_isub hx hb dX2_hasPassed_7 ?_
  refine callSI0 (rest := []) F (c_X2_isWithin_1 l G _ (nI j) 0 (nI t - 1) (nI_pos' (by omega)) (nI_le_m1 hj (by omega))) gX2_hasPassed_X2_isWithin rfl hdX2_isWithin ⟨Nat.le_of_ble_eq_true rfl, Nat.le_of_ble_eq_true rfl⟩ hH rfl hl.1 (Nat.le_of_ble_eq_true rfl) dX2_hasPassed_8 ⟨Nat.le_of_ble_eq_true rfl, Nat.le_of_ble_eq_true rfl⟩ rfl (fun u H locs hH => ?_)
  have hH : HH G A s (sW G q n nc t fl fd k wd wf wa cd cf) H locs := hH
  exact retI F hr rfl (fun _ => 0) hH rfl (Nat.le_of_ble_eq_true rfl) (Nat.le_of_ble_eq_true rfl) dX2_hasPassed_11

set_option maxHeartbeats 4000000 in
set_option maxRecDepth 100000 in
theorem c_X2_hasPassed_0 (l : Launch) (G : Gx) (q : Nat → Nat) (n nc t : Nat) (fl fd : Int32) (k : Nat → Int32) (wd : Nat → Nat → Nat) (wf : Nat → Nat → Int32) (wa : Nat → Nat → Nat → Int32) (cd : Nat → Nat) (cf : Nat → Nat → Int32) (ht : t < 1000) (v : Int32) (h : v < 0 ∨ nI t ≤ v) : MI l yX2_hasPassed wsX2_hasPassed ({ frames := 1, cells := 0, slots := 0, locals := 22 } : Room) [.ref (q 0), .int v] G (sW G q n nc t fl fd k wd wf wa cd cf) (fun u => sW G q n nc t fl fd k wd wf wa cd cf) 0 := by
  refine ofMI (cc := cX2_hasPassed) (maxL := 2) (ret := (some .boolean)) (by decide) rfl (Nat.le_of_ble_eq_true rfl) (fun p e s m below meth c A ls F hr hnm hH hl => ?_)
  have F : Fx G p s m _ meth c cX2_hasPassed 2 wsX2_hasPassed RX2 A := F
  have hx := F.1.1
  have hb := F.1.2.1
  have hl : lv_has ls 2 [(0, .ref (q 0)), (1, .int v)] := hl
  refine lv_iload_n hx hb dX2_hasPassed_0 rfl (lv_at hl 1 rfl) ?_
  refine lv_iconst (v := 0) hx hb dX2_hasPassed_1 (by decide) ?_
  refine lv_aload_n hx hb dX2_hasPassed_2 rfl (lv_at hl 0 rfl) ?_
  refine rget (C := RX2) (T := TX2) (N := 8) (ref := RX2) F in_X2_hasPassed_X2 hH 0 rfl rfl 5 (by decide) (by decide +kernel) (fun _ h9 => h9) (v := .int (nI t)) rfl dX2_hasPassed_3 ?_
  refine lv_iconst (v := 1) hx hb dX2_hasPassed_6 (by decide) ?_
  refine lv_isub hx hb dX2_hasPassed_7 ?_
  refine callSI0 (rest := []) F (c_X2_isWithin_0 l G _ v 0 (nI t - 1) (out_m1 (by omega) h)) gX2_hasPassed_X2_isWithin rfl hdX2_isWithin ⟨Nat.le_of_ble_eq_true rfl, Nat.le_of_ble_eq_true rfl⟩ hH rfl hl.1 (Nat.le_of_ble_eq_true rfl) dX2_hasPassed_8 ⟨Nat.le_of_ble_eq_true rfl, Nat.le_of_ble_eq_true rfl⟩ rfl (fun u H locs hH => ?_)
  have hH : HH G A s (sW G q n nc t fl fd k wd wf wa cd cf) H locs := hH
  exact retI F hr rfl (fun _ => 0) hH rfl (Nat.le_of_ble_eq_true rfl) (Nat.le_of_ble_eq_true rfl) dX2_hasPassed_11

set_option maxHeartbeats 4000000 in
set_option maxRecDepth 100000 in
theorem c_X2_workerAt_1 (l : Launch) (G : Gx) (q : Nat → Nat) (n nc t : Nat) (fl fd : Int32) (k : Nat → Int32) (wd : Nat → Nat → Nat) (wf : Nat → Nat → Int32) (wa : Nat → Nat → Nat → Int32) (cd : Nat → Nat) (cf : Nat → Nat → Int32) (hn : n ≤ 8) (i : Nat) (hi : i < n) : MR l yX2_workerAt wsX2_workerAt ({ frames := 1, cells := 0, slots := 0, locals := 22 } : Room) [.ref (q 0), .int (nI i)] G (sW G q n nc t fl fd k wd wf wa cd cf) (wd i 0) := by
  refine ofMR (cc := cX2_workerAt) (maxL := 3) (ret := (some (.object "ShortWork$Worker"))) (by decide) rfl (Nat.le_of_ble_eq_true rfl) (fun p e s m below meth c A ls F hr hnm hH hl => ?_)
  have F : Fx G p s m _ meth c cX2_workerAt 3 wsX2_workerAt RX2 A := F
  have hx := F.1.1
  have hb := F.1.2.1
  have hl : lv_has ls 3 [(0, .ref (q 0)), (1, .int (nI i))] := hl
  refine lv_iload_n hx hb dX2_workerAt_0 rfl (lv_at hl 1 rfl) ?_
  refine lv_iconst (v := 0) hx hb dX2_workerAt_1 (by decide) ?_
  refine lv_aload_n hx hb dX2_workerAt_2 rfl (lv_at hl 0 rfl) ?_
  refine rget (C := RX2) (T := TX2) (N := 8) (ref := RX2) F in_X2_workerAt_X2 hH 0 rfl rfl 3 (by decide) (by decide +kernel) (fun _ h9 => h9) (v := .int (nI n)) rfl dX2_workerAt_3 ?_
  refine lv_iconst (v := 1) hx hb dX2_workerAt_6 (by decide) ?_
  refine lv_isub hx hb dX2_workerAt_7 ?_
  refine callSI0 (rest := []) F (c_X2_isWithin_1 l G _ (nI i) 0 (nI n - 1) (nI_pos' (by omega)) (nI_le_m1 hi (by omega))) gX2_workerAt_X2_isWithin rfl hdX2_isWithin ⟨Nat.le_of_ble_eq_true rfl, Nat.le_of_ble_eq_true rfl⟩ hH rfl hl.1 (Nat.le_of_ble_eq_true rfl) dX2_workerAt_8 ⟨Nat.le_of_ble_eq_true rfl, Nat.le_of_ble_eq_true rfl⟩ rfl (fun u H locs hH => ?_)
  have hH : HH G A s (sW G q n nc t fl fd k wd wf wa cd cf) H locs := hH
  refine lv_if_eq (tgt := 23) hx hb dX2_workerAt_11 (by decide) (fun c_11 => absurd c_11 (by decide)) (fun c_11 => ?_)
  refine lv_aload_n hx hb dX2_workerAt_14 rfl (lv_at hl 0 rfl) ?_
  refine rget (C := RX2) (T := TX2) (N := 8) (ref := RX2) F in_X2_workerAt_X2 hH 0 rfl rfl 0 (by decide) (by decide +kernel) (fun _ h9 => h9) (v := .ref (q 1)) rfl dX2_workerAt_15 ?_
  refine lv_iload_n hx hb dX2_workerAt_18 rfl (lv_at hl 1 rfl) ?_
  refine raald F hH 1 2 rfl rfl i rfl (by omega) (by decide) (v := .ref (wd i 0)) (rfT_in hi) dX2_workerAt_19 ?_
  refine lv_goto (tgt := 24) hx hb dX2_workerAt_20 (by decide) ?_
  refine lv_astore_n (lv' := [(2, .ref (wd i 0)), (0, .ref (q 0)), (1, .int (nI i))]) hx hb dX2_workerAt_24 rfl hl (by decide) rfl (fun ls hl => ?_)
  refine lv_aload_n hx hb dX2_workerAt_25 rfl (lv_at hl 0 rfl) ?_
  refine lv_ifnonnull (tgt := 37) hx hb dX2_workerAt_26 (by decide) ?_
  refine lv_aload_n hx hb dX2_workerAt_37 rfl (lv_at hl 0 rfl) ?_
  exact retR F hr hH (Nat.le_of_ble_eq_true rfl) (Nat.le_of_ble_eq_true rfl) dX2_workerAt_38

set_option maxHeartbeats 4000000 in
set_option maxRecDepth 100000 in
theorem c_X2_workerAt_0 (l : Launch) (hst : l.stackTraces = false) (G : Gx) (q : Nat → Nat) (n nc t : Nat) (fl fd : Int32) (k : Nat → Int32) (wd : Nat → Nat → Nat) (wf : Nat → Nat → Int32) (wa : Nat → Nat → Nat → Int32) (cd : Nat → Nat) (cf : Nat → Nat → Int32) (hn : n ≤ 8) (v : Int32) (h : v < 0 ∨ nI n ≤ v) : MX l yX2_workerAt wsX2_workerAt ({ frames := 6, cells := 1, slots := 6, locals := 90 } : Room) [.ref (q 0), .int v] G (sW G q n nc t fl fd k wd wf wa cd cf) "java/lang/IndexOutOfBoundsException" := by
  refine ofMX (cc := cX2_workerAt) (maxL := 3) (ret := (some (.object "ShortWork$Worker"))) (by decide) rfl (Nat.le_of_ble_eq_true rfl) (fun p e s m below meth c A ls F htb hH hl => ?_)
  have F : Fx G p s m _ meth c cX2_workerAt 3 wsX2_workerAt RX2 A := F
  have hx := F.1.1
  have hb := F.1.2.1
  have hl : lv_has ls 3 [(0, .ref (q 0)), (1, .int v)] := hl
  refine lv_iload_n hx hb dX2_workerAt_0 rfl (lv_at hl 1 rfl) ?_
  refine lv_iconst (v := 0) hx hb dX2_workerAt_1 (by decide) ?_
  refine lv_aload_n hx hb dX2_workerAt_2 rfl (lv_at hl 0 rfl) ?_
  refine rget (C := RX2) (T := TX2) (N := 8) (ref := RX2) F in_X2_workerAt_X2 hH 0 rfl rfl 3 (by decide) (by decide +kernel) (fun _ h9 => h9) (v := .int (nI n)) rfl dX2_workerAt_3 ?_
  refine lv_iconst (v := 1) hx hb dX2_workerAt_6 (by decide) ?_
  refine lv_isub hx hb dX2_workerAt_7 ?_
  refine callSI0 (rest := []) F (c_X2_isWithin_0 l G _ v 0 (nI n - 1) (out_m1 (by omega) h)) gX2_workerAt_X2_isWithin rfl hdX2_isWithin ⟨Nat.le_of_ble_eq_true rfl, Nat.le_of_ble_eq_true rfl⟩ hH rfl hl.1 (Nat.le_of_ble_eq_true rfl) dX2_workerAt_8 ⟨Nat.le_of_ble_eq_true rfl, Nat.le_of_ble_eq_true rfl⟩ rfl (fun u H locs hH => ?_)
  have hH : HH G A s (sW G q n nc t fl fd k wd wf wa cd cf) H locs := hH
  refine lv_if_eq (tgt := 23) hx hb dX2_workerAt_11 (by decide) (fun c_11 => ?_) (fun c_11 => absurd rfl c_11)
  refine lv_null hx hb dX2_workerAt_23 ?_
  refine lv_astore_nN (lv' := [(2, .null), (0, .ref (q 0)), (1, .int v)]) hx hb dX2_workerAt_24 rfl hl (by decide) rfl (fun ls hl => ?_)
  refine lv_aload_nN hx hb dX2_workerAt_25 rfl (lv_at hl 0 rfl) ?_
  refine lv_ifnonnullN hx hb dX2_workerAt_26 ?_
  exact throw0 F hst (names := ["java/lang/RuntimeException", "java/lang/Exception"]) (ik := 141) (ic := 143) (by decide +kernel) (by decide +kernel) (by decide +kernel) (by decide +kernel) thr_X2_workerAt thr_X2_workerAt_c thr_X2_workerAt_ot hH hl.1 dX2_workerAt_29 dX2_workerAt_32 dX2_workerAt_33 dX2_workerAt_36 htb (Nat.le_of_ble_eq_true rfl) (Nat.le_of_ble_eq_true rfl) (Nat.le_of_ble_eq_true rfl) (Nat.le_of_ble_eq_true rfl) (Nat.le_of_ble_eq_true rfl) (Nat.le_of_ble_eq_true rfl)

set_option maxHeartbeats 4000000 in
set_option maxRecDepth 100000 in
theorem c_X2_courseAt_1 (l : Launch) (G : Gx) (q : Nat → Nat) (n nc t : Nat) (fl fd : Int32) (k : Nat → Int32) (wd : Nat → Nat → Nat) (wf : Nat → Nat → Int32) (wa : Nat → Nat → Nat → Int32) (cd : Nat → Nat) (cf : Nat → Nat → Int32) (hn : nc ≤ 10) (i : Nat) (hi : i < nc) : MR l yX2_courseAt wsX2_courseAt ({ frames := 1, cells := 0, slots := 0, locals := 22 } : Room) [.ref (q 0), .int (nI i)] G (sW G q n nc t fl fd k wd wf wa cd cf) (cd i) := by
  refine ofMR (cc := cX2_courseAt) (maxL := 3) (ret := (some (.object "ShortWork$Course"))) (by decide) rfl (Nat.le_of_ble_eq_true rfl) (fun p e s m below meth c A ls F hr hnm hH hl => ?_)
  have F : Fx G p s m _ meth c cX2_courseAt 3 wsX2_courseAt RX2 A := F
  have hx := F.1.1
  have hb := F.1.2.1
  have hl : lv_has ls 3 [(0, .ref (q 0)), (1, .int (nI i))] := hl
  refine lv_iload_n hx hb dX2_courseAt_0 rfl (lv_at hl 1 rfl) ?_
  refine lv_iconst (v := 0) hx hb dX2_courseAt_1 (by decide) ?_
  refine lv_aload_n hx hb dX2_courseAt_2 rfl (lv_at hl 0 rfl) ?_
  refine rget (C := RX2) (T := TX2) (N := 8) (ref := RX2) F in_X2_courseAt_X2 hH 0 rfl rfl 4 (by decide) (by decide +kernel) (fun _ h9 => h9) (v := .int (nI nc)) rfl dX2_courseAt_3 ?_
  refine lv_iconst (v := 1) hx hb dX2_courseAt_6 (by decide) ?_
  refine lv_isub hx hb dX2_courseAt_7 ?_
  refine callSI0 (rest := []) F (c_X2_isWithin_1 l G _ (nI i) 0 (nI nc - 1) (nI_pos' (by omega)) (nI_le_m1 hi (by omega))) gX2_courseAt_X2_isWithin rfl hdX2_isWithin ⟨Nat.le_of_ble_eq_true rfl, Nat.le_of_ble_eq_true rfl⟩ hH rfl hl.1 (Nat.le_of_ble_eq_true rfl) dX2_courseAt_8 ⟨Nat.le_of_ble_eq_true rfl, Nat.le_of_ble_eq_true rfl⟩ rfl (fun u H locs hH => ?_)
  have hH : HH G A s (sW G q n nc t fl fd k wd wf wa cd cf) H locs := hH
  refine lv_if_eq (tgt := 23) hx hb dX2_courseAt_11 (by decide) (fun c_11 => absurd c_11 (by decide)) (fun c_11 => ?_)
  refine lv_aload_n hx hb dX2_courseAt_14 rfl (lv_at hl 0 rfl) ?_
  refine rget (C := RX2) (T := TX2) (N := 8) (ref := RX2) F in_X2_courseAt_X2 hH 0 rfl rfl 1 (by decide) (by decide +kernel) (fun _ h9 => h9) (v := .ref (q 2)) rfl dX2_courseAt_15 ?_
  refine lv_iload_n hx hb dX2_courseAt_18 rfl (lv_at hl 1 rfl) ?_
  refine raald F hH 2 3 rfl rfl i rfl (by omega) (by decide) (v := .ref (cd i)) (rfT_in hi) dX2_courseAt_19 ?_
  refine lv_goto (tgt := 24) hx hb dX2_courseAt_20 (by decide) ?_
  refine lv_astore_n (lv' := [(2, .ref (cd i)), (0, .ref (q 0)), (1, .int (nI i))]) hx hb dX2_courseAt_24 rfl hl (by decide) rfl (fun ls hl => ?_)
  refine lv_aload_n hx hb dX2_courseAt_25 rfl (lv_at hl 0 rfl) ?_
  refine lv_ifnonnull (tgt := 37) hx hb dX2_courseAt_26 (by decide) ?_
  refine lv_aload_n hx hb dX2_courseAt_37 rfl (lv_at hl 0 rfl) ?_
  exact retR F hr hH (Nat.le_of_ble_eq_true rfl) (Nat.le_of_ble_eq_true rfl) dX2_courseAt_38

set_option maxHeartbeats 4000000 in
set_option maxRecDepth 100000 in
theorem c_X2_courseAt_0 (l : Launch) (hst : l.stackTraces = false) (G : Gx) (q : Nat → Nat) (n nc t : Nat) (fl fd : Int32) (k : Nat → Int32) (wd : Nat → Nat → Nat) (wf : Nat → Nat → Int32) (wa : Nat → Nat → Nat → Int32) (cd : Nat → Nat) (cf : Nat → Nat → Int32) (hn : nc ≤ 10) (v : Int32) (h : v < 0 ∨ nI nc ≤ v) : MX l yX2_courseAt wsX2_courseAt ({ frames := 6, cells := 1, slots := 6, locals := 90 } : Room) [.ref (q 0), .int v] G (sW G q n nc t fl fd k wd wf wa cd cf) "java/lang/IndexOutOfBoundsException" := by
  refine ofMX (cc := cX2_courseAt) (maxL := 3) (ret := (some (.object "ShortWork$Course"))) (by decide) rfl (Nat.le_of_ble_eq_true rfl) (fun p e s m below meth c A ls F htb hH hl => ?_)
  have F : Fx G p s m _ meth c cX2_courseAt 3 wsX2_courseAt RX2 A := F
  have hx := F.1.1
  have hb := F.1.2.1
  have hl : lv_has ls 3 [(0, .ref (q 0)), (1, .int v)] := hl
  refine lv_iload_n hx hb dX2_courseAt_0 rfl (lv_at hl 1 rfl) ?_
  refine lv_iconst (v := 0) hx hb dX2_courseAt_1 (by decide) ?_
  refine lv_aload_n hx hb dX2_courseAt_2 rfl (lv_at hl 0 rfl) ?_
  refine rget (C := RX2) (T := TX2) (N := 8) (ref := RX2) F in_X2_courseAt_X2 hH 0 rfl rfl 4 (by decide) (by decide +kernel) (fun _ h9 => h9) (v := .int (nI nc)) rfl dX2_courseAt_3 ?_
  refine lv_iconst (v := 1) hx hb dX2_courseAt_6 (by decide) ?_
  refine lv_isub hx hb dX2_courseAt_7 ?_
  refine callSI0 (rest := []) F (c_X2_isWithin_0 l G _ v 0 (nI nc - 1) (out_m1 (by omega) h)) gX2_courseAt_X2_isWithin rfl hdX2_isWithin ⟨Nat.le_of_ble_eq_true rfl, Nat.le_of_ble_eq_true rfl⟩ hH rfl hl.1 (Nat.le_of_ble_eq_true rfl) dX2_courseAt_8 ⟨Nat.le_of_ble_eq_true rfl, Nat.le_of_ble_eq_true rfl⟩ rfl (fun u H locs hH => ?_)
  have hH : HH G A s (sW G q n nc t fl fd k wd wf wa cd cf) H locs := hH
  refine lv_if_eq (tgt := 23) hx hb dX2_courseAt_11 (by decide) (fun c_11 => ?_) (fun c_11 => absurd rfl c_11)
  refine lv_null hx hb dX2_courseAt_23 ?_
  refine lv_astore_nN (lv' := [(2, .null), (0, .ref (q 0)), (1, .int v)]) hx hb dX2_courseAt_24 rfl hl (by decide) rfl (fun ls hl => ?_)
  refine lv_aload_nN hx hb dX2_courseAt_25 rfl (lv_at hl 0 rfl) ?_
  refine lv_ifnonnullN hx hb dX2_courseAt_26 ?_
  exact throw0 F hst (names := ["java/lang/RuntimeException", "java/lang/Exception"]) (ik := 141) (ic := 143) (by decide +kernel) (by decide +kernel) (by decide +kernel) (by decide +kernel) thr_X2_courseAt thr_X2_courseAt_c thr_X2_courseAt_ot hH hl.1 dX2_courseAt_29 dX2_courseAt_32 dX2_courseAt_33 dX2_courseAt_36 htb (Nat.le_of_ble_eq_true rfl) (Nat.le_of_ble_eq_true rfl) (Nat.le_of_ble_eq_true rfl) (Nat.le_of_ble_eq_true rfl) (Nat.le_of_ble_eq_true rfl) (Nat.le_of_ble_eq_true rfl)

set_option maxHeartbeats 4000000 in
set_option maxRecDepth 100000 in
theorem c_X2_workers (l : Launch) (G : Gx) (q : Nat → Nat) (n nc t : Nat) (fl fd : Int32) (k : Nat → Int32) (wd : Nat → Nat → Nat) (wf : Nat → Nat → Int32) (wa : Nat → Nat → Nat → Int32) (cd : Nat → Nat) (cf : Nat → Nat → Int32) : MI l yX2_workers wsX2_workers ({ frames := 0, cells := 0, slots := 0, locals := 0 } : Room) [.ref (q 0)] G (sW G q n nc t fl fd k wd wf wa cd cf) (fun u => sW G q n nc t fl fd k wd wf wa cd cf) (nI n) := by
  refine ofMI (cc := cX2_workers) (maxL := 1) (ret := (some .int)) (by decide) rfl (Nat.le_of_ble_eq_true rfl) (fun p e s m below meth c A ls F hr hnm hH hl => ?_)
  have F : Fx G p s m _ meth c cX2_workers 1 wsX2_workers RX2 A := F
  have hx := F.1.1
  have hb := F.1.2.1
  have hl : lv_has ls 1 [(0, .ref (q 0))] := hl
  refine lv_aload_n hx hb dX2_workers_0 rfl (lv_at hl 0 rfl) ?_
  refine rget (C := RX2) (T := TX2) (N := 8) (ref := RX2) F in_X2_workers_X2 hH 0 rfl rfl 3 (by decide) (by decide +kernel) (fun _ h9 => h9) (v := .int (nI n)) rfl dX2_workers_1 ?_
  exact retI F hr rfl (fun _ => 0) hH rfl (Nat.le_of_ble_eq_true rfl) (Nat.le_of_ble_eq_true rfl) dX2_workers_4

set_option maxHeartbeats 4000000 in
set_option maxRecDepth 100000 in
theorem c_X2_week (l : Launch) (G : Gx) (q : Nat → Nat) (n nc t : Nat) (fl fd : Int32) (k : Nat → Int32) (wd : Nat → Nat → Nat) (wf : Nat → Nat → Int32) (wa : Nat → Nat → Nat → Int32) (cd : Nat → Nat) (cf : Nat → Nat → Int32) : MI l yX2_week wsX2_week ({ frames := 0, cells := 0, slots := 0, locals := 0 } : Room) [.ref (q 0)] G (sW G q n nc t fl fd k wd wf wa cd cf) (fun u => sW G q n nc t fl fd k wd wf wa cd cf) (nI t) := by
  refine ofMI (cc := cX2_week) (maxL := 1) (ret := (some .int)) (by decide) rfl (Nat.le_of_ble_eq_true rfl) (fun p e s m below meth c A ls F hr hnm hH hl => ?_)
  have F : Fx G p s m _ meth c cX2_week 1 wsX2_week RX2 A := F
  have hx := F.1.1
  have hb := F.1.2.1
  have hl : lv_has ls 1 [(0, .ref (q 0))] := hl
  refine lv_aload_n hx hb dX2_week_0 rfl (lv_at hl 0 rfl) ?_
  refine rget (C := RX2) (T := TX2) (N := 8) (ref := RX2) F in_X2_week_X2 hH 0 rfl rfl 5 (by decide) (by decide +kernel) (fun _ h9 => h9) (v := .int (nI t)) rfl dX2_week_1 ?_
  exact retI F hr rfl (fun _ => 0) hH rfl (Nat.le_of_ble_eq_true rfl) (Nat.le_of_ble_eq_true rfl) dX2_week_4

set_option maxHeartbeats 4000000 in
set_option maxRecDepth 100000 in
theorem c_X2_firmOwes (l : Launch) (G : Gx) (q : Nat → Nat) (n nc t : Nat) (fl fd : Int32) (k : Nat → Int32) (wd : Nat → Nat → Nat) (wf : Nat → Nat → Int32) (wa : Nat → Nat → Nat → Int32) (cd : Nat → Nat) (cf : Nat → Nat → Int32) : MI l yX2_firmOwes wsX2_firmOwes ({ frames := 0, cells := 0, slots := 0, locals := 0 } : Room) [.ref (q 0)] G (sW G q n nc t fl fd k wd wf wa cd cf) (fun u => sW G q n nc t fl fd k wd wf wa cd cf) fd := by
  refine ofMI (cc := cX2_firmOwes) (maxL := 1) (ret := (some .int)) (by decide) rfl (Nat.le_of_ble_eq_true rfl) (fun p e s m below meth c A ls F hr hnm hH hl => ?_)
  have F : Fx G p s m _ meth c cX2_firmOwes 1 wsX2_firmOwes RX2 A := F
  have hx := F.1.1
  have hb := F.1.2.1
  have hl : lv_has ls 1 [(0, .ref (q 0))] := hl
  refine lv_aload_n hx hb dX2_firmOwes_0 rfl (lv_at hl 0 rfl) ?_
  refine rget (C := RX2) (T := TX2) (N := 8) (ref := RX2) F in_X2_firmOwes_X2 hH 0 rfl rfl 7 (by decide) (by decide +kernel) (fun _ h9 => h9) (v := .int fd) rfl dX2_firmOwes_1 ?_
  exact retI F hr rfl (fun _ => 0) hH rfl (Nat.le_of_ble_eq_true rfl) (Nat.le_of_ble_eq_true rfl) dX2_firmOwes_4

set_option maxHeartbeats 4000000 in
set_option maxRecDepth 100000 in
theorem c_X1_stepPercent (l : Launch) (G : Gx) (d : Nat → Nat) (f : Nat → Int32) (a : Nat → Nat → Int32) : MI l yX1_stepPercent wsX1_stepPercent ({ frames := 0, cells := 0, slots := 0, locals := 0 } : Room) [.ref (d 0)] G (wW G d f a) (fun u => wW G d f a) (stepP (f 9)) := by
  refine ofMI (cc := cX1_stepPercent) (maxL := 1) (ret := (some .int)) (by decide) rfl (Nat.le_of_ble_eq_true rfl) (fun p e s m below meth c A ls F hr hnm hH hl => ?_)
  have F : Fx G p s m _ meth c cX1_stepPercent 1 wsX1_stepPercent RX1 A := F
  have hx := F.1.1
  have hb := F.1.2.1
  have hl : lv_has ls 1 [(0, .ref (d 0))] := hl
  refine lv_aload_n hx hb dX1_stepPercent_0 rfl (lv_at hl 0 rfl) ?_
  refine rget (C := RX1) (T := TX1) (N := 12) (ref := RX1) F in_X1_stepPercent_X1 hH 0 rfl rfl 9 (by decide) (by decide +kernel) (fun _ h9 => h9) (v := .int (f 9)) rfl dX1_stepPercent_1 ?_
  refine lv_bipush (v := 24) hx hb dX1_stepPercent_4 (by decide) ?_
  refine lv_icmp_lt (tgt := 12) hx hb dX1_stepPercent_6 (by decide) (fun c_6 => ?_) (fun c_6 => ?_)
  · refine lv_aload_n hx hb dX1_stepPercent_12 rfl (lv_at hl 0 rfl) ?_
    refine rget (C := RX1) (T := TX1) (N := 12) (ref := RX1) F in_X1_stepPercent_X1 hH 0 rfl rfl 9 (by decide) (by decide +kernel) (fun _ h9 => h9) (v := .int (f 9)) rfl dX1_stepPercent_13 ?_
    refine lv_bipush (v := 12) hx hb dX1_stepPercent_16 (by decide) ?_
    refine lv_icmp_lt (tgt := 26) hx hb dX1_stepPercent_18 (by decide) (fun c_18 => ?_) (fun c_18 => ?_)
    · refine lv_bipush (v := 60) hx hb dX1_stepPercent_26 (by decide) ?_
      exact retI F hr rfl (fun _ => 0) hH (by unfold stepP; rw [if_pos c_6, if_pos c_18]) (Nat.le_of_ble_eq_true rfl) (Nat.le_of_ble_eq_true rfl) dX1_stepPercent_28
    · refine lv_bipush (v := 70) hx hb dX1_stepPercent_21 (by decide) ?_
      refine lv_goto (tgt := 28) hx hb dX1_stepPercent_23 (by decide) ?_
      exact retI F hr rfl (fun _ => 0) hH (by unfold stepP; rw [if_pos c_6, if_neg c_18]) (Nat.le_of_ble_eq_true rfl) (Nat.le_of_ble_eq_true rfl) dX1_stepPercent_28
  · refine lv_bipush (v := 80) hx hb dX1_stepPercent_9 (by decide) ?_
    exact retI F hr rfl (fun _ => 0) hH (by unfold stepP; rw [if_neg c_6]) (Nat.le_of_ble_eq_true rfl) (Nat.le_of_ble_eq_true rfl) dX1_stepPercent_11

set_option maxHeartbeats 4000000 in
set_option maxRecDepth 100000 in
theorem c_X1_hasFilled (l : Launch) (G : Gx) (d : Nat → Nat) (f : Nat → Int32) (a : Nat → Nat → Int32) (j : Nat) (hj : j < 201) : MI l yX1_hasFilled wsX1_hasFilled ({ frames := 0, cells := 0, slots := 0, locals := 0 } : Room) [.ref (d 0), .int (nI j)] G (wW G d f a) (fun u => wW G d f a) (fillB (a 3 j) (a 2 j)) := by
  refine ofMI (cc := cX1_hasFilled) (maxL := 2) (ret := (some .boolean)) (by decide) rfl (Nat.le_of_ble_eq_true rfl) (fun p e s m below meth c A ls F hr hnm hH hl => ?_)
  have F : Fx G p s m _ meth c cX1_hasFilled 2 wsX1_hasFilled RX1 A := F
  have hx := F.1.1
  have hb := F.1.2.1
  have hl : lv_has ls 2 [(0, .ref (d 0)), (1, .int (nI j))] := hl
  refine lv_aload_n hx hb dX1_hasFilled_0 rfl (lv_at hl 0 rfl) ?_
  refine rget (C := RX1) (T := TX1) (N := 12) (ref := RX1) F in_X1_hasFilled_X1 hH 0 rfl rfl 3 (by decide) (by decide +kernel) (fun _ h9 => h9) (v := .ref (d 3)) rfl dX1_hasFilled_1 ?_
  refine lv_iload_n hx hb dX1_hasFilled_4 rfl (lv_at hl 1 rfl) ?_
  refine riald F hH 2 (n := 201) (f := a 3) rfl j rfl hj (by decide) dX1_hasFilled_5 ?_
  refine lv_if_le (tgt := 30) hx hb dX1_hasFilled_6 (by decide) (fun c_6 => ?_) (fun c_6 => ?_)
  · refine lv_iconst (v := 0) hx hb dX1_hasFilled_30 (by decide) ?_
    exact retI F hr rfl (fun _ => 0) hH (by unfold fillB; rw [if_pos c_6]) (Nat.le_of_ble_eq_true rfl) (Nat.le_of_ble_eq_true rfl) dX1_hasFilled_31
  · refine lv_iconst (v := 2) hx hb dX1_hasFilled_9 (by decide) ?_
    refine lv_aload_n hx hb dX1_hasFilled_10 rfl (lv_at hl 0 rfl) ?_
    refine rget (C := RX1) (T := TX1) (N := 12) (ref := RX1) F in_X1_hasFilled_X1 hH 0 rfl rfl 3 (by decide) (by decide +kernel) (fun _ h9 => h9) (v := .ref (d 3)) rfl dX1_hasFilled_11 ?_
    refine lv_iload_n hx hb dX1_hasFilled_14 rfl (lv_at hl 1 rfl) ?_
    refine riald F hH 2 (n := 201) (f := a 3) rfl j rfl hj (by decide) dX1_hasFilled_15 ?_
    refine lv_imul hx hb dX1_hasFilled_16 ?_
    refine lv_aload_n hx hb dX1_hasFilled_17 rfl (lv_at hl 0 rfl) ?_
    refine rget (C := RX1) (T := TX1) (N := 12) (ref := RX1) F in_X1_hasFilled_X1 hH 0 rfl rfl 2 (by decide) (by decide +kernel) (fun _ h9 => h9) (v := .ref (d 2)) rfl dX1_hasFilled_18 ?_
    refine lv_iload_n hx hb dX1_hasFilled_21 rfl (lv_at hl 1 rfl) ?_
    refine riald F hH 1 (n := 201) (f := a 2) rfl j rfl hj (by decide) dX1_hasFilled_22 ?_
    refine lv_icmp_lt (tgt := 30) hx hb dX1_hasFilled_23 (by decide) (fun c_23 => ?_) (fun c_23 => ?_)
    · refine lv_iconst (v := 0) hx hb dX1_hasFilled_30 (by decide) ?_
      exact retI F hr rfl (fun _ => 0) hH (by unfold fillB; rw [if_neg c_6, if_pos c_23]) (Nat.le_of_ble_eq_true rfl) (Nat.le_of_ble_eq_true rfl) dX1_hasFilled_31
    · refine lv_iconst (v := 1) hx hb dX1_hasFilled_26 (by decide) ?_
      refine lv_goto (tgt := 31) hx hb dX1_hasFilled_27 (by decide) ?_
      exact retI F hr rfl (fun _ => 0) hH (by unfold fillB; rw [if_neg c_6, if_neg c_23]) (Nat.le_of_ble_eq_true rfl) (Nat.le_of_ble_eq_true rfl) dX1_hasFilled_31

set_option maxHeartbeats 4000000 in
set_option maxRecDepth 100000 in
theorem c_X1_hasWorkedTooMuch (l : Launch) (G : Gx) (d : Nat → Nat) (f : Nat → Int32) (a : Nat → Nat → Int32) (j : Nat) (hj : j < 201) : MI l yX1_hasWorkedTooMuch wsX1_hasWorkedTooMuch ({ frames := 0, cells := 0, slots := 0, locals := 0 } : Room) [.ref (d 0), .int (nI j)] G (wW G d f a) (fun u => wW G d f a) (muchB (a 2 j) (a 6 j) (a 5 j)) := by
  refine ofMI (cc := cX1_hasWorkedTooMuch) (maxL := 3) (ret := (some .boolean)) (by decide) rfl (Nat.le_of_ble_eq_true rfl) (fun p e s m below meth c A ls F hr hnm hH hl => ?_)
  have F : Fx G p s m _ meth c cX1_hasWorkedTooMuch 3 wsX1_hasWorkedTooMuch RX1 A := F
  have hx := F.1.1
  have hb := F.1.2.1
  have hl : lv_has ls 3 [(0, .ref (d 0)), (1, .int (nI j))] := hl
  refine lv_bipush (v := 40) hx hb dX1_hasWorkedTooMuch_0 (by decide) ?_
  refine lv_aload_n hx hb dX1_hasWorkedTooMuch_2 rfl (lv_at hl 0 rfl) ?_
  refine rget (C := RX1) (T := TX1) (N := 12) (ref := RX1) F in_X1_hasWorkedTooMuch_X1 hH 0 rfl rfl 2 (by decide) (by decide +kernel) (fun _ h9 => h9) (v := .ref (d 2)) rfl dX1_hasWorkedTooMuch_3 ?_
  refine lv_iload_n hx hb dX1_hasWorkedTooMuch_6 rfl (lv_at hl 1 rfl) ?_
  refine riald F hH 1 (n := 201) (f := a 2) rfl j rfl hj (by decide) dX1_hasWorkedTooMuch_7 ?_
  refine lv_isub hx hb dX1_hasWorkedTooMuch_8 ?_
  refine lv_iconst (v := 2) hx hb dX1_hasWorkedTooMuch_9 (by decide) ?_
  refine lv_iadd hx hb dX1_hasWorkedTooMuch_10 ?_
  refine lv_istore_n (lv' := [(2, .int ((40 - (a 2 j)) + 2)), (0, .ref (d 0)), (1, .int (nI j))]) hx hb dX1_hasWorkedTooMuch_11 rfl hl (by decide) rfl (fun ls hl => ?_)
  refine lv_aload_n hx hb dX1_hasWorkedTooMuch_12 rfl (lv_at hl 1 rfl) ?_
  refine rget (C := RX1) (T := TX1) (N := 12) (ref := RX1) F in_X1_hasWorkedTooMuch_X1 hH 0 rfl rfl 6 (by decide) (by decide +kernel) (fun _ h9 => h9) (v := .ref (d 6)) rfl dX1_hasWorkedTooMuch_13 ?_
  refine lv_iload_n hx hb dX1_hasWorkedTooMuch_16 rfl (lv_at hl 2 rfl) ?_
  refine riald F hH 5 (n := 201) (f := a 6) rfl j rfl hj (by decide) dX1_hasWorkedTooMuch_17 ?_
  refine lv_iload_n hx hb dX1_hasWorkedTooMuch_18 rfl (lv_at hl 0 rfl) ?_
  refine lv_icmp_le (tgt := 35) hx hb dX1_hasWorkedTooMuch_19 (by decide) (fun c_19 => ?_) (fun c_19 => ?_)
  · refine lv_iconst (v := 0) hx hb dX1_hasWorkedTooMuch_35 (by decide) ?_
    exact retI F hr rfl (fun _ => 0) hH (by unfold muchB; rw [if_pos c_19]) (Nat.le_of_ble_eq_true rfl) (Nat.le_of_ble_eq_true rfl) dX1_hasWorkedTooMuch_36
  · refine lv_aload_n hx hb dX1_hasWorkedTooMuch_22 rfl (lv_at hl 1 rfl) ?_
    refine rget (C := RX1) (T := TX1) (N := 12) (ref := RX1) F in_X1_hasWorkedTooMuch_X1 hH 0 rfl rfl 5 (by decide) (by decide +kernel) (fun _ h9 => h9) (v := .ref (d 5)) rfl dX1_hasWorkedTooMuch_23 ?_
    refine lv_iload_n hx hb dX1_hasWorkedTooMuch_26 rfl (lv_at hl 2 rfl) ?_
    refine riald F hH 4 (n := 201) (f := a 5) rfl j rfl hj (by decide) dX1_hasWorkedTooMuch_27 ?_
    refine lv_if_le (tgt := 35) hx hb dX1_hasWorkedTooMuch_28 (by decide) (fun c_28 => ?_) (fun c_28 => ?_)
    · refine lv_iconst (v := 0) hx hb dX1_hasWorkedTooMuch_35 (by decide) ?_
      exact retI F hr rfl (fun _ => 0) hH (by unfold muchB; rw [if_neg c_19, if_pos c_28]) (Nat.le_of_ble_eq_true rfl) (Nat.le_of_ble_eq_true rfl) dX1_hasWorkedTooMuch_36
    · refine lv_iconst (v := 1) hx hb dX1_hasWorkedTooMuch_31 (by decide) ?_
      refine lv_goto (tgt := 36) hx hb dX1_hasWorkedTooMuch_32 (by decide) ?_
      exact retI F hr rfl (fun _ => 0) hH (by unfold muchB; rw [if_neg c_19, if_neg c_28]) (Nat.le_of_ble_eq_true rfl) (Nat.le_of_ble_eq_true rfl) dX1_hasWorkedTooMuch_36

set_option maxHeartbeats 4000000 in
set_option maxRecDepth 100000 in
theorem c_X1_madeUpPercent (l : Launch) (G : Gx) (d : Nat → Nat) (f : Nat → Int32) (a : Nat → Nat → Int32) (j : Nat) (hj : j < 201) : MI l yX1_madeUpPercent wsX1_madeUpPercent ({ frames := 1, cells := 0, slots := 0, locals := 21 } : Room) [.ref (d 0), .int (nI j)] G (wW G d f a) (fun u => wW G d f a) (pctS (f 1) (f 9) (fillB (a 3 j) (a 2 j))) := by
  refine ofMI (cc := cX1_madeUpPercent) (maxL := 3) (ret := (some .int)) (by decide) rfl (Nat.le_of_ble_eq_true rfl) (fun p e s m below meth c A ls F hr hnm hH hl => ?_)
  have F : Fx G p s m _ meth c cX1_madeUpPercent 3 wsX1_madeUpPercent RX1 A := F
  have hx := F.1.1
  have hb := F.1.2.1
  have hl : lv_has ls 3 [(0, .ref (d 0)), (1, .int (nI j))] := hl
  refine lv_aload_n hx hb dX1_madeUpPercent_0 rfl (lv_at hl 0 rfl) ?_
  refine callVI0 (rest := []) F (c_X1_stepPercent l G d f a) gX1_madeUpPercent_X1_stepPercent rfl hdX1_stepPercent ⟨Nat.le_of_ble_eq_true rfl, Nat.le_of_ble_eq_true rfl⟩ hH ⟨0, 1, _, _, rfl, rfl, rfl⟩ rfl hl.1 (Nat.le_of_ble_eq_true rfl) dX1_madeUpPercent_1 ⟨Nat.le_of_ble_eq_true rfl, Nat.le_of_ble_eq_true rfl⟩ rfl (fun u H locs hH => ?_)
  have hH : HH G A s (wW G d f a) H locs := hH
  refine lv_istore_n (lv' := [(2, .int (stepP (f 9))), (0, .ref (d 0)), (1, .int (nI j))]) hx hb dX1_madeUpPercent_4 rfl hl (by decide) rfl (fun ls hl => ?_)
  refine lv_aload_n hx hb dX1_madeUpPercent_5 rfl (lv_at hl 1 rfl) ?_
  refine rget (C := RX1) (T := TX1) (N := 12) (ref := RX1) F in_X1_madeUpPercent_X1 hH 0 rfl rfl 1 (by decide) (by decide +kernel) (fun _ h9 => h9) (v := .int (f 1)) rfl dX1_madeUpPercent_6 ?_
  refine lv_if_eq (tgt := 15) hx hb dX1_madeUpPercent_9 (by decide) (fun c_9 => ?_) (fun c_9 => ?_)
  · refine lv_aload_n hx hb dX1_madeUpPercent_15 rfl (lv_at hl 1 rfl) ?_
    refine lv_iload_n hx hb dX1_madeUpPercent_16 rfl (lv_at hl 2 rfl) ?_
    refine callVI0 (rest := []) F (c_X1_hasFilled l G d f a j hj) gX1_madeUpPercent_X1_hasFilled rfl hdX1_hasFilled ⟨Nat.le_of_ble_eq_true rfl, Nat.le_of_ble_eq_true rfl⟩ hH ⟨0, 1, _, _, rfl, rfl, rfl⟩ rfl hl.1 (Nat.le_of_ble_eq_true rfl) dX1_madeUpPercent_17 ⟨Nat.le_of_ble_eq_true rfl, Nat.le_of_ble_eq_true rfl⟩ rfl (fun u H locs hH => ?_)
    have hH : HH G A s (wW G d f a) H locs := hH
    refine lv_if_eq (tgt := 29) hx hb dX1_madeUpPercent_20 (by decide) (fun c_20 => ?_) (fun c_20 => ?_)
    · refine lv_aload_n hx hb dX1_madeUpPercent_29 rfl (lv_at hl 1 rfl) ?_
      refine rget (C := RX1) (T := TX1) (N := 12) (ref := RX1) F in_X1_madeUpPercent_X1 hH 0 rfl rfl 9 (by decide) (by decide +kernel) (fun _ h9 => h9) (v := .int (f 9)) rfl dX1_madeUpPercent_30 ?_
      refine lv_bipush (v := 12) hx hb dX1_madeUpPercent_33 (by decide) ?_
      refine lv_icmp_lt (tgt := 41) hx hb dX1_madeUpPercent_35 (by decide) (fun c_35 => ?_) (fun c_35 => ?_)
      · refine lv_iload_n hx hb dX1_madeUpPercent_41 rfl (lv_at hl 0 rfl) ?_
        exact retI F hr rfl (fun _ => 0) hH (by unfold pctS; dsimp only; rw [if_pos c_20, if_pos c_35, if_pos c_9]) (Nat.le_of_ble_eq_true rfl) (Nat.le_of_ble_eq_true rfl) dX1_madeUpPercent_42
      · refine lv_iinc (v := ((stepP (f 9)) + (-10))) (lv' := [(2, .int ((stepP (f 9)) + (-10))), (0, .ref (d 0)), (1, .int (nI j))]) hx hb dX1_madeUpPercent_38 hl (k := 0) rfl rfl (by decide) rfl (fun ls hl => ?_)
        refine lv_iload_n hx hb dX1_madeUpPercent_41 rfl (lv_at hl 0 rfl) ?_
        exact retI F hr rfl (fun _ => 0) hH (by unfold pctS; dsimp only; rw [if_pos c_20, if_neg c_35, if_pos c_9]) (Nat.le_of_ble_eq_true rfl) (Nat.le_of_ble_eq_true rfl) dX1_madeUpPercent_42
    · refine lv_iinc (v := ((stepP (f 9)) + 5)) (lv' := [(2, .int ((stepP (f 9)) + 5)), (0, .ref (d 0)), (1, .int (nI j))]) hx hb dX1_madeUpPercent_23 hl (k := 0) rfl rfl (by decide) rfl (fun ls hl => ?_)
      refine lv_goto (tgt := 41) hx hb dX1_madeUpPercent_26 (by decide) ?_
      refine lv_iload_n hx hb dX1_madeUpPercent_41 rfl (lv_at hl 0 rfl) ?_
      exact retI F hr rfl (fun _ => 0) hH (by unfold pctS; dsimp only; rw [if_neg c_20, if_pos c_9]) (Nat.le_of_ble_eq_true rfl) (Nat.le_of_ble_eq_true rfl) dX1_madeUpPercent_42
  · refine lv_iinc (v := ((stepP (f 9)) + 7)) (lv' := [(2, .int ((stepP (f 9)) + 7)), (0, .ref (d 0)), (1, .int (nI j))]) hx hb dX1_madeUpPercent_12 hl (k := 0) rfl rfl (by decide) rfl (fun ls hl => ?_)
    refine lv_aload_n hx hb dX1_madeUpPercent_15 rfl (lv_at hl 1 rfl) ?_
    refine lv_iload_n hx hb dX1_madeUpPercent_16 rfl (lv_at hl 2 rfl) ?_
    refine callVI0 (rest := []) F (c_X1_hasFilled l G d f a j hj) gX1_madeUpPercent_X1_hasFilled rfl hdX1_hasFilled ⟨Nat.le_of_ble_eq_true rfl, Nat.le_of_ble_eq_true rfl⟩ hH ⟨0, 1, _, _, rfl, rfl, rfl⟩ rfl hl.1 (Nat.le_of_ble_eq_true rfl) dX1_madeUpPercent_17 ⟨Nat.le_of_ble_eq_true rfl, Nat.le_of_ble_eq_true rfl⟩ rfl (fun u H locs hH => ?_)
    have hH : HH G A s (wW G d f a) H locs := hH
    refine lv_if_eq (tgt := 29) hx hb dX1_madeUpPercent_20 (by decide) (fun c_20 => ?_) (fun c_20 => ?_)
    · refine lv_aload_n hx hb dX1_madeUpPercent_29 rfl (lv_at hl 1 rfl) ?_
      refine rget (C := RX1) (T := TX1) (N := 12) (ref := RX1) F in_X1_madeUpPercent_X1 hH 0 rfl rfl 9 (by decide) (by decide +kernel) (fun _ h9 => h9) (v := .int (f 9)) rfl dX1_madeUpPercent_30 ?_
      refine lv_bipush (v := 12) hx hb dX1_madeUpPercent_33 (by decide) ?_
      refine lv_icmp_lt (tgt := 41) hx hb dX1_madeUpPercent_35 (by decide) (fun c_35 => ?_) (fun c_35 => ?_)
      · refine lv_iload_n hx hb dX1_madeUpPercent_41 rfl (lv_at hl 0 rfl) ?_
        exact retI F hr rfl (fun _ => 0) hH (by unfold pctS; dsimp only; rw [if_pos c_20, if_pos c_35, if_neg c_9]) (Nat.le_of_ble_eq_true rfl) (Nat.le_of_ble_eq_true rfl) dX1_madeUpPercent_42
      · refine lv_iinc (v := (((stepP (f 9)) + 7) + (-10))) (lv' := [(2, .int (((stepP (f 9)) + 7) + (-10))), (0, .ref (d 0)), (1, .int (nI j))]) hx hb dX1_madeUpPercent_38 hl (k := 0) rfl rfl (by decide) rfl (fun ls hl => ?_)
        refine lv_iload_n hx hb dX1_madeUpPercent_41 rfl (lv_at hl 0 rfl) ?_
        exact retI F hr rfl (fun _ => 0) hH (by unfold pctS; dsimp only; rw [if_pos c_20, if_neg c_35, if_neg c_9]) (Nat.le_of_ble_eq_true rfl) (Nat.le_of_ble_eq_true rfl) dX1_madeUpPercent_42
    · refine lv_iinc (v := (((stepP (f 9)) + 7) + 5)) (lv' := [(2, .int (((stepP (f 9)) + 7) + 5)), (0, .ref (d 0)), (1, .int (nI j))]) hx hb dX1_madeUpPercent_23 hl (k := 0) rfl rfl (by decide) rfl (fun ls hl => ?_)
      refine lv_goto (tgt := 41) hx hb dX1_madeUpPercent_26 (by decide) ?_
      refine lv_iload_n hx hb dX1_madeUpPercent_41 rfl (lv_at hl 0 rfl) ?_
      exact retI F hr rfl (fun _ => 0) hH (by unfold pctS; dsimp only; rw [if_neg c_20, if_neg c_9]) (Nat.le_of_ble_eq_true rfl) (Nat.le_of_ble_eq_true rfl) dX1_madeUpPercent_42

set_option maxHeartbeats 4000000 in
set_option maxRecDepth 100000 in
theorem c_X1_payFor (l : Launch) (G : Gx) (d : Nat → Nat) (f : Nat → Int32) (a : Nat → Nat → Int32) (j : Nat) (hj : j < 201) (fl : Int32) : MI l yX1_payFor wsX1_payFor ({ frames := 2, cells := 0, slots := 0, locals := 43 } : Room) [.ref (d 0), .int (nI j), .int fl] G (wW G d f a) (fun u => wW G d (va_up (va_up f 10 (f 10 + (firmP (f 0) (a 2 j) + fundP (f 0) (a 2 j) (pctS (f 1) (f 9) (fillB (a 3 j) (a 2 j))) fl))) 9 (if a 2 j ≤ 0 then f 9 else f 9 + 1)) (va_up (va_up a 4 (upd (a 4) j (firmP (f 0) (a 2 j)))) 5 (upd (a 5) j (fundP (f 0) (a 2 j) (pctS (f 1) (f 9) (fillB (a 3 j) (a 2 j))) fl)))) (fundP (f 0) (a 2 j) (pctS (f 1) (f 9) (fillB (a 3 j) (a 2 j))) fl) := by
  refine ofMI (cc := cX1_payFor) (maxL := 6) (ret := (some .int)) (by decide) rfl (Nat.le_of_ble_eq_true rfl) (fun p e s m below meth c A ls F hr hnm hH hl => ?_)
  have F : Fx G p s m _ meth c cX1_payFor 6 wsX1_payFor RX1 A := F
  have hx := F.1.1
  have hb := F.1.2.1
  have hl : lv_has ls 6 [(0, .ref (d 0)), (1, .int (nI j)), (2, .int fl)] := hl
  refine lv_aload_n hx hb dX1_payFor_0 rfl (lv_at hl 0 rfl) ?_
  refine rget (C := RX1) (T := TX1) (N := 12) (ref := RX1) F in_X1_payFor_X1 hH 0 rfl rfl 0 (by decide) (by decide +kernel) (fun _ h9 => h9) (v := .int (f 0)) rfl dX1_payFor_1 ?_
  refine lv_bipush (v := 40) hx hb dX1_payFor_4 (by decide) ?_
  refine lv_aload_n hx hb dX1_payFor_6 rfl (lv_at hl 0 rfl) ?_
  refine rget (C := RX1) (T := TX1) (N := 12) (ref := RX1) F in_X1_payFor_X1 hH 0 rfl rfl 2 (by decide) (by decide +kernel) (fun _ h9 => h9) (v := .ref (d 2)) rfl dX1_payFor_7 ?_
  refine lv_iload_n hx hb dX1_payFor_10 rfl (lv_at hl 1 rfl) ?_
  refine riald F hH 1 (n := 201) (f := a 2) rfl j rfl hj (by decide) dX1_payFor_11 ?_
  refine lv_isub hx hb dX1_payFor_12 ?_
  refine lv_imul hx hb dX1_payFor_13 ?_
  refine lv_bipush (v := 40) hx hb dX1_payFor_14 (by decide) ?_
  refine lv_idiv hx hb dX1_payFor_16 (by decide) ?_
  refine lv_istore_n (lv' := [(3, .int (((f 0) * (40 - (a 2 j))) / 40)), (0, .ref (d 0)), (1, .int (nI j)), (2, .int fl)]) hx hb dX1_payFor_17 rfl hl (by decide) rfl (fun ls hl => ?_)
  refine lv_aload_n hx hb dX1_payFor_18 rfl (lv_at hl 1 rfl) ?_
  refine rget (C := RX1) (T := TX1) (N := 12) (ref := RX1) F in_X1_payFor_X1 hH 0 rfl rfl 0 (by decide) (by decide +kernel) (fun _ h9 => h9) (v := .int (f 0)) rfl dX1_payFor_19 ?_
  refine lv_iload_n hx hb dX1_payFor_22 rfl (lv_at hl 0 rfl) ?_
  refine lv_isub hx hb dX1_payFor_23 ?_
  refine lv_aload_n hx hb dX1_payFor_24 rfl (lv_at hl 1 rfl) ?_
  refine lv_iload_n hx hb dX1_payFor_25 rfl (lv_at hl 2 rfl) ?_
  refine callVI0 (rest := [.int ((f 0) - (((f 0) * (40 - (a 2 j))) / 40))]) F (c_X1_madeUpPercent l G d f a j hj) gX1_payFor_X1_madeUpPercent rfl hdX1_madeUpPercent ⟨Nat.le_of_ble_eq_true rfl, Nat.le_of_ble_eq_true rfl⟩ hH ⟨0, 1, _, _, rfl, rfl, rfl⟩ rfl hl.1 (Nat.le_of_ble_eq_true rfl) dX1_payFor_26 ⟨Nat.le_of_ble_eq_true rfl, Nat.le_of_ble_eq_true rfl⟩ rfl (fun u H locs hH => ?_)
  have hH : HH G A s (wW G d f a) H locs := hH
  refine lv_imul hx hb dX1_payFor_29 ?_
  refine lv_bipush (v := 100) hx hb dX1_payFor_30 (by decide) ?_
  refine lv_idiv hx hb dX1_payFor_32 (by decide) ?_
  refine lv_istore (lv' := [(4, .int ((((f 0) - (((f 0) * (40 - (a 2 j))) / 40)) * (pctS (f 1) (f 9) (fillB (a 3 j) (a 2 j)))) / 100)), (3, .int (((f 0) * (40 - (a 2 j))) / 40)), (0, .ref (d 0)), (1, .int (nI j)), (2, .int fl)]) hx hb dX1_payFor_33 hl (by decide) rfl (fun ls hl => ?_)
  refine lv_aload_n hx hb dX1_payFor_35 rfl (lv_at hl 2 rfl) ?_
  refine rget (C := RX1) (T := TX1) (N := 12) (ref := RX1) F in_X1_payFor_X1 hH 0 rfl rfl 0 (by decide) (by decide +kernel) (fun _ h9 => h9) (v := .int (f 0)) rfl dX1_payFor_36 ?_
  refine lv_iload_n hx hb dX1_payFor_39 rfl (lv_at hl 4 rfl) ?_
  refine lv_imul hx hb dX1_payFor_40 ?_
  refine lv_bipush (v := 100) hx hb dX1_payFor_41 (by decide) ?_
  refine lv_idiv hx hb dX1_payFor_43 (by decide) ?_
  refine lv_istore (lv' := [(5, .int (((f 0) * fl) / 100)), (4, .int ((((f 0) - (((f 0) * (40 - (a 2 j))) / 40)) * (pctS (f 1) (f 9) (fillB (a 3 j) (a 2 j)))) / 100)), (3, .int (((f 0) * (40 - (a 2 j))) / 40)), (0, .ref (d 0)), (1, .int (nI j)), (2, .int fl)]) hx hb dX1_payFor_44 hl (by decide) rfl (fun ls hl => ?_)
  refine lv_iload hx hb dX1_payFor_46 (lv_at hl 1 rfl) ?_
  refine lv_iload hx hb dX1_payFor_48 (lv_at hl 0 rfl) ?_
  refine lv_iload_n hx hb dX1_payFor_50 rfl (lv_at hl 2 rfl) ?_
  refine lv_isub hx hb dX1_payFor_51 ?_
  refine va_mmax hx hb (by rw [F.1.2.2.1]; exact hl.1.symm) F.1.2.2.2.1 (F.1.2.2.2.2 (.methodLink RX1 57 Lib.Math.max.name) (by decide +kernel)) (F.1.2.2.2.2 (.static Lib.Math.max.name) (by decide +kernel)) (F.1.2.2.2.2 (.initialized "java/lang/Math") (by decide +kernel)) (F.1.2.2.2.2 (.code Lib.Math.max.name Lib.Math.max.code 2 (some .int)) (by decide +kernel)) (Nat.le_of_ble_eq_true rfl) (Nat.le_of_ble_eq_true rfl) (Nat.le_of_ble_eq_true rfl) (Nat.le_of_ble_eq_true rfl) dX1_payFor_52 ?_
  refine lv_istore (lv' := [(4, .int (if ((((f 0) - (((f 0) * (40 - (a 2 j))) / 40)) * (pctS (f 1) (f 9) (fillB (a 3 j) (a 2 j)))) / 100) < ((((f 0) * fl) / 100) - (((f 0) * (40 - (a 2 j))) / 40)) then ((((f 0) * fl) / 100) - (((f 0) * (40 - (a 2 j))) / 40)) else ((((f 0) - (((f 0) * (40 - (a 2 j))) / 40)) * (pctS (f 1) (f 9) (fillB (a 3 j) (a 2 j)))) / 100))), (5, .int (((f 0) * fl) / 100)), (3, .int (((f 0) * (40 - (a 2 j))) / 40)), (0, .ref (d 0)), (1, .int (nI j)), (2, .int fl)]) hx hb dX1_payFor_55 hl (by decide) rfl (fun ls hl => ?_)
  refine lv_aload_n hx hb dX1_payFor_57 rfl (lv_at hl 3 rfl) ?_
  refine rget (C := RX1) (T := TX1) (N := 12) (ref := RX1) F in_X1_payFor_X1 hH 0 rfl rfl 4 (by decide) (by decide +kernel) (fun _ h9 => h9) (v := .ref (d 4)) rfl dX1_payFor_58 ?_
  refine lv_iload_n hx hb dX1_payFor_61 rfl (lv_at hl 4 rfl) ?_
  refine lv_iload_n hx hb dX1_payFor_62 rfl (lv_at hl 2 rfl) ?_
  refine riast F hH 3 (n := 201) (f := a 4) rfl j rfl hj (by decide) dX1_payFor_63 (fun H locs hH => ?_)
  have hH : HH G A s (wW G d f (va_up a 4 (upd (a 4) j (((f 0) * (40 - (a 2 j))) / 40)))) H locs := hH
  refine lv_aload_n hx hb dX1_payFor_64 rfl (lv_at hl 3 rfl) ?_
  refine rget (C := RX1) (T := TX1) (N := 12) (ref := RX1) F in_X1_payFor_X1 hH 0 rfl rfl 5 (by decide) (by decide +kernel) (fun _ h9 => h9) (v := .ref (d 5)) rfl dX1_payFor_65 ?_
  refine lv_iload_n hx hb dX1_payFor_68 rfl (lv_at hl 4 rfl) ?_
  refine lv_iload hx hb dX1_payFor_69 (lv_at hl 0 rfl) ?_
  refine riast F hH 4 (n := 201) (f := a 5) rfl j rfl hj (by decide) dX1_payFor_71 (fun H locs hH => ?_)
  have hH : HH G A s (wW G d f (va_up (va_up a 4 (upd (a 4) j (((f 0) * (40 - (a 2 j))) / 40))) 5 (upd (a 5) j (if ((((f 0) - (((f 0) * (40 - (a 2 j))) / 40)) * (pctS (f 1) (f 9) (fillB (a 3 j) (a 2 j)))) / 100) < ((((f 0) * fl) / 100) - (((f 0) * (40 - (a 2 j))) / 40)) then ((((f 0) * fl) / 100) - (((f 0) * (40 - (a 2 j))) / 40)) else ((((f 0) - (((f 0) * (40 - (a 2 j))) / 40)) * (pctS (f 1) (f 9) (fillB (a 3 j) (a 2 j)))) / 100))))) H locs := hH
  refine lv_aload_n hx hb dX1_payFor_72 rfl (lv_at hl 3 rfl) ?_
  refine lv_dup hx hb dX1_payFor_73 rfl ?_
  refine rget (C := RX1) (T := TX1) (N := 12) (ref := RX1) F in_X1_payFor_X1 hH 0 rfl rfl 10 (by decide) (by decide +kernel) (fun _ h9 => h9) (v := .int (f 10)) rfl dX1_payFor_74 ?_
  refine lv_iload_n hx hb dX1_payFor_77 rfl (lv_at hl 2 rfl) ?_
  refine lv_iload hx hb dX1_payFor_78 (lv_at hl 0 rfl) ?_
  refine lv_iadd hx hb dX1_payFor_80 ?_
  refine lv_iadd hx hb dX1_payFor_81 ?_
  refine rput (C := RX1) (T := TX1) (N := 12) (ref := RX1) F in_X1_payFor_X1 tyX1 tyX1_ok nmX1 hH 0 rfl rfl 10 (by decide) (by decide +kernel) (fun _ h9 => h9) rfl (v := .int ((f 10) + ((((f 0) * (40 - (a 2 j))) / 40) + (if ((((f 0) - (((f 0) * (40 - (a 2 j))) / 40)) * (pctS (f 1) (f 9) (fillB (a 3 j) (a 2 j)))) / 100) < ((((f 0) * fl) / 100) - (((f 0) * (40 - (a 2 j))) / 40)) then ((((f 0) * fl) / 100) - (((f 0) * (40 - (a 2 j))) / 40)) else ((((f 0) - (((f 0) * (40 - (a 2 j))) / 40)) * (pctS (f 1) (f 9) (fillB (a 3 j) (a 2 j)))) / 100))))) rfl rfl (Nat.le_of_ble_eq_true rfl) dX1_payFor_82 (fun H locs hH => ?_)
  have hH : HH G A s (wW G d (va_up f 10 ((f 10) + ((((f 0) * (40 - (a 2 j))) / 40) + (if ((((f 0) - (((f 0) * (40 - (a 2 j))) / 40)) * (pctS (f 1) (f 9) (fillB (a 3 j) (a 2 j)))) / 100) < ((((f 0) * fl) / 100) - (((f 0) * (40 - (a 2 j))) / 40)) then ((((f 0) * fl) / 100) - (((f 0) * (40 - (a 2 j))) / 40)) else ((((f 0) - (((f 0) * (40 - (a 2 j))) / 40)) * (pctS (f 1) (f 9) (fillB (a 3 j) (a 2 j)))) / 100))))) (va_up (va_up a 4 (upd (a 4) j (((f 0) * (40 - (a 2 j))) / 40))) 5 (upd (a 5) j (if ((((f 0) - (((f 0) * (40 - (a 2 j))) / 40)) * (pctS (f 1) (f 9) (fillB (a 3 j) (a 2 j)))) / 100) < ((((f 0) * fl) / 100) - (((f 0) * (40 - (a 2 j))) / 40)) then ((((f 0) * fl) / 100) - (((f 0) * (40 - (a 2 j))) / 40)) else ((((f 0) - (((f 0) * (40 - (a 2 j))) / 40)) * (pctS (f 1) (f 9) (fillB (a 3 j) (a 2 j)))) / 100))))) H locs := hH
  refine lv_aload_n hx hb dX1_payFor_85 rfl (lv_at hl 3 rfl) ?_
  refine rget (C := RX1) (T := TX1) (N := 12) (ref := RX1) F in_X1_payFor_X1 hH 0 rfl rfl 2 (by decide) (by decide +kernel) (fun _ h9 => h9) (v := .ref (d 2)) rfl dX1_payFor_86 ?_
  refine lv_iload_n hx hb dX1_payFor_89 rfl (lv_at hl 4 rfl) ?_
  refine riald F hH 1 (n := 201) (f := a 2) rfl j rfl hj (by decide) dX1_payFor_90 ?_
  refine lv_if_le (tgt := 104) hx hb dX1_payFor_91 (by decide) (fun c_91 => ?_) (fun c_91 => ?_)
  · refine lv_iload hx hb dX1_payFor_104 (lv_at hl 0 rfl) ?_
    exact retI F hr rfl (fun _ => 0) (by rw [if_pos c_91]; exact hH) rfl (Nat.le_of_ble_eq_true rfl) (Nat.le_of_ble_eq_true rfl) dX1_payFor_106
  · refine lv_aload_n hx hb dX1_payFor_94 rfl (lv_at hl 3 rfl) ?_
    refine lv_dup hx hb dX1_payFor_95 rfl ?_
    refine rget (C := RX1) (T := TX1) (N := 12) (ref := RX1) F in_X1_payFor_X1 hH 0 rfl rfl 9 (by decide) (by decide +kernel) (fun _ h9 => h9) (v := .int (f 9)) rfl dX1_payFor_96 ?_
    refine lv_iconst (v := 1) hx hb dX1_payFor_99 (by decide) ?_
    refine lv_iadd hx hb dX1_payFor_100 ?_
    refine rput (C := RX1) (T := TX1) (N := 12) (ref := RX1) F in_X1_payFor_X1 tyX1 tyX1_ok nmX1 hH 0 rfl rfl 9 (by decide) (by decide +kernel) (fun _ h9 => h9) rfl (v := .int ((f 9) + 1)) rfl rfl (Nat.le_of_ble_eq_true rfl) dX1_payFor_101 (fun H locs hH => ?_)
    have hH : HH G A s (wW G d (va_up (va_up f 10 ((f 10) + ((((f 0) * (40 - (a 2 j))) / 40) + (if ((((f 0) - (((f 0) * (40 - (a 2 j))) / 40)) * (pctS (f 1) (f 9) (fillB (a 3 j) (a 2 j)))) / 100) < ((((f 0) * fl) / 100) - (((f 0) * (40 - (a 2 j))) / 40)) then ((((f 0) * fl) / 100) - (((f 0) * (40 - (a 2 j))) / 40)) else ((((f 0) - (((f 0) * (40 - (a 2 j))) / 40)) * (pctS (f 1) (f 9) (fillB (a 3 j) (a 2 j)))) / 100))))) 9 ((f 9) + 1)) (va_up (va_up a 4 (upd (a 4) j (((f 0) * (40 - (a 2 j))) / 40))) 5 (upd (a 5) j (if ((((f 0) - (((f 0) * (40 - (a 2 j))) / 40)) * (pctS (f 1) (f 9) (fillB (a 3 j) (a 2 j)))) / 100) < ((((f 0) * fl) / 100) - (((f 0) * (40 - (a 2 j))) / 40)) then ((((f 0) * fl) / 100) - (((f 0) * (40 - (a 2 j))) / 40)) else ((((f 0) - (((f 0) * (40 - (a 2 j))) / 40)) * (pctS (f 1) (f 9) (fillB (a 3 j) (a 2 j)))) / 100))))) H locs := hH
    refine lv_iload hx hb dX1_payFor_104 (lv_at hl 0 rfl) ?_
    exact retI F hr rfl (fun _ => 0) (by rw [if_neg c_91]; exact hH) rfl (Nat.le_of_ble_eq_true rfl) (Nat.le_of_ble_eq_true rfl) dX1_payFor_106
end
section
theorem hdX2_hasPassed : yX2_hasPassed.cls = RX2 ∧ yX2_hasPassed.cls ≠ "java/lang/invoke/MethodHandle" ∧ yX2_hasPassed.cls ≠ "java/lang/invoke/VarHandle" ∧ (parseMethodDescriptor yX2_hasPassed.desc).map (fun d => d.parameters.length) = some 1 := by decide +kernel
theorem hdX2_requireArgument : yX2_requireArgument.cls = RX2 ∧ yX2_requireArgument.cls ≠ "java/lang/invoke/MethodHandle" ∧ yX2_requireArgument.cls ≠ "java/lang/invoke/VarHandle" ∧ (parseMethodDescriptor yX2_requireArgument.desc).map (fun d => d.parameters.length) = some 1 := by decide +kernel
theorem hdX2_requireState : yX2_requireState.cls = RX2 ∧ yX2_requireState.cls ≠ "java/lang/invoke/MethodHandle" ∧ yX2_requireState.cls ≠ "java/lang/invoke/VarHandle" ∧ (parseMethodDescriptor yX2_requireState.desc).map (fun d => d.parameters.length) = some 1 := by decide +kernel
theorem hdX2_workerAt : yX2_workerAt.cls = RX2 ∧ yX2_workerAt.cls ≠ "java/lang/invoke/MethodHandle" ∧ yX2_workerAt.cls ≠ "java/lang/invoke/VarHandle" ∧ (parseMethodDescriptor yX2_workerAt.desc).map (fun d => d.parameters.length) = some 1 := by decide +kernel
theorem in_X1_hasNoCourseFrom_X1 : ∀ w ∈ wsX10, w ∈ wsX1_hasNoCourseFrom := by decide +kernel
theorem in_X1_takeNotice_X1 : ∀ w ∈ wsX10, w ∈ wsX1_takeNotice := by decide +kernel
theorem in_X2_chargeBack_X1 : ∀ w ∈ wsX10, w ∈ wsX2_chargeBack := by decide +kernel
theorem in_X2_chargeBack_X2 : ∀ w ∈ wsX20, w ∈ wsX2_chargeBack := by decide +kernel
theorem in_X2_cut_X1 : ∀ w ∈ wsX10, w ∈ wsX2_cut := by decide +kernel
theorem in_X2_cutWeeks_X1 : ∀ w ∈ wsX10, w ∈ wsX2_cutWeeks := by decide +kernel
theorem in_X2_door_X1 : ∀ w ∈ wsX10, w ∈ wsX2_door := by decide +kernel
theorem in_X2_door_X2 : ∀ w ∈ wsX20, w ∈ wsX2_door := by decide +kernel
theorem in_X2_madeUp_X1 : ∀ w ∈ wsX10, w ∈ wsX2_madeUp := by decide +kernel
theorem in_X2_mail_X1 : ∀ w ∈ wsX10, w ∈ wsX2_mail := by decide +kernel
theorem in_X2_mail_X2 : ∀ w ∈ wsX20, w ∈ wsX2_mail := by decide +kernel
theorem in_X2_net_X1 : ∀ w ∈ wsX10, w ∈ wsX2_net := by decide +kernel
theorem in_X2_owes_X1 : ∀ w ∈ wsX10, w ∈ wsX2_owes := by decide +kernel
theorem in_X2_paid_X1 : ∀ w ∈ wsX10, w ∈ wsX2_paid := by decide +kernel
theorem in_X2_setFloor_X2 : ∀ w ∈ wsX20, w ∈ wsX2_setFloor := by decide +kernel
end
section
set_option maxHeartbeats 4000000 in
set_option maxRecDepth 100000 in
theorem c_X2_cut_1 (l : Launch) (G : Gx) (q : Nat → Nat) (n nc t : Nat) (fl fd : Int32) (k : Nat → Int32) (wd : Nat → Nat → Nat) (wf : Nat → Nat → Int32) (wa : Nat → Nat → Nat → Int32) (cd : Nat → Nat) (cf : Nat → Nat → Int32) (hn : n ≤ 8) (i : Nat) (hi : i < n) (j : Nat) (hj : j ≤ 200) : MI l yX2_cut wsX2_cut ({ frames := 2, cells := 0, slots := 0, locals := 44 } : Room) [.ref (q 0), .int (nI i), .int (nI j)] G (sW G q n nc t fl fd k wd wf wa cd cf) (fun u => sW G q n nc t fl fd k wd wf wa cd cf) (wa i 2 j) := by
  refine ofMI (cc := cX2_cut) (maxL := 4) (ret := (some .int)) (by decide) rfl (Nat.le_of_ble_eq_true rfl) (fun p e s m below meth c A ls F hr hnm hH hl => ?_)
  have F : Fx G p s m _ meth c cX2_cut 4 wsX2_cut RX2 A := F
  have hx := F.1.1
  have hb := F.1.2.1
  have hl : lv_has ls 4 [(0, .ref (q 0)), (1, .int (nI i)), (2, .int (nI j))] := hl
  refine lv_aload_n hx hb dX2_cut_0 rfl (lv_at hl 0 rfl) ?_
  refine lv_iload_n hx hb dX2_cut_1 rfl (lv_at hl 1 rfl) ?_
  refine callVR0 (rest := []) F (c_X2_workerAt_1 l G q n nc t fl fd k wd wf wa cd cf hn i hi) gX2_cut_X2_workerAt rfl hdX2_workerAt ⟨Nat.le_of_ble_eq_true rfl, Nat.le_of_ble_eq_true rfl⟩ hH ⟨0, 2, _, _, rfl, rfl, rfl⟩ rfl hl.1 (Nat.le_of_ble_eq_true rfl) dX2_cut_2 ⟨Nat.le_of_ble_eq_true rfl, Nat.le_of_ble_eq_true rfl⟩ rfl (fun H locs hH => ?_)
  refine lv_astore_n (lv' := [(3, .ref (wd i 0)), (0, .ref (q 0)), (1, .int (nI i)), (2, .int (nI j))]) hx hb dX2_cut_5 rfl hl (by decide) rfl (fun ls hl => ?_)
  refine lv_iload_n hx hb dX2_cut_6 rfl (lv_at hl 3 rfl) ?_
  refine lv_iconst (v := 0) hx hb dX2_cut_7 (by decide) ?_
  refine lv_sipush (v := 200) hx hb dX2_cut_8 (by decide) ?_
  refine callSI0 (rest := []) F (c_X2_isWithin_1 l G _ (nI j) 0 200 (nI_pos' (by omega)) (nI_le (a := j) (b := 200) hj (by decide))) gX2_cut_X2_isWithin rfl hdX2_isWithin ⟨Nat.le_of_ble_eq_true rfl, Nat.le_of_ble_eq_true rfl⟩ hH rfl hl.1 (Nat.le_of_ble_eq_true rfl) dX2_cut_11 ⟨Nat.le_of_ble_eq_true rfl, Nat.le_of_ble_eq_true rfl⟩ rfl (fun u H locs hH => ?_)
  have hH : HH G A s (sW G q n nc t fl fd k wd wf wa cd cf) H locs := hH
  refine callSV0 (rest := []) F (c_X2_requireArgument_1 l G _) gX2_cut_X2_requireArgument rfl hdX2_requireArgument ⟨Nat.le_of_ble_eq_true rfl, Nat.le_of_ble_eq_true rfl⟩ hH rfl hl.1 (Nat.le_of_ble_eq_true rfl) dX2_cut_14 ⟨Nat.le_of_ble_eq_true rfl, Nat.le_of_ble_eq_true rfl⟩ rfl (fun u H locs hH => ?_)
  have hH : HH G A s (sW G q n nc t fl fd k wd wf wa cd cf) H locs := hH
  refine lv_aload_n hx hb dX2_cut_17 rfl (lv_at hl 0 rfl) ?_
  refine rgetN (C := RX1) (T := TX1) (N := 12) (ref := RX1) (host := RX2) F in_X2_cut_X1 hH (4 + 7 * i + 0) (sW_at hi (j := 0) rfl) rfl 2 (by decide) (by decide +kernel) (fun _ h9 => h9) (v := .ref (wd i 2)) rfl dX2_cut_18 ?_
  refine lv_iload_n hx hb dX2_cut_21 rfl (lv_at hl 3 rfl) ?_
  refine riald F hH (4 + 7 * i + 1) (n := 201) (f := wa i 2) (sW_at hi (j := 1) rfl) j rfl (by omega) (by decide) dX2_cut_22 ?_
  exact retI F hr rfl (fun _ => 0) hH rfl (Nat.le_of_ble_eq_true rfl) (Nat.le_of_ble_eq_true rfl) dX2_cut_23

set_option maxHeartbeats 4000000 in
set_option maxRecDepth 100000 in
theorem c_X2_cut_2 (l : Launch) (hst : l.stackTraces = false) (G : Gx) (q : Nat → Nat) (n nc t : Nat) (fl fd : Int32) (k : Nat → Int32) (wd : Nat → Nat → Nat) (wf : Nat → Nat → Int32) (wa : Nat → Nat → Nat → Int32) (cd : Nat → Nat) (cf : Nat → Nat → Int32) (hn : n ≤ 8) (i : Nat) (hi : i < n) (w : Int32) (h : w < 0 ∨ 200 < w) : MX l yX2_cut wsX2_cut ({ frames := 7, cells := 1, slots := 6, locals := 110 } : Room) [.ref (q 0), .int (nI i), .int w] G (sW G q n nc t fl fd k wd wf wa cd cf) "java/lang/IllegalArgumentException" := by
  refine ofMX (cc := cX2_cut) (maxL := 4) (ret := (some .int)) (by decide) rfl (Nat.le_of_ble_eq_true rfl) (fun p e s m below meth c A ls F htb hH hl => ?_)
  have F : Fx G p s m _ meth c cX2_cut 4 wsX2_cut RX2 A := F
  have hx := F.1.1
  have hb := F.1.2.1
  have hl : lv_has ls 4 [(0, .ref (q 0)), (1, .int (nI i)), (2, .int w)] := hl
  refine lv_aload_n hx hb dX2_cut_0 rfl (lv_at hl 0 rfl) ?_
  refine lv_iload_n hx hb dX2_cut_1 rfl (lv_at hl 1 rfl) ?_
  refine callVR0 (rest := []) F (c_X2_workerAt_1 l G q n nc t fl fd k wd wf wa cd cf hn i hi) gX2_cut_X2_workerAt rfl hdX2_workerAt ⟨Nat.le_of_ble_eq_true rfl, Nat.le_of_ble_eq_true rfl⟩ hH ⟨0, 2, _, _, rfl, rfl, rfl⟩ rfl hl.1 (Nat.le_of_ble_eq_true rfl) dX2_cut_2 ⟨Nat.le_of_ble_eq_true rfl, Nat.le_of_ble_eq_true rfl⟩ rfl (fun H locs hH => ?_)
  refine lv_astore_n (lv' := [(3, .ref (wd i 0)), (0, .ref (q 0)), (1, .int (nI i)), (2, .int w)]) hx hb dX2_cut_5 rfl hl (by decide) rfl (fun ls hl => ?_)
  refine lv_iload_n hx hb dX2_cut_6 rfl (lv_at hl 3 rfl) ?_
  refine lv_iconst (v := 0) hx hb dX2_cut_7 (by decide) ?_
  refine lv_sipush (v := 200) hx hb dX2_cut_8 (by decide) ?_
  refine callSI0 (rest := []) F (c_X2_isWithin_0 l G _ w 0 200 h) gX2_cut_X2_isWithin rfl hdX2_isWithin ⟨Nat.le_of_ble_eq_true rfl, Nat.le_of_ble_eq_true rfl⟩ hH rfl hl.1 (Nat.le_of_ble_eq_true rfl) dX2_cut_11 ⟨Nat.le_of_ble_eq_true rfl, Nat.le_of_ble_eq_true rfl⟩ rfl (fun u H locs hH => ?_)
  have hH : HH G A s (sW G q n nc t fl fd k wd wf wa cd cf) H locs := hH
  exact callSX0 (rest := []) F (c_X2_requireArgument_0 l hst G _) gX2_cut_X2_requireArgument rfl hdX2_requireArgument ⟨Nat.le_of_ble_eq_true rfl, Nat.le_of_ble_eq_true rfl⟩ hH rfl hl.1 (Nat.le_of_ble_eq_true rfl) dX2_cut_14 ⟨Nat.le_of_ble_eq_true rfl, Nat.le_of_ble_eq_true rfl⟩ rfl htb (Nat.le_of_ble_eq_true rfl) (Nat.le_of_ble_eq_true rfl)

set_option maxHeartbeats 4000000 in
set_option maxRecDepth 100000 in
theorem c_X2_cut_0 (l : Launch) (hst : l.stackTraces = false) (G : Gx) (q : Nat → Nat) (n nc t : Nat) (fl fd : Int32) (k : Nat → Int32) (wd : Nat → Nat → Nat) (wf : Nat → Nat → Int32) (wa : Nat → Nat → Nat → Int32) (cd : Nat → Nat) (cf : Nat → Nat → Int32) (hn : n ≤ 8) (v : Int32) (h : v < 0 ∨ nI n ≤ v) (w : Int32) : MX l yX2_cut wsX2_cut ({ frames := 7, cells := 1, slots := 6, locals := 112 } : Room) [.ref (q 0), .int v, .int w] G (sW G q n nc t fl fd k wd wf wa cd cf) "java/lang/IndexOutOfBoundsException" := by
  refine ofMX (cc := cX2_cut) (maxL := 4) (ret := (some .int)) (by decide) rfl (Nat.le_of_ble_eq_true rfl) (fun p e s m below meth c A ls F htb hH hl => ?_)
  have F : Fx G p s m _ meth c cX2_cut 4 wsX2_cut RX2 A := F
  have hx := F.1.1
  have hb := F.1.2.1
  have hl : lv_has ls 4 [(0, .ref (q 0)), (1, .int v), (2, .int w)] := hl
  refine lv_aload_n hx hb dX2_cut_0 rfl (lv_at hl 0 rfl) ?_
  refine lv_iload_n hx hb dX2_cut_1 rfl (lv_at hl 1 rfl) ?_
  exact callVX0 (rest := []) F (c_X2_workerAt_0 l hst G q n nc t fl fd k wd wf wa cd cf hn v h) gX2_cut_X2_workerAt rfl hdX2_workerAt ⟨Nat.le_of_ble_eq_true rfl, Nat.le_of_ble_eq_true rfl⟩ hH ⟨0, 2, _, _, rfl, rfl, rfl⟩ rfl hl.1 (Nat.le_of_ble_eq_true rfl) dX2_cut_2 ⟨Nat.le_of_ble_eq_true rfl, Nat.le_of_ble_eq_true rfl⟩ rfl htb (Nat.le_of_ble_eq_true rfl) (Nat.le_of_ble_eq_true rfl)

set_option maxHeartbeats 4000000 in
set_option maxRecDepth 100000 in
theorem c_X2_isFilled_1 (l : Launch) (G : Gx) (q : Nat → Nat) (n nc t : Nat) (fl fd : Int32) (k : Nat → Int32) (wd : Nat → Nat → Nat) (wf : Nat → Nat → Int32) (wa : Nat → Nat → Nat → Int32) (cd : Nat → Nat) (cf : Nat → Nat → Int32) (hn : n ≤ 8) (i : Nat) (hi : i < n) (j : Nat) (hj : j ≤ 200) : MI l yX2_isFilled wsX2_isFilled ({ frames := 2, cells := 0, slots := 0, locals := 44 } : Room) [.ref (q 0), .int (nI i), .int (nI j)] G (sW G q n nc t fl fd k wd wf wa cd cf) (fun u => sW G q n nc t fl fd k wd wf wa cd cf) (fillB (wa i 3 j) (wa i 2 j)) := by
  refine ofMI (cc := cX2_isFilled) (maxL := 4) (ret := (some .boolean)) (by decide) rfl (Nat.le_of_ble_eq_true rfl) (fun p e s m below meth c A ls F hr hnm hH hl => ?_)
  have F : Fx G p s m _ meth c cX2_isFilled 4 wsX2_isFilled RX2 A := F
  have hx := F.1.1
  have hb := F.1.2.1
  have hl : lv_has ls 4 [(0, .ref (q 0)), (1, .int (nI i)), (2, .int (nI j))] := hl
  refine lv_aload_n hx hb dX2_isFilled_0 rfl (lv_at hl 0 rfl) ?_
  refine lv_iload_n hx hb dX2_isFilled_1 rfl (lv_at hl 1 rfl) ?_
  refine callVR0 (rest := []) F (c_X2_workerAt_1 l G q n nc t fl fd k wd wf wa cd cf hn i hi) gX2_isFilled_X2_workerAt rfl hdX2_workerAt ⟨Nat.le_of_ble_eq_true rfl, Nat.le_of_ble_eq_true rfl⟩ hH ⟨0, 2, _, _, rfl, rfl, rfl⟩ rfl hl.1 (Nat.le_of_ble_eq_true rfl) dX2_isFilled_2 ⟨Nat.le_of_ble_eq_true rfl, Nat.le_of_ble_eq_true rfl⟩ rfl (fun H locs hH => ?_)
  refine lv_astore_n (lv' := [(3, .ref (wd i 0)), (0, .ref (q 0)), (1, .int (nI i)), (2, .int (nI j))]) hx hb dX2_isFilled_5 rfl hl (by decide) rfl (fun ls hl => ?_)
  refine lv_iload_n hx hb dX2_isFilled_6 rfl (lv_at hl 3 rfl) ?_
  refine lv_iconst (v := 0) hx hb dX2_isFilled_7 (by decide) ?_
  refine lv_sipush (v := 200) hx hb dX2_isFilled_8 (by decide) ?_
  refine callSI0 (rest := []) F (c_X2_isWithin_1 l G _ (nI j) 0 200 (nI_pos' (by omega)) (nI_le (a := j) (b := 200) hj (by decide))) gX2_isFilled_X2_isWithin rfl hdX2_isWithin ⟨Nat.le_of_ble_eq_true rfl, Nat.le_of_ble_eq_true rfl⟩ hH rfl hl.1 (Nat.le_of_ble_eq_true rfl) dX2_isFilled_11 ⟨Nat.le_of_ble_eq_true rfl, Nat.le_of_ble_eq_true rfl⟩ rfl (fun u H locs hH => ?_)
  have hH : HH G A s (sW G q n nc t fl fd k wd wf wa cd cf) H locs := hH
  refine callSV0 (rest := []) F (c_X2_requireArgument_1 l G _) gX2_isFilled_X2_requireArgument rfl hdX2_requireArgument ⟨Nat.le_of_ble_eq_true rfl, Nat.le_of_ble_eq_true rfl⟩ hH rfl hl.1 (Nat.le_of_ble_eq_true rfl) dX2_isFilled_14 ⟨Nat.le_of_ble_eq_true rfl, Nat.le_of_ble_eq_true rfl⟩ rfl (fun u H locs hH => ?_)
  have hH : HH G A s (sW G q n nc t fl fd k wd wf wa cd cf) H locs := hH
  refine lv_aload_n hx hb dX2_isFilled_17 rfl (lv_at hl 0 rfl) ?_
  refine lv_iload_n hx hb dX2_isFilled_18 rfl (lv_at hl 3 rfl) ?_
  obtain ⟨a9, b9, -, h91, h92⟩ := sW_mid (G := G) (q := q) (n := n) (m := nc) (t := t) (fl := fl) (fd := fd) (k := k) (wd := wd) (wf := wf) (wa := wa) (cd := cd) (cf := cf) hi
  refine callVI (rest := []) F (c_X1_hasFilled l G (wd i) (wf i) (wa i) j (by omega)) gX2_isFilled_X1_hasFilled rfl hdX1_hasFilled ⟨Nat.le_of_ble_eq_true rfl, Nat.le_of_ble_eq_true rfl⟩ a9 b9 hH h91 ⟨0, 1, _, _, rfl, rfl, rfl⟩ rfl hl.1 (Nat.le_of_ble_eq_true rfl) dX2_isFilled_19 ⟨Nat.le_of_ble_eq_true rfl, Nat.le_of_ble_eq_true rfl⟩ rfl (fun u H locs hH => ?_)
  have hH : HH G A s (sW G q n nc t fl fd k wd wf wa cd cf) H locs := by rw [h91]; exact hH
  exact retI F hr (fillB_nar _ _) (fun _ => 0) hH rfl (Nat.le_of_ble_eq_true rfl) (Nat.le_of_ble_eq_true rfl) dX2_isFilled_22

set_option maxHeartbeats 4000000 in
set_option maxRecDepth 100000 in
theorem c_X2_isFilled_2 (l : Launch) (hst : l.stackTraces = false) (G : Gx) (q : Nat → Nat) (n nc t : Nat) (fl fd : Int32) (k : Nat → Int32) (wd : Nat → Nat → Nat) (wf : Nat → Nat → Int32) (wa : Nat → Nat → Nat → Int32) (cd : Nat → Nat) (cf : Nat → Nat → Int32) (hn : n ≤ 8) (i : Nat) (hi : i < n) (w : Int32) (h : w < 0 ∨ 200 < w) : MX l yX2_isFilled wsX2_isFilled ({ frames := 7, cells := 1, slots := 6, locals := 110 } : Room) [.ref (q 0), .int (nI i), .int w] G (sW G q n nc t fl fd k wd wf wa cd cf) "java/lang/IllegalArgumentException" := by
  refine ofMX (cc := cX2_isFilled) (maxL := 4) (ret := (some .boolean)) (by decide) rfl (Nat.le_of_ble_eq_true rfl) (fun p e s m below meth c A ls F htb hH hl => ?_)
  have F : Fx G p s m _ meth c cX2_isFilled 4 wsX2_isFilled RX2 A := F
  have hx := F.1.1
  have hb := F.1.2.1
  have hl : lv_has ls 4 [(0, .ref (q 0)), (1, .int (nI i)), (2, .int w)] := hl
  refine lv_aload_n hx hb dX2_isFilled_0 rfl (lv_at hl 0 rfl) ?_
  refine lv_iload_n hx hb dX2_isFilled_1 rfl (lv_at hl 1 rfl) ?_
  refine callVR0 (rest := []) F (c_X2_workerAt_1 l G q n nc t fl fd k wd wf wa cd cf hn i hi) gX2_isFilled_X2_workerAt rfl hdX2_workerAt ⟨Nat.le_of_ble_eq_true rfl, Nat.le_of_ble_eq_true rfl⟩ hH ⟨0, 2, _, _, rfl, rfl, rfl⟩ rfl hl.1 (Nat.le_of_ble_eq_true rfl) dX2_isFilled_2 ⟨Nat.le_of_ble_eq_true rfl, Nat.le_of_ble_eq_true rfl⟩ rfl (fun H locs hH => ?_)
  refine lv_astore_n (lv' := [(3, .ref (wd i 0)), (0, .ref (q 0)), (1, .int (nI i)), (2, .int w)]) hx hb dX2_isFilled_5 rfl hl (by decide) rfl (fun ls hl => ?_)
  refine lv_iload_n hx hb dX2_isFilled_6 rfl (lv_at hl 3 rfl) ?_
  refine lv_iconst (v := 0) hx hb dX2_isFilled_7 (by decide) ?_
  refine lv_sipush (v := 200) hx hb dX2_isFilled_8 (by decide) ?_
  refine callSI0 (rest := []) F (c_X2_isWithin_0 l G _ w 0 200 h) gX2_isFilled_X2_isWithin rfl hdX2_isWithin ⟨Nat.le_of_ble_eq_true rfl, Nat.le_of_ble_eq_true rfl⟩ hH rfl hl.1 (Nat.le_of_ble_eq_true rfl) dX2_isFilled_11 ⟨Nat.le_of_ble_eq_true rfl, Nat.le_of_ble_eq_true rfl⟩ rfl (fun u H locs hH => ?_)
  have hH : HH G A s (sW G q n nc t fl fd k wd wf wa cd cf) H locs := hH
  exact callSX0 (rest := []) F (c_X2_requireArgument_0 l hst G _) gX2_isFilled_X2_requireArgument rfl hdX2_requireArgument ⟨Nat.le_of_ble_eq_true rfl, Nat.le_of_ble_eq_true rfl⟩ hH rfl hl.1 (Nat.le_of_ble_eq_true rfl) dX2_isFilled_14 ⟨Nat.le_of_ble_eq_true rfl, Nat.le_of_ble_eq_true rfl⟩ rfl htb (Nat.le_of_ble_eq_true rfl) (Nat.le_of_ble_eq_true rfl)

set_option maxHeartbeats 4000000 in
set_option maxRecDepth 100000 in
theorem c_X2_isFilled_0 (l : Launch) (hst : l.stackTraces = false) (G : Gx) (q : Nat → Nat) (n nc t : Nat) (fl fd : Int32) (k : Nat → Int32) (wd : Nat → Nat → Nat) (wf : Nat → Nat → Int32) (wa : Nat → Nat → Nat → Int32) (cd : Nat → Nat) (cf : Nat → Nat → Int32) (hn : n ≤ 8) (v : Int32) (h : v < 0 ∨ nI n ≤ v) (w : Int32) : MX l yX2_isFilled wsX2_isFilled ({ frames := 7, cells := 1, slots := 6, locals := 112 } : Room) [.ref (q 0), .int v, .int w] G (sW G q n nc t fl fd k wd wf wa cd cf) "java/lang/IndexOutOfBoundsException" := by
  refine ofMX (cc := cX2_isFilled) (maxL := 4) (ret := (some .boolean)) (by decide) rfl (Nat.le_of_ble_eq_true rfl) (fun p e s m below meth c A ls F htb hH hl => ?_)
  have F : Fx G p s m _ meth c cX2_isFilled 4 wsX2_isFilled RX2 A := F
  have hx := F.1.1
  have hb := F.1.2.1
  have hl : lv_has ls 4 [(0, .ref (q 0)), (1, .int v), (2, .int w)] := hl
  refine lv_aload_n hx hb dX2_isFilled_0 rfl (lv_at hl 0 rfl) ?_
  refine lv_iload_n hx hb dX2_isFilled_1 rfl (lv_at hl 1 rfl) ?_
  exact callVX0 (rest := []) F (c_X2_workerAt_0 l hst G q n nc t fl fd k wd wf wa cd cf hn v h) gX2_isFilled_X2_workerAt rfl hdX2_workerAt ⟨Nat.le_of_ble_eq_true rfl, Nat.le_of_ble_eq_true rfl⟩ hH ⟨0, 2, _, _, rfl, rfl, rfl⟩ rfl hl.1 (Nat.le_of_ble_eq_true rfl) dX2_isFilled_2 ⟨Nat.le_of_ble_eq_true rfl, Nat.le_of_ble_eq_true rfl⟩ rfl htb (Nat.le_of_ble_eq_true rfl) (Nat.le_of_ble_eq_true rfl)

set_option maxHeartbeats 4000000 in
set_option maxRecDepth 100000 in
theorem c_X2_paid_1 (l : Launch) (G : Gx) (q : Nat → Nat) (n nc t : Nat) (fl fd : Int32) (k : Nat → Int32) (wd : Nat → Nat → Nat) (wf : Nat → Nat → Int32) (wa : Nat → Nat → Nat → Int32) (cd : Nat → Nat) (cf : Nat → Nat → Int32) (hn : n ≤ 8) (i : Nat) (hi : i < n) (ht : t ≤ 201) (j : Nat) (hj : j < t) : MI l yX2_paid wsX2_paid ({ frames := 2, cells := 0, slots := 0, locals := 44 } : Room) [.ref (q 0), .int (nI i), .int (nI j)] G (sW G q n nc t fl fd k wd wf wa cd cf) (fun u => sW G q n nc t fl fd k wd wf wa cd cf) (wa i 4 j) := by
  refine ofMI (cc := cX2_paid) (maxL := 4) (ret := (some .int)) (by decide) rfl (Nat.le_of_ble_eq_true rfl) (fun p e s m below meth c A ls F hr hnm hH hl => ?_)
  have F : Fx G p s m _ meth c cX2_paid 4 wsX2_paid RX2 A := F
  have hx := F.1.1
  have hb := F.1.2.1
  have hl : lv_has ls 4 [(0, .ref (q 0)), (1, .int (nI i)), (2, .int (nI j))] := hl
  refine lv_aload_n hx hb dX2_paid_0 rfl (lv_at hl 0 rfl) ?_
  refine lv_iload_n hx hb dX2_paid_1 rfl (lv_at hl 1 rfl) ?_
  refine callVR0 (rest := []) F (c_X2_workerAt_1 l G q n nc t fl fd k wd wf wa cd cf hn i hi) gX2_paid_X2_workerAt rfl hdX2_workerAt ⟨Nat.le_of_ble_eq_true rfl, Nat.le_of_ble_eq_true rfl⟩ hH ⟨0, 2, _, _, rfl, rfl, rfl⟩ rfl hl.1 (Nat.le_of_ble_eq_true rfl) dX2_paid_2 ⟨Nat.le_of_ble_eq_true rfl, Nat.le_of_ble_eq_true rfl⟩ rfl (fun H locs hH => ?_)
  refine lv_astore_n (lv' := [(3, .ref (wd i 0)), (0, .ref (q 0)), (1, .int (nI i)), (2, .int (nI j))]) hx hb dX2_paid_5 rfl hl (by decide) rfl (fun ls hl => ?_)
  refine lv_aload_n hx hb dX2_paid_6 rfl (lv_at hl 1 rfl) ?_
  refine lv_iload_n hx hb dX2_paid_7 rfl (lv_at hl 3 rfl) ?_
  refine callVI0 (rest := []) F (c_X2_hasPassed_1 l G q n nc t fl fd k wd wf wa cd cf (by omega) j hj) gX2_paid_X2_hasPassed rfl hdX2_hasPassed ⟨Nat.le_of_ble_eq_true rfl, Nat.le_of_ble_eq_true rfl⟩ hH ⟨0, 2, _, _, rfl, rfl, rfl⟩ rfl hl.1 (Nat.le_of_ble_eq_true rfl) dX2_paid_8 ⟨Nat.le_of_ble_eq_true rfl, Nat.le_of_ble_eq_true rfl⟩ rfl (fun u H locs hH => ?_)
  have hH : HH G A s (sW G q n nc t fl fd k wd wf wa cd cf) H locs := hH
  refine callSV0 (rest := []) F (c_X2_requireArgument_1 l G _) gX2_paid_X2_requireArgument rfl hdX2_requireArgument ⟨Nat.le_of_ble_eq_true rfl, Nat.le_of_ble_eq_true rfl⟩ hH rfl hl.1 (Nat.le_of_ble_eq_true rfl) dX2_paid_11 ⟨Nat.le_of_ble_eq_true rfl, Nat.le_of_ble_eq_true rfl⟩ rfl (fun u H locs hH => ?_)
  have hH : HH G A s (sW G q n nc t fl fd k wd wf wa cd cf) H locs := hH
  refine lv_aload_n hx hb dX2_paid_14 rfl (lv_at hl 0 rfl) ?_
  refine rgetN (C := RX1) (T := TX1) (N := 12) (ref := RX1) (host := RX2) F in_X2_paid_X1 hH (4 + 7 * i + 0) (sW_at hi (j := 0) rfl) rfl 4 (by decide) (by decide +kernel) (fun _ h9 => h9) (v := .ref (wd i 4)) rfl dX2_paid_15 ?_
  refine lv_iload_n hx hb dX2_paid_18 rfl (lv_at hl 3 rfl) ?_
  refine riald F hH (4 + 7 * i + 3) (n := 201) (f := wa i 4) (sW_at hi (j := 3) rfl) j rfl (by omega) (by decide) dX2_paid_19 ?_
  exact retI F hr rfl (fun _ => 0) hH rfl (Nat.le_of_ble_eq_true rfl) (Nat.le_of_ble_eq_true rfl) dX2_paid_20

set_option maxHeartbeats 4000000 in
set_option maxRecDepth 100000 in
theorem c_X2_paid_2 (l : Launch) (hst : l.stackTraces = false) (G : Gx) (q : Nat → Nat) (n nc t : Nat) (fl fd : Int32) (k : Nat → Int32) (wd : Nat → Nat → Nat) (wf : Nat → Nat → Int32) (wa : Nat → Nat → Nat → Int32) (cd : Nat → Nat) (cf : Nat → Nat → Int32) (hn : n ≤ 8) (i : Nat) (hi : i < n) (ht : t ≤ 201) (w : Int32) (h : w < 0 ∨ nI t ≤ w) : MX l yX2_paid wsX2_paid ({ frames := 7, cells := 1, slots := 6, locals := 110 } : Room) [.ref (q 0), .int (nI i), .int w] G (sW G q n nc t fl fd k wd wf wa cd cf) "java/lang/IllegalArgumentException" := by
  refine ofMX (cc := cX2_paid) (maxL := 4) (ret := (some .int)) (by decide) rfl (Nat.le_of_ble_eq_true rfl) (fun p e s m below meth c A ls F htb hH hl => ?_)
  have F : Fx G p s m _ meth c cX2_paid 4 wsX2_paid RX2 A := F
  have hx := F.1.1
  have hb := F.1.2.1
  have hl : lv_has ls 4 [(0, .ref (q 0)), (1, .int (nI i)), (2, .int w)] := hl
  refine lv_aload_n hx hb dX2_paid_0 rfl (lv_at hl 0 rfl) ?_
  refine lv_iload_n hx hb dX2_paid_1 rfl (lv_at hl 1 rfl) ?_
  refine callVR0 (rest := []) F (c_X2_workerAt_1 l G q n nc t fl fd k wd wf wa cd cf hn i hi) gX2_paid_X2_workerAt rfl hdX2_workerAt ⟨Nat.le_of_ble_eq_true rfl, Nat.le_of_ble_eq_true rfl⟩ hH ⟨0, 2, _, _, rfl, rfl, rfl⟩ rfl hl.1 (Nat.le_of_ble_eq_true rfl) dX2_paid_2 ⟨Nat.le_of_ble_eq_true rfl, Nat.le_of_ble_eq_true rfl⟩ rfl (fun H locs hH => ?_)
  refine lv_astore_n (lv' := [(3, .ref (wd i 0)), (0, .ref (q 0)), (1, .int (nI i)), (2, .int w)]) hx hb dX2_paid_5 rfl hl (by decide) rfl (fun ls hl => ?_)
  refine lv_aload_n hx hb dX2_paid_6 rfl (lv_at hl 1 rfl) ?_
  refine lv_iload_n hx hb dX2_paid_7 rfl (lv_at hl 3 rfl) ?_
  refine callVI0 (rest := []) F (c_X2_hasPassed_0 l G q n nc t fl fd k wd wf wa cd cf (by omega) w h) gX2_paid_X2_hasPassed rfl hdX2_hasPassed ⟨Nat.le_of_ble_eq_true rfl, Nat.le_of_ble_eq_true rfl⟩ hH ⟨0, 2, _, _, rfl, rfl, rfl⟩ rfl hl.1 (Nat.le_of_ble_eq_true rfl) dX2_paid_8 ⟨Nat.le_of_ble_eq_true rfl, Nat.le_of_ble_eq_true rfl⟩ rfl (fun u H locs hH => ?_)
  have hH : HH G A s (sW G q n nc t fl fd k wd wf wa cd cf) H locs := hH
  exact callSX0 (rest := []) F (c_X2_requireArgument_0 l hst G _) gX2_paid_X2_requireArgument rfl hdX2_requireArgument ⟨Nat.le_of_ble_eq_true rfl, Nat.le_of_ble_eq_true rfl⟩ hH rfl hl.1 (Nat.le_of_ble_eq_true rfl) dX2_paid_11 ⟨Nat.le_of_ble_eq_true rfl, Nat.le_of_ble_eq_true rfl⟩ rfl htb (Nat.le_of_ble_eq_true rfl) (Nat.le_of_ble_eq_true rfl)

set_option maxHeartbeats 4000000 in
set_option maxRecDepth 100000 in
theorem c_X2_paid_0 (l : Launch) (hst : l.stackTraces = false) (G : Gx) (q : Nat → Nat) (n nc t : Nat) (fl fd : Int32) (k : Nat → Int32) (wd : Nat → Nat → Nat) (wf : Nat → Nat → Int32) (wa : Nat → Nat → Nat → Int32) (cd : Nat → Nat) (cf : Nat → Nat → Int32) (hn : n ≤ 8) (v : Int32) (h : v < 0 ∨ nI n ≤ v) (w : Int32) : MX l yX2_paid wsX2_paid ({ frames := 7, cells := 1, slots := 6, locals := 112 } : Room) [.ref (q 0), .int v, .int w] G (sW G q n nc t fl fd k wd wf wa cd cf) "java/lang/IndexOutOfBoundsException" := by
  refine ofMX (cc := cX2_paid) (maxL := 4) (ret := (some .int)) (by decide) rfl (Nat.le_of_ble_eq_true rfl) (fun p e s m below meth c A ls F htb hH hl => ?_)
  have F : Fx G p s m _ meth c cX2_paid 4 wsX2_paid RX2 A := F
  have hx := F.1.1
  have hb := F.1.2.1
  have hl : lv_has ls 4 [(0, .ref (q 0)), (1, .int v), (2, .int w)] := hl
  refine lv_aload_n hx hb dX2_paid_0 rfl (lv_at hl 0 rfl) ?_
  refine lv_iload_n hx hb dX2_paid_1 rfl (lv_at hl 1 rfl) ?_
  exact callVX0 (rest := []) F (c_X2_workerAt_0 l hst G q n nc t fl fd k wd wf wa cd cf hn v h) gX2_paid_X2_workerAt rfl hdX2_workerAt ⟨Nat.le_of_ble_eq_true rfl, Nat.le_of_ble_eq_true rfl⟩ hH ⟨0, 2, _, _, rfl, rfl, rfl⟩ rfl hl.1 (Nat.le_of_ble_eq_true rfl) dX2_paid_2 ⟨Nat.le_of_ble_eq_true rfl, Nat.le_of_ble_eq_true rfl⟩ rfl htb (Nat.le_of_ble_eq_true rfl) (Nat.le_of_ble_eq_true rfl)

set_option maxHeartbeats 4000000 in
set_option maxRecDepth 100000 in
theorem c_X2_madeUp_1 (l : Launch) (G : Gx) (q : Nat → Nat) (n nc t : Nat) (fl fd : Int32) (k : Nat → Int32) (wd : Nat → Nat → Nat) (wf : Nat → Nat → Int32) (wa : Nat → Nat → Nat → Int32) (cd : Nat → Nat) (cf : Nat → Nat → Int32) (hn : n ≤ 8) (i : Nat) (hi : i < n) (ht : t ≤ 201) (j : Nat) (hj : j < t) : MI l yX2_madeUp wsX2_madeUp ({ frames := 2, cells := 0, slots := 0, locals := 44 } : Room) [.ref (q 0), .int (nI i), .int (nI j)] G (sW G q n nc t fl fd k wd wf wa cd cf) (fun u => sW G q n nc t fl fd k wd wf wa cd cf) (wa i 5 j) := by
  refine ofMI (cc := cX2_madeUp) (maxL := 4) (ret := (some .int)) (by decide) rfl (Nat.le_of_ble_eq_true rfl) (fun p e s m below meth c A ls F hr hnm hH hl => ?_)
  have F : Fx G p s m _ meth c cX2_madeUp 4 wsX2_madeUp RX2 A := F
  have hx := F.1.1
  have hb := F.1.2.1
  have hl : lv_has ls 4 [(0, .ref (q 0)), (1, .int (nI i)), (2, .int (nI j))] := hl
  refine lv_aload_n hx hb dX2_madeUp_0 rfl (lv_at hl 0 rfl) ?_
  refine lv_iload_n hx hb dX2_madeUp_1 rfl (lv_at hl 1 rfl) ?_
  refine callVR0 (rest := []) F (c_X2_workerAt_1 l G q n nc t fl fd k wd wf wa cd cf hn i hi) gX2_madeUp_X2_workerAt rfl hdX2_workerAt ⟨Nat.le_of_ble_eq_true rfl, Nat.le_of_ble_eq_true rfl⟩ hH ⟨0, 2, _, _, rfl, rfl, rfl⟩ rfl hl.1 (Nat.le_of_ble_eq_true rfl) dX2_madeUp_2 ⟨Nat.le_of_ble_eq_true rfl, Nat.le_of_ble_eq_true rfl⟩ rfl (fun H locs hH => ?_)
  refine lv_astore_n (lv' := [(3, .ref (wd i 0)), (0, .ref (q 0)), (1, .int (nI i)), (2, .int (nI j))]) hx hb dX2_madeUp_5 rfl hl (by decide) rfl (fun ls hl => ?_)
  refine lv_aload_n hx hb dX2_madeUp_6 rfl (lv_at hl 1 rfl) ?_
  refine lv_iload_n hx hb dX2_madeUp_7 rfl (lv_at hl 3 rfl) ?_
  refine callVI0 (rest := []) F (c_X2_hasPassed_1 l G q n nc t fl fd k wd wf wa cd cf (by omega) j hj) gX2_madeUp_X2_hasPassed rfl hdX2_hasPassed ⟨Nat.le_of_ble_eq_true rfl, Nat.le_of_ble_eq_true rfl⟩ hH ⟨0, 2, _, _, rfl, rfl, rfl⟩ rfl hl.1 (Nat.le_of_ble_eq_true rfl) dX2_madeUp_8 ⟨Nat.le_of_ble_eq_true rfl, Nat.le_of_ble_eq_true rfl⟩ rfl (fun u H locs hH => ?_)
  have hH : HH G A s (sW G q n nc t fl fd k wd wf wa cd cf) H locs := hH
  refine callSV0 (rest := []) F (c_X2_requireArgument_1 l G _) gX2_madeUp_X2_requireArgument rfl hdX2_requireArgument ⟨Nat.le_of_ble_eq_true rfl, Nat.le_of_ble_eq_true rfl⟩ hH rfl hl.1 (Nat.le_of_ble_eq_true rfl) dX2_madeUp_11 ⟨Nat.le_of_ble_eq_true rfl, Nat.le_of_ble_eq_true rfl⟩ rfl (fun u H locs hH => ?_)
  have hH : HH G A s (sW G q n nc t fl fd k wd wf wa cd cf) H locs := hH
  refine lv_aload_n hx hb dX2_madeUp_14 rfl (lv_at hl 0 rfl) ?_
  refine rgetN (C := RX1) (T := TX1) (N := 12) (ref := RX1) (host := RX2) F in_X2_madeUp_X1 hH (4 + 7 * i + 0) (sW_at hi (j := 0) rfl) rfl 5 (by decide) (by decide +kernel) (fun _ h9 => h9) (v := .ref (wd i 5)) rfl dX2_madeUp_15 ?_
  refine lv_iload_n hx hb dX2_madeUp_18 rfl (lv_at hl 3 rfl) ?_
  refine riald F hH (4 + 7 * i + 4) (n := 201) (f := wa i 5) (sW_at hi (j := 4) rfl) j rfl (by omega) (by decide) dX2_madeUp_19 ?_
  exact retI F hr rfl (fun _ => 0) hH rfl (Nat.le_of_ble_eq_true rfl) (Nat.le_of_ble_eq_true rfl) dX2_madeUp_20

set_option maxHeartbeats 4000000 in
set_option maxRecDepth 100000 in
theorem c_X2_madeUp_2 (l : Launch) (hst : l.stackTraces = false) (G : Gx) (q : Nat → Nat) (n nc t : Nat) (fl fd : Int32) (k : Nat → Int32) (wd : Nat → Nat → Nat) (wf : Nat → Nat → Int32) (wa : Nat → Nat → Nat → Int32) (cd : Nat → Nat) (cf : Nat → Nat → Int32) (hn : n ≤ 8) (i : Nat) (hi : i < n) (ht : t ≤ 201) (w : Int32) (h : w < 0 ∨ nI t ≤ w) : MX l yX2_madeUp wsX2_madeUp ({ frames := 7, cells := 1, slots := 6, locals := 110 } : Room) [.ref (q 0), .int (nI i), .int w] G (sW G q n nc t fl fd k wd wf wa cd cf) "java/lang/IllegalArgumentException" := by
  refine ofMX (cc := cX2_madeUp) (maxL := 4) (ret := (some .int)) (by decide) rfl (Nat.le_of_ble_eq_true rfl) (fun p e s m below meth c A ls F htb hH hl => ?_)
  have F : Fx G p s m _ meth c cX2_madeUp 4 wsX2_madeUp RX2 A := F
  have hx := F.1.1
  have hb := F.1.2.1
  have hl : lv_has ls 4 [(0, .ref (q 0)), (1, .int (nI i)), (2, .int w)] := hl
  refine lv_aload_n hx hb dX2_madeUp_0 rfl (lv_at hl 0 rfl) ?_
  refine lv_iload_n hx hb dX2_madeUp_1 rfl (lv_at hl 1 rfl) ?_
  refine callVR0 (rest := []) F (c_X2_workerAt_1 l G q n nc t fl fd k wd wf wa cd cf hn i hi) gX2_madeUp_X2_workerAt rfl hdX2_workerAt ⟨Nat.le_of_ble_eq_true rfl, Nat.le_of_ble_eq_true rfl⟩ hH ⟨0, 2, _, _, rfl, rfl, rfl⟩ rfl hl.1 (Nat.le_of_ble_eq_true rfl) dX2_madeUp_2 ⟨Nat.le_of_ble_eq_true rfl, Nat.le_of_ble_eq_true rfl⟩ rfl (fun H locs hH => ?_)
  refine lv_astore_n (lv' := [(3, .ref (wd i 0)), (0, .ref (q 0)), (1, .int (nI i)), (2, .int w)]) hx hb dX2_madeUp_5 rfl hl (by decide) rfl (fun ls hl => ?_)
  refine lv_aload_n hx hb dX2_madeUp_6 rfl (lv_at hl 1 rfl) ?_
  refine lv_iload_n hx hb dX2_madeUp_7 rfl (lv_at hl 3 rfl) ?_
  refine callVI0 (rest := []) F (c_X2_hasPassed_0 l G q n nc t fl fd k wd wf wa cd cf (by omega) w h) gX2_madeUp_X2_hasPassed rfl hdX2_hasPassed ⟨Nat.le_of_ble_eq_true rfl, Nat.le_of_ble_eq_true rfl⟩ hH ⟨0, 2, _, _, rfl, rfl, rfl⟩ rfl hl.1 (Nat.le_of_ble_eq_true rfl) dX2_madeUp_8 ⟨Nat.le_of_ble_eq_true rfl, Nat.le_of_ble_eq_true rfl⟩ rfl (fun u H locs hH => ?_)
  have hH : HH G A s (sW G q n nc t fl fd k wd wf wa cd cf) H locs := hH
  exact callSX0 (rest := []) F (c_X2_requireArgument_0 l hst G _) gX2_madeUp_X2_requireArgument rfl hdX2_requireArgument ⟨Nat.le_of_ble_eq_true rfl, Nat.le_of_ble_eq_true rfl⟩ hH rfl hl.1 (Nat.le_of_ble_eq_true rfl) dX2_madeUp_11 ⟨Nat.le_of_ble_eq_true rfl, Nat.le_of_ble_eq_true rfl⟩ rfl htb (Nat.le_of_ble_eq_true rfl) (Nat.le_of_ble_eq_true rfl)

set_option maxHeartbeats 4000000 in
set_option maxRecDepth 100000 in
theorem c_X2_madeUp_0 (l : Launch) (hst : l.stackTraces = false) (G : Gx) (q : Nat → Nat) (n nc t : Nat) (fl fd : Int32) (k : Nat → Int32) (wd : Nat → Nat → Nat) (wf : Nat → Nat → Int32) (wa : Nat → Nat → Nat → Int32) (cd : Nat → Nat) (cf : Nat → Nat → Int32) (hn : n ≤ 8) (v : Int32) (h : v < 0 ∨ nI n ≤ v) (w : Int32) : MX l yX2_madeUp wsX2_madeUp ({ frames := 7, cells := 1, slots := 6, locals := 112 } : Room) [.ref (q 0), .int v, .int w] G (sW G q n nc t fl fd k wd wf wa cd cf) "java/lang/IndexOutOfBoundsException" := by
  refine ofMX (cc := cX2_madeUp) (maxL := 4) (ret := (some .int)) (by decide) rfl (Nat.le_of_ble_eq_true rfl) (fun p e s m below meth c A ls F htb hH hl => ?_)
  have F : Fx G p s m _ meth c cX2_madeUp 4 wsX2_madeUp RX2 A := F
  have hx := F.1.1
  have hb := F.1.2.1
  have hl : lv_has ls 4 [(0, .ref (q 0)), (1, .int v), (2, .int w)] := hl
  refine lv_aload_n hx hb dX2_madeUp_0 rfl (lv_at hl 0 rfl) ?_
  refine lv_iload_n hx hb dX2_madeUp_1 rfl (lv_at hl 1 rfl) ?_
  exact callVX0 (rest := []) F (c_X2_workerAt_0 l hst G q n nc t fl fd k wd wf wa cd cf hn v h) gX2_madeUp_X2_workerAt rfl hdX2_workerAt ⟨Nat.le_of_ble_eq_true rfl, Nat.le_of_ble_eq_true rfl⟩ hH ⟨0, 2, _, _, rfl, rfl, rfl⟩ rfl hl.1 (Nat.le_of_ble_eq_true rfl) dX2_madeUp_2 ⟨Nat.le_of_ble_eq_true rfl, Nat.le_of_ble_eq_true rfl⟩ rfl htb (Nat.le_of_ble_eq_true rfl) (Nat.le_of_ble_eq_true rfl)

set_option maxHeartbeats 4000000 in
set_option maxRecDepth 100000 in
theorem c_X2_cutWeeks_1 (l : Launch) (G : Gx) (q : Nat → Nat) (n nc t : Nat) (fl fd : Int32) (k : Nat → Int32) (wd : Nat → Nat → Nat) (wf : Nat → Nat → Int32) (wa : Nat → Nat → Nat → Int32) (cd : Nat → Nat) (cf : Nat → Nat → Int32) (hn : n ≤ 8) (i : Nat) (hi : i < n) : MI l yX2_cutWeeks wsX2_cutWeeks ({ frames := 2, cells := 0, slots := 0, locals := 44 } : Room) [.ref (q 0), .int (nI i)] G (sW G q n nc t fl fd k wd wf wa cd cf) (fun u => sW G q n nc t fl fd k wd wf wa cd cf) (wf i 9) := by
  refine ofMI (cc := cX2_cutWeeks) (maxL := 2) (ret := (some .int)) (by decide) rfl (Nat.le_of_ble_eq_true rfl) (fun p e s m below meth c A ls F hr hnm hH hl => ?_)
  have F : Fx G p s m _ meth c cX2_cutWeeks 2 wsX2_cutWeeks RX2 A := F
  have hx := F.1.1
  have hb := F.1.2.1
  have hl : lv_has ls 2 [(0, .ref (q 0)), (1, .int (nI i))] := hl
  refine lv_aload_n hx hb dX2_cutWeeks_0 rfl (lv_at hl 0 rfl) ?_
  refine lv_iload_n hx hb dX2_cutWeeks_1 rfl (lv_at hl 1 rfl) ?_
  refine callVR0 (rest := []) F (c_X2_workerAt_1 l G q n nc t fl fd k wd wf wa cd cf hn i hi) gX2_cutWeeks_X2_workerAt rfl hdX2_workerAt ⟨Nat.le_of_ble_eq_true rfl, Nat.le_of_ble_eq_true rfl⟩ hH ⟨0, 2, _, _, rfl, rfl, rfl⟩ rfl hl.1 (Nat.le_of_ble_eq_true rfl) dX2_cutWeeks_2 ⟨Nat.le_of_ble_eq_true rfl, Nat.le_of_ble_eq_true rfl⟩ rfl (fun H locs hH => ?_)
  refine rgetN (C := RX1) (T := TX1) (N := 12) (ref := RX1) (host := RX2) F in_X2_cutWeeks_X1 hH (4 + 7 * i + 0) (sW_at hi (j := 0) rfl) rfl 9 (by decide) (by decide +kernel) (fun _ h9 => h9) (v := .int (wf i 9)) rfl dX2_cutWeeks_5 ?_
  exact retI F hr rfl (fun _ => 0) hH rfl (Nat.le_of_ble_eq_true rfl) (Nat.le_of_ble_eq_true rfl) dX2_cutWeeks_8

set_option maxHeartbeats 4000000 in
set_option maxRecDepth 100000 in
theorem c_X2_cutWeeks_0 (l : Launch) (hst : l.stackTraces = false) (G : Gx) (q : Nat → Nat) (n nc t : Nat) (fl fd : Int32) (k : Nat → Int32) (wd : Nat → Nat → Nat) (wf : Nat → Nat → Int32) (wa : Nat → Nat → Nat → Int32) (cd : Nat → Nat) (cf : Nat → Nat → Int32) (hn : n ≤ 8) (v : Int32) (h : v < 0 ∨ nI n ≤ v) : MX l yX2_cutWeeks wsX2_cutWeeks ({ frames := 7, cells := 1, slots := 6, locals := 112 } : Room) [.ref (q 0), .int v] G (sW G q n nc t fl fd k wd wf wa cd cf) "java/lang/IndexOutOfBoundsException" := by
  refine ofMX (cc := cX2_cutWeeks) (maxL := 2) (ret := (some .int)) (by decide) rfl (Nat.le_of_ble_eq_true rfl) (fun p e s m below meth c A ls F htb hH hl => ?_)
  have F : Fx G p s m _ meth c cX2_cutWeeks 2 wsX2_cutWeeks RX2 A := F
  have hx := F.1.1
  have hb := F.1.2.1
  have hl : lv_has ls 2 [(0, .ref (q 0)), (1, .int v)] := hl
  refine lv_aload_n hx hb dX2_cutWeeks_0 rfl (lv_at hl 0 rfl) ?_
  refine lv_iload_n hx hb dX2_cutWeeks_1 rfl (lv_at hl 1 rfl) ?_
  exact callVX0 (rest := []) F (c_X2_workerAt_0 l hst G q n nc t fl fd k wd wf wa cd cf hn v h) gX2_cutWeeks_X2_workerAt rfl hdX2_workerAt ⟨Nat.le_of_ble_eq_true rfl, Nat.le_of_ble_eq_true rfl⟩ hH ⟨0, 2, _, _, rfl, rfl, rfl⟩ rfl hl.1 (Nat.le_of_ble_eq_true rfl) dX2_cutWeeks_2 ⟨Nat.le_of_ble_eq_true rfl, Nat.le_of_ble_eq_true rfl⟩ rfl htb (Nat.le_of_ble_eq_true rfl) (Nat.le_of_ble_eq_true rfl)

set_option maxHeartbeats 4000000 in
set_option maxRecDepth 100000 in
theorem c_X2_owes_1 (l : Launch) (G : Gx) (q : Nat → Nat) (n nc t : Nat) (fl fd : Int32) (k : Nat → Int32) (wd : Nat → Nat → Nat) (wf : Nat → Nat → Int32) (wa : Nat → Nat → Nat → Int32) (cd : Nat → Nat) (cf : Nat → Nat → Int32) (hn : n ≤ 8) (i : Nat) (hi : i < n) : MI l yX2_owes wsX2_owes ({ frames := 2, cells := 0, slots := 0, locals := 44 } : Room) [.ref (q 0), .int (nI i)] G (sW G q n nc t fl fd k wd wf wa cd cf) (fun u => sW G q n nc t fl fd k wd wf wa cd cf) (wf i 11) := by
  refine ofMI (cc := cX2_owes) (maxL := 2) (ret := (some .int)) (by decide) rfl (Nat.le_of_ble_eq_true rfl) (fun p e s m below meth c A ls F hr hnm hH hl => ?_)
  have F : Fx G p s m _ meth c cX2_owes 2 wsX2_owes RX2 A := F
  have hx := F.1.1
  have hb := F.1.2.1
  have hl : lv_has ls 2 [(0, .ref (q 0)), (1, .int (nI i))] := hl
  refine lv_aload_n hx hb dX2_owes_0 rfl (lv_at hl 0 rfl) ?_
  refine lv_iload_n hx hb dX2_owes_1 rfl (lv_at hl 1 rfl) ?_
  refine callVR0 (rest := []) F (c_X2_workerAt_1 l G q n nc t fl fd k wd wf wa cd cf hn i hi) gX2_owes_X2_workerAt rfl hdX2_workerAt ⟨Nat.le_of_ble_eq_true rfl, Nat.le_of_ble_eq_true rfl⟩ hH ⟨0, 2, _, _, rfl, rfl, rfl⟩ rfl hl.1 (Nat.le_of_ble_eq_true rfl) dX2_owes_2 ⟨Nat.le_of_ble_eq_true rfl, Nat.le_of_ble_eq_true rfl⟩ rfl (fun H locs hH => ?_)
  refine rgetN (C := RX1) (T := TX1) (N := 12) (ref := RX1) (host := RX2) F in_X2_owes_X1 hH (4 + 7 * i + 0) (sW_at hi (j := 0) rfl) rfl 11 (by decide) (by decide +kernel) (fun _ h9 => h9) (v := .int (wf i 11)) rfl dX2_owes_5 ?_
  exact retI F hr rfl (fun _ => 0) hH rfl (Nat.le_of_ble_eq_true rfl) (Nat.le_of_ble_eq_true rfl) dX2_owes_8

set_option maxHeartbeats 4000000 in
set_option maxRecDepth 100000 in
theorem c_X2_owes_0 (l : Launch) (hst : l.stackTraces = false) (G : Gx) (q : Nat → Nat) (n nc t : Nat) (fl fd : Int32) (k : Nat → Int32) (wd : Nat → Nat → Nat) (wf : Nat → Nat → Int32) (wa : Nat → Nat → Nat → Int32) (cd : Nat → Nat) (cf : Nat → Nat → Int32) (hn : n ≤ 8) (v : Int32) (h : v < 0 ∨ nI n ≤ v) : MX l yX2_owes wsX2_owes ({ frames := 7, cells := 1, slots := 6, locals := 112 } : Room) [.ref (q 0), .int v] G (sW G q n nc t fl fd k wd wf wa cd cf) "java/lang/IndexOutOfBoundsException" := by
  refine ofMX (cc := cX2_owes) (maxL := 2) (ret := (some .int)) (by decide) rfl (Nat.le_of_ble_eq_true rfl) (fun p e s m below meth c A ls F htb hH hl => ?_)
  have F : Fx G p s m _ meth c cX2_owes 2 wsX2_owes RX2 A := F
  have hx := F.1.1
  have hb := F.1.2.1
  have hl : lv_has ls 2 [(0, .ref (q 0)), (1, .int v)] := hl
  refine lv_aload_n hx hb dX2_owes_0 rfl (lv_at hl 0 rfl) ?_
  refine lv_iload_n hx hb dX2_owes_1 rfl (lv_at hl 1 rfl) ?_
  exact callVX0 (rest := []) F (c_X2_workerAt_0 l hst G q n nc t fl fd k wd wf wa cd cf hn v h) gX2_owes_X2_workerAt rfl hdX2_workerAt ⟨Nat.le_of_ble_eq_true rfl, Nat.le_of_ble_eq_true rfl⟩ hH ⟨0, 2, _, _, rfl, rfl, rfl⟩ rfl hl.1 (Nat.le_of_ble_eq_true rfl) dX2_owes_2 ⟨Nat.le_of_ble_eq_true rfl, Nat.le_of_ble_eq_true rfl⟩ rfl htb (Nat.le_of_ble_eq_true rfl) (Nat.le_of_ble_eq_true rfl)

set_option maxHeartbeats 4000000 in
set_option maxRecDepth 100000 in
theorem c_X2_net_1 (l : Launch) (G : Gx) (q : Nat → Nat) (n nc t : Nat) (fl fd : Int32) (k : Nat → Int32) (wd : Nat → Nat → Nat) (wf : Nat → Nat → Int32) (wa : Nat → Nat → Nat → Int32) (cd : Nat → Nat) (cf : Nat → Nat → Int32) (hn : n ≤ 8) (i : Nat) (hi : i < n) : MI l yX2_net wsX2_net ({ frames := 2, cells := 0, slots := 0, locals := 44 } : Room) [.ref (q 0), .int (nI i)] G (sW G q n nc t fl fd k wd wf wa cd cf) (fun u => sW G q n nc t fl fd k wd wf wa cd cf) (wf i 10 - wf i 11) := by
  refine ofMI (cc := cX2_net) (maxL := 3) (ret := (some .int)) (by decide) rfl (Nat.le_of_ble_eq_true rfl) (fun p e s m below meth c A ls F hr hnm hH hl => ?_)
  have F : Fx G p s m _ meth c cX2_net 3 wsX2_net RX2 A := F
  have hx := F.1.1
  have hb := F.1.2.1
  have hl : lv_has ls 3 [(0, .ref (q 0)), (1, .int (nI i))] := hl
  refine lv_aload_n hx hb dX2_net_0 rfl (lv_at hl 0 rfl) ?_
  refine lv_iload_n hx hb dX2_net_1 rfl (lv_at hl 1 rfl) ?_
  refine callVR0 (rest := []) F (c_X2_workerAt_1 l G q n nc t fl fd k wd wf wa cd cf hn i hi) gX2_net_X2_workerAt rfl hdX2_workerAt ⟨Nat.le_of_ble_eq_true rfl, Nat.le_of_ble_eq_true rfl⟩ hH ⟨0, 2, _, _, rfl, rfl, rfl⟩ rfl hl.1 (Nat.le_of_ble_eq_true rfl) dX2_net_2 ⟨Nat.le_of_ble_eq_true rfl, Nat.le_of_ble_eq_true rfl⟩ rfl (fun H locs hH => ?_)
  refine lv_astore_n (lv' := [(2, .ref (wd i 0)), (0, .ref (q 0)), (1, .int (nI i))]) hx hb dX2_net_5 rfl hl (by decide) rfl (fun ls hl => ?_)
  refine lv_aload_n hx hb dX2_net_6 rfl (lv_at hl 0 rfl) ?_
  refine rgetN (C := RX1) (T := TX1) (N := 12) (ref := RX1) (host := RX2) F in_X2_net_X1 hH (4 + 7 * i + 0) (sW_at hi (j := 0) rfl) rfl 10 (by decide) (by decide +kernel) (fun _ h9 => h9) (v := .int (wf i 10)) rfl dX2_net_7 ?_
  refine lv_aload_n hx hb dX2_net_10 rfl (lv_at hl 0 rfl) ?_
  refine rgetN (C := RX1) (T := TX1) (N := 12) (ref := RX1) (host := RX2) F in_X2_net_X1 hH (4 + 7 * i + 0) (sW_at hi (j := 0) rfl) rfl 11 (by decide) (by decide +kernel) (fun _ h9 => h9) (v := .int (wf i 11)) rfl dX2_net_11 ?_
  refine lv_isub hx hb dX2_net_14 ?_
  exact retI F hr rfl (fun _ => 0) hH rfl (Nat.le_of_ble_eq_true rfl) (Nat.le_of_ble_eq_true rfl) dX2_net_15

set_option maxHeartbeats 4000000 in
set_option maxRecDepth 100000 in
theorem c_X2_net_0 (l : Launch) (hst : l.stackTraces = false) (G : Gx) (q : Nat → Nat) (n nc t : Nat) (fl fd : Int32) (k : Nat → Int32) (wd : Nat → Nat → Nat) (wf : Nat → Nat → Int32) (wa : Nat → Nat → Nat → Int32) (cd : Nat → Nat) (cf : Nat → Nat → Int32) (hn : n ≤ 8) (v : Int32) (h : v < 0 ∨ nI n ≤ v) : MX l yX2_net wsX2_net ({ frames := 7, cells := 1, slots := 6, locals := 112 } : Room) [.ref (q 0), .int v] G (sW G q n nc t fl fd k wd wf wa cd cf) "java/lang/IndexOutOfBoundsException" := by
  refine ofMX (cc := cX2_net) (maxL := 3) (ret := (some .int)) (by decide) rfl (Nat.le_of_ble_eq_true rfl) (fun p e s m below meth c A ls F htb hH hl => ?_)
  have F : Fx G p s m _ meth c cX2_net 3 wsX2_net RX2 A := F
  have hx := F.1.1
  have hb := F.1.2.1
  have hl : lv_has ls 3 [(0, .ref (q 0)), (1, .int v)] := hl
  refine lv_aload_n hx hb dX2_net_0 rfl (lv_at hl 0 rfl) ?_
  refine lv_iload_n hx hb dX2_net_1 rfl (lv_at hl 1 rfl) ?_
  exact callVX0 (rest := []) F (c_X2_workerAt_0 l hst G q n nc t fl fd k wd wf wa cd cf hn v h) gX2_net_X2_workerAt rfl hdX2_workerAt ⟨Nat.le_of_ble_eq_true rfl, Nat.le_of_ble_eq_true rfl⟩ hH ⟨0, 2, _, _, rfl, rfl, rfl⟩ rfl hl.1 (Nat.le_of_ble_eq_true rfl) dX2_net_2 ⟨Nat.le_of_ble_eq_true rfl, Nat.le_of_ble_eq_true rfl⟩ rfl htb (Nat.le_of_ble_eq_true rfl) (Nat.le_of_ble_eq_true rfl)

set_option maxHeartbeats 4000000 in
set_option maxRecDepth 100000 in
theorem c_X2_setFloor_1 (l : Launch) (G : Gx) (q : Nat → Nat) (n nc t : Nat) (fl fd : Int32) (k : Nat → Int32) (wd : Nat → Nat → Nat) (wf : Nat → Nat → Int32) (wa : Nat → Nat → Nat → Int32) (cd : Nat → Nat) (cf : Nat → Nat → Int32) (v : Int32) (h1 : 0 ≤ v) (h2 : v ≤ 100) : MI l yX2_setFloor wsX2_setFloor ({ frames := 1, cells := 0, slots := 0, locals := 22 } : Room) [.ref (q 0), .int v] G (sW G q n nc t fl fd k wd wf wa cd cf) (fun u => sW G q n nc t v fd k wd wf wa cd cf) fl := by
  refine ofMI (cc := cX2_setFloor) (maxL := 3) (ret := (some .int)) (by decide) rfl (Nat.le_of_ble_eq_true rfl) (fun p e s m below meth c A ls F hr hnm hH hl => ?_)
  have F : Fx G p s m _ meth c cX2_setFloor 3 wsX2_setFloor RX2 A := F
  have hx := F.1.1
  have hb := F.1.2.1
  have hl : lv_has ls 3 [(0, .ref (q 0)), (1, .int v)] := hl
  refine lv_iload_n hx hb dX2_setFloor_0 rfl (lv_at hl 1 rfl) ?_
  refine lv_iconst (v := 0) hx hb dX2_setFloor_1 (by decide) ?_
  refine lv_bipush (v := 100) hx hb dX2_setFloor_2 (by decide) ?_
  refine callSI0 (rest := []) F (c_X2_isWithin_1 l G _ v 0 100 h1 h2) gX2_setFloor_X2_isWithin rfl hdX2_isWithin ⟨Nat.le_of_ble_eq_true rfl, Nat.le_of_ble_eq_true rfl⟩ hH rfl hl.1 (Nat.le_of_ble_eq_true rfl) dX2_setFloor_4 ⟨Nat.le_of_ble_eq_true rfl, Nat.le_of_ble_eq_true rfl⟩ rfl (fun u H locs hH => ?_)
  have hH : HH G A s (sW G q n nc t fl fd k wd wf wa cd cf) H locs := hH
  refine callSV0 (rest := []) F (c_X2_requireArgument_1 l G _) gX2_setFloor_X2_requireArgument rfl hdX2_requireArgument ⟨Nat.le_of_ble_eq_true rfl, Nat.le_of_ble_eq_true rfl⟩ hH rfl hl.1 (Nat.le_of_ble_eq_true rfl) dX2_setFloor_7 ⟨Nat.le_of_ble_eq_true rfl, Nat.le_of_ble_eq_true rfl⟩ rfl (fun u H locs hH => ?_)
  have hH : HH G A s (sW G q n nc t fl fd k wd wf wa cd cf) H locs := hH
  refine lv_aload_n hx hb dX2_setFloor_10 rfl (lv_at hl 0 rfl) ?_
  refine rget (C := RX2) (T := TX2) (N := 8) (ref := RX2) F in_X2_setFloor_X2 hH 0 rfl rfl 6 (by decide) (by decide +kernel) (fun _ h9 => h9) (v := .int fl) rfl dX2_setFloor_11 ?_
  refine lv_istore_n (lv' := [(2, .int fl), (0, .ref (q 0)), (1, .int v)]) hx hb dX2_setFloor_14 rfl hl (by decide) rfl (fun ls hl => ?_)
  refine lv_aload_n hx hb dX2_setFloor_15 rfl (lv_at hl 1 rfl) ?_
  refine lv_iload_n hx hb dX2_setFloor_16 rfl (lv_at hl 2 rfl) ?_
  refine rput (C := RX2) (T := TX2) (N := 8) (ref := RX2) F in_X2_setFloor_X2 tyX2 tyX2_ok nmX2 hH 0 rfl rfl 6 (by decide) (by decide +kernel) (fun _ h9 => h9) rfl (v := .int v) rfl rfl (Nat.le_of_ble_eq_true rfl) dX2_setFloor_17 (fun H locs hH => ?_)
  have hH : HH G A s (sW G q n nc t v fd k wd wf wa cd cf) H locs := hH
  refine lv_iload_n hx hb dX2_setFloor_20 rfl (lv_at hl 0 rfl) ?_
  exact retI F hr rfl (fun _ => 0) hH rfl (Nat.le_of_ble_eq_true rfl) (Nat.le_of_ble_eq_true rfl) dX2_setFloor_21

set_option maxHeartbeats 4000000 in
set_option maxRecDepth 100000 in
theorem c_X2_setFloor_2 (l : Launch) (hst : l.stackTraces = false) (G : Gx) (q : Nat → Nat) (n nc t : Nat) (fl fd : Int32) (k : Nat → Int32) (wd : Nat → Nat → Nat) (wf : Nat → Nat → Int32) (wa : Nat → Nat → Nat → Int32) (cd : Nat → Nat) (cf : Nat → Nat → Int32) (v : Int32) (h : v < 0 ∨ 100 < v) : MX l yX2_setFloor wsX2_setFloor ({ frames := 7, cells := 1, slots := 6, locals := 110 } : Room) [.ref (q 0), .int v] G (sW G q n nc t fl fd k wd wf wa cd cf) "java/lang/IllegalArgumentException" := by
  refine ofMX (cc := cX2_setFloor) (maxL := 3) (ret := (some .int)) (by decide) rfl (Nat.le_of_ble_eq_true rfl) (fun p e s m below meth c A ls F htb hH hl => ?_)
  have F : Fx G p s m _ meth c cX2_setFloor 3 wsX2_setFloor RX2 A := F
  have hx := F.1.1
  have hb := F.1.2.1
  have hl : lv_has ls 3 [(0, .ref (q 0)), (1, .int v)] := hl
  refine lv_iload_n hx hb dX2_setFloor_0 rfl (lv_at hl 1 rfl) ?_
  refine lv_iconst (v := 0) hx hb dX2_setFloor_1 (by decide) ?_
  refine lv_bipush (v := 100) hx hb dX2_setFloor_2 (by decide) ?_
  refine callSI0 (rest := []) F (c_X2_isWithin_0 l G _ v 0 100 h) gX2_setFloor_X2_isWithin rfl hdX2_isWithin ⟨Nat.le_of_ble_eq_true rfl, Nat.le_of_ble_eq_true rfl⟩ hH rfl hl.1 (Nat.le_of_ble_eq_true rfl) dX2_setFloor_4 ⟨Nat.le_of_ble_eq_true rfl, Nat.le_of_ble_eq_true rfl⟩ rfl (fun u H locs hH => ?_)
  have hH : HH G A s (sW G q n nc t fl fd k wd wf wa cd cf) H locs := hH
  exact callSX0 (rest := []) F (c_X2_requireArgument_0 l hst G _) gX2_setFloor_X2_requireArgument rfl hdX2_requireArgument ⟨Nat.le_of_ble_eq_true rfl, Nat.le_of_ble_eq_true rfl⟩ hH rfl hl.1 (Nat.le_of_ble_eq_true rfl) dX2_setFloor_7 ⟨Nat.le_of_ble_eq_true rfl, Nat.le_of_ble_eq_true rfl⟩ rfl htb (Nat.le_of_ble_eq_true rfl) (Nat.le_of_ble_eq_true rfl)

set_option maxHeartbeats 4000000 in
set_option maxRecDepth 100000 in
theorem c_X2_door_1 (l : Launch) (G : Gx) (q : Nat → Nat) (n nc t : Nat) (fl fd : Int32) (k : Nat → Int32) (wd : Nat → Nat → Nat) (wf : Nat → Nat → Int32) (wa : Nat → Nat → Nat → Int32) (cd : Nat → Nat) (cf : Nat → Nat → Int32) (hn : n ≤ 8) (i : Nat) (hi : i < n) (ht : t ≤ 201) (j : Nat) (hj : j < t) (h : Int32) (h1 : 0 ≤ h) (h2 : h ≤ 80) (hk : k j = 0) : MV l yX2_door wsX2_door ({ frames := 2, cells := 0, slots := 0, locals := 44 } : Room) [.ref (q 0), .int (nI i), .int (nI j), .int h] G (sW G q n nc t fl fd k wd wf wa cd cf) (fun u => sW G q n nc t fl fd k wd wf (va_up wa i (va_up (wa i) 6 (upd (wa i 6) j h))) cd cf) := by
  refine ofMV (cc := cX2_door) (maxL := 5) (ret := none) (by decide) rfl (Nat.le_of_ble_eq_true rfl) (fun p e s m below meth c A ls F hr hnm hH hl => ?_)
  have F : Fx G p s m _ meth c cX2_door 5 wsX2_door RX2 A := F
  have hx := F.1.1
  have hb := F.1.2.1
  have hl : lv_has ls 5 [(0, .ref (q 0)), (1, .int (nI i)), (2, .int (nI j)), (3, .int h)] := hl
  refine lv_aload_n hx hb dX2_door_0 rfl (lv_at hl 0 rfl) ?_
  refine lv_iload_n hx hb dX2_door_1 rfl (lv_at hl 1 rfl) ?_
  refine callVR0 (rest := []) F (c_X2_workerAt_1 l G q n nc t fl fd k wd wf wa cd cf hn i hi) gX2_door_X2_workerAt rfl hdX2_workerAt ⟨Nat.le_of_ble_eq_true rfl, Nat.le_of_ble_eq_true rfl⟩ hH ⟨0, 2, _, _, rfl, rfl, rfl⟩ rfl hl.1 (Nat.le_of_ble_eq_true rfl) dX2_door_2 ⟨Nat.le_of_ble_eq_true rfl, Nat.le_of_ble_eq_true rfl⟩ rfl (fun H locs hH => ?_)
  refine lv_astore (lv' := [(4, .ref (wd i 0)), (0, .ref (q 0)), (1, .int (nI i)), (2, .int (nI j)), (3, .int h)]) hx hb dX2_door_5 hl (by decide) rfl (fun ls hl => ?_)
  refine lv_aload_n hx hb dX2_door_7 rfl (lv_at hl 1 rfl) ?_
  refine lv_iload_n hx hb dX2_door_8 rfl (lv_at hl 3 rfl) ?_
  refine callVI0 (rest := []) F (c_X2_hasPassed_1 l G q n nc t fl fd k wd wf wa cd cf (by omega) j hj) gX2_door_X2_hasPassed rfl hdX2_hasPassed ⟨Nat.le_of_ble_eq_true rfl, Nat.le_of_ble_eq_true rfl⟩ hH ⟨0, 2, _, _, rfl, rfl, rfl⟩ rfl hl.1 (Nat.le_of_ble_eq_true rfl) dX2_door_9 ⟨Nat.le_of_ble_eq_true rfl, Nat.le_of_ble_eq_true rfl⟩ rfl (fun u H locs hH => ?_)
  have hH : HH G A s (sW G q n nc t fl fd k wd wf wa cd cf) H locs := hH
  refine lv_if_eq (tgt := 29) hx hb dX2_door_12 (by decide) (fun c_12 => absurd c_12 (by decide)) (fun c_12 => ?_)
  refine lv_iload_n hx hb dX2_door_15 rfl (lv_at hl 4 rfl) ?_
  refine lv_iconst (v := 0) hx hb dX2_door_16 (by decide) ?_
  refine lv_bipush (v := 80) hx hb dX2_door_17 (by decide) ?_
  refine callSI0 (rest := []) F (c_X2_isWithin_1 l G _ h 0 80 h1 h2) gX2_door_X2_isWithin rfl hdX2_isWithin ⟨Nat.le_of_ble_eq_true rfl, Nat.le_of_ble_eq_true rfl⟩ hH rfl hl.1 (Nat.le_of_ble_eq_true rfl) dX2_door_19 ⟨Nat.le_of_ble_eq_true rfl, Nat.le_of_ble_eq_true rfl⟩ rfl (fun u H locs hH => ?_)
  have hH : HH G A s (sW G q n nc t fl fd k wd wf wa cd cf) H locs := hH
  refine lv_if_eq (tgt := 29) hx hb dX2_door_22 (by decide) (fun c_22 => absurd c_22 (by decide)) (fun c_22 => ?_)
  refine lv_iconst (v := 1) hx hb dX2_door_25 (by decide) ?_
  refine lv_goto (tgt := 30) hx hb dX2_door_26 (by decide) ?_
  refine callSV0 (rest := []) F (c_X2_requireArgument_1 l G _) gX2_door_X2_requireArgument rfl hdX2_requireArgument ⟨Nat.le_of_ble_eq_true rfl, Nat.le_of_ble_eq_true rfl⟩ hH rfl hl.1 (Nat.le_of_ble_eq_true rfl) dX2_door_30 ⟨Nat.le_of_ble_eq_true rfl, Nat.le_of_ble_eq_true rfl⟩ rfl (fun u H locs hH => ?_)
  have hH : HH G A s (sW G q n nc t fl fd k wd wf wa cd cf) H locs := hH
  refine lv_aload_n hx hb dX2_door_33 rfl (lv_at hl 1 rfl) ?_
  refine rget (C := RX2) (T := TX2) (N := 8) (ref := RX2) F in_X2_door_X2 hH 0 rfl rfl 2 (by decide) (by decide +kernel) (fun _ h9 => h9) (v := .ref (q 3)) rfl dX2_door_34 ?_
  refine lv_iload_n hx hb dX2_door_37 rfl (lv_at hl 3 rfl) ?_
  refine rzald F hH 3 (n := 201) (f := k) rfl j rfl (by omega) (by decide) dX2_door_38 ?_
  refine lv_if_ne (tgt := 46) hx hb dX2_door_39 (by decide) (fun c_39 => absurd hk c_39) (fun c_39 => ?_)
  refine lv_iconst (v := 1) hx hb dX2_door_42 (by decide) ?_
  refine lv_goto (tgt := 47) hx hb dX2_door_43 (by decide) ?_
  refine callSV0 (rest := []) F (c_X2_requireState_1 l G _) gX2_door_X2_requireState rfl hdX2_requireState ⟨Nat.le_of_ble_eq_true rfl, Nat.le_of_ble_eq_true rfl⟩ hH rfl hl.1 (Nat.le_of_ble_eq_true rfl) dX2_door_47 ⟨Nat.le_of_ble_eq_true rfl, Nat.le_of_ble_eq_true rfl⟩ rfl (fun u H locs hH => ?_)
  have hH : HH G A s (sW G q n nc t fl fd k wd wf wa cd cf) H locs := hH
  refine lv_aload hx hb dX2_door_50 (lv_at hl 0 rfl) ?_
  refine rgetN (C := RX1) (T := TX1) (N := 12) (ref := RX1) (host := RX2) F in_X2_door_X1 hH (4 + 7 * i + 0) (sW_at hi (j := 0) rfl) rfl 6 (by decide) (by decide +kernel) (fun _ h9 => h9) (v := .ref (wd i 6)) rfl dX2_door_52 ?_
  refine lv_iload_n hx hb dX2_door_55 rfl (lv_at hl 3 rfl) ?_
  refine lv_iload_n hx hb dX2_door_56 rfl (lv_at hl 4 rfl) ?_
  refine riast F hH (4 + 7 * i + 5) (n := 201) (f := wa i 6) (sW_at hi (j := 5) rfl) j rfl (by omega) (by decide) dX2_door_57 (fun H locs hH => ?_)
  have hH : HH G A s (sW G q n nc t fl fd k wd wf (va_up wa i (va_up (wa i) 6 (upd (wa i 6) j h))) cd cf) H locs := (sW_setA (wd := wd) (wf := wf) (wa := wa) hi (j := 5) (by decide) (a' := va_up (wa i) 6 (upd (wa i 6) j h)) rfl ▸ hH)
  exact retV F hr (fun _ => 0) hH (Nat.le_of_ble_eq_true rfl) (Nat.le_of_ble_eq_true rfl) dX2_door_58

set_option maxHeartbeats 4000000 in
set_option maxRecDepth 100000 in
theorem c_X2_door_3 (l : Launch) (hst : l.stackTraces = false) (G : Gx) (q : Nat → Nat) (n nc t : Nat) (fl fd : Int32) (k : Nat → Int32) (wd : Nat → Nat → Nat) (wf : Nat → Nat → Int32) (wa : Nat → Nat → Nat → Int32) (cd : Nat → Nat) (cf : Nat → Nat → Int32) (hn : n ≤ 8) (i : Nat) (hi : i < n) (ht : t ≤ 201) (j : Nat) (hj : j < t) (h : Int32) (h1 : 0 ≤ h) (h2 : h ≤ 80) (hk : ¬ k j = 0) : MX l yX2_door wsX2_door ({ frames := 7, cells := 1, slots := 6, locals := 110 } : Room) [.ref (q 0), .int (nI i), .int (nI j), .int h] G (sW G q n nc t fl fd k wd wf wa cd cf) "java/lang/IllegalStateException" := by
  refine ofMX (cc := cX2_door) (maxL := 5) (ret := none) (by decide) rfl (Nat.le_of_ble_eq_true rfl) (fun p e s m below meth c A ls F htb hH hl => ?_)
  have F : Fx G p s m _ meth c cX2_door 5 wsX2_door RX2 A := F
  have hx := F.1.1
  have hb := F.1.2.1
  have hl : lv_has ls 5 [(0, .ref (q 0)), (1, .int (nI i)), (2, .int (nI j)), (3, .int h)] := hl
  refine lv_aload_n hx hb dX2_door_0 rfl (lv_at hl 0 rfl) ?_
  refine lv_iload_n hx hb dX2_door_1 rfl (lv_at hl 1 rfl) ?_
  refine callVR0 (rest := []) F (c_X2_workerAt_1 l G q n nc t fl fd k wd wf wa cd cf hn i hi) gX2_door_X2_workerAt rfl hdX2_workerAt ⟨Nat.le_of_ble_eq_true rfl, Nat.le_of_ble_eq_true rfl⟩ hH ⟨0, 2, _, _, rfl, rfl, rfl⟩ rfl hl.1 (Nat.le_of_ble_eq_true rfl) dX2_door_2 ⟨Nat.le_of_ble_eq_true rfl, Nat.le_of_ble_eq_true rfl⟩ rfl (fun H locs hH => ?_)
  refine lv_astore (lv' := [(4, .ref (wd i 0)), (0, .ref (q 0)), (1, .int (nI i)), (2, .int (nI j)), (3, .int h)]) hx hb dX2_door_5 hl (by decide) rfl (fun ls hl => ?_)
  refine lv_aload_n hx hb dX2_door_7 rfl (lv_at hl 1 rfl) ?_
  refine lv_iload_n hx hb dX2_door_8 rfl (lv_at hl 3 rfl) ?_
  refine callVI0 (rest := []) F (c_X2_hasPassed_1 l G q n nc t fl fd k wd wf wa cd cf (by omega) j hj) gX2_door_X2_hasPassed rfl hdX2_hasPassed ⟨Nat.le_of_ble_eq_true rfl, Nat.le_of_ble_eq_true rfl⟩ hH ⟨0, 2, _, _, rfl, rfl, rfl⟩ rfl hl.1 (Nat.le_of_ble_eq_true rfl) dX2_door_9 ⟨Nat.le_of_ble_eq_true rfl, Nat.le_of_ble_eq_true rfl⟩ rfl (fun u H locs hH => ?_)
  have hH : HH G A s (sW G q n nc t fl fd k wd wf wa cd cf) H locs := hH
  refine lv_if_eq (tgt := 29) hx hb dX2_door_12 (by decide) (fun c_12 => absurd c_12 (by decide)) (fun c_12 => ?_)
  refine lv_iload_n hx hb dX2_door_15 rfl (lv_at hl 4 rfl) ?_
  refine lv_iconst (v := 0) hx hb dX2_door_16 (by decide) ?_
  refine lv_bipush (v := 80) hx hb dX2_door_17 (by decide) ?_
  refine callSI0 (rest := []) F (c_X2_isWithin_1 l G _ h 0 80 h1 h2) gX2_door_X2_isWithin rfl hdX2_isWithin ⟨Nat.le_of_ble_eq_true rfl, Nat.le_of_ble_eq_true rfl⟩ hH rfl hl.1 (Nat.le_of_ble_eq_true rfl) dX2_door_19 ⟨Nat.le_of_ble_eq_true rfl, Nat.le_of_ble_eq_true rfl⟩ rfl (fun u H locs hH => ?_)
  have hH : HH G A s (sW G q n nc t fl fd k wd wf wa cd cf) H locs := hH
  refine lv_if_eq (tgt := 29) hx hb dX2_door_22 (by decide) (fun c_22 => absurd c_22 (by decide)) (fun c_22 => ?_)
  refine lv_iconst (v := 1) hx hb dX2_door_25 (by decide) ?_
  refine lv_goto (tgt := 30) hx hb dX2_door_26 (by decide) ?_
  refine callSV0 (rest := []) F (c_X2_requireArgument_1 l G _) gX2_door_X2_requireArgument rfl hdX2_requireArgument ⟨Nat.le_of_ble_eq_true rfl, Nat.le_of_ble_eq_true rfl⟩ hH rfl hl.1 (Nat.le_of_ble_eq_true rfl) dX2_door_30 ⟨Nat.le_of_ble_eq_true rfl, Nat.le_of_ble_eq_true rfl⟩ rfl (fun u H locs hH => ?_)
  have hH : HH G A s (sW G q n nc t fl fd k wd wf wa cd cf) H locs := hH
  refine lv_aload_n hx hb dX2_door_33 rfl (lv_at hl 1 rfl) ?_
  refine rget (C := RX2) (T := TX2) (N := 8) (ref := RX2) F in_X2_door_X2 hH 0 rfl rfl 2 (by decide) (by decide +kernel) (fun _ h9 => h9) (v := .ref (q 3)) rfl dX2_door_34 ?_
  refine lv_iload_n hx hb dX2_door_37 rfl (lv_at hl 3 rfl) ?_
  refine rzald F hH 3 (n := 201) (f := k) rfl j rfl (by omega) (by decide) dX2_door_38 ?_
  refine lv_if_ne (tgt := 46) hx hb dX2_door_39 (by decide) (fun c_39 => ?_) (fun c_39 => absurd c_39 hk)
  refine lv_iconst (v := 0) hx hb dX2_door_46 (by decide) ?_
  exact callSX0 (rest := []) F (c_X2_requireState_0 l hst G _) gX2_door_X2_requireState rfl hdX2_requireState ⟨Nat.le_of_ble_eq_true rfl, Nat.le_of_ble_eq_true rfl⟩ hH rfl hl.1 (Nat.le_of_ble_eq_true rfl) dX2_door_47 ⟨Nat.le_of_ble_eq_true rfl, Nat.le_of_ble_eq_true rfl⟩ rfl htb (Nat.le_of_ble_eq_true rfl) (Nat.le_of_ble_eq_true rfl)

set_option maxHeartbeats 4000000 in
set_option maxRecDepth 100000 in
theorem c_X2_door_2 (l : Launch) (hst : l.stackTraces = false) (G : Gx) (q : Nat → Nat) (n nc t : Nat) (fl fd : Int32) (k : Nat → Int32) (wd : Nat → Nat → Nat) (wf : Nat → Nat → Int32) (wa : Nat → Nat → Nat → Int32) (cd : Nat → Nat) (cf : Nat → Nat → Int32) (hn : n ≤ 8) (i : Nat) (hi : i < n) (ht : t ≤ 201) (w : Int32) (x : Int32) (h : w < 0 ∨ nI t ≤ w) : MX l yX2_door wsX2_door ({ frames := 7, cells := 1, slots := 6, locals := 110 } : Room) [.ref (q 0), .int (nI i), .int w, .int x] G (sW G q n nc t fl fd k wd wf wa cd cf) "java/lang/IllegalArgumentException" := by
  refine ofMX (cc := cX2_door) (maxL := 5) (ret := none) (by decide) rfl (Nat.le_of_ble_eq_true rfl) (fun p e s m below meth c A ls F htb hH hl => ?_)
  have F : Fx G p s m _ meth c cX2_door 5 wsX2_door RX2 A := F
  have hx := F.1.1
  have hb := F.1.2.1
  have hl : lv_has ls 5 [(0, .ref (q 0)), (1, .int (nI i)), (2, .int w), (3, .int x)] := hl
  refine lv_aload_n hx hb dX2_door_0 rfl (lv_at hl 0 rfl) ?_
  refine lv_iload_n hx hb dX2_door_1 rfl (lv_at hl 1 rfl) ?_
  refine callVR0 (rest := []) F (c_X2_workerAt_1 l G q n nc t fl fd k wd wf wa cd cf hn i hi) gX2_door_X2_workerAt rfl hdX2_workerAt ⟨Nat.le_of_ble_eq_true rfl, Nat.le_of_ble_eq_true rfl⟩ hH ⟨0, 2, _, _, rfl, rfl, rfl⟩ rfl hl.1 (Nat.le_of_ble_eq_true rfl) dX2_door_2 ⟨Nat.le_of_ble_eq_true rfl, Nat.le_of_ble_eq_true rfl⟩ rfl (fun H locs hH => ?_)
  refine lv_astore (lv' := [(4, .ref (wd i 0)), (0, .ref (q 0)), (1, .int (nI i)), (2, .int w), (3, .int x)]) hx hb dX2_door_5 hl (by decide) rfl (fun ls hl => ?_)
  refine lv_aload_n hx hb dX2_door_7 rfl (lv_at hl 1 rfl) ?_
  refine lv_iload_n hx hb dX2_door_8 rfl (lv_at hl 3 rfl) ?_
  refine callVI0 (rest := []) F (c_X2_hasPassed_0 l G q n nc t fl fd k wd wf wa cd cf (by omega) w h) gX2_door_X2_hasPassed rfl hdX2_hasPassed ⟨Nat.le_of_ble_eq_true rfl, Nat.le_of_ble_eq_true rfl⟩ hH ⟨0, 2, _, _, rfl, rfl, rfl⟩ rfl hl.1 (Nat.le_of_ble_eq_true rfl) dX2_door_9 ⟨Nat.le_of_ble_eq_true rfl, Nat.le_of_ble_eq_true rfl⟩ rfl (fun u H locs hH => ?_)
  have hH : HH G A s (sW G q n nc t fl fd k wd wf wa cd cf) H locs := hH
  refine lv_if_eq (tgt := 29) hx hb dX2_door_12 (by decide) (fun c_12 => ?_) (fun c_12 => absurd rfl c_12)
  refine lv_iconst (v := 0) hx hb dX2_door_29 (by decide) ?_
  exact callSX0 (rest := []) F (c_X2_requireArgument_0 l hst G _) gX2_door_X2_requireArgument rfl hdX2_requireArgument ⟨Nat.le_of_ble_eq_true rfl, Nat.le_of_ble_eq_true rfl⟩ hH rfl hl.1 (Nat.le_of_ble_eq_true rfl) dX2_door_30 ⟨Nat.le_of_ble_eq_true rfl, Nat.le_of_ble_eq_true rfl⟩ rfl htb (Nat.le_of_ble_eq_true rfl) (Nat.le_of_ble_eq_true rfl)

set_option maxHeartbeats 4000000 in
set_option maxRecDepth 100000 in
theorem c_X2_door_22 (l : Launch) (hst : l.stackTraces = false) (G : Gx) (q : Nat → Nat) (n nc t : Nat) (fl fd : Int32) (k : Nat → Int32) (wd : Nat → Nat → Nat) (wf : Nat → Nat → Int32) (wa : Nat → Nat → Nat → Int32) (cd : Nat → Nat) (cf : Nat → Nat → Int32) (hn : n ≤ 8) (i : Nat) (hi : i < n) (ht : t ≤ 201) (j : Nat) (hj : j < t) (x : Int32) (h : x < 0 ∨ 80 < x) : MX l yX2_door wsX2_door ({ frames := 7, cells := 1, slots := 6, locals := 110 } : Room) [.ref (q 0), .int (nI i), .int (nI j), .int x] G (sW G q n nc t fl fd k wd wf wa cd cf) "java/lang/IllegalArgumentException" := by
  refine ofMX (cc := cX2_door) (maxL := 5) (ret := none) (by decide) rfl (Nat.le_of_ble_eq_true rfl) (fun p e s m below meth c A ls F htb hH hl => ?_)
  have F : Fx G p s m _ meth c cX2_door 5 wsX2_door RX2 A := F
  have hx := F.1.1
  have hb := F.1.2.1
  have hl : lv_has ls 5 [(0, .ref (q 0)), (1, .int (nI i)), (2, .int (nI j)), (3, .int x)] := hl
  refine lv_aload_n hx hb dX2_door_0 rfl (lv_at hl 0 rfl) ?_
  refine lv_iload_n hx hb dX2_door_1 rfl (lv_at hl 1 rfl) ?_
  refine callVR0 (rest := []) F (c_X2_workerAt_1 l G q n nc t fl fd k wd wf wa cd cf hn i hi) gX2_door_X2_workerAt rfl hdX2_workerAt ⟨Nat.le_of_ble_eq_true rfl, Nat.le_of_ble_eq_true rfl⟩ hH ⟨0, 2, _, _, rfl, rfl, rfl⟩ rfl hl.1 (Nat.le_of_ble_eq_true rfl) dX2_door_2 ⟨Nat.le_of_ble_eq_true rfl, Nat.le_of_ble_eq_true rfl⟩ rfl (fun H locs hH => ?_)
  refine lv_astore (lv' := [(4, .ref (wd i 0)), (0, .ref (q 0)), (1, .int (nI i)), (2, .int (nI j)), (3, .int x)]) hx hb dX2_door_5 hl (by decide) rfl (fun ls hl => ?_)
  refine lv_aload_n hx hb dX2_door_7 rfl (lv_at hl 1 rfl) ?_
  refine lv_iload_n hx hb dX2_door_8 rfl (lv_at hl 3 rfl) ?_
  refine callVI0 (rest := []) F (c_X2_hasPassed_1 l G q n nc t fl fd k wd wf wa cd cf (by omega) j hj) gX2_door_X2_hasPassed rfl hdX2_hasPassed ⟨Nat.le_of_ble_eq_true rfl, Nat.le_of_ble_eq_true rfl⟩ hH ⟨0, 2, _, _, rfl, rfl, rfl⟩ rfl hl.1 (Nat.le_of_ble_eq_true rfl) dX2_door_9 ⟨Nat.le_of_ble_eq_true rfl, Nat.le_of_ble_eq_true rfl⟩ rfl (fun u H locs hH => ?_)
  have hH : HH G A s (sW G q n nc t fl fd k wd wf wa cd cf) H locs := hH
  refine lv_if_eq (tgt := 29) hx hb dX2_door_12 (by decide) (fun c_12 => absurd c_12 (by decide)) (fun c_12 => ?_)
  refine lv_iload_n hx hb dX2_door_15 rfl (lv_at hl 4 rfl) ?_
  refine lv_iconst (v := 0) hx hb dX2_door_16 (by decide) ?_
  refine lv_bipush (v := 80) hx hb dX2_door_17 (by decide) ?_
  refine callSI0 (rest := []) F (c_X2_isWithin_0 l G _ x 0 80 h) gX2_door_X2_isWithin rfl hdX2_isWithin ⟨Nat.le_of_ble_eq_true rfl, Nat.le_of_ble_eq_true rfl⟩ hH rfl hl.1 (Nat.le_of_ble_eq_true rfl) dX2_door_19 ⟨Nat.le_of_ble_eq_true rfl, Nat.le_of_ble_eq_true rfl⟩ rfl (fun u H locs hH => ?_)
  have hH : HH G A s (sW G q n nc t fl fd k wd wf wa cd cf) H locs := hH
  refine lv_if_eq (tgt := 29) hx hb dX2_door_22 (by decide) (fun c_22 => ?_) (fun c_22 => absurd rfl c_22)
  refine lv_iconst (v := 0) hx hb dX2_door_29 (by decide) ?_
  exact callSX0 (rest := []) F (c_X2_requireArgument_0 l hst G _) gX2_door_X2_requireArgument rfl hdX2_requireArgument ⟨Nat.le_of_ble_eq_true rfl, Nat.le_of_ble_eq_true rfl⟩ hH rfl hl.1 (Nat.le_of_ble_eq_true rfl) dX2_door_30 ⟨Nat.le_of_ble_eq_true rfl, Nat.le_of_ble_eq_true rfl⟩ rfl htb (Nat.le_of_ble_eq_true rfl) (Nat.le_of_ble_eq_true rfl)

set_option maxHeartbeats 4000000 in
set_option maxRecDepth 100000 in
theorem c_X2_door_0 (l : Launch) (hst : l.stackTraces = false) (G : Gx) (q : Nat → Nat) (n nc t : Nat) (fl fd : Int32) (k : Nat → Int32) (wd : Nat → Nat → Nat) (wf : Nat → Nat → Int32) (wa : Nat → Nat → Nat → Int32) (cd : Nat → Nat) (cf : Nat → Nat → Int32) (hn : n ≤ 8) (v : Int32) (h : v < 0 ∨ nI n ≤ v) (w x : Int32) : MX l yX2_door wsX2_door ({ frames := 7, cells := 1, slots := 6, locals := 112 } : Room) [.ref (q 0), .int v, .int w, .int x] G (sW G q n nc t fl fd k wd wf wa cd cf) "java/lang/IndexOutOfBoundsException" := by
  refine ofMX (cc := cX2_door) (maxL := 5) (ret := none) (by decide) rfl (Nat.le_of_ble_eq_true rfl) (fun p e s m below meth c A ls F htb hH hl => ?_)
  have F : Fx G p s m _ meth c cX2_door 5 wsX2_door RX2 A := F
  have hx := F.1.1
  have hb := F.1.2.1
  have hl : lv_has ls 5 [(0, .ref (q 0)), (1, .int v), (2, .int w), (3, .int x)] := hl
  refine lv_aload_n hx hb dX2_door_0 rfl (lv_at hl 0 rfl) ?_
  refine lv_iload_n hx hb dX2_door_1 rfl (lv_at hl 1 rfl) ?_
  exact callVX0 (rest := []) F (c_X2_workerAt_0 l hst G q n nc t fl fd k wd wf wa cd cf hn v h) gX2_door_X2_workerAt rfl hdX2_workerAt ⟨Nat.le_of_ble_eq_true rfl, Nat.le_of_ble_eq_true rfl⟩ hH ⟨0, 2, _, _, rfl, rfl, rfl⟩ rfl hl.1 (Nat.le_of_ble_eq_true rfl) dX2_door_2 ⟨Nat.le_of_ble_eq_true rfl, Nat.le_of_ble_eq_true rfl⟩ rfl htb (Nat.le_of_ble_eq_true rfl) (Nat.le_of_ble_eq_true rfl)

set_option maxHeartbeats 4000000 in
set_option maxRecDepth 100000 in
theorem c_X2_mail_1 (l : Launch) (G : Gx) (q : Nat → Nat) (n nc t : Nat) (fl fd : Int32) (k : Nat → Int32) (wd : Nat → Nat → Nat) (wf : Nat → Nat → Int32) (wa : Nat → Nat → Nat → Int32) (cd : Nat → Nat) (cf : Nat → Nat → Int32) (hn : n ≤ 8) (i : Nat) (hi : i < n) (ht : t ≤ 201) (j : Nat) (hj : j < t) (hk : k j = 0) : MV l yX2_mail wsX2_mail ({ frames := 2, cells := 0, slots := 0, locals := 44 } : Room) [.ref (q 0), .int (nI i), .int (nI j)] G (sW G q n nc t fl fd k wd wf wa cd cf) (fun u => sW G q n nc t fl fd k wd wf (va_up wa i (va_up (wa i) 7 (upd (wa i 7) j 1))) cd cf) := by
  refine ofMV (cc := cX2_mail) (maxL := 4) (ret := none) (by decide) rfl (Nat.le_of_ble_eq_true rfl) (fun p e s m below meth c A ls F hr hnm hH hl => ?_)
  have F : Fx G p s m _ meth c cX2_mail 4 wsX2_mail RX2 A := F
  have hx := F.1.1
  have hb := F.1.2.1
  have hl : lv_has ls 4 [(0, .ref (q 0)), (1, .int (nI i)), (2, .int (nI j))] := hl
  refine lv_aload_n hx hb dX2_mail_0 rfl (lv_at hl 0 rfl) ?_
  refine lv_iload_n hx hb dX2_mail_1 rfl (lv_at hl 1 rfl) ?_
  refine callVR0 (rest := []) F (c_X2_workerAt_1 l G q n nc t fl fd k wd wf wa cd cf hn i hi) gX2_mail_X2_workerAt rfl hdX2_workerAt ⟨Nat.le_of_ble_eq_true rfl, Nat.le_of_ble_eq_true rfl⟩ hH ⟨0, 2, _, _, rfl, rfl, rfl⟩ rfl hl.1 (Nat.le_of_ble_eq_true rfl) dX2_mail_2 ⟨Nat.le_of_ble_eq_true rfl, Nat.le_of_ble_eq_true rfl⟩ rfl (fun H locs hH => ?_)
  refine lv_astore_n (lv' := [(3, .ref (wd i 0)), (0, .ref (q 0)), (1, .int (nI i)), (2, .int (nI j))]) hx hb dX2_mail_5 rfl hl (by decide) rfl (fun ls hl => ?_)
  refine lv_aload_n hx hb dX2_mail_6 rfl (lv_at hl 1 rfl) ?_
  refine lv_iload_n hx hb dX2_mail_7 rfl (lv_at hl 3 rfl) ?_
  refine callVI0 (rest := []) F (c_X2_hasPassed_1 l G q n nc t fl fd k wd wf wa cd cf (by omega) j hj) gX2_mail_X2_hasPassed rfl hdX2_hasPassed ⟨Nat.le_of_ble_eq_true rfl, Nat.le_of_ble_eq_true rfl⟩ hH ⟨0, 2, _, _, rfl, rfl, rfl⟩ rfl hl.1 (Nat.le_of_ble_eq_true rfl) dX2_mail_8 ⟨Nat.le_of_ble_eq_true rfl, Nat.le_of_ble_eq_true rfl⟩ rfl (fun u H locs hH => ?_)
  have hH : HH G A s (sW G q n nc t fl fd k wd wf wa cd cf) H locs := hH
  refine callSV0 (rest := []) F (c_X2_requireArgument_1 l G _) gX2_mail_X2_requireArgument rfl hdX2_requireArgument ⟨Nat.le_of_ble_eq_true rfl, Nat.le_of_ble_eq_true rfl⟩ hH rfl hl.1 (Nat.le_of_ble_eq_true rfl) dX2_mail_11 ⟨Nat.le_of_ble_eq_true rfl, Nat.le_of_ble_eq_true rfl⟩ rfl (fun u H locs hH => ?_)
  have hH : HH G A s (sW G q n nc t fl fd k wd wf wa cd cf) H locs := hH
  refine lv_aload_n hx hb dX2_mail_14 rfl (lv_at hl 1 rfl) ?_
  refine rget (C := RX2) (T := TX2) (N := 8) (ref := RX2) F in_X2_mail_X2 hH 0 rfl rfl 2 (by decide) (by decide +kernel) (fun _ h9 => h9) (v := .ref (q 3)) rfl dX2_mail_15 ?_
  refine lv_iload_n hx hb dX2_mail_18 rfl (lv_at hl 3 rfl) ?_
  refine rzald F hH 3 (n := 201) (f := k) rfl j rfl (by omega) (by decide) dX2_mail_19 ?_
  refine lv_if_ne (tgt := 27) hx hb dX2_mail_20 (by decide) (fun c_20 => absurd hk c_20) (fun c_20 => ?_)
  refine lv_iconst (v := 1) hx hb dX2_mail_23 (by decide) ?_
  refine lv_goto (tgt := 28) hx hb dX2_mail_24 (by decide) ?_
  refine callSV0 (rest := []) F (c_X2_requireState_1 l G _) gX2_mail_X2_requireState rfl hdX2_requireState ⟨Nat.le_of_ble_eq_true rfl, Nat.le_of_ble_eq_true rfl⟩ hH rfl hl.1 (Nat.le_of_ble_eq_true rfl) dX2_mail_28 ⟨Nat.le_of_ble_eq_true rfl, Nat.le_of_ble_eq_true rfl⟩ rfl (fun u H locs hH => ?_)
  have hH : HH G A s (sW G q n nc t fl fd k wd wf wa cd cf) H locs := hH
  refine lv_aload_n hx hb dX2_mail_31 rfl (lv_at hl 0 rfl) ?_
  refine rgetN (C := RX1) (T := TX1) (N := 12) (ref := RX1) (host := RX2) F in_X2_mail_X1 hH (4 + 7 * i + 0) (sW_at hi (j := 0) rfl) rfl 7 (by decide) (by decide +kernel) (fun _ h9 => h9) (v := .ref (wd i 7)) rfl dX2_mail_32 ?_
  refine lv_iload_n hx hb dX2_mail_35 rfl (lv_at hl 3 rfl) ?_
  refine lv_iconst (v := 1) hx hb dX2_mail_36 (by decide) ?_
  refine rzast F hH (4 + 7 * i + 6) (n := 201) (f := wa i 7) (sW_at hi (j := 6) rfl) j rfl (by omega) (by decide) rfl dX2_mail_37 (fun H locs hH => ?_)
  have hH : HH G A s (sW G q n nc t fl fd k wd wf (va_up wa i (va_up (wa i) 7 (upd (wa i 7) j 1))) cd cf) H locs := (sW_setA (wd := wd) (wf := wf) (wa := wa) hi (j := 6) (by decide) (a' := va_up (wa i) 7 (upd (wa i 7) j 1)) rfl ▸ hH)
  exact retV F hr (fun _ => 0) hH (Nat.le_of_ble_eq_true rfl) (Nat.le_of_ble_eq_true rfl) dX2_mail_38

set_option maxHeartbeats 4000000 in
set_option maxRecDepth 100000 in
theorem c_X2_mail_3 (l : Launch) (hst : l.stackTraces = false) (G : Gx) (q : Nat → Nat) (n nc t : Nat) (fl fd : Int32) (k : Nat → Int32) (wd : Nat → Nat → Nat) (wf : Nat → Nat → Int32) (wa : Nat → Nat → Nat → Int32) (cd : Nat → Nat) (cf : Nat → Nat → Int32) (hn : n ≤ 8) (i : Nat) (hi : i < n) (ht : t ≤ 201) (j : Nat) (hj : j < t) (hk : ¬ k j = 0) : MX l yX2_mail wsX2_mail ({ frames := 7, cells := 1, slots := 6, locals := 110 } : Room) [.ref (q 0), .int (nI i), .int (nI j)] G (sW G q n nc t fl fd k wd wf wa cd cf) "java/lang/IllegalStateException" := by
  refine ofMX (cc := cX2_mail) (maxL := 4) (ret := none) (by decide) rfl (Nat.le_of_ble_eq_true rfl) (fun p e s m below meth c A ls F htb hH hl => ?_)
  have F : Fx G p s m _ meth c cX2_mail 4 wsX2_mail RX2 A := F
  have hx := F.1.1
  have hb := F.1.2.1
  have hl : lv_has ls 4 [(0, .ref (q 0)), (1, .int (nI i)), (2, .int (nI j))] := hl
  refine lv_aload_n hx hb dX2_mail_0 rfl (lv_at hl 0 rfl) ?_
  refine lv_iload_n hx hb dX2_mail_1 rfl (lv_at hl 1 rfl) ?_
  refine callVR0 (rest := []) F (c_X2_workerAt_1 l G q n nc t fl fd k wd wf wa cd cf hn i hi) gX2_mail_X2_workerAt rfl hdX2_workerAt ⟨Nat.le_of_ble_eq_true rfl, Nat.le_of_ble_eq_true rfl⟩ hH ⟨0, 2, _, _, rfl, rfl, rfl⟩ rfl hl.1 (Nat.le_of_ble_eq_true rfl) dX2_mail_2 ⟨Nat.le_of_ble_eq_true rfl, Nat.le_of_ble_eq_true rfl⟩ rfl (fun H locs hH => ?_)
  refine lv_astore_n (lv' := [(3, .ref (wd i 0)), (0, .ref (q 0)), (1, .int (nI i)), (2, .int (nI j))]) hx hb dX2_mail_5 rfl hl (by decide) rfl (fun ls hl => ?_)
  refine lv_aload_n hx hb dX2_mail_6 rfl (lv_at hl 1 rfl) ?_
  refine lv_iload_n hx hb dX2_mail_7 rfl (lv_at hl 3 rfl) ?_
  refine callVI0 (rest := []) F (c_X2_hasPassed_1 l G q n nc t fl fd k wd wf wa cd cf (by omega) j hj) gX2_mail_X2_hasPassed rfl hdX2_hasPassed ⟨Nat.le_of_ble_eq_true rfl, Nat.le_of_ble_eq_true rfl⟩ hH ⟨0, 2, _, _, rfl, rfl, rfl⟩ rfl hl.1 (Nat.le_of_ble_eq_true rfl) dX2_mail_8 ⟨Nat.le_of_ble_eq_true rfl, Nat.le_of_ble_eq_true rfl⟩ rfl (fun u H locs hH => ?_)
  have hH : HH G A s (sW G q n nc t fl fd k wd wf wa cd cf) H locs := hH
  refine callSV0 (rest := []) F (c_X2_requireArgument_1 l G _) gX2_mail_X2_requireArgument rfl hdX2_requireArgument ⟨Nat.le_of_ble_eq_true rfl, Nat.le_of_ble_eq_true rfl⟩ hH rfl hl.1 (Nat.le_of_ble_eq_true rfl) dX2_mail_11 ⟨Nat.le_of_ble_eq_true rfl, Nat.le_of_ble_eq_true rfl⟩ rfl (fun u H locs hH => ?_)
  have hH : HH G A s (sW G q n nc t fl fd k wd wf wa cd cf) H locs := hH
  refine lv_aload_n hx hb dX2_mail_14 rfl (lv_at hl 1 rfl) ?_
  refine rget (C := RX2) (T := TX2) (N := 8) (ref := RX2) F in_X2_mail_X2 hH 0 rfl rfl 2 (by decide) (by decide +kernel) (fun _ h9 => h9) (v := .ref (q 3)) rfl dX2_mail_15 ?_
  refine lv_iload_n hx hb dX2_mail_18 rfl (lv_at hl 3 rfl) ?_
  refine rzald F hH 3 (n := 201) (f := k) rfl j rfl (by omega) (by decide) dX2_mail_19 ?_
  refine lv_if_ne (tgt := 27) hx hb dX2_mail_20 (by decide) (fun c_20 => ?_) (fun c_20 => absurd c_20 hk)
  refine lv_iconst (v := 0) hx hb dX2_mail_27 (by decide) ?_
  exact callSX0 (rest := []) F (c_X2_requireState_0 l hst G _) gX2_mail_X2_requireState rfl hdX2_requireState ⟨Nat.le_of_ble_eq_true rfl, Nat.le_of_ble_eq_true rfl⟩ hH rfl hl.1 (Nat.le_of_ble_eq_true rfl) dX2_mail_28 ⟨Nat.le_of_ble_eq_true rfl, Nat.le_of_ble_eq_true rfl⟩ rfl htb (Nat.le_of_ble_eq_true rfl) (Nat.le_of_ble_eq_true rfl)

set_option maxHeartbeats 4000000 in
set_option maxRecDepth 100000 in
theorem c_X2_mail_2 (l : Launch) (hst : l.stackTraces = false) (G : Gx) (q : Nat → Nat) (n nc t : Nat) (fl fd : Int32) (k : Nat → Int32) (wd : Nat → Nat → Nat) (wf : Nat → Nat → Int32) (wa : Nat → Nat → Nat → Int32) (cd : Nat → Nat) (cf : Nat → Nat → Int32) (hn : n ≤ 8) (i : Nat) (hi : i < n) (ht : t ≤ 201) (w : Int32) (h : w < 0 ∨ nI t ≤ w) : MX l yX2_mail wsX2_mail ({ frames := 7, cells := 1, slots := 6, locals := 110 } : Room) [.ref (q 0), .int (nI i), .int w] G (sW G q n nc t fl fd k wd wf wa cd cf) "java/lang/IllegalArgumentException" := by
  refine ofMX (cc := cX2_mail) (maxL := 4) (ret := none) (by decide) rfl (Nat.le_of_ble_eq_true rfl) (fun p e s m below meth c A ls F htb hH hl => ?_)
  have F : Fx G p s m _ meth c cX2_mail 4 wsX2_mail RX2 A := F
  have hx := F.1.1
  have hb := F.1.2.1
  have hl : lv_has ls 4 [(0, .ref (q 0)), (1, .int (nI i)), (2, .int w)] := hl
  refine lv_aload_n hx hb dX2_mail_0 rfl (lv_at hl 0 rfl) ?_
  refine lv_iload_n hx hb dX2_mail_1 rfl (lv_at hl 1 rfl) ?_
  refine callVR0 (rest := []) F (c_X2_workerAt_1 l G q n nc t fl fd k wd wf wa cd cf hn i hi) gX2_mail_X2_workerAt rfl hdX2_workerAt ⟨Nat.le_of_ble_eq_true rfl, Nat.le_of_ble_eq_true rfl⟩ hH ⟨0, 2, _, _, rfl, rfl, rfl⟩ rfl hl.1 (Nat.le_of_ble_eq_true rfl) dX2_mail_2 ⟨Nat.le_of_ble_eq_true rfl, Nat.le_of_ble_eq_true rfl⟩ rfl (fun H locs hH => ?_)
  refine lv_astore_n (lv' := [(3, .ref (wd i 0)), (0, .ref (q 0)), (1, .int (nI i)), (2, .int w)]) hx hb dX2_mail_5 rfl hl (by decide) rfl (fun ls hl => ?_)
  refine lv_aload_n hx hb dX2_mail_6 rfl (lv_at hl 1 rfl) ?_
  refine lv_iload_n hx hb dX2_mail_7 rfl (lv_at hl 3 rfl) ?_
  refine callVI0 (rest := []) F (c_X2_hasPassed_0 l G q n nc t fl fd k wd wf wa cd cf (by omega) w h) gX2_mail_X2_hasPassed rfl hdX2_hasPassed ⟨Nat.le_of_ble_eq_true rfl, Nat.le_of_ble_eq_true rfl⟩ hH ⟨0, 2, _, _, rfl, rfl, rfl⟩ rfl hl.1 (Nat.le_of_ble_eq_true rfl) dX2_mail_8 ⟨Nat.le_of_ble_eq_true rfl, Nat.le_of_ble_eq_true rfl⟩ rfl (fun u H locs hH => ?_)
  have hH : HH G A s (sW G q n nc t fl fd k wd wf wa cd cf) H locs := hH
  exact callSX0 (rest := []) F (c_X2_requireArgument_0 l hst G _) gX2_mail_X2_requireArgument rfl hdX2_requireArgument ⟨Nat.le_of_ble_eq_true rfl, Nat.le_of_ble_eq_true rfl⟩ hH rfl hl.1 (Nat.le_of_ble_eq_true rfl) dX2_mail_11 ⟨Nat.le_of_ble_eq_true rfl, Nat.le_of_ble_eq_true rfl⟩ rfl htb (Nat.le_of_ble_eq_true rfl) (Nat.le_of_ble_eq_true rfl)

set_option maxHeartbeats 4000000 in
set_option maxRecDepth 100000 in
theorem c_X2_mail_0 (l : Launch) (hst : l.stackTraces = false) (G : Gx) (q : Nat → Nat) (n nc t : Nat) (fl fd : Int32) (k : Nat → Int32) (wd : Nat → Nat → Nat) (wf : Nat → Nat → Int32) (wa : Nat → Nat → Nat → Int32) (cd : Nat → Nat) (cf : Nat → Nat → Int32) (hn : n ≤ 8) (v : Int32) (h : v < 0 ∨ nI n ≤ v) (w : Int32) : MX l yX2_mail wsX2_mail ({ frames := 7, cells := 1, slots := 6, locals := 112 } : Room) [.ref (q 0), .int v, .int w] G (sW G q n nc t fl fd k wd wf wa cd cf) "java/lang/IndexOutOfBoundsException" := by
  refine ofMX (cc := cX2_mail) (maxL := 4) (ret := none) (by decide) rfl (Nat.le_of_ble_eq_true rfl) (fun p e s m below meth c A ls F htb hH hl => ?_)
  have F : Fx G p s m _ meth c cX2_mail 4 wsX2_mail RX2 A := F
  have hx := F.1.1
  have hb := F.1.2.1
  have hl : lv_has ls 4 [(0, .ref (q 0)), (1, .int v), (2, .int w)] := hl
  refine lv_aload_n hx hb dX2_mail_0 rfl (lv_at hl 0 rfl) ?_
  refine lv_iload_n hx hb dX2_mail_1 rfl (lv_at hl 1 rfl) ?_
  exact callVX0 (rest := []) F (c_X2_workerAt_0 l hst G q n nc t fl fd k wd wf wa cd cf hn v h) gX2_mail_X2_workerAt rfl hdX2_workerAt ⟨Nat.le_of_ble_eq_true rfl, Nat.le_of_ble_eq_true rfl⟩ hH ⟨0, 2, _, _, rfl, rfl, rfl⟩ rfl hl.1 (Nat.le_of_ble_eq_true rfl) dX2_mail_2 ⟨Nat.le_of_ble_eq_true rfl, Nat.le_of_ble_eq_true rfl⟩ rfl htb (Nat.le_of_ble_eq_true rfl) (Nat.le_of_ble_eq_true rfl)

set_option maxHeartbeats 4000000 in
set_option maxRecDepth 100000 in
theorem c_X2_chargeBack_m (l : Launch) (G : Gx) (q : Nat → Nat) (n nc t : Nat) (fl fd : Int32) (k : Nat → Int32) (wd : Nat → Nat → Nat) (wf : Nat → Nat → Int32) (wa : Nat → Nat → Nat → Int32) (cd : Nat → Nat) (cf : Nat → Nat → Int32) (hn : n ≤ 8) (i : Nat) (hi : i < n) (j : Nat) (hj : j < 201) (hm : ¬ wa i 7 j = 0) : MV l yX2_chargeBack wsX2_chargeBack ({ frames := 0, cells := 0, slots := 0, locals := 0 } : Room) [.ref (q 0), .ref (wd i 0), .int (nI j)] G (sW G q n nc t fl fd k wd wf wa cd cf) (fun u => sW G q n nc t fl (fd + ((wa i 5 j) + (((wa i 5 j) * 10) / 100))) k wd wf wa cd cf) := by
  refine ofMV (cc := cX2_chargeBack) (maxL := 5) (ret := none) (by decide) rfl (Nat.le_of_ble_eq_true rfl) (fun p e s m below meth c A ls F hr hnm hH hl => ?_)
  have F : Fx G p s m _ meth c cX2_chargeBack 5 wsX2_chargeBack RX2 A := F
  have hx := F.1.1
  have hb := F.1.2.1
  have hl : lv_has ls 5 [(0, .ref (q 0)), (1, .ref (wd i 0)), (2, .int (nI j))] := hl
  refine lv_aload_n hx hb dX2_chargeBack_0 rfl (lv_at hl 1 rfl) ?_
  refine rgetN (C := RX1) (T := TX1) (N := 12) (ref := RX1) (host := RX2) F in_X2_chargeBack_X1 hH (4 + 7 * i + 0) (sW_at hi (j := 0) rfl) rfl 5 (by decide) (by decide +kernel) (fun _ h9 => h9) (v := .ref (wd i 5)) rfl dX2_chargeBack_1 ?_
  refine lv_iload_n hx hb dX2_chargeBack_4 rfl (lv_at hl 2 rfl) ?_
  refine riald F hH (4 + 7 * i + 4) (n := 201) (f := wa i 5) (sW_at hi (j := 4) rfl) j rfl (by omega) (by decide) dX2_chargeBack_5 ?_
  refine lv_istore_n (lv' := [(3, .int (wa i 5 j)), (0, .ref (q 0)), (1, .ref (wd i 0)), (2, .int (nI j))]) hx hb dX2_chargeBack_6 rfl hl (by decide) rfl (fun ls hl => ?_)
  refine lv_aload_n hx hb dX2_chargeBack_7 rfl (lv_at hl 2 rfl) ?_
  refine rgetN (C := RX1) (T := TX1) (N := 12) (ref := RX1) (host := RX2) F in_X2_chargeBack_X1 hH (4 + 7 * i + 0) (sW_at hi (j := 0) rfl) rfl 7 (by decide) (by decide +kernel) (fun _ h9 => h9) (v := .ref (wd i 7)) rfl dX2_chargeBack_8 ?_
  refine lv_iload_n hx hb dX2_chargeBack_11 rfl (lv_at hl 3 rfl) ?_
  refine rzald F hH (4 + 7 * i + 6) (n := 201) (f := wa i 7) (sW_at hi (j := 6) rfl) j rfl (by omega) (by decide) dX2_chargeBack_12 ?_
  refine lv_if_eq (tgt := 37) hx hb dX2_chargeBack_13 (by decide) (fun c_13 => absurd c_13 hm) (fun c_13 => ?_)
  refine lv_aload_n hx hb dX2_chargeBack_16 rfl (lv_at hl 1 rfl) ?_
  refine lv_dup hx hb dX2_chargeBack_17 rfl ?_
  refine rget (C := RX2) (T := TX2) (N := 8) (ref := RX2) F in_X2_chargeBack_X2 hH 0 rfl rfl 7 (by decide) (by decide +kernel) (fun _ h9 => h9) (v := .int fd) rfl dX2_chargeBack_18 ?_
  refine lv_iload_n hx hb dX2_chargeBack_21 rfl (lv_at hl 0 rfl) ?_
  refine lv_iload_n hx hb dX2_chargeBack_22 rfl (lv_at hl 0 rfl) ?_
  refine lv_bipush (v := 10) hx hb dX2_chargeBack_23 (by decide) ?_
  refine lv_imul hx hb dX2_chargeBack_25 ?_
  refine lv_bipush (v := 100) hx hb dX2_chargeBack_26 (by decide) ?_
  refine lv_idiv hx hb dX2_chargeBack_28 (by decide) ?_
  refine lv_iadd hx hb dX2_chargeBack_29 ?_
  refine lv_iadd hx hb dX2_chargeBack_30 ?_
  refine rput (C := RX2) (T := TX2) (N := 8) (ref := RX2) F in_X2_chargeBack_X2 tyX2 tyX2_ok nmX2 hH 0 rfl rfl 7 (by decide) (by decide +kernel) (fun _ h9 => h9) rfl (v := .int (fd + ((wa i 5 j) + (((wa i 5 j) * 10) / 100)))) rfl rfl (Nat.le_of_ble_eq_true rfl) dX2_chargeBack_31 (fun H locs hH => ?_)
  have hH : HH G A s (sW G q n nc t fl (fd + ((wa i 5 j) + (((wa i 5 j) * 10) / 100))) k wd wf wa cd cf) H locs := hH
  refine lv_goto (tgt := 66) hx hb dX2_chargeBack_34 (by decide) ?_
  exact retV F hr (fun _ => 0) hH (Nat.le_of_ble_eq_true rfl) (Nat.le_of_ble_eq_true rfl) dX2_chargeBack_66

set_option maxHeartbeats 4000000 in
set_option maxRecDepth 100000 in
theorem c_X2_chargeBack_n (l : Launch) (G : Gx) (q : Nat → Nat) (n nc t : Nat) (fl fd : Int32) (k : Nat → Int32) (wd : Nat → Nat → Nat) (wf : Nat → Nat → Int32) (wa : Nat → Nat → Nat → Int32) (cd : Nat → Nat) (cf : Nat → Nat → Int32) (hn : n ≤ 8) (i : Nat) (hi : i < n) (j : Nat) (hj : j < 201) (hm : wa i 7 j = 0) : MV l yX2_chargeBack wsX2_chargeBack ({ frames := 0, cells := 0, slots := 0, locals := 0 } : Room) [.ref (q 0), .ref (wd i 0), .int (nI j)] G (sW G q n nc t fl fd k wd wf wa cd cf) (fun u => sW G q n nc t fl (fd + ((wa i 5 j) - ((wa i 5 j) / 2))) k wd (va_up wf i (va_up (wf i) 11 ((wf i 11) + ((wa i 5 j) / 2)))) wa cd cf) := by
  refine ofMV (cc := cX2_chargeBack) (maxL := 5) (ret := none) (by decide) rfl (Nat.le_of_ble_eq_true rfl) (fun p e s m below meth c A ls F hr hnm hH hl => ?_)
  have F : Fx G p s m _ meth c cX2_chargeBack 5 wsX2_chargeBack RX2 A := F
  have hx := F.1.1
  have hb := F.1.2.1
  have hl : lv_has ls 5 [(0, .ref (q 0)), (1, .ref (wd i 0)), (2, .int (nI j))] := hl
  refine lv_aload_n hx hb dX2_chargeBack_0 rfl (lv_at hl 1 rfl) ?_
  refine rgetN (C := RX1) (T := TX1) (N := 12) (ref := RX1) (host := RX2) F in_X2_chargeBack_X1 hH (4 + 7 * i + 0) (sW_at hi (j := 0) rfl) rfl 5 (by decide) (by decide +kernel) (fun _ h9 => h9) (v := .ref (wd i 5)) rfl dX2_chargeBack_1 ?_
  refine lv_iload_n hx hb dX2_chargeBack_4 rfl (lv_at hl 2 rfl) ?_
  refine riald F hH (4 + 7 * i + 4) (n := 201) (f := wa i 5) (sW_at hi (j := 4) rfl) j rfl (by omega) (by decide) dX2_chargeBack_5 ?_
  refine lv_istore_n (lv' := [(3, .int (wa i 5 j)), (0, .ref (q 0)), (1, .ref (wd i 0)), (2, .int (nI j))]) hx hb dX2_chargeBack_6 rfl hl (by decide) rfl (fun ls hl => ?_)
  refine lv_aload_n hx hb dX2_chargeBack_7 rfl (lv_at hl 2 rfl) ?_
  refine rgetN (C := RX1) (T := TX1) (N := 12) (ref := RX1) (host := RX2) F in_X2_chargeBack_X1 hH (4 + 7 * i + 0) (sW_at hi (j := 0) rfl) rfl 7 (by decide) (by decide +kernel) (fun _ h9 => h9) (v := .ref (wd i 7)) rfl dX2_chargeBack_8 ?_
  refine lv_iload_n hx hb dX2_chargeBack_11 rfl (lv_at hl 3 rfl) ?_
  refine rzald F hH (4 + 7 * i + 6) (n := 201) (f := wa i 7) (sW_at hi (j := 6) rfl) j rfl (by omega) (by decide) dX2_chargeBack_12 ?_
  refine lv_if_eq (tgt := 37) hx hb dX2_chargeBack_13 (by decide) (fun c_13 => ?_) (fun c_13 => absurd hm c_13)
  refine lv_iload_n hx hb dX2_chargeBack_37 rfl (lv_at hl 0 rfl) ?_
  refine lv_iconst (v := 2) hx hb dX2_chargeBack_38 (by decide) ?_
  refine lv_idiv hx hb dX2_chargeBack_39 (by decide) ?_
  refine lv_istore (lv' := [(4, .int ((wa i 5 j) / 2)), (3, .int (wa i 5 j)), (0, .ref (q 0)), (1, .ref (wd i 0)), (2, .int (nI j))]) hx hb dX2_chargeBack_40 hl (by decide) rfl (fun ls hl => ?_)
  refine lv_aload_n hx hb dX2_chargeBack_42 rfl (lv_at hl 3 rfl) ?_
  refine lv_dup hx hb dX2_chargeBack_43 rfl ?_
  refine rgetN (C := RX1) (T := TX1) (N := 12) (ref := RX1) (host := RX2) F in_X2_chargeBack_X1 hH (4 + 7 * i + 0) (sW_at hi (j := 0) rfl) rfl 11 (by decide) (by decide +kernel) (fun _ h9 => h9) (v := .int (wf i 11)) rfl dX2_chargeBack_44 ?_
  refine lv_iload hx hb dX2_chargeBack_47 (lv_at hl 0 rfl) ?_
  refine lv_iadd hx hb dX2_chargeBack_49 ?_
  refine rputN (C := RX1) (T := TX1) (N := 12) (ref := RX1) (host := RX2) F in_X2_chargeBack_X1 tyX1 tyX1_ok nmX1 hH (4 + 7 * i + 0) (sW_at hi (j := 0) rfl) rfl 11 (by decide) (by decide +kernel) (fun _ h9 => h9) rfl (v := .int ((wf i 11) + ((wa i 5 j) / 2))) rfl rfl (Nat.le_of_ble_eq_true rfl) dX2_chargeBack_50 (fun H locs hH => ?_)
  have hH : HH G A s (sW G q n nc t fl fd k wd (va_up wf i (va_up (wf i) 11 ((wf i 11) + ((wa i 5 j) / 2)))) wa cd cf) H locs := (sW_setF (wd := wd) (wf := wf) (wa := wa) hi (f' := va_up (wf i) 11 ((wf i 11) + ((wa i 5 j) / 2))) rfl ▸ hH)
  refine lv_aload_n hx hb dX2_chargeBack_53 rfl (lv_at hl 2 rfl) ?_
  refine lv_dup hx hb dX2_chargeBack_54 rfl ?_
  refine rget (C := RX2) (T := TX2) (N := 8) (ref := RX2) F in_X2_chargeBack_X2 hH 0 rfl rfl 7 (by decide) (by decide +kernel) (fun _ h9 => h9) (v := .int fd) rfl dX2_chargeBack_55 ?_
  refine lv_iload_n hx hb dX2_chargeBack_58 rfl (lv_at hl 1 rfl) ?_
  refine lv_iload hx hb dX2_chargeBack_59 (lv_at hl 0 rfl) ?_
  refine lv_isub hx hb dX2_chargeBack_61 ?_
  refine lv_iadd hx hb dX2_chargeBack_62 ?_
  refine rput (C := RX2) (T := TX2) (N := 8) (ref := RX2) F in_X2_chargeBack_X2 tyX2 tyX2_ok nmX2 hH 0 rfl rfl 7 (by decide) (by decide +kernel) (fun _ h9 => h9) rfl (v := .int (fd + ((wa i 5 j) - ((wa i 5 j) / 2)))) rfl rfl (Nat.le_of_ble_eq_true rfl) dX2_chargeBack_63 (fun H locs hH => ?_)
  have hH : HH G A s (sW G q n nc t fl (fd + ((wa i 5 j) - ((wa i 5 j) / 2))) k wd (va_up wf i (va_up (wf i) 11 ((wf i 11) + ((wa i 5 j) / 2)))) wa cd cf) H locs := hH
  exact retV F hr (fun _ => 0) hH (Nat.le_of_ble_eq_true rfl) (Nat.le_of_ble_eq_true rfl) dX2_chargeBack_66

set_option maxHeartbeats 4000000 in
set_option maxRecDepth 100000 in
theorem c_X1_takeNotice (l : Launch) (G : Gx) (d : Nat → Nat) (f : Nat → Int32) (a : Nat → Nat → Int32) (x y : Nat) (hxy : x ≤ y) (hy : y ≤ 200) (h : Int32) : MV l yX1_takeNotice wsX1_takeNotice ({ frames := 0, cells := 0, slots := 0, locals := 0 } : Room) [.ref (d 0), .int (nI x), .int (nI y), .int h] G (wW G d f a) (fun u => wW G d (va_up f 8 (f 8 + 1)) (va_up a 2 (fillR (a 2) x (y + 1) h))) := by
  refine ofMV (cc := cX1_takeNotice) (maxL := 5) (ret := none) (by decide) rfl (Nat.le_of_ble_eq_true rfl) (fun p e s m below meth c A ls F hr hnm hH hl => ?_)
  have F : Fx G p s m _ meth c cX1_takeNotice 5 wsX1_takeNotice RX1 A := F
  have hx := F.1.1
  have hb := F.1.2.1
  have hl : lv_has ls 5 [(0, .ref (d 0)), (1, .int (nI x)), (2, .int (nI y)), (3, .int h)] := hl
  refine lv_iload_n hx hb dX1_takeNotice_0 rfl (lv_at hl 1 rfl) ?_
  refine lv_istore (lv' := [(4, .int (nI x)), (0, .ref (d 0)), (1, .int (nI x)), (2, .int (nI y)), (3, .int h)]) hx hb dX1_takeNotice_1 hl (by decide) rfl (fun ls hl => ?_)
  have hH : HH G A s (wW G d f (va_up a 2 (fillR (a 2) x x h))) s.heap [] := by rw [fillR_0]; exact hH
  have loop : ∀ (n9 : Nat) (i : Nat) (hc9 : i + n9 = y + 1) (hxi : x ≤ i) (H : Heap) (locs : List Loc) (ls : Array Slot), HH G A s (wW G d f (va_up a 2 (fillR (a 2) x i h))) H locs → lv_has ls 5 [(4, .int (nI i)), (0, .ref (d 0)), (1, .int (nI x)), (2, .int (nI y)), (3, .int h)] → W p l e ({ frames := 0, cells := 0, slots := 0, locals := 0 } : Room) s m [.ref (d 0), .int (nI x), .int (nI y), .int h].toArray below meth c H locs 0 0 (EnV G A below s [.ref (d 0), .int (nI x), .int (nI y), .int h].toArray ({ frames := 0, cells := 0, slots := 0, locals := 0 } : Room) (fun u => wW G d (va_up f 8 (f 8 + 1)) (va_up a 2 (fillR (a 2) x (y + 1) h)))) (F0 m 3 ls []) := by
    intro n9
    induction n9 with
    | zero =>
      intro i hc9 hxi H locs ls hH hl
      refine lv_iload hx hb dX1_takeNotice_3 (lv_at hl 0 rfl) ?_
      refine lv_iload_n hx hb dX1_takeNotice_5 rfl (lv_at hl 3 rfl) ?_
      refine lv_icmp_gt (tgt := 23) hx hb dX1_takeNotice_6 (by decide) (fun c_6 => ?_) (fun c_6 => absurd (by rw [show i = y + 1 by omega]; exact nI_lt (by omega) (by omega)) c_6)
      have hH : HH G A s (wW G d f (va_up a 2 (fillR (a 2) x (y + 1) h))) H locs := by rw [show y + 1 = i by omega]; exact hH
      refine lv_aload_n hx hb dX1_takeNotice_23 rfl (lv_at hl 1 rfl) ?_
      refine lv_dup hx hb dX1_takeNotice_24 rfl ?_
      refine rget (C := RX1) (T := TX1) (N := 12) (ref := RX1) F in_X1_takeNotice_X1 hH 0 rfl rfl 8 (by decide) (by decide +kernel) (fun _ h9 => h9) (v := .int (f 8)) rfl dX1_takeNotice_25 ?_
      refine lv_iconst (v := 1) hx hb dX1_takeNotice_28 (by decide) ?_
      refine lv_iadd hx hb dX1_takeNotice_29 ?_
      refine rput (C := RX1) (T := TX1) (N := 12) (ref := RX1) F in_X1_takeNotice_X1 tyX1 tyX1_ok nmX1 hH 0 rfl rfl 8 (by decide) (by decide +kernel) (fun _ h9 => h9) rfl (v := .int ((f 8) + 1)) rfl rfl (Nat.le_of_ble_eq_true rfl) dX1_takeNotice_30 (fun H locs hH => ?_)
      have hH : HH G A s (wW G d (va_up f 8 ((f 8) + 1)) (va_up a 2 (fillR (a 2) x (y + 1) h))) H locs := hH
      exact retV F hr (fun _ => 0) hH (Nat.le_of_ble_eq_true rfl) (Nat.le_of_ble_eq_true rfl) dX1_takeNotice_33
    | succ n9 ih =>
      intro i hc9 hxi H locs ls hH hl
      refine lv_iload hx hb dX1_takeNotice_3 (lv_at hl 0 rfl) ?_
      refine lv_iload_n hx hb dX1_takeNotice_5 rfl (lv_at hl 3 rfl) ?_
      refine lv_icmp_gt (tgt := 23) hx hb dX1_takeNotice_6 (by decide) (fun c_6 => absurd c_6 (nI_nlt (by omega) (by omega))) (fun c_6 => ?_)
      refine lv_aload_n hx hb dX1_takeNotice_9 rfl (lv_at hl 1 rfl) ?_
      refine rget (C := RX1) (T := TX1) (N := 12) (ref := RX1) F in_X1_takeNotice_X1 hH 0 rfl rfl 2 (by decide) (by decide +kernel) (fun _ h9 => h9) (v := .ref (d 2)) rfl dX1_takeNotice_10 ?_
      refine lv_iload hx hb dX1_takeNotice_13 (lv_at hl 0 rfl) ?_
      refine lv_iload_n hx hb dX1_takeNotice_15 rfl (lv_at hl 4 rfl) ?_
      refine riast F hH 1 (n := 201) (f := fillR (a 2) x i h) rfl i rfl (by omega) (by decide) dX1_takeNotice_16 (fun H locs hH => ?_)
      have hH : HH G A s (wW G d f (va_up a 2 (upd (fillR (a 2) x i h) i h))) H locs := hH
      refine lv_iinc (v := (nI (i + 1))) (lv' := [(4, .int (nI (i + 1))), (0, .ref (d 0)), (1, .int (nI x)), (2, .int (nI y)), (3, .int h)]) hx hb dX1_takeNotice_17 hl (k := 0) rfl (nI_1 i) (by decide) rfl (fun ls hl => ?_)
      refine lv_goto (tgt := 3) hx hb dX1_takeNotice_20 (by decide) ?_
      exact ih (i + 1) (by omega) (by omega) _ _ _ (by rw [← fillR_step hxi]; exact hH) (lv_sub hl [0, 1, 2, 3, 4] (rfl))
  exact loop (y + 1 - x) x (by omega) (Nat.le_refl x) _ _ _ hH (lv_sub hl [0, 1, 2, 3, 4] (rfl))

set_option maxHeartbeats 4000000 in
set_option maxRecDepth 100000 in
theorem c_X1_hasNoCourseFrom_1 (l : Launch) (G : Gx) (d : Nat → Nat) (f : Nat → Int32) (a : Nat → Nat → Int32) (x y : Nat) (hxy : x ≤ y) (hy : y ≤ 200) (hno : ∀ z, x ≤ z → z ≤ y → a 3 z ≤ 0) : MI l yX1_hasNoCourseFrom wsX1_hasNoCourseFrom ({ frames := 0, cells := 0, slots := 0, locals := 0 } : Room) [.ref (d 0), .int (nI x), .int (nI y)] G (wW G d f a) (fun u => wW G d f a) 1 := by
  refine ofMI (cc := cX1_hasNoCourseFrom) (maxL := 4) (ret := (some .boolean)) (by decide) rfl (Nat.le_of_ble_eq_true rfl) (fun p e s m below meth c A ls F hr hnm hH hl => ?_)
  have F : Fx G p s m _ meth c cX1_hasNoCourseFrom 4 wsX1_hasNoCourseFrom RX1 A := F
  have hx := F.1.1
  have hb := F.1.2.1
  have hl : lv_has ls 4 [(0, .ref (d 0)), (1, .int (nI x)), (2, .int (nI y))] := hl
  refine lv_iload_n hx hb dX1_hasNoCourseFrom_0 rfl (lv_at hl 1 rfl) ?_
  refine lv_istore_n (lv' := [(3, .int (nI x)), (0, .ref (d 0)), (1, .int (nI x)), (2, .int (nI y))]) hx hb dX1_hasNoCourseFrom_1 rfl hl (by decide) rfl (fun ls hl => ?_)
  have loop : ∀ (n9 : Nat) (i : Nat) (hc9 : i + n9 = y + 1) (hxi : x ≤ i) (H : Heap) (locs : List Loc) (ls : Array Slot), HH G A s (wW G d f a) H locs → lv_has ls 4 [(3, .int (nI i)), (0, .ref (d 0)), (1, .int (nI x)), (2, .int (nI y))] → W p l e ({ frames := 0, cells := 0, slots := 0, locals := 0 } : Room) s m [.ref (d 0), .int (nI x), .int (nI y)].toArray below meth c H locs 0 0 (EnI G A below s [.ref (d 0), .int (nI x), .int (nI y)].toArray ({ frames := 0, cells := 0, slots := 0, locals := 0 } : Room) (fun u => wW G d f a) 1) (F0 m 2 ls []) := by
    intro n9
    induction n9 with
    | zero =>
      intro i hc9 hxi H locs ls hH hl
      refine lv_iload_n hx hb dX1_hasNoCourseFrom_2 rfl (lv_at hl 0 rfl) ?_
      refine lv_iload_n hx hb dX1_hasNoCourseFrom_3 rfl (lv_at hl 3 rfl) ?_
      refine lv_icmp_gt (tgt := 24) hx hb dX1_hasNoCourseFrom_4 (by decide) (fun c_4 => ?_) (fun c_4 => absurd (by rw [show i = y + 1 by omega]; exact nI_lt (by omega) (by omega)) c_4)
      refine lv_iconst (v := 1) hx hb dX1_hasNoCourseFrom_24 (by decide) ?_
      exact retI F hr rfl (fun _ => 0) hH rfl (Nat.le_of_ble_eq_true rfl) (Nat.le_of_ble_eq_true rfl) dX1_hasNoCourseFrom_25
    | succ n9 ih =>
      intro i hc9 hxi H locs ls hH hl
      refine lv_iload_n hx hb dX1_hasNoCourseFrom_2 rfl (lv_at hl 0 rfl) ?_
      refine lv_iload_n hx hb dX1_hasNoCourseFrom_3 rfl (lv_at hl 3 rfl) ?_
      refine lv_icmp_gt (tgt := 24) hx hb dX1_hasNoCourseFrom_4 (by decide) (fun c_4 => absurd c_4 (nI_nlt (by omega) (by omega))) (fun c_4 => ?_)
      refine lv_aload_n hx hb dX1_hasNoCourseFrom_7 rfl (lv_at hl 1 rfl) ?_
      refine rget (C := RX1) (T := TX1) (N := 12) (ref := RX1) F in_X1_hasNoCourseFrom_X1 hH 0 rfl rfl 3 (by decide) (by decide +kernel) (fun _ h9 => h9) (v := .ref (d 3)) rfl dX1_hasNoCourseFrom_8 ?_
      refine lv_iload_n hx hb dX1_hasNoCourseFrom_11 rfl (lv_at hl 0 rfl) ?_
      refine riald F hH 2 (n := 201) (f := a 3) rfl i rfl (by omega) (by decide) dX1_hasNoCourseFrom_12 ?_
      refine lv_if_le (tgt := 18) hx hb dX1_hasNoCourseFrom_13 (by decide) (fun c_13 => ?_) (fun c_13 => absurd (hno i hxi (by omega)) c_13)
      refine lv_iinc (v := (nI (i + 1))) (lv' := [(3, .int (nI (i + 1))), (0, .ref (d 0)), (1, .int (nI x)), (2, .int (nI y))]) hx hb dX1_hasNoCourseFrom_18 hl (k := 0) rfl (nI_1 i) (by decide) rfl (fun ls hl => ?_)
      refine lv_goto (tgt := 2) hx hb dX1_hasNoCourseFrom_21 (by decide) ?_
      exact ih (i + 1) (by omega) (by omega) _ _ _ hH (lv_sub hl [0, 1, 2, 3] (rfl))
  exact loop (y + 1 - x) x (by omega) (Nat.le_refl x) _ _ _ hH (lv_sub hl [0, 1, 2, 3] (rfl))

set_option maxHeartbeats 4000000 in
set_option maxRecDepth 100000 in
theorem c_X1_hasNoCourseFrom_0 (l : Launch) (G : Gx) (d : Nat → Nat) (f : Nat → Int32) (a : Nat → Nat → Int32) (x y : Nat) (hxy : x ≤ y) (hy : y ≤ 200) (hex : ∃ z, x ≤ z ∧ z ≤ y ∧ ¬ a 3 z ≤ 0) : MI l yX1_hasNoCourseFrom wsX1_hasNoCourseFrom ({ frames := 0, cells := 0, slots := 0, locals := 0 } : Room) [.ref (d 0), .int (nI x), .int (nI y)] G (wW G d f a) (fun u => wW G d f a) 0 := by
  refine ofMI (cc := cX1_hasNoCourseFrom) (maxL := 4) (ret := (some .boolean)) (by decide) rfl (Nat.le_of_ble_eq_true rfl) (fun p e s m below meth c A ls F hr hnm hH hl => ?_)
  have F : Fx G p s m _ meth c cX1_hasNoCourseFrom 4 wsX1_hasNoCourseFrom RX1 A := F
  have hx := F.1.1
  have hb := F.1.2.1
  have hl : lv_has ls 4 [(0, .ref (d 0)), (1, .int (nI x)), (2, .int (nI y))] := hl
  refine lv_iload_n hx hb dX1_hasNoCourseFrom_0 rfl (lv_at hl 1 rfl) ?_
  refine lv_istore_n (lv' := [(3, .int (nI x)), (0, .ref (d 0)), (1, .int (nI x)), (2, .int (nI y))]) hx hb dX1_hasNoCourseFrom_1 rfl hl (by decide) rfl (fun ls hl => ?_)
  have loop : ∀ (n9 : Nat) (i : Nat) (hc9 : i + n9 = y + 1) (hxi : x ≤ i) (he : ∃ z, i ≤ z ∧ z ≤ y ∧ ¬ a 3 z ≤ 0) (H : Heap) (locs : List Loc) (ls : Array Slot), HH G A s (wW G d f a) H locs → lv_has ls 4 [(3, .int (nI i)), (0, .ref (d 0)), (1, .int (nI x)), (2, .int (nI y))] → W p l e ({ frames := 0, cells := 0, slots := 0, locals := 0 } : Room) s m [.ref (d 0), .int (nI x), .int (nI y)].toArray below meth c H locs 0 0 (EnI G A below s [.ref (d 0), .int (nI x), .int (nI y)].toArray ({ frames := 0, cells := 0, slots := 0, locals := 0 } : Room) (fun u => wW G d f a) 0) (F0 m 2 ls []) := by
    intro n9
    induction n9 with
    | zero =>
      intro i hc9 hxi he H locs ls hH hl
      exact absurd he (by rintro ⟨z, h1, h2, -⟩; omega)
    | succ n9 ih =>
      intro i hc9 hxi he H locs ls hH hl
      refine lv_iload_n hx hb dX1_hasNoCourseFrom_2 rfl (lv_at hl 0 rfl) ?_
      refine lv_iload_n hx hb dX1_hasNoCourseFrom_3 rfl (lv_at hl 3 rfl) ?_
      refine lv_icmp_gt (tgt := 24) hx hb dX1_hasNoCourseFrom_4 (by decide) (fun c_4 => absurd c_4 (nI_nlt (by omega) (by omega))) (fun c_4 => ?_)
      refine lv_aload_n hx hb dX1_hasNoCourseFrom_7 rfl (lv_at hl 1 rfl) ?_
      refine rget (C := RX1) (T := TX1) (N := 12) (ref := RX1) F in_X1_hasNoCourseFrom_X1 hH 0 rfl rfl 3 (by decide) (by decide +kernel) (fun _ h9 => h9) (v := .ref (d 3)) rfl dX1_hasNoCourseFrom_8 ?_
      refine lv_iload_n hx hb dX1_hasNoCourseFrom_11 rfl (lv_at hl 0 rfl) ?_
      refine riald F hH 2 (n := 201) (f := a 3) rfl i rfl (by omega) (by decide) dX1_hasNoCourseFrom_12 ?_
      refine lv_if_le (tgt := 18) hx hb dX1_hasNoCourseFrom_13 (by decide) (fun c_13 => ?_) (fun c_13 => ?_)
      · refine lv_iinc (v := (nI (i + 1))) (lv' := [(3, .int (nI (i + 1))), (0, .ref (d 0)), (1, .int (nI x)), (2, .int (nI y))]) hx hb dX1_hasNoCourseFrom_18 hl (k := 0) rfl (nI_1 i) (by decide) rfl (fun ls hl => ?_)
        refine lv_goto (tgt := 2) hx hb dX1_hasNoCourseFrom_21 (by decide) ?_
        exact ih (i + 1) (by omega) (by omega) (by obtain ⟨z, h1, h2, h3⟩ := he; exact ⟨z, by rcases Nat.eq_or_lt_of_le h1 with e | e; exact absurd (e ▸ c_13) h3; exact e, h2, h3⟩) _ _ _ hH (lv_sub hl [0, 1, 2, 3] (rfl))
      · refine lv_iconst (v := 0) hx hb dX1_hasNoCourseFrom_16 (by decide) ?_
        exact retI F hr rfl (fun _ => 0) hH rfl (Nat.le_of_ble_eq_true rfl) (Nat.le_of_ble_eq_true rfl) dX1_hasNoCourseFrom_17
  exact loop (y + 1 - x) x (by omega) (Nat.le_refl x) hex _ _ _ hH (lv_sub hl [0, 1, 2, 3] (rfl))
end
section
/-! the reference's numbers -/
theorem ix30 (i c : Nat) : (30 : Int32) * nI i + nI c = nI (30 * i + c) := by
  rw [show (30 : Int32) = nI 30 from rfl, pk_mul, nI_add]
theorem ix201 (i j : Nat) : (201 : Int32) * nI i + nI j = nI (201 * i + j) := by
  rw [show (201 : Int32) = nI 201 from rfl, pk_mul, nI_add]
theorem ix8 (i j : Nat) : (8 : Int32) * nI i + nI j = nI (8 * i + j) := by
  rw [show (8 : Int32) = nI 8 from rfl, pk_mul, nI_add]
theorem ixm30 (i : Nat) : (30 : Int32) * nI i = nI (30 * i) := by
  rw [show (30 : Int32) = nI 30 from rfl, pk_mul]
theorem ixm201 (i : Nat) : (201 : Int32) * nI i = nI (201 * i) := by
  rw [show (201 : Int32) = nI 201 from rfl, pk_mul]
/-- the cut by the first k notices from place b on: F first weeks, T last weeks, X hours -/
def cutN (F T X : Nat → Int32) (b : Nat) (w : Int32) : Nat → Int32
  | 0 => 0
  | k + 1 => if w < F (b + k) then cutN F T X b w k else if T (b + k) < w then cutN F T X b w k else X (b + k)
theorem cutN_a {F T X : Nat → Int32} {b k : Nat} {w : Int32} (h : w < F (b + k)) : cutN F T X b w (k + 1) = cutN F T X b w k := by
  show (if w < F (b + k) then _ else _) = _
  rw [if_pos h]
theorem cutN_b {F T X : Nat → Int32} {b k : Nat} {w : Int32} (h : ¬ w < F (b + k)) (h2 : T (b + k) < w) : cutN F T X b w (k + 1) = cutN F T X b w k := by
  show (if w < F (b + k) then _ else _) = _
  rw [if_neg h, if_pos h2]
theorem cutN_c {F T X : Nat → Int32} {b k : Nat} {w : Int32} (h : ¬ w < F (b + k)) (h2 : ¬ T (b + k) < w) : cutN F T X b w (k + 1) = X (b + k) := by
  show (if w < F (b + k) then _ else _) = _
  rw [if_neg h, if_neg h2]
/-- worker i's cut in week w, c notices -/
def cutM (a : Nat → Nat → Int32) (i : Nat) (w : Int32) (c : Nat) : Int32 := cutN (a 4) (a 5) (a 6) (30 * i) w c
/-- does course c fill -/
def fillC (a : Nat → Nat → Int32) (i : Nat) (w h : Int32) (c : Nat) : Int32 := if a 15 (8 * c + i) = 0 then 0 else if w < a 12 c then 0 else if a 13 c < w then 0 else if 2 * a 14 c < h then 0 else 1
def fillsN (a : Nat → Nat → Int32) (i : Nat) (w h : Int32) : Nat → Int32
  | 0 => 0
  | c + 1 => if fillsN a i w h c = 0 then fillC a i w h c else 1
/-- does course c meet course j -/
def meetC (a : Nat → Nat → Int32) (i j : Nat) (c : Nat) : Int32 := if a 15 (8 * c + i) = 0 then 0 else if a 13 j < a 12 c then 0 else if a 13 c < a 12 j then 0 else 1
def meetsN (a : Nat → Nat → Int32) (i j : Nat) : Nat → Int32
  | 0 => 0
  | c + 1 => if meetsN a i j c = 0 then meetC a i j c else 1
theorem fillsN_1 {a : Nat → Nat → Int32} {i c : Nat} {w h : Int32} (h0 : ¬ fillsN a i w h c = 0) : fillsN a i w h (c + 1) = 1 := by
  show (if fillsN a i w h c = 0 then _ else _) = _
  rw [if_neg h0]
theorem fillsN_0 {a : Nat → Nat → Int32} {i c : Nat} {w h : Int32} (h0 : fillsN a i w h c = 0) : fillsN a i w h (c + 1) = fillC a i w h c := by
  show (if fillsN a i w h c = 0 then _ else _) = _
  rw [if_pos h0]
theorem meetsN_1 {a : Nat → Nat → Int32} {i j c : Nat} (h0 : ¬ meetsN a i j c = 0) : meetsN a i j (c + 1) = 1 := by
  show (if meetsN a i j c = 0 then _ else _) = _
  rw [if_neg h0]
theorem meetsN_0 {a : Nat → Nat → Int32} {i j c : Nat} (h0 : meetsN a i j c = 0) : meetsN a i j (c + 1) = meetC a i j c := by
  show (if meetsN a i j c = 0 then _ else _) = _
  rw [if_pos h0]
theorem fillsN_01 {a : Nat → Nat → Int32} {i : Nat} {w h : Int32} : ∀ c : Nat, fillsN a i w h c = 0 ∨ fillsN a i w h c = 1
  | 0 => Or.inl rfl
  | c + 1 => by
    by_cases h0 : fillsN a i w h c = 0
    · rw [fillsN_0 h0]
      unfold fillC
      split
      · exact Or.inl rfl
      · split
        · exact Or.inl rfl
        · split
          · exact Or.inl rfl
          · split
            · exact Or.inl rfl
            · exact Or.inr rfl
    · rw [fillsN_1 h0]; exact Or.inr rfl
theorem meetsN_01 {a : Nat → Nat → Int32} {i j : Nat} : ∀ c : Nat, meetsN a i j c = 0 ∨ meetsN a i j c = 1
  | 0 => Or.inl rfl
  | c + 1 => by
    by_cases h0 : meetsN a i j c = 0
    · rw [meetsN_0 h0]
      unfold meetC
      split
      · exact Or.inl rfl
      · split
        · exact Or.inl rfl
        · split
          · exact Or.inl rfl
          · exact Or.inr rfl
    · rw [meetsN_1 h0]; exact Or.inr rfl
theorem nar01 {x : Int32} (h : x = 0 ∨ x = 1) : narrow .boolean (.int x) = .int x := by rcases h with h | h <;> subst h <;> rfl
/-- the reference's percentage: ch children, w cut weeks paid, b filled -/
def pctM (ch w b : Int32) : Int32 := stepP w + (if ch = 0 then 0 else 7) + (if b = 0 then (if w < 12 then 0 else -10) else 5)
/-- what the reference says is made up -/
def madeM (p h c fl : Int32) : Int32 := if firmP p h + (if p * fl / 100 ≤ firmP p h + (p - firmP p h) * c / 100 then (p - firmP p h) * c / 100 else p * fl / 100 - firmP p h) ≤ p then (if p * fl / 100 ≤ firmP p h + (p - firmP p h) * c / 100 then (p - firmP p h) * c / 100 else p * fl / 100 - firmP p h) else p - firmP p h
def hourM (a : Nat → Nat → Int32) (i t c : Nat) : Int32 := cutM a i (nI t) c
def pcM (a : Nat → Nat → Int32) (i t c nc : Nat) : Int32 := pctM (a 2 i) (a 7 i) (fillsN a i (nI t) (hourM a i t c) nc)
def payRM (a : Nat → Nat → Int32) (i t c nc : Nat) (fl : Int32) : Int32 := madeM (a 1 i) (hourM a i t c) (pcM a i t c nc) fl
/-- the rows behind pays(i) in week t -/
def payAM (a : Nat → Nat → Int32) (i t c nc : Nat) (fl : Int32) : Nat → Nat → Int32 :=
  va_up (va_up (va_up (va_up a 18 (upd (a 18) (201 * i + t) (firmP (a 1 i) (hourM a i t c)))) 19 (upd (a 19) (201 * i + t) (payRM a i t c nc fl))) 20 (upd (a 20) (201 * i + t) (hourM a i t c))) 7 (upd (a 7) i (a 7 i + (if hourM a i t c ≤ 0 then 0 else 1)))
/-- -owed + paid + made over k weeks -/
def netN (a : Nat → Nat → Int32) (i : Nat) : Nat → Int32
  | 0 => -(a 8 i)
  | k + 1 => netN a i k + (a 18 (201 * i + k) + a 19 (201 * i + k))
end
section
theorem nI_2 (t : Nat) : nI t + 2 = nI (t + 2) := nI_add t 2
theorem ne30 {n : Nat} (h : n < 30) : ¬ nI n = 30 := fun e => by
  have h1 := (nI_eq (a := n) (b := 30) (by omega) (by decide)).mp e
  omega
theorem ne10 {n : Nat} (h : n < 10) : ¬ nI n = 10 := fun e => by
  have h1 := (nI_eq (a := n) (b := 10) (by omega) (by decide)).mp e
  omega
/-! a week, all workers; weeks -/
def weekAM (a : Nat → Nat → Int32) (t : Nat) (cn : Nat → Nat) (nc : Nat) (fl : Int32) : Nat → Nat → Nat → Int32
  | 0 => a
  | i + 1 => payAM (weekAM a t cn nc fl i) i t (cn i) nc fl
def weekSM (a : Nat → Nat → Int32) (t : Nat) (cn : Nat → Nat) (nc : Nat) (fl acc : Int32) : Nat → Int32
  | 0 => acc
  | i + 1 => weekSM a t cn nc fl acc i + payRM (weekAM a t cn nc fl i) i t (cn i) nc fl
def passAM (a : Nat → Nat → Int32) (t : Nat) (cn : Nat → Nat) (n nc : Nat) (fl : Int32) : Nat → Nat → Nat → Int32
  | 0 => a
  | k + 1 => weekAM (passAM a t cn n nc fl k) (t + k) cn nc fl n
def passSM (a : Nat → Nat → Int32) (t : Nat) (cn : Nat → Nat) (n nc : Nat) (fl : Int32) : Nat → Int32
  | 0 => 0
  | k + 1 => weekSM (passAM a t cn n nc fl k) (t + k) cn nc fl (passSM a t cn n nc fl k) n
theorem payAM_3 (a : Nat → Nat → Int32) (i t c nc : Nat) (fl : Int32) : payAM a i t c nc fl 3 = a 3 := by
  unfold payAM
  rw [va_up_ne _ _ (by decide), va_up_ne _ _ (by decide), va_up_ne _ _ (by decide), va_up_ne _ _ (by decide)]
theorem weekAM_3 (a : Nat → Nat → Int32) (t : Nat) (cn : Nat → Nat) (nc : Nat) (fl : Int32) : ∀ i : Nat, weekAM a t cn nc fl i 3 = a 3
  | 0 => rfl
  | i + 1 => (payAM_3 _ _ _ _ _ _).trans (weekAM_3 a t cn nc fl i)
theorem passAM_3 (a : Nat → Nat → Int32) (t : Nat) (cn : Nat → Nat) (n nc : Nat) (fl : Int32) : ∀ k : Nat, passAM a t cn n nc fl k 3 = a 3
  | 0 => rfl
  | k + 1 => (weekAM_3 _ _ _ _ _ _).trans (passAM_3 a t cn n nc fl k)
/-! a check -/
def chkB (a : Nat → Nat → Int32) (x : Nat) : Int32 := if a 21 x = -1 then 0 else if a 21 x ≤ 40 - a 20 x + 2 then 0 else if a 19 x ≤ 0 then 0 else 1
def halfM (a : Nat → Nat → Int32) (x : Nat) : Int32 := if a 22 x = 0 then a 19 x / 2 else 0
def extraM (a : Nat → Nat → Int32) (x : Nat) : Int32 := if a 22 x = 0 then 0 else a 19 x * 10 / 100
def chkO (a : Nat → Nat → Int32) (j : Nat) : Nat → Nat → Int32
  | 0 => a 8
  | i + 1 => if chkB a (201 * i + j) = 0 then chkO a j i else upd (chkO a j i) i (chkO a j i i + halfM a (201 * i + j))
def chkF (a : Nat → Nat → Int32) (j : Nat) (f9 : Int32) : Nat → Int32
  | 0 => f9
  | i + 1 => if chkB a (201 * i + j) = 0 then chkF a j f9 i else chkF a j f9 i + (a 19 (201 * i + j) - halfM a (201 * i + j) + extraM a (201 * i + j))
def chkN (a : Nat → Nat → Int32) (j : Nat) : Nat → Int32
  | 0 => 0
  | i + 1 => if chkB a (201 * i + j) = 0 then chkN a j i else chkN a j i + 1
theorem chk_0 {a : Nat → Nat → Int32} {i j : Nat} {f9 : Int32} (h : chkB a (201 * i + j) = 0) : chkO a j (i + 1) = chkO a j i ∧ chkF a j f9 (i + 1) = chkF a j f9 i ∧ chkN a j (i + 1) = chkN a j i := by
  refine ⟨?_, ?_, ?_⟩
  · show (if chkB a (201 * i + j) = 0 then _ else _) = _
    rw [if_pos h]
  · show (if chkB a (201 * i + j) = 0 then _ else _) = _
    rw [if_pos h]
  · show (if chkB a (201 * i + j) = 0 then _ else _) = _
    rw [if_pos h]
theorem chk_1 {a : Nat → Nat → Int32} {i j : Nat} {f9 : Int32} (h : chkB a (201 * i + j) = 1) : chkO a j (i + 1) = upd (chkO a j i) i (chkO a j i i + halfM a (201 * i + j)) ∧ chkF a j f9 (i + 1) = chkF a j f9 i + (a 19 (201 * i + j) - halfM a (201 * i + j) + extraM a (201 * i + j)) ∧ chkN a j (i + 1) = chkN a j i + 1 := by
  have h0 : ¬ chkB a (201 * i + j) = 0 := by rw [h]; decide
  refine ⟨?_, ?_, ?_⟩
  · show (if chkB a (201 * i + j) = 0 then _ else _) = _
    rw [if_neg h0]
  · show (if chkB a (201 * i + j) = 0 then _ else _) = _
    rw [if_neg h0]
  · show (if chkB a (201 * i + j) = 0 then _ else _) = _
    rw [if_neg h0]
end
section
theorem va_up_eq {α : Type} {g : Nat → α} {k : Nat} {v : α} (h : g k = v) : va_up g k v = g := by
  rw [← h]; exact va_up_id g k
/-! the system's weeks: one worker, all, many weeks -/
def pR (f : Nat → Int32) (a : Nat → Nat → Int32) (j : Nat) (fl : Int32) : Int32 := fundP (f 0) (a 2 j) (pctS (f 1) (f 9) (fillB (a 3 j) (a 2 j))) fl
def pF (f : Nat → Int32) (a : Nat → Nat → Int32) (j : Nat) (fl : Int32) : Nat → Int32 := va_up (va_up f 10 (f 10 + (firmP (f 0) (a 2 j) + pR f a j fl))) 9 (if a 2 j ≤ 0 then f 9 else f 9 + 1)
def pA (f : Nat → Int32) (a : Nat → Nat → Int32) (j : Nat) (fl : Int32) : Nat → Nat → Int32 := va_up (va_up a 4 (upd (a 4) j (firmP (f 0) (a 2 j)))) 5 (upd (a 5) j (pR f a j fl))
def payWS (fl : Int32) (t : Nat) (wf : Nat → Nat → Int32) (wa : Nat → Nat → Nat → Int32) : Nat → (Nat → Nat → Int32) × (Nat → Nat → Nat → Int32)
  | 0 => (wf, wa)
  | i + 1 => (va_up (payWS fl t wf wa i).1 i (pF ((payWS fl t wf wa i).1 i) ((payWS fl t wf wa i).2 i) t fl), va_up (payWS fl t wf wa i).2 i (pA ((payWS fl t wf wa i).1 i) ((payWS fl t wf wa i).2 i) t fl))
def payWT (fl : Int32) (t : Nat) (wf : Nat → Nat → Int32) (wa : Nat → Nat → Nat → Int32) : Nat → Int32
  | 0 => 0
  | i + 1 => payWT fl t wf wa i + pR ((payWS fl t wf wa i).1 i) ((payWS fl t wf wa i).2 i) t fl
def passWS (fl : Int32) (t n : Nat) (wf : Nat → Nat → Int32) (wa : Nat → Nat → Nat → Int32) : Nat → (Nat → Nat → Int32) × (Nat → Nat → Nat → Int32)
  | 0 => (wf, wa)
  | k + 1 => payWS fl (t + k) (passWS fl t n wf wa k).1 (passWS fl t n wf wa k).2 n
def passWT (fl : Int32) (t n : Nat) (wf : Nat → Nat → Int32) (wa : Nat → Nat → Nat → Int32) : Nat → Int32
  | 0 => 0
  | k + 1 => passWT fl t n wf wa k + payWT fl (t + k) (passWS fl t n wf wa k).1 (passWS fl t n wf wa k).2 n
/-! the system's check -/
def ckB (wa : Nat → Nat → Nat → Int32) (j i : Nat) : Int32 := muchB (wa i 2 j) (wa i 6 j) (wa i 5 j)
def ckF (wf : Nat → Nat → Int32) (wa : Nat → Nat → Nat → Int32) (j : Nat) : Nat → Nat → Nat → Int32
  | 0 => wf
  | i + 1 => if ckB wa j i = 0 then ckF wf wa j i else if wa i 7 j = 0 then va_up (ckF wf wa j i) i (va_up (ckF wf wa j i i) 11 (ckF wf wa j i i 11 + wa i 5 j / 2)) else ckF wf wa j i
def ckD (wa : Nat → Nat → Nat → Int32) (j : Nat) (fd : Int32) : Nat → Int32
  | 0 => fd
  | i + 1 => if ckB wa j i = 0 then ckD wa j fd i else if wa i 7 j = 0 then ckD wa j fd i + (wa i 5 j - wa i 5 j / 2) else ckD wa j fd i + (wa i 5 j + wa i 5 j * 10 / 100)
def ckC (wa : Nat → Nat → Nat → Int32) (j : Nat) : Nat → Int32
  | 0 => 0
  | i + 1 => if ckB wa j i = 0 then ckC wa j i else ckC wa j i + 1
theorem ck_0 {wf : Nat → Nat → Int32} {wa : Nat → Nat → Nat → Int32} {j i : Nat} {fd : Int32} (h : ckB wa j i = 0) : ckF wf wa j (i + 1) = ckF wf wa j i ∧ ckD wa j fd (i + 1) = ckD wa j fd i ∧ ckC wa j (i + 1) = ckC wa j i := by
  refine ⟨?_, ?_, ?_⟩
  · show (if ckB wa j i = 0 then _ else _) = _
    rw [if_pos h]
  · show (if ckB wa j i = 0 then _ else _) = _
    rw [if_pos h]
  · show (if ckB wa j i = 0 then _ else _) = _
    rw [if_pos h]
theorem ck_n {wf : Nat → Nat → Int32} {wa : Nat → Nat → Nat → Int32} {j i : Nat} {fd : Int32} (h : ¬ ckB wa j i = 0) (h2 : wa i 7 j = 0) : ckF wf wa j (i + 1) = va_up (ckF wf wa j i) i (va_up (ckF wf wa j i i) 11 (ckF wf wa j i i 11 + wa i 5 j / 2)) ∧ ckD wa j fd (i + 1) = ckD wa j fd i + (wa i 5 j - wa i 5 j / 2) ∧ ckC wa j (i + 1) = ckC wa j i + 1 := by
  refine ⟨?_, ?_, ?_⟩
  · show (if ckB wa j i = 0 then _ else _) = _
    rw [if_neg h, if_pos h2]
  · show (if ckB wa j i = 0 then _ else _) = _
    rw [if_neg h, if_pos h2]
  · show (if ckB wa j i = 0 then _ else _) = _
    rw [if_neg h]
theorem ck_m {wf : Nat → Nat → Int32} {wa : Nat → Nat → Nat → Int32} {j i : Nat} {fd : Int32} (h : ¬ ckB wa j i = 0) (h2 : ¬ wa i 7 j = 0) : ckF wf wa j (i + 1) = ckF wf wa j i ∧ ckD wa j fd (i + 1) = ckD wa j fd i + (wa i 5 j + wa i 5 j * 10 / 100) ∧ ckC wa j (i + 1) = ckC wa j i + 1 := by
  refine ⟨?_, ?_, ?_⟩
  · show (if ckB wa j i = 0 then _ else _) = _
    rw [if_neg h, if_neg h2]
  · show (if ckB wa j i = 0 then _ else _) = _
    rw [if_neg h, if_neg h2]
  · show (if ckB wa j i = 0 then _ else _) = _
    rw [if_neg h]
end
section
theorem goTo_w {G : Gx} {A : Nat → Prop} {s : State} {H : Heap} {locs : List Loc} {q : Nat → Nat} {n nc t i z : Nat} {fl fd : Int32} {k : Nat → Int32} {wd : Nat → Nat → Nat} {wf : Nat → Nat → Int32} {wa : Nat → Nat → Nat → Int32} {cd : Nat → Nat} {cf : Nat → Nat → Int32} {g : Nat → Int32} {v : Int32}
    (h : HH G A s (sW G q n nc t fl fd k wd wf (va_up (va_up wa i (va_up (wa i) 3 g)) i (va_up ((va_up wa i (va_up (wa i) 3 g)) i) 3 (upd ((va_up wa i (va_up (wa i) 3 g)) i 3) z v))) cd cf) H locs) : HH G A s (sW G q n nc t fl fd k wd wf (va_up wa i (va_up (wa i) 3 (upd g z v))) cd cf) H locs := by
  rw [va_up_self, va_up_self, bx_uu, bx_uu] at h
  exact h
theorem hdX1_goTo : yX1_goTo.cls = RX1 ∧ yX1_goTo.cls ≠ "java/lang/invoke/MethodHandle" ∧ yX1_goTo.cls ≠ "java/lang/invoke/VarHandle" ∧ (parseMethodDescriptor yX1_goTo.desc).map (fun d => d.parameters.length) = some 1 := by decide +kernel
theorem hdX1_hasNoCourseFrom : yX1_hasNoCourseFrom.cls = RX1 ∧ yX1_hasNoCourseFrom.cls ≠ "java/lang/invoke/MethodHandle" ∧ yX1_hasNoCourseFrom.cls ≠ "java/lang/invoke/VarHandle" ∧ (parseMethodDescriptor yX1_hasNoCourseFrom.desc).map (fun d => d.parameters.length) = some 2 := by decide +kernel
theorem hdX1_hasWorkedTooMuch : yX1_hasWorkedTooMuch.cls = RX1 ∧ yX1_hasWorkedTooMuch.cls ≠ "java/lang/invoke/MethodHandle" ∧ yX1_hasWorkedTooMuch.cls ≠ "java/lang/invoke/VarHandle" ∧ (parseMethodDescriptor yX1_hasWorkedTooMuch.desc).map (fun d => d.parameters.length) = some 1 := by decide +kernel
theorem hdX1_payFor : yX1_payFor.cls = RX1 ∧ yX1_payFor.cls ≠ "java/lang/invoke/MethodHandle" ∧ yX1_payFor.cls ≠ "java/lang/invoke/VarHandle" ∧ (parseMethodDescriptor yX1_payFor.desc).map (fun d => d.parameters.length) = some 2 := by decide +kernel
theorem hdX1_takeNotice : yX1_takeNotice.cls = RX1 ∧ yX1_takeNotice.cls ≠ "java/lang/invoke/MethodHandle" ∧ yX1_takeNotice.cls ≠ "java/lang/invoke/VarHandle" ∧ (parseMethodDescriptor yX1_takeNotice.desc).map (fun d => d.parameters.length) = some 3 := by decide +kernel
theorem hdX2_chargeBack : yX2_chargeBack.cls = RX2 ∧ yX2_chargeBack.cls ≠ "java/lang/invoke/MethodHandle" ∧ yX2_chargeBack.cls ≠ "java/lang/invoke/VarHandle" ∧ (parseMethodDescriptor yX2_chargeBack.desc).map (fun d => d.parameters.length) = some 2 := by decide +kernel
theorem hdX2_courseAt : yX2_courseAt.cls = RX2 ∧ yX2_courseAt.cls ≠ "java/lang/invoke/MethodHandle" ∧ yX2_courseAt.cls ≠ "java/lang/invoke/VarHandle" ∧ (parseMethodDescriptor yX2_courseAt.desc).map (fun d => d.parameters.length) = some 1 := by decide +kernel
theorem hdX2_isSpan : yX2_isSpan.cls = RX2 ∧ yX2_isSpan.cls ≠ "java/lang/invoke/MethodHandle" ∧ yX2_isSpan.cls ≠ "java/lang/invoke/VarHandle" ∧ (parseMethodDescriptor yX2_isSpan.desc).map (fun d => d.parameters.length) = some 2 := by decide +kernel
theorem hdX2_payCurrentWeek : yX2_payCurrentWeek.cls = RX2 ∧ yX2_payCurrentWeek.cls ≠ "java/lang/invoke/MethodHandle" ∧ yX2_payCurrentWeek.cls ≠ "java/lang/invoke/VarHandle" ∧ (parseMethodDescriptor yX2_payCurrentWeek.desc).map (fun d => d.parameters.length) = some 0 := by decide +kernel
theorem in_X1_goTo_X0 : ∀ w ∈ wsX00, w ∈ wsX1_goTo := by decide +kernel
theorem in_X1_goTo_X1 : ∀ w ∈ wsX10, w ∈ wsX1_goTo := by decide +kernel
theorem in_X2_check_X2 : ∀ w ∈ wsX20, w ∈ wsX2_check := by decide +kernel
theorem in_X2_enrol_X0 : ∀ w ∈ wsX00, w ∈ wsX2_enrol := by decide +kernel
theorem in_X2_enrol_X2 : ∀ w ∈ wsX20, w ∈ wsX2_enrol := by decide +kernel
theorem in_X2_notice_X1 : ∀ w ∈ wsX10, w ∈ wsX2_notice := by decide +kernel
theorem in_X2_notice_X2 : ∀ w ∈ wsX20, w ∈ wsX2_notice := by decide +kernel
theorem in_X2_pass_X2 : ∀ w ∈ wsX20, w ∈ wsX2_pass := by decide +kernel
theorem in_X2_payCurrentWeek_X2 : ∀ w ∈ wsX20, w ∈ wsX2_payCurrentWeek := by decide +kernel
end
section
set_option maxHeartbeats 4000000 in
set_option maxRecDepth 100000 in
theorem c_X2_notice_1 (l : Launch) (G : Gx) (q : Nat → Nat) (n nc t : Nat) (fl fd : Int32) (k : Nat → Int32) (wd : Nat → Nat → Nat) (wf : Nat → Nat → Int32) (wa : Nat → Nat → Nat → Int32) (cd : Nat → Nat) (cf : Nat → Nat → Int32) (hn : n ≤ 8) (i : Nat) (hi : i < n) (ht : t ≤ 201) (cn : Nat) (e8 : wf i 8 = nI cn) (hcn : cn < 30) (x y : Nat) (hxy : x ≤ y) (hy : y ≤ 200) (h : Int32) (h1 : 0 ≤ h) (h2 : h ≤ 40) (htx : t + 2 ≤ x) : MI l yX2_notice wsX2_notice ({ frames := 2, cells := 0, slots := 0, locals := 44 } : Room) [.ref (q 0), .int (nI i), .int (nI x), .int (nI y), .int h] G (sW G q n nc t fl fd k wd wf wa cd cf) (fun u => sW G q n nc t fl fd k wd (va_up wf i (va_up (wf i) 8 (wf i 8 + 1))) (va_up wa i (va_up (wa i) 2 (fillR (wa i 2) x (y + 1) h))) cd cf) (nI (cn + 1)) := by
  refine ofMI (cc := cX2_notice) (maxL := 6) (ret := (some .int)) (by decide) rfl (Nat.le_of_ble_eq_true rfl) (fun p e s m below meth c A ls F hr hnm hH hl => ?_)
  have F : Fx G p s m _ meth c cX2_notice 6 wsX2_notice RX2 A := F
  have hx := F.1.1
  have hb := F.1.2.1
  have hl : lv_has ls 6 [(0, .ref (q 0)), (1, .int (nI i)), (2, .int (nI x)), (3, .int (nI y)), (4, .int h)] := hl
  refine lv_aload_n hx hb dX2_notice_0 rfl (lv_at hl 0 rfl) ?_
  refine lv_iload_n hx hb dX2_notice_1 rfl (lv_at hl 1 rfl) ?_
  refine callVR0 (rest := []) F (c_X2_workerAt_1 l G q n nc t fl fd k wd wf wa cd cf hn i hi) gX2_notice_X2_workerAt rfl hdX2_workerAt ⟨Nat.le_of_ble_eq_true rfl, Nat.le_of_ble_eq_true rfl⟩ hH ⟨0, 2, _, _, rfl, rfl, rfl⟩ rfl hl.1 (Nat.le_of_ble_eq_true rfl) dX2_notice_2 ⟨Nat.le_of_ble_eq_true rfl, Nat.le_of_ble_eq_true rfl⟩ rfl (fun H locs hH => ?_)
  refine lv_astore (lv' := [(5, .ref (wd i 0)), (0, .ref (q 0)), (1, .int (nI i)), (2, .int (nI x)), (3, .int (nI y)), (4, .int h)]) hx hb dX2_notice_5 hl (by decide) rfl (fun ls hl => ?_)
  refine lv_iload_n hx hb dX2_notice_7 rfl (lv_at hl 3 rfl) ?_
  refine lv_iload_n hx hb dX2_notice_8 rfl (lv_at hl 4 rfl) ?_
  refine callSI0 (rest := []) F (c_X2_isSpan_1 l G _ (nI x) (nI y) (nI_pos' (by omega)) (nI_le (a := x) (b := 200) (by omega) (by decide)) (nI_le hxy (by omega)) (nI_le (a := y) (b := 200) hy (by decide))) gX2_notice_X2_isSpan rfl hdX2_isSpan ⟨Nat.le_of_ble_eq_true rfl, Nat.le_of_ble_eq_true rfl⟩ hH rfl hl.1 (Nat.le_of_ble_eq_true rfl) dX2_notice_9 ⟨Nat.le_of_ble_eq_true rfl, Nat.le_of_ble_eq_true rfl⟩ rfl (fun u H locs hH => ?_)
  have hH : HH G A s (sW G q n nc t fl fd k wd wf wa cd cf) H locs := hH
  refine lv_if_eq (tgt := 30) hx hb dX2_notice_12 (by decide) (fun c_12 => absurd c_12 (by decide)) (fun c_12 => ?_)
  refine lv_iload hx hb dX2_notice_15 (lv_at hl 5 rfl) ?_
  refine lv_iconst (v := 0) hx hb dX2_notice_17 (by decide) ?_
  refine lv_bipush (v := 40) hx hb dX2_notice_18 (by decide) ?_
  refine callSI0 (rest := []) F (c_X2_isWithin_1 l G _ h 0 40 h1 h2) gX2_notice_X2_isWithin rfl hdX2_isWithin ⟨Nat.le_of_ble_eq_true rfl, Nat.le_of_ble_eq_true rfl⟩ hH rfl hl.1 (Nat.le_of_ble_eq_true rfl) dX2_notice_20 ⟨Nat.le_of_ble_eq_true rfl, Nat.le_of_ble_eq_true rfl⟩ rfl (fun u H locs hH => ?_)
  have hH : HH G A s (sW G q n nc t fl fd k wd wf wa cd cf) H locs := hH
  refine lv_if_eq (tgt := 30) hx hb dX2_notice_23 (by decide) (fun c_23 => absurd c_23 (by decide)) (fun c_23 => ?_)
  refine lv_iconst (v := 1) hx hb dX2_notice_26 (by decide) ?_
  refine lv_goto (tgt := 31) hx hb dX2_notice_27 (by decide) ?_
  refine callSV0 (rest := []) F (c_X2_requireArgument_1 l G _) gX2_notice_X2_requireArgument rfl hdX2_requireArgument ⟨Nat.le_of_ble_eq_true rfl, Nat.le_of_ble_eq_true rfl⟩ hH rfl hl.1 (Nat.le_of_ble_eq_true rfl) dX2_notice_31 ⟨Nat.le_of_ble_eq_true rfl, Nat.le_of_ble_eq_true rfl⟩ rfl (fun u H locs hH => ?_)
  have hH : HH G A s (sW G q n nc t fl fd k wd wf wa cd cf) H locs := hH
  refine lv_iload_n hx hb dX2_notice_34 rfl (lv_at hl 3 rfl) ?_
  refine lv_aload_n hx hb dX2_notice_35 rfl (lv_at hl 1 rfl) ?_
  refine rget (C := RX2) (T := TX2) (N := 8) (ref := RX2) F in_X2_notice_X2 hH 0 rfl rfl 5 (by decide) (by decide +kernel) (fun _ h9 => h9) (v := .int (nI t)) rfl dX2_notice_36 ?_
  refine lv_iconst (v := 2) hx hb dX2_notice_39 (by decide) ?_
  refine lv_iadd hx hb dX2_notice_40 ?_
  refine lv_icmp_lt (tgt := 58) hx hb dX2_notice_41 (by decide) (fun c_41 => absurd c_41 (by rw [nI_2]; exact nI_nlt htx (by omega))) (fun c_41 => ?_)
  refine lv_aload hx hb dX2_notice_44 (lv_at hl 0 rfl) ?_
  refine rgetN (C := RX1) (T := TX1) (N := 12) (ref := RX1) (host := RX2) F in_X2_notice_X1 hH (4 + 7 * i + 0) (sW_at hi (j := 0) rfl) rfl 8 (by decide) (by decide +kernel) (fun _ h9 => h9) (v := .int (wf i 8)) rfl dX2_notice_46 ?_
  refine lv_bipush (v := 30) hx hb dX2_notice_49 (by decide) ?_
  refine lv_icmp_ge (tgt := 58) hx hb dX2_notice_51 (by decide) (fun c_51 => absurd c_51 (by rw [e8]; exact nI_ge (a := cn) (b := 30) hcn (by decide))) (fun c_51 => ?_)
  refine lv_iconst (v := 1) hx hb dX2_notice_54 (by decide) ?_
  refine lv_goto (tgt := 59) hx hb dX2_notice_55 (by decide) ?_
  refine callSV0 (rest := []) F (c_X2_requireState_1 l G _) gX2_notice_X2_requireState rfl hdX2_requireState ⟨Nat.le_of_ble_eq_true rfl, Nat.le_of_ble_eq_true rfl⟩ hH rfl hl.1 (Nat.le_of_ble_eq_true rfl) dX2_notice_59 ⟨Nat.le_of_ble_eq_true rfl, Nat.le_of_ble_eq_true rfl⟩ rfl (fun u H locs hH => ?_)
  have hH : HH G A s (sW G q n nc t fl fd k wd wf wa cd cf) H locs := hH
  refine lv_aload hx hb dX2_notice_62 (lv_at hl 0 rfl) ?_
  refine lv_iload_n hx hb dX2_notice_64 rfl (lv_at hl 3 rfl) ?_
  refine lv_iload_n hx hb dX2_notice_65 rfl (lv_at hl 4 rfl) ?_
  refine lv_iload hx hb dX2_notice_66 (lv_at hl 5 rfl) ?_
  obtain ⟨a9, b9, -, h91, h92⟩ := sW_mid (G := G) (q := q) (n := n) (m := nc) (t := t) (fl := fl) (fd := fd) (k := k) (wd := wd) (wf := wf) (wa := wa) (cd := cd) (cf := cf) hi
  refine callVV (rest := []) F (c_X1_takeNotice l G (wd i) (wf i) (wa i) x y hxy hy h) gX2_notice_X1_takeNotice rfl hdX1_takeNotice ⟨Nat.le_of_ble_eq_true rfl, Nat.le_of_ble_eq_true rfl⟩ a9 b9 hH h91 ⟨0, 1, _, _, rfl, rfl, rfl⟩ rfl hl.1 (Nat.le_of_ble_eq_true rfl) dX2_notice_68 ⟨Nat.le_of_ble_eq_true rfl, Nat.le_of_ble_eq_true rfl⟩ rfl (fun u H locs hH => ?_)
  have hH : HH G A s (sW G q n nc t fl fd k wd (va_up wf i (va_up (wf i) 8 (wf i 8 + 1))) (va_up wa i (va_up (wa i) 2 (fillR (wa i 2) x (y + 1) h))) cd cf) H locs := by rw [h92]; exact hH
  refine lv_aload hx hb dX2_notice_71 (lv_at hl 0 rfl) ?_
  refine rgetN (C := RX1) (T := TX1) (N := 12) (ref := RX1) (host := RX2) F in_X2_notice_X1 hH (4 + 7 * i + 0) (sW_at hi (j := 0) rfl) rfl 8 (by decide) (by decide +kernel) (fun _ h9 => h9) (v := .int ((va_up wf i (va_up (wf i) 8 (wf i 8 + 1))) i 8)) rfl dX2_notice_73 ?_
  exact retI F hr rfl (fun _ => 0) hH (by rw [va_up_self, va_up_self, e8, nI_1]) (Nat.le_of_ble_eq_true rfl) (Nat.le_of_ble_eq_true rfl) dX2_notice_76

set_option maxHeartbeats 4000000 in
set_option maxRecDepth 100000 in
theorem c_X2_notice_3 (l : Launch) (hst : l.stackTraces = false) (G : Gx) (q : Nat → Nat) (n nc t : Nat) (fl fd : Int32) (k : Nat → Int32) (wd : Nat → Nat → Nat) (wf : Nat → Nat → Int32) (wa : Nat → Nat → Nat → Int32) (cd : Nat → Nat) (cf : Nat → Nat → Int32) (hn : n ≤ 8) (i : Nat) (hi : i < n) (ht : t ≤ 201) (cn : Nat) (e8 : wf i 8 = nI cn) (hcn : cn ≤ 30) (x y : Nat) (hxy : x ≤ y) (hy : y ≤ 200) (h : Int32) (h1 : 0 ≤ h) (h2 : h ≤ 40) (hz : x < t + 2 ∨ cn = 30) : MX l yX2_notice wsX2_notice ({ frames := 7, cells := 1, slots := 6, locals := 110 } : Room) [.ref (q 0), .int (nI i), .int (nI x), .int (nI y), .int h] G (sW G q n nc t fl fd k wd wf wa cd cf) "java/lang/IllegalStateException" := by
  refine ofMX (cc := cX2_notice) (maxL := 6) (ret := (some .int)) (by decide) rfl (Nat.le_of_ble_eq_true rfl) (fun p e s m below meth c A ls F htb hH hl => ?_)
  have F : Fx G p s m _ meth c cX2_notice 6 wsX2_notice RX2 A := F
  have hx := F.1.1
  have hb := F.1.2.1
  have hl : lv_has ls 6 [(0, .ref (q 0)), (1, .int (nI i)), (2, .int (nI x)), (3, .int (nI y)), (4, .int h)] := hl
  refine lv_aload_n hx hb dX2_notice_0 rfl (lv_at hl 0 rfl) ?_
  refine lv_iload_n hx hb dX2_notice_1 rfl (lv_at hl 1 rfl) ?_
  refine callVR0 (rest := []) F (c_X2_workerAt_1 l G q n nc t fl fd k wd wf wa cd cf hn i hi) gX2_notice_X2_workerAt rfl hdX2_workerAt ⟨Nat.le_of_ble_eq_true rfl, Nat.le_of_ble_eq_true rfl⟩ hH ⟨0, 2, _, _, rfl, rfl, rfl⟩ rfl hl.1 (Nat.le_of_ble_eq_true rfl) dX2_notice_2 ⟨Nat.le_of_ble_eq_true rfl, Nat.le_of_ble_eq_true rfl⟩ rfl (fun H locs hH => ?_)
  refine lv_astore (lv' := [(5, .ref (wd i 0)), (0, .ref (q 0)), (1, .int (nI i)), (2, .int (nI x)), (3, .int (nI y)), (4, .int h)]) hx hb dX2_notice_5 hl (by decide) rfl (fun ls hl => ?_)
  refine lv_iload_n hx hb dX2_notice_7 rfl (lv_at hl 3 rfl) ?_
  refine lv_iload_n hx hb dX2_notice_8 rfl (lv_at hl 4 rfl) ?_
  refine callSI0 (rest := []) F (c_X2_isSpan_1 l G _ (nI x) (nI y) (nI_pos' (by omega)) (nI_le (a := x) (b := 200) (by omega) (by decide)) (nI_le hxy (by omega)) (nI_le (a := y) (b := 200) hy (by decide))) gX2_notice_X2_isSpan rfl hdX2_isSpan ⟨Nat.le_of_ble_eq_true rfl, Nat.le_of_ble_eq_true rfl⟩ hH rfl hl.1 (Nat.le_of_ble_eq_true rfl) dX2_notice_9 ⟨Nat.le_of_ble_eq_true rfl, Nat.le_of_ble_eq_true rfl⟩ rfl (fun u H locs hH => ?_)
  have hH : HH G A s (sW G q n nc t fl fd k wd wf wa cd cf) H locs := hH
  refine lv_if_eq (tgt := 30) hx hb dX2_notice_12 (by decide) (fun c_12 => absurd c_12 (by decide)) (fun c_12 => ?_)
  refine lv_iload hx hb dX2_notice_15 (lv_at hl 5 rfl) ?_
  refine lv_iconst (v := 0) hx hb dX2_notice_17 (by decide) ?_
  refine lv_bipush (v := 40) hx hb dX2_notice_18 (by decide) ?_
  refine callSI0 (rest := []) F (c_X2_isWithin_1 l G _ h 0 40 h1 h2) gX2_notice_X2_isWithin rfl hdX2_isWithin ⟨Nat.le_of_ble_eq_true rfl, Nat.le_of_ble_eq_true rfl⟩ hH rfl hl.1 (Nat.le_of_ble_eq_true rfl) dX2_notice_20 ⟨Nat.le_of_ble_eq_true rfl, Nat.le_of_ble_eq_true rfl⟩ rfl (fun u H locs hH => ?_)
  have hH : HH G A s (sW G q n nc t fl fd k wd wf wa cd cf) H locs := hH
  refine lv_if_eq (tgt := 30) hx hb dX2_notice_23 (by decide) (fun c_23 => absurd c_23 (by decide)) (fun c_23 => ?_)
  refine lv_iconst (v := 1) hx hb dX2_notice_26 (by decide) ?_
  refine lv_goto (tgt := 31) hx hb dX2_notice_27 (by decide) ?_
  refine callSV0 (rest := []) F (c_X2_requireArgument_1 l G _) gX2_notice_X2_requireArgument rfl hdX2_requireArgument ⟨Nat.le_of_ble_eq_true rfl, Nat.le_of_ble_eq_true rfl⟩ hH rfl hl.1 (Nat.le_of_ble_eq_true rfl) dX2_notice_31 ⟨Nat.le_of_ble_eq_true rfl, Nat.le_of_ble_eq_true rfl⟩ rfl (fun u H locs hH => ?_)
  have hH : HH G A s (sW G q n nc t fl fd k wd wf wa cd cf) H locs := hH
  rcases hz with hz | hz
  · refine lv_iload_n hx hb dX2_notice_34 rfl (lv_at hl 3 rfl) ?_
    refine lv_aload_n hx hb dX2_notice_35 rfl (lv_at hl 1 rfl) ?_
    refine rget (C := RX2) (T := TX2) (N := 8) (ref := RX2) F in_X2_notice_X2 hH 0 rfl rfl 5 (by decide) (by decide +kernel) (fun _ h9 => h9) (v := .int (nI t)) rfl dX2_notice_36 ?_
    refine lv_iconst (v := 2) hx hb dX2_notice_39 (by decide) ?_
    refine lv_iadd hx hb dX2_notice_40 ?_
    refine lv_icmp_lt (tgt := 58) hx hb dX2_notice_41 (by decide) (fun c_41 => ?_) (fun c_41 => absurd (by rw [nI_2]; exact nI_lt hz (by omega)) c_41)
    refine lv_iconst (v := 0) hx hb dX2_notice_58 (by decide) ?_
    exact callSX0 (rest := []) F (c_X2_requireState_0 l hst G _) gX2_notice_X2_requireState rfl hdX2_requireState ⟨Nat.le_of_ble_eq_true rfl, Nat.le_of_ble_eq_true rfl⟩ hH rfl hl.1 (Nat.le_of_ble_eq_true rfl) dX2_notice_59 ⟨Nat.le_of_ble_eq_true rfl, Nat.le_of_ble_eq_true rfl⟩ rfl htb (Nat.le_of_ble_eq_true rfl) (Nat.le_of_ble_eq_true rfl)
  · refine lv_iload_n hx hb dX2_notice_34 rfl (lv_at hl 3 rfl) ?_
    refine lv_aload_n hx hb dX2_notice_35 rfl (lv_at hl 1 rfl) ?_
    refine rget (C := RX2) (T := TX2) (N := 8) (ref := RX2) F in_X2_notice_X2 hH 0 rfl rfl 5 (by decide) (by decide +kernel) (fun _ h9 => h9) (v := .int (nI t)) rfl dX2_notice_36 ?_
    refine lv_iconst (v := 2) hx hb dX2_notice_39 (by decide) ?_
    refine lv_iadd hx hb dX2_notice_40 ?_
    refine lv_icmp_lt (tgt := 58) hx hb dX2_notice_41 (by decide) (fun c_41 => ?_) (fun c_41 => ?_)
    · refine lv_iconst (v := 0) hx hb dX2_notice_58 (by decide) ?_
      exact callSX0 (rest := []) F (c_X2_requireState_0 l hst G _) gX2_notice_X2_requireState rfl hdX2_requireState ⟨Nat.le_of_ble_eq_true rfl, Nat.le_of_ble_eq_true rfl⟩ hH rfl hl.1 (Nat.le_of_ble_eq_true rfl) dX2_notice_59 ⟨Nat.le_of_ble_eq_true rfl, Nat.le_of_ble_eq_true rfl⟩ rfl htb (Nat.le_of_ble_eq_true rfl) (Nat.le_of_ble_eq_true rfl)
    · refine lv_aload hx hb dX2_notice_44 (lv_at hl 0 rfl) ?_
      refine rgetN (C := RX1) (T := TX1) (N := 12) (ref := RX1) (host := RX2) F in_X2_notice_X1 hH (4 + 7 * i + 0) (sW_at hi (j := 0) rfl) rfl 8 (by decide) (by decide +kernel) (fun _ h9 => h9) (v := .int (wf i 8)) rfl dX2_notice_46 ?_
      refine lv_bipush (v := 30) hx hb dX2_notice_49 (by decide) ?_
      refine lv_icmp_ge (tgt := 58) hx hb dX2_notice_51 (by decide) (fun c_51 => ?_) (fun c_51 => absurd (by rw [e8, hz]; decide) c_51)
      refine lv_iconst (v := 0) hx hb dX2_notice_58 (by decide) ?_
      exact callSX0 (rest := []) F (c_X2_requireState_0 l hst G _) gX2_notice_X2_requireState rfl hdX2_requireState ⟨Nat.le_of_ble_eq_true rfl, Nat.le_of_ble_eq_true rfl⟩ hH rfl hl.1 (Nat.le_of_ble_eq_true rfl) dX2_notice_59 ⟨Nat.le_of_ble_eq_true rfl, Nat.le_of_ble_eq_true rfl⟩ rfl htb (Nat.le_of_ble_eq_true rfl) (Nat.le_of_ble_eq_true rfl)

set_option maxHeartbeats 4000000 in
set_option maxRecDepth 100000 in
theorem c_X2_notice_2 (l : Launch) (hst : l.stackTraces = false) (G : Gx) (q : Nat → Nat) (n nc t : Nat) (fl fd : Int32) (k : Nat → Int32) (wd : Nat → Nat → Nat) (wf : Nat → Nat → Int32) (wa : Nat → Nat → Nat → Int32) (cd : Nat → Nat) (cf : Nat → Nat → Int32) (hn : n ≤ 8) (i : Nat) (hi : i < n) (x y z : Int32) (h : (x < 0 ∨ 200 < x) ∨ ((0 ≤ x ∧ x ≤ 200) ∧ (y < x ∨ 200 < y)) ∨ ((0 ≤ x ∧ x ≤ 200 ∧ x ≤ y ∧ y ≤ 200) ∧ (z < 0 ∨ 40 < z))) : MX l yX2_notice wsX2_notice ({ frames := 7, cells := 1, slots := 6, locals := 110 } : Room) [.ref (q 0), .int (nI i), .int x, .int y, .int z] G (sW G q n nc t fl fd k wd wf wa cd cf) "java/lang/IllegalArgumentException" := by
  refine ofMX (cc := cX2_notice) (maxL := 6) (ret := (some .int)) (by decide) rfl (Nat.le_of_ble_eq_true rfl) (fun p e s m below meth c A ls F htb hH hl => ?_)
  have F : Fx G p s m _ meth c cX2_notice 6 wsX2_notice RX2 A := F
  have hx := F.1.1
  have hb := F.1.2.1
  have hl : lv_has ls 6 [(0, .ref (q 0)), (1, .int (nI i)), (2, .int x), (3, .int y), (4, .int z)] := hl
  refine lv_aload_n hx hb dX2_notice_0 rfl (lv_at hl 0 rfl) ?_
  refine lv_iload_n hx hb dX2_notice_1 rfl (lv_at hl 1 rfl) ?_
  refine callVR0 (rest := []) F (c_X2_workerAt_1 l G q n nc t fl fd k wd wf wa cd cf hn i hi) gX2_notice_X2_workerAt rfl hdX2_workerAt ⟨Nat.le_of_ble_eq_true rfl, Nat.le_of_ble_eq_true rfl⟩ hH ⟨0, 2, _, _, rfl, rfl, rfl⟩ rfl hl.1 (Nat.le_of_ble_eq_true rfl) dX2_notice_2 ⟨Nat.le_of_ble_eq_true rfl, Nat.le_of_ble_eq_true rfl⟩ rfl (fun H locs hH => ?_)
  rcases h with h | ⟨⟨g1, g2⟩, h⟩ | ⟨⟨g1, g2, g3, g4⟩, h⟩
  · refine lv_astore (lv' := [(5, .ref (wd i 0)), (0, .ref (q 0)), (1, .int (nI i)), (2, .int x), (3, .int y), (4, .int z)]) hx hb dX2_notice_5 hl (by decide) rfl (fun ls hl => ?_)
    refine lv_iload_n hx hb dX2_notice_7 rfl (lv_at hl 3 rfl) ?_
    refine lv_iload_n hx hb dX2_notice_8 rfl (lv_at hl 4 rfl) ?_
    refine callSI0 (rest := []) F (c_X2_isSpan_0 l G _ x y h) gX2_notice_X2_isSpan rfl hdX2_isSpan ⟨Nat.le_of_ble_eq_true rfl, Nat.le_of_ble_eq_true rfl⟩ hH rfl hl.1 (Nat.le_of_ble_eq_true rfl) dX2_notice_9 ⟨Nat.le_of_ble_eq_true rfl, Nat.le_of_ble_eq_true rfl⟩ rfl (fun u H locs hH => ?_)
    have hH : HH G A s (sW G q n nc t fl fd k wd wf wa cd cf) H locs := hH
    refine lv_if_eq (tgt := 30) hx hb dX2_notice_12 (by decide) (fun c_12 => ?_) (fun c_12 => absurd rfl c_12)
    refine lv_iconst (v := 0) hx hb dX2_notice_30 (by decide) ?_
    exact callSX0 (rest := []) F (c_X2_requireArgument_0 l hst G _) gX2_notice_X2_requireArgument rfl hdX2_requireArgument ⟨Nat.le_of_ble_eq_true rfl, Nat.le_of_ble_eq_true rfl⟩ hH rfl hl.1 (Nat.le_of_ble_eq_true rfl) dX2_notice_31 ⟨Nat.le_of_ble_eq_true rfl, Nat.le_of_ble_eq_true rfl⟩ rfl htb (Nat.le_of_ble_eq_true rfl) (Nat.le_of_ble_eq_true rfl)
  · refine lv_astore (lv' := [(5, .ref (wd i 0)), (0, .ref (q 0)), (1, .int (nI i)), (2, .int x), (3, .int y), (4, .int z)]) hx hb dX2_notice_5 hl (by decide) rfl (fun ls hl => ?_)
    refine lv_iload_n hx hb dX2_notice_7 rfl (lv_at hl 3 rfl) ?_
    refine lv_iload_n hx hb dX2_notice_8 rfl (lv_at hl 4 rfl) ?_
    refine callSI0 (rest := []) F (c_X2_isSpan_00 l G _ x y g1 g2 h) gX2_notice_X2_isSpan rfl hdX2_isSpan ⟨Nat.le_of_ble_eq_true rfl, Nat.le_of_ble_eq_true rfl⟩ hH rfl hl.1 (Nat.le_of_ble_eq_true rfl) dX2_notice_9 ⟨Nat.le_of_ble_eq_true rfl, Nat.le_of_ble_eq_true rfl⟩ rfl (fun u H locs hH => ?_)
    have hH : HH G A s (sW G q n nc t fl fd k wd wf wa cd cf) H locs := hH
    refine lv_if_eq (tgt := 30) hx hb dX2_notice_12 (by decide) (fun c_12 => ?_) (fun c_12 => absurd rfl c_12)
    refine lv_iconst (v := 0) hx hb dX2_notice_30 (by decide) ?_
    exact callSX0 (rest := []) F (c_X2_requireArgument_0 l hst G _) gX2_notice_X2_requireArgument rfl hdX2_requireArgument ⟨Nat.le_of_ble_eq_true rfl, Nat.le_of_ble_eq_true rfl⟩ hH rfl hl.1 (Nat.le_of_ble_eq_true rfl) dX2_notice_31 ⟨Nat.le_of_ble_eq_true rfl, Nat.le_of_ble_eq_true rfl⟩ rfl htb (Nat.le_of_ble_eq_true rfl) (Nat.le_of_ble_eq_true rfl)
  · refine lv_astore (lv' := [(5, .ref (wd i 0)), (0, .ref (q 0)), (1, .int (nI i)), (2, .int x), (3, .int y), (4, .int z)]) hx hb dX2_notice_5 hl (by decide) rfl (fun ls hl => ?_)
    refine lv_iload_n hx hb dX2_notice_7 rfl (lv_at hl 3 rfl) ?_
    refine lv_iload_n hx hb dX2_notice_8 rfl (lv_at hl 4 rfl) ?_
    refine callSI0 (rest := []) F (c_X2_isSpan_1 l G _ x y g1 g2 g3 g4) gX2_notice_X2_isSpan rfl hdX2_isSpan ⟨Nat.le_of_ble_eq_true rfl, Nat.le_of_ble_eq_true rfl⟩ hH rfl hl.1 (Nat.le_of_ble_eq_true rfl) dX2_notice_9 ⟨Nat.le_of_ble_eq_true rfl, Nat.le_of_ble_eq_true rfl⟩ rfl (fun u H locs hH => ?_)
    have hH : HH G A s (sW G q n nc t fl fd k wd wf wa cd cf) H locs := hH
    refine lv_if_eq (tgt := 30) hx hb dX2_notice_12 (by decide) (fun c_12 => absurd c_12 (by decide)) (fun c_12 => ?_)
    refine lv_iload hx hb dX2_notice_15 (lv_at hl 5 rfl) ?_
    refine lv_iconst (v := 0) hx hb dX2_notice_17 (by decide) ?_
    refine lv_bipush (v := 40) hx hb dX2_notice_18 (by decide) ?_
    refine callSI0 (rest := []) F (c_X2_isWithin_0 l G _ z 0 40 h) gX2_notice_X2_isWithin rfl hdX2_isWithin ⟨Nat.le_of_ble_eq_true rfl, Nat.le_of_ble_eq_true rfl⟩ hH rfl hl.1 (Nat.le_of_ble_eq_true rfl) dX2_notice_20 ⟨Nat.le_of_ble_eq_true rfl, Nat.le_of_ble_eq_true rfl⟩ rfl (fun u H locs hH => ?_)
    have hH : HH G A s (sW G q n nc t fl fd k wd wf wa cd cf) H locs := hH
    refine lv_if_eq (tgt := 30) hx hb dX2_notice_23 (by decide) (fun c_23 => ?_) (fun c_23 => absurd rfl c_23)
    refine lv_iconst (v := 0) hx hb dX2_notice_30 (by decide) ?_
    exact callSX0 (rest := []) F (c_X2_requireArgument_0 l hst G _) gX2_notice_X2_requireArgument rfl hdX2_requireArgument ⟨Nat.le_of_ble_eq_true rfl, Nat.le_of_ble_eq_true rfl⟩ hH rfl hl.1 (Nat.le_of_ble_eq_true rfl) dX2_notice_31 ⟨Nat.le_of_ble_eq_true rfl, Nat.le_of_ble_eq_true rfl⟩ rfl htb (Nat.le_of_ble_eq_true rfl) (Nat.le_of_ble_eq_true rfl)

set_option maxHeartbeats 4000000 in
set_option maxRecDepth 100000 in
theorem c_X2_notice_0 (l : Launch) (hst : l.stackTraces = false) (G : Gx) (q : Nat → Nat) (n nc t : Nat) (fl fd : Int32) (k : Nat → Int32) (wd : Nat → Nat → Nat) (wf : Nat → Nat → Int32) (wa : Nat → Nat → Nat → Int32) (cd : Nat → Nat) (cf : Nat → Nat → Int32) (hn : n ≤ 8) (v : Int32) (h : v < 0 ∨ nI n ≤ v) (x y z : Int32) : MX l yX2_notice wsX2_notice ({ frames := 7, cells := 1, slots := 6, locals := 112 } : Room) [.ref (q 0), .int v, .int x, .int y, .int z] G (sW G q n nc t fl fd k wd wf wa cd cf) "java/lang/IndexOutOfBoundsException" := by
  refine ofMX (cc := cX2_notice) (maxL := 6) (ret := (some .int)) (by decide) rfl (Nat.le_of_ble_eq_true rfl) (fun p e s m below meth c A ls F htb hH hl => ?_)
  have F : Fx G p s m _ meth c cX2_notice 6 wsX2_notice RX2 A := F
  have hx := F.1.1
  have hb := F.1.2.1
  have hl : lv_has ls 6 [(0, .ref (q 0)), (1, .int v), (2, .int x), (3, .int y), (4, .int z)] := hl
  refine lv_aload_n hx hb dX2_notice_0 rfl (lv_at hl 0 rfl) ?_
  refine lv_iload_n hx hb dX2_notice_1 rfl (lv_at hl 1 rfl) ?_
  exact callVX0 (rest := []) F (c_X2_workerAt_0 l hst G q n nc t fl fd k wd wf wa cd cf hn v h) gX2_notice_X2_workerAt rfl hdX2_workerAt ⟨Nat.le_of_ble_eq_true rfl, Nat.le_of_ble_eq_true rfl⟩ hH ⟨0, 2, _, _, rfl, rfl, rfl⟩ rfl hl.1 (Nat.le_of_ble_eq_true rfl) dX2_notice_2 ⟨Nat.le_of_ble_eq_true rfl, Nat.le_of_ble_eq_true rfl⟩ rfl htb (Nat.le_of_ble_eq_true rfl) (Nat.le_of_ble_eq_true rfl)

set_option maxHeartbeats 4000000 in
set_option maxRecDepth 100000 in
theorem c_X1_goTo (l : Launch) (G : Gx) (q : Nat → Nat) (n nc t : Nat) (fl fd : Int32) (k : Nat → Int32) (wd : Nat → Nat → Nat) (wf : Nat → Nat → Int32) (wa : Nat → Nat → Nat → Int32) (cd : Nat → Nat) (cf : Nat → Nat → Int32) (hn : n ≤ 8) (i : Nat) (hi : i < n) (hnc : nc ≤ 10) (j : Nat) (hj : j < nc) (x y : Nat) (hb0 : cf j 0 = nI x) (hb1 : cf j 1 = nI y) (hxy : x ≤ y) (hy : y ≤ 200) : MV l yX1_goTo wsX1_goTo ({ frames := 0, cells := 0, slots := 0, locals := 0 } : Room) [.ref (wd i 0), .ref (cd j)] G (sW G q n nc t fl fd k wd wf wa cd cf) (fun u => sW G q n nc t fl fd k wd wf (va_up wa i (va_up (wa i) 3 (fillR (wa i 3) x (y + 1) (cf j 2)))) cd cf) := by
  refine ofMV (cc := cX1_goTo) (maxL := 3) (ret := none) (by decide) rfl (Nat.le_of_ble_eq_true rfl) (fun p e s m below meth c A ls F hr hnm hH hl => ?_)
  have F : Fx G p s m _ meth c cX1_goTo 3 wsX1_goTo RX1 A := F
  have hx := F.1.1
  have hb := F.1.2.1
  have hl : lv_has ls 3 [(0, .ref (wd i 0)), (1, .ref (cd j))] := hl
  refine lv_aload_n hx hb dX1_goTo_0 rfl (lv_at hl 1 rfl) ?_
  refine rgetN (C := RX0) (T := TX0) (N := 4) (ref := RX0) (host := RX2) F in_X1_goTo_X0 hH (4 + 7 * n + j) (sW_atC hj) rfl 0 (by decide) (by decide +kernel) (fun _ h9 => h9) (v := .int (cf j 0)) rfl dX1_goTo_1 ?_
  refine lv_istore_n (lv' := [(2, .int (cf j 0)), (0, .ref (wd i 0)), (1, .ref (cd j))]) hx hb dX1_goTo_4 rfl hl (by decide) rfl (fun ls hl => ?_)
  have loop : ∀ (n9 : Nat) (k9 : Nat) (hc9 : k9 + n9 = y + 1) (hxi : x ≤ k9) (H : Heap) (locs : List Loc) (ls : Array Slot), HH G A s (sW G q n nc t fl fd k wd wf (va_up wa i (va_up (wa i) 3 (fillR (wa i 3) x k9 (cf j 2)))) cd cf) H locs → lv_has ls 3 [(2, .int (nI k9)), (0, .ref (wd i 0)), (1, .ref (cd j))] → W p l e ({ frames := 0, cells := 0, slots := 0, locals := 0 } : Room) s m [.ref (wd i 0), .ref (cd j)].toArray below meth c H locs 0 0 (EnV G A below s [.ref (wd i 0), .ref (cd j)].toArray ({ frames := 0, cells := 0, slots := 0, locals := 0 } : Room) (fun u => sW G q n nc t fl fd k wd wf (va_up wa i (va_up (wa i) 3 (fillR (wa i 3) x (y + 1) (cf j 2)))) cd cf)) (F0 m 5 ls []) := by
    intro n9
    induction n9 with
    | zero =>
      intro k9 hc9 hxi H locs ls hH hl
      refine lv_iload_n hx hb dX1_goTo_5 rfl (lv_at hl 0 rfl) ?_
      refine lv_aload_n hx hb dX1_goTo_6 rfl (lv_at hl 2 rfl) ?_
      refine rgetN (C := RX0) (T := TX0) (N := 4) (ref := RX0) (host := RX2) F in_X1_goTo_X0 hH (4 + 7 * n + j) (sW_atC hj) rfl 1 (by decide) (by decide +kernel) (fun _ h9 => h9) (v := .int (cf j 1)) rfl dX1_goTo_7 ?_
      refine lv_icmp_gt (tgt := 29) hx hb dX1_goTo_10 (by decide) (fun c_10 => ?_) (fun c_10 => absurd (by rw [hb1, show k9 = y + 1 by omega]; exact nI_lt (by omega) (by omega)) c_10)
      exact retV F hr (fun _ => 0) (by rw [show y + 1 = k9 by omega]; exact hH) (Nat.le_of_ble_eq_true rfl) (Nat.le_of_ble_eq_true rfl) dX1_goTo_29
    | succ n9 ih =>
      intro k9 hc9 hxi H locs ls hH hl
      refine lv_iload_n hx hb dX1_goTo_5 rfl (lv_at hl 0 rfl) ?_
      refine lv_aload_n hx hb dX1_goTo_6 rfl (lv_at hl 2 rfl) ?_
      refine rgetN (C := RX0) (T := TX0) (N := 4) (ref := RX0) (host := RX2) F in_X1_goTo_X0 hH (4 + 7 * n + j) (sW_atC hj) rfl 1 (by decide) (by decide +kernel) (fun _ h9 => h9) (v := .int (cf j 1)) rfl dX1_goTo_7 ?_
      refine lv_icmp_gt (tgt := 29) hx hb dX1_goTo_10 (by decide) (fun c_10 => absurd c_10 (by rw [hb1]; exact nI_nlt (by omega) (by omega))) (fun c_10 => ?_)
      refine lv_aload_n hx hb dX1_goTo_13 rfl (lv_at hl 1 rfl) ?_
      refine rget (C := RX1) (T := TX1) (N := 12) (ref := RX1) F in_X1_goTo_X1 hH (4 + 7 * i + 0) (sW_at hi (j := 0) rfl) rfl 3 (by decide) (by decide +kernel) (fun _ h9 => h9) (v := .ref (wd i 3)) rfl dX1_goTo_14 ?_
      refine lv_iload_n hx hb dX1_goTo_17 rfl (lv_at hl 0 rfl) ?_
      refine lv_aload_n hx hb dX1_goTo_18 rfl (lv_at hl 2 rfl) ?_
      refine rgetN (C := RX0) (T := TX0) (N := 4) (ref := RX0) (host := RX2) F in_X1_goTo_X0 hH (4 + 7 * n + j) (sW_atC hj) rfl 2 (by decide) (by decide +kernel) (fun _ h9 => h9) (v := .int (cf j 2)) rfl dX1_goTo_19 ?_
      refine riast F hH (4 + 7 * i + 2) (n := 201) (f := (va_up wa i (va_up (wa i) 3 (fillR (wa i 3) x k9 (cf j 2)))) i 3) (sW_at hi (j := 2) rfl) k9 rfl (by omega) (by decide) dX1_goTo_22 (fun H locs hH => ?_)
      have hH : HH G A s (sW G q n nc t fl fd k wd wf (va_up (va_up wa i (va_up (wa i) 3 (fillR (wa i 3) x k9 (cf j 2)))) i (va_up ((va_up wa i (va_up (wa i) 3 (fillR (wa i 3) x k9 (cf j 2)))) i) 3 (upd ((va_up wa i (va_up (wa i) 3 (fillR (wa i 3) x k9 (cf j 2)))) i 3) k9 (cf j 2)))) cd cf) H locs := (sW_setA (wd := wd) (wf := wf) (wa := va_up wa i (va_up (wa i) 3 (fillR (wa i 3) x k9 (cf j 2)))) hi (j := 2) (by decide) (a' := va_up ((va_up wa i (va_up (wa i) 3 (fillR (wa i 3) x k9 (cf j 2)))) i) 3 (upd ((va_up wa i (va_up (wa i) 3 (fillR (wa i 3) x k9 (cf j 2)))) i 3) k9 (cf j 2))) rfl ▸ hH)
      refine lv_iinc (v := (nI (k9 + 1))) (lv' := [(2, .int (nI (k9 + 1))), (0, .ref (wd i 0)), (1, .ref (cd j))]) hx hb dX1_goTo_23 hl (k := 0) rfl (nI_1 k9) (by decide) rfl (fun ls hl => ?_)
      refine lv_goto (tgt := 5) hx hb dX1_goTo_26 (by decide) ?_
      exact ih (k9 + 1) (by omega) (by omega) _ _ _ (by rw [← fillR_step hxi]; exact goTo_w hH) (lv_sub hl [0, 1, 2] (rfl))
  exact loop (y + 1 - x) x (by omega) (Nat.le_refl x) _ _ _ (by rw [fillR_0, va_up_id, va_up_id]; exact hH) (lv_sub hl [0, 1, 2] (by rw [hb0]; rfl))

set_option maxHeartbeats 4000000 in
set_option maxRecDepth 100000 in
theorem c_X2_enrol_1 (l : Launch) (G : Gx) (q : Nat → Nat) (n nc t : Nat) (fl fd : Int32) (k : Nat → Int32) (wd : Nat → Nat → Nat) (wf : Nat → Nat → Int32) (wa : Nat → Nat → Nat → Int32) (cd : Nat → Nat) (cf : Nat → Nat → Int32) (hn : n ≤ 8) (i : Nat) (hi : i < n) (hnc : nc ≤ 10) (j : Nat) (hj : j < nc) (x y : Nat) (hb0 : cf j 0 = nI x) (hb1 : cf j 1 = nI y) (hxy : x ≤ y) (hy : y ≤ 200) (hs : 0 < cf j 3) (hw : nI t ≤ cf j 1) (hno : ∀ z, x ≤ z → z ≤ y → wa i 3 z ≤ 0) : MI l yX2_enrol wsX2_enrol ({ frames := 2, cells := 0, slots := 0, locals := 44 } : Room) [.ref (q 0), .int (nI i), .int (nI j)] G (sW G q n nc t fl fd k wd wf wa cd cf) (fun u => sW G q n nc t fl fd k wd wf (va_up wa i (va_up (wa i) 3 (fillR (wa i 3) x (y + 1) (cf j 2)))) cd (va_up cf j (va_up (cf j) 3 ((cf j 3) - 1)))) (cf j 3 - 1) := by
  refine ofMI (cc := cX2_enrol) (maxL := 5) (ret := (some .int)) (by decide) rfl (Nat.le_of_ble_eq_true rfl) (fun p e s m below meth c A ls F hr hnm hH hl => ?_)
  have F : Fx G p s m _ meth c cX2_enrol 5 wsX2_enrol RX2 A := F
  have hx := F.1.1
  have hb := F.1.2.1
  have hl : lv_has ls 5 [(0, .ref (q 0)), (1, .int (nI i)), (2, .int (nI j))] := hl
  refine lv_aload_n hx hb dX2_enrol_0 rfl (lv_at hl 0 rfl) ?_
  refine lv_iload_n hx hb dX2_enrol_1 rfl (lv_at hl 1 rfl) ?_
  refine callVR0 (rest := []) F (c_X2_workerAt_1 l G q n nc t fl fd k wd wf wa cd cf hn i hi) gX2_enrol_X2_workerAt rfl hdX2_workerAt ⟨Nat.le_of_ble_eq_true rfl, Nat.le_of_ble_eq_true rfl⟩ hH ⟨0, 2, _, _, rfl, rfl, rfl⟩ rfl hl.1 (Nat.le_of_ble_eq_true rfl) dX2_enrol_2 ⟨Nat.le_of_ble_eq_true rfl, Nat.le_of_ble_eq_true rfl⟩ rfl (fun H locs hH => ?_)
  refine lv_astore_n (lv' := [(3, .ref (wd i 0)), (0, .ref (q 0)), (1, .int (nI i)), (2, .int (nI j))]) hx hb dX2_enrol_5 rfl hl (by decide) rfl (fun ls hl => ?_)
  refine lv_aload_n hx hb dX2_enrol_6 rfl (lv_at hl 1 rfl) ?_
  refine lv_iload_n hx hb dX2_enrol_7 rfl (lv_at hl 3 rfl) ?_
  refine callVR0 (rest := []) F (c_X2_courseAt_1 l G q n nc t fl fd k wd wf wa cd cf hnc j hj) gX2_enrol_X2_courseAt rfl hdX2_courseAt ⟨Nat.le_of_ble_eq_true rfl, Nat.le_of_ble_eq_true rfl⟩ hH ⟨0, 2, _, _, rfl, rfl, rfl⟩ rfl hl.1 (Nat.le_of_ble_eq_true rfl) dX2_enrol_8 ⟨Nat.le_of_ble_eq_true rfl, Nat.le_of_ble_eq_true rfl⟩ rfl (fun H locs hH => ?_)
  refine lv_astore (lv' := [(4, .ref (cd j)), (3, .ref (wd i 0)), (0, .ref (q 0)), (1, .int (nI i)), (2, .int (nI j))]) hx hb dX2_enrol_11 hl (by decide) rfl (fun ls hl => ?_)
  refine lv_aload hx hb dX2_enrol_13 (lv_at hl 0 rfl) ?_
  refine rgetN (C := RX0) (T := TX0) (N := 4) (ref := RX0) (host := RX2) F in_X2_enrol_X0 hH (4 + 7 * n + j) (sW_atC hj) rfl 3 (by decide) (by decide +kernel) (fun _ h9 => h9) (v := .int (cf j 3)) rfl dX2_enrol_15 ?_
  refine lv_if_le (tgt := 54) hx hb dX2_enrol_18 (by decide) (fun c_18 => absurd c_18 (i_nle hs)) (fun c_18 => ?_)
  refine lv_aload hx hb dX2_enrol_21 (lv_at hl 0 rfl) ?_
  refine rgetN (C := RX0) (T := TX0) (N := 4) (ref := RX0) (host := RX2) F in_X2_enrol_X0 hH (4 + 7 * n + j) (sW_atC hj) rfl 1 (by decide) (by decide +kernel) (fun _ h9 => h9) (v := .int (cf j 1)) rfl dX2_enrol_23 ?_
  refine lv_aload_n hx hb dX2_enrol_26 rfl (lv_at hl 2 rfl) ?_
  refine rget (C := RX2) (T := TX2) (N := 8) (ref := RX2) F in_X2_enrol_X2 hH 0 rfl rfl 5 (by decide) (by decide +kernel) (fun _ h9 => h9) (v := .int (nI t)) rfl dX2_enrol_27 ?_
  refine lv_icmp_lt (tgt := 54) hx hb dX2_enrol_30 (by decide) (fun c_30 => absurd c_30 (i_nlt hw)) (fun c_30 => ?_)
  refine lv_aload_n hx hb dX2_enrol_33 rfl (lv_at hl 1 rfl) ?_
  refine lv_aload hx hb dX2_enrol_34 (lv_at hl 0 rfl) ?_
  refine rgetN (C := RX0) (T := TX0) (N := 4) (ref := RX0) (host := RX2) F in_X2_enrol_X0 hH (4 + 7 * n + j) (sW_atC hj) rfl 0 (by decide) (by decide +kernel) (fun _ h9 => h9) (v := .int (cf j 0)) rfl dX2_enrol_36 ?_
  refine lv_aload hx hb dX2_enrol_39 (lv_at hl 0 rfl) ?_
  refine rgetN (C := RX0) (T := TX0) (N := 4) (ref := RX0) (host := RX2) F in_X2_enrol_X0 hH (4 + 7 * n + j) (sW_atC hj) rfl 1 (by decide) (by decide +kernel) (fun _ h9 => h9) (v := .int (cf j 1)) rfl dX2_enrol_41 ?_
  obtain ⟨a9, b9, -, h91, h92⟩ := sW_mid (G := G) (q := q) (n := n) (m := nc) (t := t) (fl := fl) (fd := fd) (k := k) (wd := wd) (wf := wf) (wa := wa) (cd := cd) (cf := cf) hi
  refine callVI (rest := []) F (c_X1_hasNoCourseFrom_1 l G (wd i) (wf i) (wa i) x y hxy hy hno) gX2_enrol_X1_hasNoCourseFrom rfl hdX1_hasNoCourseFrom ⟨Nat.le_of_ble_eq_true rfl, Nat.le_of_ble_eq_true rfl⟩ a9 b9 hH h91 ⟨0, 1, _, _, rfl, rfl, rfl⟩ rfl hl.1 (Nat.le_of_ble_eq_true rfl) dX2_enrol_44 ⟨Nat.le_of_ble_eq_true rfl, Nat.le_of_ble_eq_true rfl⟩ (by rw [hb0, hb1]; rfl) (fun u H locs hH => ?_)
  have hH : HH G A s (sW G q n nc t fl fd k wd wf wa cd cf) H locs := by rw [h91]; exact hH
  refine lv_if_eq (tgt := 54) hx hb dX2_enrol_47 (by decide) (fun c_47 => absurd c_47 (by decide)) (fun c_47 => ?_)
  refine lv_iconst (v := 1) hx hb dX2_enrol_50 (by decide) ?_
  refine lv_goto (tgt := 55) hx hb dX2_enrol_51 (by decide) ?_
  refine callSV0 (rest := []) F (c_X2_requireState_1 l G _) gX2_enrol_X2_requireState rfl hdX2_requireState ⟨Nat.le_of_ble_eq_true rfl, Nat.le_of_ble_eq_true rfl⟩ hH rfl hl.1 (Nat.le_of_ble_eq_true rfl) dX2_enrol_55 ⟨Nat.le_of_ble_eq_true rfl, Nat.le_of_ble_eq_true rfl⟩ rfl (fun u H locs hH => ?_)
  have hH : HH G A s (sW G q n nc t fl fd k wd wf wa cd cf) H locs := hH
  refine lv_aload_n hx hb dX2_enrol_58 rfl (lv_at hl 1 rfl) ?_
  refine lv_aload hx hb dX2_enrol_59 (lv_at hl 0 rfl) ?_
  refine callVV0 (rest := []) F (c_X1_goTo l G q n nc t fl fd k wd wf wa cd cf hn i hi hnc j hj x y hb0 hb1 hxy hy) gX2_enrol_X1_goTo rfl hdX1_goTo ⟨Nat.le_of_ble_eq_true rfl, Nat.le_of_ble_eq_true rfl⟩ hH ⟨(4 + 7 * i + 0), 1, _, _, (sW_at hi (j := 0) rfl), rfl, rfl⟩ rfl hl.1 (Nat.le_of_ble_eq_true rfl) dX2_enrol_61 ⟨Nat.le_of_ble_eq_true rfl, Nat.le_of_ble_eq_true rfl⟩ rfl (fun u H locs hH => ?_)
  have hH : HH G A s (sW G q n nc t fl fd k wd wf (va_up wa i (va_up (wa i) 3 (fillR (wa i 3) x (y + 1) (cf j 2)))) cd cf) H locs := hH
  refine lv_aload hx hb dX2_enrol_64 (lv_at hl 0 rfl) ?_
  refine lv_dup hx hb dX2_enrol_66 rfl ?_
  refine rgetN (C := RX0) (T := TX0) (N := 4) (ref := RX0) (host := RX2) F in_X2_enrol_X0 hH (4 + 7 * n + j) (sW_atC hj) rfl 3 (by decide) (by decide +kernel) (fun _ h9 => h9) (v := .int (cf j 3)) rfl dX2_enrol_67 ?_
  refine lv_iconst (v := 1) hx hb dX2_enrol_70 (by decide) ?_
  refine lv_isub hx hb dX2_enrol_71 ?_
  refine rputN (C := RX0) (T := TX0) (N := 4) (ref := RX0) (host := RX2) F in_X2_enrol_X0 tyX0 tyX0_ok nmX0 hH (4 + 7 * n + j) (sW_atC hj) rfl 3 (by decide) (by decide +kernel) (fun _ h9 => h9) rfl (v := .int ((cf j 3) - 1)) rfl rfl (Nat.le_of_ble_eq_true rfl) dX2_enrol_72 (fun H locs hH => ?_)
  have hH : HH G A s (sW G q n nc t fl fd k wd wf (va_up wa i (va_up (wa i) 3 (fillR (wa i 3) x (y + 1) (cf j 2)))) cd (va_up cf j (va_up (cf j) 3 ((cf j 3) - 1)))) H locs := (sW_setC (cd := cd) (cf := cf) hj (f' := va_up (cf j) 3 ((cf j 3) - 1)) rfl ▸ hH)
  refine lv_aload hx hb dX2_enrol_75 (lv_at hl 0 rfl) ?_
  refine rgetN (C := RX0) (T := TX0) (N := 4) (ref := RX0) (host := RX2) F in_X2_enrol_X0 hH (4 + 7 * n + j) (sW_atC hj) rfl 3 (by decide) (by decide +kernel) (fun _ h9 => h9) (v := .int ((va_up cf j (va_up (cf j) 3 ((cf j 3) - 1))) j 3)) rfl dX2_enrol_77 ?_
  exact retI F hr rfl (fun _ => 0) hH (by rw [va_up_self, va_up_self]) (Nat.le_of_ble_eq_true rfl) (Nat.le_of_ble_eq_true rfl) dX2_enrol_80

set_option maxHeartbeats 4000000 in
set_option maxRecDepth 100000 in
theorem c_X2_enrol_2 (l : Launch) (hst : l.stackTraces = false) (G : Gx) (q : Nat → Nat) (n nc t : Nat) (fl fd : Int32) (k : Nat → Int32) (wd : Nat → Nat → Nat) (wf : Nat → Nat → Int32) (wa : Nat → Nat → Nat → Int32) (cd : Nat → Nat) (cf : Nat → Nat → Int32) (hn : n ≤ 8) (i : Nat) (hi : i < n) (hnc : nc ≤ 10) (j : Nat) (hj : j < nc) (x y : Nat) (hb0 : cf j 0 = nI x) (hb1 : cf j 1 = nI y) (hxy : x ≤ y) (hy : y ≤ 200) (hz : cf j 3 ≤ 0 ∨ (0 < cf j 3 ∧ cf j 1 < nI t) ∨ (0 < cf j 3 ∧ nI t ≤ cf j 1 ∧ ∃ z, x ≤ z ∧ z ≤ y ∧ ¬ wa i 3 z ≤ 0)) : MX l yX2_enrol wsX2_enrol ({ frames := 7, cells := 1, slots := 6, locals := 110 } : Room) [.ref (q 0), .int (nI i), .int (nI j)] G (sW G q n nc t fl fd k wd wf wa cd cf) "java/lang/IllegalStateException" := by
  refine ofMX (cc := cX2_enrol) (maxL := 5) (ret := (some .int)) (by decide) rfl (Nat.le_of_ble_eq_true rfl) (fun p e s m below meth c A ls F htb hH hl => ?_)
  have F : Fx G p s m _ meth c cX2_enrol 5 wsX2_enrol RX2 A := F
  have hx := F.1.1
  have hb := F.1.2.1
  have hl : lv_has ls 5 [(0, .ref (q 0)), (1, .int (nI i)), (2, .int (nI j))] := hl
  refine lv_aload_n hx hb dX2_enrol_0 rfl (lv_at hl 0 rfl) ?_
  refine lv_iload_n hx hb dX2_enrol_1 rfl (lv_at hl 1 rfl) ?_
  refine callVR0 (rest := []) F (c_X2_workerAt_1 l G q n nc t fl fd k wd wf wa cd cf hn i hi) gX2_enrol_X2_workerAt rfl hdX2_workerAt ⟨Nat.le_of_ble_eq_true rfl, Nat.le_of_ble_eq_true rfl⟩ hH ⟨0, 2, _, _, rfl, rfl, rfl⟩ rfl hl.1 (Nat.le_of_ble_eq_true rfl) dX2_enrol_2 ⟨Nat.le_of_ble_eq_true rfl, Nat.le_of_ble_eq_true rfl⟩ rfl (fun H locs hH => ?_)
  refine lv_astore_n (lv' := [(3, .ref (wd i 0)), (0, .ref (q 0)), (1, .int (nI i)), (2, .int (nI j))]) hx hb dX2_enrol_5 rfl hl (by decide) rfl (fun ls hl => ?_)
  refine lv_aload_n hx hb dX2_enrol_6 rfl (lv_at hl 1 rfl) ?_
  refine lv_iload_n hx hb dX2_enrol_7 rfl (lv_at hl 3 rfl) ?_
  refine callVR0 (rest := []) F (c_X2_courseAt_1 l G q n nc t fl fd k wd wf wa cd cf hnc j hj) gX2_enrol_X2_courseAt rfl hdX2_courseAt ⟨Nat.le_of_ble_eq_true rfl, Nat.le_of_ble_eq_true rfl⟩ hH ⟨0, 2, _, _, rfl, rfl, rfl⟩ rfl hl.1 (Nat.le_of_ble_eq_true rfl) dX2_enrol_8 ⟨Nat.le_of_ble_eq_true rfl, Nat.le_of_ble_eq_true rfl⟩ rfl (fun H locs hH => ?_)
  rcases hz with hz | ⟨hs, hw⟩ | ⟨hs, hw, hex⟩
  · refine lv_astore (lv' := [(4, .ref (cd j)), (3, .ref (wd i 0)), (0, .ref (q 0)), (1, .int (nI i)), (2, .int (nI j))]) hx hb dX2_enrol_11 hl (by decide) rfl (fun ls hl => ?_)
    refine lv_aload hx hb dX2_enrol_13 (lv_at hl 0 rfl) ?_
    refine rgetN (C := RX0) (T := TX0) (N := 4) (ref := RX0) (host := RX2) F in_X2_enrol_X0 hH (4 + 7 * n + j) (sW_atC hj) rfl 3 (by decide) (by decide +kernel) (fun _ h9 => h9) (v := .int (cf j 3)) rfl dX2_enrol_15 ?_
    refine lv_if_le (tgt := 54) hx hb dX2_enrol_18 (by decide) (fun c_18 => ?_) (fun c_18 => absurd hz c_18)
    refine lv_iconst (v := 0) hx hb dX2_enrol_54 (by decide) ?_
    exact callSX0 (rest := []) F (c_X2_requireState_0 l hst G _) gX2_enrol_X2_requireState rfl hdX2_requireState ⟨Nat.le_of_ble_eq_true rfl, Nat.le_of_ble_eq_true rfl⟩ hH rfl hl.1 (Nat.le_of_ble_eq_true rfl) dX2_enrol_55 ⟨Nat.le_of_ble_eq_true rfl, Nat.le_of_ble_eq_true rfl⟩ rfl htb (Nat.le_of_ble_eq_true rfl) (Nat.le_of_ble_eq_true rfl)
  · refine lv_astore (lv' := [(4, .ref (cd j)), (3, .ref (wd i 0)), (0, .ref (q 0)), (1, .int (nI i)), (2, .int (nI j))]) hx hb dX2_enrol_11 hl (by decide) rfl (fun ls hl => ?_)
    refine lv_aload hx hb dX2_enrol_13 (lv_at hl 0 rfl) ?_
    refine rgetN (C := RX0) (T := TX0) (N := 4) (ref := RX0) (host := RX2) F in_X2_enrol_X0 hH (4 + 7 * n + j) (sW_atC hj) rfl 3 (by decide) (by decide +kernel) (fun _ h9 => h9) (v := .int (cf j 3)) rfl dX2_enrol_15 ?_
    refine lv_if_le (tgt := 54) hx hb dX2_enrol_18 (by decide) (fun c_18 => absurd c_18 (i_nle hs)) (fun c_18 => ?_)
    refine lv_aload hx hb dX2_enrol_21 (lv_at hl 0 rfl) ?_
    refine rgetN (C := RX0) (T := TX0) (N := 4) (ref := RX0) (host := RX2) F in_X2_enrol_X0 hH (4 + 7 * n + j) (sW_atC hj) rfl 1 (by decide) (by decide +kernel) (fun _ h9 => h9) (v := .int (cf j 1)) rfl dX2_enrol_23 ?_
    refine lv_aload_n hx hb dX2_enrol_26 rfl (lv_at hl 2 rfl) ?_
    refine rget (C := RX2) (T := TX2) (N := 8) (ref := RX2) F in_X2_enrol_X2 hH 0 rfl rfl 5 (by decide) (by decide +kernel) (fun _ h9 => h9) (v := .int (nI t)) rfl dX2_enrol_27 ?_
    refine lv_icmp_lt (tgt := 54) hx hb dX2_enrol_30 (by decide) (fun c_30 => ?_) (fun c_30 => absurd hw c_30)
    refine lv_iconst (v := 0) hx hb dX2_enrol_54 (by decide) ?_
    exact callSX0 (rest := []) F (c_X2_requireState_0 l hst G _) gX2_enrol_X2_requireState rfl hdX2_requireState ⟨Nat.le_of_ble_eq_true rfl, Nat.le_of_ble_eq_true rfl⟩ hH rfl hl.1 (Nat.le_of_ble_eq_true rfl) dX2_enrol_55 ⟨Nat.le_of_ble_eq_true rfl, Nat.le_of_ble_eq_true rfl⟩ rfl htb (Nat.le_of_ble_eq_true rfl) (Nat.le_of_ble_eq_true rfl)
  · refine lv_astore (lv' := [(4, .ref (cd j)), (3, .ref (wd i 0)), (0, .ref (q 0)), (1, .int (nI i)), (2, .int (nI j))]) hx hb dX2_enrol_11 hl (by decide) rfl (fun ls hl => ?_)
    refine lv_aload hx hb dX2_enrol_13 (lv_at hl 0 rfl) ?_
    refine rgetN (C := RX0) (T := TX0) (N := 4) (ref := RX0) (host := RX2) F in_X2_enrol_X0 hH (4 + 7 * n + j) (sW_atC hj) rfl 3 (by decide) (by decide +kernel) (fun _ h9 => h9) (v := .int (cf j 3)) rfl dX2_enrol_15 ?_
    refine lv_if_le (tgt := 54) hx hb dX2_enrol_18 (by decide) (fun c_18 => absurd c_18 (i_nle hs)) (fun c_18 => ?_)
    refine lv_aload hx hb dX2_enrol_21 (lv_at hl 0 rfl) ?_
    refine rgetN (C := RX0) (T := TX0) (N := 4) (ref := RX0) (host := RX2) F in_X2_enrol_X0 hH (4 + 7 * n + j) (sW_atC hj) rfl 1 (by decide) (by decide +kernel) (fun _ h9 => h9) (v := .int (cf j 1)) rfl dX2_enrol_23 ?_
    refine lv_aload_n hx hb dX2_enrol_26 rfl (lv_at hl 2 rfl) ?_
    refine rget (C := RX2) (T := TX2) (N := 8) (ref := RX2) F in_X2_enrol_X2 hH 0 rfl rfl 5 (by decide) (by decide +kernel) (fun _ h9 => h9) (v := .int (nI t)) rfl dX2_enrol_27 ?_
    refine lv_icmp_lt (tgt := 54) hx hb dX2_enrol_30 (by decide) (fun c_30 => absurd c_30 (i_nlt hw)) (fun c_30 => ?_)
    refine lv_aload_n hx hb dX2_enrol_33 rfl (lv_at hl 1 rfl) ?_
    refine lv_aload hx hb dX2_enrol_34 (lv_at hl 0 rfl) ?_
    refine rgetN (C := RX0) (T := TX0) (N := 4) (ref := RX0) (host := RX2) F in_X2_enrol_X0 hH (4 + 7 * n + j) (sW_atC hj) rfl 0 (by decide) (by decide +kernel) (fun _ h9 => h9) (v := .int (cf j 0)) rfl dX2_enrol_36 ?_
    refine lv_aload hx hb dX2_enrol_39 (lv_at hl 0 rfl) ?_
    refine rgetN (C := RX0) (T := TX0) (N := 4) (ref := RX0) (host := RX2) F in_X2_enrol_X0 hH (4 + 7 * n + j) (sW_atC hj) rfl 1 (by decide) (by decide +kernel) (fun _ h9 => h9) (v := .int (cf j 1)) rfl dX2_enrol_41 ?_
    obtain ⟨a9, b9, -, h91, h92⟩ := sW_mid (G := G) (q := q) (n := n) (m := nc) (t := t) (fl := fl) (fd := fd) (k := k) (wd := wd) (wf := wf) (wa := wa) (cd := cd) (cf := cf) hi
    refine callVI (rest := []) F (c_X1_hasNoCourseFrom_0 l G (wd i) (wf i) (wa i) x y hxy hy hex) gX2_enrol_X1_hasNoCourseFrom rfl hdX1_hasNoCourseFrom ⟨Nat.le_of_ble_eq_true rfl, Nat.le_of_ble_eq_true rfl⟩ a9 b9 hH h91 ⟨0, 1, _, _, rfl, rfl, rfl⟩ rfl hl.1 (Nat.le_of_ble_eq_true rfl) dX2_enrol_44 ⟨Nat.le_of_ble_eq_true rfl, Nat.le_of_ble_eq_true rfl⟩ (by rw [hb0, hb1]; rfl) (fun u H locs hH => ?_)
    have hH : HH G A s (sW G q n nc t fl fd k wd wf wa cd cf) H locs := by rw [h91]; exact hH
    refine lv_if_eq (tgt := 54) hx hb dX2_enrol_47 (by decide) (fun c_47 => ?_) (fun c_47 => absurd rfl c_47)
    refine lv_iconst (v := 0) hx hb dX2_enrol_54 (by decide) ?_
    exact callSX0 (rest := []) F (c_X2_requireState_0 l hst G _) gX2_enrol_X2_requireState rfl hdX2_requireState ⟨Nat.le_of_ble_eq_true rfl, Nat.le_of_ble_eq_true rfl⟩ hH rfl hl.1 (Nat.le_of_ble_eq_true rfl) dX2_enrol_55 ⟨Nat.le_of_ble_eq_true rfl, Nat.le_of_ble_eq_true rfl⟩ rfl htb (Nat.le_of_ble_eq_true rfl) (Nat.le_of_ble_eq_true rfl)

set_option maxHeartbeats 4000000 in
set_option maxRecDepth 100000 in
theorem c_X2_enrol_0 (l : Launch) (hst : l.stackTraces = false) (G : Gx) (q : Nat → Nat) (n nc t : Nat) (fl fd : Int32) (k : Nat → Int32) (wd : Nat → Nat → Nat) (wf : Nat → Nat → Int32) (wa : Nat → Nat → Nat → Int32) (cd : Nat → Nat) (cf : Nat → Nat → Int32) (hn : n ≤ 8) (v : Int32) (h : v < 0 ∨ nI n ≤ v) (w : Int32) : MX l yX2_enrol wsX2_enrol ({ frames := 7, cells := 1, slots := 6, locals := 112 } : Room) [.ref (q 0), .int v, .int w] G (sW G q n nc t fl fd k wd wf wa cd cf) "java/lang/IndexOutOfBoundsException" := by
  refine ofMX (cc := cX2_enrol) (maxL := 5) (ret := (some .int)) (by decide) rfl (Nat.le_of_ble_eq_true rfl) (fun p e s m below meth c A ls F htb hH hl => ?_)
  have F : Fx G p s m _ meth c cX2_enrol 5 wsX2_enrol RX2 A := F
  have hx := F.1.1
  have hb := F.1.2.1
  have hl : lv_has ls 5 [(0, .ref (q 0)), (1, .int v), (2, .int w)] := hl
  refine lv_aload_n hx hb dX2_enrol_0 rfl (lv_at hl 0 rfl) ?_
  refine lv_iload_n hx hb dX2_enrol_1 rfl (lv_at hl 1 rfl) ?_
  exact callVX0 (rest := []) F (c_X2_workerAt_0 l hst G q n nc t fl fd k wd wf wa cd cf hn v h) gX2_enrol_X2_workerAt rfl hdX2_workerAt ⟨Nat.le_of_ble_eq_true rfl, Nat.le_of_ble_eq_true rfl⟩ hH ⟨0, 2, _, _, rfl, rfl, rfl⟩ rfl hl.1 (Nat.le_of_ble_eq_true rfl) dX2_enrol_2 ⟨Nat.le_of_ble_eq_true rfl, Nat.le_of_ble_eq_true rfl⟩ rfl htb (Nat.le_of_ble_eq_true rfl) (Nat.le_of_ble_eq_true rfl)

set_option maxHeartbeats 4000000 in
set_option maxRecDepth 100000 in
theorem c_X2_enrol_00 (l : Launch) (hst : l.stackTraces = false) (G : Gx) (q : Nat → Nat) (n nc t : Nat) (fl fd : Int32) (k : Nat → Int32) (wd : Nat → Nat → Nat) (wf : Nat → Nat → Int32) (wa : Nat → Nat → Nat → Int32) (cd : Nat → Nat) (cf : Nat → Nat → Int32) (hn : n ≤ 8) (i : Nat) (hi : i < n) (hnc : nc ≤ 10) (w : Int32) (h : w < 0 ∨ nI nc ≤ w) : MX l yX2_enrol wsX2_enrol ({ frames := 7, cells := 1, slots := 6, locals := 112 } : Room) [.ref (q 0), .int (nI i), .int w] G (sW G q n nc t fl fd k wd wf wa cd cf) "java/lang/IndexOutOfBoundsException" := by
  refine ofMX (cc := cX2_enrol) (maxL := 5) (ret := (some .int)) (by decide) rfl (Nat.le_of_ble_eq_true rfl) (fun p e s m below meth c A ls F htb hH hl => ?_)
  have F : Fx G p s m _ meth c cX2_enrol 5 wsX2_enrol RX2 A := F
  have hx := F.1.1
  have hb := F.1.2.1
  have hl : lv_has ls 5 [(0, .ref (q 0)), (1, .int (nI i)), (2, .int w)] := hl
  refine lv_aload_n hx hb dX2_enrol_0 rfl (lv_at hl 0 rfl) ?_
  refine lv_iload_n hx hb dX2_enrol_1 rfl (lv_at hl 1 rfl) ?_
  refine callVR0 (rest := []) F (c_X2_workerAt_1 l G q n nc t fl fd k wd wf wa cd cf hn i hi) gX2_enrol_X2_workerAt rfl hdX2_workerAt ⟨Nat.le_of_ble_eq_true rfl, Nat.le_of_ble_eq_true rfl⟩ hH ⟨0, 2, _, _, rfl, rfl, rfl⟩ rfl hl.1 (Nat.le_of_ble_eq_true rfl) dX2_enrol_2 ⟨Nat.le_of_ble_eq_true rfl, Nat.le_of_ble_eq_true rfl⟩ rfl (fun H locs hH => ?_)
  refine lv_astore_n (lv' := [(3, .ref (wd i 0)), (0, .ref (q 0)), (1, .int (nI i)), (2, .int w)]) hx hb dX2_enrol_5 rfl hl (by decide) rfl (fun ls hl => ?_)
  refine lv_aload_n hx hb dX2_enrol_6 rfl (lv_at hl 1 rfl) ?_
  refine lv_iload_n hx hb dX2_enrol_7 rfl (lv_at hl 3 rfl) ?_
  exact callVX0 (rest := []) F (c_X2_courseAt_0 l hst G q n nc t fl fd k wd wf wa cd cf hnc w h) gX2_enrol_X2_courseAt rfl hdX2_courseAt ⟨Nat.le_of_ble_eq_true rfl, Nat.le_of_ble_eq_true rfl⟩ hH ⟨0, 2, _, _, rfl, rfl, rfl⟩ rfl hl.1 (Nat.le_of_ble_eq_true rfl) dX2_enrol_8 ⟨Nat.le_of_ble_eq_true rfl, Nat.le_of_ble_eq_true rfl⟩ rfl htb (Nat.le_of_ble_eq_true rfl) (Nat.le_of_ble_eq_true rfl)

set_option maxHeartbeats 4000000 in
set_option maxRecDepth 100000 in
theorem c_X2_payCurrentWeek (l : Launch) (G : Gx) (q : Nat → Nat) (n nc t : Nat) (fl fd : Int32) (k : Nat → Int32) (wd : Nat → Nat → Nat) (wf : Nat → Nat → Int32) (wa : Nat → Nat → Nat → Int32) (cd : Nat → Nat) (cf : Nat → Nat → Int32) (hn : n ≤ 8) (ht : t < 201) : MI l yX2_payCurrentWeek wsX2_payCurrentWeek ({ frames := 3, cells := 0, slots := 0, locals := 68 } : Room) [.ref (q 0)] G (sW G q n nc t fl fd k wd wf wa cd cf) (fun u => sW G q n nc t fl fd k wd (payWS fl t wf wa n).1 (payWS fl t wf wa n).2 cd cf) (payWT fl t wf wa n) := by
  refine ofMI (cc := cX2_payCurrentWeek) (maxL := 6) (ret := (some .int)) (by decide) rfl (Nat.le_of_ble_eq_true rfl) (fun p e s m below meth c A ls F hr hnm hH hl => ?_)
  have F : Fx G p s m _ meth c cX2_payCurrentWeek 6 wsX2_payCurrentWeek RX2 A := F
  have hx := F.1.1
  have hb := F.1.2.1
  have hl : lv_has ls 6 [(0, .ref (q 0))] := hl
  refine lv_iconst (v := 0) hx hb dX2_payCurrentWeek_0 (by decide) ?_
  refine lv_istore_n (lv' := [(1, .int 0), (0, .ref (q 0))]) hx hb dX2_payCurrentWeek_1 rfl hl (by decide) rfl (fun ls hl => ?_)
  refine lv_aload_n hx hb dX2_payCurrentWeek_2 rfl (lv_at hl 1 rfl) ?_
  refine rget (C := RX2) (T := TX2) (N := 8) (ref := RX2) F in_X2_payCurrentWeek_X2 hH 0 rfl rfl 0 (by decide) (by decide +kernel) (fun _ h9 => h9) (v := .ref (q 1)) rfl dX2_payCurrentWeek_3 ?_
  refine lv_astore_n (lv' := [(2, .ref (q 1)), (1, .int 0), (0, .ref (q 0))]) hx hb dX2_payCurrentWeek_6 rfl hl (by decide) rfl (fun ls hl => ?_)
  refine lv_aload_n hx hb dX2_payCurrentWeek_7 rfl (lv_at hl 0 rfl) ?_
  refine ralen F hH 1 2 rfl rfl (v := nI 8) rfl dX2_payCurrentWeek_8 ?_
  refine lv_istore_n (lv' := [(3, .int (nI 8)), (2, .ref (q 1)), (1, .int 0), (0, .ref (q 0))]) hx hb dX2_payCurrentWeek_9 rfl hl (by decide) rfl (fun ls hl => ?_)
  refine lv_iconst (v := 0) hx hb dX2_payCurrentWeek_10 (by decide) ?_
  refine lv_istore (lv' := [(4, .int 0), (3, .int (nI 8)), (2, .ref (q 1)), (1, .int 0), (0, .ref (q 0))]) hx hb dX2_payCurrentWeek_11 hl (by decide) rfl (fun ls hl => ?_)
  have loop : ∀ (n9 : Nat) (i : Nat) (z : Nat) (hc9 : i + n9 = 8) (hz : (z = i ∧ i ≤ n) ∨ (z = n ∧ n ≤ i)) (H : Heap) (locs : List Loc) (ls : Array Slot), HH G A s (sW G q n nc t fl fd k wd ((payWS fl t wf wa z).1) ((payWS fl t wf wa z).2) cd cf) H locs → lv_has ls 6 [(4, .int (nI i)), (1, .int (payWT fl t wf wa z)), (2, .ref (q 1)), (3, .int (nI 8)), (0, .ref (q 0))] → W p l e ({ frames := 3, cells := 0, slots := 0, locals := 68 } : Room) s m [.ref (q 0)].toArray below meth c H locs 0 0 (EnI G A below s [.ref (q 0)].toArray ({ frames := 3, cells := 0, slots := 0, locals := 68 } : Room) (fun u => sW G q n nc t fl fd k wd (payWS fl t wf wa n).1 (payWS fl t wf wa n).2 cd cf) (payWT fl t wf wa n)) (F0 m 13 ls []) := by
    intro n9
    induction n9 with
    | zero =>
      intro i z hc9 hz H locs ls hH hl
      refine lv_iload hx hb dX2_payCurrentWeek_13 (lv_at hl 0 rfl) ?_
      refine lv_iload_n hx hb dX2_payCurrentWeek_15 rfl (lv_at hl 3 rfl) ?_
      refine lv_icmp_ge (tgt := 52) hx hb dX2_payCurrentWeek_16 (by decide) (fun c_16 => ?_) (fun c_16 => absurd (nI_le (by omega) (by omega)) c_16)
      refine lv_iload_n hx hb dX2_payCurrentWeek_52 rfl (lv_at hl 1 rfl) ?_
      exact retI F hr rfl (fun _ => 0) (by have e9 : z = n := (by omega); subst e9; exact hH) (by rw [show z = n by omega]) (Nat.le_of_ble_eq_true rfl) (Nat.le_of_ble_eq_true rfl) dX2_payCurrentWeek_53
    | succ n9 ih =>
      intro i z hc9 hz H locs ls hH hl
      refine lv_iload hx hb dX2_payCurrentWeek_13 (lv_at hl 0 rfl) ?_
      refine lv_iload_n hx hb dX2_payCurrentWeek_15 rfl (lv_at hl 3 rfl) ?_
      refine lv_icmp_ge (tgt := 52) hx hb dX2_payCurrentWeek_16 (by decide) (fun c_16 => absurd c_16 (nI_ge (by omega) (by omega))) (fun c_16 => ?_)
      by_cases hin : i < n
      · have hzi : z = i := by omega
        have hzn : z < n := by omega
        refine lv_aload_n hx hb dX2_payCurrentWeek_19 rfl (lv_at hl 2 rfl) ?_
        refine lv_iload hx hb dX2_payCurrentWeek_20 (lv_at hl 0 rfl) ?_
        refine raald F hH 1 2 rfl rfl i rfl (by omega) (by decide) (v := .ref (wd z 0)) (by rw [hzi]; exact rfT_in hin) dX2_payCurrentWeek_22 ?_
        refine lv_astore (lv' := [(5, .ref (wd z 0)), (4, .int (nI i)), (1, .int (payWT fl t wf wa z)), (2, .ref (q 1)), (3, .int (nI 8)), (0, .ref (q 0))]) hx hb dX2_payCurrentWeek_23 hl (by decide) rfl (fun ls hl => ?_)
        refine lv_aload hx hb dX2_payCurrentWeek_25 (lv_at hl 0 rfl) ?_
        refine lv_ifnull hx hb dX2_payCurrentWeek_27 ?_
        refine lv_iload_n hx hb dX2_payCurrentWeek_30 rfl (lv_at hl 2 rfl) ?_
        refine lv_aload hx hb dX2_payCurrentWeek_31 (lv_at hl 0 rfl) ?_
        refine lv_aload_n hx hb dX2_payCurrentWeek_33 rfl (lv_at hl 5 rfl) ?_
        refine rget (C := RX2) (T := TX2) (N := 8) (ref := RX2) F in_X2_payCurrentWeek_X2 hH 0 rfl rfl 5 (by decide) (by decide +kernel) (fun _ h9 => h9) (v := .int (nI t)) rfl dX2_payCurrentWeek_34 ?_
        refine lv_aload_n hx hb dX2_payCurrentWeek_37 rfl (lv_at hl 5 rfl) ?_
        refine rget (C := RX2) (T := TX2) (N := 8) (ref := RX2) F in_X2_payCurrentWeek_X2 hH 0 rfl rfl 6 (by decide) (by decide +kernel) (fun _ h9 => h9) (v := .int fl) rfl dX2_payCurrentWeek_38 ?_
        obtain ⟨a9, b9, -, h91, h92⟩ := sW_mid (G := G) (q := q) (n := n) (m := nc) (t := t) (fl := fl) (fd := fd) (k := k) (wd := wd) (wf := (payWS fl t wf wa z).1) (wa := (payWS fl t wf wa z).2) (cd := cd) (cf := cf) hzn
        refine callVI (rest := [.int (payWT fl t wf wa z)]) F (c_X1_payFor l G (wd z) ((payWS fl t wf wa z).1 z) ((payWS fl t wf wa z).2 z) t (by omega) fl) gX2_payCurrentWeek_X1_payFor rfl hdX1_payFor ⟨Nat.le_of_ble_eq_true rfl, Nat.le_of_ble_eq_true rfl⟩ a9 b9 hH h91 ⟨0, 1, _, _, rfl, rfl, rfl⟩ rfl hl.1 (Nat.le_of_ble_eq_true rfl) dX2_payCurrentWeek_41 ⟨Nat.le_of_ble_eq_true rfl, Nat.le_of_ble_eq_true rfl⟩ rfl (fun u H locs hH => ?_)
        have hH : HH G A s (sW G q n nc t fl fd k wd (va_up ((payWS fl t wf wa z).1) z (pF ((payWS fl t wf wa z).1 z) ((payWS fl t wf wa z).2 z) t fl)) (va_up ((payWS fl t wf wa z).2) z (pA ((payWS fl t wf wa z).1 z) ((payWS fl t wf wa z).2 z) t fl)) cd cf) H locs := by rw [h92]; exact hH
        refine lv_iadd hx hb dX2_payCurrentWeek_44 ?_
        refine lv_istore_n (lv' := [(1, .int ((payWT fl t wf wa z) + (pR ((payWS fl t wf wa z).1 z) ((payWS fl t wf wa z).2 z) t fl))), (5, .ref (wd z 0)), (4, .int (nI i)), (2, .ref (q 1)), (3, .int (nI 8)), (0, .ref (q 0))]) hx hb dX2_payCurrentWeek_45 rfl hl (by decide) rfl (fun ls hl => ?_)
        refine lv_iinc (v := (nI (i + 1))) (lv' := [(4, .int (nI (i + 1))), (1, .int ((payWT fl t wf wa z) + (pR ((payWS fl t wf wa z).1 z) ((payWS fl t wf wa z).2 z) t fl))), (5, .ref (wd z 0)), (2, .ref (q 1)), (3, .int (nI 8)), (0, .ref (q 0))]) hx hb dX2_payCurrentWeek_46 hl (k := 2) rfl (nI_1 i) (by decide) rfl (fun ls hl => ?_)
        refine lv_goto (tgt := 13) hx hb dX2_payCurrentWeek_49 (by decide) ?_
        exact ih (i + 1) (z + 1) (by omega) (by omega) _ _ _ hH (lv_sub hl [0, 1, 3, 4, 5] (rfl))
      · refine lv_aload_n hx hb dX2_payCurrentWeek_19 rfl (lv_at hl 2 rfl) ?_
        refine lv_iload hx hb dX2_payCurrentWeek_20 (lv_at hl 0 rfl) ?_
        refine raald F hH 1 2 rfl rfl i rfl (by omega) (by decide) (v := .null) (rfT_out hin) dX2_payCurrentWeek_22 ?_
        refine lv_astoreN (lv' := [(5, .null), (4, .int (nI i)), (1, .int (payWT fl t wf wa z)), (2, .ref (q 1)), (3, .int (nI 8)), (0, .ref (q 0))]) hx hb dX2_payCurrentWeek_23 hl (by decide) rfl (fun ls hl => ?_)
        refine lv_aloadN hx hb dX2_payCurrentWeek_25 (lv_at hl 0 rfl) ?_
        refine lv_ifnullN (tgt := 46) hx hb dX2_payCurrentWeek_27 (by decide) ?_
        refine lv_iinc (v := (nI (i + 1))) (lv' := [(4, .int (nI (i + 1))), (5, .null), (1, .int (payWT fl t wf wa z)), (2, .ref (q 1)), (3, .int (nI 8)), (0, .ref (q 0))]) hx hb dX2_payCurrentWeek_46 hl (k := 1) rfl (nI_1 i) (by decide) rfl (fun ls hl => ?_)
        refine lv_goto (tgt := 13) hx hb dX2_payCurrentWeek_49 (by decide) ?_
        exact ih (i + 1) z (by omega) (by omega) _ _ _ hH (lv_sub hl [0, 2, 3, 4, 5] (rfl))
  exact loop 8 0 0 (by omega) (by omega) _ _ _ hH (lv_sub hl [0, 3, 2, 1, 4] (rfl))

set_option maxHeartbeats 4000000 in
set_option maxRecDepth 100000 in
theorem c_X2_pass_1 (l : Launch) (G : Gx) (q : Nat → Nat) (n nc t : Nat) (fl fd : Int32) (k : Nat → Int32) (wd : Nat → Nat → Nat) (wf : Nat → Nat → Int32) (wa : Nat → Nat → Nat → Int32) (cd : Nat → Nat) (cf : Nat → Nat → Int32) (hn : n ≤ 8) (w : Nat) (hw1 : 1 ≤ w) (hw2 : w ≤ 60) (hw : t + w ≤ 201) : MI l yX2_pass wsX2_pass ({ frames := 4, cells := 0, slots := 0, locals := 93 } : Room) [.ref (q 0), .int (nI w)] G (sW G q n nc t fl fd k wd wf wa cd cf) (fun u => sW G q n nc (t + w) fl fd k wd (passWS fl t n wf wa w).1 (passWS fl t n wf wa w).2 cd cf) (passWT fl t n wf wa w) := by
  refine ofMI (cc := cX2_pass) (maxL := 4) (ret := (some .int)) (by decide) rfl (Nat.le_of_ble_eq_true rfl) (fun p e s m below meth c A ls F hr hnm hH hl => ?_)
  have F : Fx G p s m _ meth c cX2_pass 4 wsX2_pass RX2 A := F
  have hx := F.1.1
  have hb := F.1.2.1
  have hl : lv_has ls 4 [(0, .ref (q 0)), (1, .int (nI w))] := hl
  refine lv_iload_n hx hb dX2_pass_0 rfl (lv_at hl 1 rfl) ?_
  refine lv_iconst (v := 1) hx hb dX2_pass_1 (by decide) ?_
  refine lv_bipush (v := 60) hx hb dX2_pass_2 (by decide) ?_
  refine callSI0 (rest := []) F (c_X2_isWithin_1 l G _ (nI w) 1 60 (nI_le (a := 1) (b := w) hw1 (by omega)) (nI_le (a := w) (b := 60) hw2 (by decide))) gX2_pass_X2_isWithin rfl hdX2_isWithin ⟨Nat.le_of_ble_eq_true rfl, Nat.le_of_ble_eq_true rfl⟩ hH rfl hl.1 (Nat.le_of_ble_eq_true rfl) dX2_pass_4 ⟨Nat.le_of_ble_eq_true rfl, Nat.le_of_ble_eq_true rfl⟩ rfl (fun u H locs hH => ?_)
  have hH : HH G A s (sW G q n nc t fl fd k wd wf wa cd cf) H locs := hH
  refine callSV0 (rest := []) F (c_X2_requireArgument_1 l G _) gX2_pass_X2_requireArgument rfl hdX2_requireArgument ⟨Nat.le_of_ble_eq_true rfl, Nat.le_of_ble_eq_true rfl⟩ hH rfl hl.1 (Nat.le_of_ble_eq_true rfl) dX2_pass_7 ⟨Nat.le_of_ble_eq_true rfl, Nat.le_of_ble_eq_true rfl⟩ rfl (fun u H locs hH => ?_)
  have hH : HH G A s (sW G q n nc t fl fd k wd wf wa cd cf) H locs := hH
  refine lv_aload_n hx hb dX2_pass_10 rfl (lv_at hl 0 rfl) ?_
  refine rget (C := RX2) (T := TX2) (N := 8) (ref := RX2) F in_X2_pass_X2 hH 0 rfl rfl 5 (by decide) (by decide +kernel) (fun _ h9 => h9) (v := .int (nI t)) rfl dX2_pass_11 ?_
  refine lv_iload_n hx hb dX2_pass_14 rfl (lv_at hl 1 rfl) ?_
  refine lv_iadd hx hb dX2_pass_15 ?_
  refine lv_sipush (v := 201) hx hb dX2_pass_16 (by decide) ?_
  refine lv_icmp_gt (tgt := 26) hx hb dX2_pass_19 (by decide) (fun c_19 => absurd c_19 (by rw [nI_add]; exact nI_nlt (a := 201) (b := t + w) hw (by decide))) (fun c_19 => ?_)
  refine lv_iconst (v := 1) hx hb dX2_pass_22 (by decide) ?_
  refine lv_goto (tgt := 27) hx hb dX2_pass_23 (by decide) ?_
  refine callSV0 (rest := []) F (c_X2_requireState_1 l G _) gX2_pass_X2_requireState rfl hdX2_requireState ⟨Nat.le_of_ble_eq_true rfl, Nat.le_of_ble_eq_true rfl⟩ hH rfl hl.1 (Nat.le_of_ble_eq_true rfl) dX2_pass_27 ⟨Nat.le_of_ble_eq_true rfl, Nat.le_of_ble_eq_true rfl⟩ rfl (fun u H locs hH => ?_)
  have hH : HH G A s (sW G q n nc t fl fd k wd wf wa cd cf) H locs := hH
  refine lv_iconst (v := 0) hx hb dX2_pass_30 (by decide) ?_
  refine lv_istore_n (lv' := [(2, .int 0), (0, .ref (q 0)), (1, .int (nI w))]) hx hb dX2_pass_31 rfl hl (by decide) rfl (fun ls hl => ?_)
  refine lv_iconst (v := 0) hx hb dX2_pass_32 (by decide) ?_
  refine lv_istore_n (lv' := [(3, .int 0), (2, .int 0), (0, .ref (q 0)), (1, .int (nI w))]) hx hb dX2_pass_33 rfl hl (by decide) rfl (fun ls hl => ?_)
  have loop : ∀ (n9 : Nat) (i : Nat) (hc9 : i + n9 = w)  (H : Heap) (locs : List Loc) (ls : Array Slot), HH G A s (sW G q n nc (t + i) fl fd k wd ((passWS fl t n wf wa i).1) ((passWS fl t n wf wa i).2) cd cf) H locs → lv_has ls 4 [(3, .int (nI i)), (2, .int (passWT fl t n wf wa i)), (0, .ref (q 0)), (1, .int (nI w))] → W p l e ({ frames := 4, cells := 0, slots := 0, locals := 93 } : Room) s m [.ref (q 0), .int (nI w)].toArray below meth c H locs 0 0 (EnI G A below s [.ref (q 0), .int (nI w)].toArray ({ frames := 4, cells := 0, slots := 0, locals := 93 } : Room) (fun u => sW G q n nc (t + w) fl fd k wd (passWS fl t n wf wa w).1 (passWS fl t n wf wa w).2 cd cf) (passWT fl t n wf wa w)) (F0 m 34 ls []) := by
    intro n9
    induction n9 with
    | zero =>
      intro i hc9  H locs ls hH hl
      refine lv_iload_n hx hb dX2_pass_34 rfl (lv_at hl 0 rfl) ?_
      refine lv_iload_n hx hb dX2_pass_35 rfl (lv_at hl 3 rfl) ?_
      refine lv_icmp_ge (tgt := 62) hx hb dX2_pass_36 (by decide) (fun c_36 => ?_) (fun c_36 => absurd (nI_le (by omega) (by omega)) c_36)
      refine lv_iload_n hx hb dX2_pass_62 rfl (lv_at hl 1 rfl) ?_
      exact retI F hr rfl (fun _ => 0) (by rw [show w = i by omega]; exact hH) (by rw [show i = w by omega]) (Nat.le_of_ble_eq_true rfl) (Nat.le_of_ble_eq_true rfl) dX2_pass_63
    | succ n9 ih =>
      intro i hc9  H locs ls hH hl
      refine lv_iload_n hx hb dX2_pass_34 rfl (lv_at hl 0 rfl) ?_
      refine lv_iload_n hx hb dX2_pass_35 rfl (lv_at hl 3 rfl) ?_
      refine lv_icmp_ge (tgt := 62) hx hb dX2_pass_36 (by decide) (fun c_36 => absurd c_36 (nI_ge (by omega) (by omega))) (fun c_36 => ?_)
      refine lv_iload_n hx hb dX2_pass_39 rfl (lv_at hl 1 rfl) ?_
      refine lv_aload_n hx hb dX2_pass_40 rfl (lv_at hl 2 rfl) ?_
      refine callVI0 (rest := [.int (passWT fl t n wf wa i)]) F (c_X2_payCurrentWeek l G q n nc (t + i) fl fd k wd (passWS fl t n wf wa i).1 (passWS fl t n wf wa i).2 cd cf hn (by omega)) gX2_pass_X2_payCurrentWeek rfl hdX2_payCurrentWeek ⟨Nat.le_of_ble_eq_true rfl, Nat.le_of_ble_eq_true rfl⟩ hH ⟨0, 2, _, _, rfl, rfl, rfl⟩ rfl hl.1 (Nat.le_of_ble_eq_true rfl) dX2_pass_41 ⟨Nat.le_of_ble_eq_true rfl, Nat.le_of_ble_eq_true rfl⟩ rfl (fun u H locs hH => ?_)
      have hH : HH G A s (sW G q n nc (t + i) fl fd k wd ((payWS fl (t + i) (passWS fl t n wf wa i).1 (passWS fl t n wf wa i).2 n).1) ((payWS fl (t + i) (passWS fl t n wf wa i).1 (passWS fl t n wf wa i).2 n).2) cd cf) H locs := hH
      refine lv_iadd hx hb dX2_pass_44 ?_
      refine lv_istore_n (lv' := [(2, .int ((passWT fl t n wf wa i) + (payWT fl (t + i) (passWS fl t n wf wa i).1 (passWS fl t n wf wa i).2 n))), (3, .int (nI i)), (0, .ref (q 0)), (1, .int (nI w))]) hx hb dX2_pass_45 rfl hl (by decide) rfl (fun ls hl => ?_)
      refine lv_aload_n hx hb dX2_pass_46 rfl (lv_at hl 2 rfl) ?_
      refine lv_dup hx hb dX2_pass_47 rfl ?_
      refine rget (C := RX2) (T := TX2) (N := 8) (ref := RX2) F in_X2_pass_X2 hH 0 rfl rfl 5 (by decide) (by decide +kernel) (fun _ h9 => h9) (v := .int (nI (t + i))) rfl dX2_pass_48 ?_
      refine lv_iconst (v := 1) hx hb dX2_pass_51 (by decide) ?_
      refine lv_iadd hx hb dX2_pass_52 ?_
      refine rput (C := RX2) (T := TX2) (N := 8) (ref := RX2) F in_X2_pass_X2 tyX2 tyX2_ok nmX2 hH 0 rfl rfl 5 (by decide) (by decide +kernel) (fun _ h9 => h9) rfl (v := .int ((nI (t + i)) + 1)) rfl rfl (Nat.le_of_ble_eq_true rfl) dX2_pass_53 (fun H locs hH => ?_)
      have hH : HH G A s (sW G q n nc ((t + i) + 1) fl fd k wd ((payWS fl (t + i) (passWS fl t n wf wa i).1 (passWS fl t n wf wa i).2 n).1) ((payWS fl (t + i) (passWS fl t n wf wa i).1 (passWS fl t n wf wa i).2 n).2) cd cf) H locs := (by unfold sW; rw [← nI_1 (t + i)]; exact hH)
      refine lv_iinc (v := (nI (i + 1))) (lv' := [(3, .int (nI (i + 1))), (2, .int ((passWT fl t n wf wa i) + (payWT fl (t + i) (passWS fl t n wf wa i).1 (passWS fl t n wf wa i).2 n))), (0, .ref (q 0)), (1, .int (nI w))]) hx hb dX2_pass_56 hl (k := 1) rfl (nI_1 i) (by decide) rfl (fun ls hl => ?_)
      refine lv_goto (tgt := 34) hx hb dX2_pass_59 (by decide) ?_
      exact ih (i + 1) (by omega) _ _ _ hH (lv_sub hl [0, 1, 2, 3] (rfl))
  exact loop w 0 (by omega) _ _ _ hH (lv_sub hl [0, 1, 2, 3] (rfl))

set_option maxHeartbeats 4000000 in
set_option maxRecDepth 100000 in
theorem c_X2_pass_3 (l : Launch) (hst : l.stackTraces = false) (G : Gx) (q : Nat → Nat) (n nc t : Nat) (fl fd : Int32) (k : Nat → Int32) (wd : Nat → Nat → Nat) (wf : Nat → Nat → Int32) (wa : Nat → Nat → Nat → Int32) (cd : Nat → Nat) (cf : Nat → Nat → Int32) (ht : t ≤ 201) (w : Nat) (hw1 : 1 ≤ w) (hw2 : w ≤ 60) (hw : 201 < t + w) : MX l yX2_pass wsX2_pass ({ frames := 7, cells := 1, slots := 6, locals := 110 } : Room) [.ref (q 0), .int (nI w)] G (sW G q n nc t fl fd k wd wf wa cd cf) "java/lang/IllegalStateException" := by
  refine ofMX (cc := cX2_pass) (maxL := 4) (ret := (some .int)) (by decide) rfl (Nat.le_of_ble_eq_true rfl) (fun p e s m below meth c A ls F htb hH hl => ?_)
  have F : Fx G p s m _ meth c cX2_pass 4 wsX2_pass RX2 A := F
  have hx := F.1.1
  have hb := F.1.2.1
  have hl : lv_has ls 4 [(0, .ref (q 0)), (1, .int (nI w))] := hl
  refine lv_iload_n hx hb dX2_pass_0 rfl (lv_at hl 1 rfl) ?_
  refine lv_iconst (v := 1) hx hb dX2_pass_1 (by decide) ?_
  refine lv_bipush (v := 60) hx hb dX2_pass_2 (by decide) ?_
  refine callSI0 (rest := []) F (c_X2_isWithin_1 l G _ (nI w) 1 60 (nI_le (a := 1) (b := w) hw1 (by omega)) (nI_le (a := w) (b := 60) hw2 (by decide))) gX2_pass_X2_isWithin rfl hdX2_isWithin ⟨Nat.le_of_ble_eq_true rfl, Nat.le_of_ble_eq_true rfl⟩ hH rfl hl.1 (Nat.le_of_ble_eq_true rfl) dX2_pass_4 ⟨Nat.le_of_ble_eq_true rfl, Nat.le_of_ble_eq_true rfl⟩ rfl (fun u H locs hH => ?_)
  have hH : HH G A s (sW G q n nc t fl fd k wd wf wa cd cf) H locs := hH
  refine callSV0 (rest := []) F (c_X2_requireArgument_1 l G _) gX2_pass_X2_requireArgument rfl hdX2_requireArgument ⟨Nat.le_of_ble_eq_true rfl, Nat.le_of_ble_eq_true rfl⟩ hH rfl hl.1 (Nat.le_of_ble_eq_true rfl) dX2_pass_7 ⟨Nat.le_of_ble_eq_true rfl, Nat.le_of_ble_eq_true rfl⟩ rfl (fun u H locs hH => ?_)
  have hH : HH G A s (sW G q n nc t fl fd k wd wf wa cd cf) H locs := hH
  refine lv_aload_n hx hb dX2_pass_10 rfl (lv_at hl 0 rfl) ?_
  refine rget (C := RX2) (T := TX2) (N := 8) (ref := RX2) F in_X2_pass_X2 hH 0 rfl rfl 5 (by decide) (by decide +kernel) (fun _ h9 => h9) (v := .int (nI t)) rfl dX2_pass_11 ?_
  refine lv_iload_n hx hb dX2_pass_14 rfl (lv_at hl 1 rfl) ?_
  refine lv_iadd hx hb dX2_pass_15 ?_
  refine lv_sipush (v := 201) hx hb dX2_pass_16 (by decide) ?_
  refine lv_icmp_gt (tgt := 26) hx hb dX2_pass_19 (by decide) (fun c_19 => ?_) (fun c_19 => absurd (by rw [nI_add]; exact nI_lt (a := 201) (b := t + w) hw (by omega)) c_19)
  refine lv_iconst (v := 0) hx hb dX2_pass_26 (by decide) ?_
  exact callSX0 (rest := []) F (c_X2_requireState_0 l hst G _) gX2_pass_X2_requireState rfl hdX2_requireState ⟨Nat.le_of_ble_eq_true rfl, Nat.le_of_ble_eq_true rfl⟩ hH rfl hl.1 (Nat.le_of_ble_eq_true rfl) dX2_pass_27 ⟨Nat.le_of_ble_eq_true rfl, Nat.le_of_ble_eq_true rfl⟩ rfl htb (Nat.le_of_ble_eq_true rfl) (Nat.le_of_ble_eq_true rfl)

set_option maxHeartbeats 4000000 in
set_option maxRecDepth 100000 in
theorem c_X2_pass_2 (l : Launch) (hst : l.stackTraces = false) (G : Gx) (q : Nat → Nat) (n nc t : Nat) (fl fd : Int32) (k : Nat → Int32) (wd : Nat → Nat → Nat) (wf : Nat → Nat → Int32) (wa : Nat → Nat → Nat → Int32) (cd : Nat → Nat) (cf : Nat → Nat → Int32) (v : Int32) (h : v < 1 ∨ 60 < v) : MX l yX2_pass wsX2_pass ({ frames := 7, cells := 1, slots := 6, locals := 110 } : Room) [.ref (q 0), .int v] G (sW G q n nc t fl fd k wd wf wa cd cf) "java/lang/IllegalArgumentException" := by
  refine ofMX (cc := cX2_pass) (maxL := 4) (ret := (some .int)) (by decide) rfl (Nat.le_of_ble_eq_true rfl) (fun p e s m below meth c A ls F htb hH hl => ?_)
  have F : Fx G p s m _ meth c cX2_pass 4 wsX2_pass RX2 A := F
  have hx := F.1.1
  have hb := F.1.2.1
  have hl : lv_has ls 4 [(0, .ref (q 0)), (1, .int v)] := hl
  refine lv_iload_n hx hb dX2_pass_0 rfl (lv_at hl 1 rfl) ?_
  refine lv_iconst (v := 1) hx hb dX2_pass_1 (by decide) ?_
  refine lv_bipush (v := 60) hx hb dX2_pass_2 (by decide) ?_
  refine callSI0 (rest := []) F (c_X2_isWithin_0 l G _ v 1 60 h) gX2_pass_X2_isWithin rfl hdX2_isWithin ⟨Nat.le_of_ble_eq_true rfl, Nat.le_of_ble_eq_true rfl⟩ hH rfl hl.1 (Nat.le_of_ble_eq_true rfl) dX2_pass_4 ⟨Nat.le_of_ble_eq_true rfl, Nat.le_of_ble_eq_true rfl⟩ rfl (fun u H locs hH => ?_)
  have hH : HH G A s (sW G q n nc t fl fd k wd wf wa cd cf) H locs := hH
  exact callSX0 (rest := []) F (c_X2_requireArgument_0 l hst G _) gX2_pass_X2_requireArgument rfl hdX2_requireArgument ⟨Nat.le_of_ble_eq_true rfl, Nat.le_of_ble_eq_true rfl⟩ hH rfl hl.1 (Nat.le_of_ble_eq_true rfl) dX2_pass_7 ⟨Nat.le_of_ble_eq_true rfl, Nat.le_of_ble_eq_true rfl⟩ rfl htb (Nat.le_of_ble_eq_true rfl) (Nat.le_of_ble_eq_true rfl)

set_option maxHeartbeats 4000000 in
set_option maxRecDepth 100000 in
theorem c_X2_check_1 (l : Launch) (G : Gx) (q : Nat → Nat) (n nc t : Nat) (fl fd : Int32) (k : Nat → Int32) (wd : Nat → Nat → Nat) (wf : Nat → Nat → Int32) (wa : Nat → Nat → Nat → Int32) (cd : Nat → Nat) (cf : Nat → Nat → Int32) (hn : n ≤ 8) (ht : t ≤ 201) (j : Nat) (hj : j < t) (hk : k j = 0) : MI l yX2_check wsX2_check ({ frames := 2, cells := 0, slots := 0, locals := 43 } : Room) [.ref (q 0), .int (nI j)] G (sW G q n nc t fl fd k wd wf wa cd cf) (fun u => sW G q n nc t fl (ckD wa j fd n) (upd k j 1) wd (ckF wf wa j n) wa cd cf) (ckC wa j n) := by
  refine ofMI (cc := cX2_check) (maxL := 7) (ret := (some .int)) (by decide) rfl (Nat.le_of_ble_eq_true rfl) (fun p e s m below meth c A ls F hr hnm hH hl => ?_)
  have F : Fx G p s m _ meth c cX2_check 7 wsX2_check RX2 A := F
  have hx := F.1.1
  have hb := F.1.2.1
  have hl : lv_has ls 7 [(0, .ref (q 0)), (1, .int (nI j))] := hl
  refine lv_aload_n hx hb dX2_check_0 rfl (lv_at hl 0 rfl) ?_
  refine lv_iload_n hx hb dX2_check_1 rfl (lv_at hl 1 rfl) ?_
  refine callVI0 (rest := []) F (c_X2_hasPassed_1 l G q n nc t fl fd k wd wf wa cd cf (by omega) j hj) gX2_check_X2_hasPassed rfl hdX2_hasPassed ⟨Nat.le_of_ble_eq_true rfl, Nat.le_of_ble_eq_true rfl⟩ hH ⟨0, 2, _, _, rfl, rfl, rfl⟩ rfl hl.1 (Nat.le_of_ble_eq_true rfl) dX2_check_2 ⟨Nat.le_of_ble_eq_true rfl, Nat.le_of_ble_eq_true rfl⟩ rfl (fun u H locs hH => ?_)
  have hH : HH G A s (sW G q n nc t fl fd k wd wf wa cd cf) H locs := hH
  refine callSV0 (rest := []) F (c_X2_requireArgument_1 l G _) gX2_check_X2_requireArgument rfl hdX2_requireArgument ⟨Nat.le_of_ble_eq_true rfl, Nat.le_of_ble_eq_true rfl⟩ hH rfl hl.1 (Nat.le_of_ble_eq_true rfl) dX2_check_5 ⟨Nat.le_of_ble_eq_true rfl, Nat.le_of_ble_eq_true rfl⟩ rfl (fun u H locs hH => ?_)
  have hH : HH G A s (sW G q n nc t fl fd k wd wf wa cd cf) H locs := hH
  refine lv_aload_n hx hb dX2_check_8 rfl (lv_at hl 0 rfl) ?_
  refine rget (C := RX2) (T := TX2) (N := 8) (ref := RX2) F in_X2_check_X2 hH 0 rfl rfl 2 (by decide) (by decide +kernel) (fun _ h9 => h9) (v := .ref (q 3)) rfl dX2_check_9 ?_
  refine lv_iload_n hx hb dX2_check_12 rfl (lv_at hl 1 rfl) ?_
  refine rzald F hH 3 (n := 201) (f := k) rfl j rfl (by omega) (by decide) dX2_check_13 ?_
  refine lv_if_ne (tgt := 21) hx hb dX2_check_14 (by decide) (fun c_14 => absurd hk c_14) (fun c_14 => ?_)
  refine lv_iconst (v := 1) hx hb dX2_check_17 (by decide) ?_
  refine lv_goto (tgt := 22) hx hb dX2_check_18 (by decide) ?_
  refine callSV0 (rest := []) F (c_X2_requireState_1 l G _) gX2_check_X2_requireState rfl hdX2_requireState ⟨Nat.le_of_ble_eq_true rfl, Nat.le_of_ble_eq_true rfl⟩ hH rfl hl.1 (Nat.le_of_ble_eq_true rfl) dX2_check_22 ⟨Nat.le_of_ble_eq_true rfl, Nat.le_of_ble_eq_true rfl⟩ rfl (fun u H locs hH => ?_)
  have hH : HH G A s (sW G q n nc t fl fd k wd wf wa cd cf) H locs := hH
  refine lv_aload_n hx hb dX2_check_25 rfl (lv_at hl 0 rfl) ?_
  refine rget (C := RX2) (T := TX2) (N := 8) (ref := RX2) F in_X2_check_X2 hH 0 rfl rfl 2 (by decide) (by decide +kernel) (fun _ h9 => h9) (v := .ref (q 3)) rfl dX2_check_26 ?_
  refine lv_iload_n hx hb dX2_check_29 rfl (lv_at hl 1 rfl) ?_
  refine lv_iconst (v := 1) hx hb dX2_check_30 (by decide) ?_
  refine rzast F hH 3 (n := 201) (f := k) rfl j rfl (by omega) (by decide) rfl dX2_check_31 (fun H locs hH => ?_)
  have hH : HH G A s (sW G q n nc t fl fd (upd k j 1) wd wf wa cd cf) H locs := hH
  refine lv_iconst (v := 0) hx hb dX2_check_32 (by decide) ?_
  refine lv_istore_n (lv' := [(2, .int 0), (0, .ref (q 0)), (1, .int (nI j))]) hx hb dX2_check_33 rfl hl (by decide) rfl (fun ls hl => ?_)
  refine lv_aload_n hx hb dX2_check_34 rfl (lv_at hl 1 rfl) ?_
  refine rget (C := RX2) (T := TX2) (N := 8) (ref := RX2) F in_X2_check_X2 hH 0 rfl rfl 0 (by decide) (by decide +kernel) (fun _ h9 => h9) (v := .ref (q 1)) rfl dX2_check_35 ?_
  refine lv_astore_n (lv' := [(3, .ref (q 1)), (2, .int 0), (0, .ref (q 0)), (1, .int (nI j))]) hx hb dX2_check_38 rfl hl (by decide) rfl (fun ls hl => ?_)
  refine lv_aload_n hx hb dX2_check_39 rfl (lv_at hl 0 rfl) ?_
  refine ralen F hH 1 2 rfl rfl (v := nI 8) rfl dX2_check_40 ?_
  refine lv_istore (lv' := [(4, .int (nI 8)), (3, .ref (q 1)), (2, .int 0), (0, .ref (q 0)), (1, .int (nI j))]) hx hb dX2_check_41 hl (by decide) rfl (fun ls hl => ?_)
  refine lv_iconst (v := 0) hx hb dX2_check_43 (by decide) ?_
  refine lv_istore (lv' := [(5, .int 0), (4, .int (nI 8)), (3, .ref (q 1)), (2, .int 0), (0, .ref (q 0)), (1, .int (nI j))]) hx hb dX2_check_44 hl (by decide) rfl (fun ls hl => ?_)
  have loop : ∀ (n9 : Nat) (i : Nat) (z : Nat) (hc9 : i + n9 = 8) (hz : (z = i ∧ i ≤ n) ∨ (z = n ∧ n ≤ i)) (H : Heap) (locs : List Loc) (ls : Array Slot), HH G A s (sW G q n nc t fl (ckD wa j fd z) (upd k j 1) wd (ckF wf wa j z) wa cd cf) H locs → lv_has ls 7 [(5, .int (nI i)), (2, .int (ckC wa j z)), (3, .ref (q 1)), (4, .int (nI 8)), (0, .ref (q 0)), (1, .int (nI j))] → W p l e ({ frames := 2, cells := 0, slots := 0, locals := 43 } : Room) s m [.ref (q 0), .int (nI j)].toArray below meth c H locs 0 0 (EnI G A below s [.ref (q 0), .int (nI j)].toArray ({ frames := 2, cells := 0, slots := 0, locals := 43 } : Room) (fun u => sW G q n nc t fl (ckD wa j fd n) (upd k j 1) wd (ckF wf wa j n) wa cd cf) (ckC wa j n)) (F0 m 46 ls []) := by
    intro n9
    induction n9 with
    | zero =>
      intro i z hc9 hz H locs ls hH hl
      refine lv_iload hx hb dX2_check_46 (lv_at hl 0 rfl) ?_
      refine lv_iload hx hb dX2_check_48 (lv_at hl 3 rfl) ?_
      refine lv_icmp_ge (tgt := 89) hx hb dX2_check_50 (by decide) (fun c_50 => ?_) (fun c_50 => absurd (nI_le (by omega) (by omega)) c_50)
      refine lv_iload_n hx hb dX2_check_89 rfl (lv_at hl 1 rfl) ?_
      exact retI F hr rfl (fun _ => 0) (by have e9 : z = n := (by omega); subst e9; exact hH) (by rw [show z = n by omega]) (Nat.le_of_ble_eq_true rfl) (Nat.le_of_ble_eq_true rfl) dX2_check_90
    | succ n9 ih =>
      intro i z hc9 hz H locs ls hH hl
      refine lv_iload hx hb dX2_check_46 (lv_at hl 0 rfl) ?_
      refine lv_iload hx hb dX2_check_48 (lv_at hl 3 rfl) ?_
      refine lv_icmp_ge (tgt := 89) hx hb dX2_check_50 (by decide) (fun c_50 => absurd c_50 (nI_ge (by omega) (by omega))) (fun c_50 => ?_)
      by_cases hin : i < n
      · have hzi : z = i := by omega
        have hzn : z < n := by omega
        refine lv_aload_n hx hb dX2_check_53 rfl (lv_at hl 2 rfl) ?_
        refine lv_iload hx hb dX2_check_54 (lv_at hl 0 rfl) ?_
        refine raald F hH 1 2 rfl rfl i rfl (by omega) (by decide) (v := .ref (wd z 0)) (by rw [hzi]; exact rfT_in hin) dX2_check_56 ?_
        refine lv_astore (lv' := [(6, .ref (wd z 0)), (5, .int (nI i)), (2, .int (ckC wa j z)), (3, .ref (q 1)), (4, .int (nI 8)), (0, .ref (q 0)), (1, .int (nI j))]) hx hb dX2_check_57 hl (by decide) rfl (fun ls hl => ?_)
        refine lv_aload hx hb dX2_check_59 (lv_at hl 0 rfl) ?_
        refine lv_ifnull hx hb dX2_check_61 ?_
        refine lv_aload hx hb dX2_check_64 (lv_at hl 0 rfl) ?_
        refine lv_iload_n hx hb dX2_check_66 rfl (lv_at hl 6 rfl) ?_
        obtain ⟨a9, b9, -, h91, h92⟩ := sW_mid (G := G) (q := q) (n := n) (m := nc) (t := t) (fl := fl) (fd := (ckD wa j fd z)) (k := (upd k j 1)) (wd := wd) (wf := (ckF wf wa j z)) (wa := wa) (cd := cd) (cf := cf) hzn
        refine callVI (rest := []) F (c_X1_hasWorkedTooMuch l G (wd z) (ckF wf wa j z z) (wa z) j (by omega)) gX2_check_X1_hasWorkedTooMuch rfl hdX1_hasWorkedTooMuch ⟨Nat.le_of_ble_eq_true rfl, Nat.le_of_ble_eq_true rfl⟩ a9 b9 hH h91 ⟨0, 1, _, _, rfl, rfl, rfl⟩ rfl hl.1 (Nat.le_of_ble_eq_true rfl) dX2_check_67 ⟨Nat.le_of_ble_eq_true rfl, Nat.le_of_ble_eq_true rfl⟩ rfl (fun u H locs hH => ?_)
        have hH : HH G A s (sW G q n nc t fl (ckD wa j fd z) (upd k j 1) wd (ckF wf wa j z) wa cd cf) H locs := by rw [h91]; exact hH
        by_cases hb9 : muchB (wa z 2 j) (wa z 6 j) (wa z 5 j) = 0
        · refine lv_if_eq (tgt := 83) hx hb dX2_check_70 (by decide) (fun c_70 => ?_) (fun c_70 => absurd hb9 c_70)
          refine lv_iinc (v := (nI (i + 1))) (lv' := [(5, .int (nI (i + 1))), (6, .ref (wd z 0)), (2, .int (ckC wa j z)), (3, .ref (q 1)), (4, .int (nI 8)), (0, .ref (q 0)), (1, .int (nI j))]) hx hb dX2_check_83 hl (k := 1) rfl (nI_1 i) (by decide) rfl (fun ls hl => ?_)
          refine lv_goto (tgt := 46) hx hb dX2_check_86 (by decide) ?_
          exact ih (i + 1) (z + 1) (by omega) (by omega) _ _ _ (by rw [(ck_0 (wf := wf) (fd := fd) hb9).1, (ck_0 (wf := wf) (fd := fd) hb9).2.1]; exact hH) (lv_sub hl [0, 2, 3, 4, 5, 6] (by rw [(ck_0 (wf := wf) (fd := fd) hb9).2.2]; rfl))
        · refine lv_if_eq (tgt := 83) hx hb dX2_check_70 (by decide) (fun c_70 => absurd c_70 hb9) (fun c_70 => ?_)
          by_cases hm : wa z 7 j = 0
          · refine lv_aload_n hx hb dX2_check_73 rfl (lv_at hl 5 rfl) ?_
            refine lv_aload hx hb dX2_check_74 (lv_at hl 0 rfl) ?_
            refine lv_iload_n hx hb dX2_check_76 rfl (lv_at hl 6 rfl) ?_
            refine callVV0 (rest := []) F (c_X2_chargeBack_n l G q n nc t fl (ckD wa j fd z) (upd k j 1) wd (ckF wf wa j z) wa cd cf hn z hzn j (by omega) hm) gX2_check_X2_chargeBack rfl hdX2_chargeBack ⟨Nat.le_of_ble_eq_true rfl, Nat.le_of_ble_eq_true rfl⟩ hH ⟨0, 2, _, _, rfl, rfl, rfl⟩ rfl hl.1 (Nat.le_of_ble_eq_true rfl) dX2_check_77 ⟨Nat.le_of_ble_eq_true rfl, Nat.le_of_ble_eq_true rfl⟩ rfl (fun u H locs hH => ?_)
            have hH : HH G A s (sW G q n nc t fl (ckD wa j fd z + (wa z 5 j - wa z 5 j / 2)) (upd k j 1) wd (va_up (ckF wf wa j z) z (va_up (ckF wf wa j z z) 11 (ckF wf wa j z z 11 + wa z 5 j / 2))) wa cd cf) H locs := hH
            refine lv_iinc (v := ((ckC wa j z) + 1)) (lv' := [(2, .int ((ckC wa j z) + 1)), (6, .ref (wd z 0)), (5, .int (nI i)), (3, .ref (q 1)), (4, .int (nI 8)), (0, .ref (q 0)), (1, .int (nI j))]) hx hb dX2_check_80 hl (k := 2) rfl rfl (by decide) rfl (fun ls hl => ?_)
            refine lv_iinc (v := (nI (i + 1))) (lv' := [(5, .int (nI (i + 1))), (2, .int ((ckC wa j z) + 1)), (6, .ref (wd z 0)), (3, .ref (q 1)), (4, .int (nI 8)), (0, .ref (q 0)), (1, .int (nI j))]) hx hb dX2_check_83 hl (k := 2) rfl (nI_1 i) (by decide) rfl (fun ls hl => ?_)
            refine lv_goto (tgt := 46) hx hb dX2_check_86 (by decide) ?_
            exact ih (i + 1) (z + 1) (by omega) (by omega) _ _ _ (by rw [(ck_n (wf := wf) (fd := fd) hb9 hm).1, (ck_n (wf := wf) (fd := fd) hb9 hm).2.1]; exact hH) (lv_sub hl [0, 1, 3, 4, 5, 6] (by rw [(ck_n (wf := wf) (fd := fd) hb9 hm).2.2]; rfl))
          · refine lv_aload_n hx hb dX2_check_73 rfl (lv_at hl 5 rfl) ?_
            refine lv_aload hx hb dX2_check_74 (lv_at hl 0 rfl) ?_
            refine lv_iload_n hx hb dX2_check_76 rfl (lv_at hl 6 rfl) ?_
            refine callVV0 (rest := []) F (c_X2_chargeBack_m l G q n nc t fl (ckD wa j fd z) (upd k j 1) wd (ckF wf wa j z) wa cd cf hn z hzn j (by omega) hm) gX2_check_X2_chargeBack rfl hdX2_chargeBack ⟨Nat.le_of_ble_eq_true rfl, Nat.le_of_ble_eq_true rfl⟩ hH ⟨0, 2, _, _, rfl, rfl, rfl⟩ rfl hl.1 (Nat.le_of_ble_eq_true rfl) dX2_check_77 ⟨Nat.le_of_ble_eq_true rfl, Nat.le_of_ble_eq_true rfl⟩ rfl (fun u H locs hH => ?_)
            have hH : HH G A s (sW G q n nc t fl (ckD wa j fd z + (wa z 5 j + wa z 5 j * 10 / 100)) (upd k j 1) wd (ckF wf wa j z) wa cd cf) H locs := hH
            refine lv_iinc (v := ((ckC wa j z) + 1)) (lv' := [(2, .int ((ckC wa j z) + 1)), (6, .ref (wd z 0)), (5, .int (nI i)), (3, .ref (q 1)), (4, .int (nI 8)), (0, .ref (q 0)), (1, .int (nI j))]) hx hb dX2_check_80 hl (k := 2) rfl rfl (by decide) rfl (fun ls hl => ?_)
            refine lv_iinc (v := (nI (i + 1))) (lv' := [(5, .int (nI (i + 1))), (2, .int ((ckC wa j z) + 1)), (6, .ref (wd z 0)), (3, .ref (q 1)), (4, .int (nI 8)), (0, .ref (q 0)), (1, .int (nI j))]) hx hb dX2_check_83 hl (k := 2) rfl (nI_1 i) (by decide) rfl (fun ls hl => ?_)
            refine lv_goto (tgt := 46) hx hb dX2_check_86 (by decide) ?_
            exact ih (i + 1) (z + 1) (by omega) (by omega) _ _ _ (by rw [(ck_m (wf := wf) (fd := fd) hb9 hm).1, (ck_m (wf := wf) (fd := fd) hb9 hm).2.1]; exact hH) (lv_sub hl [0, 1, 3, 4, 5, 6] (by rw [(ck_m (wf := wf) (fd := fd) hb9 hm).2.2]; rfl))
      · refine lv_aload_n hx hb dX2_check_53 rfl (lv_at hl 2 rfl) ?_
        refine lv_iload hx hb dX2_check_54 (lv_at hl 0 rfl) ?_
        refine raald F hH 1 2 rfl rfl i rfl (by omega) (by decide) (v := .null) (rfT_out hin) dX2_check_56 ?_
        refine lv_astoreN (lv' := [(6, .null), (5, .int (nI i)), (2, .int (ckC wa j z)), (3, .ref (q 1)), (4, .int (nI 8)), (0, .ref (q 0)), (1, .int (nI j))]) hx hb dX2_check_57 hl (by decide) rfl (fun ls hl => ?_)
        refine lv_aloadN hx hb dX2_check_59 (lv_at hl 0 rfl) ?_
        refine lv_ifnullN (tgt := 83) hx hb dX2_check_61 (by decide) ?_
        refine lv_iinc (v := (nI (i + 1))) (lv' := [(5, .int (nI (i + 1))), (6, .null), (2, .int (ckC wa j z)), (3, .ref (q 1)), (4, .int (nI 8)), (0, .ref (q 0)), (1, .int (nI j))]) hx hb dX2_check_83 hl (k := 1) rfl (nI_1 i) (by decide) rfl (fun ls hl => ?_)
        refine lv_goto (tgt := 46) hx hb dX2_check_86 (by decide) ?_
        exact ih (i + 1) z (by omega) (by omega) _ _ _ hH (lv_sub hl [0, 2, 3, 4, 5, 6] (rfl))
  exact loop 8 0 0 (by omega) (by omega) _ _ _ hH (lv_sub hl [0, 3, 2, 1, 4, 5] (rfl))

set_option maxHeartbeats 4000000 in
set_option maxRecDepth 100000 in
theorem c_X2_check_3 (l : Launch) (hst : l.stackTraces = false) (G : Gx) (q : Nat → Nat) (n nc t : Nat) (fl fd : Int32) (k : Nat → Int32) (wd : Nat → Nat → Nat) (wf : Nat → Nat → Int32) (wa : Nat → Nat → Nat → Int32) (cd : Nat → Nat) (cf : Nat → Nat → Int32) (ht : t ≤ 201) (j : Nat) (hj : j < t) (hk : ¬ k j = 0) : MX l yX2_check wsX2_check ({ frames := 7, cells := 1, slots := 6, locals := 110 } : Room) [.ref (q 0), .int (nI j)] G (sW G q n nc t fl fd k wd wf wa cd cf) "java/lang/IllegalStateException" := by
  refine ofMX (cc := cX2_check) (maxL := 7) (ret := (some .int)) (by decide) rfl (Nat.le_of_ble_eq_true rfl) (fun p e s m below meth c A ls F htb hH hl => ?_)
  have F : Fx G p s m _ meth c cX2_check 7 wsX2_check RX2 A := F
  have hx := F.1.1
  have hb := F.1.2.1
  have hl : lv_has ls 7 [(0, .ref (q 0)), (1, .int (nI j))] := hl
  refine lv_aload_n hx hb dX2_check_0 rfl (lv_at hl 0 rfl) ?_
  refine lv_iload_n hx hb dX2_check_1 rfl (lv_at hl 1 rfl) ?_
  refine callVI0 (rest := []) F (c_X2_hasPassed_1 l G q n nc t fl fd k wd wf wa cd cf (by omega) j hj) gX2_check_X2_hasPassed rfl hdX2_hasPassed ⟨Nat.le_of_ble_eq_true rfl, Nat.le_of_ble_eq_true rfl⟩ hH ⟨0, 2, _, _, rfl, rfl, rfl⟩ rfl hl.1 (Nat.le_of_ble_eq_true rfl) dX2_check_2 ⟨Nat.le_of_ble_eq_true rfl, Nat.le_of_ble_eq_true rfl⟩ rfl (fun u H locs hH => ?_)
  have hH : HH G A s (sW G q n nc t fl fd k wd wf wa cd cf) H locs := hH
  refine callSV0 (rest := []) F (c_X2_requireArgument_1 l G _) gX2_check_X2_requireArgument rfl hdX2_requireArgument ⟨Nat.le_of_ble_eq_true rfl, Nat.le_of_ble_eq_true rfl⟩ hH rfl hl.1 (Nat.le_of_ble_eq_true rfl) dX2_check_5 ⟨Nat.le_of_ble_eq_true rfl, Nat.le_of_ble_eq_true rfl⟩ rfl (fun u H locs hH => ?_)
  have hH : HH G A s (sW G q n nc t fl fd k wd wf wa cd cf) H locs := hH
  refine lv_aload_n hx hb dX2_check_8 rfl (lv_at hl 0 rfl) ?_
  refine rget (C := RX2) (T := TX2) (N := 8) (ref := RX2) F in_X2_check_X2 hH 0 rfl rfl 2 (by decide) (by decide +kernel) (fun _ h9 => h9) (v := .ref (q 3)) rfl dX2_check_9 ?_
  refine lv_iload_n hx hb dX2_check_12 rfl (lv_at hl 1 rfl) ?_
  refine rzald F hH 3 (n := 201) (f := k) rfl j rfl (by omega) (by decide) dX2_check_13 ?_
  refine lv_if_ne (tgt := 21) hx hb dX2_check_14 (by decide) (fun c_14 => ?_) (fun c_14 => absurd c_14 hk)
  refine lv_iconst (v := 0) hx hb dX2_check_21 (by decide) ?_
  exact callSX0 (rest := []) F (c_X2_requireState_0 l hst G _) gX2_check_X2_requireState rfl hdX2_requireState ⟨Nat.le_of_ble_eq_true rfl, Nat.le_of_ble_eq_true rfl⟩ hH rfl hl.1 (Nat.le_of_ble_eq_true rfl) dX2_check_22 ⟨Nat.le_of_ble_eq_true rfl, Nat.le_of_ble_eq_true rfl⟩ rfl htb (Nat.le_of_ble_eq_true rfl) (Nat.le_of_ble_eq_true rfl)

set_option maxHeartbeats 4000000 in
set_option maxRecDepth 100000 in
theorem c_X2_check_2 (l : Launch) (hst : l.stackTraces = false) (G : Gx) (q : Nat → Nat) (n nc t : Nat) (fl fd : Int32) (k : Nat → Int32) (wd : Nat → Nat → Nat) (wf : Nat → Nat → Int32) (wa : Nat → Nat → Nat → Int32) (cd : Nat → Nat) (cf : Nat → Nat → Int32) (ht : t ≤ 201) (w : Int32) (h : w < 0 ∨ nI t ≤ w) : MX l yX2_check wsX2_check ({ frames := 7, cells := 1, slots := 6, locals := 110 } : Room) [.ref (q 0), .int w] G (sW G q n nc t fl fd k wd wf wa cd cf) "java/lang/IllegalArgumentException" := by
  refine ofMX (cc := cX2_check) (maxL := 7) (ret := (some .int)) (by decide) rfl (Nat.le_of_ble_eq_true rfl) (fun p e s m below meth c A ls F htb hH hl => ?_)
  have F : Fx G p s m _ meth c cX2_check 7 wsX2_check RX2 A := F
  have hx := F.1.1
  have hb := F.1.2.1
  have hl : lv_has ls 7 [(0, .ref (q 0)), (1, .int w)] := hl
  refine lv_aload_n hx hb dX2_check_0 rfl (lv_at hl 0 rfl) ?_
  refine lv_iload_n hx hb dX2_check_1 rfl (lv_at hl 1 rfl) ?_
  refine callVI0 (rest := []) F (c_X2_hasPassed_0 l G q n nc t fl fd k wd wf wa cd cf (by omega) w h) gX2_check_X2_hasPassed rfl hdX2_hasPassed ⟨Nat.le_of_ble_eq_true rfl, Nat.le_of_ble_eq_true rfl⟩ hH ⟨0, 2, _, _, rfl, rfl, rfl⟩ rfl hl.1 (Nat.le_of_ble_eq_true rfl) dX2_check_2 ⟨Nat.le_of_ble_eq_true rfl, Nat.le_of_ble_eq_true rfl⟩ rfl (fun u H locs hH => ?_)
  have hH : HH G A s (sW G q n nc t fl fd k wd wf wa cd cf) H locs := hH
  exact callSX0 (rest := []) F (c_X2_requireArgument_0 l hst G _) gX2_check_X2_requireArgument rfl hdX2_requireArgument ⟨Nat.le_of_ble_eq_true rfl, Nat.le_of_ble_eq_true rfl⟩ hH rfl hl.1 (Nat.le_of_ble_eq_true rfl) dX2_check_5 ⟨Nat.le_of_ble_eq_true rfl, Nat.le_of_ble_eq_true rfl⟩ rfl htb (Nat.le_of_ble_eq_true rfl) (Nat.le_of_ble_eq_true rfl)
end
section
/-! one worker, one course more -/
theorem rfT_z {d : Nat → Nat} : rfT d 0 = fun _ => none := by
  funext i
  unfold rfT
  rw [if_neg (Nat.not_lt_zero i)]
theorem rfT_up {d d' : Nat → Nat} {n v : Nat} (h : ∀ i, i < n → d' i = d i) (hv : d' n = v) : va_up (rfT d n) n (some v) = rfT d' (n + 1) := by
  funext i
  unfold va_up rfT
  by_cases h1 : i = n
  · subst h1
    rw [if_pos rfl, if_pos (Nat.lt_succ_self i), hv]
  · rw [if_neg h1]
    by_cases h2 : i < n
    · rw [if_pos h2, if_pos (by omega), h i h2]
    · rw [if_neg h2, if_neg (by omega)]
theorem HH.swap9 {G : Gx} {A : Nat → Prop} {s : State} {a b c : va_W} {H : Heap} {locs : List Loc} (h : HH G A s ((a ++ b) ++ c) H locs) : HH G A s ((a ++ c) ++ b) H locs := ⟨h.1.swap, h.2.1.swap, h.2.2⟩
section Add9
variable {G : Gx} {A : Nat → Prop} {s : State} {H : Heap} {locs : List Loc} {q d : Nat → Nat} {n nc t q5 : Nat} {fl fd : Int32} {k f0 : Nat → Int32} {a0 : Nat → Nat → Int32} {wd : Nat → Nat → Nat} {wf : Nat → Nat → Int32} {wa : Nat → Nat → Nat → Int32} {cd : Nat → Nat} {cf : Nat → Nat → Int32}
theorem sW_addW (h : HH G A s (((sW G q n nc t fl fd k wd wf wa cd cf ++ wW G d f0 a0 ++ []).set 1 (q 1, .inl (G.2 2, 8, .inr (.inr (.inr (.inr (va_up (rfT (fun i => wd i 0) n) n (some (d 0))))))))).set 0 (q 0, .inr (2, [.ref (q 1), .ref (q 2), .ref (q 3), .int (nI n + 1), .int (nI nc), .int (nI t), .int fl, .int fd]))) H locs) :
    HH G A s (sW G q (n + 1) nc t fl fd k (va_up wd n d) (va_up wf n f0) (va_up wa n a0) cd cf) H locs := by
  have e1 : va_up (rfT (fun i => wd i 0) n) n (some (d 0)) = rfT (fun i => va_up wd n d i 0) (n + 1) := rfT_up (fun i hi => by rw [va_up_ne _ _ (Nat.ne_of_lt hi)]) (by rw [va_up_self])
  have e2 : wkL G (va_up wd n d) (va_up wf n f0) (va_up wa n a0) (n + 1) = wkL G wd wf wa n ++ wW G d f0 a0 := by
    show wkL G (va_up wd n d) (va_up wf n f0) (va_up wa n a0) n ++ wW G (va_up wd n d n) (va_up wf n f0 n) (va_up wa n a0 n) = _
    rw [va_up_self, va_up_self, va_up_self, wkL_congr (wd' := wd) (wf' := wf) (wa' := wa) (fun j hj => ⟨va_up_ne _ _ (Nat.ne_of_lt hj), va_up_ne _ _ (Nat.ne_of_lt hj), va_up_ne _ _ (Nat.ne_of_lt hj)⟩)]
  have h2 : HH G A s ((((q 0, .inr (2, [.ref (q 1), .ref (q 2), .ref (q 3), .int (nI n + 1), .int (nI nc), .int (nI t), .int fl, .int fd])) :: (q 1, .inl (G.2 2, 8, .inr (.inr (.inr (.inr (va_up (rfT (fun i => wd i 0) n) n (some (d 0)))))))) :: (q 2, .inl (G.2 3, 10, .inr (.inr (.inr (.inr (rfT cd nc)))))) :: (q 3, .inl (G.2 1, 201, .inl k)) :: wkL G wd wf wa n) ++ crL cd cf nc) ++ wW G d f0 a0) H locs := by
    rw [List.append_nil] at h
    unfold sW at h
    simp only [List.cons_append, List.set_cons_succ, List.set_cons_zero] at h
    simp only [List.cons_append]
    exact h
  have h3 := h2.swap9
  unfold sW
  rw [e2, ← e1, ← nI_1 n]
  simp only [List.cons_append, List.append_assoc] at h3 ⊢
  exact h3
theorem sW_addC (h : HH G A s (((sW G q n nc t fl fd k wd wf wa cd cf ++ cC q5 f0 ++ []).set 2 (q 2, .inl (G.2 3, 10, .inr (.inr (.inr (.inr (va_up (rfT cd nc) nc (some q5)))))))).set 0 (q 0, .inr (2, [.ref (q 1), .ref (q 2), .ref (q 3), .int (nI n), .int (nI nc + 1), .int (nI t), .int fl, .int fd]))) H locs) :
    HH G A s (sW G q n (nc + 1) t fl fd k wd wf wa (va_up cd nc q5) (va_up cf nc f0)) H locs := by
  have e1 : va_up (rfT cd nc) nc (some q5) = rfT (va_up cd nc q5) (nc + 1) := rfT_up (fun i hi => by rw [va_up_ne _ _ (Nat.ne_of_lt hi)]) (by rw [va_up_self])
  have e2 : crL (va_up cd nc q5) (va_up cf nc f0) (nc + 1) = crL cd cf nc ++ cC q5 f0 := by
    show crL (va_up cd nc q5) (va_up cf nc f0) nc ++ cC (va_up cd nc q5 nc) (va_up cf nc f0 nc) = _
    rw [va_up_self, va_up_self, crL_congr (cd' := cd) (cf' := cf) (fun j hj => ⟨va_up_ne _ _ (Nat.ne_of_lt hj), va_up_ne _ _ (Nat.ne_of_lt hj)⟩)]
  rw [List.append_nil] at h
  unfold sW at h ⊢
  rw [e2, ← e1, ← nI_1 nc]
  simp only [List.cons_append, List.set_cons_succ, List.set_cons_zero, List.append_assoc] at h ⊢
  exact h
end Add9
end
section
theorem fit01 {x : Int32} (h : x = 0 ∨ x = 1) : fits .boolean (.int x) = true := by rcases h with h | h <;> subst h <;> rfl
theorem hdX0_init : yX0_init.cls ≠ "java/lang/invoke/MethodHandle" ∧ yX0_init.cls ≠ "java/lang/invoke/VarHandle" ∧ (parseMethodDescriptor yX0_init.desc).map (fun d => d.parameters.length) = some 4 := by decide +kernel
theorem hdX1_init : yX1_init.cls ≠ "java/lang/invoke/MethodHandle" ∧ yX1_init.cls ≠ "java/lang/invoke/VarHandle" ∧ (parseMethodDescriptor yX1_init.desc).map (fun d => d.parameters.length) = some 2 := by decide +kernel
theorem in_X0_init_X0 : ∀ w ∈ wsX00, w ∈ wsX0_init := by decide +kernel
theorem in_X1_init_X1 : ∀ w ∈ wsX10, w ∈ wsX1_init := by decide +kernel
theorem in_X2_add_X1 : ∀ w ∈ wsX10, w ∈ wsX2_add := by decide +kernel
theorem in_X2_add_X2 : ∀ w ∈ wsX20, w ∈ wsX2_add := by decide +kernel
theorem in_X2_addCourse_X0 : ∀ w ∈ wsX00, w ∈ wsX2_addCourse := by decide +kernel
theorem in_X2_addCourse_X2 : ∀ w ∈ wsX20, w ∈ wsX2_addCourse := by decide +kernel
theorem in_X2_init_X2 : ∀ w ∈ wsX20, w ∈ wsX2_init := by decide +kernel
end
section
set_option maxHeartbeats 4000000 in
set_option maxRecDepth 100000 in
theorem c_X0_init (l : Launch) (G : Gx) (h0 : Nat) (w x y z : Int32) : MV l yX0_init wsX0_init ({ frames := 1, cells := 0, slots := 0, locals := 20 } : Room) [.ref h0, .int w, .int x, .int y, .int z] G ([(h0, .inr (0, [.int 0, .int 0, .int 0, .int 0]))]) (fun u => cC h0 (va_up (va_up (va_up (va_up (fun _ => 0) 0 x) 1 y) 2 z) 3 w)) := by
  refine ofMV (cc := cX0_init) (maxL := 5) (ret := none) (by decide) rfl (Nat.le_of_ble_eq_true rfl) (fun p e s m below meth c A ls F hr hnm hH hl => ?_)
  have F : Fx G p s m _ meth c cX0_init 5 wsX0_init RX0 A := F
  have hx := F.1.1
  have hb := F.1.2.1
  have hl : lv_has ls 5 [(0, .ref h0), (1, .int w), (2, .int x), (3, .int y), (4, .int z)] := hl
  refine lv_aload_n hx hb dX0_init_0 rfl (lv_at hl 0 rfl) ?_
  refine W.objInit hx hb F.1.2.2.2.1 (F.1.2.2.2.2 (.methodLink RX0 1 objectInit) (by decide +kernel)) (F.1.2.2.2.2 (.instanceMethod objectInit) (by decide +kernel)) (F.1.2.2.2.2 (.code objectInit ⟨#[0xb1]⟩ 1 none) (by decide +kernel)) rfl (by rw [F.1.2.2.1]; exact hl.1) rfl dX0_init_1 (Nat.le_of_ble_eq_true rfl) (Nat.le_of_ble_eq_true rfl) ?_
  refine W.eq (g2 := F0 m 4 ls []) rfl ?_
  refine lv_aload_n hx hb dX0_init_4 rfl (lv_at hl 0 rfl) ?_
  refine lv_iload_n hx hb dX0_init_5 rfl (lv_at hl 2 rfl) ?_
  refine rputF (C := RX0) (T := TX0) (N := 4) (ref := RX0) F in_X0_init_X0 tyX0 tyX0_ok nmX0 hH 0 rfl rfl 0 (by decide) (by decide +kernel) (fun _ h9 => h9) rfl hnm rfl (v := .int x) rfl rfl (Nat.le_of_ble_eq_true rfl) dX0_init_6 (fun H locs hH => ?_)
  have hH : HH G A s [(h0, .inr (0, [.int x, .int 0, .int 0, .int 0]))] H locs := hH
  refine lv_aload_n hx hb dX0_init_9 rfl (lv_at hl 0 rfl) ?_
  refine lv_iload_n hx hb dX0_init_10 rfl (lv_at hl 3 rfl) ?_
  refine rputF (C := RX0) (T := TX0) (N := 4) (ref := RX0) F in_X0_init_X0 tyX0 tyX0_ok nmX0 hH 0 rfl rfl 1 (by decide) (by decide +kernel) (fun _ h9 => h9) rfl hnm rfl (v := .int y) rfl rfl (Nat.le_of_ble_eq_true rfl) dX0_init_11 (fun H locs hH => ?_)
  have hH : HH G A s [(h0, .inr (0, [.int x, .int y, .int 0, .int 0]))] H locs := hH
  refine lv_aload_n hx hb dX0_init_14 rfl (lv_at hl 0 rfl) ?_
  refine lv_iload hx hb dX0_init_15 (lv_at hl 4 rfl) ?_
  refine rputF (C := RX0) (T := TX0) (N := 4) (ref := RX0) F in_X0_init_X0 tyX0 tyX0_ok nmX0 hH 0 rfl rfl 2 (by decide) (by decide +kernel) (fun _ h9 => h9) rfl hnm rfl (v := .int z) rfl rfl (Nat.le_of_ble_eq_true rfl) dX0_init_17 (fun H locs hH => ?_)
  have hH : HH G A s [(h0, .inr (0, [.int x, .int y, .int z, .int 0]))] H locs := hH
  refine lv_aload_n hx hb dX0_init_20 rfl (lv_at hl 0 rfl) ?_
  refine lv_iload_n hx hb dX0_init_21 rfl (lv_at hl 1 rfl) ?_
  refine rput (C := RX0) (T := TX0) (N := 4) (ref := RX0) F in_X0_init_X0 tyX0 tyX0_ok nmX0 hH 0 rfl rfl 3 (by decide) (by decide +kernel) (fun _ h9 => h9) rfl (v := .int w) rfl rfl (Nat.le_of_ble_eq_true rfl) dX0_init_22 (fun H locs hH => ?_)
  have hH : HH G A s [(h0, .inr (0, [.int x, .int y, .int z, .int w]))] H locs := hH
  exact retV F hr (fun _ => 0) hH (Nat.le_of_ble_eq_true rfl) (Nat.le_of_ble_eq_true rfl) dX0_init_25

set_option maxHeartbeats 4000000 in
set_option maxRecDepth 100000 in
theorem c_X1_init (l : Launch) (G : Gx) (h0 : Nat) (v w : Int32) (hw : w = 0 ∨ w = 1) : MV l yX1_init wsX1_init ({ frames := 1, cells := 6, slots := 1206, locals := 20 } : Room) [.ref h0, .int v, .int w] G ([(h0, .inr (1, [.int 0, .int 0, .null, .null, .null, .null, .null, .null, .int 0, .int 0, .int 0, .int 0]))]) (fun u => wW G (va_up u 0 h0) (va_up (va_up (fun _ => 0) 0 v) 1 w) (fun _ _ => 0)) := by
  refine ofMV (cc := cX1_init) (maxL := 3) (ret := none) (by decide) rfl (Nat.le_of_ble_eq_true rfl) (fun p e s m below meth c A ls F hr hnm hH hl => ?_)
  have F : Fx G p s m _ meth c cX1_init 3 wsX1_init RX1 A := F
  have hx := F.1.1
  have hb := F.1.2.1
  have hl : lv_has ls 3 [(0, .ref h0), (1, .int v), (2, .int w)] := hl
  refine lv_aload_n hx hb dX1_init_0 rfl (lv_at hl 0 rfl) ?_
  refine W.objInit hx hb F.1.2.2.2.1 (F.1.2.2.2.2 (.methodLink RX1 3 objectInit) (by decide +kernel)) (F.1.2.2.2.2 (.instanceMethod objectInit) (by decide +kernel)) (F.1.2.2.2.2 (.code objectInit ⟨#[0xb1]⟩ 1 none) (by decide +kernel)) rfl (by rw [F.1.2.2.1]; exact hl.1) rfl dX1_init_1 (Nat.le_of_ble_eq_true rfl) (Nat.le_of_ble_eq_true rfl) ?_
  refine W.eq (g2 := F0 m 4 ls []) rfl ?_
  refine lv_aload_n hx hb dX1_init_4 rfl (lv_at hl 0 rfl) ?_
  refine lv_iload_n hx hb dX1_init_5 rfl (lv_at hl 1 rfl) ?_
  refine rputF (C := RX1) (T := TX1) (N := 12) (ref := RX1) F in_X1_init_X1 tyX1 tyX1_ok nmX1 hH 0 rfl rfl 0 (by decide) (by decide +kernel) (fun _ h9 => h9) rfl hnm rfl (v := .int v) rfl rfl (Nat.le_of_ble_eq_true rfl) dX1_init_6 (fun H locs hH => ?_)
  have hH : HH G A s [(h0, .inr (1, [.int v, .int 0, .null, .null, .null, .null, .null, .null, .int 0, .int 0, .int 0, .int 0]))] H locs := hH
  refine lv_aload_n hx hb dX1_init_9 rfl (lv_at hl 0 rfl) ?_
  refine lv_iload_n hx hb dX1_init_10 rfl (lv_at hl 2 rfl) ?_
  refine rputF (C := RX1) (T := TX1) (N := 12) (ref := RX1) F in_X1_init_X1 tyX1 tyX1_ok nmX1 hH 0 rfl rfl 1 (by decide) (by decide +kernel) (fun _ h9 => h9) rfl hnm rfl (v := .int w) (nar01 hw) (fit01 hw) (Nat.le_of_ble_eq_true rfl) dX1_init_11 (fun H locs hH => ?_)
  have hH : HH G A s [(h0, .inr (1, [.int v, .int w, .null, .null, .null, .null, .null, .null, .int 0, .int 0, .int 0, .int 0]))] H locs := hH
  refine lv_aload_n hx hb dX1_init_14 rfl (lv_at hl 0 rfl) ?_
  refine lv_sipush (v := 201) hx hb dX1_init_15 (by decide) ?_
  refine rnewa (atype := .int) F (by decide +kernel) 0 (ty := .int) rfl rfl hH (a0 := (201, .inl (fun _ => 0))) (fun _ => rfl) (by decide) (by decide) (Nat.le_of_ble_eq_true rfl) (Nat.le_of_ble_eq_true rfl) (Nat.le_of_ble_eq_true rfl) dX1_init_18 (fun a19 H hH => ?_)
  have hH : HH G A s [(h0, .inr (1, [.int v, .int w, .null, .null, .null, .null, .null, .null, .int 0, .int 0, .int 0, .int 0])), (a19, .inl (G.2 0, 201, .inl (fun _ => 0)))] H _ := hH
  refine rputF (C := RX1) (T := TX1) (N := 12) (ref := RX1) F in_X1_init_X1 tyX1 tyX1_ok nmX1 hH 0 rfl rfl 2 (by decide) (by decide +kernel) (fun _ h9 => h9) rfl hnm rfl (v := .ref a19) rfl rfl (Nat.le_of_ble_eq_true rfl) dX1_init_20 (fun H locs hH => ?_)
  have hH : HH G A s [(h0, .inr (1, [.int v, .int w, .ref a19, .null, .null, .null, .null, .null, .int 0, .int 0, .int 0, .int 0])), (a19, .inl (G.2 0, 201, .inl (fun _ => 0)))] H locs := hH
  refine lv_aload_n hx hb dX1_init_23 rfl (lv_at hl 0 rfl) ?_
  refine lv_sipush (v := 201) hx hb dX1_init_24 (by decide) ?_
  refine rnewa (atype := .int) F (by decide +kernel) 0 (ty := .int) rfl rfl hH (a0 := (201, .inl (fun _ => 0))) (fun _ => rfl) (by decide) (by decide) (Nat.le_of_ble_eq_true rfl) (Nat.le_of_ble_eq_true rfl) (Nat.le_of_ble_eq_true rfl) dX1_init_27 (fun a29 H hH => ?_)
  have hH : HH G A s [(h0, .inr (1, [.int v, .int w, .ref a19, .null, .null, .null, .null, .null, .int 0, .int 0, .int 0, .int 0])), (a19, .inl (G.2 0, 201, .inl (fun _ => 0))), (a29, .inl (G.2 0, 201, .inl (fun _ => 0)))] H _ := hH
  refine rputF (C := RX1) (T := TX1) (N := 12) (ref := RX1) F in_X1_init_X1 tyX1 tyX1_ok nmX1 hH 0 rfl rfl 3 (by decide) (by decide +kernel) (fun _ h9 => h9) rfl hnm rfl (v := .ref a29) rfl rfl (Nat.le_of_ble_eq_true rfl) dX1_init_29 (fun H locs hH => ?_)
  have hH : HH G A s [(h0, .inr (1, [.int v, .int w, .ref a19, .ref a29, .null, .null, .null, .null, .int 0, .int 0, .int 0, .int 0])), (a19, .inl (G.2 0, 201, .inl (fun _ => 0))), (a29, .inl (G.2 0, 201, .inl (fun _ => 0)))] H locs := hH
  refine lv_aload_n hx hb dX1_init_32 rfl (lv_at hl 0 rfl) ?_
  refine lv_sipush (v := 201) hx hb dX1_init_33 (by decide) ?_
  refine rnewa (atype := .int) F (by decide +kernel) 0 (ty := .int) rfl rfl hH (a0 := (201, .inl (fun _ => 0))) (fun _ => rfl) (by decide) (by decide) (Nat.le_of_ble_eq_true rfl) (Nat.le_of_ble_eq_true rfl) (Nat.le_of_ble_eq_true rfl) dX1_init_36 (fun a39 H hH => ?_)
  have hH : HH G A s [(h0, .inr (1, [.int v, .int w, .ref a19, .ref a29, .null, .null, .null, .null, .int 0, .int 0, .int 0, .int 0])), (a19, .inl (G.2 0, 201, .inl (fun _ => 0))), (a29, .inl (G.2 0, 201, .inl (fun _ => 0))), (a39, .inl (G.2 0, 201, .inl (fun _ => 0)))] H _ := hH
  refine rputF (C := RX1) (T := TX1) (N := 12) (ref := RX1) F in_X1_init_X1 tyX1 tyX1_ok nmX1 hH 0 rfl rfl 4 (by decide) (by decide +kernel) (fun _ h9 => h9) rfl hnm rfl (v := .ref a39) rfl rfl (Nat.le_of_ble_eq_true rfl) dX1_init_38 (fun H locs hH => ?_)
  have hH : HH G A s [(h0, .inr (1, [.int v, .int w, .ref a19, .ref a29, .ref a39, .null, .null, .null, .int 0, .int 0, .int 0, .int 0])), (a19, .inl (G.2 0, 201, .inl (fun _ => 0))), (a29, .inl (G.2 0, 201, .inl (fun _ => 0))), (a39, .inl (G.2 0, 201, .inl (fun _ => 0)))] H locs := hH
  refine lv_aload_n hx hb dX1_init_41 rfl (lv_at hl 0 rfl) ?_
  refine lv_sipush (v := 201) hx hb dX1_init_42 (by decide) ?_
  refine rnewa (atype := .int) F (by decide +kernel) 0 (ty := .int) rfl rfl hH (a0 := (201, .inl (fun _ => 0))) (fun _ => rfl) (by decide) (by decide) (Nat.le_of_ble_eq_true rfl) (Nat.le_of_ble_eq_true rfl) (Nat.le_of_ble_eq_true rfl) dX1_init_45 (fun a49 H hH => ?_)
  have hH : HH G A s [(h0, .inr (1, [.int v, .int w, .ref a19, .ref a29, .ref a39, .null, .null, .null, .int 0, .int 0, .int 0, .int 0])), (a19, .inl (G.2 0, 201, .inl (fun _ => 0))), (a29, .inl (G.2 0, 201, .inl (fun _ => 0))), (a39, .inl (G.2 0, 201, .inl (fun _ => 0))), (a49, .inl (G.2 0, 201, .inl (fun _ => 0)))] H _ := hH
  refine rputF (C := RX1) (T := TX1) (N := 12) (ref := RX1) F in_X1_init_X1 tyX1 tyX1_ok nmX1 hH 0 rfl rfl 5 (by decide) (by decide +kernel) (fun _ h9 => h9) rfl hnm rfl (v := .ref a49) rfl rfl (Nat.le_of_ble_eq_true rfl) dX1_init_47 (fun H locs hH => ?_)
  have hH : HH G A s [(h0, .inr (1, [.int v, .int w, .ref a19, .ref a29, .ref a39, .ref a49, .null, .null, .int 0, .int 0, .int 0, .int 0])), (a19, .inl (G.2 0, 201, .inl (fun _ => 0))), (a29, .inl (G.2 0, 201, .inl (fun _ => 0))), (a39, .inl (G.2 0, 201, .inl (fun _ => 0))), (a49, .inl (G.2 0, 201, .inl (fun _ => 0)))] H locs := hH
  refine lv_aload_n hx hb dX1_init_50 rfl (lv_at hl 0 rfl) ?_
  refine lv_sipush (v := 201) hx hb dX1_init_51 (by decide) ?_
  refine rnewa (atype := .int) F (by decide +kernel) 0 (ty := .int) rfl rfl hH (a0 := (201, .inl (fun _ => 0))) (fun _ => rfl) (by decide) (by decide) (Nat.le_of_ble_eq_true rfl) (Nat.le_of_ble_eq_true rfl) (Nat.le_of_ble_eq_true rfl) dX1_init_54 (fun a59 H hH => ?_)
  have hH : HH G A s [(h0, .inr (1, [.int v, .int w, .ref a19, .ref a29, .ref a39, .ref a49, .null, .null, .int 0, .int 0, .int 0, .int 0])), (a19, .inl (G.2 0, 201, .inl (fun _ => 0))), (a29, .inl (G.2 0, 201, .inl (fun _ => 0))), (a39, .inl (G.2 0, 201, .inl (fun _ => 0))), (a49, .inl (G.2 0, 201, .inl (fun _ => 0))), (a59, .inl (G.2 0, 201, .inl (fun _ => 0)))] H _ := hH
  refine rputF (C := RX1) (T := TX1) (N := 12) (ref := RX1) F in_X1_init_X1 tyX1 tyX1_ok nmX1 hH 0 rfl rfl 6 (by decide) (by decide +kernel) (fun _ h9 => h9) rfl hnm rfl (v := .ref a59) rfl rfl (Nat.le_of_ble_eq_true rfl) dX1_init_56 (fun H locs hH => ?_)
  have hH : HH G A s [(h0, .inr (1, [.int v, .int w, .ref a19, .ref a29, .ref a39, .ref a49, .ref a59, .null, .int 0, .int 0, .int 0, .int 0])), (a19, .inl (G.2 0, 201, .inl (fun _ => 0))), (a29, .inl (G.2 0, 201, .inl (fun _ => 0))), (a39, .inl (G.2 0, 201, .inl (fun _ => 0))), (a49, .inl (G.2 0, 201, .inl (fun _ => 0))), (a59, .inl (G.2 0, 201, .inl (fun _ => 0)))] H locs := hH
  refine lv_aload_n hx hb dX1_init_59 rfl (lv_at hl 0 rfl) ?_
  refine lv_sipush (v := 201) hx hb dX1_init_60 (by decide) ?_
  refine rnewa (atype := .boolean) F (by decide +kernel) 1 (ty := .boolean) rfl rfl hH (a0 := (201, .inl (fun _ => 0))) (fun _ => rfl) (by decide) (by decide) (Nat.le_of_ble_eq_true rfl) (Nat.le_of_ble_eq_true rfl) (Nat.le_of_ble_eq_true rfl) dX1_init_63 (fun a69 H hH => ?_)
  have hH : HH G A s [(h0, .inr (1, [.int v, .int w, .ref a19, .ref a29, .ref a39, .ref a49, .ref a59, .null, .int 0, .int 0, .int 0, .int 0])), (a19, .inl (G.2 0, 201, .inl (fun _ => 0))), (a29, .inl (G.2 0, 201, .inl (fun _ => 0))), (a39, .inl (G.2 0, 201, .inl (fun _ => 0))), (a49, .inl (G.2 0, 201, .inl (fun _ => 0))), (a59, .inl (G.2 0, 201, .inl (fun _ => 0))), (a69, .inl (G.2 1, 201, .inl (fun _ => 0)))] H _ := hH
  refine rputF (C := RX1) (T := TX1) (N := 12) (ref := RX1) F in_X1_init_X1 tyX1 tyX1_ok nmX1 hH 0 rfl rfl 7 (by decide) (by decide +kernel) (fun _ h9 => h9) rfl hnm rfl (v := .ref a69) rfl rfl (Nat.le_of_ble_eq_true rfl) dX1_init_65 (fun H locs hH => ?_)
  have hH : HH G A s [(h0, .inr (1, [.int v, .int w, .ref a19, .ref a29, .ref a39, .ref a49, .ref a59, .ref a69, .int 0, .int 0, .int 0, .int 0])), (a19, .inl (G.2 0, 201, .inl (fun _ => 0))), (a29, .inl (G.2 0, 201, .inl (fun _ => 0))), (a39, .inl (G.2 0, 201, .inl (fun _ => 0))), (a49, .inl (G.2 0, 201, .inl (fun _ => 0))), (a59, .inl (G.2 0, 201, .inl (fun _ => 0))), (a69, .inl (G.2 1, 201, .inl (fun _ => 0)))] H locs := hH
  exact retV F hr (va_up (va_up (va_up (va_up (va_up (va_up (fun _ => 0) 2 a19) 3 a29) 4 a39) 5 a49) 6 a59) 7 a69) hH (Nat.le_of_ble_eq_true rfl) (Nat.le_of_ble_eq_true rfl) dX1_init_68

set_option maxHeartbeats 4000000 in
set_option maxRecDepth 100000 in
theorem c_X2_init (l : Launch) (G : Gx) (h0 : Nat) : MV l yX2_init wsX2_init ({ frames := 1, cells := 3, slots := 219, locals := 20 } : Room) [.ref h0] G ([(h0, .inr (2, [.null, .null, .null, .int 0, .int 0, .int 0, .int 0, .int 0]))]) (fun u => sW G (va_up u 0 h0) 0 0 0 50 0 (fun _ => 0) (fun _ _ => 0) (fun _ _ => 0) (fun _ _ _ => 0) (fun _ => 0) (fun _ _ => 0)) := by
  refine ofMV (cc := cX2_init) (maxL := 1) (ret := none) (by decide) rfl (Nat.le_of_ble_eq_true rfl) (fun p e s m below meth c A ls F hr hnm hH hl => ?_)
  have F : Fx G p s m _ meth c cX2_init 1 wsX2_init RX2 A := F
  have hx := F.1.1
  have hb := F.1.2.1
  have hl : lv_has ls 1 [(0, .ref h0)] := hl
  refine lv_aload_n hx hb dX2_init_0 rfl (lv_at hl 0 rfl) ?_
  refine W.objInit hx hb F.1.2.2.2.1 (F.1.2.2.2.2 (.methodLink RX2 3 objectInit) (by decide +kernel)) (F.1.2.2.2.2 (.instanceMethod objectInit) (by decide +kernel)) (F.1.2.2.2.2 (.code objectInit ⟨#[0xb1]⟩ 1 none) (by decide +kernel)) rfl (by rw [F.1.2.2.1]; exact hl.1) rfl dX2_init_1 (Nat.le_of_ble_eq_true rfl) (Nat.le_of_ble_eq_true rfl) ?_
  refine W.eq (g2 := F0 m 4 ls []) rfl ?_
  refine lv_aload_n hx hb dX2_init_4 rfl (lv_at hl 0 rfl) ?_
  refine lv_bipush (v := 8) hx hb dX2_init_5 (by decide) ?_
  refine rnewq (C := RX1) (index := 9) F (by decide +kernel) F.2.2.2.1.2.1 2 rfl hH (N' := 8) (by decide) (by decide) (Nat.le_of_ble_eq_true rfl) (Nat.le_of_ble_eq_true rfl) (Nat.le_of_ble_eq_true rfl) dX2_init_7 (fun a19 H hH => ?_)
  have hH : HH G A s [(h0, .inr (2, [.null, .null, .null, .int 0, .int 0, .int 0, .int 0, .int 0])), (a19, .inl (G.2 2, 8, .inr (.inr (.inr (.inr (fun _ => none))))))] H _ := hH
  refine rputF (C := RX2) (T := TX2) (N := 8) (ref := RX2) F in_X2_init_X2 tyX2 tyX2_ok nmX2 hH 0 rfl rfl 0 (by decide) (by decide +kernel) (fun _ h9 => h9) rfl hnm rfl (v := .ref a19) rfl rfl (Nat.le_of_ble_eq_true rfl) dX2_init_10 (fun H locs hH => ?_)
  have hH : HH G A s [(h0, .inr (2, [.ref a19, .null, .null, .int 0, .int 0, .int 0, .int 0, .int 0])), (a19, .inl (G.2 2, 8, .inr (.inr (.inr (.inr (fun _ => none))))))] H locs := hH
  refine lv_aload_n hx hb dX2_init_13 rfl (lv_at hl 0 rfl) ?_
  refine lv_bipush (v := 10) hx hb dX2_init_14 (by decide) ?_
  refine rnewq (C := RX0) (index := 15) F (by decide +kernel) F.2.2.2.1.2.2.1 3 rfl hH (N' := 10) (by decide) (by decide) (Nat.le_of_ble_eq_true rfl) (Nat.le_of_ble_eq_true rfl) (Nat.le_of_ble_eq_true rfl) dX2_init_16 (fun a29 H hH => ?_)
  have hH : HH G A s [(h0, .inr (2, [.ref a19, .null, .null, .int 0, .int 0, .int 0, .int 0, .int 0])), (a19, .inl (G.2 2, 8, .inr (.inr (.inr (.inr (fun _ => none)))))), (a29, .inl (G.2 3, 10, .inr (.inr (.inr (.inr (fun _ => none))))))] H _ := hH
  refine rputF (C := RX2) (T := TX2) (N := 8) (ref := RX2) F in_X2_init_X2 tyX2 tyX2_ok nmX2 hH 0 rfl rfl 1 (by decide) (by decide +kernel) (fun _ h9 => h9) rfl hnm rfl (v := .ref a29) rfl rfl (Nat.le_of_ble_eq_true rfl) dX2_init_19 (fun H locs hH => ?_)
  have hH : HH G A s [(h0, .inr (2, [.ref a19, .ref a29, .null, .int 0, .int 0, .int 0, .int 0, .int 0])), (a19, .inl (G.2 2, 8, .inr (.inr (.inr (.inr (fun _ => none)))))), (a29, .inl (G.2 3, 10, .inr (.inr (.inr (.inr (fun _ => none))))))] H locs := hH
  refine lv_aload_n hx hb dX2_init_22 rfl (lv_at hl 0 rfl) ?_
  refine lv_sipush (v := 201) hx hb dX2_init_23 (by decide) ?_
  refine rnewa (atype := .boolean) F (by decide +kernel) 1 (ty := .boolean) rfl rfl hH (a0 := (201, .inl (fun _ => 0))) (fun _ => rfl) (by decide) (by decide) (Nat.le_of_ble_eq_true rfl) (Nat.le_of_ble_eq_true rfl) (Nat.le_of_ble_eq_true rfl) dX2_init_26 (fun a39 H hH => ?_)
  have hH : HH G A s [(h0, .inr (2, [.ref a19, .ref a29, .null, .int 0, .int 0, .int 0, .int 0, .int 0])), (a19, .inl (G.2 2, 8, .inr (.inr (.inr (.inr (fun _ => none)))))), (a29, .inl (G.2 3, 10, .inr (.inr (.inr (.inr (fun _ => none)))))), (a39, .inl (G.2 1, 201, .inl (fun _ => 0)))] H _ := hH
  refine rputF (C := RX2) (T := TX2) (N := 8) (ref := RX2) F in_X2_init_X2 tyX2 tyX2_ok nmX2 hH 0 rfl rfl 2 (by decide) (by decide +kernel) (fun _ h9 => h9) rfl hnm rfl (v := .ref a39) rfl rfl (Nat.le_of_ble_eq_true rfl) dX2_init_28 (fun H locs hH => ?_)
  have hH : HH G A s [(h0, .inr (2, [.ref a19, .ref a29, .ref a39, .int 0, .int 0, .int 0, .int 0, .int 0])), (a19, .inl (G.2 2, 8, .inr (.inr (.inr (.inr (fun _ => none)))))), (a29, .inl (G.2 3, 10, .inr (.inr (.inr (.inr (fun _ => none)))))), (a39, .inl (G.2 1, 201, .inl (fun _ => 0)))] H locs := hH
  refine lv_aload_n hx hb dX2_init_31 rfl (lv_at hl 0 rfl) ?_
  refine lv_bipush (v := 50) hx hb dX2_init_32 (by decide) ?_
  refine rput (C := RX2) (T := TX2) (N := 8) (ref := RX2) F in_X2_init_X2 tyX2 tyX2_ok nmX2 hH 0 rfl rfl 6 (by decide) (by decide +kernel) (fun _ h9 => h9) rfl (v := .int 50) rfl rfl (Nat.le_of_ble_eq_true rfl) dX2_init_34 (fun H locs hH => ?_)
  have hH : HH G A s [(h0, .inr (2, [.ref a19, .ref a29, .ref a39, .int 0, .int 0, .int 0, .int 50, .int 0])), (a19, .inl (G.2 2, 8, .inr (.inr (.inr (.inr (fun _ => none)))))), (a29, .inl (G.2 3, 10, .inr (.inr (.inr (.inr (fun _ => none)))))), (a39, .inl (G.2 1, 201, .inl (fun _ => 0)))] H locs := hH
  exact retV F hr (va_up (va_up (va_up (fun _ => 0) 1 a19) 2 a29) 3 a39) (by unfold sW; rw [rfT_z]; exact hH) (Nat.le_of_ble_eq_true rfl) (Nat.le_of_ble_eq_true rfl) dX2_init_37

set_option maxHeartbeats 4000000 in
set_option maxRecDepth 100000 in
theorem c_X2_add_1 (l : Launch) (G : Gx) (q : Nat → Nat) (n nc t : Nat) (fl fd : Int32) (k : Nat → Int32) (wd : Nat → Nat → Nat) (wf : Nat → Nat → Int32) (wa : Nat → Nat → Nat → Int32) (cd : Nat → Nat) (cf : Nat → Nat → Int32) (hn9 : n < 8) (v w : Int32) (h1 : 1 ≤ v) (h2 : v ≤ 100000) (hw : w = 0 ∨ w = 1) : MI l yX2_add wsX2_add ({ frames := 2, cells := 7, slots := 1218, locals := 42 } : Room) [.ref (q 0), .int v, .int w] G (sW G q n nc t fl fd k wd wf wa cd cf) (fun u => sW G q (n + 1) nc t fl fd k (va_up wd n u) (va_up wf n (va_up (va_up (fun _ => 0) 0 v) 1 w)) (va_up wa n (fun _ _ => 0)) cd cf) (nI n) := by
  refine ofMI (cc := cX2_add) (maxL := 4) (ret := (some .int)) (by decide) rfl (Nat.le_of_ble_eq_true rfl) (fun p e s m below meth c A ls F hr hnm hH hl => ?_)
  have F : Fx G p s m _ meth c cX2_add 4 wsX2_add RX2 A := F
  have hx := F.1.1
  have hb := F.1.2.1
  have hl : lv_has ls 4 [(0, .ref (q 0)), (1, .int v), (2, .int w)] := hl
  refine lv_iload_n hx hb dX2_add_0 rfl (lv_at hl 1 rfl) ?_
  refine lv_iconst (v := 1) hx hb dX2_add_1 (by decide) ?_
  refine lv_ldc hx hb F.1.2.2.2.1 (F.1.2.2.2.2 (.constant RX2 29 (100000)) (by decide +kernel)) dX2_add_2 ?_
  refine callSI0 (rest := []) F (c_X2_isWithin_1 l G _ v 1 100000 h1 h2) gX2_add_X2_isWithin rfl hdX2_isWithin ⟨Nat.le_of_ble_eq_true rfl, Nat.le_of_ble_eq_true rfl⟩ hH rfl hl.1 (Nat.le_of_ble_eq_true rfl) dX2_add_4 ⟨Nat.le_of_ble_eq_true rfl, Nat.le_of_ble_eq_true rfl⟩ rfl (fun u H locs hH => ?_)
  have hH : HH G A s (sW G q n nc t fl fd k wd wf wa cd cf) H locs := hH
  refine callSV0 (rest := []) F (c_X2_requireArgument_1 l G _) gX2_add_X2_requireArgument rfl hdX2_requireArgument ⟨Nat.le_of_ble_eq_true rfl, Nat.le_of_ble_eq_true rfl⟩ hH rfl hl.1 (Nat.le_of_ble_eq_true rfl) dX2_add_7 ⟨Nat.le_of_ble_eq_true rfl, Nat.le_of_ble_eq_true rfl⟩ rfl (fun u H locs hH => ?_)
  have hH : HH G A s (sW G q n nc t fl fd k wd wf wa cd cf) H locs := hH
  refine lv_aload_n hx hb dX2_add_10 rfl (lv_at hl 0 rfl) ?_
  refine rget (C := RX2) (T := TX2) (N := 8) (ref := RX2) F in_X2_add_X2 hH 0 rfl rfl 3 (by decide) (by decide +kernel) (fun _ h9 => h9) (v := .int (nI n)) rfl dX2_add_11 ?_
  refine lv_bipush (v := 8) hx hb dX2_add_14 (by decide) ?_
  refine lv_icmp_ge (tgt := 23) hx hb dX2_add_16 (by decide) (fun c_16 => absurd c_16 (nI_ge (a := n) (b := 8) hn9 (by decide))) (fun c_16 => ?_)
  refine lv_iconst (v := 1) hx hb dX2_add_19 (by decide) ?_
  refine lv_goto (tgt := 24) hx hb dX2_add_20 (by decide) ?_
  refine callSV0 (rest := []) F (c_X2_requireState_1 l G _) gX2_add_X2_requireState rfl hdX2_requireState ⟨Nat.le_of_ble_eq_true rfl, Nat.le_of_ble_eq_true rfl⟩ hH rfl hl.1 (Nat.le_of_ble_eq_true rfl) dX2_add_24 ⟨Nat.le_of_ble_eq_true rfl, Nat.le_of_ble_eq_true rfl⟩ rfl (fun u H locs hH => ?_)
  have hH : HH G A s (sW G q n nc t fl fd k wd wf wa cd cf) H locs := hH
  refine lv_aload_n hx hb dX2_add_27 rfl (lv_at hl 0 rfl) ?_
  refine rget (C := RX2) (T := TX2) (N := 8) (ref := RX2) F in_X2_add_X2 hH 0 rfl rfl 3 (by decide) (by decide +kernel) (fun _ h9 => h9) (v := .int (nI n)) rfl dX2_add_28 ?_
  refine lv_istore_n (lv' := [(3, .int (nI n)), (0, .ref (q 0)), (1, .int v), (2, .int w)]) hx hb dX2_add_31 rfl hl (by decide) rfl (fun ls hl => ?_)
  refine lv_aload_n hx hb dX2_add_32 rfl (lv_at hl 1 rfl) ?_
  refine rget (C := RX2) (T := TX2) (N := 8) (ref := RX2) F in_X2_add_X2 hH 0 rfl rfl 0 (by decide) (by decide +kernel) (fun _ h9 => h9) (v := .ref (q 1)) rfl dX2_add_33 ?_
  refine lv_iload_n hx hb dX2_add_36 rfl (lv_at hl 0 rfl) ?_
  refine rnew (C := RX1) (T := TX1) (N := 12) (ci := 1) F in_X2_add_X1 tyX1 tyX1_ok (by decide +kernel) (by decide +kernel) (by decide +kernel) hH rfl (fs := [.int 0, .int 0, .null, .null, .null, .null, .null, .null, .int 0, .int 0, .int 0, .int 0]) (fun j hj => by rcases (show j = 0 ∨ j = 1 ∨ j = 2 ∨ j = 3 ∨ j = 4 ∨ j = 5 ∨ j = 6 ∨ j = 7 ∨ j = 8 ∨ j = 9 ∨ j = 10 ∨ j = 11 by omega) with rfl | rfl | rfl | rfl | rfl | rfl | rfl | rfl | rfl | rfl | rfl | rfl <;> rfl) (Nat.le_of_ble_eq_true rfl) (Nat.le_of_ble_eq_true rfl) dX2_add_37 (fun q5 H hH => ?_)
  refine lv_dup hx hb dX2_add_40 rfl ?_
  refine lv_iload_n hx hb dX2_add_41 rfl (lv_at hl 2 rfl) ?_
  refine lv_iload_n hx hb dX2_add_42 rfl (lv_at hl 3 rfl) ?_
  refine callIV (a := sW G q n nc t fl fd k wd wf wa cd cf) (b := []) (rest := [.ref q5, .int (nI n), .ref (q 1)]) F (c_X1_init l G q5 v w hw) gX2_add_X1_init rfl (by decide +kernel) (by decide +kernel) (by decide +kernel) rfl hdX1_init ⟨Nat.le_of_ble_eq_true rfl, Nat.le_of_ble_eq_true rfl⟩ hH (by simp) rfl hl.1 (Nat.le_of_ble_eq_true rfl) dX2_add_43 ⟨Nat.le_of_ble_eq_true rfl, Nat.le_of_ble_eq_true rfl⟩ rfl (fun u H locs hH => ?_)
  refine raast F hH 1 2 ((sW G q n nc t fl fd k wd wf wa cd cf).length + 0) 1 rfl rfl (mid_at (a := sW G q n nc t fl fd k wd wf wa cd cf) (w := wW G (va_up u 0 q5) (va_up (va_up (fun _ => 0) 0 v) 1 w) (fun _ _ => 0)) (b := []) (k := 0) rfl) rfl n rfl (by omega) (by decide) dX2_add_46 (fun H locs hH => ?_)
  refine lv_aload_n hx hb dX2_add_47 rfl (lv_at hl 1 rfl) ?_
  refine lv_iload_n hx hb dX2_add_48 rfl (lv_at hl 0 rfl) ?_
  refine lv_iconst (v := 1) hx hb dX2_add_49 (by decide) ?_
  refine lv_iadd hx hb dX2_add_50 ?_
  refine rput (C := RX2) (T := TX2) (N := 8) (ref := RX2) F in_X2_add_X2 tyX2 tyX2_ok nmX2 hH 0 rfl rfl 3 (by decide) (by decide +kernel) (fun _ h9 => h9) rfl (v := .int (nI n + 1)) rfl rfl (Nat.le_of_ble_eq_true rfl) dX2_add_51 (fun H locs hH => ?_)
  refine lv_iload_n hx hb dX2_add_54 rfl (lv_at hl 0 rfl) ?_
  exact retI F hr rfl (va_up u 0 q5) (sW_addW hH) rfl (Nat.le_of_ble_eq_true rfl) (Nat.le_of_ble_eq_true rfl) dX2_add_55

set_option maxHeartbeats 4000000 in
set_option maxRecDepth 100000 in
theorem c_X2_add_3 (l : Launch) (hst : l.stackTraces = false) (G : Gx) (q : Nat → Nat) (n nc t : Nat) (fl fd : Int32) (k : Nat → Int32) (wd : Nat → Nat → Nat) (wf : Nat → Nat → Int32) (wa : Nat → Nat → Nat → Int32) (cd : Nat → Nat) (cf : Nat → Nat → Int32) (hn9 : n = 8) (v w : Int32) (h1 : 1 ≤ v) (h2 : v ≤ 100000) : MX l yX2_add wsX2_add ({ frames := 7, cells := 1, slots := 6, locals := 110 } : Room) [.ref (q 0), .int v, .int w] G (sW G q n nc t fl fd k wd wf wa cd cf) "java/lang/IllegalStateException" := by
  refine ofMX (cc := cX2_add) (maxL := 4) (ret := (some .int)) (by decide) rfl (Nat.le_of_ble_eq_true rfl) (fun p e s m below meth c A ls F htb hH hl => ?_)
  have F : Fx G p s m _ meth c cX2_add 4 wsX2_add RX2 A := F
  have hx := F.1.1
  have hb := F.1.2.1
  have hl : lv_has ls 4 [(0, .ref (q 0)), (1, .int v), (2, .int w)] := hl
  refine lv_iload_n hx hb dX2_add_0 rfl (lv_at hl 1 rfl) ?_
  refine lv_iconst (v := 1) hx hb dX2_add_1 (by decide) ?_
  refine lv_ldc hx hb F.1.2.2.2.1 (F.1.2.2.2.2 (.constant RX2 29 (100000)) (by decide +kernel)) dX2_add_2 ?_
  refine callSI0 (rest := []) F (c_X2_isWithin_1 l G _ v 1 100000 h1 h2) gX2_add_X2_isWithin rfl hdX2_isWithin ⟨Nat.le_of_ble_eq_true rfl, Nat.le_of_ble_eq_true rfl⟩ hH rfl hl.1 (Nat.le_of_ble_eq_true rfl) dX2_add_4 ⟨Nat.le_of_ble_eq_true rfl, Nat.le_of_ble_eq_true rfl⟩ rfl (fun u H locs hH => ?_)
  have hH : HH G A s (sW G q n nc t fl fd k wd wf wa cd cf) H locs := hH
  refine callSV0 (rest := []) F (c_X2_requireArgument_1 l G _) gX2_add_X2_requireArgument rfl hdX2_requireArgument ⟨Nat.le_of_ble_eq_true rfl, Nat.le_of_ble_eq_true rfl⟩ hH rfl hl.1 (Nat.le_of_ble_eq_true rfl) dX2_add_7 ⟨Nat.le_of_ble_eq_true rfl, Nat.le_of_ble_eq_true rfl⟩ rfl (fun u H locs hH => ?_)
  have hH : HH G A s (sW G q n nc t fl fd k wd wf wa cd cf) H locs := hH
  refine lv_aload_n hx hb dX2_add_10 rfl (lv_at hl 0 rfl) ?_
  refine rget (C := RX2) (T := TX2) (N := 8) (ref := RX2) F in_X2_add_X2 hH 0 rfl rfl 3 (by decide) (by decide +kernel) (fun _ h9 => h9) (v := .int (nI n)) rfl dX2_add_11 ?_
  refine lv_bipush (v := 8) hx hb dX2_add_14 (by decide) ?_
  refine lv_icmp_ge (tgt := 23) hx hb dX2_add_16 (by decide) (fun c_16 => ?_) (fun c_16 => absurd (by rw [hn9]; decide) c_16)
  refine lv_iconst (v := 0) hx hb dX2_add_23 (by decide) ?_
  exact callSX0 (rest := []) F (c_X2_requireState_0 l hst G _) gX2_add_X2_requireState rfl hdX2_requireState ⟨Nat.le_of_ble_eq_true rfl, Nat.le_of_ble_eq_true rfl⟩ hH rfl hl.1 (Nat.le_of_ble_eq_true rfl) dX2_add_24 ⟨Nat.le_of_ble_eq_true rfl, Nat.le_of_ble_eq_true rfl⟩ rfl htb (Nat.le_of_ble_eq_true rfl) (Nat.le_of_ble_eq_true rfl)

set_option maxHeartbeats 4000000 in
set_option maxRecDepth 100000 in
theorem c_X2_add_2 (l : Launch) (hst : l.stackTraces = false) (G : Gx) (q : Nat → Nat) (n nc t : Nat) (fl fd : Int32) (k : Nat → Int32) (wd : Nat → Nat → Nat) (wf : Nat → Nat → Int32) (wa : Nat → Nat → Nat → Int32) (cd : Nat → Nat) (cf : Nat → Nat → Int32) (v w : Int32) (h : v < 1 ∨ 100000 < v) : MX l yX2_add wsX2_add ({ frames := 7, cells := 1, slots := 6, locals := 110 } : Room) [.ref (q 0), .int v, .int w] G (sW G q n nc t fl fd k wd wf wa cd cf) "java/lang/IllegalArgumentException" := by
  refine ofMX (cc := cX2_add) (maxL := 4) (ret := (some .int)) (by decide) rfl (Nat.le_of_ble_eq_true rfl) (fun p e s m below meth c A ls F htb hH hl => ?_)
  have F : Fx G p s m _ meth c cX2_add 4 wsX2_add RX2 A := F
  have hx := F.1.1
  have hb := F.1.2.1
  have hl : lv_has ls 4 [(0, .ref (q 0)), (1, .int v), (2, .int w)] := hl
  refine lv_iload_n hx hb dX2_add_0 rfl (lv_at hl 1 rfl) ?_
  refine lv_iconst (v := 1) hx hb dX2_add_1 (by decide) ?_
  refine lv_ldc hx hb F.1.2.2.2.1 (F.1.2.2.2.2 (.constant RX2 29 (100000)) (by decide +kernel)) dX2_add_2 ?_
  refine callSI0 (rest := []) F (c_X2_isWithin_0 l G _ v 1 100000 h) gX2_add_X2_isWithin rfl hdX2_isWithin ⟨Nat.le_of_ble_eq_true rfl, Nat.le_of_ble_eq_true rfl⟩ hH rfl hl.1 (Nat.le_of_ble_eq_true rfl) dX2_add_4 ⟨Nat.le_of_ble_eq_true rfl, Nat.le_of_ble_eq_true rfl⟩ rfl (fun u H locs hH => ?_)
  have hH : HH G A s (sW G q n nc t fl fd k wd wf wa cd cf) H locs := hH
  exact callSX0 (rest := []) F (c_X2_requireArgument_0 l hst G _) gX2_add_X2_requireArgument rfl hdX2_requireArgument ⟨Nat.le_of_ble_eq_true rfl, Nat.le_of_ble_eq_true rfl⟩ hH rfl hl.1 (Nat.le_of_ble_eq_true rfl) dX2_add_7 ⟨Nat.le_of_ble_eq_true rfl, Nat.le_of_ble_eq_true rfl⟩ rfl htb (Nat.le_of_ble_eq_true rfl) (Nat.le_of_ble_eq_true rfl)

set_option maxHeartbeats 4000000 in
set_option maxRecDepth 100000 in
theorem c_X2_addCourse_1 (l : Launch) (G : Gx) (q : Nat → Nat) (n nc t : Nat) (fl fd : Int32) (k : Nat → Int32) (wd : Nat → Nat → Nat) (wf : Nat → Nat → Int32) (wa : Nat → Nat → Nat → Int32) (cd : Nat → Nat) (cf : Nat → Nat → Int32) (hnc : nc < 10) (w : Int32) (w1 : 1 ≤ w) (w2 : w ≤ 8) (x y : Nat) (hxy : x ≤ y) (hy : y ≤ 200) (h : Int32) (h1 : 1 ≤ h) (h2 : h ≤ 40) : MI l yX2_addCourse wsX2_addCourse ({ frames := 2, cells := 1, slots := 4, locals := 44 } : Room) [.ref (q 0), .int w, .int (nI x), .int (nI y), .int h] G (sW G q n nc t fl fd k wd wf wa cd cf) (fun u => sW G q n (nc + 1) t fl fd k wd wf wa (va_up cd nc (u 0)) (va_up cf nc (va_up (va_up (va_up (va_up (fun _ => 0) 0 (nI x)) 1 (nI y)) 2 h) 3 w))) (nI nc) := by
  refine ofMI (cc := cX2_addCourse) (maxL := 6) (ret := (some .int)) (by decide) rfl (Nat.le_of_ble_eq_true rfl) (fun p e s m below meth c A ls F hr hnm hH hl => ?_)
  have F : Fx G p s m _ meth c cX2_addCourse 6 wsX2_addCourse RX2 A := F
  have hx := F.1.1
  have hb := F.1.2.1
  have hl : lv_has ls 6 [(0, .ref (q 0)), (1, .int w), (2, .int (nI x)), (3, .int (nI y)), (4, .int h)] := hl
  refine lv_iload_n hx hb dX2_addCourse_0 rfl (lv_at hl 1 rfl) ?_
  refine lv_iconst (v := 1) hx hb dX2_addCourse_1 (by decide) ?_
  refine lv_bipush (v := 8) hx hb dX2_addCourse_2 (by decide) ?_
  refine callSI0 (rest := []) F (c_X2_isWithin_1 l G _ w 1 8 w1 w2) gX2_addCourse_X2_isWithin rfl hdX2_isWithin ⟨Nat.le_of_ble_eq_true rfl, Nat.le_of_ble_eq_true rfl⟩ hH rfl hl.1 (Nat.le_of_ble_eq_true rfl) dX2_addCourse_4 ⟨Nat.le_of_ble_eq_true rfl, Nat.le_of_ble_eq_true rfl⟩ rfl (fun u H locs hH => ?_)
  have hH : HH G A s (sW G q n nc t fl fd k wd wf wa cd cf) H locs := hH
  refine lv_if_eq (tgt := 33) hx hb dX2_addCourse_7 (by decide) (fun c_7 => absurd c_7 (by decide)) (fun c_7 => ?_)
  refine lv_iload_n hx hb dX2_addCourse_10 rfl (lv_at hl 2 rfl) ?_
  refine lv_iload_n hx hb dX2_addCourse_11 rfl (lv_at hl 3 rfl) ?_
  refine callSI0 (rest := []) F (c_X2_isSpan_1 l G _ (nI x) (nI y) (nI_pos' (by omega)) (nI_le (a := x) (b := 200) (by omega) (by decide)) (nI_le hxy (by omega)) (nI_le (a := y) (b := 200) hy (by decide))) gX2_addCourse_X2_isSpan rfl hdX2_isSpan ⟨Nat.le_of_ble_eq_true rfl, Nat.le_of_ble_eq_true rfl⟩ hH rfl hl.1 (Nat.le_of_ble_eq_true rfl) dX2_addCourse_12 ⟨Nat.le_of_ble_eq_true rfl, Nat.le_of_ble_eq_true rfl⟩ rfl (fun u H locs hH => ?_)
  have hH : HH G A s (sW G q n nc t fl fd k wd wf wa cd cf) H locs := hH
  refine lv_if_eq (tgt := 33) hx hb dX2_addCourse_15 (by decide) (fun c_15 => absurd c_15 (by decide)) (fun c_15 => ?_)
  refine lv_iload hx hb dX2_addCourse_18 (lv_at hl 4 rfl) ?_
  refine lv_iconst (v := 1) hx hb dX2_addCourse_20 (by decide) ?_
  refine lv_bipush (v := 40) hx hb dX2_addCourse_21 (by decide) ?_
  refine callSI0 (rest := []) F (c_X2_isWithin_1 l G _ h 1 40 h1 h2) gX2_addCourse_X2_isWithin rfl hdX2_isWithin ⟨Nat.le_of_ble_eq_true rfl, Nat.le_of_ble_eq_true rfl⟩ hH rfl hl.1 (Nat.le_of_ble_eq_true rfl) dX2_addCourse_23 ⟨Nat.le_of_ble_eq_true rfl, Nat.le_of_ble_eq_true rfl⟩ rfl (fun u H locs hH => ?_)
  have hH : HH G A s (sW G q n nc t fl fd k wd wf wa cd cf) H locs := hH
  refine lv_if_eq (tgt := 33) hx hb dX2_addCourse_26 (by decide) (fun c_26 => absurd c_26 (by decide)) (fun c_26 => ?_)
  refine lv_iconst (v := 1) hx hb dX2_addCourse_29 (by decide) ?_
  refine lv_goto (tgt := 34) hx hb dX2_addCourse_30 (by decide) ?_
  refine callSV0 (rest := []) F (c_X2_requireArgument_1 l G _) gX2_addCourse_X2_requireArgument rfl hdX2_requireArgument ⟨Nat.le_of_ble_eq_true rfl, Nat.le_of_ble_eq_true rfl⟩ hH rfl hl.1 (Nat.le_of_ble_eq_true rfl) dX2_addCourse_34 ⟨Nat.le_of_ble_eq_true rfl, Nat.le_of_ble_eq_true rfl⟩ rfl (fun u H locs hH => ?_)
  have hH : HH G A s (sW G q n nc t fl fd k wd wf wa cd cf) H locs := hH
  refine lv_aload_n hx hb dX2_addCourse_37 rfl (lv_at hl 0 rfl) ?_
  refine rget (C := RX2) (T := TX2) (N := 8) (ref := RX2) F in_X2_addCourse_X2 hH 0 rfl rfl 4 (by decide) (by decide +kernel) (fun _ h9 => h9) (v := .int (nI nc)) rfl dX2_addCourse_38 ?_
  refine lv_bipush (v := 10) hx hb dX2_addCourse_41 (by decide) ?_
  refine lv_icmp_ge (tgt := 50) hx hb dX2_addCourse_43 (by decide) (fun c_43 => absurd c_43 (nI_ge (a := nc) (b := 10) hnc (by decide))) (fun c_43 => ?_)
  refine lv_iconst (v := 1) hx hb dX2_addCourse_46 (by decide) ?_
  refine lv_goto (tgt := 51) hx hb dX2_addCourse_47 (by decide) ?_
  refine callSV0 (rest := []) F (c_X2_requireState_1 l G _) gX2_addCourse_X2_requireState rfl hdX2_requireState ⟨Nat.le_of_ble_eq_true rfl, Nat.le_of_ble_eq_true rfl⟩ hH rfl hl.1 (Nat.le_of_ble_eq_true rfl) dX2_addCourse_51 ⟨Nat.le_of_ble_eq_true rfl, Nat.le_of_ble_eq_true rfl⟩ rfl (fun u H locs hH => ?_)
  have hH : HH G A s (sW G q n nc t fl fd k wd wf wa cd cf) H locs := hH
  refine lv_aload_n hx hb dX2_addCourse_54 rfl (lv_at hl 0 rfl) ?_
  refine rget (C := RX2) (T := TX2) (N := 8) (ref := RX2) F in_X2_addCourse_X2 hH 0 rfl rfl 4 (by decide) (by decide +kernel) (fun _ h9 => h9) (v := .int (nI nc)) rfl dX2_addCourse_55 ?_
  refine lv_istore (lv' := [(5, .int (nI nc)), (0, .ref (q 0)), (1, .int w), (2, .int (nI x)), (3, .int (nI y)), (4, .int h)]) hx hb dX2_addCourse_58 hl (by decide) rfl (fun ls hl => ?_)
  refine lv_aload_n hx hb dX2_addCourse_60 rfl (lv_at hl 1 rfl) ?_
  refine rget (C := RX2) (T := TX2) (N := 8) (ref := RX2) F in_X2_addCourse_X2 hH 0 rfl rfl 1 (by decide) (by decide +kernel) (fun _ h9 => h9) (v := .ref (q 2)) rfl dX2_addCourse_61 ?_
  refine lv_iload hx hb dX2_addCourse_64 (lv_at hl 0 rfl) ?_
  refine rnew (C := RX0) (T := TX0) (N := 4) (ci := 0) F in_X2_addCourse_X0 tyX0 tyX0_ok (by decide +kernel) (by decide +kernel) (by decide +kernel) hH rfl (fs := [.int 0, .int 0, .int 0, .int 0]) (fun j hj => by rcases (show j = 0 ∨ j = 1 ∨ j = 2 ∨ j = 3 by omega) with rfl | rfl | rfl | rfl <;> rfl) (Nat.le_of_ble_eq_true rfl) (Nat.le_of_ble_eq_true rfl) dX2_addCourse_66 (fun q5 H hH => ?_)
  refine lv_dup hx hb dX2_addCourse_69 rfl ?_
  refine lv_iload_n hx hb dX2_addCourse_70 rfl (lv_at hl 2 rfl) ?_
  refine lv_iload_n hx hb dX2_addCourse_71 rfl (lv_at hl 3 rfl) ?_
  refine lv_iload_n hx hb dX2_addCourse_72 rfl (lv_at hl 4 rfl) ?_
  refine lv_iload hx hb dX2_addCourse_73 (lv_at hl 5 rfl) ?_
  refine callIV (a := sW G q n nc t fl fd k wd wf wa cd cf) (b := []) (rest := [.ref q5, .int (nI nc), .ref (q 2)]) F (c_X0_init l G q5 w (nI x) (nI y) h) gX2_addCourse_X0_init rfl (by decide +kernel) (by decide +kernel) (by decide +kernel) rfl hdX0_init ⟨Nat.le_of_ble_eq_true rfl, Nat.le_of_ble_eq_true rfl⟩ hH (by simp) rfl hl.1 (Nat.le_of_ble_eq_true rfl) dX2_addCourse_75 ⟨Nat.le_of_ble_eq_true rfl, Nat.le_of_ble_eq_true rfl⟩ rfl (fun u H locs hH => ?_)
  refine raast F hH 2 3 ((sW G q n nc t fl fd k wd wf wa cd cf).length + 0) 0 rfl rfl (mid_at (a := sW G q n nc t fl fd k wd wf wa cd cf) (w := cC q5 (va_up (va_up (va_up (va_up (fun _ => 0) 0 (nI x)) 1 (nI y)) 2 h) 3 w)) (b := []) (k := 0) rfl) rfl nc rfl (by omega) (by decide) dX2_addCourse_78 (fun H locs hH => ?_)
  refine lv_aload_n hx hb dX2_addCourse_79 rfl (lv_at hl 1 rfl) ?_
  refine lv_iload hx hb dX2_addCourse_80 (lv_at hl 0 rfl) ?_
  refine lv_iconst (v := 1) hx hb dX2_addCourse_82 (by decide) ?_
  refine lv_iadd hx hb dX2_addCourse_83 ?_
  refine rput (C := RX2) (T := TX2) (N := 8) (ref := RX2) F in_X2_addCourse_X2 tyX2 tyX2_ok nmX2 hH 0 rfl rfl 4 (by decide) (by decide +kernel) (fun _ h9 => h9) rfl (v := .int (nI nc + 1)) rfl rfl (Nat.le_of_ble_eq_true rfl) dX2_addCourse_84 (fun H locs hH => ?_)
  refine lv_iload hx hb dX2_addCourse_87 (lv_at hl 0 rfl) ?_
  exact retI F hr rfl (fun _ => q5) (sW_addC hH) rfl (Nat.le_of_ble_eq_true rfl) (Nat.le_of_ble_eq_true rfl) dX2_addCourse_89

set_option maxHeartbeats 4000000 in
set_option maxRecDepth 100000 in
theorem c_X2_addCourse_2 (l : Launch) (hst : l.stackTraces = false) (G : Gx) (q : Nat → Nat) (n nc t : Nat) (fl fd : Int32) (k : Nat → Int32) (wd : Nat → Nat → Nat) (wf : Nat → Nat → Int32) (wa : Nat → Nat → Nat → Int32) (cd : Nat → Nat) (cf : Nat → Nat → Int32) (w x y z : Int32) (h : (w < 1 ∨ 8 < w) ∨ ((1 ≤ w ∧ w ≤ 8) ∧ (x < 0 ∨ 200 < x)) ∨ ((1 ≤ w ∧ w ≤ 8 ∧ 0 ≤ x ∧ x ≤ 200) ∧ (y < x ∨ 200 < y)) ∨ ((1 ≤ w ∧ w ≤ 8 ∧ 0 ≤ x ∧ x ≤ 200 ∧ x ≤ y ∧ y ≤ 200) ∧ (z < 1 ∨ 40 < z))) : MX l yX2_addCourse wsX2_addCourse ({ frames := 7, cells := 1, slots := 6, locals := 110 } : Room) [.ref (q 0), .int w, .int x, .int y, .int z] G (sW G q n nc t fl fd k wd wf wa cd cf) "java/lang/IllegalArgumentException" := by
  refine ofMX (cc := cX2_addCourse) (maxL := 6) (ret := (some .int)) (by decide) rfl (Nat.le_of_ble_eq_true rfl) (fun p e s m below meth c A ls F htb hH hl => ?_)
  have F : Fx G p s m _ meth c cX2_addCourse 6 wsX2_addCourse RX2 A := F
  have hx := F.1.1
  have hb := F.1.2.1
  have hl : lv_has ls 6 [(0, .ref (q 0)), (1, .int w), (2, .int x), (3, .int y), (4, .int z)] := hl
  rcases h with h | ⟨⟨g1, g2⟩, h⟩ | ⟨⟨g1, g2, g3, g4⟩, h⟩ | ⟨⟨g1, g2, g3, g4, g5, g6⟩, h⟩
  · refine lv_iload_n hx hb dX2_addCourse_0 rfl (lv_at hl 1 rfl) ?_
    refine lv_iconst (v := 1) hx hb dX2_addCourse_1 (by decide) ?_
    refine lv_bipush (v := 8) hx hb dX2_addCourse_2 (by decide) ?_
    refine callSI0 (rest := []) F (c_X2_isWithin_0 l G _ w 1 8 h) gX2_addCourse_X2_isWithin rfl hdX2_isWithin ⟨Nat.le_of_ble_eq_true rfl, Nat.le_of_ble_eq_true rfl⟩ hH rfl hl.1 (Nat.le_of_ble_eq_true rfl) dX2_addCourse_4 ⟨Nat.le_of_ble_eq_true rfl, Nat.le_of_ble_eq_true rfl⟩ rfl (fun u H locs hH => ?_)
    have hH : HH G A s (sW G q n nc t fl fd k wd wf wa cd cf) H locs := hH
    refine lv_if_eq (tgt := 33) hx hb dX2_addCourse_7 (by decide) (fun c_7 => ?_) (fun c_7 => absurd rfl c_7)
    refine lv_iconst (v := 0) hx hb dX2_addCourse_33 (by decide) ?_
    exact callSX0 (rest := []) F (c_X2_requireArgument_0 l hst G _) gX2_addCourse_X2_requireArgument rfl hdX2_requireArgument ⟨Nat.le_of_ble_eq_true rfl, Nat.le_of_ble_eq_true rfl⟩ hH rfl hl.1 (Nat.le_of_ble_eq_true rfl) dX2_addCourse_34 ⟨Nat.le_of_ble_eq_true rfl, Nat.le_of_ble_eq_true rfl⟩ rfl htb (Nat.le_of_ble_eq_true rfl) (Nat.le_of_ble_eq_true rfl)
  · refine lv_iload_n hx hb dX2_addCourse_0 rfl (lv_at hl 1 rfl) ?_
    refine lv_iconst (v := 1) hx hb dX2_addCourse_1 (by decide) ?_
    refine lv_bipush (v := 8) hx hb dX2_addCourse_2 (by decide) ?_
    refine callSI0 (rest := []) F (c_X2_isWithin_1 l G _ w 1 8 g1 g2) gX2_addCourse_X2_isWithin rfl hdX2_isWithin ⟨Nat.le_of_ble_eq_true rfl, Nat.le_of_ble_eq_true rfl⟩ hH rfl hl.1 (Nat.le_of_ble_eq_true rfl) dX2_addCourse_4 ⟨Nat.le_of_ble_eq_true rfl, Nat.le_of_ble_eq_true rfl⟩ rfl (fun u H locs hH => ?_)
    have hH : HH G A s (sW G q n nc t fl fd k wd wf wa cd cf) H locs := hH
    refine lv_if_eq (tgt := 33) hx hb dX2_addCourse_7 (by decide) (fun c_7 => absurd c_7 (by decide)) (fun c_7 => ?_)
    refine lv_iload_n hx hb dX2_addCourse_10 rfl (lv_at hl 2 rfl) ?_
    refine lv_iload_n hx hb dX2_addCourse_11 rfl (lv_at hl 3 rfl) ?_
    refine callSI0 (rest := []) F (c_X2_isSpan_0 l G _ x y h) gX2_addCourse_X2_isSpan rfl hdX2_isSpan ⟨Nat.le_of_ble_eq_true rfl, Nat.le_of_ble_eq_true rfl⟩ hH rfl hl.1 (Nat.le_of_ble_eq_true rfl) dX2_addCourse_12 ⟨Nat.le_of_ble_eq_true rfl, Nat.le_of_ble_eq_true rfl⟩ rfl (fun u H locs hH => ?_)
    have hH : HH G A s (sW G q n nc t fl fd k wd wf wa cd cf) H locs := hH
    refine lv_if_eq (tgt := 33) hx hb dX2_addCourse_15 (by decide) (fun c_15 => ?_) (fun c_15 => absurd rfl c_15)
    refine lv_iconst (v := 0) hx hb dX2_addCourse_33 (by decide) ?_
    exact callSX0 (rest := []) F (c_X2_requireArgument_0 l hst G _) gX2_addCourse_X2_requireArgument rfl hdX2_requireArgument ⟨Nat.le_of_ble_eq_true rfl, Nat.le_of_ble_eq_true rfl⟩ hH rfl hl.1 (Nat.le_of_ble_eq_true rfl) dX2_addCourse_34 ⟨Nat.le_of_ble_eq_true rfl, Nat.le_of_ble_eq_true rfl⟩ rfl htb (Nat.le_of_ble_eq_true rfl) (Nat.le_of_ble_eq_true rfl)
  · refine lv_iload_n hx hb dX2_addCourse_0 rfl (lv_at hl 1 rfl) ?_
    refine lv_iconst (v := 1) hx hb dX2_addCourse_1 (by decide) ?_
    refine lv_bipush (v := 8) hx hb dX2_addCourse_2 (by decide) ?_
    refine callSI0 (rest := []) F (c_X2_isWithin_1 l G _ w 1 8 g1 g2) gX2_addCourse_X2_isWithin rfl hdX2_isWithin ⟨Nat.le_of_ble_eq_true rfl, Nat.le_of_ble_eq_true rfl⟩ hH rfl hl.1 (Nat.le_of_ble_eq_true rfl) dX2_addCourse_4 ⟨Nat.le_of_ble_eq_true rfl, Nat.le_of_ble_eq_true rfl⟩ rfl (fun u H locs hH => ?_)
    have hH : HH G A s (sW G q n nc t fl fd k wd wf wa cd cf) H locs := hH
    refine lv_if_eq (tgt := 33) hx hb dX2_addCourse_7 (by decide) (fun c_7 => absurd c_7 (by decide)) (fun c_7 => ?_)
    refine lv_iload_n hx hb dX2_addCourse_10 rfl (lv_at hl 2 rfl) ?_
    refine lv_iload_n hx hb dX2_addCourse_11 rfl (lv_at hl 3 rfl) ?_
    refine callSI0 (rest := []) F (c_X2_isSpan_00 l G _ x y g3 g4 h) gX2_addCourse_X2_isSpan rfl hdX2_isSpan ⟨Nat.le_of_ble_eq_true rfl, Nat.le_of_ble_eq_true rfl⟩ hH rfl hl.1 (Nat.le_of_ble_eq_true rfl) dX2_addCourse_12 ⟨Nat.le_of_ble_eq_true rfl, Nat.le_of_ble_eq_true rfl⟩ rfl (fun u H locs hH => ?_)
    have hH : HH G A s (sW G q n nc t fl fd k wd wf wa cd cf) H locs := hH
    refine lv_if_eq (tgt := 33) hx hb dX2_addCourse_15 (by decide) (fun c_15 => ?_) (fun c_15 => absurd rfl c_15)
    refine lv_iconst (v := 0) hx hb dX2_addCourse_33 (by decide) ?_
    exact callSX0 (rest := []) F (c_X2_requireArgument_0 l hst G _) gX2_addCourse_X2_requireArgument rfl hdX2_requireArgument ⟨Nat.le_of_ble_eq_true rfl, Nat.le_of_ble_eq_true rfl⟩ hH rfl hl.1 (Nat.le_of_ble_eq_true rfl) dX2_addCourse_34 ⟨Nat.le_of_ble_eq_true rfl, Nat.le_of_ble_eq_true rfl⟩ rfl htb (Nat.le_of_ble_eq_true rfl) (Nat.le_of_ble_eq_true rfl)
  · refine lv_iload_n hx hb dX2_addCourse_0 rfl (lv_at hl 1 rfl) ?_
    refine lv_iconst (v := 1) hx hb dX2_addCourse_1 (by decide) ?_
    refine lv_bipush (v := 8) hx hb dX2_addCourse_2 (by decide) ?_
    refine callSI0 (rest := []) F (c_X2_isWithin_1 l G _ w 1 8 g1 g2) gX2_addCourse_X2_isWithin rfl hdX2_isWithin ⟨Nat.le_of_ble_eq_true rfl, Nat.le_of_ble_eq_true rfl⟩ hH rfl hl.1 (Nat.le_of_ble_eq_true rfl) dX2_addCourse_4 ⟨Nat.le_of_ble_eq_true rfl, Nat.le_of_ble_eq_true rfl⟩ rfl (fun u H locs hH => ?_)
    have hH : HH G A s (sW G q n nc t fl fd k wd wf wa cd cf) H locs := hH
    refine lv_if_eq (tgt := 33) hx hb dX2_addCourse_7 (by decide) (fun c_7 => absurd c_7 (by decide)) (fun c_7 => ?_)
    refine lv_iload_n hx hb dX2_addCourse_10 rfl (lv_at hl 2 rfl) ?_
    refine lv_iload_n hx hb dX2_addCourse_11 rfl (lv_at hl 3 rfl) ?_
    refine callSI0 (rest := []) F (c_X2_isSpan_1 l G _ x y g3 g4 g5 g6) gX2_addCourse_X2_isSpan rfl hdX2_isSpan ⟨Nat.le_of_ble_eq_true rfl, Nat.le_of_ble_eq_true rfl⟩ hH rfl hl.1 (Nat.le_of_ble_eq_true rfl) dX2_addCourse_12 ⟨Nat.le_of_ble_eq_true rfl, Nat.le_of_ble_eq_true rfl⟩ rfl (fun u H locs hH => ?_)
    have hH : HH G A s (sW G q n nc t fl fd k wd wf wa cd cf) H locs := hH
    refine lv_if_eq (tgt := 33) hx hb dX2_addCourse_15 (by decide) (fun c_15 => absurd c_15 (by decide)) (fun c_15 => ?_)
    refine lv_iload hx hb dX2_addCourse_18 (lv_at hl 4 rfl) ?_
    refine lv_iconst (v := 1) hx hb dX2_addCourse_20 (by decide) ?_
    refine lv_bipush (v := 40) hx hb dX2_addCourse_21 (by decide) ?_
    refine callSI0 (rest := []) F (c_X2_isWithin_0 l G _ z 1 40 h) gX2_addCourse_X2_isWithin rfl hdX2_isWithin ⟨Nat.le_of_ble_eq_true rfl, Nat.le_of_ble_eq_true rfl⟩ hH rfl hl.1 (Nat.le_of_ble_eq_true rfl) dX2_addCourse_23 ⟨Nat.le_of_ble_eq_true rfl, Nat.le_of_ble_eq_true rfl⟩ rfl (fun u H locs hH => ?_)
    have hH : HH G A s (sW G q n nc t fl fd k wd wf wa cd cf) H locs := hH
    refine lv_if_eq (tgt := 33) hx hb dX2_addCourse_26 (by decide) (fun c_26 => ?_) (fun c_26 => absurd rfl c_26)
    refine lv_iconst (v := 0) hx hb dX2_addCourse_33 (by decide) ?_
    exact callSX0 (rest := []) F (c_X2_requireArgument_0 l hst G _) gX2_addCourse_X2_requireArgument rfl hdX2_requireArgument ⟨Nat.le_of_ble_eq_true rfl, Nat.le_of_ble_eq_true rfl⟩ hH rfl hl.1 (Nat.le_of_ble_eq_true rfl) dX2_addCourse_34 ⟨Nat.le_of_ble_eq_true rfl, Nat.le_of_ble_eq_true rfl⟩ rfl htb (Nat.le_of_ble_eq_true rfl) (Nat.le_of_ble_eq_true rfl)

set_option maxHeartbeats 4000000 in
set_option maxRecDepth 100000 in
theorem c_X2_addCourse_3 (l : Launch) (hst : l.stackTraces = false) (G : Gx) (q : Nat → Nat) (n nc t : Nat) (fl fd : Int32) (k : Nat → Int32) (wd : Nat → Nat → Nat) (wf : Nat → Nat → Int32) (wa : Nat → Nat → Nat → Int32) (cd : Nat → Nat) (cf : Nat → Nat → Int32) (hnc : nc = 10) (w x y z : Int32) (h : 1 ≤ w ∧ w ≤ 8 ∧ 0 ≤ x ∧ x ≤ 200 ∧ x ≤ y ∧ y ≤ 200 ∧ 1 ≤ z ∧ z ≤ 40) : MX l yX2_addCourse wsX2_addCourse ({ frames := 7, cells := 1, slots := 6, locals := 110 } : Room) [.ref (q 0), .int w, .int x, .int y, .int z] G (sW G q n nc t fl fd k wd wf wa cd cf) "java/lang/IllegalStateException" := by
  refine ofMX (cc := cX2_addCourse) (maxL := 6) (ret := (some .int)) (by decide) rfl (Nat.le_of_ble_eq_true rfl) (fun p e s m below meth c A ls F htb hH hl => ?_)
  have F : Fx G p s m _ meth c cX2_addCourse 6 wsX2_addCourse RX2 A := F
  have hx := F.1.1
  have hb := F.1.2.1
  have hl : lv_has ls 6 [(0, .ref (q 0)), (1, .int w), (2, .int x), (3, .int y), (4, .int z)] := hl
  obtain ⟨g1, g2, g3, g4, g5, g6, g7, g8⟩ := h
  · refine lv_iload_n hx hb dX2_addCourse_0 rfl (lv_at hl 1 rfl) ?_
    refine lv_iconst (v := 1) hx hb dX2_addCourse_1 (by decide) ?_
    refine lv_bipush (v := 8) hx hb dX2_addCourse_2 (by decide) ?_
    refine callSI0 (rest := []) F (c_X2_isWithin_1 l G _ w 1 8 g1 g2) gX2_addCourse_X2_isWithin rfl hdX2_isWithin ⟨Nat.le_of_ble_eq_true rfl, Nat.le_of_ble_eq_true rfl⟩ hH rfl hl.1 (Nat.le_of_ble_eq_true rfl) dX2_addCourse_4 ⟨Nat.le_of_ble_eq_true rfl, Nat.le_of_ble_eq_true rfl⟩ rfl (fun u H locs hH => ?_)
    have hH : HH G A s (sW G q n nc t fl fd k wd wf wa cd cf) H locs := hH
    refine lv_if_eq (tgt := 33) hx hb dX2_addCourse_7 (by decide) (fun c_7 => absurd c_7 (by decide)) (fun c_7 => ?_)
    refine lv_iload_n hx hb dX2_addCourse_10 rfl (lv_at hl 2 rfl) ?_
    refine lv_iload_n hx hb dX2_addCourse_11 rfl (lv_at hl 3 rfl) ?_
    refine callSI0 (rest := []) F (c_X2_isSpan_1 l G _ x y g3 g4 g5 g6) gX2_addCourse_X2_isSpan rfl hdX2_isSpan ⟨Nat.le_of_ble_eq_true rfl, Nat.le_of_ble_eq_true rfl⟩ hH rfl hl.1 (Nat.le_of_ble_eq_true rfl) dX2_addCourse_12 ⟨Nat.le_of_ble_eq_true rfl, Nat.le_of_ble_eq_true rfl⟩ rfl (fun u H locs hH => ?_)
    have hH : HH G A s (sW G q n nc t fl fd k wd wf wa cd cf) H locs := hH
    refine lv_if_eq (tgt := 33) hx hb dX2_addCourse_15 (by decide) (fun c_15 => absurd c_15 (by decide)) (fun c_15 => ?_)
    refine lv_iload hx hb dX2_addCourse_18 (lv_at hl 4 rfl) ?_
    refine lv_iconst (v := 1) hx hb dX2_addCourse_20 (by decide) ?_
    refine lv_bipush (v := 40) hx hb dX2_addCourse_21 (by decide) ?_
    refine callSI0 (rest := []) F (c_X2_isWithin_1 l G _ z 1 40 g7 g8) gX2_addCourse_X2_isWithin rfl hdX2_isWithin ⟨Nat.le_of_ble_eq_true rfl, Nat.le_of_ble_eq_true rfl⟩ hH rfl hl.1 (Nat.le_of_ble_eq_true rfl) dX2_addCourse_23 ⟨Nat.le_of_ble_eq_true rfl, Nat.le_of_ble_eq_true rfl⟩ rfl (fun u H locs hH => ?_)
    have hH : HH G A s (sW G q n nc t fl fd k wd wf wa cd cf) H locs := hH
    refine lv_if_eq (tgt := 33) hx hb dX2_addCourse_26 (by decide) (fun c_26 => absurd c_26 (by decide)) (fun c_26 => ?_)
    refine lv_iconst (v := 1) hx hb dX2_addCourse_29 (by decide) ?_
    refine lv_goto (tgt := 34) hx hb dX2_addCourse_30 (by decide) ?_
    refine callSV0 (rest := []) F (c_X2_requireArgument_1 l G _) gX2_addCourse_X2_requireArgument rfl hdX2_requireArgument ⟨Nat.le_of_ble_eq_true rfl, Nat.le_of_ble_eq_true rfl⟩ hH rfl hl.1 (Nat.le_of_ble_eq_true rfl) dX2_addCourse_34 ⟨Nat.le_of_ble_eq_true rfl, Nat.le_of_ble_eq_true rfl⟩ rfl (fun u H locs hH => ?_)
    have hH : HH G A s (sW G q n nc t fl fd k wd wf wa cd cf) H locs := hH
    refine lv_aload_n hx hb dX2_addCourse_37 rfl (lv_at hl 0 rfl) ?_
    refine rget (C := RX2) (T := TX2) (N := 8) (ref := RX2) F in_X2_addCourse_X2 hH 0 rfl rfl 4 (by decide) (by decide +kernel) (fun _ h9 => h9) (v := .int (nI nc)) rfl dX2_addCourse_38 ?_
    refine lv_bipush (v := 10) hx hb dX2_addCourse_41 (by decide) ?_
    refine lv_icmp_ge (tgt := 50) hx hb dX2_addCourse_43 (by decide) (fun c_43 => ?_) (fun c_43 => absurd (by rw [hnc]; decide) c_43)
    refine lv_iconst (v := 0) hx hb dX2_addCourse_50 (by decide) ?_
    exact callSX0 (rest := []) F (c_X2_requireState_0 l hst G _) gX2_addCourse_X2_requireState rfl hdX2_requireState ⟨Nat.le_of_ble_eq_true rfl, Nat.le_of_ble_eq_true rfl⟩ hH rfl hl.1 (Nat.le_of_ble_eq_true rfl) dX2_addCourse_51 ⟨Nat.le_of_ble_eq_true rfl, Nat.le_of_ble_eq_true rfl⟩ rfl htb (Nat.le_of_ble_eq_true rfl) (Nat.le_of_ble_eq_true rfl)
end
