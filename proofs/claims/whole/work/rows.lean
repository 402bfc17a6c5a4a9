section
-- ===== PART A: goes FIRST, ahead of the names: the tables' words, and 'selects' of the private methods out of them =====
/-- a private method of a class that the tables say can be made, by its rows of tables_1 -/
def lw_okq (q : MethodName × Nat) : Prop := (q.1.cls ≠ "java/lang/invoke/MethodHandle" ∧ q.1.cls ≠ "java/lang/invoke/VarHandle") ∧ Cond.instantiable q.1.cls q.2 ∈ tables_1 ∧ Cond.privateMethod q.1 ∈ tables_1 ∧ Cond.instanceMethod q.1 ∈ tables_1
theorem lw_p0 : lw_okq (⟨"java/lang/Throwable", "fillInStackTrace", "(I)Ljava/lang/Throwable;"⟩, 6) := ⟨⟨by decide +kernel, by decide +kernel⟩, List.mem_of_getElem? (i := 117) (by decide +kernel), List.mem_of_getElem? (i := 115) (by decide +kernel), List.mem_of_getElem? (i := 116) (by decide +kernel)⟩
theorem lw_p1 : lw_okq (⟨"ShortWork", "workerAt", "(I)LShortWork$Worker;"⟩, 8) := ⟨⟨by decide +kernel, by decide +kernel⟩, List.mem_of_getElem? (i := 13) (by decide +kernel), List.mem_of_getElem? (i := 219) (by decide +kernel), List.mem_of_getElem? (i := 220) (by decide +kernel)⟩
theorem lw_p2 : lw_okq (⟨"ShortWork", "courseAt", "(I)LShortWork$Course;"⟩, 8) := ⟨⟨by decide +kernel, by decide +kernel⟩, List.mem_of_getElem? (i := 13) (by decide +kernel), List.mem_of_getElem? (i := 283) (by decide +kernel), List.mem_of_getElem? (i := 284) (by decide +kernel)⟩
theorem lw_p3 : lw_okq (⟨"ShortWork", "payCurrentWeek", "()I"⟩, 8) := ⟨⟨by decide +kernel, by decide +kernel⟩, List.mem_of_getElem? (i := 13) (by decide +kernel), List.mem_of_getElem? (i := 327) (by decide +kernel), List.mem_of_getElem? (i := 328) (by decide +kernel)⟩
theorem lw_p4 : lw_okq (⟨"ShortWork$Worker", "madeUpPercent", "(I)I"⟩, 12) := ⟨⟨by decide +kernel, by decide +kernel⟩, List.mem_of_getElem? (i := 159) (by decide +kernel), List.mem_of_getElem? (i := 335) (by decide +kernel), List.mem_of_getElem? (i := 336) (by decide +kernel)⟩
theorem lw_p5 : lw_okq (⟨"ShortWork$Worker", "stepPercent", "()I"⟩, 12) := ⟨⟨by decide +kernel, by decide +kernel⟩, List.mem_of_getElem? (i := 159) (by decide +kernel), List.mem_of_getElem? (i := 339) (by decide +kernel), List.mem_of_getElem? (i := 340) (by decide +kernel)⟩
theorem lw_p6 : lw_okq (⟨"ShortWork", "hasPassed", "(I)Z"⟩, 8) := ⟨⟨by decide +kernel, by decide +kernel⟩, List.mem_of_getElem? (i := 13) (by decide +kernel), List.mem_of_getElem? (i := 354) (by decide +kernel), List.mem_of_getElem? (i := 355) (by decide +kernel)⟩
theorem lw_p7 : lw_okq (⟨"ShortWork", "chargeBack", "(LShortWork$Worker;I)V"⟩, 8) := ⟨⟨by decide +kernel, by decide +kernel⟩, List.mem_of_getElem? (i := 13) (by decide +kernel), List.mem_of_getElem? (i := 397) (by decide +kernel), List.mem_of_getElem? (i := 398) (by decide +kernel)⟩
theorem lw_p8 : lw_okq (⟨"ShortWorkModel", "asks", "(Z)Z"⟩, 25) := ⟨⟨by decide +kernel, by decide +kernel⟩, List.mem_of_getElem? (i := 415) (by decide +kernel), List.mem_of_getElem? (i := 509) (by decide +kernel), List.mem_of_getElem? (i := 510) (by decide +kernel)⟩
theorem lw_p9 : lw_okq (⟨"ShortWorkModel", "fails", "(I)I"⟩, 25) := ⟨⟨by decide +kernel, by decide +kernel⟩, List.mem_of_getElem? (i := 415) (by decide +kernel), List.mem_of_getElem? (i := 513) (by decide +kernel), List.mem_of_getElem? (i := 514) (by decide +kernel)⟩
theorem lw_p10 : lw_okq (⟨"ShortWorkModel", "isWorker", "(I)Z"⟩, 25) := ⟨⟨by decide +kernel, by decide +kernel⟩, List.mem_of_getElem? (i := 415) (by decide +kernel), List.mem_of_getElem? (i := 521) (by decide +kernel), List.mem_of_getElem? (i := 522) (by decide +kernel)⟩
theorem lw_p11 : lw_okq (⟨"ShortWorkModel", "isCourse", "(I)Z"⟩, 25) := ⟨⟨by decide +kernel, by decide +kernel⟩, List.mem_of_getElem? (i := 415) (by decide +kernel), List.mem_of_getElem? (i := 533) (by decide +kernel), List.mem_of_getElem? (i := 534) (by decide +kernel)⟩
theorem lw_p12 : lw_okq (⟨"ShortWorkModel", "meets", "(II)Z"⟩, 25) := ⟨⟨by decide +kernel, by decide +kernel⟩, List.mem_of_getElem? (i := 415) (by decide +kernel), List.mem_of_getElem? (i := 537) (by decide +kernel), List.mem_of_getElem? (i := 538) (by decide +kernel)⟩
theorem lw_p13 : lw_okq (⟨"ShortWorkModel", "cutOf", "(II)I"⟩, 25) := ⟨⟨by decide +kernel, by decide +kernel⟩, List.mem_of_getElem? (i := 415) (by decide +kernel), List.mem_of_getElem? (i := 553) (by decide +kernel), List.mem_of_getElem? (i := 554) (by decide +kernel)⟩
theorem lw_p14 : lw_okq (⟨"ShortWorkModel", "fills", "(II)Z"⟩, 25) := ⟨⟨by decide +kernel, by decide +kernel⟩, List.mem_of_getElem? (i := 415) (by decide +kernel), List.mem_of_getElem? (i := 561) (by decide +kernel), List.mem_of_getElem? (i := 562) (by decide +kernel)⟩
theorem lw_p15 : lw_okq (⟨"ShortWorkModel", "pays", "(I)I"⟩, 25) := ⟨⟨by decide +kernel, by decide +kernel⟩, List.mem_of_getElem? (i := 415) (by decide +kernel), List.mem_of_getElem? (i := 569) (by decide +kernel), List.mem_of_getElem? (i := 570) (by decide +kernel)⟩
def lw_privs_1 : List (MethodName × Nat) := [(⟨"java/lang/Throwable", "fillInStackTrace", "(I)Ljava/lang/Throwable;"⟩, 6), (⟨"ShortWork", "workerAt", "(I)LShortWork$Worker;"⟩, 8), (⟨"ShortWork", "courseAt", "(I)LShortWork$Course;"⟩, 8), (⟨"ShortWork", "payCurrentWeek", "()I"⟩, 8), (⟨"ShortWork$Worker", "madeUpPercent", "(I)I"⟩, 12), (⟨"ShortWork$Worker", "stepPercent", "()I"⟩, 12), (⟨"ShortWork", "hasPassed", "(I)Z"⟩, 8), (⟨"ShortWork", "chargeBack", "(LShortWork$Worker;I)V"⟩, 8), (⟨"ShortWorkModel", "asks", "(Z)Z"⟩, 25), (⟨"ShortWorkModel", "fails", "(I)I"⟩, 25), (⟨"ShortWorkModel", "isWorker", "(I)Z"⟩, 25), (⟨"ShortWorkModel", "isCourse", "(I)Z"⟩, 25), (⟨"ShortWorkModel", "meets", "(II)Z"⟩, 25), (⟨"ShortWorkModel", "cutOf", "(II)I"⟩, 25), (⟨"ShortWorkModel", "fills", "(II)Z"⟩, 25), (⟨"ShortWorkModel", "pays", "(I)I"⟩, 25)]
theorem lw_r1 : ∀ q ∈ lw_privs_1, lw_okq q := List.forall_mem_cons.mpr ⟨lw_p0, List.forall_mem_cons.mpr ⟨lw_p1, List.forall_mem_cons.mpr ⟨lw_p2, List.forall_mem_cons.mpr ⟨lw_p3, List.forall_mem_cons.mpr ⟨lw_p4, List.forall_mem_cons.mpr ⟨lw_p5, List.forall_mem_cons.mpr ⟨lw_p6, List.forall_mem_cons.mpr ⟨lw_p7, List.forall_mem_cons.mpr ⟨lw_p8, List.forall_mem_cons.mpr ⟨lw_p9, List.forall_mem_cons.mpr ⟨lw_p10, List.forall_mem_cons.mpr ⟨lw_p11, List.forall_mem_cons.mpr ⟨lw_p12, List.forall_mem_cons.mpr ⟨lw_p13, List.forall_mem_cons.mpr ⟨lw_p14, List.forall_mem_cons.mpr ⟨lw_p15, fun _ h => absurd h List.not_mem_nil⟩⟩⟩⟩⟩⟩⟩⟩⟩⟩⟩⟩⟩⟩⟩⟩
theorem lw_p16 : lw_okq (⟨"ShortWorkModel", "percent", "(I)I"⟩, 25) := ⟨⟨by decide +kernel, by decide +kernel⟩, List.mem_of_getElem? (i := 415) (by decide +kernel), List.mem_of_getElem? (i := 573) (by decide +kernel), List.mem_of_getElem? (i := 574) (by decide +kernel)⟩
theorem lw_p17 : lw_okq (⟨"ShortWorkModel", "isPast", "(I)Z"⟩, 25) := ⟨⟨by decide +kernel, by decide +kernel⟩, List.mem_of_getElem? (i := 415) (by decide +kernel), List.mem_of_getElem? (i := 585) (by decide +kernel), List.mem_of_getElem? (i := 586) (by decide +kernel)⟩
def lw_privs_2 : List (MethodName × Nat) := [(⟨"ShortWorkModel", "percent", "(I)I"⟩, 25), (⟨"ShortWorkModel", "isPast", "(I)Z"⟩, 25)]
theorem lw_r2 : ∀ q ∈ lw_privs_2, lw_okq q := List.forall_mem_cons.mpr ⟨lw_p16, List.forall_mem_cons.mpr ⟨lw_p17, fun _ h => absurd h List.not_mem_nil⟩⟩
def lw_privs : List (MethodName × Nat) := lw_privs_1 ++ (lw_privs_2)
def lw_tbl : List Cond := k2_sels lw_privs ++ tables_1
theorem lw_privs_ok : ∀ q ∈ lw_privs, lw_okq q := by
  show ∀ q ∈ lw_privs_1 ++ (lw_privs_2), lw_okq q
  exact List.forall_mem_append.mpr ⟨lw_r1, lw_r2⟩
end
section
/-! ===== BEGIN words of one list among another's, by their places ===== -/
theorem goodIn_r {big : List Cond} (ws : List Cond) (ps : List Nat) (hp : ws = ps.filterMap (fun i => big[i]?)) (h : ws.all goodWord = true) : GoodIn big ws := by
  intro w hw
  have h1 := List.all_eq_true.mp h w hw
  rw [hp] at hw
  obtain ⟨i, -, hi⟩ := List.mem_filterMap.mp hw
  have hm : w ∈ big := by first | exact List.mem_of_getElem? hi | exact List.getElem?_mem hi
  exact ⟨hm, good_of_word h1⟩
theorem goodIn_app {big a b : List Cond} (ha : GoodIn big a) (hb : GoodIn big b) : GoodIn big (a ++ b) := fun w h => (List.mem_append.mp h).elim (ha w) (hb w)
theorem goodIn_ca {big a b : List Cond} {c : Cond} (ha : GoodIn big (c :: a)) (hb : GoodIn big b) : GoodIn big (c :: (a ++ b)) := fun w h => (List.mem_cons.mp h).elim (fun e => ha w (List.mem_cons.mpr (Or.inl e))) (fun h => (List.mem_append.mp h).elim (fun h => ha w (List.mem_cons.mpr (Or.inr h))) (hb w))
theorem goodIn_sub {big ws : List Cond} (hm : ∀ w ∈ ws, w ∈ big) (h : ws.all goodWord = true) : GoodIn big ws := fun w hw => ⟨hm w hw, good_of_word (List.all_eq_true.mp h w hw)⟩
/-! ===== END ===== -/

/-! ===== BEGIN exceptions that leave a method, and their catching by the caller (launches without stack traces) ===== -/
section VXA
/-! The laws vx_back, vx_callV, vx_callS, vx_callSW, vx_throw0, vx_throwS follow proofs of the library, with one case more: JvmDerived/Free/Laws.lean (Back.of_free), Shelf42/LK1.lean (callV, callS), Shelf/KitTraced.lean (throwNew0V, throwNewS). -/
/-- where a method has thrown q: the class by its name, the cell, what was written, the world -/
def vx_T (XC : String → State → State → Prop) (st : State) (q : Addr) (t : State) (mc ms : Nat) (free : Addr → Prop) : Prop :=
  ∃ (E : String) (ce : Cell) (L : List Loc), XC E st t ∧ t.heap[q]? = some ce ∧ ce.vm = .none ∧ st.vm.findClass E = some ce.cls ∧ st.WarmedH t.vm ∧ st.sameButNew ({ t with vm := st.vm } : State) L mc ms ∧ ∀ z ∈ L, free z.base
def vx_Q (Qc : Array Value → State → Outcome → State → Prop) (XC : String → State → State → Prop) (mc ms : Nat) (free : Addr → Prop) : Array Value → State → Outcome → State → Prop := fun a st o t =>
  (Qc a st o t ∧ ∃ L, FrameEnd st o t L mc ms ∧ ∀ q ∈ L, free q.base) ∨ ∃ q, o = .threw q ∧ vx_T XC st q t mc ms free
/-- a callee that returns or throws -/
def vx_Met (l : Launch) (y : MethodName) (ws : List Cond) (rm : Room) (Pc : Array Value → State → Prop) (Qc : Array Value → State → Outcome → State → Prop) (XC : String → State → State → Prop) (mc ms : Nat) (free : Addr → Prop) : Prop :=
  MetFree l y (headSpec ws rm) Pc (fun _ _ _ _ _ => True) (vx_Q Qc XC mc ms free)
def vx_Post (XC : String → State → State → Prop) (mc ms : Nat) (free : Addr → Prop) : Pt → Array Value → Addr → Pt → Prop := fun A a q B =>
  ∃ (g : JFrame) (mk : MethodId) (t : State) (L : List Loc) (E : String) (ce : Cell), B.U.heap = t.heap ∧ B.U.vm = t.vm ∧ XC E (A.U.calling g mk a) t ∧ t.heap[q]? = some ce ∧ ce.vm = .none ∧ A.U.vm.findClass E = some ce.cls ∧ B.locs = A.locs ++ L ∧ (∀ z ∈ L, free z.base) ∧ B.cells = A.cells + mc ∧ B.slots = A.slots + ms
def vx_Back (l : Launch) (R : Room) (p : Program) (e : Env) (below : List Frame) (s : State) (sargs : Array Value) (y : MethodName) (len W9 : Nat)
    (Pre : Pt → Array Value → Prop) (Post : Pt → Array Value → Option Value → Pt → Prop) (PostX : Pt → Array Value → Addr → Pt → Prop) : Prop :=
  ∀ (m : MethodId) (meth : Method) (c : Code) (A : Pt) (g : JFrame) (ig : Instr) (mk : MethodId) (a : Array Value),
    Stand p l e R s m sargs below meth c A.U A.locs A.cells A.slots → g.method = m → g.locals.size = c.maxLocals → decode c.code g.pc = .ok (ig, len) →
    2 * g.monitorRoom + (g.stack.map fun v => v.category).sum ≤ W9 → A.U.methodNamed? y = some mk → Pre A a →
    (∃ (v : Option Value) (B : Pt), Stand p l e R s m sargs below meth c B.U B.locs B.cells B.slots ∧ Post A a v B ∧
      Steps p.tables e below (doInvoke e (A.U.setTop g) [] mk a).1 (B.U.setTop { g with pc := g.pc + len, stack := v.toList ++ g.stack })) ∨
    (∃ (q : Addr) (B : Pt), Stand p l e R s m sargs below meth c B.U B.locs B.cells B.slots ∧ PostX A a q B ∧
      Steps p.tables e below (doInvoke e (A.U.setTop g) [] mk a).1 ((B.U.setTop g).pushFrame (.throwing q)))
section Payer
variable {l : Launch} {R : Room} {p : Program} {e : Env} {below : List Frame} {s : State} {sargs : Array Value} {y : MethodName} {len W9 : Nat}
theorem vx_back {ws : List Cond} {rm : Room} {Pc : Array Value → State → Prop} {Qc : Array Value → State → Outcome → State → Prop} {XC : String → State → State → Prop} {mc ms : Nat} {free : Addr → Prop} {bytes : ByteArray} {maxL : Nat} {ret : Option FieldType}
    (hM : vx_Met l y ws rm Pc Qc XC mc ms free) (hblind : FrameBlind Pc) (hrc : rm.cells = mc) (hrs : rm.slots = ms)
    (hframes : rm.frames + 1 ≤ R.frames) (hlocals : W9 + (maxL + 11) + rm.locals ≤ R.locals)
    (hws : ∀ w ∈ ws, ∀ a' U, s.WarmedH U.vm → w.before a' U = true) (hcode : Cond.code y bytes maxL ret ∈ ws) (hinit : ∀ a' U, s.WarmedH U.vm → (Cond.initialized y.cls).before a' U = true) :
    vx_Back l R p e below s sargs y len W9 (PreOf R mc ms Pc) (PostOf Qc mc ms free) (vx_Post XC mc ms free) := by
  intro m meth c A g ig mk a X hg hsize hdg hW hn hp
  have h1 : (headSpec ws rm).pre.before a A.U = true := atoms_intro fun w hw => hws w hw _ _ X.warmed
  have h2 : (Cond.code y bytes maxL ret).before a A.U = true := hws _ hcode _ _ X.warmed
  have h3 : (Cond.initialized y.cls).before a A.U = true := hinit _ _ X.warmed
  have h4 : A.cells + (headSpec ws rm).room.cells ≤ R.cells := by rw [show (headSpec ws rm).room.cells = mc from hrc]; exact hp.1
  have h5 : A.slots + (headSpec ws rm).room.slots ≤ R.slots := by rw [show (headSpec ws rm).room.slots = ms from hrs]; exact hp.2.1
  have hPc : Pc a (A.U.calling g mk a) := hblind _ _ _ _ hp.2.2
  obtain ⟨U, Ls, c0, s0⟩ := A
  dsimp only [Pt.U, Pt.locs, Pt.cells, Pt.slots] at h1 h2 h3 h4 h5 X hn hPc ⊢
  obtain ⟨methY, cY, hmY, hcY, -, hlY, -, -, -, -⟩ := Cond.code_spec hn h2
  obtain ⟨kY, hkY, -⟩ := className_of_methodNamed hn
  have hinitY : kY.init = .initialized := Cond.initialized_spec (findClass_of_methodNamed hn) hkY h3
  have h : At U g.method c below := by rw [hg]; exact X.here
  have hlocals9 : W9 + (maxL + 11) + (headSpec ws rm).room.locals ≤ R.locals := hlocals
  have happ : (headSpec ws rm).appliesLoose y e.platform (U.calling g mk a) = true :=
    Spec.appliesLoose_calling (g := g) h hdg hn hkY hinitY
      (X.room_calling (g := g) (R' := (headSpec ws rm).room) hsize hmY hcY hframes (by rw [hlY]; omega) h4 h5) h1
  obtain ⟨mid, hmid⟩ := h.above
  have hfr : (U.setTop g).frames = (.java g :: mid) ++ below := by rw [State.frames_setTop' g h.top, hmid]; rfl
  obtain ⟨o, s₂, hsteps, -, hend, hq⟩ := Steps.callFree hM p X.admits X.cas X.clock (acts := []) hfr happ hPc trivial
  have hq' : vx_Q Qc XC mc ms free a (U.calling g mk a) o s₂ := hq
  rw [State.frames_setTop' g h.top] at hend
  obtain ⟨g₀, hg0⟩ := Option.isSome_iff_exists.mp h.top
  obtain ⟨r, hr⟩ := State.topJava?_eq_some.mp hg0
  have hr' : (({ U with heap := s₂.heap, slotsUsed := s₂.slotsUsed } : State).setVm s₂.vm).frames = .java g₀ :: r := hr
  rcases hq' with ⟨hqc, L, hfe, hL⟩ | ⟨q, rfl, E, ce, L, hx, hce, hcv, hcl, hW₂, hsm, hL⟩
  · obtain ⟨⟨v, rfl⟩, hW₂, e2, q2, q3, q4, q5, q6⟩ := id hfe
    have e3 : s₂ = ({ (U.calling g mk a).setFrames s₂.frames with heap := s₂.heap, slotsUsed := s₂.slotsUsed } : State).setVm s₂.vm := by
      have : s₂ = ({ s₂ with vm := (U.calling g mk a).vm } : State).setVm s₂.vm := rfl
      rw [e2] at this
      exact this
    obtain ⟨c₂, i₂, len₂, hc₂, hd₂, hf₂⟩ := hend
    have hW' : U.WarmedH s₂.vm := hW₂
    have hcc : c₂ = c := by
      have h1 : s₂.code? g.method = U.code? g.method := by
        rw [State.code?_eq, State.code?_eq, hW'.alike.method?]
      exact Option.some.inj (hc₂.symm.trans (h1.trans h.code))
    subst hcc
    have hlen : len₂ = len := by rw [hdg] at hd₂; cases hd₂; rfl
    subst hlen
    have hs₂ : s₂ = (({ U with heap := s₂.heap, slotsUsed := s₂.slotsUsed } : State).setVm s₂.vm).setTop { g with pc := g.pc + len₂, stack := v.toList ++ g.stack } := by
      refine e3.trans ?_
      rw [hf₂, State.calling_eq h.top, State.setFrames_setFrames, State.setTop_of_frames _ hr', hr]
      rfl
    have hsame : U.sameButNew ({ U with heap := s₂.heap, slotsUsed := s₂.slotsUsed } : State) L mc ms := by
      refine ⟨?_, q2, q3, q4, q5, q6⟩
      obtain ⟨t, ht, -⟩ := State.frames_cons hr
      show ({ U with heap := s₂.heap, slotsUsed := s₂.slotsUsed } : State) = { U.setFrames U.frames with heap := s₂.heap, slotsUsed := s₂.slotsUsed }
      rw [State.setFrames_self ht]
    subst hg
    refine Or.inl ⟨v, ⟨(({ U with heap := s₂.heap, slotsUsed := s₂.slotsUsed } : State).setVm s₂.vm), Ls ++ L, c0 + mc, s0 + ms⟩,
      ⟨X.admits, X.cas, X.clock, X.frames, X.room, X.hears, X.method, X.code, (X.here.setHeapUsed s₂.heap s₂.slotsUsed).setVm hW'.alike, X.tail, State.WarmedH.trans X.warmed hW', X.limits, X.bytes, X.same.trans (hsame.setVm s.vm)⟩,
      ⟨g, mk, s₂, L, rfl, rfl, hqc, rfl, hL, rfl, rfl⟩, ?_⟩
    show Steps p.tables e below _ ((({ U with heap := s₂.heap, slotsUsed := s₂.slotsUsed } : State).setVm s₂.vm).setTop { g with pc := g.pc + len₂, stack := v.toList ++ g.stack })
    rw [← hs₂]
    exact hsteps
  · obtain ⟨e2, q2, q3, q4, q5, q6⟩ := id hsm
    have e3 : s₂ = ({ (U.calling g mk a).setFrames s₂.frames with heap := s₂.heap, slotsUsed := s₂.slotsUsed } : State).setVm s₂.vm := by
      have : s₂ = ({ s₂ with vm := (U.calling g mk a).vm } : State).setVm s₂.vm := rfl
      rw [e2] at this
      exact this
    have hf₂ : s₂.frames = .throwing q :: .java g :: U.frames.tail := hend
    have hW' : U.WarmedH s₂.vm := hW₂
    have hs₂ : s₂ = ((({ U with heap := s₂.heap, slotsUsed := s₂.slotsUsed } : State).setVm s₂.vm).setTop g).pushFrame (.throwing q) := by
      refine e3.trans ?_
      rw [hf₂, State.calling_eq h.top, State.setFrames_setFrames, State.pushFrame, State.frames_setTop _ hr', State.setTop_of_frames _ hr', State.setFrames_setFrames, hr]
      rfl
    have hsame : U.sameButNew ({ U with heap := s₂.heap, slotsUsed := s₂.slotsUsed } : State) L mc ms := by
      refine ⟨?_, q2, q3, q4, q5, q6⟩
      obtain ⟨t, ht, -⟩ := State.frames_cons hr
      show ({ U with heap := s₂.heap, slotsUsed := s₂.slotsUsed } : State) = { U.setFrames U.frames with heap := s₂.heap, slotsUsed := s₂.slotsUsed }
      rw [State.setFrames_self ht]
    subst hg
    refine Or.inr ⟨q, ⟨(({ U with heap := s₂.heap, slotsUsed := s₂.slotsUsed } : State).setVm s₂.vm), Ls ++ L, c0 + mc, s0 + ms⟩,
      ⟨X.admits, X.cas, X.clock, X.frames, X.room, X.hears, X.method, X.code, (X.here.setHeapUsed s₂.heap s₂.slotsUsed).setVm hW'.alike, X.tail, State.WarmedH.trans X.warmed hW', X.limits, X.bytes, X.same.trans (hsame.setVm s.vm)⟩,
      ⟨g, mk, s₂, L, E, ce, rfl, rfl, hx, hce, hcv, hcl, rfl, hL, rfl, rfl⟩, ?_⟩
    show Steps p.tables e below _ (((({ U with heap := s₂.heap, slotsUsed := s₂.slotsUsed } : State).setVm s₂.vm).setTop g).pushFrame (.throwing q))
    rw [← hs₂]
    exact hsteps
end Payer
section Calls
variable {p : Program} {l : Launch} {e : Env} {R : Room} {s : State} {m : MethodId} {args : Array Value} {below : List Frame} {meth : Method} {c : Code} {T : State} {locs : List Loc} {cells slots : Nat}
theorem vx_callV (X : Stand p l e R s m args below meth c T locs cells slots) (hexec : p.tables.exec = Jvm.exec) {own C : String} {index : Nat} {y : MethodName} {bytes : ByteArray} {maxL : Nat} {ret : Option FieldType}
    (hown : s.vm.findClass own = some m.cls) (hlink : (Cond.methodLink own index y).before args s = true) (hinst : (Cond.instanceMethod y).before args s = true) (hsel : (Cond.selects C y y).before args s = true)
    (hcode : (Cond.code y bytes maxL ret).before args s = true) (hy : y.cls ≠ "java/lang/invoke/MethodHandle" ∧ y.cls ≠ "java/lang/invoke/VarHandle")
    {W9 : Nat} {Pre : Pt → Array Value → Prop} {Post : Pt → Array Value → Option Value → Pt → Prop} {PostX : Pt → Array Value → Addr → Pt → Prop} (hK : vx_Back l R p e below s args y 3 W9 Pre Post PostX)
    {b : Addr} {cellB : Cell} (hcell : T.heap[b]? = some cellB) (hobj : cellB.vm.isStatics = false) (hcls : s.vm.findClass C = some cellB.cls)
    {g : JFrame} (hg : g.method = m) (hsize : g.locals.size = c.maxLocals) {argsL rest : List Value} (hlen : ∀ sig, parseMethodDescriptor y.desc = some sig → argsL.length = sig.parameters.length)
    (hstack : g.stack = argsL.reverse ++ .ref b :: rest) (hW : 2 * g.monitorRoom + (rest.map fun v => v.category).sum ≤ W9) (hdg : decode c.code g.pc = .ok (.invokevirtual index, 3))
    (hpre : ∀ vm₁, s.WarmedH vm₁ → Pre ⟨T.setVm vm₁, locs, cells, slots⟩ (Value.ref b :: argsL).toArray) :
    (∃ (v : Option Value) (vm₁ : Vm) (B : Pt), s.WarmedH vm₁ ∧ Stand p l e R s m args below meth c B.U B.locs B.cells B.slots ∧ Post ⟨T.setVm vm₁, locs, cells, slots⟩ (Value.ref b :: argsL).toArray v B ∧
      ∀ target, Steps p.tables e below (B.U.setTop { g with pc := g.pc + 3, stack := v.toList ++ rest }) target → Steps p.tables e below (T.setTop g) target) ∨
    (∃ (q : Addr) (vm₁ : Vm) (B : Pt), s.WarmedH vm₁ ∧ Stand p l e R s m args below meth c B.U B.locs B.cells B.slots ∧ PostX ⟨T.setVm vm₁, locs, cells, slots⟩ (Value.ref b :: argsL).toArray q B ∧
      Steps p.tables e below (T.setTop g) ((B.U.setTop { g with stack := rest }).pushFrame (.throwing q))) := by
  obtain ⟨mk, methM, hnamed, hmethM, hstM, habM⟩ := Cond.instanceMethod_spec hinst
  obtain ⟨methM', cM, hmethM', -, -, -, -, -, -, hsigM⟩ := Cond.code_spec hnamed hcode
  cases hmethM.symm.trans hmethM'
  obtain ⟨c2, r2, m2, q1, q2, q3, q4, kP, hkP, hkPi⟩ := Cond.selects_spec hsel
  cases hcls.symm.trans q1
  cases (State.methodFound?_of_named hnamed hy).symm.trans q2
  cases hnamed.symm.trans q3
  have hselP : selectMethod e.platform s.vm cellB.cls mk = .method mk := by rw [Launch.admits_selectMethod X.admits]; exact q4
  obtain ⟨vm₁, X₁, hstep₁⟩ := X.invokevirtual hexec hown hlink hnamed hmethM hstM hkP hkPi hy (a := b) (cell := cellB) hcell
    (fun z h => by rw [h] at hobj; cases hobj) hselP hmethM habM hkP hkPi (g := g) hg (argsL := argsL) (rest := rest) (hlen _ hsigM) hstack hdg
  rcases hK m meth c ⟨T.setVm vm₁, locs, cells, slots⟩ { g with stack := rest } (.invokevirtual index) mk (Value.ref b :: argsL).toArray X₁ hg hsize hdg hW (X₁.named hnamed) (hpre vm₁ X₁.warmed) with ⟨v, B, X', hpost, hsteps⟩ | ⟨q, B, X', hpost, hsteps⟩
  · exact Or.inl ⟨v, vm₁, B, X₁.warmed, X', hpost, fun target h => hstep₁ _ fun acts => by rw [doInvoke_state]; exact hsteps.trans h⟩
  · exact Or.inr ⟨q, vm₁, B, X₁.warmed, X', hpost, hstep₁ _ fun acts => by rw [doInvoke_state]; exact hsteps⟩
theorem vx_callS (X : Stand p l e R s m args below meth c T locs cells slots) (hexec : p.tables.exec = Jvm.exec) {own : String} {index : Nat} {y : MethodName} {bytes : ByteArray} {maxL : Nat} {ret : Option FieldType}
    (hown : s.vm.findClass own = some m.cls) (hlink : (Cond.methodLink own index y).before args s = true) (hstat : (Cond.static y).before args s = true) (hinit : (Cond.initialized y.cls).before args s = true)
    (hcode : (Cond.code y bytes maxL ret).before args s = true) (hy : y.cls ≠ "java/lang/invoke/MethodHandle" ∧ y.cls ≠ "java/lang/invoke/VarHandle")
    {W9 : Nat} {Pre : Pt → Array Value → Prop} {Post : Pt → Array Value → Option Value → Pt → Prop} {PostX : Pt → Array Value → Addr → Pt → Prop} (hK : vx_Back l R p e below s args y 3 W9 Pre Post PostX)
    {g : JFrame} (hg : g.method = m) (hsize : g.locals.size = c.maxLocals) {argsL rest : List Value} (hlen : ∀ sig, parseMethodDescriptor y.desc = some sig → argsL.length = sig.parameters.length)
    (hstack : g.stack = argsL.reverse ++ rest) (hW : 2 * g.monitorRoom + (rest.map fun v => v.category).sum ≤ W9) (hdg : decode c.code g.pc = .ok (.invokestatic index, 3))
    (hpre : ∀ vm₁, s.WarmedH vm₁ → Pre ⟨T.setVm vm₁, locs, cells, slots⟩ argsL.toArray) :
    (∃ (v : Option Value) (vm₁ : Vm) (B : Pt), s.WarmedH vm₁ ∧ Stand p l e R s m args below meth c B.U B.locs B.cells B.slots ∧ Post ⟨T.setVm vm₁, locs, cells, slots⟩ argsL.toArray v B ∧
      ∀ target, Steps p.tables e below (B.U.setTop { g with pc := g.pc + 3, stack := v.toList ++ rest }) target → Steps p.tables e below (T.setTop g) target) ∨
    (∃ (q : Addr) (vm₁ : Vm) (B : Pt), s.WarmedH vm₁ ∧ Stand p l e R s m args below meth c B.U B.locs B.cells B.slots ∧ PostX ⟨T.setVm vm₁, locs, cells, slots⟩ argsL.toArray q B ∧
      Steps p.tables e below (T.setTop g) ((B.U.setTop { g with stack := rest }).pushFrame (.throwing q))) := by
  obtain ⟨mk, hnamed⟩ := Cond.code_named hcode
  obtain ⟨methM, cM, hmethM, -, -, -, -, -, -, hsigM⟩ := Cond.code_spec hnamed hcode
  have hstatic : methM.isStatic = true := Cond.static_spec hnamed hmethM hstat
  obtain ⟨kP, hkP, -⟩ := className_of_methodNamed hnamed
  have hinitP : kP.init = .initialized := Cond.initialized_spec (findClass_of_methodNamed hnamed) hkP hinit
  obtain ⟨vm₁, X₁, hstep₁⟩ := X.invokestatic hexec hown hlink hnamed hmethM hstatic hkP hinitP hy (g := g) hg (argsL := argsL) (rest := rest) (hlen _ hsigM) hstack hdg
  rcases hK m meth c ⟨T.setVm vm₁, locs, cells, slots⟩ { g with stack := rest } (.invokestatic index) mk argsL.toArray X₁ hg hsize hdg hW (X₁.named hnamed) (hpre vm₁ X₁.warmed) with ⟨v, B, X', hpost, hsteps⟩ | ⟨q, B, X', hpost, hsteps⟩
  · exact Or.inl ⟨v, vm₁, B, X₁.warmed, X', hpost, fun target h => hstep₁ _ fun acts => by rw [doInvoke_state]; exact hsteps.trans h⟩
  · exact Or.inr ⟨q, vm₁, B, X₁.warmed, X', hpost, hstep₁ _ fun acts => by rw [doInvoke_state]; exact hsteps⟩
end Calls
theorem vx_cls {s : State} {T : State} {vm₁ : Vm} {E : String} {k : ClassId} (hW : s.WarmedH vm₁) (h : (T.setVm vm₁).vm.findClass E = some k) : s.vm.findClass E = some k := by
  have h1 : vm₁.findClass E = some k := h
  rw [hW.alike.findClass] at h1
  exact h1
/-- the method's frame g, with q thrown over it -/
def vx_W (p : Program) (l : Launch) (e : Env) (R : Room) (s : State) (m : MethodId) (args : Array Value) (below : List Frame) (meth : Method) (c : Code) (H : Heap) (locs : List Loc) (cells slots : Nat) (Q : State → Prop) (g : JFrame) (q : Addr) : Prop :=
  ∀ T : State, T.heap = H → Stand p l e R s m args below meth c T locs cells slots → ∃ t, Steps p.tables e below ((T.setTop g).pushFrame (.throwing q)) t ∧ Q t
def vx_Run (p : Program) (l : Launch) (e : Env) (R : Room) (s : State) (m : MethodId) (args : Array Value) (below : List Frame) (meth : Method) (c : Code) (H : Heap) (locs : List Loc) (cells slots mc ms : Nat) (g : JFrame) (rest : List Value) (Qa : State → Outcome → State → Prop) (XC : String → State → State → Prop) (free : Addr → Prop) : Prop :=
  ∀ T : State, T.heap = H → Stand p l e R s m args below meth c T locs cells slots →
    (∃ (v : Option Value) (st₀ t T' : State) (L : List Loc), st₀.heap = H ∧ Stand p l e R s m args below meth c T' (locs ++ L) (cells + mc) (slots + ms) ∧ (∀ q ∈ L, free q.base) ∧ T'.heap = t.heap ∧ T'.vm = t.vm ∧ Qa st₀ (.returned v) t ∧
      Goes p e below T g T' { g with pc := g.pc + 3, stack := v.toList ++ rest }) ∨
    (∃ (q : Addr) (st₀ t T' : State) (L : List Loc) (E : String) (ce : Cell), st₀.heap = H ∧ Stand p l e R s m args below meth c T' (locs ++ L) (cells + mc) (slots + ms) ∧ (∀ z ∈ L, free z.base) ∧ T'.heap = t.heap ∧ T'.vm = t.vm ∧ XC E st₀ t ∧ t.heap[q]? = some ce ∧ ce.vm = .none ∧ s.vm.findClass E = some ce.cls ∧
      Steps p.tables e below (T.setTop g) ((T'.setTop { g with stack := rest }).pushFrame (.throwing q)))
def vx_X {S : Type} (px : S → Prop) (B : String → S → State → Prop) (A : Nat → Prop) : String → State → State → Prop := fun E st t => ∃ u : S, px u ∧ B E u t ∧ va_F A st t
section Runs
variable {p : Program} {l : Launch} {e : Env} {R : Room} {s : State} {m : MethodId} {args : Array Value} {below : List Frame} {meth : Method} {c : Code} {H : Heap} {locs : List Loc} {cells slots : Nat}
variable {y : MethodName} {bytes cc : ByteArray} {maxL nL mc ms n index : Nat} {ret : Option FieldType} {ws : List Cond} {rm : Room} {Pc : Array Value → State → Prop} {Qc : Array Value → State → Outcome → State → Prop} {XC : String → State → State → Prop} {free : Addr → Prop} {Ts : List Cond} {own C : String} {b : Addr} {As rest : List Value} {g : JFrame}
theorem vx_callBack (cb : CallB R s args own index y bytes maxL ret ws rm mc ms n) (hM : vx_Met l y ws rm Pc Qc XC mc ms free) (hbl : FrameBlind Pc) : vx_Back l R p e below s args y 3 8 (PreOf R mc ms Pc) (PostOf Qc mc ms free) (vx_Post XC mc ms free) := by
  obtain ⟨hrc, hrs, hfr, hlo, hws, hcw, -, hini, -⟩ := cb
  exact vx_back (bytes := bytes) (maxL := maxL) (ret := ret) hM hbl hrc hrs hfr hlo hws hcw (fun a' U hW => word_at hW (Or.inl (by first | rfl | simp [Cond.onTables, Cond.keeps, Cond.steady])) hini)
theorem vx_runV (S : CallFix p m c cc nL s args Ts own) (hM : vx_Met l y ws rm Pc Qc XC mc ms free) (cw : CallW R s args own C index y bytes maxL ret ws rm mc ms n) (hp : PreV s H C b Pc As)
    (hg : g.method = m) (hn : As.length = n) (hsize : g.locals.size = nL) (hstack : g.stack = As.reverse ++ .ref b :: rest) (hW : 2 * g.monitorRoom + (rest.map fun v => v.category).sum ≤ 8) (hdg : decode cc g.pc = .ok (.invokevirtual index, 3)) (hf : cells + mc ≤ R.cells ∧ slots + ms ≤ R.slots) :
    vx_Run p l e R s m args below meth c H locs cells slots mc ms g rest (Qc (Value.ref b :: As).toArray) XC free := by
  have hK : vx_Back l R p e below s args y 3 8 (PreOf R mc ms Pc) (PostOf Qc mc ms free) (vx_Post XC mc ms free) := vx_callBack cw.1 hM hp.1
  obtain ⟨⟨-, -, -, -, -, -, hcode, -, hy, hlen, hl⟩, hin, hse⟩ := cw
  obtain ⟨hx, hb, hml, ho, -⟩ := S
  obtain ⟨-, ⟨cellB, hcB, hoB, hclB⟩, hPc⟩ := hp
  intro T hT X
  rcases vx_callV X hx (C := C) (bytes := bytes) (maxL := maxL) (ret := ret) ho hl hin hse hcode hy hK (by rw [hT]; exact hcB) hoB hclB hg (hsize.trans hml.symm) (argsL := As) (rest := rest) (fun sig h => hn.trans (hlen sig h)) hstack hW (by rw [hb]; exact hdg)
    (fun vm₁ hW₁ => ⟨hf.1, hf.2, hPc (T.setVm vm₁) hT hW₁⟩) with ⟨v, vm₁, ⟨U', l2, c2, s2⟩, hW₁, X', ⟨g', mk, t, L, e1, e2, hq, h1, hL, h2, h3⟩, st⟩ | ⟨q, vm₁, ⟨U', l2, c2, s2⟩, hW₁, X', ⟨g', mk, t, L, E, ce, e1, e2, hq, hce, hcv, hcl, h1, hL, h2, h3⟩, st⟩
  · dsimp only [Pt.U, Pt.locs, Pt.cells, Pt.slots] at X' e1 e2 h1 h2 h3 st
    subst h1; subst h2; subst h3
    exact Or.inl ⟨v, (T.setVm vm₁).calling g' mk (Value.ref b :: As).toArray, t, U', L, hT, X', hL, e1, e2, hq, st⟩
  · dsimp only [Pt.U, Pt.locs, Pt.cells, Pt.slots] at X' e1 e2 h1 h2 h3 st hcl
    subst h1; subst h2; subst h3
    exact Or.inr ⟨q, (T.setVm vm₁).calling g' mk (Value.ref b :: As).toArray, t, U', L, E, ce, hT, X', hL, e1, e2, hq, hce, hcv, vx_cls hW₁ hcl, st⟩
theorem vx_runS (S : CallFix p m c cc nL s args Ts own) (hM : vx_Met l y ws rm Pc Qc XC mc ms free) (cw : CallB R s args own index y bytes maxL ret ws rm mc ms n ∧ (Cond.static y).before args s = true) (hp : PreS s H Pc As)
    (hg : g.method = m) (hn : As.length = n) (hsize : g.locals.size = nL) (hstack : g.stack = As.reverse ++ rest) (hW : 2 * g.monitorRoom + (rest.map fun v => v.category).sum ≤ 8) (hdg : decode cc g.pc = .ok (.invokestatic index, 3)) (hf : cells + mc ≤ R.cells ∧ slots + ms ≤ R.slots) :
    vx_Run p l e R s m args below meth c H locs cells slots mc ms g rest (Qc As.toArray) XC free := by
  have hK : vx_Back l R p e below s args y 3 8 (PreOf R mc ms Pc) (PostOf Qc mc ms free) (vx_Post XC mc ms free) := vx_callBack cw.1 hM hp.1
  obtain ⟨⟨-, -, -, -, -, -, hcode, hini, hy, hlen, hl⟩, hstt⟩ := cw
  obtain ⟨hx, hb, hml, ho, -⟩ := S
  intro T hT X
  rcases vx_callS X hx (bytes := bytes) (maxL := maxL) (ret := ret) ho hl hstt hini hcode hy hK hg (hsize.trans hml.symm) (argsL := As) (rest := rest) (fun sig h => hn.trans (hlen sig h)) hstack hW (by rw [hb]; exact hdg)
    (fun vm₁ hW₁ => ⟨hf.1, hf.2, hp.2 (T.setVm vm₁) hT hW₁⟩) with ⟨v, vm₁, ⟨U', l2, c2, s2⟩, hW₁, X', ⟨g', mk, t, L, e1, e2, hq, h1, hL, h2, h3⟩, st⟩ | ⟨q, vm₁, ⟨U', l2, c2, s2⟩, hW₁, X', ⟨g', mk, t, L, E, ce, e1, e2, hq, hce, hcv, hcl, h1, hL, h2, h3⟩, st⟩
  · dsimp only [Pt.U, Pt.locs, Pt.cells, Pt.slots] at X' e1 e2 h1 h2 h3 st
    subst h1; subst h2; subst h3
    exact Or.inl ⟨v, (T.setVm vm₁).calling g' mk As.toArray, t, U', L, hT, X', hL, e1, e2, hq, st⟩
  · dsimp only [Pt.U, Pt.locs, Pt.cells, Pt.slots] at X' e1 e2 h1 h2 h3 st hcl
    subst h1; subst h2; subst h3
    exact Or.inr ⟨q, (T.setVm vm₁).calling g' mk As.toArray, t, U', L, E, ce, hT, X', hL, e1, e2, hq, hce, hcv, vx_cls hW₁ hcl, st⟩
end Runs
section Rows
variable {p : Program} {l : Launch} {e : Env} {R : Room} {s : State} {m : MethodId} {args : Array Value} {below : List Frame} {meth : Method} {c : Code} {H : Heap} {locs : List Loc} {cells slots : Nat} {Q : State → Prop}
variable {mc ms : Nat} {free : Addr → Prop} {A0 A1 : Nat → Prop} {H0 : Heap} {a : Array Value} {pc : Nat} {ls : Array Slot} {st0 rest : List Value}
theorem vx_keep {st₀ t T' : State} {L : List Loc} (h0 : st₀.heap = H) (e1 : T'.heap = t.heap) (hS : va_S A0 H0 H locs) (hA : ∀ q, q < H.size → A1 q → A0 q) (hf : ∀ q, free q → A0 q) (hL : ∀ q ∈ L, free q.base) (hF : va_F A1 st₀ t) :
    H.size ≤ T'.heap.size ∧ (∀ q : Nat, q < H.size → ¬ A1 q → T'.heap[q]? = H[q]?) ∧ va_S A0 H0 T'.heap (locs ++ L) := by
  obtain ⟨hz, hk⟩ := hF
  rw [h0] at hz hk
  exact ⟨by rw [e1]; exact hz, fun q h1 h2 => by rw [e1]; exact hk q h1 h2,
    ⟨Nat.le_trans hS.1 (by rw [e1]; exact hz), fun q h1 h2 => by rw [e1, hk q (Nat.lt_of_lt_of_le h1 hS.1) (fun z => h2 (hA q (Nat.lt_of_lt_of_le h1 hS.1) z))]; exact hS.2.1 q h1 h2, fun q hq => by
      rcases List.mem_append.mp hq with h | h
      · exact hS.2.2 q h
      · exact hf _ (hL q h)⟩⟩
theorem vx_calli {S SX : Type} {post : Int32 → S → Prop} {px : SX → Prop} {B : S → State → Prop} {BX : String → SX → State → Prop} {AX : Nat → Prop} (hr : vx_Run p l e R s m args below meth c H locs cells slots mc ms (F0 m pc ls st0) rest (va_Qi post B A1 a) (vx_X px BX AX) free) (hS : va_S A0 H0 H locs) (hA : ∀ q, q < H.size → A1 q → A0 q) (hf : ∀ q, free q → A0 q) (hAX : ∀ q, q < H.size → AX q → A0 q)
    (kx : ∀ (E : String) (ce : Cell) (q9 : Addr) (u : SX) (t : State) (H1 : Heap) (locs1 : List Loc), t.heap = H1 → s.vm.Alike t.vm → px u → BX E u t → H.size ≤ H1.size → (∀ q : Nat, q < H.size → ¬ AX q → H1[q]? = H[q]?) → va_S A0 H0 H1 locs1 → H1[q9]? = some ce → ce.vm = .none → s.vm.findClass E = some ce.cls → vx_W p l e R s m args below meth c H1 locs1 (cells + mc) (slots + ms) Q (F0 m pc ls rest) q9)
    (kk : ∀ (r : Int32) (u : S) (t : State) (H1 : Heap) (locs1 : List Loc), t.heap = H1 → s.vm.Alike t.vm → post r u → B u t → H.size ≤ H1.size → (∀ q : Nat, q < H.size → ¬ A1 q → H1[q]? = H[q]?) → va_S A0 H0 H1 locs1 → W p l e R s m args below meth c H1 locs1 (cells + mc) (slots + ms) Q (F0 m (pc + 3) ls (.int r :: rest))) : W p l e R s m args below meth c H locs cells slots Q (F0 m pc ls st0) := by
  intro T hT X
  rcases hr T hT X with ⟨v, st₀, t, T', L, h0, X', hL, e1, e2, ⟨⟨r, u, hv, hp, hb⟩, hF⟩, st⟩ | ⟨q, st₀, t, T', L, E, ce, h0, X', hL, e1, e2, ⟨u, hp, hb, hF⟩, hce, hcv, hcl, st⟩
  · cases hv
    obtain ⟨k1, k2, k3⟩ := vx_keep h0 e1 hS hA hf hL hF
    obtain ⟨t2, a1, b1⟩ := kk r u t T'.heap (locs ++ L) e1.symm (by rw [← e2]; exact X'.warmed.alike) hp hb k1 k2 k3 T' rfl X'
    exact ⟨t2, st t2 a1, b1⟩
  · obtain ⟨k1, k2, k3⟩ := vx_keep h0 e1 hS hAX hf hL hF
    obtain ⟨t2, a1, b1⟩ := kx E ce q u t T'.heap (locs ++ L) e1.symm (by rw [← e2]; exact X'.warmed.alike) hp hb k1 k2 k3 (by rw [e1]; exact hce) hcv hcl T' rfl X'
    exact ⟨t2, st.trans a1, b1⟩
theorem vx_calll {S SX : Type} {post : Int64 → S → Prop} {px : SX → Prop} {B : S → State → Prop} {BX : String → SX → State → Prop} {AX : Nat → Prop} (hr : vx_Run p l e R s m args below meth c H locs cells slots mc ms (F0 m pc ls st0) rest (va_Ql post B A1 a) (vx_X px BX AX) free) (hS : va_S A0 H0 H locs) (hA : ∀ q, q < H.size → A1 q → A0 q) (hf : ∀ q, free q → A0 q) (hAX : ∀ q, q < H.size → AX q → A0 q)
    (kx : ∀ (E : String) (ce : Cell) (q9 : Addr) (u : SX) (t : State) (H1 : Heap) (locs1 : List Loc), t.heap = H1 → s.vm.Alike t.vm → px u → BX E u t → H.size ≤ H1.size → (∀ q : Nat, q < H.size → ¬ AX q → H1[q]? = H[q]?) → va_S A0 H0 H1 locs1 → H1[q9]? = some ce → ce.vm = .none → s.vm.findClass E = some ce.cls → vx_W p l e R s m args below meth c H1 locs1 (cells + mc) (slots + ms) Q (F0 m pc ls rest) q9)
    (kk : ∀ (r : Int64) (u : S) (t : State) (H1 : Heap) (locs1 : List Loc), t.heap = H1 → s.vm.Alike t.vm → post r u → B u t → H.size ≤ H1.size → (∀ q : Nat, q < H.size → ¬ A1 q → H1[q]? = H[q]?) → va_S A0 H0 H1 locs1 → W p l e R s m args below meth c H1 locs1 (cells + mc) (slots + ms) Q (F0 m (pc + 3) ls (.long r :: rest))) : W p l e R s m args below meth c H locs cells slots Q (F0 m pc ls st0) := by
  intro T hT X
  rcases hr T hT X with ⟨v, st₀, t, T', L, h0, X', hL, e1, e2, ⟨⟨r, u, hv, hp, hb⟩, hF⟩, st⟩ | ⟨q, st₀, t, T', L, E, ce, h0, X', hL, e1, e2, ⟨u, hp, hb, hF⟩, hce, hcv, hcl, st⟩
  · cases hv
    obtain ⟨k1, k2, k3⟩ := vx_keep h0 e1 hS hA hf hL hF
    obtain ⟨t2, a1, b1⟩ := kk r u t T'.heap (locs ++ L) e1.symm (by rw [← e2]; exact X'.warmed.alike) hp hb k1 k2 k3 T' rfl X'
    exact ⟨t2, st t2 a1, b1⟩
  · obtain ⟨k1, k2, k3⟩ := vx_keep h0 e1 hS hAX hf hL hF
    obtain ⟨t2, a1, b1⟩ := kx E ce q u t T'.heap (locs ++ L) e1.symm (by rw [← e2]; exact X'.warmed.alike) hp hb k1 k2 k3 (by rw [e1]; exact hce) hcv hcl T' rfl X'
    exact ⟨t2, st.trans a1, b1⟩
theorem vx_callf {S SX : Type} {post : UInt32 → S → Prop} {px : SX → Prop} {B : S → State → Prop} {BX : String → SX → State → Prop} {AX : Nat → Prop} (hr : vx_Run p l e R s m args below meth c H locs cells slots mc ms (F0 m pc ls st0) rest (va_Qf post B A1 a) (vx_X px BX AX) free) (hS : va_S A0 H0 H locs) (hA : ∀ q, q < H.size → A1 q → A0 q) (hf : ∀ q, free q → A0 q) (hAX : ∀ q, q < H.size → AX q → A0 q)
    (kx : ∀ (E : String) (ce : Cell) (q9 : Addr) (u : SX) (t : State) (H1 : Heap) (locs1 : List Loc), t.heap = H1 → s.vm.Alike t.vm → px u → BX E u t → H.size ≤ H1.size → (∀ q : Nat, q < H.size → ¬ AX q → H1[q]? = H[q]?) → va_S A0 H0 H1 locs1 → H1[q9]? = some ce → ce.vm = .none → s.vm.findClass E = some ce.cls → vx_W p l e R s m args below meth c H1 locs1 (cells + mc) (slots + ms) Q (F0 m pc ls rest) q9)
    (kk : ∀ (r : UInt32) (u : S) (t : State) (H1 : Heap) (locs1 : List Loc), t.heap = H1 → s.vm.Alike t.vm → post r u → B u t → H.size ≤ H1.size → (∀ q : Nat, q < H.size → ¬ A1 q → H1[q]? = H[q]?) → va_S A0 H0 H1 locs1 → W p l e R s m args below meth c H1 locs1 (cells + mc) (slots + ms) Q (F0 m (pc + 3) ls (.float r :: rest))) : W p l e R s m args below meth c H locs cells slots Q (F0 m pc ls st0) := by
  intro T hT X
  rcases hr T hT X with ⟨v, st₀, t, T', L, h0, X', hL, e1, e2, ⟨⟨r, u, hv, hp, hb⟩, hF⟩, st⟩ | ⟨q, st₀, t, T', L, E, ce, h0, X', hL, e1, e2, ⟨u, hp, hb, hF⟩, hce, hcv, hcl, st⟩
  · cases hv
    obtain ⟨k1, k2, k3⟩ := vx_keep h0 e1 hS hA hf hL hF
    obtain ⟨t2, a1, b1⟩ := kk r u t T'.heap (locs ++ L) e1.symm (by rw [← e2]; exact X'.warmed.alike) hp hb k1 k2 k3 T' rfl X'
    exact ⟨t2, st t2 a1, b1⟩
  · obtain ⟨k1, k2, k3⟩ := vx_keep h0 e1 hS hAX hf hL hF
    obtain ⟨t2, a1, b1⟩ := kx E ce q u t T'.heap (locs ++ L) e1.symm (by rw [← e2]; exact X'.warmed.alike) hp hb k1 k2 k3 (by rw [e1]; exact hce) hcv hcl T' rfl X'
    exact ⟨t2, st.trans a1, b1⟩
theorem vx_calld {S SX : Type} {post : UInt64 → S → Prop} {px : SX → Prop} {B : S → State → Prop} {BX : String → SX → State → Prop} {AX : Nat → Prop} (hr : vx_Run p l e R s m args below meth c H locs cells slots mc ms (F0 m pc ls st0) rest (va_Qd post B A1 a) (vx_X px BX AX) free) (hS : va_S A0 H0 H locs) (hA : ∀ q, q < H.size → A1 q → A0 q) (hf : ∀ q, free q → A0 q) (hAX : ∀ q, q < H.size → AX q → A0 q)
    (kx : ∀ (E : String) (ce : Cell) (q9 : Addr) (u : SX) (t : State) (H1 : Heap) (locs1 : List Loc), t.heap = H1 → s.vm.Alike t.vm → px u → BX E u t → H.size ≤ H1.size → (∀ q : Nat, q < H.size → ¬ AX q → H1[q]? = H[q]?) → va_S A0 H0 H1 locs1 → H1[q9]? = some ce → ce.vm = .none → s.vm.findClass E = some ce.cls → vx_W p l e R s m args below meth c H1 locs1 (cells + mc) (slots + ms) Q (F0 m pc ls rest) q9)
    (kk : ∀ (r : UInt64) (u : S) (t : State) (H1 : Heap) (locs1 : List Loc), t.heap = H1 → s.vm.Alike t.vm → post r u → B u t → H.size ≤ H1.size → (∀ q : Nat, q < H.size → ¬ A1 q → H1[q]? = H[q]?) → va_S A0 H0 H1 locs1 → W p l e R s m args below meth c H1 locs1 (cells + mc) (slots + ms) Q (F0 m (pc + 3) ls (.double r :: rest))) : W p l e R s m args below meth c H locs cells slots Q (F0 m pc ls st0) := by
  intro T hT X
  rcases hr T hT X with ⟨v, st₀, t, T', L, h0, X', hL, e1, e2, ⟨⟨r, u, hv, hp, hb⟩, hF⟩, st⟩ | ⟨q, st₀, t, T', L, E, ce, h0, X', hL, e1, e2, ⟨u, hp, hb, hF⟩, hce, hcv, hcl, st⟩
  · cases hv
    obtain ⟨k1, k2, k3⟩ := vx_keep h0 e1 hS hA hf hL hF
    obtain ⟨t2, a1, b1⟩ := kk r u t T'.heap (locs ++ L) e1.symm (by rw [← e2]; exact X'.warmed.alike) hp hb k1 k2 k3 T' rfl X'
    exact ⟨t2, st t2 a1, b1⟩
  · obtain ⟨k1, k2, k3⟩ := vx_keep h0 e1 hS hAX hf hL hF
    obtain ⟨t2, a1, b1⟩ := kx E ce q u t T'.heap (locs ++ L) e1.symm (by rw [← e2]; exact X'.warmed.alike) hp hb k1 k2 k3 (by rw [e1]; exact hce) hcv hcl T' rfl X'
    exact ⟨t2, st.trans a1, b1⟩
theorem vx_callv {S SX : Type} {post : S → Prop} {px : SX → Prop} {B : S → State → Prop} {BX : String → SX → State → Prop} {AX : Nat → Prop} (hr : vx_Run p l e R s m args below meth c H locs cells slots mc ms (F0 m pc ls st0) rest (va_Qv post B A1 a) (vx_X px BX AX) free) (hS : va_S A0 H0 H locs) (hA : ∀ q, q < H.size → A1 q → A0 q) (hf : ∀ q, free q → A0 q) (hAX : ∀ q, q < H.size → AX q → A0 q)
    (kx : ∀ (E : String) (ce : Cell) (q9 : Addr) (u : SX) (t : State) (H1 : Heap) (locs1 : List Loc), t.heap = H1 → s.vm.Alike t.vm → px u → BX E u t → H.size ≤ H1.size → (∀ q : Nat, q < H.size → ¬ AX q → H1[q]? = H[q]?) → va_S A0 H0 H1 locs1 → H1[q9]? = some ce → ce.vm = .none → s.vm.findClass E = some ce.cls → vx_W p l e R s m args below meth c H1 locs1 (cells + mc) (slots + ms) Q (F0 m pc ls rest) q9)
    (kk : ∀ (u : S) (t : State) (H1 : Heap) (locs1 : List Loc), t.heap = H1 → s.vm.Alike t.vm → post u → B u t → H.size ≤ H1.size → (∀ q : Nat, q < H.size → ¬ A1 q → H1[q]? = H[q]?) → va_S A0 H0 H1 locs1 → W p l e R s m args below meth c H1 locs1 (cells + mc) (slots + ms) Q (F0 m (pc + 3) ls (rest))) : W p l e R s m args below meth c H locs cells slots Q (F0 m pc ls st0) := by
  intro T hT X
  rcases hr T hT X with ⟨v, st₀, t, T', L, h0, X', hL, e1, e2, ⟨⟨u, hv, hp, hb⟩, hF⟩, st⟩ | ⟨q, st₀, t, T', L, E, ce, h0, X', hL, e1, e2, ⟨u, hp, hb, hF⟩, hce, hcv, hcl, st⟩
  · cases hv
    obtain ⟨k1, k2, k3⟩ := vx_keep h0 e1 hS hA hf hL hF
    obtain ⟨t2, a1, b1⟩ := kk u t T'.heap (locs ++ L) e1.symm (by rw [← e2]; exact X'.warmed.alike) hp hb k1 k2 k3 T' rfl X'
    exact ⟨t2, st t2 a1, b1⟩
  · obtain ⟨k1, k2, k3⟩ := vx_keep h0 e1 hS hAX hf hL hF
    obtain ⟨t2, a1, b1⟩ := kx E ce q u t T'.heap (locs ++ L) e1.symm (by rw [← e2]; exact X'.warmed.alike) hp hb k1 k2 k3 (by rw [e1]; exact hce) hcv hcl T' rfl X'
    exact ⟨t2, st.trans a1, b1⟩
/-- caught by the row x of this method's table; the rows ahead don't take it -/
theorem vx_catch {own name : String} {E : String} {ce : Cell} {q : Addr} (hown : s.vm.findClass own = some m.cls) (pre : List ExceptionTableEntry) (x : ExceptionTableEntry) (suf : List ExceptionTableEntry) (hsplit : c.exceptionTable.toList = pre ++ x :: suf)
    (hpass : ∀ z ∈ pre, covers z pc = false ∨ (z.catchType ≠ 0 ∧ ∃ nm : String, (Cond.classLink own z.catchType nm).before args s = true ∧ va_Nc E nm s)) (hx : covers x pc = true) (h0 : x.catchType ≠ 0)
    (hlink : (Cond.classLink own x.catchType name).before args s = true) (hcast : (Cond.castable E name).before args s = true) (hcell : H[q]? = some ce) (hv : ce.vm = .none) (hcl : s.vm.findClass E = some ce.cls)
    (kk : W p l e R s m args below meth c H locs cells slots Q (F0 m x.handlerPc ls [.ref q])) : vx_W p l e R s m args below meth c H locs cells slots Q (F0 m pc ls rest) q := by
  intro T hT X
  have hpl : e.platform.magicAccessors = ({} : Platform).magicAccessors := by rw [X.admits.platform]
  obtain ⟨c3, c4, hc3, hc4, hasg⟩ := Cond.castable_spec hcast
  cases Option.some.inj (hc3.symm.trans hcl)
  obtain ⟨c5, hc5, hcl5⟩ := Cond.classLink_spec hown hlink e.platform hpl
  cases Option.some.inj (hc4.symm.trans hc5)
  obtain ⟨vm', X', st⟩ := X.thenCaughtThrough q (g := F0 m pc ls rest) rfl (Steps.refl _) (by rw [hT]; exact hcell) (by rw [hv]; rfl) (by obtain ⟨k9, h9, -⟩ := Vm.findClass_spec hcl; exact ⟨k9, h9⟩) pre x suf hsplit
    (fun z hz => by
      rcases hpass z hz with h | ⟨hz0, nm, hl1, hn1⟩
      · exact Or.inl h
      · obtain ⟨c6, hc6, hcl6⟩ := Cond.classLink_spec hown hl1 e.platform hpl
        obtain ⟨a8, b8, h1, h2, h3⟩ := hn1
        cases Option.some.inj (h1.symm.trans hcl)
        cases Option.some.inj (h2.symm.trans hc6)
        exact Or.inr ⟨hz0, _, hcl6, h3⟩) hx (Or.inr ⟨h0, c4, hcl5, hasg⟩)
  obtain ⟨t, a1, b1⟩ := kk (T.setVm vm') hT X'
  exact ⟨t, st.trans a1, b1⟩
end Rows
section Ends
variable {p : Program} {l : Launch} {e : Env} {R : Room} {s : State} {m : MethodId} {args : Array Value} {below : List Frame} {meth : Method} {c : Code} {H : Heap} {locs : List Loc} {cells slots : Nat} {Q : State → Prop}
variable {mc ms : Nat} {free : Addr → Prop} {A0 A1 : Nat → Prop} {H0 : Heap} {a : Array Value} {ls : Array Slot} {st0 rest : List Value}
variable {Qc : Array Value → State → Outcome → State → Prop} {XC : String → State → State → Prop}
/-- what a body that may throw owes at its end -/
def vx_MQ (below : List Frame) (Qc : Array Value → State → Outcome → State → Prop) (XC : String → State → State → Prop) (a : Array Value) (s : State) (mc ms : Nat) (free : Addr → Prop) : State → Prop := fun t =>
  ∃ o, t.status = .running ∧ Ended t below o ∧ vx_Q Qc XC mc ms free a s o t
theorem vx_ret {g : JFrame} {mc ms : Nat} (k : W p l e R s m args below meth c H locs cells slots (MQ below Qc args s mc ms free) g) : W p l e R s m args below meth c H locs cells slots (vx_MQ below Qc XC args s mc ms free) g := by
  intro T hT X
  obtain ⟨t, a1, o, b1, b2, b3, b4⟩ := k T hT X
  exact ⟨t, a1, o, b1, b2, Or.inl ⟨b3, b4⟩⟩
/-- not caught here: it goes on to the caller -/
theorem vx_widen {g : JFrame} {q : Addr} {k n : Nat} (h1 : cells ≤ k) (h2 : slots ≤ n) (kk : vx_W p l e R s m args below meth c H locs k n Q g q) : vx_W p l e R s m args below meth c H locs cells slots Q g q := fun T hT X => kk T hT (stand_widen X h1 h2)
theorem vx_out {pc : Nat} {E : String} {ce : Cell} {q : Addr} {mc ms : Nat} (hout : ∀ x ∈ c.exceptionTable.toList, covers x pc = false) (hlocks : meth.locks = false) (hcell : H[q]? = some ce) (hv : ce.vm = .none) (hcl : s.vm.findClass E = some ce.cls)
    (hx : ∀ t : State, t.heap = H → s.vm.Alike t.vm → XC E s t) (hf : ∀ z ∈ locs, free z.base) (hc : cells ≤ mc) (hs : slots ≤ ms) :
    vx_W p l e R s m args below meth c H locs cells slots (vx_MQ below Qc XC args s mc ms free) (F0 m pc ls rest) q := by
  intro T hT X
  obtain ⟨st1, hrun, hend, hW, hsm⟩ := X.leaveThrown q (g := F0 m pc ls rest) rfl rfl rfl hout hlocks
  have hcell9 : (T.setFrames (.throwing q :: below)).heap[q]? = some ce := by
    show T.heap[q]? = some ce
    rw [hT]; exact hcell
  exact ⟨_, st1, .threw q, hrun, hend, Or.inr ⟨q, rfl, E, ce, locs, hx _ hT hW.alike, hcell9, hv, hcl, hW, hsm.mono hc hs, hf⟩⟩
theorem vx_frame {U : State} {k n : Nat} (h : s.sameButNew ({ U with vm := s.vm } : State) locs k n) : s.heap.size ≤ U.heap.size ∧ ∀ q : Nat, q < s.heap.size → (∀ z ∈ locs, z.base ≠ q) → U.heap[q]? = s.heap[q]? := by
  obtain ⟨-, h2, -, -, -, h6⟩ := h
  refine ⟨h2, fun q hq hz => ?_⟩
  obtain ⟨c9, e1, e2, e3, e4⟩ := h6 q _ (Array.getElem?_eq_getElem hq)
  have hs : c9.slots = (s.heap[q]).slots := Array.ext_getElem? fun i => e4 i fun hm => hz _ hm rfl
  have h9 : c9 = s.heap[q] := by
    rw [hs] at e2
    exact e2
  have e5 : U.heap[q]? = some c9 := e1
  rw [e5, h9, Array.getElem?_eq_getElem hq]
/-- the words of a throw but the four that speak of the heap -/
def vx_no (w : Cond) : Bool := decide (w ≠ .isRef (.static Bundle.tN "UNASSIGNED_STACK" Bundle.steD)) && decide (w ≠ .isRef (.static Bundle.tN "SUPPRESSED_SENTINEL" Bundle.listD)) && decide (w ≠ .laysStatic Bundle.tN "UNASSIGNED_STACK" Bundle.steD) && decide (w ≠ .laysStatic Bundle.tN "SUPPRESSED_SENTINEL" Bundle.listD)
def vx_at0 (own : String) (ic : Nat) (X : String) (names : List String) : List Cond := (Bundle.ownAtoms0 own ic X names).filter vx_no
def vx_atS (own : String) (ic : Nat) (X : String) (names : List String) : List Cond := (Bundle.ownAtoms own ic X names).filter vx_no
/-- a word that the tables alone decide, or a good one -/
def vx_ot (w : Cond) : Bool := w.onTables || goodWord w
theorem vx_ot_at {args a' : Array Value} {s U : State} {w : Cond} (hW : s.WarmedH U.vm) (hvm : s.vm = U.vm) (hg : vx_ot w = true) (h : w.before args s = true) : w.before a' U = true := by
  simp only [vx_ot, Bool.or_eq_true] at hg
  rcases hg with hg | hg
  · exact va_tabs hg hvm h
  · exact word_at hW (good_of_word hg) h
/-- a list's words: the good ones out of the method's own list, the others by premises of their own -/
theorem vx_hat {args : Array Value} {s : State} {L B : List Cond} (h1 : ∀ w ∈ L.filter goodWord, w.before args s = true) (h2 : ∀ w ∈ L.filter (fun w => !goodWord w), w ∈ B) (h3 : ∀ w ∈ B, w.before args s = true) : ∀ w ∈ L, w.before args s = true := by
  intro w hw
  by_cases g : goodWord w = true
  · exact h1 w (List.mem_filter.mpr ⟨hw, g⟩)
  · refine h3 w (h2 w (List.mem_filter.mpr ⟨hw, ?_⟩))
    show (!goodWord w) = true
    cases hgw : goodWord w
    · rfl
    · exact absurd hgw g
theorem vx_c {args : Array Value} {s : State} {w : Cond} {B : List Cond} (h : w.before args s = true) (t : ∀ w ∈ B, w.before args s = true) : ∀ w' ∈ w :: B, w'.before args s = true := fun w' h' => (List.mem_cons.mp h').elim (fun e => by rw [e]; exact h) (t w')
theorem vx_n {args : Array Value} {s : State} : ∀ w ∈ ([] : List Cond), w.before args s = true := fun _ h => nomatch h
theorem vx_own {args : Array Value} {s : State} {L : List Cond} (h1 : ∀ w ∈ L.filter vx_no, w.before args s = true)
    (hU : (Cond.isRef (.static Bundle.tN "UNASSIGNED_STACK" Bundle.steD)).before args s = true) (hN : (Cond.isRef (.static Bundle.tN "SUPPRESSED_SENTINEL" Bundle.listD)).before args s = true)
    (lU : (Cond.laysStatic Bundle.tN "UNASSIGNED_STACK" Bundle.steD).before args s = true) (lN : (Cond.laysStatic Bundle.tN "SUPPRESSED_SENTINEL" Bundle.listD).before args s = true) : ∀ w ∈ L, w.before args s = true := by
  intro w hw
  by_cases e1 : w = .isRef (.static Bundle.tN "UNASSIGNED_STACK" Bundle.steD)
  · rw [e1]; exact hU
  · by_cases e2 : w = .isRef (.static Bundle.tN "SUPPRESSED_SENTINEL" Bundle.listD)
    · rw [e2]; exact hN
    · by_cases e3 : w = .laysStatic Bundle.tN "UNASSIGNED_STACK" Bundle.steD
      · rw [e3]; exact lU
      · by_cases e4 : w = .laysStatic Bundle.tN "SUPPRESSED_SENTINEL" Bundle.listD
        · rw [e4]; exact lN
        · exact h1 w (List.mem_filter.mpr ⟨hw, by unfold vx_no; rw [decide_eq_true e1, decide_eq_true e2, decide_eq_true e3, decide_eq_true e4]; rfl⟩)
/-- where a static field lies, its class's statics cell in H -/
def vx_L (C n d : String) (A : Nat → Prop) (U : State) (H : Heap) : Prop := ∃ (c : ClassId) (k : Class) (i : Nat) (f : Field) (a : Nat) (cell : Cell), U.vm.findClass C = some c ∧ U.fieldFound? C n d = some (c, k, i, f) ∧ f.isStatic = true ∧ k.statics = some a ∧ H[a]? = some cell ∧ cell.vm.isStatics = true ∧ cell.cls = c ∧ f.slot < cell.slots.size ∧ k.staticTypes[f.slot]? = some f.type ∧ ¬ A a
theorem vx_L.moved {C n d : String} {A : Nat → Prop} {u U : State} {H : Heap} (hvm : u.vm.Alike U.vm) (h : vx_L C n d A u H) : vx_L C n d A U H := by
  obtain ⟨c, k, i, f, a, cell, h1, h2, h3, h4, h5, h6, h7, h8, h9, h10⟩ := h
  obtain ⟨k', hi', he⟩ := State.fieldFound?_setVm hvm h2
  exact ⟨c, k', i, f, a, cell, by rw [hvm.findClass]; exact h1, hi', h3, by rw [he]; exact h4, h5, h6, h7, h8, by rw [he]; exact h9, h10⟩
theorem vx_L.kept {C n d : String} {A : Nat → Prop} {U : State} {H H1 : Heap} (h : vx_L C n d A U H) (hq : ∀ a : Nat, a < H.size → ¬ A a → H1[a]? = H[a]?) : vx_L C n d A U H1 := by
  obtain ⟨c, k, i, f, a, cell, h1, h2, h3, h4, h5, h6, h7, h8, h9, h10⟩ := h
  exact ⟨c, k, i, f, a, cell, h1, h2, h3, h4, by rw [hq a (Array.getElem?_eq_some_iff.mp h5).1 h10]; exact h5, h6, h7, h8, h9, h10⟩
theorem vx_L.narrow {C n d : String} {A B : Nat → Prop} {U : State} {H : Heap} (h : vx_L C n d A U H) (hAB : ∀ q, B q → A q) : vx_L C n d B U H := by
  obtain ⟨c, k, i, f, a, cell, h1, h2, h3, h4, h5, h6, h7, h8, h9, h10⟩ := h
  exact ⟨c, k, i, f, a, cell, h1, h2, h3, h4, h5, h6, h7, h8, h9, fun z => h10 (hAB _ z)⟩
theorem vx_L.word {C n d : String} {A : Nat → Prop} {s : State} {args : Array Value} (h : vx_L C n d A s s.heap) : (Cond.laysStatic C n d).before args s = true := by
  obtain ⟨c, k, i, f, a, cell, h1, h2, h3, h4, h5, h6, h7, h8, h9, -⟩ := h
  show (Cond.laysStatic C n d).holds args s none s [] = true
  exact Cond.laysStatic_of h1 h2 h3 h4 h5 h6 h7 h8 h9
/-- .. and what it holds: null or some reference -/
def vx_Zq (C n d : String) (A : Nat → Prop) (U : State) (H : Heap) : Prop := va_Zq C n d A U H ∧ vx_L C n d A U H
theorem vx_Zq.moved {C n d : String} {A : Nat → Prop} {u U : State} {H : Heap} (hvm : u.vm.Alike U.vm) (h : vx_Zq C n d A u H) : vx_Zq C n d A U H := ⟨va_Zq.moved hvm h.1, vx_L.moved hvm h.2⟩
theorem vx_Zq.kept {C n d : String} {A : Nat → Prop} {U : State} {H H1 : Heap} (h : vx_Zq C n d A U H) (hq : ∀ a : Nat, a < H.size → ¬ A a → H1[a]? = H[a]?) : vx_Zq C n d A U H1 := ⟨va_Zq.kept h.1 hq, vx_L.kept h.2 hq⟩
theorem vx_Zq.narrow {C n d : String} {A B : Nat → Prop} {U : State} {H : Heap} (h : vx_Zq C n d A U H) (hAB : ∀ q, B q → A q) : vx_Zq C n d B U H := ⟨va_Zq.narrow h.1 hAB, vx_L.narrow h.2 hAB⟩
theorem vx_Zqof {args : Array Value} {s : State} {C n d : String} {A : Nat → Prop} (hl : (Cond.laysStatic C n d).before args s = true) (hini : (Cond.initialized C).before args s = true) (h : (Cond.isRef (.static C n d)).before args s = true) (hA : ∀ a : Nat, a < s.heap.size → ¬ A a) : vx_Zq C n d A s s.heap := by
  refine ⟨va_Zqof hl hini h hA, ?_⟩
  obtain ⟨c, k, i, f, a, cell, h1, h2, h3, h4, h5, h6, h7, h8, h9⟩ := Cond.laysStatic_spec hl
  exact ⟨c, k, i, f, a, cell, h1, h2, h3, h4, h5, h6, h7, h8, h9, hA a (Array.getElem?_eq_some_iff.mp h5).1⟩
theorem vx_isRef {C n d : String} {v : Value} {A : Nat → Prop} {s : State} {args : Array Value} (h : va_Z C n d v A s s.heap) (hv : v.isRef = true) : (Cond.isRef (.static C n d)).before args s = true := by
  obtain ⟨cf, kf, fi, f, a, cell, h1, h2, h3, h4, h5, h6, h7, -⟩ := h
  have he : (Term.static C n d).eval args s none [] s = some v := by
    simp [Term.eval, State.fieldNamed?, h1, h2, h4, h5, h6, h7]
  simp only [Cond.before, Cond.holds, Cond.value, he]
  cases v <;> simp_all [Value.isRef]
theorem vx_isRefq {C n d : String} {A : Nat → Prop} {s : State} {args : Array Value} (h : va_Zq C n d A s s.heap) : (Cond.isRef (.static C n d)).before args s = true := by
  rcases h with h | ⟨t, h⟩
  · exact vx_isRef h rfl
  · exact vx_isRef h rfl
/-- the same frame, seen from here: as if the method were called anew in this heap -/
theorem vx_rebase {T : State} (X : Stand p l e R s m args below meth c T locs cells slots) {R' : Room} (hf : R'.frames ≤ R.frames) (hl : R'.locals ≤ R.locals) (hc : cells + R'.cells ≤ R.cells) (hs : slots + R'.slots ≤ R.slots) :
    Stand p l e R' ((T.setVm s.vm).setFrames (.invoking m args :: below)) m args below meth c T [] 0 0 := by
  have htop : (T.setVm s.vm).topJava?.isSome := X.here.top
  have hF : ((T.setVm s.vm).setFrames (.invoking m args :: below)).frames = .invoking m args :: below := State.frames_setFrames _ (State.cur_lt_of_top htop)
  obtain ⟨g₀, hg0⟩ := Option.isSome_iff_exists.mp htop
  obtain ⟨r, hr⟩ := State.topJava?_eq_some.mp hg0
  have hl9 : e.platform.stackLimits (T.setVm s.vm).me = e.platform.stackLimits s.me := X.limits
  have hb9 : (T.setVm s.vm).me.stackBytes = s.me.stackBytes := X.bytes
  refine ⟨X.admits, X.cas, X.clock, hF, ?_, X.hears, X.method, X.code, X.here, X.tail, X.warmed, ?_, ?_, ?_⟩
  · have h := X.room
    have hU : ((T.setVm s.vm).setFrames (.invoking m args :: below)).localsInUse = s.localsInUse := by
      rw [State.localsInUse_invoking hF (meth := meth) (c := c) X.method X.code, State.localsInUse_invoking X.frames X.method X.code]
    simp only [State.hasRoom, Bool.and_eq_true, decide_eq_true_eq] at h ⊢
    obtain ⟨⟨⟨⟨h1, h2, h3, h4, h5, h6⟩, h7⟩, h8⟩, h9⟩ := h
    rw [X.frames, List.length_cons] at h2 h3
    have q1 := X.heapSize
    have q2 := X.used
    simp only [hF, hU, List.length_cons, State.stackLimits_setFrames, State.stackBytes_setFrames, hl9, hb9]
    refine ⟨⟨⟨⟨by omega, by omega, by omega, by omega, by omega, h6⟩, ?_⟩, ?_⟩, X.book⟩
    · show T.heap.size + R'.cells ≤ e.platform.maxCells
      omega
    · show T.slotsUsed + R'.slots ≤ e.platform.maxSlots
      omega
  · rw [State.stackLimits_setFrames]; rfl
  · rw [State.stackBytes_setFrames]; rfl
  · refine ⟨?_, Nat.le_refl _, Nat.le_refl _, ?_, ?_, fun a c9 h9 => ⟨c9, h9, rfl, rfl, fun _ _ => rfl⟩⟩
    · obtain ⟨t, ht, -⟩ := State.frames_cons hr
      show T.setVm s.vm = { ((T.setVm s.vm).setFrames (.invoking m args :: below)).setFrames (T.setVm s.vm).frames with heap := T.heap, slotsUsed := T.slotsUsed }
      rw [State.setFrames_setFrames, State.setFrames_self ht]
      rfl
    · show T.slotsUsed = T.slotsUsed + ((T.heap.toList.drop T.heap.size).map (·.slots.size)).sum
      rw [List.drop_eq_nil_of_le (Nat.le_of_eq Array.length_toList)]
      rfl
    · show ((T.heap.toList.drop T.heap.size).map (·.slots.size)).sum ≤ 0
      rw [List.drop_eq_nil_of_le (Nat.le_of_eq Array.length_toList)]
      exact Nat.le_refl _
/-- 'throw new E()': new; dup; invokespecial; athrow -/
theorem vx_throw0 {cc : ByteArray} {pc : Nat} (hexec : p.tables.exec = Jvm.exec) (hb : c.code = cc) (hl : l.stackTraces = false) {own cls : String} {names : List String} {ik ic mc ms : Nat} {A : Nat → Prop}
    (hown : s.vm.findClass own = some m.cls) (hcls : Bundle.fit cls = true) (hnames : ∀ n ∈ names, Bundle.fit n = true)
    (hk : (Cond.classLink own ik cls).before args s = true) (hini : (Cond.initialized cls).before args s = true) (hat : ∀ w ∈ vx_at0 own ic cls names, w.before args s = true)
    (hgood : ∀ w ∈ Cond.classLink own ik cls :: Cond.initialized cls :: vx_at0 own ic cls names, vx_ot w = true)
    (hU : vx_Zq Bundle.tN "UNASSIGNED_STACK" Bundle.steD A s s.heap) (hN : vx_Zq Bundle.tN "SUPPRESSED_SENTINEL" Bundle.listD A s s.heap) (hS : va_S A s.heap H locs) (hsize : ls.size = c.maxLocals)
    (d0 : decode cc pc = .ok (.new ik, 3)) (d3 : decode cc (pc + 3) = .ok (.dup, 1)) (d4 : decode cc (pc + 4) = .ok (.invokespecial ic, 3)) (d7 : decode cc (pc + 7) = .ok (.athrow, 1))
    (hout : ∀ x ∈ c.exceptionTable.toList, covers x (pc + 7) = false)
    (hRframes : names.length + 3 < R.frames) (hRlocals : (rest.map fun v => v.category).sum + (13 * (names.length + 1) + 42) ≤ R.locals) (hRcells : cells + 1 ≤ R.cells) (hRslots : slots + 6 ≤ R.slots) (hlocks : meth.locks = false)
    (hx : ∀ t : State, s.vm.Alike t.vm → H.size ≤ t.heap.size → (∀ q : Nat, q < H.size → t.heap[q]? = H[q]?) → XC cls s t)
    (hf : ∀ z ∈ locs, free z.base) (hc : cells + 1 ≤ mc) (hs : slots + 6 ≤ ms) :
    W p l e R s m args below meth c H locs cells slots (vx_MQ below Qc XC args s mc ms free) (F0 m pc ls rest) := by
  intro T hT X
  have htr : e.platform.stackTraces = false := (show e.platform.stackTraces = l.stackTraces by rw [X.admits.platform]).trans hl
  have Y := vx_rebase X (R' := { frames := R.frames, locals := R.locals, cells := 1, slots := 6 }) (Nat.le_refl _) (Nat.le_refl _) hRcells hRslots
  obtain ⟨s', hA⟩ : ∃ z, z = (T.setVm s.vm).setFrames (.invoking m args :: below) := ⟨_, rfl⟩
  rw [← hA] at Y
  have hvm : s'.vm = s.vm := by rw [hA]; rfl
  have hhp : s'.heap = H := by rw [hA]; exact hT
  have hW0 : s.WarmedH s'.vm := by rw [hvm]; exact State.WarmedH.refl s
  have hat' : ∀ w ∈ vx_at0 own ic cls names, w.before args s' = true := fun w hw => vx_ot_at hW0 hvm.symm (hgood w (List.mem_cons_of_mem _ (List.mem_cons_of_mem _ hw))) (hat w hw)
  have hk' : (Cond.classLink own ik cls).before args s' = true := vx_ot_at hW0 hvm.symm (hgood _ List.mem_cons_self) hk
  have hini' : (Cond.initialized cls).before args s' = true := vx_ot_at hW0 hvm.symm (hgood _ (List.mem_cons_of_mem _ List.mem_cons_self)) hini
  have hU' : vx_Zq Bundle.tN "UNASSIGNED_STACK" Bundle.steD A s' s'.heap := by rw [hhp]; exact vx_Zq.moved hW0.alike (hU.kept hS.2.1)
  have hN' : vx_Zq Bundle.tN "SUPPRESSED_SENTINEL" Bundle.listD A s' s'.heap := by rw [hhp]; exact vx_Zq.moved hW0.alike (hN.kept hS.2.1)
  have h : ∀ w ∈ Bundle.ownAtoms0 own ic cls names, w.before args s' = true := vx_own hat' (vx_isRefq hU'.1) (vx_isRefq hN'.1) hU'.2.word hN'.2.word
  have hown' : s'.vm.findClass own = some m.cls := by rw [hvm]; exact hown
  have hins : (Cond.instantiable cls 6).before args s' = true := h _ (by simp [Bundle.ownAtoms0])
  obtain ⟨vm₁, cX, kX, hfX, hkX, -, -, X₁, st1⟩ := Y.newCold hexec (own := own) (C := cls) (index := ik) (n := 6) hown' hk' hins hini'
    (g := F0 m pc ls rest) rfl (by rw [hb]; exact d0) (Nat.le_refl _) (Nat.le_refl _)
  generalize hT1 : (T.setVm vm₁).pushCell { cls := cX, slots := kX.instanceTypes.map defaultValue, vm := .none } = T1 at X₁ st1
  have hcat : (Value.ref T.heap.size).category = 1 := rfl
  have hcellA : T1.heap[T.heap.size]? = some (freshCell cX kX) := by rw [← hT1]; exact State.heap_pushCell_size _ _
  have d3' : decode c.code (pc + 3) = .ok (.dup, 1) := by rw [hb]; exact d3
  obtain ⟨U, hsteps, hrun, hend, hW, hsame, ce, hce, hO⟩ := X₁.ctorThrow0 hexec htr (own := own) (cls := cls) (names := names) (ic := ic) hown' hcls hnames h (fun x hx => nomatch hx) hfX hkX hcellA (by rw [hhp, hT]; exact Nat.le_refl _)
    (g := { method := m, pc := pc + 4, locals := ls, stack := .ref T.heap.size :: .ref T.heap.size :: rest, locked := none }) rfl hsize rfl rfl (rest := rest) rfl
    (by rw [hb]; exact d4) (by rw [hb]; exact d7) hout hRframes (by simp only [List.map_cons, List.sum_cons, hcat]; omega) hlocks
  obtain ⟨f1, f2⟩ := vx_frame hsame
  rw [hhp] at f1 f2
  have hWs : s.WarmedH U.vm := State.WarmedH.trans hW0 hW
  have hcl : s.vm.findClass cls = some ce.cls := by
    have h9 := hO.cls
    rw [hvm] at h9
    exact h9
  have hall : s.sameButNew ({ U with vm := s.vm } : State) locs mc ms := by
    subst hA
    obtain ⟨e1, e2⟩ := hsame
    rw [State.setFrames_setFrames] at e1
    have h2 : (T.setVm s.vm).sameButNew ({ U with vm := s.vm } : State) [] (0 + 1) (0 + 6) := ⟨e1, e2⟩
    have h3 := X.same.trans h2
    rw [List.append_nil] at h3
    exact h3.mono hc hs
  refine ⟨U, ?_, .threw T.heap.size, hrun, hend, Or.inr ⟨T.heap.size, rfl, cls, ce, locs, hx U hWs.alike f1 (fun q hq => f2 q hq (fun z hz => nomatch hz)), hce, hO.vm, hcl, hWs, hall, hf⟩⟩
  refine st1 _ ?_
  show Steps p.tables e below (T1.setTop { method := m, pc := pc + 3, locals := ls, stack := .ref T.heap.size :: rest, locked := none }) _
  jvm_step X₁.here [X₁.here.top, hexec, d3', Value.category]
  exact hsteps
/-- 'throw new E("text")': new; dup; ldc; invokespecial; athrow -/
theorem vx_throwS {cc : ByteArray} {pc : Nat} (hexec : p.tables.exec = Jvm.exec) (hb : c.code = cc) (hl : l.stackTraces = false) {own cls text : String} {names : List String} {ik is ic mc ms sa : Nat} {A : Nat → Prop}
    (hown : s.vm.findClass own = some m.cls) (hcls : Bundle.fit cls = true) (hnames : ∀ n ∈ names, Bundle.fit n = true)
    (hk : (Cond.classLink own ik cls).before args s = true) (hini : (Cond.initialized cls).before args s = true) (hstr : vk_R own is text sa s) (hat : ∀ w ∈ vx_atS own ic cls names, w.before args s = true)
    (hgood : ∀ w ∈ Cond.classLink own ik cls :: Cond.initialized cls :: vx_atS own ic cls names, vx_ot w = true)
    (hU : vx_Zq Bundle.tN "UNASSIGNED_STACK" Bundle.steD A s s.heap) (hN : vx_Zq Bundle.tN "SUPPRESSED_SENTINEL" Bundle.listD A s s.heap) (hS : va_S A s.heap H locs) (hsize : ls.size = c.maxLocals)
    (d0 : decode cc pc = .ok (.new ik, 3)) (d3 : decode cc (pc + 3) = .ok (.dup, 1)) (d4 : decode cc (pc + 4) = .ok (.ldc is, 2)) (d6 : decode cc (pc + 6) = .ok (.invokespecial ic, 3)) (d9 : decode cc (pc + 9) = .ok (.athrow, 1))
    (hout : ∀ x ∈ c.exceptionTable.toList, covers x (pc + 9) = false)
    (hRframes : names.length + 3 < R.frames) (hRlocals : (rest.map fun v => v.category).sum + (13 * (names.length + 1) + 43) ≤ R.locals) (hRcells : cells + 1 ≤ R.cells) (hRslots : slots + 6 ≤ R.slots) (hlocks : meth.locks = false)
    (hx : ∀ t : State, s.vm.Alike t.vm → H.size ≤ t.heap.size → (∀ q : Nat, q < H.size → t.heap[q]? = H[q]?) → XC cls s t)
    (hf : ∀ z ∈ locs, free z.base) (hc : cells + 1 ≤ mc) (hs : slots + 6 ≤ ms) :
    W p l e R s m args below meth c H locs cells slots (vx_MQ below Qc XC args s mc ms free) (F0 m pc ls rest) := by
  intro T hT X
  have htr : e.platform.stackTraces = false := (show e.platform.stackTraces = l.stackTraces by rw [X.admits.platform]).trans hl
  have Y := vx_rebase X (R' := { frames := R.frames, locals := R.locals, cells := 1, slots := 6 }) (Nat.le_refl _) (Nat.le_refl _) hRcells hRslots
  obtain ⟨s', hA⟩ : ∃ z, z = (T.setVm s.vm).setFrames (.invoking m args :: below) := ⟨_, rfl⟩
  rw [← hA] at Y
  have hvm : s'.vm = s.vm := by rw [hA]; rfl
  have hhp : s'.heap = H := by rw [hA]; exact hT
  have hW0 : s.WarmedH s'.vm := by rw [hvm]; exact State.WarmedH.refl s
  have hat' : ∀ w ∈ vx_atS own ic cls names, w.before args s' = true := fun w hw => vx_ot_at hW0 hvm.symm (hgood w (List.mem_cons_of_mem _ (List.mem_cons_of_mem _ hw))) (hat w hw)
  have hk' : (Cond.classLink own ik cls).before args s' = true := vx_ot_at hW0 hvm.symm (hgood _ List.mem_cons_self) hk
  have hini' : (Cond.initialized cls).before args s' = true := vx_ot_at hW0 hvm.symm (hgood _ (List.mem_cons_of_mem _ List.mem_cons_self)) hini
  have hU' : vx_Zq Bundle.tN "UNASSIGNED_STACK" Bundle.steD A s' s'.heap := by rw [hhp]; exact vx_Zq.moved hW0.alike (hU.kept hS.2.1)
  have hN' : vx_Zq Bundle.tN "SUPPRESSED_SENTINEL" Bundle.listD A s' s'.heap := by rw [hhp]; exact vx_Zq.moved hW0.alike (hN.kept hS.2.1)
  have h : ∀ w ∈ Bundle.ownAtoms own ic cls names, w.before args s' = true := vx_own hat' (vx_isRefq hU'.1) (vx_isRefq hN'.1) hU'.2.word hN'.2.word
  have hown' : s'.vm.findClass own = some m.cls := by rw [hvm]; exact hown
  have hins : (Cond.instantiable cls 6).before args s' = true := h _ (by simp [Bundle.ownAtoms])
  obtain ⟨vm₁, cX, kX, hfX, hkX, -, -, X₁, st1⟩ := Y.newCold hexec (own := own) (C := cls) (index := ik) (n := 6) hown' hk' hins hini'
    (g := F0 m pc ls rest) rfl (by rw [hb]; exact d0) (Nat.le_refl _) (Nat.le_refl _)
  generalize hT1 : (T.setVm vm₁).pushCell { cls := cX, slots := kX.instanceTypes.map defaultValue, vm := .none } = T1 at X₁ st1
  have hcat : (Value.ref T.heap.size).category = 1 := rfl
  have hcellA : T1.heap[T.heap.size]? = some (freshCell cX kX) := by rw [← hT1]; exact State.heap_pushCell_size _ _
  have d3' : decode c.code (pc + 3) = .ok (.dup, 1) := by rw [hb]; exact d3
  have d4' : decode c.code (pc + 4) = .ok (.ldc is, 2) := by rw [hb]; exact d4
  have hstr' : vk_R own is text sa s' := vk_R.warm hW0 hstr
  obtain ⟨U, hsteps, hrun, hend, hW, hsame, ce, hce, hO⟩ := X₁.ctorThrowS hexec htr (own := own) (cls := cls) (names := names) (ic := ic) hown' hcls hnames h (fun x hx => nomatch hx) hfX hkX hcellA (by rw [hhp, hT]; exact Nat.le_refl _) (msg := .ref sa) rfl
    (g := { method := m, pc := pc + 6, locals := ls, stack := .ref sa :: .ref T.heap.size :: .ref T.heap.size :: rest, locked := none }) rfl hsize rfl rfl (rest := rest) rfl
    (by rw [hb]; exact d6) (by rw [hb]; exact d9) hout hRframes (by simp only [List.map_cons, List.sum_cons, hcat]; omega) hlocks
  obtain ⟨f1, f2⟩ := vx_frame hsame
  rw [hhp] at f1 f2
  have hWs : s.WarmedH U.vm := State.WarmedH.trans hW0 hW
  have hcl : s.vm.findClass cls = some ce.cls := by
    have h9 := hO.cls
    rw [hvm] at h9
    exact h9
  have hall : s.sameButNew ({ U with vm := s.vm } : State) locs mc ms := by
    subst hA
    obtain ⟨e1, e2⟩ := hsame
    rw [State.setFrames_setFrames] at e1
    have h2 : (T.setVm s.vm).sameButNew ({ U with vm := s.vm } : State) [] (0 + 1) (0 + 6) := ⟨e1, e2⟩
    have h3 := X.same.trans h2
    rw [List.append_nil] at h3
    exact h3.mono hc hs
  refine ⟨U, ?_, .threw T.heap.size, hrun, hend, Or.inr ⟨T.heap.size, rfl, cls, ce, locs, hx U hWs.alike f1 (fun q hq => f2 q hq (fun z hz => nomatch hz)), hce, hO.vm, hcl, hWs, hall, hf⟩⟩
  refine st1 _ ?_
  show Steps p.tables e below (T1.setTop { method := m, pc := pc + 3, locals := ls, stack := .ref T.heap.size :: rest, locked := none }) _
  jvm_step X₁.here [X₁.here.top, hexec, d3', Value.category]
  exact X₁.ldcString hexec (own := own) (text := text) (index := is) (a := sa) hown' hstr'.1 hstr'.2
    (g := { method := m, pc := pc + 4, locals := ls, stack := .ref T.heap.size :: .ref T.heap.size :: rest, locked := none }) rfl d4' _ hsteps
/-- 'throw new E("text")', the text by a wide index -/
theorem vx_throwSW {cc : ByteArray} {pc : Nat} (hexec : p.tables.exec = Jvm.exec) (hb : c.code = cc) (hl : l.stackTraces = false) {own cls text : String} {names : List String} {ik is ic mc ms sa : Nat} {A : Nat → Prop}
    (hown : s.vm.findClass own = some m.cls) (hcls : Bundle.fit cls = true) (hnames : ∀ n ∈ names, Bundle.fit n = true)
    (hk : (Cond.classLink own ik cls).before args s = true) (hini : (Cond.initialized cls).before args s = true) (hstr : vk_R own is text sa s) (hat : ∀ w ∈ vx_atS own ic cls names, w.before args s = true)
    (hgood : ∀ w ∈ Cond.classLink own ik cls :: Cond.initialized cls :: vx_atS own ic cls names, vx_ot w = true)
    (hU : vx_Zq Bundle.tN "UNASSIGNED_STACK" Bundle.steD A s s.heap) (hN : vx_Zq Bundle.tN "SUPPRESSED_SENTINEL" Bundle.listD A s s.heap) (hS : va_S A s.heap H locs) (hsize : ls.size = c.maxLocals)
    (d0 : decode cc pc = .ok (.new ik, 3)) (d3 : decode cc (pc + 3) = .ok (.dup, 1)) (d4 : decode cc (pc + 4) = .ok (.ldc_w is, 3)) (d7 : decode cc (pc + 7) = .ok (.invokespecial ic, 3)) (d10 : decode cc (pc + 10) = .ok (.athrow, 1))
    (hout : ∀ x ∈ c.exceptionTable.toList, covers x (pc + 10) = false)
    (hRframes : names.length + 3 < R.frames) (hRlocals : (rest.map fun v => v.category).sum + (13 * (names.length + 1) + 43) ≤ R.locals) (hRcells : cells + 1 ≤ R.cells) (hRslots : slots + 6 ≤ R.slots) (hlocks : meth.locks = false)
    (hx : ∀ t : State, s.vm.Alike t.vm → H.size ≤ t.heap.size → (∀ q : Nat, q < H.size → t.heap[q]? = H[q]?) → XC cls s t)
    (hf : ∀ z ∈ locs, free z.base) (hc : cells + 1 ≤ mc) (hs : slots + 6 ≤ ms) :
    W p l e R s m args below meth c H locs cells slots (vx_MQ below Qc XC args s mc ms free) (F0 m pc ls rest) := by
  intro T hT X
  have htr : e.platform.stackTraces = false := (show e.platform.stackTraces = l.stackTraces by rw [X.admits.platform]).trans hl
  have Y := vx_rebase X (R' := { frames := R.frames, locals := R.locals, cells := 1, slots := 6 }) (Nat.le_refl _) (Nat.le_refl _) hRcells hRslots
  obtain ⟨s', hA⟩ : ∃ z, z = (T.setVm s.vm).setFrames (.invoking m args :: below) := ⟨_, rfl⟩
  rw [← hA] at Y
  have hvm : s'.vm = s.vm := by rw [hA]; rfl
  have hhp : s'.heap = H := by rw [hA]; exact hT
  have hW0 : s.WarmedH s'.vm := by rw [hvm]; exact State.WarmedH.refl s
  have hat' : ∀ w ∈ vx_atS own ic cls names, w.before args s' = true := fun w hw => vx_ot_at hW0 hvm.symm (hgood w (List.mem_cons_of_mem _ (List.mem_cons_of_mem _ hw))) (hat w hw)
  have hk' : (Cond.classLink own ik cls).before args s' = true := vx_ot_at hW0 hvm.symm (hgood _ List.mem_cons_self) hk
  have hini' : (Cond.initialized cls).before args s' = true := vx_ot_at hW0 hvm.symm (hgood _ (List.mem_cons_of_mem _ List.mem_cons_self)) hini
  have hU' : vx_Zq Bundle.tN "UNASSIGNED_STACK" Bundle.steD A s' s'.heap := by rw [hhp]; exact vx_Zq.moved hW0.alike (hU.kept hS.2.1)
  have hN' : vx_Zq Bundle.tN "SUPPRESSED_SENTINEL" Bundle.listD A s' s'.heap := by rw [hhp]; exact vx_Zq.moved hW0.alike (hN.kept hS.2.1)
  have h : ∀ w ∈ Bundle.ownAtoms own ic cls names, w.before args s' = true := vx_own hat' (vx_isRefq hU'.1) (vx_isRefq hN'.1) hU'.2.word hN'.2.word
  have hown' : s'.vm.findClass own = some m.cls := by rw [hvm]; exact hown
  have hins : (Cond.instantiable cls 6).before args s' = true := h _ (by simp [Bundle.ownAtoms])
  obtain ⟨vm₁, cX, kX, hfX, hkX, -, -, X₁, st1⟩ := Y.newCold hexec (own := own) (C := cls) (index := ik) (n := 6) hown' hk' hins hini'
    (g := F0 m pc ls rest) rfl (by rw [hb]; exact d0) (Nat.le_refl _) (Nat.le_refl _)
  generalize hT1 : (T.setVm vm₁).pushCell { cls := cX, slots := kX.instanceTypes.map defaultValue, vm := .none } = T1 at X₁ st1
  have hcat : (Value.ref T.heap.size).category = 1 := rfl
  have hcellA : T1.heap[T.heap.size]? = some (freshCell cX kX) := by rw [← hT1]; exact State.heap_pushCell_size _ _
  have d3' : decode c.code (pc + 3) = .ok (.dup, 1) := by rw [hb]; exact d3
  have d4' : decode c.code (pc + 4) = .ok (.ldc_w is, 3) := by rw [hb]; exact d4
  have hstr' : vk_R own is text sa s' := vk_R.warm hW0 hstr
  obtain ⟨U, hsteps, hrun, hend, hW, hsame, ce, hce, hO⟩ := X₁.ctorThrowS hexec htr (own := own) (cls := cls) (names := names) (ic := ic) hown' hcls hnames h (fun x hx => nomatch hx) hfX hkX hcellA (by rw [hhp, hT]; exact Nat.le_refl _) (msg := .ref sa) rfl
    (g := { method := m, pc := pc + 7, locals := ls, stack := .ref sa :: .ref T.heap.size :: .ref T.heap.size :: rest, locked := none }) rfl hsize rfl rfl (rest := rest) rfl
    (by rw [hb]; exact d7) (by rw [hb]; exact d10) hout hRframes (by simp only [List.map_cons, List.sum_cons, hcat]; omega) hlocks
  obtain ⟨f1, f2⟩ := vx_frame hsame
  rw [hhp] at f1 f2
  have hWs : s.WarmedH U.vm := State.WarmedH.trans hW0 hW
  have hcl : s.vm.findClass cls = some ce.cls := by
    have h9 := hO.cls
    rw [hvm] at h9
    exact h9
  have hall : s.sameButNew ({ U with vm := s.vm } : State) locs mc ms := by
    subst hA
    obtain ⟨e1, e2⟩ := hsame
    rw [State.setFrames_setFrames] at e1
    have h2 : (T.setVm s.vm).sameButNew ({ U with vm := s.vm } : State) [] (0 + 1) (0 + 6) := ⟨e1, e2⟩
    have h3 := X.same.trans h2
    rw [List.append_nil] at h3
    exact h3.mono hc hs
  refine ⟨U, ?_, .threw T.heap.size, hrun, hend, Or.inr ⟨T.heap.size, rfl, cls, ce, locs, hx U hWs.alike f1 (fun q hq => f2 q hq (fun z hz => nomatch hz)), hce, hO.vm, hcl, hWs, hall, hf⟩⟩
  refine st1 _ ?_
  show Steps p.tables e below (T1.setTop { method := m, pc := pc + 3, locals := ls, stack := .ref T.heap.size :: rest, locked := none }) _
  jvm_step X₁.here [X₁.here.top, hexec, d3', Value.category]
  exact X₁.ldcStringW hexec (own := own) (text := text) (index := is) (a := sa) hown' hstr'.1 hstr'.2
    (g := { method := m, pc := pc + 4, locals := ls, stack := .ref T.heap.size :: .ref T.heap.size :: rest, locked := none }) rfl d4' _ hsteps
end Ends
section Bodies
variable {l : Launch}
theorem vx_ofW {y : MethodName} {ws ws' : List Cond} {rm : Room} {Pc : Array Value → State → Prop} {Qc : Array Value → State → Outcome → State → Prop} {XC : String → State → State → Prop} {mc ms : Nat} {free : Addr → Prop} {cc : ByteArray} {maxL : Nat} {ret : Option FieldType}
    (hy : plainName y.cls = true) (hw : ws = Cond.code y cc maxL ret :: ws')
    (body : ∀ p e s m args below meth c s₁, BodyLoose p l y (headSpec ws rm) cc maxL ret e s m args below meth c s₁ → c.maxLocals = maxL → (∀ x ∈ c.exceptionTable.toList, False) → Pc args s →
      W p l e (headSpec ws rm).room s m args below meth c s.heap [] 0 0 (vx_MQ below Qc XC args s mc ms free) (entryFrame m args maxL)) : vx_Met l y ws rm Pc Qc XC mc ms free := by
  refine MetFree.of_bodyS (code := cc) (maxLocals := maxL) (ret := ret) hy ?_ ?_
  · intro args s m h hn
    obtain ⟨meth, c, h1, h2, h3, h4, h5, h6, -, -⟩ := Cond.code_spec hn (atoms_spec (ws := ws) h _ (by rw [hw]; exact List.mem_cons_self))
    exact ⟨meth, c, h1, h2, h3, h4, h5, h6⟩
  · intro p e s m args below meth c s₁ B hml hP _
    have hh0 : s₁.heap = s.heap := by rw [B.state]; rfl
    have ht : ∀ x ∈ c.exceptionTable.toList, False := by
      obtain ⟨meth9, c9, h1, h2, -, -, -, -, h7, -⟩ := Cond.code_spec B.named (atoms_spec (ws := ws) B.pre _ (by rw [hw]; exact List.mem_cons_self))
      cases Option.some.inj (h1.symm.trans B.method)
      cases Option.some.inj (h2.symm.trans (Stand.of_body B).code)
      intro x hx
      rw [Array.isEmpty_iff.mp h7] at hx
      cases hx
    obtain ⟨t, a1, o, b1, b2, b3⟩ := body p e s m args below meth c s₁ B hml ht hP s₁ hh0 (Stand.of_body B)
    exact ⟨t, o, a1, b1, b2, b3⟩
/-- the table of a body with handlers -/
theorem vx_table {p : Program} {x y : MethodName} {S : Spec} {cc bytes : ByteArray} {maxL maxL' : Nat} {ret ret' : Option FieldType} {e : Env} {s s₁ : State} {m : MethodId} {args : Array Value} {below : List Frame} {meth : Method} {c : Code} {hh : List (Nat × Nat × Nat × Nat)}
    (B : BodyLoose p l y S cc maxL ret e s m args below meth c s₁) (h : (Cond.codeWith y bytes maxL' ret' hh).before args s = true) : c.exceptionTable.toList = tableOf hh := by
  obtain ⟨m9, meth9, c9, hn9, h1, h2, -, -, h6, -⟩ := Cond.codeWith_spec h
  cases Option.some.inj (hn9.symm.trans B.named)
  cases Option.some.inj (h1.symm.trans B.method)
  cases Option.some.inj (h2.symm.trans (Stand.of_body B).code)
  rw [← h6, table_eq]
end Bodies
end VXA
/-! ===== END ===== -/
/-! ===== BEGIN a static call of a method with an exception table ===== -/
section VXS
variable {p : Program} {l : Launch} {e : Env} {R : Room} {s : State} {m : MethodId} {args : Array Value} {below : List Frame} {meth : Method} {c : Code} {T : State} {H : Heap} {locs : List Loc} {cells slots : Nat}
abbrev vx_CSW (R : Room) (s : State) (args : Array Value) (own : String) (index : Nat) (y : MethodName) (bytes : ByteArray) (maxL : Nat) (ret : Option FieldType) (hh : List (Nat × Nat × Nat × Nat)) (ws : List Cond) (rm : Room) (mc ms n : Nat) : Prop :=
  (rm.cells = mc ∧ rm.slots = ms ∧ rm.frames + 1 ≤ R.frames ∧ 8 + (maxL + 11) + rm.locals ≤ R.locals ∧ (∀ w ∈ ws, ∀ (a' : Array Value) (U : State), s.WarmedH U.vm → w.before a' U = true) ∧ Cond.codeWith y bytes maxL ret hh ∈ ws) ∧
  (Cond.codeWith y bytes maxL ret hh).before args s = true ∧ (Cond.initialized y.cls).before args s = true ∧ (y.cls ≠ "java/lang/invoke/MethodHandle" ∧ y.cls ≠ "java/lang/invoke/VarHandle") ∧
  (∀ sig, parseMethodDescriptor y.desc = some sig → n = sig.parameters.length) ∧ (Cond.methodLink own index y).before args s = true ∧ (Cond.static y).before args s = true
theorem vx_cwSW {own : String} {index maxL mc ms : Nat} {y : MethodName} {bytes : ByteArray} {ret : Option FieldType} {hh : List (Nat × Nat × Nat × Nat)} {Ts ws ws' : List Cond} {rm : Room} (n : Nat) (ht : ∀ w ∈ Ts, w.before args s = true) (hT : GoodIn Ts (va_wsS own index y ws)) (hw : ws = Cond.codeWith y bytes maxL ret hh :: ws') (hrc : rm.cells = mc) (hrs : rm.slots = ms)
    (hd : y.cls ≠ "java/lang/invoke/MethodHandle" ∧ y.cls ≠ "java/lang/invoke/VarHandle" ∧ (parseMethodDescriptor y.desc).map (fun d => d.parameters.length) = some n) (hR : rm.frames + 1 ≤ R.frames ∧ 8 + (maxL + 11) + rm.locals ≤ R.locals) :
    vx_CSW R s args own index y bytes maxL ret hh ws rm mc ms n := by
  have ok : ∀ w ∈ va_wsS own index y ws, w.before args s = true := fun w h => ht w (hT w h).1
  have hG : GoodIn Ts ws := fun w h => hT w (by unfold va_wsS; exact List.mem_append_right _ h)
  have hc : Cond.codeWith y bytes maxL ret hh ∈ ws := by rw [hw]; exact List.mem_cons_self
  refine ⟨⟨hrc, hrs, hR.1, hR.2, pay_in ht hG, hc⟩, ht _ (hG _ hc).1, ok _ (by simp [va_wsS]), ⟨hd.1, hd.2.1⟩, fun sig h => ?_, ok _ (by simp [va_wsS]), ok _ (by simp [va_wsS])⟩
  have h2 := hd.2.2
  rw [h] at h2
  exact (Option.some.inj h2).symm
theorem vx_callSW (X : Stand p l e R s m args below meth c T locs cells slots) (hexec : p.tables.exec = Jvm.exec) {own : String} {index : Nat} {y : MethodName} {bytes : ByteArray} {maxL : Nat} {ret : Option FieldType} {hh : List (Nat × Nat × Nat × Nat)}
    (hown : s.vm.findClass own = some m.cls) (hlink : (Cond.methodLink own index y).before args s = true) (hstat : (Cond.static y).before args s = true) (hinit : (Cond.initialized y.cls).before args s = true)
    (hcode : (Cond.codeWith y bytes maxL ret hh).before args s = true) (hy : y.cls ≠ "java/lang/invoke/MethodHandle" ∧ y.cls ≠ "java/lang/invoke/VarHandle")
    {W9 : Nat} {Pre : Pt → Array Value → Prop} {Post : Pt → Array Value → Option Value → Pt → Prop} (hK : Back l R p e below s args y 3 W9 Pre Post)
    {g : JFrame} (hg : g.method = m) (hsize : g.locals.size = c.maxLocals) {argsL rest : List Value} (hlen : ∀ sig, parseMethodDescriptor y.desc = some sig → argsL.length = sig.parameters.length)
    (hstack : g.stack = argsL.reverse ++ rest) (hW : 2 * g.monitorRoom + (rest.map fun v => v.category).sum ≤ W9) (hdg : decode c.code g.pc = .ok (.invokestatic index, 3))
    (hpre : ∀ vm₁, s.WarmedH vm₁ → Pre ⟨T.setVm vm₁, locs, cells, slots⟩ argsL.toArray) :
    ∃ (v : Option Value) (vm₁ : Vm) (B : Pt), s.WarmedH vm₁ ∧ Stand p l e R s m args below meth c B.U B.locs B.cells B.slots ∧ Post ⟨T.setVm vm₁, locs, cells, slots⟩ argsL.toArray v B ∧
      ∀ target, Steps p.tables e below (B.U.setTop { g with pc := g.pc + 3, stack := v.toList ++ rest }) target → Steps p.tables e below (T.setTop g) target := by
  obtain ⟨mk, methM, cM, hnamed, hmethM, -, -, -, -, -, -, hsigM⟩ := Cond.codeWith_spec hcode
  have hstatic : methM.isStatic = true := Cond.static_spec hnamed hmethM hstat
  obtain ⟨kP, hkP, -⟩ := className_of_methodNamed hnamed
  have hinitP : kP.init = .initialized := Cond.initialized_spec (findClass_of_methodNamed hnamed) hkP hinit
  obtain ⟨vm₁, X₁, hstep₁⟩ := X.invokestatic hexec hown hlink hnamed hmethM hstatic hkP hinitP hy (g := g) hg (argsL := argsL) (rest := rest) (hlen _ hsigM) hstack hdg
  obtain ⟨v, B, X', hpost, hsteps⟩ := hK m meth c ⟨T.setVm vm₁, locs, cells, slots⟩ { g with stack := rest } (.invokestatic index) mk argsL.toArray X₁ hg hsize hdg hW (X₁.named hnamed) (hpre vm₁ X₁.warmed)
  exact ⟨v, vm₁, B, X₁.warmed, X', hpost, fun target h => hstep₁ _ fun acts => by rw [doInvoke_state]; exact hsteps.trans h⟩
theorem vx_runSW {y : MethodName} {bytes cc : ByteArray} {maxL nL mc ms n index : Nat} {ret : Option FieldType} {hh : List (Nat × Nat × Nat × Nat)} {ws : List Cond} {rm : Room} {Pc : Array Value → State → Prop} {Qc : Array Value → State → Outcome → State → Prop} {free : Addr → Prop} {Ts : List Cond} {own : String} {As rest : List Value} {g : JFrame}
    (S : CallFix p m c cc nL s args Ts own) (hM : Met l y ws rm Pc Qc mc ms free) (cw : vx_CSW R s args own index y bytes maxL ret hh ws rm mc ms n) (hp : PreS s H Pc As)
    (hg : g.method = m) (hn : As.length = n) (hsize : g.locals.size = nL) (hstack : g.stack = As.reverse ++ rest) (hW : 2 * g.monitorRoom + (rest.map fun v => v.category).sum ≤ 8) (hdg : decode cc g.pc = .ok (.invokestatic index, 3)) (hf : cells + mc ≤ R.cells ∧ slots + ms ≤ R.slots) :
    va_Run p l e R s m args below meth c H locs cells slots mc ms g rest (Qc As.toArray) (free) := by
  obtain ⟨⟨hrc, hrs, hfr, hlo, hws, hcw⟩, hcode, hini, hy, hlen, hl, hstt⟩ := cw
  have hK : Back l R p e below s args y 3 8 (PreOf R mc ms Pc) (PostOf Qc mc ms free) := va_backW (hh := hh) (bytes := bytes) (maxL := maxL) (ret := ret) hM hp.1 hrc hrs hfr hlo hws hcw (fun a' U hW => word_at hW (Or.inl (by first | rfl | simp [Cond.onTables, Cond.keeps, Cond.steady])) hini)
  obtain ⟨hx, hb, hml, ho, -⟩ := S
  intro T hT X
  obtain ⟨v, vm₁, ⟨U', l2, c2, s2⟩, hW₁, X', ⟨g', mk, t, L, e1, e2, hq, h1, hL, h2, h3⟩, st⟩ := vx_callSW X hx (hh := hh) (bytes := bytes) (maxL := maxL) (ret := ret) ho hl hstt hini hcode hy hK hg (hsize.trans hml.symm) (argsL := As) (rest := rest) (fun sig h => hn.trans (hlen sig h)) hstack hW (by rw [hb]; exact hdg)
    (fun vm₁ hW₁ => ⟨hf.1, hf.2, hp.2 (T.setVm vm₁) hT hW₁⟩)
  dsimp only [Pt.U, Pt.locs, Pt.cells, Pt.slots] at X' e1 e2 h1 h2 h3 st
  subst h1; subst h2; subst h3
  exact ⟨v, (T.setVm vm₁).calling g' mk As.toArray, t, U', L, hT, X', hL, e1, e2, hq, st⟩
/-- not caught here, past rows that name other classes: it goes on to the caller -/
theorem vx_outP {p : Program} {l : Launch} {e : Env} {R : Room} {s : State} {m : MethodId} {args : Array Value} {below : List Frame} {meth : Method} {c : Code} {H : Heap} {locs : List Loc} {cells slots : Nat} {free : Addr → Prop} {ls : Array Slot} {rest : List Value} {Qc : Array Value → State → Outcome → State → Prop} {XC : String → State → State → Prop}
    {pc : Nat} {own E : String} {ce : Cell} {q : Addr} {mc ms : Nat} (hown : s.vm.findClass own = some m.cls) (hlocks : meth.locks = false)
    (hpass : ∀ z ∈ c.exceptionTable.toList, covers z pc = false ∨ (z.catchType ≠ 0 ∧ ∃ nm : String, (Cond.classLink own z.catchType nm).before args s = true ∧ va_Nc E nm s)) (hcell : H[q]? = some ce) (hv : ce.vm = .none) (hcl : s.vm.findClass E = some ce.cls)
    (hx : ∀ t : State, t.heap = H → s.vm.Alike t.vm → XC E s t) (hf : ∀ z ∈ locs, free z.base) (hc : cells ≤ mc) (hs : slots ≤ ms) :
    vx_W p l e R s m args below meth c H locs cells slots (vx_MQ below Qc XC args s mc ms free) (F0 m pc ls rest) q := by
  intro T hT X
  have hpl : e.platform.magicAccessors = ({} : Platform).magicAccessors := by rw [X.admits.platform]
  obtain ⟨vm', hW', X', st⟩ := X.outThrough hlocks q (g := F0 m pc ls rest) rfl rfl rfl (cell := ce) (by rw [hT]; exact hcell) (by rw [hv]; rfl)
    (by obtain ⟨k9, h9, -⟩ := Vm.findClass_spec hcl; exact ⟨k9, h9⟩) (fun z hz => by
      rcases hpass z hz with h | ⟨hz0, nm, hl1, hn1⟩
      · exact Or.inl h
      · obtain ⟨c6, hc6, hcl6⟩ := Cond.classLink_spec hown hl1 e.platform hpl
        obtain ⟨a8, b8, h1, h2, h3⟩ := hn1
        cases Option.some.inj (h1.symm.trans hcl)
        cases Option.some.inj (h2.symm.trans hc6)
        exact Or.inr ⟨hz0, _, hcl6, h3⟩)
  obtain ⟨g₀, hfr⟩ := X'.frames_eq
  have hcell9 : ((T.setVm vm').setFrames (.throwing q :: below)).heap[q]? = some ce := by
    show T.heap[q]? = some ce
    rw [hT]; exact hcell
  have hend : Ended ((T.setVm vm').setFrames (.throwing q :: below)) below (.threw q) := State.frames_setFrames _ (State.cur_lt_of_frames hfr)
  refine ⟨(T.setVm vm').setFrames (.throwing q :: below), ?_, .threw q, X'.here.running, hend, Or.inr ⟨q, rfl, E, ce, locs, hx _ hT (X'.ends _).1.alike, hcell9, hv, hcl, (X'.ends _).1, (X'.ends _).2.mono hc hs, hf⟩⟩
  rw [X.pushThrowing_eq]
  exact st
/-- a thing of a world lies in the heap -/
theorem vx_lt {D : va_G} {cl : List vw_C} {ws : va_W} {H1 : Heap} (h : va_P D cl ws H1) {k : Nat} {q : Nat × va_E} (hk : ws[k]? = some q) : q.1 < H1.size := (h k q hk).lt
end VXS
/-! ===== END ===== -/
/-! ===== BEGIN methods with a table of their own: called by a name, returning or throwing ===== -/
section VXH
/-! vx_backW, vx_callVX, vx_callSX, vx_callVW, vx_runVW, vx_runVX, vx_runSX, vx_ofWH follow the same proofs as their sisters above (Free/Laws.lean, Shelf42/LK1.lean); vx_outP calls Shelf42/NT130.lean (outThrough). -/
section
variable {l : Launch} {R : Room} {p : Program} {e : Env} {below : List Frame} {s : State} {sargs : Array Value} {y : MethodName} {len W9 : Nat}
theorem vx_backW {ws : List Cond} {rm : Room} {Pc : Array Value → State → Prop} {Qc : Array Value → State → Outcome → State → Prop} {XC : String → State → State → Prop} {mc ms : Nat} {free : Addr → Prop} {bytes : ByteArray} {maxL : Nat} {ret : Option FieldType} {hh : List (Nat × Nat × Nat × Nat)}
    (hM : vx_Met l y ws rm Pc Qc XC mc ms free) (hblind : FrameBlind Pc) (hrc : rm.cells = mc) (hrs : rm.slots = ms)
    (hframes : rm.frames + 1 ≤ R.frames) (hlocals : W9 + (maxL + 11) + rm.locals ≤ R.locals)
    (hws : ∀ w ∈ ws, ∀ a' U, s.WarmedH U.vm → w.before a' U = true) (hcode : Cond.codeWith y bytes maxL ret hh ∈ ws) (hinit : ∀ a' U, s.WarmedH U.vm → (Cond.initialized y.cls).before a' U = true) :
    vx_Back l R p e below s sargs y len W9 (PreOf R mc ms Pc) (PostOf Qc mc ms free) (vx_Post XC mc ms free) := by
  intro m meth c A g ig mk a X hg hsize hdg hW hn hp
  have h1 : (headSpec ws rm).pre.before a A.U = true := atoms_intro fun w hw => hws w hw _ _ X.warmed
  have h2 : (Cond.codeWith y bytes maxL ret hh).before a A.U = true := hws _ hcode _ _ X.warmed
  have h3 : (Cond.initialized y.cls).before a A.U = true := hinit _ _ X.warmed
  have h4 : A.cells + (headSpec ws rm).room.cells ≤ R.cells := by rw [show (headSpec ws rm).room.cells = mc from hrc]; exact hp.1
  have h5 : A.slots + (headSpec ws rm).room.slots ≤ R.slots := by rw [show (headSpec ws rm).room.slots = ms from hrs]; exact hp.2.1
  have hPc : Pc a (A.U.calling g mk a) := hblind _ _ _ _ hp.2.2
  obtain ⟨U, Ls, c0, s0⟩ := A
  dsimp only [Pt.U, Pt.locs, Pt.cells, Pt.slots] at h1 h2 h3 h4 h5 X hn hPc ⊢
  obtain ⟨m9, methY, cY, hn9, hmY, hcY, -, hlY, -⟩ := Cond.codeWith_spec h2
  cases Option.some.inj (hn9.symm.trans hn)
  obtain ⟨kY, hkY, -⟩ := className_of_methodNamed hn
  have hinitY : kY.init = .initialized := Cond.initialized_spec (findClass_of_methodNamed hn) hkY h3
  have h : At U g.method c below := by rw [hg]; exact X.here
  have hlocals9 : W9 + (maxL + 11) + (headSpec ws rm).room.locals ≤ R.locals := hlocals
  have happ : (headSpec ws rm).appliesLoose y e.platform (U.calling g mk a) = true :=
    Spec.appliesLoose_calling (g := g) h hdg hn hkY hinitY
      (X.room_calling (g := g) (R' := (headSpec ws rm).room) hsize hmY hcY hframes (by rw [hlY]; omega) h4 h5) h1
  obtain ⟨mid, hmid⟩ := h.above
  have hfr : (U.setTop g).frames = (.java g :: mid) ++ below := by rw [State.frames_setTop' g h.top, hmid]; rfl
  obtain ⟨o, s₂, hsteps, -, hend, hq⟩ := Steps.callFree hM p X.admits X.cas X.clock (acts := []) hfr happ hPc trivial
  have hq' : vx_Q Qc XC mc ms free a (U.calling g mk a) o s₂ := hq
  rw [State.frames_setTop' g h.top] at hend
  obtain ⟨g₀, hg0⟩ := Option.isSome_iff_exists.mp h.top
  obtain ⟨r, hr⟩ := State.topJava?_eq_some.mp hg0
  have hr' : (({ U with heap := s₂.heap, slotsUsed := s₂.slotsUsed } : State).setVm s₂.vm).frames = .java g₀ :: r := hr
  rcases hq' with ⟨hqc, L, hfe, hL⟩ | ⟨q, rfl, E, ce, L, hx, hce, hcv, hcl, hW₂, hsm, hL⟩
  · obtain ⟨⟨v, rfl⟩, hW₂, e2, q2, q3, q4, q5, q6⟩ := id hfe
    have e3 : s₂ = ({ (U.calling g mk a).setFrames s₂.frames with heap := s₂.heap, slotsUsed := s₂.slotsUsed } : State).setVm s₂.vm := by
      have : s₂ = ({ s₂ with vm := (U.calling g mk a).vm } : State).setVm s₂.vm := rfl
      rw [e2] at this
      exact this
    obtain ⟨c₂, i₂, len₂, hc₂, hd₂, hf₂⟩ := hend
    have hW' : U.WarmedH s₂.vm := hW₂
    have hcc : c₂ = c := by
      have h1 : s₂.code? g.method = U.code? g.method := by
        rw [State.code?_eq, State.code?_eq, hW'.alike.method?]
      exact Option.some.inj (hc₂.symm.trans (h1.trans h.code))
    subst hcc
    have hlen : len₂ = len := by rw [hdg] at hd₂; cases hd₂; rfl
    subst hlen
    have hs₂ : s₂ = (({ U with heap := s₂.heap, slotsUsed := s₂.slotsUsed } : State).setVm s₂.vm).setTop { g with pc := g.pc + len₂, stack := v.toList ++ g.stack } := by
      refine e3.trans ?_
      rw [hf₂, State.calling_eq h.top, State.setFrames_setFrames, State.setTop_of_frames _ hr', hr]
      rfl
    have hsame : U.sameButNew ({ U with heap := s₂.heap, slotsUsed := s₂.slotsUsed } : State) L mc ms := by
      refine ⟨?_, q2, q3, q4, q5, q6⟩
      obtain ⟨t, ht, -⟩ := State.frames_cons hr
      show ({ U with heap := s₂.heap, slotsUsed := s₂.slotsUsed } : State) = { U.setFrames U.frames with heap := s₂.heap, slotsUsed := s₂.slotsUsed }
      rw [State.setFrames_self ht]
    subst hg
    refine Or.inl ⟨v, ⟨(({ U with heap := s₂.heap, slotsUsed := s₂.slotsUsed } : State).setVm s₂.vm), Ls ++ L, c0 + mc, s0 + ms⟩,
      ⟨X.admits, X.cas, X.clock, X.frames, X.room, X.hears, X.method, X.code, (X.here.setHeapUsed s₂.heap s₂.slotsUsed).setVm hW'.alike, X.tail, State.WarmedH.trans X.warmed hW', X.limits, X.bytes, X.same.trans (hsame.setVm s.vm)⟩,
      ⟨g, mk, s₂, L, rfl, rfl, hqc, rfl, hL, rfl, rfl⟩, ?_⟩
    show Steps p.tables e below _ ((({ U with heap := s₂.heap, slotsUsed := s₂.slotsUsed } : State).setVm s₂.vm).setTop { g with pc := g.pc + len₂, stack := v.toList ++ g.stack })
    rw [← hs₂]
    exact hsteps
  · obtain ⟨e2, q2, q3, q4, q5, q6⟩ := id hsm
    have e3 : s₂ = ({ (U.calling g mk a).setFrames s₂.frames with heap := s₂.heap, slotsUsed := s₂.slotsUsed } : State).setVm s₂.vm := by
      have : s₂ = ({ s₂ with vm := (U.calling g mk a).vm } : State).setVm s₂.vm := rfl
      rw [e2] at this
      exact this
    have hf₂ : s₂.frames = .throwing q :: .java g :: U.frames.tail := hend
    have hW' : U.WarmedH s₂.vm := hW₂
    have hs₂ : s₂ = ((({ U with heap := s₂.heap, slotsUsed := s₂.slotsUsed } : State).setVm s₂.vm).setTop g).pushFrame (.throwing q) := by
      refine e3.trans ?_
      rw [hf₂, State.calling_eq h.top, State.setFrames_setFrames, State.pushFrame, State.frames_setTop _ hr', State.setTop_of_frames _ hr', State.setFrames_setFrames, hr]
      rfl
    have hsame : U.sameButNew ({ U with heap := s₂.heap, slotsUsed := s₂.slotsUsed } : State) L mc ms := by
      refine ⟨?_, q2, q3, q4, q5, q6⟩
      obtain ⟨t, ht, -⟩ := State.frames_cons hr
      show ({ U with heap := s₂.heap, slotsUsed := s₂.slotsUsed } : State) = { U.setFrames U.frames with heap := s₂.heap, slotsUsed := s₂.slotsUsed }
      rw [State.setFrames_self ht]
    subst hg
    refine Or.inr ⟨q, ⟨(({ U with heap := s₂.heap, slotsUsed := s₂.slotsUsed } : State).setVm s₂.vm), Ls ++ L, c0 + mc, s0 + ms⟩,
      ⟨X.admits, X.cas, X.clock, X.frames, X.room, X.hears, X.method, X.code, (X.here.setHeapUsed s₂.heap s₂.slotsUsed).setVm hW'.alike, X.tail, State.WarmedH.trans X.warmed hW', X.limits, X.bytes, X.same.trans (hsame.setVm s.vm)⟩,
      ⟨g, mk, s₂, L, E, ce, rfl, rfl, hx, hce, hcv, hcl, rfl, hL, rfl, rfl⟩, ?_⟩
    show Steps p.tables e below _ (((({ U with heap := s₂.heap, slotsUsed := s₂.slotsUsed } : State).setVm s₂.vm).setTop g).pushFrame (.throwing q))
    rw [← hs₂]
    exact hsteps
end
variable {p : Program} {l : Launch} {e : Env} {R : Room} {s : State} {m : MethodId} {args : Array Value} {below : List Frame} {meth : Method} {c : Code} {T : State} {H : Heap} {locs : List Loc} {cells slots : Nat}
theorem vx_callVX (X : Stand p l e R s m args below meth c T locs cells slots) (hexec : p.tables.exec = Jvm.exec) {own C : String} {index : Nat} {y : MethodName} {bytes : ByteArray} {maxL : Nat} {ret : Option FieldType} {hh : List (Nat × Nat × Nat × Nat)}
    (hown : s.vm.findClass own = some m.cls) (hlink : (Cond.methodLink own index y).before args s = true) (hinst : (Cond.instanceMethod y).before args s = true) (hsel : (Cond.selects C y y).before args s = true)
    (hcode : (Cond.codeWith y bytes maxL ret hh).before args s = true) (hy : y.cls ≠ "java/lang/invoke/MethodHandle" ∧ y.cls ≠ "java/lang/invoke/VarHandle")
    {W9 : Nat} {Pre : Pt → Array Value → Prop} {Post : Pt → Array Value → Option Value → Pt → Prop} {PostX : Pt → Array Value → Addr → Pt → Prop} (hK : vx_Back l R p e below s args y 3 W9 Pre Post PostX)
    {b : Addr} {cellB : Cell} (hcell : T.heap[b]? = some cellB) (hobj : cellB.vm.isStatics = false) (hcls : s.vm.findClass C = some cellB.cls)
    {g : JFrame} (hg : g.method = m) (hsize : g.locals.size = c.maxLocals) {argsL rest : List Value} (hlen : ∀ sig, parseMethodDescriptor y.desc = some sig → argsL.length = sig.parameters.length)
    (hstack : g.stack = argsL.reverse ++ .ref b :: rest) (hW : 2 * g.monitorRoom + (rest.map fun v => v.category).sum ≤ W9) (hdg : decode c.code g.pc = .ok (.invokevirtual index, 3))
    (hpre : ∀ vm₁, s.WarmedH vm₁ → Pre ⟨T.setVm vm₁, locs, cells, slots⟩ (Value.ref b :: argsL).toArray) :
    (∃ (v : Option Value) (vm₁ : Vm) (B : Pt), s.WarmedH vm₁ ∧ Stand p l e R s m args below meth c B.U B.locs B.cells B.slots ∧ Post ⟨T.setVm vm₁, locs, cells, slots⟩ (Value.ref b :: argsL).toArray v B ∧
      ∀ target, Steps p.tables e below (B.U.setTop { g with pc := g.pc + 3, stack := v.toList ++ rest }) target → Steps p.tables e below (T.setTop g) target) ∨
    (∃ (q : Addr) (vm₁ : Vm) (B : Pt), s.WarmedH vm₁ ∧ Stand p l e R s m args below meth c B.U B.locs B.cells B.slots ∧ PostX ⟨T.setVm vm₁, locs, cells, slots⟩ (Value.ref b :: argsL).toArray q B ∧
      Steps p.tables e below (T.setTop g) ((B.U.setTop { g with stack := rest }).pushFrame (.throwing q))) := by
  obtain ⟨mk, methM, hnamed, hmethM, hstM, habM⟩ := Cond.instanceMethod_spec hinst
  obtain ⟨m8, methM', cM, hn8, hmethM', -, -, -, -, -, -, hsigM⟩ := Cond.codeWith_spec hcode
  cases Option.some.inj (hn8.symm.trans hnamed)
  cases hmethM.symm.trans hmethM'
  obtain ⟨c2, r2, m2, q1, q2, q3, q4, kP, hkP, hkPi⟩ := Cond.selects_spec hsel
  cases hcls.symm.trans q1
  cases (State.methodFound?_of_named hnamed hy).symm.trans q2
  cases hnamed.symm.trans q3
  have hselP : selectMethod e.platform s.vm cellB.cls mk = .method mk := by rw [Launch.admits_selectMethod X.admits]; exact q4
  obtain ⟨vm₁, X₁, hstep₁⟩ := X.invokevirtual hexec hown hlink hnamed hmethM hstM hkP hkPi hy (a := b) (cell := cellB) hcell
    (fun z h => by rw [h] at hobj; cases hobj) hselP hmethM habM hkP hkPi (g := g) hg (argsL := argsL) (rest := rest) (hlen _ hsigM) hstack hdg
  rcases hK m meth c ⟨T.setVm vm₁, locs, cells, slots⟩ { g with stack := rest } (.invokevirtual index) mk (Value.ref b :: argsL).toArray X₁ hg hsize hdg hW (X₁.named hnamed) (hpre vm₁ X₁.warmed) with ⟨v, B, X', hpost, hsteps⟩ | ⟨q, B, X', hpost, hsteps⟩
  · exact Or.inl ⟨v, vm₁, B, X₁.warmed, X', hpost, fun target h => hstep₁ _ fun acts => by rw [doInvoke_state]; exact hsteps.trans h⟩
  · exact Or.inr ⟨q, vm₁, B, X₁.warmed, X', hpost, hstep₁ _ fun acts => by rw [doInvoke_state]; exact hsteps⟩
theorem vx_callSX (X : Stand p l e R s m args below meth c T locs cells slots) (hexec : p.tables.exec = Jvm.exec) {own : String} {index : Nat} {y : MethodName} {bytes : ByteArray} {maxL : Nat} {ret : Option FieldType} {hh : List (Nat × Nat × Nat × Nat)}
    (hown : s.vm.findClass own = some m.cls) (hlink : (Cond.methodLink own index y).before args s = true) (hstat : (Cond.static y).before args s = true) (hinit : (Cond.initialized y.cls).before args s = true)
    (hcode : (Cond.codeWith y bytes maxL ret hh).before args s = true) (hy : y.cls ≠ "java/lang/invoke/MethodHandle" ∧ y.cls ≠ "java/lang/invoke/VarHandle")
    {W9 : Nat} {Pre : Pt → Array Value → Prop} {Post : Pt → Array Value → Option Value → Pt → Prop} {PostX : Pt → Array Value → Addr → Pt → Prop} (hK : vx_Back l R p e below s args y 3 W9 Pre Post PostX)
    {g : JFrame} (hg : g.method = m) (hsize : g.locals.size = c.maxLocals) {argsL rest : List Value} (hlen : ∀ sig, parseMethodDescriptor y.desc = some sig → argsL.length = sig.parameters.length)
    (hstack : g.stack = argsL.reverse ++ rest) (hW : 2 * g.monitorRoom + (rest.map fun v => v.category).sum ≤ W9) (hdg : decode c.code g.pc = .ok (.invokestatic index, 3))
    (hpre : ∀ vm₁, s.WarmedH vm₁ → Pre ⟨T.setVm vm₁, locs, cells, slots⟩ argsL.toArray) :
    (∃ (v : Option Value) (vm₁ : Vm) (B : Pt), s.WarmedH vm₁ ∧ Stand p l e R s m args below meth c B.U B.locs B.cells B.slots ∧ Post ⟨T.setVm vm₁, locs, cells, slots⟩ argsL.toArray v B ∧
      ∀ target, Steps p.tables e below (B.U.setTop { g with pc := g.pc + 3, stack := v.toList ++ rest }) target → Steps p.tables e below (T.setTop g) target) ∨
    (∃ (q : Addr) (vm₁ : Vm) (B : Pt), s.WarmedH vm₁ ∧ Stand p l e R s m args below meth c B.U B.locs B.cells B.slots ∧ PostX ⟨T.setVm vm₁, locs, cells, slots⟩ argsL.toArray q B ∧
      Steps p.tables e below (T.setTop g) ((B.U.setTop { g with stack := rest }).pushFrame (.throwing q))) := by
  obtain ⟨mk, methM, cM, hnamed, hmethM, -, -, -, -, -, -, hsigM⟩ := Cond.codeWith_spec hcode
  have hstatic : methM.isStatic = true := Cond.static_spec hnamed hmethM hstat
  obtain ⟨kP, hkP, -⟩ := className_of_methodNamed hnamed
  have hinitP : kP.init = .initialized := Cond.initialized_spec (findClass_of_methodNamed hnamed) hkP hinit
  obtain ⟨vm₁, X₁, hstep₁⟩ := X.invokestatic hexec hown hlink hnamed hmethM hstatic hkP hinitP hy (g := g) hg (argsL := argsL) (rest := rest) (hlen _ hsigM) hstack hdg
  rcases hK m meth c ⟨T.setVm vm₁, locs, cells, slots⟩ { g with stack := rest } (.invokestatic index) mk argsL.toArray X₁ hg hsize hdg hW (X₁.named hnamed) (hpre vm₁ X₁.warmed) with ⟨v, B, X', hpost, hsteps⟩ | ⟨q, B, X', hpost, hsteps⟩
  · exact Or.inl ⟨v, vm₁, B, X₁.warmed, X', hpost, fun target h => hstep₁ _ fun acts => by rw [doInvoke_state]; exact hsteps.trans h⟩
  · exact Or.inr ⟨q, vm₁, B, X₁.warmed, X', hpost, hstep₁ _ fun acts => by rw [doInvoke_state]; exact hsteps⟩
theorem vx_callVW (X : Stand p l e R s m args below meth c T locs cells slots) (hexec : p.tables.exec = Jvm.exec) {own C : String} {index : Nat} {y : MethodName} {bytes : ByteArray} {maxL : Nat} {ret : Option FieldType} {hh : List (Nat × Nat × Nat × Nat)}
    (hown : s.vm.findClass own = some m.cls) (hlink : (Cond.methodLink own index y).before args s = true) (hinst : (Cond.instanceMethod y).before args s = true) (hsel : (Cond.selects C y y).before args s = true)
    (hcode : (Cond.codeWith y bytes maxL ret hh).before args s = true) (hy : y.cls ≠ "java/lang/invoke/MethodHandle" ∧ y.cls ≠ "java/lang/invoke/VarHandle")
    {W9 : Nat} {Pre : Pt → Array Value → Prop} {Post : Pt → Array Value → Option Value → Pt → Prop} (hK : Back l R p e below s args y 3 W9 Pre Post)
    {b : Addr} {cellB : Cell} (hcell : T.heap[b]? = some cellB) (hobj : cellB.vm.isStatics = false) (hcls : s.vm.findClass C = some cellB.cls)
    {g : JFrame} (hg : g.method = m) (hsize : g.locals.size = c.maxLocals) {argsL rest : List Value} (hlen : ∀ sig, parseMethodDescriptor y.desc = some sig → argsL.length = sig.parameters.length)
    (hstack : g.stack = argsL.reverse ++ .ref b :: rest) (hW : 2 * g.monitorRoom + (rest.map fun v => v.category).sum ≤ W9) (hdg : decode c.code g.pc = .ok (.invokevirtual index, 3))
    (hpre : ∀ vm₁, s.WarmedH vm₁ → Pre ⟨T.setVm vm₁, locs, cells, slots⟩ (Value.ref b :: argsL).toArray) :
    ∃ (v : Option Value) (vm₁ : Vm) (B : Pt), s.WarmedH vm₁ ∧ Stand p l e R s m args below meth c B.U B.locs B.cells B.slots ∧ Post ⟨T.setVm vm₁, locs, cells, slots⟩ (Value.ref b :: argsL).toArray v B ∧
      ∀ target, Steps p.tables e below (B.U.setTop { g with pc := g.pc + 3, stack := v.toList ++ rest }) target → Steps p.tables e below (T.setTop g) target := by
  obtain ⟨mk, methM, hnamed, hmethM, hstM, habM⟩ := Cond.instanceMethod_spec hinst
  obtain ⟨m8, methM', cM, hn8, hmethM', -, -, -, -, -, -, hsigM⟩ := Cond.codeWith_spec hcode
  cases Option.some.inj (hn8.symm.trans hnamed)
  cases hmethM.symm.trans hmethM'
  obtain ⟨c2, r2, m2, q1, q2, q3, q4, kP, hkP, hkPi⟩ := Cond.selects_spec hsel
  cases hcls.symm.trans q1
  cases (State.methodFound?_of_named hnamed hy).symm.trans q2
  cases hnamed.symm.trans q3
  have hselP : selectMethod e.platform s.vm cellB.cls mk = .method mk := by rw [Launch.admits_selectMethod X.admits]; exact q4
  obtain ⟨vm₁, X₁, hstep₁⟩ := X.invokevirtual hexec hown hlink hnamed hmethM hstM hkP hkPi hy (a := b) (cell := cellB) hcell
    (fun z h => by rw [h] at hobj; cases hobj) hselP hmethM habM hkP hkPi (g := g) hg (argsL := argsL) (rest := rest) (hlen _ hsigM) hstack hdg
  obtain ⟨v, B, X', hpost, hsteps⟩ := hK m meth c ⟨T.setVm vm₁, locs, cells, slots⟩ { g with stack := rest } (.invokevirtual index) mk (Value.ref b :: argsL).toArray X₁ hg hsize hdg hW (X₁.named hnamed) (hpre vm₁ X₁.warmed)
  exact ⟨v, vm₁, B, X₁.warmed, X', hpost, fun target h => hstep₁ _ fun acts => by rw [doInvoke_state]; exact hsteps.trans h⟩
abbrev vx_CVW (R : Room) (s : State) (args : Array Value) (own C : String) (index : Nat) (y : MethodName) (bytes : ByteArray) (maxL : Nat) (ret : Option FieldType) (hh : List (Nat × Nat × Nat × Nat)) (ws : List Cond) (rm : Room) (mc ms n : Nat) : Prop :=
  (rm.cells = mc ∧ rm.slots = ms ∧ rm.frames + 1 ≤ R.frames ∧ 8 + (maxL + 11) + rm.locals ≤ R.locals ∧ (∀ w ∈ ws, ∀ (a' : Array Value) (U : State), s.WarmedH U.vm → w.before a' U = true) ∧ Cond.codeWith y bytes maxL ret hh ∈ ws) ∧
  (Cond.codeWith y bytes maxL ret hh).before args s = true ∧ (Cond.initialized y.cls).before args s = true ∧ (y.cls ≠ "java/lang/invoke/MethodHandle" ∧ y.cls ≠ "java/lang/invoke/VarHandle") ∧
  (∀ sig, parseMethodDescriptor y.desc = some sig → n = sig.parameters.length) ∧ (Cond.methodLink own index y).before args s = true ∧ (Cond.instanceMethod y).before args s = true ∧ (Cond.selects C y y).before args s = true
theorem vx_cwVW {own C : String} {index maxL mc ms : Nat} {y : MethodName} {bytes : ByteArray} {ret : Option FieldType} {hh : List (Nat × Nat × Nat × Nat)} {Ts ws ws' : List Cond} {rm : Room} (n : Nat) (ht : ∀ w ∈ Ts, w.before args s = true) (hT : GoodIn Ts (wsV own index C y ws)) (hw : ws = Cond.codeWith y bytes maxL ret hh :: ws') (hrc : rm.cells = mc) (hrs : rm.slots = ms)
    (hd : y.cls = C ∧ y.cls ≠ "java/lang/invoke/MethodHandle" ∧ y.cls ≠ "java/lang/invoke/VarHandle" ∧ (parseMethodDescriptor y.desc).map (fun d => d.parameters.length) = some n) (hR : rm.frames + 1 ≤ R.frames ∧ 8 + (maxL + 11) + rm.locals ≤ R.locals) :
    vx_CVW R s args own C index y bytes maxL ret hh ws rm mc ms n := by
  obtain ⟨hC, hd⟩ := hd
  subst hC
  have ok : ∀ w ∈ wsV own index y.cls y ws, w.before args s = true := fun w h => ht w (hT w h).1
  have hG : GoodIn Ts ws := fun w h => hT w (by unfold wsV; exact List.mem_append_right _ h)
  have hc : Cond.codeWith y bytes maxL ret hh ∈ ws := by rw [hw]; exact List.mem_cons_self
  refine ⟨⟨hrc, hrs, hR.1, hR.2, pay_in ht hG, hc⟩, ht _ (hG _ hc).1, ok _ (by simp [wsV]), ⟨hd.1, hd.2.1⟩, fun sig h => ?_, ok _ (by simp [wsV]), ok _ (by simp [wsV]), ok _ (by simp [wsV])⟩
  have h2 := hd.2.2
  rw [h] at h2
  exact (Option.some.inj h2).symm
theorem vx_runVW {y : MethodName} {bytes cc : ByteArray} {maxL nL mc ms n index : Nat} {ret : Option FieldType} {hh : List (Nat × Nat × Nat × Nat)} {ws : List Cond} {rm : Room} {Pc : Array Value → State → Prop} {Qc : Array Value → State → Outcome → State → Prop} {free : Addr → Prop} {Ts : List Cond} {own C : String} {b : Addr} {As rest : List Value} {g : JFrame}
    (S : CallFix p m c cc nL s args Ts own) (hM : Met l y ws rm Pc Qc mc ms free) (cw : vx_CVW R s args own C index y bytes maxL ret hh ws rm mc ms n) (hp : PreV s H C b Pc As)
    (hg : g.method = m) (hn : As.length = n) (hsize : g.locals.size = nL) (hstack : g.stack = As.reverse ++ .ref b :: rest) (hW : 2 * g.monitorRoom + (rest.map fun v => v.category).sum ≤ 8) (hdg : decode cc g.pc = .ok (.invokevirtual index, 3)) (hf : cells + mc ≤ R.cells ∧ slots + ms ≤ R.slots) :
    va_Run p l e R s m args below meth c H locs cells slots mc ms g rest (Qc (Value.ref b :: As).toArray) free := by
  obtain ⟨⟨hrc, hrs, hfr, hlo, hws, hcw⟩, hcode, hini, hy, hlen, hl, hin, hse⟩ := cw
  have hK : Back l R p e below s args y 3 8 (PreOf R mc ms Pc) (PostOf Qc mc ms free) := va_backW (hh := hh) (bytes := bytes) (maxL := maxL) (ret := ret) hM hp.1 hrc hrs hfr hlo hws hcw (fun a' U hW => word_at hW (Or.inl (by first | rfl | simp [Cond.onTables, Cond.keeps, Cond.steady])) hini)
  obtain ⟨hx, hb, hml, ho, -⟩ := S
  obtain ⟨-, ⟨cellB, hcB, hoB, hclB⟩, hPc⟩ := hp
  intro T hT X
  obtain ⟨v, vm₁, ⟨U', l2, c2, s2⟩, hW₁, X', ⟨g', mk, t, L, e1, e2, hq, h1, hL, h2, h3⟩, st⟩ := vx_callVW X hx (C := C) (hh := hh) (bytes := bytes) (maxL := maxL) (ret := ret) ho hl hin hse hcode hy hK (by rw [hT]; exact hcB) hoB hclB hg (hsize.trans hml.symm) (argsL := As) (rest := rest) (fun sig h => hn.trans (hlen sig h)) hstack hW (by rw [hb]; exact hdg)
    (fun vm₁ hW₁ => ⟨hf.1, hf.2, hPc (T.setVm vm₁) hT hW₁⟩)
  dsimp only [Pt.U, Pt.locs, Pt.cells, Pt.slots] at X' e1 e2 h1 h2 h3 st
  subst h1; subst h2; subst h3
  exact ⟨v, (T.setVm vm₁).calling g' mk (Value.ref b :: As).toArray, t, U', L, hT, X', hL, e1, e2, hq, st⟩
section
variable {y : MethodName} {bytes cc : ByteArray} {maxL nL mc ms n index : Nat} {ret : Option FieldType} {ws : List Cond} {rm : Room} {Pc : Array Value → State → Prop} {Qc : Array Value → State → Outcome → State → Prop} {XC : String → State → State → Prop} {free : Addr → Prop} {Ts : List Cond} {own C : String} {b : Addr} {As rest : List Value} {g : JFrame}
theorem vx_runVX {hh : List (Nat × Nat × Nat × Nat)} (S : CallFix p m c cc nL s args Ts own) (hM : vx_Met l y ws rm Pc Qc XC mc ms free) (cw : vx_CVW R s args own C index y bytes maxL ret hh ws rm mc ms n) (hp : PreV s H C b Pc As)
    (hg : g.method = m) (hn : As.length = n) (hsize : g.locals.size = nL) (hstack : g.stack = As.reverse ++ .ref b :: rest) (hW : 2 * g.monitorRoom + (rest.map fun v => v.category).sum ≤ 8) (hdg : decode cc g.pc = .ok (.invokevirtual index, 3)) (hf : cells + mc ≤ R.cells ∧ slots + ms ≤ R.slots) :
    vx_Run p l e R s m args below meth c H locs cells slots mc ms g rest (Qc (Value.ref b :: As).toArray) XC free := by
  obtain ⟨⟨hrc, hrs, hfr, hlo, hws, hcw⟩, hcode, hini, hy, hlen, hl, hin, hse⟩ := cw
  have hK : vx_Back l R p e below s args y 3 8 (PreOf R mc ms Pc) (PostOf Qc mc ms free) (vx_Post XC mc ms free) := vx_backW (hh := hh) (bytes := bytes) (maxL := maxL) (ret := ret) hM hp.1 hrc hrs hfr hlo hws hcw (fun a' U hW => word_at hW (Or.inl (by first | rfl | simp [Cond.onTables, Cond.keeps, Cond.steady])) hini)
  obtain ⟨hx, hb, hml, ho, -⟩ := S
  obtain ⟨-, ⟨cellB, hcB, hoB, hclB⟩, hPc⟩ := hp
  intro T hT X
  rcases vx_callVX X hx (C := C) (hh := hh) (bytes := bytes) (maxL := maxL) (ret := ret) ho hl hin hse hcode hy hK (by rw [hT]; exact hcB) hoB hclB hg (hsize.trans hml.symm) (argsL := As) (rest := rest) (fun sig h => hn.trans (hlen sig h)) hstack hW (by rw [hb]; exact hdg)
    (fun vm₁ hW₁ => ⟨hf.1, hf.2, hPc (T.setVm vm₁) hT hW₁⟩) with ⟨v, vm₁, ⟨U', l2, c2, s2⟩, hW₁, X', ⟨g', mk, t, L, e1, e2, hq, h1, hL, h2, h3⟩, st⟩ | ⟨q, vm₁, ⟨U', l2, c2, s2⟩, hW₁, X', ⟨g', mk, t, L, E, ce, e1, e2, hq, hce, hcv, hcl, h1, hL, h2, h3⟩, st⟩
  · dsimp only [Pt.U, Pt.locs, Pt.cells, Pt.slots] at X' e1 e2 h1 h2 h3 st
    subst h1; subst h2; subst h3
    exact Or.inl ⟨v, (T.setVm vm₁).calling g' mk (Value.ref b :: As).toArray, t, U', L, hT, X', hL, e1, e2, hq, st⟩
  · dsimp only [Pt.U, Pt.locs, Pt.cells, Pt.slots] at X' e1 e2 h1 h2 h3 st hcl
    subst h1; subst h2; subst h3
    exact Or.inr ⟨q, (T.setVm vm₁).calling g' mk (Value.ref b :: As).toArray, t, U', L, E, ce, hT, X', hL, e1, e2, hq, hce, hcv, vx_cls hW₁ hcl, st⟩
theorem vx_runSX {hh : List (Nat × Nat × Nat × Nat)} (S : CallFix p m c cc nL s args Ts own) (hM : vx_Met l y ws rm Pc Qc XC mc ms free) (cw : vx_CSW R s args own index y bytes maxL ret hh ws rm mc ms n) (hp : PreS s H Pc As)
    (hg : g.method = m) (hn : As.length = n) (hsize : g.locals.size = nL) (hstack : g.stack = As.reverse ++ rest) (hW : 2 * g.monitorRoom + (rest.map fun v => v.category).sum ≤ 8) (hdg : decode cc g.pc = .ok (.invokestatic index, 3)) (hf : cells + mc ≤ R.cells ∧ slots + ms ≤ R.slots) :
    vx_Run p l e R s m args below meth c H locs cells slots mc ms g rest (Qc As.toArray) XC free := by
  obtain ⟨⟨hrc, hrs, hfr, hlo, hws, hcw⟩, hcode, hini, hy, hlen, hl, hstt⟩ := cw
  have hK : vx_Back l R p e below s args y 3 8 (PreOf R mc ms Pc) (PostOf Qc mc ms free) (vx_Post XC mc ms free) := vx_backW (hh := hh) (bytes := bytes) (maxL := maxL) (ret := ret) hM hp.1 hrc hrs hfr hlo hws hcw (fun a' U hW => word_at hW (Or.inl (by first | rfl | simp [Cond.onTables, Cond.keeps, Cond.steady])) hini)
  obtain ⟨hx, hb, hml, ho, -⟩ := S
  intro T hT X
  rcases vx_callSX X hx (hh := hh) (bytes := bytes) (maxL := maxL) (ret := ret) ho hl hstt hini hcode hy hK hg (hsize.trans hml.symm) (argsL := As) (rest := rest) (fun sig h => hn.trans (hlen sig h)) hstack hW (by rw [hb]; exact hdg)
    (fun vm₁ hW₁ => ⟨hf.1, hf.2, hp.2 (T.setVm vm₁) hT hW₁⟩) with ⟨v, vm₁, ⟨U', l2, c2, s2⟩, hW₁, X', ⟨g', mk, t, L, e1, e2, hq, h1, hL, h2, h3⟩, st⟩ | ⟨q, vm₁, ⟨U', l2, c2, s2⟩, hW₁, X', ⟨g', mk, t, L, E, ce, e1, e2, hq, hce, hcv, hcl, h1, hL, h2, h3⟩, st⟩
  · dsimp only [Pt.U, Pt.locs, Pt.cells, Pt.slots] at X' e1 e2 h1 h2 h3 st
    subst h1; subst h2; subst h3
    exact Or.inl ⟨v, (T.setVm vm₁).calling g' mk As.toArray, t, U', L, hT, X', hL, e1, e2, hq, st⟩
  · dsimp only [Pt.U, Pt.locs, Pt.cells, Pt.slots] at X' e1 e2 h1 h2 h3 st hcl
    subst h1; subst h2; subst h3
    exact Or.inr ⟨q, (T.setVm vm₁).calling g' mk As.toArray, t, U', L, E, ce, hT, X', hL, e1, e2, hq, hce, hcv, vx_cls hW₁ hcl, st⟩
end
end VXH
theorem vx_ofWH {l : Launch} {y : MethodName} {ws ws' : List Cond} {rm : Room} {Pc : Array Value → State → Prop} {Qc : Array Value → State → Outcome → State → Prop} {XC : String → State → State → Prop} {mc ms : Nat} {free : Addr → Prop} {cc : ByteArray} {maxL : Nat} {ret : Option FieldType} {hh : List (Nat × Nat × Nat × Nat)}
    (hy : plainName y.cls = true) (hw : ws = Cond.codeWith y cc maxL ret hh :: ws')
    (body : ∀ p e s m args below meth c s₁, BodyLoose p l y (headSpec ws rm) cc maxL ret e s m args below meth c s₁ → c.maxLocals = maxL → Pc args s →
      W p l e (headSpec ws rm).room s m args below meth c s.heap [] 0 0 (vx_MQ below Qc XC args s mc ms free) (entryFrame m args maxL)) : vx_Met l y ws rm Pc Qc XC mc ms free := by
  refine MetFree.of_bodyS (code := cc) (maxLocals := maxL) (ret := ret) hy ?_ ?_
  · intro args s m h hn
    obtain ⟨m9, meth, c, hn9, h1, h2, h3, h4, -, h5, h6, -⟩ := Cond.codeWith_spec (atoms_spec (ws := ws) h _ (by rw [hw]; exact List.mem_cons_self))
    cases hn.symm.trans hn9
    exact ⟨meth, c, h1, h2, h3, h4, h5, h6⟩
  · intro p e s m args below meth c s₁ B hml hP _
    have hh0 : s₁.heap = s.heap := by rw [B.state]; rfl
    obtain ⟨t, a1, o, b1, b2, b3⟩ := body p e s m args below meth c s₁ B hml hP s₁ hh0 (Stand.of_body B)
    exact ⟨t, o, a1, b1, b2, b3⟩
/-! ===== END ===== -/
end
section
/-! ===== BEGIN printed: names, fields, word lists, decode rows ===== -/
def RX0 : String := "ShortWork$Course"
def TX0 : u_T := fun k => match k with
  | 0 => ("ShortWork$Course", "from", "I", true)
  | 1 => ("ShortWork$Course", "to", "I", true)
  | 2 => ("ShortWork$Course", "hours", "I", true)
  | _ => ("ShortWork$Course", "seatsLeft", "I", false)
def tyX0 : Nat → FieldType := fun k => match k with
  | 0 => .int
  | 1 => .int
  | 2 => .int
  | _ => .int
abbrev wsX00 : List Cond := u_ws RX0 TX0 4
theorem nmX0 : ∀ a, a < 4 → ∀ b, b < 4 → a ≠ b → (TX0 a).2.1 ≠ (TX0 b).2.1 := by decide +kernel
theorem tyX0_ok : ∀ k, k < 4 → parseFieldDescriptor (TX0 k).2.2.1 = some (tyX0 k) := by decide +kernel
abbrev cX0_init : ByteArray := prog_2_method_1_code
def yX0_init : MethodName := ⟨RX0, "<init>", "(IIII)V"⟩
def RX1 : String := "ShortWork$Worker"
def TX1 : u_T := fun k => match k with
  | 0 => ("ShortWork$Worker", "fullPay", "I", true)
  | 1 => ("ShortWork$Worker", "hasChildren", "Z", true)
  | 2 => ("ShortWork$Worker", "cutHours", "[I", true)
  | 3 => ("ShortWork$Worker", "courseHours", "[I", true)
  | 4 => ("ShortWork$Worker", "firmPay", "[I", true)
  | 5 => ("ShortWork$Worker", "fundPay", "[I", true)
  | 6 => ("ShortWork$Worker", "doorHours", "[I", true)
  | 7 => ("ShortWork$Worker", "mailed", "[Z", true)
  | 8 => ("ShortWork$Worker", "noticeCount", "I", false)
  | 9 => ("ShortWork$Worker", "cutWeekCount", "I", false)
  | 10 => ("ShortWork$Worker", "received", "I", false)
  | _ => ("ShortWork$Worker", "debt", "I", false)
def tyX1 : Nat → FieldType := fun k => match k with
  | 0 => .int
  | 1 => .boolean
  | 2 => .array .int
  | 3 => .array .int
  | 4 => .array .int
  | 5 => .array .int
  | 6 => .array .int
  | 7 => .array .boolean
  | 8 => .int
  | 9 => .int
  | 10 => .int
  | _ => .int
abbrev wsX10 : List Cond := u_ws RX1 TX1 12
theorem nmX1 : ∀ a, a < 12 → ∀ b, b < 12 → a ≠ b → (TX1 a).2.1 ≠ (TX1 b).2.1 := by decide +kernel
theorem tyX1_ok : ∀ k, k < 12 → parseFieldDescriptor (TX1 k).2.2.1 = some (tyX1 k) := by decide +kernel
abbrev cX1_init : ByteArray := prog_3_method_1_code
def yX1_init : MethodName := ⟨RX1, "<init>", "(IZ)V"⟩
abbrev cX1_takeNotice : ByteArray := prog_3_method_2_code
def yX1_takeNotice : MethodName := ⟨RX1, "takeNotice", "(III)V"⟩
abbrev cX1_hasNoCourseFrom : ByteArray := prog_3_method_3_code
def yX1_hasNoCourseFrom : MethodName := ⟨RX1, "hasNoCourseFrom", "(II)Z"⟩
abbrev cX1_goTo : ByteArray := prog_3_method_4_code
def yX1_goTo : MethodName := ⟨RX1, "goTo", "(LShortWork$Course;)V"⟩
abbrev cX1_hasFilled : ByteArray := prog_3_method_5_code
def yX1_hasFilled : MethodName := ⟨RX1, "hasFilled", "(I)Z"⟩
abbrev cX1_payFor : ByteArray := prog_3_method_6_code
def yX1_payFor : MethodName := ⟨RX1, "payFor", "(II)I"⟩
abbrev cX1_madeUpPercent : ByteArray := prog_3_method_7_code
def yX1_madeUpPercent : MethodName := ⟨RX1, "madeUpPercent", "(I)I"⟩
abbrev cX1_stepPercent : ByteArray := prog_3_method_8_code
def yX1_stepPercent : MethodName := ⟨RX1, "stepPercent", "()I"⟩
abbrev cX1_hasWorkedTooMuch : ByteArray := prog_3_method_9_code
def yX1_hasWorkedTooMuch : MethodName := ⟨RX1, "hasWorkedTooMuch", "(I)Z"⟩
def RX2 : String := "ShortWork"
def TX2 : u_T := fun k => match k with
  | 0 => ("ShortWork", "staff", "[LShortWork$Worker;", true)
  | 1 => ("ShortWork", "courses", "[LShortWork$Course;", true)
  | 2 => ("ShortWork", "checked", "[Z", true)
  | 3 => ("ShortWork", "workerCount", "I", false)
  | 4 => ("ShortWork", "courseCount", "I", false)
  | 5 => ("ShortWork", "currentWeek", "I", false)
  | 6 => ("ShortWork", "floorPercent", "I", false)
  | _ => ("ShortWork", "firmDebt", "I", false)
def tyX2 : Nat → FieldType := fun k => match k with
  | 0 => .array (.object "ShortWork$Worker")
  | 1 => .array (.object "ShortWork$Course")
  | 2 => .array .boolean
  | 3 => .int
  | 4 => .int
  | 5 => .int
  | 6 => .int
  | _ => .int
abbrev wsX20 : List Cond := u_ws RX2 TX2 8
theorem nmX2 : ∀ a, a < 8 → ∀ b, b < 8 → a ≠ b → (TX2 a).2.1 ≠ (TX2 b).2.1 := by decide +kernel
theorem tyX2_ok : ∀ k, k < 8 → parseFieldDescriptor (TX2 k).2.2.1 = some (tyX2 k) := by decide +kernel
abbrev cX2_init : ByteArray := prog_1_method_1_code
def yX2_init : MethodName := ⟨RX2, "<init>", "()V"⟩
abbrev cX2_add : ByteArray := prog_1_method_2_code
def yX2_add : MethodName := ⟨RX2, "add", "(IZ)I"⟩
abbrev cX2_notice : ByteArray := prog_1_method_3_code
def yX2_notice : MethodName := ⟨RX2, "notice", "(IIII)I"⟩
abbrev cX2_addCourse : ByteArray := prog_1_method_4_code
def yX2_addCourse : MethodName := ⟨RX2, "addCourse", "(IIII)I"⟩
abbrev cX2_enrol : ByteArray := prog_1_method_5_code
def yX2_enrol : MethodName := ⟨RX2, "enrol", "(II)I"⟩
abbrev cX2_setFloor : ByteArray := prog_1_method_6_code
def yX2_setFloor : MethodName := ⟨RX2, "setFloor", "(I)I"⟩
abbrev cX2_workers : ByteArray := prog_1_method_7_code
def yX2_workers : MethodName := ⟨RX2, "workers", "()I"⟩
abbrev cX2_cut : ByteArray := prog_1_method_8_code
def yX2_cut : MethodName := ⟨RX2, "cut", "(II)I"⟩
abbrev cX2_isFilled : ByteArray := prog_1_method_9_code
def yX2_isFilled : MethodName := ⟨RX2, "isFilled", "(II)Z"⟩
abbrev cX2_pass : ByteArray := prog_1_method_10_code
def yX2_pass : MethodName := ⟨RX2, "pass", "(I)I"⟩
abbrev cX2_week : ByteArray := prog_1_method_11_code
def yX2_week : MethodName := ⟨RX2, "week", "()I"⟩
abbrev cX2_paid : ByteArray := prog_1_method_12_code
def yX2_paid : MethodName := ⟨RX2, "paid", "(II)I"⟩
abbrev cX2_madeUp : ByteArray := prog_1_method_13_code
def yX2_madeUp : MethodName := ⟨RX2, "madeUp", "(II)I"⟩
abbrev cX2_cutWeeks : ByteArray := prog_1_method_14_code
def yX2_cutWeeks : MethodName := ⟨RX2, "cutWeeks", "(I)I"⟩
abbrev cX2_door : ByteArray := prog_1_method_15_code
def yX2_door : MethodName := ⟨RX2, "door", "(III)V"⟩
abbrev cX2_mail : ByteArray := prog_1_method_16_code
def yX2_mail : MethodName := ⟨RX2, "mail", "(II)V"⟩
abbrev cX2_check : ByteArray := prog_1_method_17_code
def yX2_check : MethodName := ⟨RX2, "check", "(I)I"⟩
abbrev cX2_firmOwes : ByteArray := prog_1_method_18_code
def yX2_firmOwes : MethodName := ⟨RX2, "firmOwes", "()I"⟩
abbrev cX2_owes : ByteArray := prog_1_method_19_code
def yX2_owes : MethodName := ⟨RX2, "owes", "(I)I"⟩
abbrev cX2_net : ByteArray := prog_1_method_20_code
def yX2_net : MethodName := ⟨RX2, "net", "(I)I"⟩
abbrev cX2_payCurrentWeek : ByteArray := prog_1_method_21_code
def yX2_payCurrentWeek : MethodName := ⟨RX2, "payCurrentWeek", "()I"⟩
abbrev cX2_chargeBack : ByteArray := prog_1_method_22_code
def yX2_chargeBack : MethodName := ⟨RX2, "chargeBack", "(LShortWork$Worker;I)V"⟩
abbrev cX2_workerAt : ByteArray := prog_1_method_23_code
def yX2_workerAt : MethodName := ⟨RX2, "workerAt", "(I)LShortWork$Worker;"⟩
abbrev cX2_courseAt : ByteArray := prog_1_method_24_code
def yX2_courseAt : MethodName := ⟨RX2, "courseAt", "(I)LShortWork$Course;"⟩
abbrev cX2_hasPassed : ByteArray := prog_1_method_25_code
def yX2_hasPassed : MethodName := ⟨RX2, "hasPassed", "(I)Z"⟩
abbrev cX2_isSpan : ByteArray := prog_1_method_26_code
def yX2_isSpan : MethodName := ⟨RX2, "isSpan", "(II)Z"⟩
abbrev cX2_isWithin : ByteArray := prog_1_method_27_code
def yX2_isWithin : MethodName := ⟨RX2, "isWithin", "(III)Z"⟩
abbrev cX2_requireArgument : ByteArray := prog_1_method_28_code
def yX2_requireArgument : MethodName := ⟨RX2, "requireArgument", "(Z)V"⟩
abbrev cX2_requireState : ByteArray := prog_1_method_29_code
def yX2_requireState : MethodName := ⟨RX2, "requireState", "(Z)V"⟩
def RX3 : String := "ShortWorkModel"
def TX3 : u_T := fun k => match k with
  | 0 => ("ShortWorkModel", "workers", "I", false)
  | 1 => ("ShortWorkModel", "pay", "[I", true)
  | 2 => ("ShortWorkModel", "hasChildren", "[Z", true)
  | 3 => ("ShortWorkModel", "noticed", "[I", true)
  | 4 => ("ShortWorkModel", "from", "[I", true)
  | 5 => ("ShortWorkModel", "to", "[I", true)
  | 6 => ("ShortWorkModel", "hours", "[I", true)
  | 7 => ("ShortWorkModel", "cutWeeks", "[I", true)
  | 8 => ("ShortWorkModel", "owed", "[I", true)
  | 9 => ("ShortWorkModel", "firmOwed", "I", false)
  | 10 => ("ShortWorkModel", "courses", "I", false)
  | 11 => ("ShortWorkModel", "seats", "[I", true)
  | 12 => ("ShortWorkModel", "begins", "[I", true)
  | 13 => ("ShortWorkModel", "ends", "[I", true)
  | 14 => ("ShortWorkModel", "filling", "[I", true)
  | 15 => ("ShortWorkModel", "isIn", "[Z", true)
  | 16 => ("ShortWorkModel", "week", "I", false)
  | 17 => ("ShortWorkModel", "floor", "I", false)
  | 18 => ("ShortWorkModel", "paid", "[I", true)
  | 19 => ("ShortWorkModel", "made", "[I", true)
  | 20 => ("ShortWorkModel", "cutPaid", "[I", true)
  | 21 => ("ShortWorkModel", "doors", "[I", true)
  | 22 => ("ShortWorkModel", "mails", "[Z", true)
  | 23 => ("ShortWorkModel", "isChecked", "[Z", true)
  | _ => ("ShortWorkModel", "thrown", "I", false)
def tyX3 : Nat → FieldType := fun k => match k with
  | 0 => .int
  | 1 => .array .int
  | 2 => .array .boolean
  | 3 => .array .int
  | 4 => .array .int
  | 5 => .array .int
  | 6 => .array .int
  | 7 => .array .int
  | 8 => .array .int
  | 9 => .int
  | 10 => .int
  | 11 => .array .int
  | 12 => .array .int
  | 13 => .array .int
  | 14 => .array .int
  | 15 => .array .boolean
  | 16 => .int
  | 17 => .int
  | 18 => .array .int
  | 19 => .array .int
  | 20 => .array .int
  | 21 => .array .int
  | 22 => .array .boolean
  | 23 => .array .boolean
  | _ => .int
abbrev wsX30 : List Cond := u_ws RX3 TX3 25
theorem nmX3 : ∀ a, a < 25 → ∀ b, b < 25 → a ≠ b → (TX3 a).2.1 ≠ (TX3 b).2.1 := by decide +kernel
theorem tyX3_ok : ∀ k, k < 25 → parseFieldDescriptor (TX3 k).2.2.1 = some (tyX3 k) := by decide +kernel
abbrev cX3_init : ByteArray := prog_5_method_1_code
def yX3_init : MethodName := ⟨RX3, "<init>", "()V"⟩
abbrev cX3_thrown : ByteArray := prog_5_method_2_code
def yX3_thrown : MethodName := ⟨RX3, "thrown", "()I"⟩
abbrev cX3_fails : ByteArray := prog_5_method_3_code
def yX3_fails : MethodName := ⟨RX3, "fails", "(I)I"⟩
abbrev cX3_asks : ByteArray := prog_5_method_4_code
def yX3_asks : MethodName := ⟨RX3, "asks", "(Z)Z"⟩
abbrev cX3_in : ByteArray := prog_5_method_5_code
def yX3_in : MethodName := ⟨RX3, "in", "(III)Z"⟩
abbrev cX3_isWorker : ByteArray := prog_5_method_6_code
def yX3_isWorker : MethodName := ⟨RX3, "isWorker", "(I)Z"⟩
abbrev cX3_isCourse : ByteArray := prog_5_method_7_code
def yX3_isCourse : MethodName := ⟨RX3, "isCourse", "(I)Z"⟩
abbrev cX3_add : ByteArray := prog_5_method_8_code
def yX3_add : MethodName := ⟨RX3, "add", "(IZ)I"⟩
abbrev cX3_notice : ByteArray := prog_5_method_9_code
def yX3_notice : MethodName := ⟨RX3, "notice", "(IIII)I"⟩
abbrev cX3_addCourse : ByteArray := prog_5_method_10_code
def yX3_addCourse : MethodName := ⟨RX3, "addCourse", "(IIII)I"⟩
abbrev cX3_meets : ByteArray := prog_5_method_11_code
def yX3_meets : MethodName := ⟨RX3, "meets", "(II)Z"⟩
abbrev cX3_enrol : ByteArray := prog_5_method_12_code
def yX3_enrol : MethodName := ⟨RX3, "enrol", "(II)I"⟩
abbrev cX3_setFloor : ByteArray := prog_5_method_13_code
def yX3_setFloor : MethodName := ⟨RX3, "setFloor", "(I)I"⟩
abbrev cX3_workers : ByteArray := prog_5_method_14_code
def yX3_workers : MethodName := ⟨RX3, "workers", "()I"⟩
abbrev cX3_cutOf : ByteArray := prog_5_method_15_code
def yX3_cutOf : MethodName := ⟨RX3, "cutOf", "(II)I"⟩
abbrev cX3_cut : ByteArray := prog_5_method_16_code
def yX3_cut : MethodName := ⟨RX3, "cut", "(II)I"⟩
abbrev cX3_fills : ByteArray := prog_5_method_17_code
def yX3_fills : MethodName := ⟨RX3, "fills", "(II)Z"⟩
abbrev cX3_isFilled : ByteArray := prog_5_method_18_code
def yX3_isFilled : MethodName := ⟨RX3, "isFilled", "(II)Z"⟩
abbrev cX3_percent : ByteArray := prog_5_method_19_code
def yX3_percent : MethodName := ⟨RX3, "percent", "(I)I"⟩
abbrev cX3_pays : ByteArray := prog_5_method_20_code
def yX3_pays : MethodName := ⟨RX3, "pays", "(I)I"⟩
abbrev cX3_pass : ByteArray := prog_5_method_21_code
def yX3_pass : MethodName := ⟨RX3, "pass", "(I)I"⟩
abbrev cX3_week : ByteArray := prog_5_method_22_code
def yX3_week : MethodName := ⟨RX3, "week", "()I"⟩
abbrev cX3_isPast : ByteArray := prog_5_method_23_code
def yX3_isPast : MethodName := ⟨RX3, "isPast", "(I)Z"⟩
abbrev cX3_paid : ByteArray := prog_5_method_24_code
def yX3_paid : MethodName := ⟨RX3, "paid", "(II)I"⟩
abbrev cX3_madeUp : ByteArray := prog_5_method_25_code
def yX3_madeUp : MethodName := ⟨RX3, "madeUp", "(II)I"⟩
abbrev cX3_cutWeeks : ByteArray := prog_5_method_26_code
def yX3_cutWeeks : MethodName := ⟨RX3, "cutWeeks", "(I)I"⟩
abbrev cX3_door : ByteArray := prog_5_method_27_code
def yX3_door : MethodName := ⟨RX3, "door", "(III)V"⟩
abbrev cX3_mail : ByteArray := prog_5_method_28_code
def yX3_mail : MethodName := ⟨RX3, "mail", "(II)V"⟩
abbrev cX3_check : ByteArray := prog_5_method_29_code
def yX3_check : MethodName := ⟨RX3, "check", "(I)I"⟩
abbrev cX3_firmOwes : ByteArray := prog_5_method_30_code
def yX3_firmOwes : MethodName := ⟨RX3, "firmOwes", "()I"⟩
abbrev cX3_owes : ByteArray := prog_5_method_31_code
def yX3_owes : MethodName := ⟨RX3, "owes", "(I)I"⟩
abbrev cX3_net : ByteArray := prog_5_method_32_code
def yX3_net : MethodName := ⟨RX3, "net", "(I)I"⟩
def RJ9 : String := "java/lang/Math"
def TJ9 : u_T := fun k => match k with
  | _ => ("", "", "", false)
def tyJ9 : Nat → FieldType := fun k => match k with
  | _ => .int
abbrev wsJ90 : List Cond := u_ws RJ9 TJ9 0
theorem nmJ9 : ∀ a, a < 0 → ∀ b, b < 0 → a ≠ b → (TJ9 a).2.1 ≠ (TJ9 b).2.1 := by decide +kernel
theorem tyJ9_ok : ∀ k, k < 0 → parseFieldDescriptor (TJ9 k).2.2.1 = some (tyJ9 k) := by decide +kernel
abbrev cJ9_max_7cf53 : ByteArray := prog_10_method_65_code
def yJ9_max_7cf53 : MethodName := ⟨RJ9, "max", "(II)I"⟩
def RL : String := "ShortWorkLaw"
abbrev cL_add : ByteArray := method_3_code
def yL_add : MethodName := ⟨RL, "add", "(LShortWork;IZ[J)I"⟩
abbrev cL_notice : ByteArray := method_4_code
def yL_notice : MethodName := ⟨RL, "notice", "(LShortWork;IIII[J)I"⟩
abbrev cL_addCourse : ByteArray := method_5_code
def yL_addCourse : MethodName := ⟨RL, "addCourse", "(LShortWork;IIII[J)I"⟩
abbrev cL_enrol : ByteArray := method_6_code
def yL_enrol : MethodName := ⟨RL, "enrol", "(LShortWork;II[J)I"⟩
abbrev cL_setFloor : ByteArray := method_7_code
def yL_setFloor : MethodName := ⟨RL, "setFloor", "(LShortWork;I[J)I"⟩
abbrev cL_cut : ByteArray := method_8_code
def yL_cut : MethodName := ⟨RL, "cut", "(LShortWork;II[J)I"⟩
abbrev cL_isFilled : ByteArray := method_9_code
def yL_isFilled : MethodName := ⟨RL, "isFilled", "(LShortWork;II[J)I"⟩
abbrev cL_pass : ByteArray := method_10_code
def yL_pass : MethodName := ⟨RL, "pass", "(LShortWork;I[J)I"⟩
abbrev cL_paid : ByteArray := method_11_code
def yL_paid : MethodName := ⟨RL, "paid", "(LShortWork;II[J)I"⟩
abbrev cL_madeUp : ByteArray := method_12_code
def yL_madeUp : MethodName := ⟨RL, "madeUp", "(LShortWork;II[J)I"⟩
abbrev cL_cutWeeks : ByteArray := method_13_code
def yL_cutWeeks : MethodName := ⟨RL, "cutWeeks", "(LShortWork;I[J)I"⟩
abbrev cL_door : ByteArray := method_14_code
def yL_door : MethodName := ⟨RL, "door", "(LShortWork;III)I"⟩
abbrev cL_mail : ByteArray := method_15_code
def yL_mail : MethodName := ⟨RL, "mail", "(LShortWork;II)I"⟩
abbrev cL_check : ByteArray := method_16_code
def yL_check : MethodName := ⟨RL, "check", "(LShortWork;I[J)I"⟩
abbrev cL_owes : ByteArray := method_17_code
def yL_owes : MethodName := ⟨RL, "owes", "(LShortWork;I[J)I"⟩
abbrev cL_net : ByteArray := method_18_code
def yL_net : MethodName := ⟨RL, "net", "(LShortWork;I[J)I"⟩
abbrev cL_law : ByteArray := code
def yL_law : MethodName := ⟨RL, "law", "([I)Z"⟩
def wsX0_init : List Cond := .code yX0_init cX0_init 5 none :: ([.methodLink RX0 1 objectInit, .instanceMethod objectInit, .code objectInit ⟨#[0xb1]⟩ 1 none, .fieldLink RX0 7 "ShortWork$Course" "from" "I", .fieldLink RX0 13 "ShortWork$Course" "to" "I", .fieldLink RX0 16 "ShortWork$Course" "hours" "I", .fieldLink RX0 19 "ShortWork$Course" "seatsLeft" "I"] ++ wsX00)
def wsX1_init : List Cond := .code yX1_init cX1_init 3 none :: ([.methodLink RX1 3 objectInit, .instanceMethod objectInit, .code objectInit ⟨#[0xb1]⟩ 1 none, .fieldLink RX1 9 "ShortWork$Worker" "fullPay" "I", .fieldLink RX1 15 "ShortWork$Worker" "hasChildren" "Z", .arrayClass .int, .fieldLink RX1 19 "ShortWork$Worker" "cutHours" "[I", .fieldLink RX1 23 "ShortWork$Worker" "courseHours" "[I", .fieldLink RX1 26 "ShortWork$Worker" "firmPay" "[I", .fieldLink RX1 29 "ShortWork$Worker" "fundPay" "[I", .fieldLink RX1 32 "ShortWork$Worker" "doorHours" "[I", .arrayClass .boolean, .fieldLink RX1 35 "ShortWork$Worker" "mailed" "[Z"] ++ wsX10)
def wsX1_takeNotice : List Cond := .code yX1_takeNotice cX1_takeNotice 5 none :: ([.fieldLink RX1 19 "ShortWork$Worker" "cutHours" "[I", .fieldLink RX1 39 "ShortWork$Worker" "noticeCount" "I"] ++ wsX10)
def wsX1_hasNoCourseFrom : List Cond := .code yX1_hasNoCourseFrom cX1_hasNoCourseFrom 4 (some .boolean) :: ([.fieldLink RX1 23 "ShortWork$Worker" "courseHours" "[I"] ++ wsX10)
def wsX1_goTo : List Cond := .code yX1_goTo cX1_goTo 3 none :: ([.fieldLink RX1 23 "ShortWork$Worker" "courseHours" "[I"] ++ wsX00 ++ wsX10)
def wsX1_hasFilled : List Cond := .code yX1_hasFilled cX1_hasFilled 2 (some .boolean) :: ([.fieldLink RX1 23 "ShortWork$Worker" "courseHours" "[I", .fieldLink RX1 19 "ShortWork$Worker" "cutHours" "[I"] ++ wsX10)
def wsX1_stepPercent : List Cond := .code yX1_stepPercent cX1_stepPercent 1 (some .int) :: ([.fieldLink RX1 66 "ShortWork$Worker" "cutWeekCount" "I"] ++ wsX10)
def wsX1_madeUpPercent : List Cond := .code yX1_madeUpPercent cX1_madeUpPercent 3 (some .int) :: ([.fieldLink RX1 15 "ShortWork$Worker" "hasChildren" "Z", .fieldLink RX1 66 "ShortWork$Worker" "cutWeekCount" "I", .methodLink RX1 69 yX1_stepPercent, .instanceMethod yX1_stepPercent, .selects RX1 yX1_stepPercent yX1_stepPercent, .initialized RX1, .code yX1_stepPercent cX1_stepPercent 1 (some .int), .methodLink RX1 73 yX1_hasFilled, .instanceMethod yX1_hasFilled, .selects RX1 yX1_hasFilled yX1_hasFilled, .code yX1_hasFilled cX1_hasFilled 2 (some .boolean), .fieldLink RX1 23 "ShortWork$Worker" "courseHours" "[I", .fieldLink RX1 19 "ShortWork$Worker" "cutHours" "[I"] ++ wsX10)
def wsX1_payFor_r1 : List Cond := [Cond.fieldLink RX1 9 "ShortWork$Worker" "fullPay" "I", Cond.fieldLink RX1 19 "ShortWork$Worker" "cutHours" "[I", Cond.methodLink RX1 57 Lib.Math.max.name, Cond.static Lib.Math.max.name, Cond.initialized "java/lang/Math", Cond.code Lib.Math.max.name Lib.Math.max.code 2 (some .int), Cond.fieldLink RX1 26 "ShortWork$Worker" "firmPay" "[I", Cond.fieldLink RX1 29 "ShortWork$Worker" "fundPay" "[I", Cond.fieldLink RX1 63 "ShortWork$Worker" "received" "I", Cond.fieldLink RX1 66 "ShortWork$Worker" "cutWeekCount" "I", Cond.methodLink RX1 53 yX1_madeUpPercent, Cond.instanceMethod yX1_madeUpPercent, Cond.selects RX1 yX1_madeUpPercent yX1_madeUpPercent, Cond.initialized RX1, Cond.code yX1_madeUpPercent cX1_madeUpPercent 3 (some .int), Cond.fieldLink RX1 15 "ShortWork$Worker" "hasChildren" "Z", Cond.methodLink RX1 69 yX1_stepPercent, Cond.instanceMethod yX1_stepPercent, Cond.selects RX1 yX1_stepPercent yX1_stepPercent, Cond.code yX1_stepPercent cX1_stepPercent 1 (some .int), Cond.methodLink RX1 73 yX1_hasFilled, Cond.instanceMethod yX1_hasFilled, Cond.selects RX1 yX1_hasFilled yX1_hasFilled, Cond.code yX1_hasFilled cX1_hasFilled 2 (some .boolean)]
def wsX1_payFor_r2 : List Cond := [Cond.fieldLink RX1 23 "ShortWork$Worker" "courseHours" "[I"]
def wsX1_payFor : List Cond := .code yX1_payFor cX1_payFor 6 (some .int) :: ((wsX1_payFor_r1 ++ wsX1_payFor_r2) ++ wsX10)
def wsX1_hasWorkedTooMuch : List Cond := .code yX1_hasWorkedTooMuch cX1_hasWorkedTooMuch 3 (some .boolean) :: ([.fieldLink RX1 19 "ShortWork$Worker" "cutHours" "[I", .fieldLink RX1 32 "ShortWork$Worker" "doorHours" "[I", .fieldLink RX1 29 "ShortWork$Worker" "fundPay" "[I"] ++ wsX10)
def wsX2_init : List Cond := .code yX2_init cX2_init 1 none :: ([.methodLink RX2 3 objectInit, .instanceMethod objectInit, .code objectInit ⟨#[0xb1]⟩ 1 none, .classLink RX2 9 RX1, .fieldLink RX2 11 "ShortWork" "staff" "[LShortWork$Worker;", .classLink RX2 15 RX0, .fieldLink RX2 17 "ShortWork" "courses" "[LShortWork$Course;", .arrayClass .boolean, .fieldLink RX2 21 "ShortWork" "checked" "[Z", .fieldLink RX2 25 "ShortWork" "floorPercent" "I"] ++ wsX20)
def wsX2_isWithin : List Cond := .code yX2_isWithin cX2_isWithin 3 (some .boolean) :: ([])
def wsX2_requireArgument : List Cond := .code yX2_requireArgument cX2_requireArgument 1 none :: ([.classLink RX2 144 "java/lang/IllegalArgumentException", .initialized "java/lang/IllegalArgumentException"] ++ (vx_at0 RX2 146 "java/lang/IllegalArgumentException" ["java/lang/RuntimeException", "java/lang/Exception"]).filter goodWord)
def wsX2_requireState : List Cond := .code yX2_requireState cX2_requireState 1 none :: ([.classLink RX2 147 "java/lang/IllegalStateException", .initialized "java/lang/IllegalStateException"] ++ (vx_at0 RX2 149 "java/lang/IllegalStateException" ["java/lang/RuntimeException", "java/lang/Exception"]).filter goodWord)
def wsX2_add_r1 : List Cond := [Cond.constant RX2 29 (100000), Cond.fieldLink RX2 38 "ShortWork" "workerCount" "I", Cond.fieldLink RX2 11 "ShortWork" "staff" "[LShortWork$Worker;", Cond.classLink RX2 9 RX1, Cond.instantiable RX1 12, Cond.initialized RX1, Cond.methodLink RX2 30 yX2_isWithin, Cond.static yX2_isWithin, Cond.initialized RX2, Cond.code yX2_isWithin cX2_isWithin 3 (some .boolean), Cond.methodLink RX2 34 yX2_requireArgument, Cond.static yX2_requireArgument, Cond.code yX2_requireArgument cX2_requireArgument 1 none, Cond.classLink RX2 144 "java/lang/IllegalArgumentException", Cond.initialized "java/lang/IllegalArgumentException", Cond.methodLink RX2 41 yX2_requireState, Cond.static yX2_requireState, Cond.code yX2_requireState cX2_requireState 1 none, Cond.classLink RX2 147 "java/lang/IllegalStateException", Cond.initialized "java/lang/IllegalStateException", Cond.methodLink RX2 44 yX1_init, Cond.instanceMethod yX1_init, Cond.code yX1_init cX1_init 3 none, Cond.methodLink RX1 3 objectInit]
def wsX2_add_r2 : List Cond := [Cond.instanceMethod objectInit, Cond.code objectInit ⟨#[0xb1]⟩ 1 none, Cond.fieldLink RX1 9 "ShortWork$Worker" "fullPay" "I", Cond.fieldLink RX1 15 "ShortWork$Worker" "hasChildren" "Z", Cond.arrayClass .int, Cond.fieldLink RX1 19 "ShortWork$Worker" "cutHours" "[I", Cond.fieldLink RX1 23 "ShortWork$Worker" "courseHours" "[I", Cond.fieldLink RX1 26 "ShortWork$Worker" "firmPay" "[I", Cond.fieldLink RX1 29 "ShortWork$Worker" "fundPay" "[I", Cond.fieldLink RX1 32 "ShortWork$Worker" "doorHours" "[I", Cond.arrayClass .boolean, Cond.fieldLink RX1 35 "ShortWork$Worker" "mailed" "[Z"]
def wsX2_add : List Cond := .code yX2_add cX2_add 4 (some .int) :: ((wsX2_add_r1 ++ wsX2_add_r2) ++ wsX20 ++ wsX10 ++ (vx_at0 RX2 146 "java/lang/IllegalArgumentException" ["java/lang/RuntimeException", "java/lang/Exception"]).filter goodWord ++ (vx_at0 RX2 149 "java/lang/IllegalStateException" ["java/lang/RuntimeException", "java/lang/Exception"]).filter goodWord)
def wsX2_workerAt : List Cond := .code yX2_workerAt cX2_workerAt 3 (some (.object "ShortWork$Worker")) :: ([.classLink RX2 141 "java/lang/IndexOutOfBoundsException", .initialized "java/lang/IndexOutOfBoundsException", .fieldLink RX2 38 "ShortWork" "workerCount" "I", .fieldLink RX2 11 "ShortWork" "staff" "[LShortWork$Worker;", .methodLink RX2 30 yX2_isWithin, .static yX2_isWithin, .initialized RX2, .code yX2_isWithin cX2_isWithin 3 (some .boolean)] ++ wsX20 ++ (vx_at0 RX2 143 "java/lang/IndexOutOfBoundsException" ["java/lang/RuntimeException", "java/lang/Exception"]).filter goodWord)
def wsX2_isSpan : List Cond := .code yX2_isSpan cX2_isSpan 2 (some .boolean) :: ([.methodLink RX2 30 yX2_isWithin, .static yX2_isWithin, .initialized RX2, .code yX2_isWithin cX2_isWithin 3 (some .boolean)])
def wsX2_notice_r1 : List Cond := [Cond.fieldLink RX2 55 "ShortWork" "currentWeek" "I", Cond.methodLink RX2 47 yX2_workerAt, Cond.instanceMethod yX2_workerAt, Cond.selects RX2 yX2_workerAt yX2_workerAt, Cond.initialized RX2, Cond.code yX2_workerAt cX2_workerAt 3 (some (.object "ShortWork$Worker")), Cond.classLink RX2 141 "java/lang/IndexOutOfBoundsException", Cond.initialized "java/lang/IndexOutOfBoundsException", Cond.fieldLink RX2 38 "ShortWork" "workerCount" "I", Cond.fieldLink RX2 11 "ShortWork" "staff" "[LShortWork$Worker;", Cond.methodLink RX2 30 yX2_isWithin, Cond.static yX2_isWithin, Cond.code yX2_isWithin cX2_isWithin 3 (some .boolean), Cond.methodLink RX2 51 yX2_isSpan, Cond.static yX2_isSpan, Cond.code yX2_isSpan cX2_isSpan 2 (some .boolean), Cond.methodLink RX2 34 yX2_requireArgument, Cond.static yX2_requireArgument, Cond.code yX2_requireArgument cX2_requireArgument 1 none, Cond.classLink RX2 144 "java/lang/IllegalArgumentException", Cond.initialized "java/lang/IllegalArgumentException", Cond.methodLink RX2 41 yX2_requireState, Cond.static yX2_requireState, Cond.code yX2_requireState cX2_requireState 1 none]
def wsX2_notice_r2 : List Cond := [Cond.classLink RX2 147 "java/lang/IllegalStateException", Cond.initialized "java/lang/IllegalStateException", Cond.methodLink RX2 61 yX1_takeNotice, Cond.instanceMethod yX1_takeNotice, Cond.selects RX1 yX1_takeNotice yX1_takeNotice, Cond.initialized RX1, Cond.code yX1_takeNotice cX1_takeNotice 5 none, Cond.fieldLink RX1 19 "ShortWork$Worker" "cutHours" "[I", Cond.fieldLink RX1 39 "ShortWork$Worker" "noticeCount" "I"]
def wsX2_notice : List Cond := .code yX2_notice cX2_notice 6 (some .int) :: ((wsX2_notice_r1 ++ wsX2_notice_r2) ++ wsX20 ++ wsX10 ++ (vx_at0 RX2 143 "java/lang/IndexOutOfBoundsException" ["java/lang/RuntimeException", "java/lang/Exception"]).filter goodWord ++ (vx_at0 RX2 146 "java/lang/IllegalArgumentException" ["java/lang/RuntimeException", "java/lang/Exception"]).filter goodWord ++ (vx_at0 RX2 149 "java/lang/IllegalStateException" ["java/lang/RuntimeException", "java/lang/Exception"]).filter goodWord)
def wsX2_addCourse_r1 : List Cond := [Cond.fieldLink RX2 65 "ShortWork" "courseCount" "I", Cond.fieldLink RX2 17 "ShortWork" "courses" "[LShortWork$Course;", Cond.classLink RX2 15 RX0, Cond.instantiable RX0 4, Cond.initialized RX0, Cond.methodLink RX2 30 yX2_isWithin, Cond.static yX2_isWithin, Cond.initialized RX2, Cond.code yX2_isWithin cX2_isWithin 3 (some .boolean), Cond.methodLink RX2 51 yX2_isSpan, Cond.static yX2_isSpan, Cond.code yX2_isSpan cX2_isSpan 2 (some .boolean), Cond.methodLink RX2 34 yX2_requireArgument, Cond.static yX2_requireArgument, Cond.code yX2_requireArgument cX2_requireArgument 1 none, Cond.classLink RX2 144 "java/lang/IllegalArgumentException", Cond.initialized "java/lang/IllegalArgumentException", Cond.methodLink RX2 41 yX2_requireState, Cond.static yX2_requireState, Cond.code yX2_requireState cX2_requireState 1 none, Cond.classLink RX2 147 "java/lang/IllegalStateException", Cond.initialized "java/lang/IllegalStateException", Cond.methodLink RX2 68 yX0_init, Cond.instanceMethod yX0_init]
def wsX2_addCourse_r2 : List Cond := [Cond.code yX0_init cX0_init 5 none, Cond.methodLink RX0 1 objectInit, Cond.instanceMethod objectInit, Cond.code objectInit ⟨#[0xb1]⟩ 1 none, Cond.fieldLink RX0 7 "ShortWork$Course" "from" "I", Cond.fieldLink RX0 13 "ShortWork$Course" "to" "I", Cond.fieldLink RX0 16 "ShortWork$Course" "hours" "I", Cond.fieldLink RX0 19 "ShortWork$Course" "seatsLeft" "I"]
def wsX2_addCourse : List Cond := .code yX2_addCourse cX2_addCourse 6 (some .int) :: ((wsX2_addCourse_r1 ++ wsX2_addCourse_r2) ++ wsX20 ++ wsX00 ++ (vx_at0 RX2 146 "java/lang/IllegalArgumentException" ["java/lang/RuntimeException", "java/lang/Exception"]).filter goodWord ++ (vx_at0 RX2 149 "java/lang/IllegalStateException" ["java/lang/RuntimeException", "java/lang/Exception"]).filter goodWord)
def wsX2_courseAt : List Cond := .code yX2_courseAt cX2_courseAt 3 (some (.object "ShortWork$Course")) :: ([.classLink RX2 141 "java/lang/IndexOutOfBoundsException", .initialized "java/lang/IndexOutOfBoundsException", .fieldLink RX2 65 "ShortWork" "courseCount" "I", .fieldLink RX2 17 "ShortWork" "courses" "[LShortWork$Course;", .methodLink RX2 30 yX2_isWithin, .static yX2_isWithin, .initialized RX2, .code yX2_isWithin cX2_isWithin 3 (some .boolean)] ++ wsX20 ++ (vx_at0 RX2 143 "java/lang/IndexOutOfBoundsException" ["java/lang/RuntimeException", "java/lang/Exception"]).filter goodWord)
def wsX2_enrol_r1 : List Cond := [Cond.fieldLink RX2 55 "ShortWork" "currentWeek" "I", Cond.methodLink RX2 47 yX2_workerAt, Cond.instanceMethod yX2_workerAt, Cond.selects RX2 yX2_workerAt yX2_workerAt, Cond.initialized RX2, Cond.code yX2_workerAt cX2_workerAt 3 (some (.object "ShortWork$Worker")), Cond.classLink RX2 141 "java/lang/IndexOutOfBoundsException", Cond.initialized "java/lang/IndexOutOfBoundsException", Cond.fieldLink RX2 38 "ShortWork" "workerCount" "I", Cond.fieldLink RX2 11 "ShortWork" "staff" "[LShortWork$Worker;", Cond.methodLink RX2 30 yX2_isWithin, Cond.static yX2_isWithin, Cond.code yX2_isWithin cX2_isWithin 3 (some .boolean), Cond.methodLink RX2 71 yX2_courseAt, Cond.instanceMethod yX2_courseAt, Cond.selects RX2 yX2_courseAt yX2_courseAt, Cond.code yX2_courseAt cX2_courseAt 3 (some (.object "ShortWork$Course")), Cond.fieldLink RX2 65 "ShortWork" "courseCount" "I", Cond.fieldLink RX2 17 "ShortWork" "courses" "[LShortWork$Course;", Cond.methodLink RX2 84 yX1_hasNoCourseFrom, Cond.instanceMethod yX1_hasNoCourseFrom, Cond.selects RX1 yX1_hasNoCourseFrom yX1_hasNoCourseFrom, Cond.initialized RX1, Cond.code yX1_hasNoCourseFrom cX1_hasNoCourseFrom 4 (some .boolean)]
def wsX2_enrol_r2 : List Cond := [Cond.fieldLink RX1 23 "ShortWork$Worker" "courseHours" "[I", Cond.methodLink RX2 41 yX2_requireState, Cond.static yX2_requireState, Cond.code yX2_requireState cX2_requireState 1 none, Cond.classLink RX2 147 "java/lang/IllegalStateException", Cond.initialized "java/lang/IllegalStateException", Cond.methodLink RX2 87 yX1_goTo, Cond.instanceMethod yX1_goTo, Cond.selects RX1 yX1_goTo yX1_goTo, Cond.code yX1_goTo cX1_goTo 3 none]
def wsX2_enrol : List Cond := .code yX2_enrol cX2_enrol 5 (some .int) :: ((wsX2_enrol_r1 ++ wsX2_enrol_r2) ++ wsX00 ++ wsX20 ++ wsX10 ++ (vx_at0 RX2 143 "java/lang/IndexOutOfBoundsException" ["java/lang/RuntimeException", "java/lang/Exception"]).filter goodWord ++ (vx_at0 RX2 149 "java/lang/IllegalStateException" ["java/lang/RuntimeException", "java/lang/Exception"]).filter goodWord)
def wsX2_setFloor : List Cond := .code yX2_setFloor cX2_setFloor 3 (some .int) :: ([.fieldLink RX2 25 "ShortWork" "floorPercent" "I", .methodLink RX2 30 yX2_isWithin, .static yX2_isWithin, .initialized RX2, .code yX2_isWithin cX2_isWithin 3 (some .boolean), .methodLink RX2 34 yX2_requireArgument, .static yX2_requireArgument, .code yX2_requireArgument cX2_requireArgument 1 none, .classLink RX2 144 "java/lang/IllegalArgumentException", .initialized "java/lang/IllegalArgumentException"] ++ wsX20 ++ (vx_at0 RX2 146 "java/lang/IllegalArgumentException" ["java/lang/RuntimeException", "java/lang/Exception"]).filter goodWord)
def wsX2_workers : List Cond := .code yX2_workers cX2_workers 1 (some .int) :: ([.fieldLink RX2 38 "ShortWork" "workerCount" "I"] ++ wsX20)
def wsX2_cut : List Cond := .code yX2_cut cX2_cut 4 (some .int) :: ([.methodLink RX2 47 yX2_workerAt, .instanceMethod yX2_workerAt, .selects RX2 yX2_workerAt yX2_workerAt, .initialized RX2, .code yX2_workerAt cX2_workerAt 3 (some (.object "ShortWork$Worker")), .classLink RX2 141 "java/lang/IndexOutOfBoundsException", .initialized "java/lang/IndexOutOfBoundsException", .fieldLink RX2 38 "ShortWork" "workerCount" "I", .fieldLink RX2 11 "ShortWork" "staff" "[LShortWork$Worker;", .methodLink RX2 30 yX2_isWithin, .static yX2_isWithin, .code yX2_isWithin cX2_isWithin 3 (some .boolean), .methodLink RX2 34 yX2_requireArgument, .static yX2_requireArgument, .code yX2_requireArgument cX2_requireArgument 1 none, .classLink RX2 144 "java/lang/IllegalArgumentException", .initialized "java/lang/IllegalArgumentException"] ++ wsX10 ++ wsX20 ++ (vx_at0 RX2 143 "java/lang/IndexOutOfBoundsException" ["java/lang/RuntimeException", "java/lang/Exception"]).filter goodWord ++ (vx_at0 RX2 146 "java/lang/IllegalArgumentException" ["java/lang/RuntimeException", "java/lang/Exception"]).filter goodWord)
def wsX2_isFilled : List Cond := .code yX2_isFilled cX2_isFilled 4 (some .boolean) :: ([.methodLink RX2 47 yX2_workerAt, .instanceMethod yX2_workerAt, .selects RX2 yX2_workerAt yX2_workerAt, .initialized RX2, .code yX2_workerAt cX2_workerAt 3 (some (.object "ShortWork$Worker")), .classLink RX2 141 "java/lang/IndexOutOfBoundsException", .initialized "java/lang/IndexOutOfBoundsException", .fieldLink RX2 38 "ShortWork" "workerCount" "I", .fieldLink RX2 11 "ShortWork" "staff" "[LShortWork$Worker;", .methodLink RX2 30 yX2_isWithin, .static yX2_isWithin, .code yX2_isWithin cX2_isWithin 3 (some .boolean), .methodLink RX2 34 yX2_requireArgument, .static yX2_requireArgument, .code yX2_requireArgument cX2_requireArgument 1 none, .classLink RX2 144 "java/lang/IllegalArgumentException", .initialized "java/lang/IllegalArgumentException", .methodLink RX2 95 yX1_hasFilled, .instanceMethod yX1_hasFilled, .selects RX1 yX1_hasFilled yX1_hasFilled, .initialized RX1, .code yX1_hasFilled cX1_hasFilled 2 (some .boolean), .fieldLink RX1 23 "ShortWork$Worker" "courseHours" "[I", .fieldLink RX1 19 "ShortWork$Worker" "cutHours" "[I"] ++ wsX20 ++ wsX10 ++ (vx_at0 RX2 143 "java/lang/IndexOutOfBoundsException" ["java/lang/RuntimeException", "java/lang/Exception"]).filter goodWord ++ (vx_at0 RX2 146 "java/lang/IllegalArgumentException" ["java/lang/RuntimeException", "java/lang/Exception"]).filter goodWord)
def wsX2_payCurrentWeek_r1 : List Cond := [Cond.fieldLink RX2 11 "ShortWork" "staff" "[LShortWork$Worker;", Cond.fieldLink RX2 55 "ShortWork" "currentWeek" "I", Cond.fieldLink RX2 25 "ShortWork" "floorPercent" "I", Cond.methodLink RX2 137 yX1_payFor, Cond.instanceMethod yX1_payFor, Cond.selects RX1 yX1_payFor yX1_payFor, Cond.initialized RX1, Cond.code yX1_payFor cX1_payFor 6 (some .int), Cond.fieldLink RX1 9 "ShortWork$Worker" "fullPay" "I", Cond.fieldLink RX1 19 "ShortWork$Worker" "cutHours" "[I", Cond.methodLink RX1 57 Lib.Math.max.name, Cond.static Lib.Math.max.name, Cond.initialized "java/lang/Math", Cond.code Lib.Math.max.name Lib.Math.max.code 2 (some .int), Cond.fieldLink RX1 26 "ShortWork$Worker" "firmPay" "[I", Cond.fieldLink RX1 29 "ShortWork$Worker" "fundPay" "[I", Cond.fieldLink RX1 63 "ShortWork$Worker" "received" "I", Cond.fieldLink RX1 66 "ShortWork$Worker" "cutWeekCount" "I", Cond.methodLink RX1 53 yX1_madeUpPercent, Cond.instanceMethod yX1_madeUpPercent, Cond.selects RX1 yX1_madeUpPercent yX1_madeUpPercent, Cond.code yX1_madeUpPercent cX1_madeUpPercent 3 (some .int), Cond.fieldLink RX1 15 "ShortWork$Worker" "hasChildren" "Z", Cond.methodLink RX1 69 yX1_stepPercent]
def wsX2_payCurrentWeek_r2 : List Cond := [Cond.instanceMethod yX1_stepPercent, Cond.selects RX1 yX1_stepPercent yX1_stepPercent, Cond.code yX1_stepPercent cX1_stepPercent 1 (some .int), Cond.methodLink RX1 73 yX1_hasFilled, Cond.instanceMethod yX1_hasFilled, Cond.selects RX1 yX1_hasFilled yX1_hasFilled, Cond.code yX1_hasFilled cX1_hasFilled 2 (some .boolean), Cond.fieldLink RX1 23 "ShortWork$Worker" "courseHours" "[I"]
def wsX2_payCurrentWeek : List Cond := .code yX2_payCurrentWeek cX2_payCurrentWeek 6 (some .int) :: ((wsX2_payCurrentWeek_r1 ++ wsX2_payCurrentWeek_r2) ++ wsX20 ++ wsX10)
def wsX2_pass_r1 : List Cond := [Cond.fieldLink RX2 55 "ShortWork" "currentWeek" "I", Cond.methodLink RX2 30 yX2_isWithin, Cond.static yX2_isWithin, Cond.initialized RX2, Cond.code yX2_isWithin cX2_isWithin 3 (some .boolean), Cond.methodLink RX2 34 yX2_requireArgument, Cond.static yX2_requireArgument, Cond.code yX2_requireArgument cX2_requireArgument 1 none, Cond.classLink RX2 144 "java/lang/IllegalArgumentException", Cond.initialized "java/lang/IllegalArgumentException", Cond.methodLink RX2 41 yX2_requireState, Cond.static yX2_requireState, Cond.code yX2_requireState cX2_requireState 1 none, Cond.classLink RX2 147 "java/lang/IllegalStateException", Cond.initialized "java/lang/IllegalStateException", Cond.methodLink RX2 99 yX2_payCurrentWeek, Cond.instanceMethod yX2_payCurrentWeek, Cond.selects RX2 yX2_payCurrentWeek yX2_payCurrentWeek, Cond.code yX2_payCurrentWeek cX2_payCurrentWeek 6 (some .int), Cond.fieldLink RX2 11 "ShortWork" "staff" "[LShortWork$Worker;", Cond.fieldLink RX2 25 "ShortWork" "floorPercent" "I", Cond.methodLink RX2 137 yX1_payFor, Cond.instanceMethod yX1_payFor, Cond.selects RX1 yX1_payFor yX1_payFor]
def wsX2_pass_r2 : List Cond := [Cond.initialized RX1, Cond.code yX1_payFor cX1_payFor 6 (some .int), Cond.fieldLink RX1 9 "ShortWork$Worker" "fullPay" "I", Cond.fieldLink RX1 19 "ShortWork$Worker" "cutHours" "[I", Cond.methodLink RX1 57 Lib.Math.max.name, Cond.static Lib.Math.max.name, Cond.initialized "java/lang/Math", Cond.code Lib.Math.max.name Lib.Math.max.code 2 (some .int), Cond.fieldLink RX1 26 "ShortWork$Worker" "firmPay" "[I", Cond.fieldLink RX1 29 "ShortWork$Worker" "fundPay" "[I", Cond.fieldLink RX1 63 "ShortWork$Worker" "received" "I", Cond.fieldLink RX1 66 "ShortWork$Worker" "cutWeekCount" "I", Cond.methodLink RX1 53 yX1_madeUpPercent, Cond.instanceMethod yX1_madeUpPercent, Cond.selects RX1 yX1_madeUpPercent yX1_madeUpPercent, Cond.code yX1_madeUpPercent cX1_madeUpPercent 3 (some .int), Cond.fieldLink RX1 15 "ShortWork$Worker" "hasChildren" "Z", Cond.methodLink RX1 69 yX1_stepPercent, Cond.instanceMethod yX1_stepPercent, Cond.selects RX1 yX1_stepPercent yX1_stepPercent, Cond.code yX1_stepPercent cX1_stepPercent 1 (some .int), Cond.methodLink RX1 73 yX1_hasFilled, Cond.instanceMethod yX1_hasFilled, Cond.selects RX1 yX1_hasFilled yX1_hasFilled]
def wsX2_pass_r3 : List Cond := [Cond.code yX1_hasFilled cX1_hasFilled 2 (some .boolean), Cond.fieldLink RX1 23 "ShortWork$Worker" "courseHours" "[I"]
def wsX2_pass : List Cond := .code yX2_pass cX2_pass 4 (some .int) :: ((wsX2_pass_r1 ++ (wsX2_pass_r2 ++ wsX2_pass_r3)) ++ wsX20 ++ wsX10 ++ (vx_at0 RX2 146 "java/lang/IllegalArgumentException" ["java/lang/RuntimeException", "java/lang/Exception"]).filter goodWord ++ (vx_at0 RX2 149 "java/lang/IllegalStateException" ["java/lang/RuntimeException", "java/lang/Exception"]).filter goodWord)
def wsX2_week : List Cond := .code yX2_week cX2_week 1 (some .int) :: ([.fieldLink RX2 55 "ShortWork" "currentWeek" "I"] ++ wsX20)
def wsX2_hasPassed : List Cond := .code yX2_hasPassed cX2_hasPassed 2 (some .boolean) :: ([.fieldLink RX2 55 "ShortWork" "currentWeek" "I", .methodLink RX2 30 yX2_isWithin, .static yX2_isWithin, .initialized RX2, .code yX2_isWithin cX2_isWithin 3 (some .boolean)] ++ wsX20)
def wsX2_paid : List Cond := .code yX2_paid cX2_paid 4 (some .int) :: ([.methodLink RX2 47 yX2_workerAt, .instanceMethod yX2_workerAt, .selects RX2 yX2_workerAt yX2_workerAt, .initialized RX2, .code yX2_workerAt cX2_workerAt 3 (some (.object "ShortWork$Worker")), .classLink RX2 141 "java/lang/IndexOutOfBoundsException", .initialized "java/lang/IndexOutOfBoundsException", .fieldLink RX2 38 "ShortWork" "workerCount" "I", .fieldLink RX2 11 "ShortWork" "staff" "[LShortWork$Worker;", .methodLink RX2 30 yX2_isWithin, .static yX2_isWithin, .code yX2_isWithin cX2_isWithin 3 (some .boolean), .methodLink RX2 103 yX2_hasPassed, .instanceMethod yX2_hasPassed, .selects RX2 yX2_hasPassed yX2_hasPassed, .code yX2_hasPassed cX2_hasPassed 2 (some .boolean), .fieldLink RX2 55 "ShortWork" "currentWeek" "I", .methodLink RX2 34 yX2_requireArgument, .static yX2_requireArgument, .code yX2_requireArgument cX2_requireArgument 1 none, .classLink RX2 144 "java/lang/IllegalArgumentException", .initialized "java/lang/IllegalArgumentException"] ++ wsX10 ++ wsX20 ++ (vx_at0 RX2 143 "java/lang/IndexOutOfBoundsException" ["java/lang/RuntimeException", "java/lang/Exception"]).filter goodWord ++ (vx_at0 RX2 146 "java/lang/IllegalArgumentException" ["java/lang/RuntimeException", "java/lang/Exception"]).filter goodWord)
def wsX2_madeUp : List Cond := .code yX2_madeUp cX2_madeUp 4 (some .int) :: ([.methodLink RX2 47 yX2_workerAt, .instanceMethod yX2_workerAt, .selects RX2 yX2_workerAt yX2_workerAt, .initialized RX2, .code yX2_workerAt cX2_workerAt 3 (some (.object "ShortWork$Worker")), .classLink RX2 141 "java/lang/IndexOutOfBoundsException", .initialized "java/lang/IndexOutOfBoundsException", .fieldLink RX2 38 "ShortWork" "workerCount" "I", .fieldLink RX2 11 "ShortWork" "staff" "[LShortWork$Worker;", .methodLink RX2 30 yX2_isWithin, .static yX2_isWithin, .code yX2_isWithin cX2_isWithin 3 (some .boolean), .methodLink RX2 103 yX2_hasPassed, .instanceMethod yX2_hasPassed, .selects RX2 yX2_hasPassed yX2_hasPassed, .code yX2_hasPassed cX2_hasPassed 2 (some .boolean), .fieldLink RX2 55 "ShortWork" "currentWeek" "I", .methodLink RX2 34 yX2_requireArgument, .static yX2_requireArgument, .code yX2_requireArgument cX2_requireArgument 1 none, .classLink RX2 144 "java/lang/IllegalArgumentException", .initialized "java/lang/IllegalArgumentException"] ++ wsX10 ++ wsX20 ++ (vx_at0 RX2 143 "java/lang/IndexOutOfBoundsException" ["java/lang/RuntimeException", "java/lang/Exception"]).filter goodWord ++ (vx_at0 RX2 146 "java/lang/IllegalArgumentException" ["java/lang/RuntimeException", "java/lang/Exception"]).filter goodWord)
def wsX2_cutWeeks : List Cond := .code yX2_cutWeeks cX2_cutWeeks 2 (some .int) :: ([.methodLink RX2 47 yX2_workerAt, .instanceMethod yX2_workerAt, .selects RX2 yX2_workerAt yX2_workerAt, .initialized RX2, .code yX2_workerAt cX2_workerAt 3 (some (.object "ShortWork$Worker")), .classLink RX2 141 "java/lang/IndexOutOfBoundsException", .initialized "java/lang/IndexOutOfBoundsException", .fieldLink RX2 38 "ShortWork" "workerCount" "I", .fieldLink RX2 11 "ShortWork" "staff" "[LShortWork$Worker;", .methodLink RX2 30 yX2_isWithin, .static yX2_isWithin, .code yX2_isWithin cX2_isWithin 3 (some .boolean)] ++ wsX10 ++ wsX20 ++ (vx_at0 RX2 143 "java/lang/IndexOutOfBoundsException" ["java/lang/RuntimeException", "java/lang/Exception"]).filter goodWord)
def wsX2_door_r1 : List Cond := [Cond.fieldLink RX2 21 "ShortWork" "checked" "[Z", Cond.methodLink RX2 47 yX2_workerAt, Cond.instanceMethod yX2_workerAt, Cond.selects RX2 yX2_workerAt yX2_workerAt, Cond.initialized RX2, Cond.code yX2_workerAt cX2_workerAt 3 (some (.object "ShortWork$Worker")), Cond.classLink RX2 141 "java/lang/IndexOutOfBoundsException", Cond.initialized "java/lang/IndexOutOfBoundsException", Cond.fieldLink RX2 38 "ShortWork" "workerCount" "I", Cond.fieldLink RX2 11 "ShortWork" "staff" "[LShortWork$Worker;", Cond.methodLink RX2 30 yX2_isWithin, Cond.static yX2_isWithin, Cond.code yX2_isWithin cX2_isWithin 3 (some .boolean), Cond.methodLink RX2 103 yX2_hasPassed, Cond.instanceMethod yX2_hasPassed, Cond.selects RX2 yX2_hasPassed yX2_hasPassed, Cond.code yX2_hasPassed cX2_hasPassed 2 (some .boolean), Cond.fieldLink RX2 55 "ShortWork" "currentWeek" "I", Cond.methodLink RX2 34 yX2_requireArgument, Cond.static yX2_requireArgument, Cond.code yX2_requireArgument cX2_requireArgument 1 none, Cond.classLink RX2 144 "java/lang/IllegalArgumentException", Cond.initialized "java/lang/IllegalArgumentException", Cond.methodLink RX2 41 yX2_requireState]
def wsX2_door_r2 : List Cond := [Cond.static yX2_requireState, Cond.code yX2_requireState cX2_requireState 1 none, Cond.classLink RX2 147 "java/lang/IllegalStateException", Cond.initialized "java/lang/IllegalStateException"]
def wsX2_door : List Cond := .code yX2_door cX2_door 5 none :: ((wsX2_door_r1 ++ wsX2_door_r2) ++ wsX20 ++ wsX10 ++ (vx_at0 RX2 143 "java/lang/IndexOutOfBoundsException" ["java/lang/RuntimeException", "java/lang/Exception"]).filter goodWord ++ (vx_at0 RX2 146 "java/lang/IllegalArgumentException" ["java/lang/RuntimeException", "java/lang/Exception"]).filter goodWord ++ (vx_at0 RX2 149 "java/lang/IllegalStateException" ["java/lang/RuntimeException", "java/lang/Exception"]).filter goodWord)
def wsX2_mail_r1 : List Cond := [Cond.fieldLink RX2 21 "ShortWork" "checked" "[Z", Cond.methodLink RX2 47 yX2_workerAt, Cond.instanceMethod yX2_workerAt, Cond.selects RX2 yX2_workerAt yX2_workerAt, Cond.initialized RX2, Cond.code yX2_workerAt cX2_workerAt 3 (some (.object "ShortWork$Worker")), Cond.classLink RX2 141 "java/lang/IndexOutOfBoundsException", Cond.initialized "java/lang/IndexOutOfBoundsException", Cond.fieldLink RX2 38 "ShortWork" "workerCount" "I", Cond.fieldLink RX2 11 "ShortWork" "staff" "[LShortWork$Worker;", Cond.methodLink RX2 30 yX2_isWithin, Cond.static yX2_isWithin, Cond.code yX2_isWithin cX2_isWithin 3 (some .boolean), Cond.methodLink RX2 103 yX2_hasPassed, Cond.instanceMethod yX2_hasPassed, Cond.selects RX2 yX2_hasPassed yX2_hasPassed, Cond.code yX2_hasPassed cX2_hasPassed 2 (some .boolean), Cond.fieldLink RX2 55 "ShortWork" "currentWeek" "I", Cond.methodLink RX2 34 yX2_requireArgument, Cond.static yX2_requireArgument, Cond.code yX2_requireArgument cX2_requireArgument 1 none, Cond.classLink RX2 144 "java/lang/IllegalArgumentException", Cond.initialized "java/lang/IllegalArgumentException", Cond.methodLink RX2 41 yX2_requireState]
def wsX2_mail_r2 : List Cond := [Cond.static yX2_requireState, Cond.code yX2_requireState cX2_requireState 1 none, Cond.classLink RX2 147 "java/lang/IllegalStateException", Cond.initialized "java/lang/IllegalStateException"]
def wsX2_mail : List Cond := .code yX2_mail cX2_mail 4 none :: ((wsX2_mail_r1 ++ wsX2_mail_r2) ++ wsX20 ++ wsX10 ++ (vx_at0 RX2 143 "java/lang/IndexOutOfBoundsException" ["java/lang/RuntimeException", "java/lang/Exception"]).filter goodWord ++ (vx_at0 RX2 146 "java/lang/IllegalArgumentException" ["java/lang/RuntimeException", "java/lang/Exception"]).filter goodWord ++ (vx_at0 RX2 149 "java/lang/IllegalStateException" ["java/lang/RuntimeException", "java/lang/Exception"]).filter goodWord)
def wsX2_chargeBack : List Cond := .code yX2_chargeBack cX2_chargeBack 5 none :: ([.fieldLink RX2 128 "ShortWork" "firmDebt" "I"] ++ wsX10 ++ wsX20)
def wsX2_check_r1 : List Cond := [Cond.fieldLink RX2 21 "ShortWork" "checked" "[Z", Cond.fieldLink RX2 11 "ShortWork" "staff" "[LShortWork$Worker;", Cond.methodLink RX2 103 yX2_hasPassed, Cond.instanceMethod yX2_hasPassed, Cond.selects RX2 yX2_hasPassed yX2_hasPassed, Cond.initialized RX2, Cond.code yX2_hasPassed cX2_hasPassed 2 (some .boolean), Cond.fieldLink RX2 55 "ShortWork" "currentWeek" "I", Cond.methodLink RX2 30 yX2_isWithin, Cond.static yX2_isWithin, Cond.code yX2_isWithin cX2_isWithin 3 (some .boolean), Cond.methodLink RX2 34 yX2_requireArgument, Cond.static yX2_requireArgument, Cond.code yX2_requireArgument cX2_requireArgument 1 none, Cond.classLink RX2 144 "java/lang/IllegalArgumentException", Cond.initialized "java/lang/IllegalArgumentException", Cond.methodLink RX2 41 yX2_requireState, Cond.static yX2_requireState, Cond.code yX2_requireState cX2_requireState 1 none, Cond.classLink RX2 147 "java/lang/IllegalStateException", Cond.initialized "java/lang/IllegalStateException", Cond.methodLink RX2 121 yX1_hasWorkedTooMuch, Cond.instanceMethod yX1_hasWorkedTooMuch, Cond.selects RX1 yX1_hasWorkedTooMuch yX1_hasWorkedTooMuch]
def wsX2_check_r2 : List Cond := [Cond.initialized RX1, Cond.code yX1_hasWorkedTooMuch cX1_hasWorkedTooMuch 3 (some .boolean), Cond.fieldLink RX1 19 "ShortWork$Worker" "cutHours" "[I", Cond.fieldLink RX1 32 "ShortWork$Worker" "doorHours" "[I", Cond.fieldLink RX1 29 "ShortWork$Worker" "fundPay" "[I", Cond.methodLink RX2 124 yX2_chargeBack, Cond.instanceMethod yX2_chargeBack, Cond.selects RX2 yX2_chargeBack yX2_chargeBack, Cond.code yX2_chargeBack cX2_chargeBack 5 none, Cond.fieldLink RX2 128 "ShortWork" "firmDebt" "I"]
def wsX2_check : List Cond := .code yX2_check cX2_check 7 (some .int) :: ((wsX2_check_r1 ++ wsX2_check_r2) ++ wsX20 ++ wsX10 ++ (vx_at0 RX2 146 "java/lang/IllegalArgumentException" ["java/lang/RuntimeException", "java/lang/Exception"]).filter goodWord ++ (vx_at0 RX2 149 "java/lang/IllegalStateException" ["java/lang/RuntimeException", "java/lang/Exception"]).filter goodWord)
def wsX2_firmOwes : List Cond := .code yX2_firmOwes cX2_firmOwes 1 (some .int) :: ([.fieldLink RX2 128 "ShortWork" "firmDebt" "I"] ++ wsX20)
def wsX2_owes : List Cond := .code yX2_owes cX2_owes 2 (some .int) :: ([.methodLink RX2 47 yX2_workerAt, .instanceMethod yX2_workerAt, .selects RX2 yX2_workerAt yX2_workerAt, .initialized RX2, .code yX2_workerAt cX2_workerAt 3 (some (.object "ShortWork$Worker")), .classLink RX2 141 "java/lang/IndexOutOfBoundsException", .initialized "java/lang/IndexOutOfBoundsException", .fieldLink RX2 38 "ShortWork" "workerCount" "I", .fieldLink RX2 11 "ShortWork" "staff" "[LShortWork$Worker;", .methodLink RX2 30 yX2_isWithin, .static yX2_isWithin, .code yX2_isWithin cX2_isWithin 3 (some .boolean)] ++ wsX10 ++ wsX20 ++ (vx_at0 RX2 143 "java/lang/IndexOutOfBoundsException" ["java/lang/RuntimeException", "java/lang/Exception"]).filter goodWord)
def wsX2_net : List Cond := .code yX2_net cX2_net 3 (some .int) :: ([.methodLink RX2 47 yX2_workerAt, .instanceMethod yX2_workerAt, .selects RX2 yX2_workerAt yX2_workerAt, .initialized RX2, .code yX2_workerAt cX2_workerAt 3 (some (.object "ShortWork$Worker")), .classLink RX2 141 "java/lang/IndexOutOfBoundsException", .initialized "java/lang/IndexOutOfBoundsException", .fieldLink RX2 38 "ShortWork" "workerCount" "I", .fieldLink RX2 11 "ShortWork" "staff" "[LShortWork$Worker;", .methodLink RX2 30 yX2_isWithin, .static yX2_isWithin, .code yX2_isWithin cX2_isWithin 3 (some .boolean)] ++ wsX10 ++ wsX20 ++ (vx_at0 RX2 143 "java/lang/IndexOutOfBoundsException" ["java/lang/RuntimeException", "java/lang/Exception"]).filter goodWord)
def wsX3_init_r1 : List Cond := [Cond.methodLink RX3 1 objectInit, Cond.instanceMethod objectInit, Cond.code objectInit ⟨#[0xb1]⟩ 1 none, Cond.arrayClass .int, Cond.fieldLink RX3 7 "ShortWorkModel" "pay" "[I", Cond.arrayClass .boolean, Cond.fieldLink RX3 13 "ShortWorkModel" "hasChildren" "[Z", Cond.fieldLink RX3 17 "ShortWorkModel" "noticed" "[I", Cond.fieldLink RX3 20 "ShortWorkModel" "from" "[I", Cond.fieldLink RX3 23 "ShortWorkModel" "to" "[I", Cond.fieldLink RX3 26 "ShortWorkModel" "hours" "[I", Cond.fieldLink RX3 29 "ShortWorkModel" "cutWeeks" "[I", Cond.fieldLink RX3 32 "ShortWorkModel" "owed" "[I", Cond.fieldLink RX3 35 "ShortWorkModel" "seats" "[I", Cond.fieldLink RX3 38 "ShortWorkModel" "begins" "[I", Cond.fieldLink RX3 41 "ShortWorkModel" "ends" "[I", Cond.fieldLink RX3 44 "ShortWorkModel" "filling" "[I", Cond.fieldLink RX3 47 "ShortWorkModel" "isIn" "[Z", Cond.fieldLink RX3 50 "ShortWorkModel" "floor" "I", Cond.fieldLink RX3 54 "ShortWorkModel" "paid" "[I", Cond.fieldLink RX3 57 "ShortWorkModel" "made" "[I", Cond.fieldLink RX3 60 "ShortWorkModel" "cutPaid" "[I", Cond.fieldLink RX3 63 "ShortWorkModel" "doors" "[I", Cond.fieldLink RX3 66 "ShortWorkModel" "mails" "[Z"]
def wsX3_init_r2 : List Cond := [Cond.fieldLink RX3 69 "ShortWorkModel" "isChecked" "[Z"]
def wsX3_init : List Cond := .code yX3_init cX3_init 2 none :: ((wsX3_init_r1 ++ wsX3_init_r2) ++ wsX30)
def wsX3_thrown : List Cond := .code yX3_thrown cX3_thrown 1 (some .int) :: ([.fieldLink RX3 72 "ShortWorkModel" "thrown" "I"] ++ wsX30)
def wsX3_fails : List Cond := .code yX3_fails cX3_fails 2 (some .int) :: ([.fieldLink RX3 72 "ShortWorkModel" "thrown" "I"] ++ wsX30)
def wsX3_asks : List Cond := .code yX3_asks cX3_asks 2 (some .boolean) :: ([.fieldLink RX3 72 "ShortWorkModel" "thrown" "I"] ++ wsX30)
def wsX3_in : List Cond := .code yX3_in cX3_in 3 (some .boolean) :: ([])
def wsX3_isWorker : List Cond := .code yX3_isWorker cX3_isWorker 2 (some .boolean) :: ([.fieldLink RX3 75 "ShortWorkModel" "workers" "I"] ++ wsX30)
def wsX3_isCourse : List Cond := .code yX3_isCourse cX3_isCourse 2 (some .boolean) :: ([.fieldLink RX3 78 "ShortWorkModel" "courses" "I"] ++ wsX30)
def wsX3_add : List Cond := .code yX3_add cX3_add 3 (some .int) :: ([.constant RX3 81 (100000), .fieldLink RX3 75 "ShortWorkModel" "workers" "I", .fieldLink RX3 7 "ShortWorkModel" "pay" "[I", .fieldLink RX3 13 "ShortWorkModel" "hasChildren" "[Z", .methodLink RX3 82 yX3_in, .static yX3_in, .initialized RX3, .code yX3_in cX3_in 3 (some .boolean), .methodLink RX3 86 yX3_asks, .instanceMethod yX3_asks, .selects RX3 yX3_asks yX3_asks, .code yX3_asks cX3_asks 2 (some .boolean), .fieldLink RX3 72 "ShortWorkModel" "thrown" "I", .methodLink RX3 90 yX3_fails, .instanceMethod yX3_fails, .selects RX3 yX3_fails yX3_fails, .code yX3_fails cX3_fails 2 (some .int)] ++ wsX30)
def wsX3_notice : List Cond := .code yX3_notice cX3_notice 6 (some .int) :: ([.fieldLink RX3 98 "ShortWorkModel" "week" "I", .fieldLink RX3 17 "ShortWorkModel" "noticed" "[I", .fieldLink RX3 20 "ShortWorkModel" "from" "[I", .fieldLink RX3 23 "ShortWorkModel" "to" "[I", .fieldLink RX3 26 "ShortWorkModel" "hours" "[I", .methodLink RX3 94 yX3_isWorker, .instanceMethod yX3_isWorker, .selects RX3 yX3_isWorker yX3_isWorker, .initialized RX3, .code yX3_isWorker cX3_isWorker 2 (some .boolean), .fieldLink RX3 75 "ShortWorkModel" "workers" "I", .methodLink RX3 86 yX3_asks, .instanceMethod yX3_asks, .selects RX3 yX3_asks yX3_asks, .code yX3_asks cX3_asks 2 (some .boolean), .fieldLink RX3 72 "ShortWorkModel" "thrown" "I", .methodLink RX3 82 yX3_in, .static yX3_in, .code yX3_in cX3_in 3 (some .boolean), .methodLink RX3 90 yX3_fails, .instanceMethod yX3_fails, .selects RX3 yX3_fails yX3_fails, .code yX3_fails cX3_fails 2 (some .int)] ++ wsX30)
def wsX3_addCourse : List Cond := .code yX3_addCourse cX3_addCourse 5 (some .int) :: ([.fieldLink RX3 78 "ShortWorkModel" "courses" "I", .fieldLink RX3 35 "ShortWorkModel" "seats" "[I", .fieldLink RX3 38 "ShortWorkModel" "begins" "[I", .fieldLink RX3 41 "ShortWorkModel" "ends" "[I", .fieldLink RX3 44 "ShortWorkModel" "filling" "[I", .methodLink RX3 82 yX3_in, .static yX3_in, .initialized RX3, .code yX3_in cX3_in 3 (some .boolean), .methodLink RX3 86 yX3_asks, .instanceMethod yX3_asks, .selects RX3 yX3_asks yX3_asks, .code yX3_asks cX3_asks 2 (some .boolean), .fieldLink RX3 72 "ShortWorkModel" "thrown" "I", .methodLink RX3 90 yX3_fails, .instanceMethod yX3_fails, .selects RX3 yX3_fails yX3_fails, .code yX3_fails cX3_fails 2 (some .int)] ++ wsX30)
def wsX3_meets : List Cond := .code yX3_meets cX3_meets 5 (some .boolean) :: ([.fieldLink RX3 78 "ShortWorkModel" "courses" "I", .fieldLink RX3 47 "ShortWorkModel" "isIn" "[Z", .fieldLink RX3 38 "ShortWorkModel" "begins" "[I", .fieldLink RX3 41 "ShortWorkModel" "ends" "[I"] ++ wsX30)
def wsX3_enrol_r1 : List Cond := [Cond.fieldLink RX3 35 "ShortWorkModel" "seats" "[I", Cond.fieldLink RX3 41 "ShortWorkModel" "ends" "[I", Cond.fieldLink RX3 98 "ShortWorkModel" "week" "I", Cond.fieldLink RX3 47 "ShortWorkModel" "isIn" "[Z", Cond.methodLink RX3 94 yX3_isWorker, Cond.instanceMethod yX3_isWorker, Cond.selects RX3 yX3_isWorker yX3_isWorker, Cond.initialized RX3, Cond.code yX3_isWorker cX3_isWorker 2 (some .boolean), Cond.fieldLink RX3 75 "ShortWorkModel" "workers" "I", Cond.methodLink RX3 101 yX3_isCourse, Cond.instanceMethod yX3_isCourse, Cond.selects RX3 yX3_isCourse yX3_isCourse, Cond.code yX3_isCourse cX3_isCourse 2 (some .boolean), Cond.fieldLink RX3 78 "ShortWorkModel" "courses" "I", Cond.methodLink RX3 86 yX3_asks, Cond.instanceMethod yX3_asks, Cond.selects RX3 yX3_asks yX3_asks, Cond.code yX3_asks cX3_asks 2 (some .boolean), Cond.fieldLink RX3 72 "ShortWorkModel" "thrown" "I", Cond.methodLink RX3 104 yX3_meets, Cond.instanceMethod yX3_meets, Cond.selects RX3 yX3_meets yX3_meets, Cond.code yX3_meets cX3_meets 5 (some .boolean)]
def wsX3_enrol_r2 : List Cond := [Cond.fieldLink RX3 38 "ShortWorkModel" "begins" "[I", Cond.methodLink RX3 90 yX3_fails, Cond.instanceMethod yX3_fails, Cond.selects RX3 yX3_fails yX3_fails, Cond.code yX3_fails cX3_fails 2 (some .int)]
def wsX3_enrol : List Cond := .code yX3_enrol cX3_enrol 3 (some .int) :: ((wsX3_enrol_r1 ++ wsX3_enrol_r2) ++ wsX30)
def wsX3_setFloor : List Cond := .code yX3_setFloor cX3_setFloor 3 (some .int) :: ([.fieldLink RX3 50 "ShortWorkModel" "floor" "I", .methodLink RX3 82 yX3_in, .static yX3_in, .initialized RX3, .code yX3_in cX3_in 3 (some .boolean), .methodLink RX3 86 yX3_asks, .instanceMethod yX3_asks, .selects RX3 yX3_asks yX3_asks, .code yX3_asks cX3_asks 2 (some .boolean), .fieldLink RX3 72 "ShortWorkModel" "thrown" "I"] ++ wsX30)
def wsX3_workers : List Cond := .code yX3_workers cX3_workers 1 (some .int) :: ([.fieldLink RX3 72 "ShortWorkModel" "thrown" "I", .fieldLink RX3 75 "ShortWorkModel" "workers" "I"] ++ wsX30)
def wsX3_cutOf : List Cond := .code yX3_cutOf cX3_cutOf 5 (some .int) :: ([.fieldLink RX3 17 "ShortWorkModel" "noticed" "[I", .fieldLink RX3 20 "ShortWorkModel" "from" "[I", .fieldLink RX3 23 "ShortWorkModel" "to" "[I", .fieldLink RX3 26 "ShortWorkModel" "hours" "[I"] ++ wsX30)
def wsX3_cut_r1 : List Cond := [Cond.methodLink RX3 94 yX3_isWorker, Cond.instanceMethod yX3_isWorker, Cond.selects RX3 yX3_isWorker yX3_isWorker, Cond.initialized RX3, Cond.code yX3_isWorker cX3_isWorker 2 (some .boolean), Cond.fieldLink RX3 75 "ShortWorkModel" "workers" "I", Cond.methodLink RX3 86 yX3_asks, Cond.instanceMethod yX3_asks, Cond.selects RX3 yX3_asks yX3_asks, Cond.code yX3_asks cX3_asks 2 (some .boolean), Cond.fieldLink RX3 72 "ShortWorkModel" "thrown" "I", Cond.methodLink RX3 82 yX3_in, Cond.static yX3_in, Cond.code yX3_in cX3_in 3 (some .boolean), Cond.methodLink RX3 108 yX3_cutOf, Cond.instanceMethod yX3_cutOf, Cond.selects RX3 yX3_cutOf yX3_cutOf, Cond.code yX3_cutOf cX3_cutOf 5 (some .int), Cond.fieldLink RX3 17 "ShortWorkModel" "noticed" "[I", Cond.fieldLink RX3 20 "ShortWorkModel" "from" "[I", Cond.fieldLink RX3 23 "ShortWorkModel" "to" "[I", Cond.fieldLink RX3 26 "ShortWorkModel" "hours" "[I", Cond.methodLink RX3 90 yX3_fails, Cond.instanceMethod yX3_fails]
def wsX3_cut_r2 : List Cond := [Cond.selects RX3 yX3_fails yX3_fails, Cond.code yX3_fails cX3_fails 2 (some .int)]
def wsX3_cut : List Cond := .code yX3_cut cX3_cut 3 (some .int) :: ((wsX3_cut_r1 ++ wsX3_cut_r2) ++ wsX30)
def wsX3_fills : List Cond := .code yX3_fills cX3_fills 5 (some .boolean) :: ([.fieldLink RX3 78 "ShortWorkModel" "courses" "I", .fieldLink RX3 47 "ShortWorkModel" "isIn" "[Z", .fieldLink RX3 38 "ShortWorkModel" "begins" "[I", .fieldLink RX3 41 "ShortWorkModel" "ends" "[I", .fieldLink RX3 44 "ShortWorkModel" "filling" "[I", .methodLink RX3 108 yX3_cutOf, .instanceMethod yX3_cutOf, .selects RX3 yX3_cutOf yX3_cutOf, .initialized RX3, .code yX3_cutOf cX3_cutOf 5 (some .int), .fieldLink RX3 17 "ShortWorkModel" "noticed" "[I", .fieldLink RX3 20 "ShortWorkModel" "from" "[I", .fieldLink RX3 23 "ShortWorkModel" "to" "[I", .fieldLink RX3 26 "ShortWorkModel" "hours" "[I"] ++ wsX30)
def wsX3_isFilled_r1 : List Cond := [Cond.methodLink RX3 94 yX3_isWorker, Cond.instanceMethod yX3_isWorker, Cond.selects RX3 yX3_isWorker yX3_isWorker, Cond.initialized RX3, Cond.code yX3_isWorker cX3_isWorker 2 (some .boolean), Cond.fieldLink RX3 75 "ShortWorkModel" "workers" "I", Cond.methodLink RX3 86 yX3_asks, Cond.instanceMethod yX3_asks, Cond.selects RX3 yX3_asks yX3_asks, Cond.code yX3_asks cX3_asks 2 (some .boolean), Cond.fieldLink RX3 72 "ShortWorkModel" "thrown" "I", Cond.methodLink RX3 82 yX3_in, Cond.static yX3_in, Cond.code yX3_in cX3_in 3 (some .boolean), Cond.methodLink RX3 90 yX3_fails, Cond.instanceMethod yX3_fails, Cond.selects RX3 yX3_fails yX3_fails, Cond.code yX3_fails cX3_fails 2 (some .int), Cond.methodLink RX3 112 yX3_fills, Cond.instanceMethod yX3_fills, Cond.selects RX3 yX3_fills yX3_fills, Cond.code yX3_fills cX3_fills 5 (some .boolean), Cond.fieldLink RX3 78 "ShortWorkModel" "courses" "I", Cond.fieldLink RX3 47 "ShortWorkModel" "isIn" "[Z"]
def wsX3_isFilled_r2 : List Cond := [Cond.fieldLink RX3 38 "ShortWorkModel" "begins" "[I", Cond.fieldLink RX3 41 "ShortWorkModel" "ends" "[I", Cond.fieldLink RX3 44 "ShortWorkModel" "filling" "[I", Cond.methodLink RX3 108 yX3_cutOf, Cond.instanceMethod yX3_cutOf, Cond.selects RX3 yX3_cutOf yX3_cutOf, Cond.code yX3_cutOf cX3_cutOf 5 (some .int), Cond.fieldLink RX3 17 "ShortWorkModel" "noticed" "[I", Cond.fieldLink RX3 20 "ShortWorkModel" "from" "[I", Cond.fieldLink RX3 23 "ShortWorkModel" "to" "[I", Cond.fieldLink RX3 26 "ShortWorkModel" "hours" "[I"]
def wsX3_isFilled : List Cond := .code yX3_isFilled cX3_isFilled 3 (some .boolean) :: ((wsX3_isFilled_r1 ++ wsX3_isFilled_r2) ++ wsX30)
def wsX3_percent : List Cond := .code yX3_percent cX3_percent 5 (some .int) :: ([.fieldLink RX3 98 "ShortWorkModel" "week" "I", .fieldLink RX3 29 "ShortWorkModel" "cutWeeks" "[I", .fieldLink RX3 13 "ShortWorkModel" "hasChildren" "[Z", .methodLink RX3 112 yX3_fills, .instanceMethod yX3_fills, .selects RX3 yX3_fills yX3_fills, .initialized RX3, .code yX3_fills cX3_fills 5 (some .boolean), .fieldLink RX3 78 "ShortWorkModel" "courses" "I", .fieldLink RX3 47 "ShortWorkModel" "isIn" "[Z", .fieldLink RX3 38 "ShortWorkModel" "begins" "[I", .fieldLink RX3 41 "ShortWorkModel" "ends" "[I", .fieldLink RX3 44 "ShortWorkModel" "filling" "[I", .methodLink RX3 108 yX3_cutOf, .instanceMethod yX3_cutOf, .selects RX3 yX3_cutOf yX3_cutOf, .code yX3_cutOf cX3_cutOf 5 (some .int), .fieldLink RX3 17 "ShortWorkModel" "noticed" "[I", .fieldLink RX3 20 "ShortWorkModel" "from" "[I", .fieldLink RX3 23 "ShortWorkModel" "to" "[I", .fieldLink RX3 26 "ShortWorkModel" "hours" "[I"] ++ wsX30)
def wsX3_pays_r1 : List Cond := [Cond.fieldLink RX3 98 "ShortWorkModel" "week" "I", Cond.fieldLink RX3 7 "ShortWorkModel" "pay" "[I", Cond.fieldLink RX3 50 "ShortWorkModel" "floor" "I", Cond.fieldLink RX3 54 "ShortWorkModel" "paid" "[I", Cond.fieldLink RX3 57 "ShortWorkModel" "made" "[I", Cond.fieldLink RX3 60 "ShortWorkModel" "cutPaid" "[I", Cond.fieldLink RX3 29 "ShortWorkModel" "cutWeeks" "[I", Cond.methodLink RX3 108 yX3_cutOf, Cond.instanceMethod yX3_cutOf, Cond.selects RX3 yX3_cutOf yX3_cutOf, Cond.initialized RX3, Cond.code yX3_cutOf cX3_cutOf 5 (some .int), Cond.fieldLink RX3 17 "ShortWorkModel" "noticed" "[I", Cond.fieldLink RX3 20 "ShortWorkModel" "from" "[I", Cond.fieldLink RX3 23 "ShortWorkModel" "to" "[I", Cond.fieldLink RX3 26 "ShortWorkModel" "hours" "[I", Cond.methodLink RX3 115 yX3_percent, Cond.instanceMethod yX3_percent, Cond.selects RX3 yX3_percent yX3_percent, Cond.code yX3_percent cX3_percent 5 (some .int), Cond.fieldLink RX3 13 "ShortWorkModel" "hasChildren" "[Z", Cond.methodLink RX3 112 yX3_fills, Cond.instanceMethod yX3_fills, Cond.selects RX3 yX3_fills yX3_fills]
def wsX3_pays_r2 : List Cond := [Cond.code yX3_fills cX3_fills 5 (some .boolean), Cond.fieldLink RX3 78 "ShortWorkModel" "courses" "I", Cond.fieldLink RX3 47 "ShortWorkModel" "isIn" "[Z", Cond.fieldLink RX3 38 "ShortWorkModel" "begins" "[I", Cond.fieldLink RX3 41 "ShortWorkModel" "ends" "[I", Cond.fieldLink RX3 44 "ShortWorkModel" "filling" "[I"]
def wsX3_pays : List Cond := .code yX3_pays cX3_pays 8 (some .int) :: ((wsX3_pays_r1 ++ wsX3_pays_r2) ++ wsX30)
def wsX3_pass_r1 : List Cond := [Cond.fieldLink RX3 98 "ShortWorkModel" "week" "I", Cond.fieldLink RX3 75 "ShortWorkModel" "workers" "I", Cond.methodLink RX3 82 yX3_in, Cond.static yX3_in, Cond.initialized RX3, Cond.code yX3_in cX3_in 3 (some .boolean), Cond.methodLink RX3 86 yX3_asks, Cond.instanceMethod yX3_asks, Cond.selects RX3 yX3_asks yX3_asks, Cond.code yX3_asks cX3_asks 2 (some .boolean), Cond.fieldLink RX3 72 "ShortWorkModel" "thrown" "I", Cond.methodLink RX3 90 yX3_fails, Cond.instanceMethod yX3_fails, Cond.selects RX3 yX3_fails yX3_fails, Cond.code yX3_fails cX3_fails 2 (some .int), Cond.methodLink RX3 118 yX3_pays, Cond.instanceMethod yX3_pays, Cond.selects RX3 yX3_pays yX3_pays, Cond.code yX3_pays cX3_pays 8 (some .int), Cond.fieldLink RX3 7 "ShortWorkModel" "pay" "[I", Cond.fieldLink RX3 50 "ShortWorkModel" "floor" "I", Cond.fieldLink RX3 54 "ShortWorkModel" "paid" "[I", Cond.fieldLink RX3 57 "ShortWorkModel" "made" "[I", Cond.fieldLink RX3 60 "ShortWorkModel" "cutPaid" "[I"]
def wsX3_pass_r2 : List Cond := [Cond.fieldLink RX3 29 "ShortWorkModel" "cutWeeks" "[I", Cond.methodLink RX3 108 yX3_cutOf, Cond.instanceMethod yX3_cutOf, Cond.selects RX3 yX3_cutOf yX3_cutOf, Cond.code yX3_cutOf cX3_cutOf 5 (some .int), Cond.fieldLink RX3 17 "ShortWorkModel" "noticed" "[I", Cond.fieldLink RX3 20 "ShortWorkModel" "from" "[I", Cond.fieldLink RX3 23 "ShortWorkModel" "to" "[I", Cond.fieldLink RX3 26 "ShortWorkModel" "hours" "[I", Cond.methodLink RX3 115 yX3_percent, Cond.instanceMethod yX3_percent, Cond.selects RX3 yX3_percent yX3_percent, Cond.code yX3_percent cX3_percent 5 (some .int), Cond.fieldLink RX3 13 "ShortWorkModel" "hasChildren" "[Z", Cond.methodLink RX3 112 yX3_fills, Cond.instanceMethod yX3_fills, Cond.selects RX3 yX3_fills yX3_fills, Cond.code yX3_fills cX3_fills 5 (some .boolean), Cond.fieldLink RX3 78 "ShortWorkModel" "courses" "I", Cond.fieldLink RX3 47 "ShortWorkModel" "isIn" "[Z", Cond.fieldLink RX3 38 "ShortWorkModel" "begins" "[I", Cond.fieldLink RX3 41 "ShortWorkModel" "ends" "[I", Cond.fieldLink RX3 44 "ShortWorkModel" "filling" "[I"]
def wsX3_pass : List Cond := .code yX3_pass cX3_pass 5 (some .int) :: ((wsX3_pass_r1 ++ wsX3_pass_r2) ++ wsX30)
def wsX3_week : List Cond := .code yX3_week cX3_week 1 (some .int) :: ([.fieldLink RX3 72 "ShortWorkModel" "thrown" "I", .fieldLink RX3 98 "ShortWorkModel" "week" "I"] ++ wsX30)
def wsX3_isPast : List Cond := .code yX3_isPast cX3_isPast 2 (some .boolean) :: ([.fieldLink RX3 98 "ShortWorkModel" "week" "I"] ++ wsX30)
def wsX3_paid : List Cond := .code yX3_paid cX3_paid 3 (some .int) :: ([.fieldLink RX3 54 "ShortWorkModel" "paid" "[I", .methodLink RX3 94 yX3_isWorker, .instanceMethod yX3_isWorker, .selects RX3 yX3_isWorker yX3_isWorker, .initialized RX3, .code yX3_isWorker cX3_isWorker 2 (some .boolean), .fieldLink RX3 75 "ShortWorkModel" "workers" "I", .methodLink RX3 86 yX3_asks, .instanceMethod yX3_asks, .selects RX3 yX3_asks yX3_asks, .code yX3_asks cX3_asks 2 (some .boolean), .fieldLink RX3 72 "ShortWorkModel" "thrown" "I", .methodLink RX3 121 yX3_isPast, .instanceMethod yX3_isPast, .selects RX3 yX3_isPast yX3_isPast, .code yX3_isPast cX3_isPast 2 (some .boolean), .fieldLink RX3 98 "ShortWorkModel" "week" "I", .methodLink RX3 90 yX3_fails, .instanceMethod yX3_fails, .selects RX3 yX3_fails yX3_fails, .code yX3_fails cX3_fails 2 (some .int)] ++ wsX30)
def wsX3_madeUp : List Cond := .code yX3_madeUp cX3_madeUp 3 (some .int) :: ([.fieldLink RX3 57 "ShortWorkModel" "made" "[I", .methodLink RX3 94 yX3_isWorker, .instanceMethod yX3_isWorker, .selects RX3 yX3_isWorker yX3_isWorker, .initialized RX3, .code yX3_isWorker cX3_isWorker 2 (some .boolean), .fieldLink RX3 75 "ShortWorkModel" "workers" "I", .methodLink RX3 86 yX3_asks, .instanceMethod yX3_asks, .selects RX3 yX3_asks yX3_asks, .code yX3_asks cX3_asks 2 (some .boolean), .fieldLink RX3 72 "ShortWorkModel" "thrown" "I", .methodLink RX3 121 yX3_isPast, .instanceMethod yX3_isPast, .selects RX3 yX3_isPast yX3_isPast, .code yX3_isPast cX3_isPast 2 (some .boolean), .fieldLink RX3 98 "ShortWorkModel" "week" "I", .methodLink RX3 90 yX3_fails, .instanceMethod yX3_fails, .selects RX3 yX3_fails yX3_fails, .code yX3_fails cX3_fails 2 (some .int)] ++ wsX30)
def wsX3_cutWeeks : List Cond := .code yX3_cutWeeks cX3_cutWeeks 2 (some .int) :: ([.fieldLink RX3 29 "ShortWorkModel" "cutWeeks" "[I", .methodLink RX3 94 yX3_isWorker, .instanceMethod yX3_isWorker, .selects RX3 yX3_isWorker yX3_isWorker, .initialized RX3, .code yX3_isWorker cX3_isWorker 2 (some .boolean), .fieldLink RX3 75 "ShortWorkModel" "workers" "I", .methodLink RX3 86 yX3_asks, .instanceMethod yX3_asks, .selects RX3 yX3_asks yX3_asks, .code yX3_asks cX3_asks 2 (some .boolean), .fieldLink RX3 72 "ShortWorkModel" "thrown" "I"] ++ wsX30)
def wsX3_door_r1 : List Cond := [Cond.fieldLink RX3 69 "ShortWorkModel" "isChecked" "[Z", Cond.fieldLink RX3 63 "ShortWorkModel" "doors" "[I", Cond.methodLink RX3 94 yX3_isWorker, Cond.instanceMethod yX3_isWorker, Cond.selects RX3 yX3_isWorker yX3_isWorker, Cond.initialized RX3, Cond.code yX3_isWorker cX3_isWorker 2 (some .boolean), Cond.fieldLink RX3 75 "ShortWorkModel" "workers" "I", Cond.methodLink RX3 86 yX3_asks, Cond.instanceMethod yX3_asks, Cond.selects RX3 yX3_asks yX3_asks, Cond.code yX3_asks cX3_asks 2 (some .boolean), Cond.fieldLink RX3 72 "ShortWorkModel" "thrown" "I", Cond.methodLink RX3 121 yX3_isPast, Cond.instanceMethod yX3_isPast, Cond.selects RX3 yX3_isPast yX3_isPast, Cond.code yX3_isPast cX3_isPast 2 (some .boolean), Cond.fieldLink RX3 98 "ShortWorkModel" "week" "I", Cond.methodLink RX3 82 yX3_in, Cond.static yX3_in, Cond.code yX3_in cX3_in 3 (some .boolean), Cond.methodLink RX3 90 yX3_fails, Cond.instanceMethod yX3_fails, Cond.selects RX3 yX3_fails yX3_fails]
def wsX3_door_r2 : List Cond := [Cond.code yX3_fails cX3_fails 2 (some .int)]
def wsX3_door : List Cond := .code yX3_door cX3_door 4 none :: ((wsX3_door_r1 ++ wsX3_door_r2) ++ wsX30)
def wsX3_mail : List Cond := .code yX3_mail cX3_mail 3 none :: ([.fieldLink RX3 69 "ShortWorkModel" "isChecked" "[Z", .fieldLink RX3 66 "ShortWorkModel" "mails" "[Z", .methodLink RX3 94 yX3_isWorker, .instanceMethod yX3_isWorker, .selects RX3 yX3_isWorker yX3_isWorker, .initialized RX3, .code yX3_isWorker cX3_isWorker 2 (some .boolean), .fieldLink RX3 75 "ShortWorkModel" "workers" "I", .methodLink RX3 86 yX3_asks, .instanceMethod yX3_asks, .selects RX3 yX3_asks yX3_asks, .code yX3_asks cX3_asks 2 (some .boolean), .fieldLink RX3 72 "ShortWorkModel" "thrown" "I", .methodLink RX3 121 yX3_isPast, .instanceMethod yX3_isPast, .selects RX3 yX3_isPast yX3_isPast, .code yX3_isPast cX3_isPast 2 (some .boolean), .fieldLink RX3 98 "ShortWorkModel" "week" "I", .methodLink RX3 90 yX3_fails, .instanceMethod yX3_fails, .selects RX3 yX3_fails yX3_fails, .code yX3_fails cX3_fails 2 (some .int)] ++ wsX30)
def wsX3_check : List Cond := .code yX3_check cX3_check 7 (some .int) :: ([.fieldLink RX3 69 "ShortWorkModel" "isChecked" "[Z", .fieldLink RX3 75 "ShortWorkModel" "workers" "I", .fieldLink RX3 57 "ShortWorkModel" "made" "[I", .fieldLink RX3 63 "ShortWorkModel" "doors" "[I", .fieldLink RX3 60 "ShortWorkModel" "cutPaid" "[I", .fieldLink RX3 66 "ShortWorkModel" "mails" "[Z", .fieldLink RX3 32 "ShortWorkModel" "owed" "[I", .fieldLink RX3 124 "ShortWorkModel" "firmOwed" "I", .methodLink RX3 121 yX3_isPast, .instanceMethod yX3_isPast, .selects RX3 yX3_isPast yX3_isPast, .initialized RX3, .code yX3_isPast cX3_isPast 2 (some .boolean), .fieldLink RX3 98 "ShortWorkModel" "week" "I", .methodLink RX3 86 yX3_asks, .instanceMethod yX3_asks, .selects RX3 yX3_asks yX3_asks, .code yX3_asks cX3_asks 2 (some .boolean), .fieldLink RX3 72 "ShortWorkModel" "thrown" "I", .methodLink RX3 90 yX3_fails, .instanceMethod yX3_fails, .selects RX3 yX3_fails yX3_fails, .code yX3_fails cX3_fails 2 (some .int)] ++ wsX30)
def wsX3_firmOwes : List Cond := .code yX3_firmOwes cX3_firmOwes 1 (some .int) :: ([.fieldLink RX3 72 "ShortWorkModel" "thrown" "I", .fieldLink RX3 124 "ShortWorkModel" "firmOwed" "I"] ++ wsX30)
def wsX3_owes : List Cond := .code yX3_owes cX3_owes 2 (some .int) :: ([.fieldLink RX3 32 "ShortWorkModel" "owed" "[I", .methodLink RX3 94 yX3_isWorker, .instanceMethod yX3_isWorker, .selects RX3 yX3_isWorker yX3_isWorker, .initialized RX3, .code yX3_isWorker cX3_isWorker 2 (some .boolean), .fieldLink RX3 75 "ShortWorkModel" "workers" "I", .methodLink RX3 86 yX3_asks, .instanceMethod yX3_asks, .selects RX3 yX3_asks yX3_asks, .code yX3_asks cX3_asks 2 (some .boolean), .fieldLink RX3 72 "ShortWorkModel" "thrown" "I"] ++ wsX30)
def wsX3_net : List Cond := .code yX3_net cX3_net 4 (some .int) :: ([.fieldLink RX3 32 "ShortWorkModel" "owed" "[I", .fieldLink RX3 54 "ShortWorkModel" "paid" "[I", .fieldLink RX3 57 "ShortWorkModel" "made" "[I", .methodLink RX3 94 yX3_isWorker, .instanceMethod yX3_isWorker, .selects RX3 yX3_isWorker yX3_isWorker, .initialized RX3, .code yX3_isWorker cX3_isWorker 2 (some .boolean), .fieldLink RX3 75 "ShortWorkModel" "workers" "I", .methodLink RX3 86 yX3_asks, .instanceMethod yX3_asks, .selects RX3 yX3_asks yX3_asks, .code yX3_asks cX3_asks 2 (some .boolean), .fieldLink RX3 72 "ShortWorkModel" "thrown" "I"] ++ wsX30)
def wsJ9_max_7cf53 : List Cond := .code yJ9_max_7cf53 cJ9_max_7cf53 2 (some .int) :: ([])
def wsL_add_r1 : List Cond := [Cond.classLink RL 13 "java/lang/IllegalArgumentException", Cond.classLink RL 15 "java/lang/IllegalStateException", Cond.methodLink RL 7 yX2_add, Cond.instanceMethod yX2_add, Cond.selects RX2 yX2_add yX2_add, Cond.initialized RX2, Cond.code yX2_add cX2_add 4 (some .int), Cond.constant RX2 29 (100000), Cond.fieldLink RX2 38 "ShortWork" "workerCount" "I", Cond.fieldLink RX2 11 "ShortWork" "staff" "[LShortWork$Worker;", Cond.classLink RX2 9 RX1, Cond.instantiable RX1 12, Cond.initialized RX1, Cond.methodLink RX2 30 yX2_isWithin, Cond.static yX2_isWithin, Cond.code yX2_isWithin cX2_isWithin 3 (some .boolean), Cond.methodLink RX2 34 yX2_requireArgument, Cond.static yX2_requireArgument, Cond.code yX2_requireArgument cX2_requireArgument 1 none, Cond.classLink RX2 144 "java/lang/IllegalArgumentException", Cond.initialized "java/lang/IllegalArgumentException", Cond.methodLink RX2 41 yX2_requireState, Cond.static yX2_requireState, Cond.code yX2_requireState cX2_requireState 1 none]
def wsL_add_r2 : List Cond := [Cond.classLink RX2 147 "java/lang/IllegalStateException", Cond.initialized "java/lang/IllegalStateException", Cond.methodLink RX2 44 yX1_init, Cond.instanceMethod yX1_init, Cond.code yX1_init cX1_init 3 none, Cond.methodLink RX1 3 objectInit, Cond.instanceMethod objectInit, Cond.code objectInit ⟨#[0xb1]⟩ 1 none, Cond.fieldLink RX1 9 "ShortWork$Worker" "fullPay" "I", Cond.fieldLink RX1 15 "ShortWork$Worker" "hasChildren" "Z", Cond.arrayClass .int, Cond.fieldLink RX1 19 "ShortWork$Worker" "cutHours" "[I", Cond.fieldLink RX1 23 "ShortWork$Worker" "courseHours" "[I", Cond.fieldLink RX1 26 "ShortWork$Worker" "firmPay" "[I", Cond.fieldLink RX1 29 "ShortWork$Worker" "fundPay" "[I", Cond.fieldLink RX1 32 "ShortWork$Worker" "doorHours" "[I", Cond.arrayClass .boolean, Cond.fieldLink RX1 35 "ShortWork$Worker" "mailed" "[Z"]
def wsL_add : List Cond := .codeWith yL_add cL_add 5 (some .int) [(0, 10, 13, 13), (0, 10, 17, 15)] :: ((wsL_add_r1 ++ wsL_add_r2) ++ wsX20 ++ wsX10 ++ (vx_at0 RX2 146 "java/lang/IllegalArgumentException" ["java/lang/RuntimeException", "java/lang/Exception"]).filter goodWord ++ (vx_at0 RX2 149 "java/lang/IllegalStateException" ["java/lang/RuntimeException", "java/lang/Exception"]).filter goodWord)
def wsL_notice_r1 : List Cond := [Cond.classLink RL 21 "java/lang/IndexOutOfBoundsException", Cond.classLink RL 13 "java/lang/IllegalArgumentException", Cond.classLink RL 15 "java/lang/IllegalStateException", Cond.methodLink RL 17 yX2_notice, Cond.instanceMethod yX2_notice, Cond.selects RX2 yX2_notice yX2_notice, Cond.initialized RX2, Cond.code yX2_notice cX2_notice 6 (some .int), Cond.fieldLink RX2 55 "ShortWork" "currentWeek" "I", Cond.methodLink RX2 47 yX2_workerAt, Cond.instanceMethod yX2_workerAt, Cond.selects RX2 yX2_workerAt yX2_workerAt, Cond.code yX2_workerAt cX2_workerAt 3 (some (.object "ShortWork$Worker")), Cond.classLink RX2 141 "java/lang/IndexOutOfBoundsException", Cond.initialized "java/lang/IndexOutOfBoundsException", Cond.fieldLink RX2 38 "ShortWork" "workerCount" "I", Cond.fieldLink RX2 11 "ShortWork" "staff" "[LShortWork$Worker;", Cond.methodLink RX2 30 yX2_isWithin, Cond.static yX2_isWithin, Cond.code yX2_isWithin cX2_isWithin 3 (some .boolean), Cond.methodLink RX2 51 yX2_isSpan, Cond.static yX2_isSpan, Cond.code yX2_isSpan cX2_isSpan 2 (some .boolean), Cond.methodLink RX2 34 yX2_requireArgument]
def wsL_notice_r2 : List Cond := [Cond.static yX2_requireArgument, Cond.code yX2_requireArgument cX2_requireArgument 1 none, Cond.classLink RX2 144 "java/lang/IllegalArgumentException", Cond.initialized "java/lang/IllegalArgumentException", Cond.methodLink RX2 41 yX2_requireState, Cond.static yX2_requireState, Cond.code yX2_requireState cX2_requireState 1 none, Cond.classLink RX2 147 "java/lang/IllegalStateException", Cond.initialized "java/lang/IllegalStateException", Cond.methodLink RX2 61 yX1_takeNotice, Cond.instanceMethod yX1_takeNotice, Cond.selects RX1 yX1_takeNotice yX1_takeNotice, Cond.initialized RX1, Cond.code yX1_takeNotice cX1_takeNotice 5 none, Cond.fieldLink RX1 19 "ShortWork$Worker" "cutHours" "[I", Cond.fieldLink RX1 39 "ShortWork$Worker" "noticeCount" "I"]
def wsL_notice : List Cond := .codeWith yL_notice cL_notice 7 (some .int) [(0, 14, 17, 21), (0, 14, 21, 13), (0, 14, 25, 15)] :: ((wsL_notice_r1 ++ wsL_notice_r2) ++ wsX20 ++ wsX10 ++ (vx_at0 RX2 143 "java/lang/IndexOutOfBoundsException" ["java/lang/RuntimeException", "java/lang/Exception"]).filter goodWord ++ (vx_at0 RX2 146 "java/lang/IllegalArgumentException" ["java/lang/RuntimeException", "java/lang/Exception"]).filter goodWord ++ (vx_at0 RX2 149 "java/lang/IllegalStateException" ["java/lang/RuntimeException", "java/lang/Exception"]).filter goodWord)
def wsL_addCourse_r1 : List Cond := [Cond.classLink RL 13 "java/lang/IllegalArgumentException", Cond.classLink RL 15 "java/lang/IllegalStateException", Cond.methodLink RL 23 yX2_addCourse, Cond.instanceMethod yX2_addCourse, Cond.selects RX2 yX2_addCourse yX2_addCourse, Cond.initialized RX2, Cond.code yX2_addCourse cX2_addCourse 6 (some .int), Cond.fieldLink RX2 65 "ShortWork" "courseCount" "I", Cond.fieldLink RX2 17 "ShortWork" "courses" "[LShortWork$Course;", Cond.classLink RX2 15 RX0, Cond.instantiable RX0 4, Cond.initialized RX0, Cond.methodLink RX2 30 yX2_isWithin, Cond.static yX2_isWithin, Cond.code yX2_isWithin cX2_isWithin 3 (some .boolean), Cond.methodLink RX2 51 yX2_isSpan, Cond.static yX2_isSpan, Cond.code yX2_isSpan cX2_isSpan 2 (some .boolean), Cond.methodLink RX2 34 yX2_requireArgument, Cond.static yX2_requireArgument, Cond.code yX2_requireArgument cX2_requireArgument 1 none, Cond.classLink RX2 144 "java/lang/IllegalArgumentException", Cond.initialized "java/lang/IllegalArgumentException", Cond.methodLink RX2 41 yX2_requireState]
def wsL_addCourse_r2 : List Cond := [Cond.static yX2_requireState, Cond.code yX2_requireState cX2_requireState 1 none, Cond.classLink RX2 147 "java/lang/IllegalStateException", Cond.initialized "java/lang/IllegalStateException", Cond.methodLink RX2 68 yX0_init, Cond.instanceMethod yX0_init, Cond.code yX0_init cX0_init 5 none, Cond.methodLink RX0 1 objectInit, Cond.instanceMethod objectInit, Cond.code objectInit ⟨#[0xb1]⟩ 1 none, Cond.fieldLink RX0 7 "ShortWork$Course" "from" "I", Cond.fieldLink RX0 13 "ShortWork$Course" "to" "I", Cond.fieldLink RX0 16 "ShortWork$Course" "hours" "I", Cond.fieldLink RX0 19 "ShortWork$Course" "seatsLeft" "I"]
def wsL_addCourse : List Cond := .codeWith yL_addCourse cL_addCourse 7 (some .int) [(0, 14, 17, 13), (0, 14, 21, 15)] :: ((wsL_addCourse_r1 ++ wsL_addCourse_r2) ++ wsX20 ++ wsX00 ++ (vx_at0 RX2 146 "java/lang/IllegalArgumentException" ["java/lang/RuntimeException", "java/lang/Exception"]).filter goodWord ++ (vx_at0 RX2 149 "java/lang/IllegalStateException" ["java/lang/RuntimeException", "java/lang/Exception"]).filter goodWord)
def wsL_enrol_r1 : List Cond := [Cond.classLink RL 21 "java/lang/IndexOutOfBoundsException", Cond.classLink RL 15 "java/lang/IllegalStateException", Cond.methodLink RL 26 yX2_enrol, Cond.instanceMethod yX2_enrol, Cond.selects RX2 yX2_enrol yX2_enrol, Cond.initialized RX2, Cond.code yX2_enrol cX2_enrol 5 (some .int), Cond.fieldLink RX2 55 "ShortWork" "currentWeek" "I", Cond.methodLink RX2 47 yX2_workerAt, Cond.instanceMethod yX2_workerAt, Cond.selects RX2 yX2_workerAt yX2_workerAt, Cond.code yX2_workerAt cX2_workerAt 3 (some (.object "ShortWork$Worker")), Cond.classLink RX2 141 "java/lang/IndexOutOfBoundsException", Cond.initialized "java/lang/IndexOutOfBoundsException", Cond.fieldLink RX2 38 "ShortWork" "workerCount" "I", Cond.fieldLink RX2 11 "ShortWork" "staff" "[LShortWork$Worker;", Cond.methodLink RX2 30 yX2_isWithin, Cond.static yX2_isWithin, Cond.code yX2_isWithin cX2_isWithin 3 (some .boolean), Cond.methodLink RX2 71 yX2_courseAt, Cond.instanceMethod yX2_courseAt, Cond.selects RX2 yX2_courseAt yX2_courseAt, Cond.code yX2_courseAt cX2_courseAt 3 (some (.object "ShortWork$Course")), Cond.fieldLink RX2 65 "ShortWork" "courseCount" "I"]
def wsL_enrol_r2 : List Cond := [Cond.fieldLink RX2 17 "ShortWork" "courses" "[LShortWork$Course;", Cond.methodLink RX2 84 yX1_hasNoCourseFrom, Cond.instanceMethod yX1_hasNoCourseFrom, Cond.selects RX1 yX1_hasNoCourseFrom yX1_hasNoCourseFrom, Cond.initialized RX1, Cond.code yX1_hasNoCourseFrom cX1_hasNoCourseFrom 4 (some .boolean), Cond.fieldLink RX1 23 "ShortWork$Worker" "courseHours" "[I", Cond.methodLink RX2 41 yX2_requireState, Cond.static yX2_requireState, Cond.code yX2_requireState cX2_requireState 1 none, Cond.classLink RX2 147 "java/lang/IllegalStateException", Cond.initialized "java/lang/IllegalStateException", Cond.methodLink RX2 87 yX1_goTo, Cond.instanceMethod yX1_goTo, Cond.selects RX1 yX1_goTo yX1_goTo, Cond.code yX1_goTo cX1_goTo 3 none]
def wsL_enrol : List Cond := .codeWith yL_enrol cL_enrol 5 (some .int) [(0, 10, 13, 21), (0, 10, 17, 15)] :: ((wsL_enrol_r1 ++ wsL_enrol_r2) ++ wsX00 ++ wsX20 ++ wsX10 ++ (vx_at0 RX2 143 "java/lang/IndexOutOfBoundsException" ["java/lang/RuntimeException", "java/lang/Exception"]).filter goodWord ++ (vx_at0 RX2 149 "java/lang/IllegalStateException" ["java/lang/RuntimeException", "java/lang/Exception"]).filter goodWord)
def wsL_setFloor : List Cond := .codeWith yL_setFloor cL_setFloor 4 (some .int) [(0, 9, 12, 13)] :: ([.classLink RL 13 "java/lang/IllegalArgumentException", .methodLink RL 30 yX2_setFloor, .instanceMethod yX2_setFloor, .selects RX2 yX2_setFloor yX2_setFloor, .initialized RX2, .code yX2_setFloor cX2_setFloor 3 (some .int), .fieldLink RX2 25 "ShortWork" "floorPercent" "I", .methodLink RX2 30 yX2_isWithin, .static yX2_isWithin, .code yX2_isWithin cX2_isWithin 3 (some .boolean), .methodLink RX2 34 yX2_requireArgument, .static yX2_requireArgument, .code yX2_requireArgument cX2_requireArgument 1 none, .classLink RX2 144 "java/lang/IllegalArgumentException", .initialized "java/lang/IllegalArgumentException"] ++ wsX20 ++ (vx_at0 RX2 146 "java/lang/IllegalArgumentException" ["java/lang/RuntimeException", "java/lang/Exception"]).filter goodWord)
def wsL_cut : List Cond := .codeWith yL_cut cL_cut 5 (some .int) [(0, 10, 13, 21), (0, 10, 17, 13)] :: ([.classLink RL 21 "java/lang/IndexOutOfBoundsException", .classLink RL 13 "java/lang/IllegalArgumentException", .methodLink RL 34 yX2_cut, .instanceMethod yX2_cut, .selects RX2 yX2_cut yX2_cut, .initialized RX2, .code yX2_cut cX2_cut 4 (some .int), .methodLink RX2 47 yX2_workerAt, .instanceMethod yX2_workerAt, .selects RX2 yX2_workerAt yX2_workerAt, .code yX2_workerAt cX2_workerAt 3 (some (.object "ShortWork$Worker")), .classLink RX2 141 "java/lang/IndexOutOfBoundsException", .initialized "java/lang/IndexOutOfBoundsException", .fieldLink RX2 38 "ShortWork" "workerCount" "I", .fieldLink RX2 11 "ShortWork" "staff" "[LShortWork$Worker;", .methodLink RX2 30 yX2_isWithin, .static yX2_isWithin, .code yX2_isWithin cX2_isWithin 3 (some .boolean), .methodLink RX2 34 yX2_requireArgument, .static yX2_requireArgument, .code yX2_requireArgument cX2_requireArgument 1 none, .classLink RX2 144 "java/lang/IllegalArgumentException", .initialized "java/lang/IllegalArgumentException"] ++ wsX10 ++ wsX20 ++ (vx_at0 RX2 143 "java/lang/IndexOutOfBoundsException" ["java/lang/RuntimeException", "java/lang/Exception"]).filter goodWord ++ (vx_at0 RX2 146 "java/lang/IllegalArgumentException" ["java/lang/RuntimeException", "java/lang/Exception"]).filter goodWord)
def wsL_isFilled_r1 : List Cond := [Cond.classLink RL 21 "java/lang/IndexOutOfBoundsException", Cond.classLink RL 13 "java/lang/IllegalArgumentException", Cond.methodLink RL 37 yX2_isFilled, Cond.instanceMethod yX2_isFilled, Cond.selects RX2 yX2_isFilled yX2_isFilled, Cond.initialized RX2, Cond.code yX2_isFilled cX2_isFilled 4 (some .boolean), Cond.methodLink RX2 47 yX2_workerAt, Cond.instanceMethod yX2_workerAt, Cond.selects RX2 yX2_workerAt yX2_workerAt, Cond.code yX2_workerAt cX2_workerAt 3 (some (.object "ShortWork$Worker")), Cond.classLink RX2 141 "java/lang/IndexOutOfBoundsException", Cond.initialized "java/lang/IndexOutOfBoundsException", Cond.fieldLink RX2 38 "ShortWork" "workerCount" "I", Cond.fieldLink RX2 11 "ShortWork" "staff" "[LShortWork$Worker;", Cond.methodLink RX2 30 yX2_isWithin, Cond.static yX2_isWithin, Cond.code yX2_isWithin cX2_isWithin 3 (some .boolean), Cond.methodLink RX2 34 yX2_requireArgument, Cond.static yX2_requireArgument, Cond.code yX2_requireArgument cX2_requireArgument 1 none, Cond.classLink RX2 144 "java/lang/IllegalArgumentException", Cond.initialized "java/lang/IllegalArgumentException", Cond.methodLink RX2 95 yX1_hasFilled]
def wsL_isFilled_r2 : List Cond := [Cond.instanceMethod yX1_hasFilled, Cond.selects RX1 yX1_hasFilled yX1_hasFilled, Cond.initialized RX1, Cond.code yX1_hasFilled cX1_hasFilled 2 (some .boolean), Cond.fieldLink RX1 23 "ShortWork$Worker" "courseHours" "[I", Cond.fieldLink RX1 19 "ShortWork$Worker" "cutHours" "[I"]
def wsL_isFilled : List Cond := .codeWith yL_isFilled cL_isFilled 5 (some .int) [(0, 17, 20, 21), (0, 17, 24, 13)] :: ((wsL_isFilled_r1 ++ wsL_isFilled_r2) ++ wsX20 ++ wsX10 ++ (vx_at0 RX2 143 "java/lang/IndexOutOfBoundsException" ["java/lang/RuntimeException", "java/lang/Exception"]).filter goodWord ++ (vx_at0 RX2 146 "java/lang/IllegalArgumentException" ["java/lang/RuntimeException", "java/lang/Exception"]).filter goodWord)
def wsL_pass_r1 : List Cond := [Cond.classLink RL 13 "java/lang/IllegalArgumentException", Cond.classLink RL 15 "java/lang/IllegalStateException", Cond.methodLink RL 41 yX2_pass, Cond.instanceMethod yX2_pass, Cond.selects RX2 yX2_pass yX2_pass, Cond.initialized RX2, Cond.code yX2_pass cX2_pass 4 (some .int), Cond.fieldLink RX2 55 "ShortWork" "currentWeek" "I", Cond.methodLink RX2 30 yX2_isWithin, Cond.static yX2_isWithin, Cond.code yX2_isWithin cX2_isWithin 3 (some .boolean), Cond.methodLink RX2 34 yX2_requireArgument, Cond.static yX2_requireArgument, Cond.code yX2_requireArgument cX2_requireArgument 1 none, Cond.classLink RX2 144 "java/lang/IllegalArgumentException", Cond.initialized "java/lang/IllegalArgumentException", Cond.methodLink RX2 41 yX2_requireState, Cond.static yX2_requireState, Cond.code yX2_requireState cX2_requireState 1 none, Cond.classLink RX2 147 "java/lang/IllegalStateException", Cond.initialized "java/lang/IllegalStateException", Cond.methodLink RX2 99 yX2_payCurrentWeek, Cond.instanceMethod yX2_payCurrentWeek, Cond.selects RX2 yX2_payCurrentWeek yX2_payCurrentWeek]
def wsL_pass_r2 : List Cond := [Cond.code yX2_payCurrentWeek cX2_payCurrentWeek 6 (some .int), Cond.fieldLink RX2 11 "ShortWork" "staff" "[LShortWork$Worker;", Cond.fieldLink RX2 25 "ShortWork" "floorPercent" "I", Cond.methodLink RX2 137 yX1_payFor, Cond.instanceMethod yX1_payFor, Cond.selects RX1 yX1_payFor yX1_payFor, Cond.initialized RX1, Cond.code yX1_payFor cX1_payFor 6 (some .int), Cond.fieldLink RX1 9 "ShortWork$Worker" "fullPay" "I", Cond.fieldLink RX1 19 "ShortWork$Worker" "cutHours" "[I", Cond.methodLink RX1 57 Lib.Math.max.name, Cond.static Lib.Math.max.name, Cond.initialized "java/lang/Math", Cond.code Lib.Math.max.name Lib.Math.max.code 2 (some .int), Cond.fieldLink RX1 26 "ShortWork$Worker" "firmPay" "[I", Cond.fieldLink RX1 29 "ShortWork$Worker" "fundPay" "[I", Cond.fieldLink RX1 63 "ShortWork$Worker" "received" "I", Cond.fieldLink RX1 66 "ShortWork$Worker" "cutWeekCount" "I", Cond.methodLink RX1 53 yX1_madeUpPercent, Cond.instanceMethod yX1_madeUpPercent, Cond.selects RX1 yX1_madeUpPercent yX1_madeUpPercent, Cond.code yX1_madeUpPercent cX1_madeUpPercent 3 (some .int), Cond.fieldLink RX1 15 "ShortWork$Worker" "hasChildren" "Z", Cond.methodLink RX1 69 yX1_stepPercent]
def wsL_pass_r3 : List Cond := [Cond.instanceMethod yX1_stepPercent, Cond.selects RX1 yX1_stepPercent yX1_stepPercent, Cond.code yX1_stepPercent cX1_stepPercent 1 (some .int), Cond.methodLink RX1 73 yX1_hasFilled, Cond.instanceMethod yX1_hasFilled, Cond.selects RX1 yX1_hasFilled yX1_hasFilled, Cond.code yX1_hasFilled cX1_hasFilled 2 (some .boolean), Cond.fieldLink RX1 23 "ShortWork$Worker" "courseHours" "[I"]
def wsL_pass : List Cond := .codeWith yL_pass cL_pass 4 (some .int) [(0, 9, 12, 13), (0, 9, 15, 15)] :: ((wsL_pass_r1 ++ (wsL_pass_r2 ++ wsL_pass_r3)) ++ wsX20 ++ wsX10 ++ (vx_at0 RX2 146 "java/lang/IllegalArgumentException" ["java/lang/RuntimeException", "java/lang/Exception"]).filter goodWord ++ (vx_at0 RX2 149 "java/lang/IllegalStateException" ["java/lang/RuntimeException", "java/lang/Exception"]).filter goodWord)
def wsL_paid_r1 : List Cond := [Cond.classLink RL 21 "java/lang/IndexOutOfBoundsException", Cond.classLink RL 13 "java/lang/IllegalArgumentException", Cond.methodLink RL 44 yX2_paid, Cond.instanceMethod yX2_paid, Cond.selects RX2 yX2_paid yX2_paid, Cond.initialized RX2, Cond.code yX2_paid cX2_paid 4 (some .int), Cond.methodLink RX2 47 yX2_workerAt, Cond.instanceMethod yX2_workerAt, Cond.selects RX2 yX2_workerAt yX2_workerAt, Cond.code yX2_workerAt cX2_workerAt 3 (some (.object "ShortWork$Worker")), Cond.classLink RX2 141 "java/lang/IndexOutOfBoundsException", Cond.initialized "java/lang/IndexOutOfBoundsException", Cond.fieldLink RX2 38 "ShortWork" "workerCount" "I", Cond.fieldLink RX2 11 "ShortWork" "staff" "[LShortWork$Worker;", Cond.methodLink RX2 30 yX2_isWithin, Cond.static yX2_isWithin, Cond.code yX2_isWithin cX2_isWithin 3 (some .boolean), Cond.methodLink RX2 103 yX2_hasPassed, Cond.instanceMethod yX2_hasPassed, Cond.selects RX2 yX2_hasPassed yX2_hasPassed, Cond.code yX2_hasPassed cX2_hasPassed 2 (some .boolean), Cond.fieldLink RX2 55 "ShortWork" "currentWeek" "I", Cond.methodLink RX2 34 yX2_requireArgument]
def wsL_paid_r2 : List Cond := [Cond.static yX2_requireArgument, Cond.code yX2_requireArgument cX2_requireArgument 1 none, Cond.classLink RX2 144 "java/lang/IllegalArgumentException", Cond.initialized "java/lang/IllegalArgumentException"]
def wsL_paid : List Cond := .codeWith yL_paid cL_paid 5 (some .int) [(0, 10, 13, 21), (0, 10, 17, 13)] :: ((wsL_paid_r1 ++ wsL_paid_r2) ++ wsX10 ++ wsX20 ++ (vx_at0 RX2 143 "java/lang/IndexOutOfBoundsException" ["java/lang/RuntimeException", "java/lang/Exception"]).filter goodWord ++ (vx_at0 RX2 146 "java/lang/IllegalArgumentException" ["java/lang/RuntimeException", "java/lang/Exception"]).filter goodWord)
def wsL_madeUp_r1 : List Cond := [Cond.classLink RL 21 "java/lang/IndexOutOfBoundsException", Cond.classLink RL 13 "java/lang/IllegalArgumentException", Cond.methodLink RL 47 yX2_madeUp, Cond.instanceMethod yX2_madeUp, Cond.selects RX2 yX2_madeUp yX2_madeUp, Cond.initialized RX2, Cond.code yX2_madeUp cX2_madeUp 4 (some .int), Cond.methodLink RX2 47 yX2_workerAt, Cond.instanceMethod yX2_workerAt, Cond.selects RX2 yX2_workerAt yX2_workerAt, Cond.code yX2_workerAt cX2_workerAt 3 (some (.object "ShortWork$Worker")), Cond.classLink RX2 141 "java/lang/IndexOutOfBoundsException", Cond.initialized "java/lang/IndexOutOfBoundsException", Cond.fieldLink RX2 38 "ShortWork" "workerCount" "I", Cond.fieldLink RX2 11 "ShortWork" "staff" "[LShortWork$Worker;", Cond.methodLink RX2 30 yX2_isWithin, Cond.static yX2_isWithin, Cond.code yX2_isWithin cX2_isWithin 3 (some .boolean), Cond.methodLink RX2 103 yX2_hasPassed, Cond.instanceMethod yX2_hasPassed, Cond.selects RX2 yX2_hasPassed yX2_hasPassed, Cond.code yX2_hasPassed cX2_hasPassed 2 (some .boolean), Cond.fieldLink RX2 55 "ShortWork" "currentWeek" "I", Cond.methodLink RX2 34 yX2_requireArgument]
def wsL_madeUp_r2 : List Cond := [Cond.static yX2_requireArgument, Cond.code yX2_requireArgument cX2_requireArgument 1 none, Cond.classLink RX2 144 "java/lang/IllegalArgumentException", Cond.initialized "java/lang/IllegalArgumentException"]
def wsL_madeUp : List Cond := .codeWith yL_madeUp cL_madeUp 5 (some .int) [(0, 10, 13, 21), (0, 10, 17, 13)] :: ((wsL_madeUp_r1 ++ wsL_madeUp_r2) ++ wsX10 ++ wsX20 ++ (vx_at0 RX2 143 "java/lang/IndexOutOfBoundsException" ["java/lang/RuntimeException", "java/lang/Exception"]).filter goodWord ++ (vx_at0 RX2 146 "java/lang/IllegalArgumentException" ["java/lang/RuntimeException", "java/lang/Exception"]).filter goodWord)
def wsL_cutWeeks : List Cond := .codeWith yL_cutWeeks cL_cutWeeks 4 (some .int) [(0, 9, 12, 21)] :: ([.classLink RL 21 "java/lang/IndexOutOfBoundsException", .methodLink RL 50 yX2_cutWeeks, .instanceMethod yX2_cutWeeks, .selects RX2 yX2_cutWeeks yX2_cutWeeks, .initialized RX2, .code yX2_cutWeeks cX2_cutWeeks 2 (some .int), .methodLink RX2 47 yX2_workerAt, .instanceMethod yX2_workerAt, .selects RX2 yX2_workerAt yX2_workerAt, .code yX2_workerAt cX2_workerAt 3 (some (.object "ShortWork$Worker")), .classLink RX2 141 "java/lang/IndexOutOfBoundsException", .initialized "java/lang/IndexOutOfBoundsException", .fieldLink RX2 38 "ShortWork" "workerCount" "I", .fieldLink RX2 11 "ShortWork" "staff" "[LShortWork$Worker;", .methodLink RX2 30 yX2_isWithin, .static yX2_isWithin, .code yX2_isWithin cX2_isWithin 3 (some .boolean)] ++ wsX10 ++ wsX20 ++ (vx_at0 RX2 143 "java/lang/IndexOutOfBoundsException" ["java/lang/RuntimeException", "java/lang/Exception"]).filter goodWord)
def wsL_door_r1 : List Cond := [Cond.classLink RL 21 "java/lang/IndexOutOfBoundsException", Cond.classLink RL 13 "java/lang/IllegalArgumentException", Cond.classLink RL 15 "java/lang/IllegalStateException", Cond.methodLink RL 53 yX2_door, Cond.instanceMethod yX2_door, Cond.selects RX2 yX2_door yX2_door, Cond.initialized RX2, Cond.code yX2_door cX2_door 5 none, Cond.fieldLink RX2 21 "ShortWork" "checked" "[Z", Cond.methodLink RX2 47 yX2_workerAt, Cond.instanceMethod yX2_workerAt, Cond.selects RX2 yX2_workerAt yX2_workerAt, Cond.code yX2_workerAt cX2_workerAt 3 (some (.object "ShortWork$Worker")), Cond.classLink RX2 141 "java/lang/IndexOutOfBoundsException", Cond.initialized "java/lang/IndexOutOfBoundsException", Cond.fieldLink RX2 38 "ShortWork" "workerCount" "I", Cond.fieldLink RX2 11 "ShortWork" "staff" "[LShortWork$Worker;", Cond.methodLink RX2 30 yX2_isWithin, Cond.static yX2_isWithin, Cond.code yX2_isWithin cX2_isWithin 3 (some .boolean), Cond.methodLink RX2 103 yX2_hasPassed, Cond.instanceMethod yX2_hasPassed, Cond.selects RX2 yX2_hasPassed yX2_hasPassed, Cond.code yX2_hasPassed cX2_hasPassed 2 (some .boolean)]
def wsL_door_r2 : List Cond := [Cond.fieldLink RX2 55 "ShortWork" "currentWeek" "I", Cond.methodLink RX2 34 yX2_requireArgument, Cond.static yX2_requireArgument, Cond.code yX2_requireArgument cX2_requireArgument 1 none, Cond.classLink RX2 144 "java/lang/IllegalArgumentException", Cond.initialized "java/lang/IllegalArgumentException", Cond.methodLink RX2 41 yX2_requireState, Cond.static yX2_requireState, Cond.code yX2_requireState cX2_requireState 1 none, Cond.classLink RX2 147 "java/lang/IllegalStateException", Cond.initialized "java/lang/IllegalStateException"]
def wsL_door : List Cond := .codeWith yL_door cL_door 5 (some .int) [(0, 7, 10, 21), (0, 7, 14, 13), (0, 7, 18, 15)] :: ((wsL_door_r1 ++ wsL_door_r2) ++ wsX20 ++ wsX10 ++ (vx_at0 RX2 143 "java/lang/IndexOutOfBoundsException" ["java/lang/RuntimeException", "java/lang/Exception"]).filter goodWord ++ (vx_at0 RX2 146 "java/lang/IllegalArgumentException" ["java/lang/RuntimeException", "java/lang/Exception"]).filter goodWord ++ (vx_at0 RX2 149 "java/lang/IllegalStateException" ["java/lang/RuntimeException", "java/lang/Exception"]).filter goodWord)
def wsL_mail_r1 : List Cond := [Cond.classLink RL 21 "java/lang/IndexOutOfBoundsException", Cond.classLink RL 13 "java/lang/IllegalArgumentException", Cond.classLink RL 15 "java/lang/IllegalStateException", Cond.methodLink RL 57 yX2_mail, Cond.instanceMethod yX2_mail, Cond.selects RX2 yX2_mail yX2_mail, Cond.initialized RX2, Cond.code yX2_mail cX2_mail 4 none, Cond.fieldLink RX2 21 "ShortWork" "checked" "[Z", Cond.methodLink RX2 47 yX2_workerAt, Cond.instanceMethod yX2_workerAt, Cond.selects RX2 yX2_workerAt yX2_workerAt, Cond.code yX2_workerAt cX2_workerAt 3 (some (.object "ShortWork$Worker")), Cond.classLink RX2 141 "java/lang/IndexOutOfBoundsException", Cond.initialized "java/lang/IndexOutOfBoundsException", Cond.fieldLink RX2 38 "ShortWork" "workerCount" "I", Cond.fieldLink RX2 11 "ShortWork" "staff" "[LShortWork$Worker;", Cond.methodLink RX2 30 yX2_isWithin, Cond.static yX2_isWithin, Cond.code yX2_isWithin cX2_isWithin 3 (some .boolean), Cond.methodLink RX2 103 yX2_hasPassed, Cond.instanceMethod yX2_hasPassed, Cond.selects RX2 yX2_hasPassed yX2_hasPassed, Cond.code yX2_hasPassed cX2_hasPassed 2 (some .boolean)]
def wsL_mail_r2 : List Cond := [Cond.fieldLink RX2 55 "ShortWork" "currentWeek" "I", Cond.methodLink RX2 34 yX2_requireArgument, Cond.static yX2_requireArgument, Cond.code yX2_requireArgument cX2_requireArgument 1 none, Cond.classLink RX2 144 "java/lang/IllegalArgumentException", Cond.initialized "java/lang/IllegalArgumentException", Cond.methodLink RX2 41 yX2_requireState, Cond.static yX2_requireState, Cond.code yX2_requireState cX2_requireState 1 none, Cond.classLink RX2 147 "java/lang/IllegalStateException", Cond.initialized "java/lang/IllegalStateException"]
def wsL_mail : List Cond := .codeWith yL_mail cL_mail 4 (some .int) [(0, 6, 9, 21), (0, 6, 12, 13), (0, 6, 15, 15)] :: ((wsL_mail_r1 ++ wsL_mail_r2) ++ wsX20 ++ wsX10 ++ (vx_at0 RX2 143 "java/lang/IndexOutOfBoundsException" ["java/lang/RuntimeException", "java/lang/Exception"]).filter goodWord ++ (vx_at0 RX2 146 "java/lang/IllegalArgumentException" ["java/lang/RuntimeException", "java/lang/Exception"]).filter goodWord ++ (vx_at0 RX2 149 "java/lang/IllegalStateException" ["java/lang/RuntimeException", "java/lang/Exception"]).filter goodWord)
def wsL_check_r1 : List Cond := [Cond.classLink RL 13 "java/lang/IllegalArgumentException", Cond.classLink RL 15 "java/lang/IllegalStateException", Cond.methodLink RL 61 yX2_check, Cond.instanceMethod yX2_check, Cond.selects RX2 yX2_check yX2_check, Cond.initialized RX2, Cond.code yX2_check cX2_check 7 (some .int), Cond.fieldLink RX2 21 "ShortWork" "checked" "[Z", Cond.fieldLink RX2 11 "ShortWork" "staff" "[LShortWork$Worker;", Cond.methodLink RX2 103 yX2_hasPassed, Cond.instanceMethod yX2_hasPassed, Cond.selects RX2 yX2_hasPassed yX2_hasPassed, Cond.code yX2_hasPassed cX2_hasPassed 2 (some .boolean), Cond.fieldLink RX2 55 "ShortWork" "currentWeek" "I", Cond.methodLink RX2 30 yX2_isWithin, Cond.static yX2_isWithin, Cond.code yX2_isWithin cX2_isWithin 3 (some .boolean), Cond.methodLink RX2 34 yX2_requireArgument, Cond.static yX2_requireArgument, Cond.code yX2_requireArgument cX2_requireArgument 1 none, Cond.classLink RX2 144 "java/lang/IllegalArgumentException", Cond.initialized "java/lang/IllegalArgumentException", Cond.methodLink RX2 41 yX2_requireState, Cond.static yX2_requireState]
def wsL_check_r2 : List Cond := [Cond.code yX2_requireState cX2_requireState 1 none, Cond.classLink RX2 147 "java/lang/IllegalStateException", Cond.initialized "java/lang/IllegalStateException", Cond.methodLink RX2 121 yX1_hasWorkedTooMuch, Cond.instanceMethod yX1_hasWorkedTooMuch, Cond.selects RX1 yX1_hasWorkedTooMuch yX1_hasWorkedTooMuch, Cond.initialized RX1, Cond.code yX1_hasWorkedTooMuch cX1_hasWorkedTooMuch 3 (some .boolean), Cond.fieldLink RX1 19 "ShortWork$Worker" "cutHours" "[I", Cond.fieldLink RX1 32 "ShortWork$Worker" "doorHours" "[I", Cond.fieldLink RX1 29 "ShortWork$Worker" "fundPay" "[I", Cond.methodLink RX2 124 yX2_chargeBack, Cond.instanceMethod yX2_chargeBack, Cond.selects RX2 yX2_chargeBack yX2_chargeBack, Cond.code yX2_chargeBack cX2_chargeBack 5 none, Cond.fieldLink RX2 128 "ShortWork" "firmDebt" "I"]
def wsL_check : List Cond := .codeWith yL_check cL_check 4 (some .int) [(0, 9, 12, 13), (0, 9, 15, 15)] :: ((wsL_check_r1 ++ wsL_check_r2) ++ wsX20 ++ wsX10 ++ (vx_at0 RX2 146 "java/lang/IllegalArgumentException" ["java/lang/RuntimeException", "java/lang/Exception"]).filter goodWord ++ (vx_at0 RX2 149 "java/lang/IllegalStateException" ["java/lang/RuntimeException", "java/lang/Exception"]).filter goodWord)
def wsL_owes : List Cond := .codeWith yL_owes cL_owes 4 (some .int) [(0, 9, 12, 21)] :: ([.classLink RL 21 "java/lang/IndexOutOfBoundsException", .methodLink RL 64 yX2_owes, .instanceMethod yX2_owes, .selects RX2 yX2_owes yX2_owes, .initialized RX2, .code yX2_owes cX2_owes 2 (some .int), .methodLink RX2 47 yX2_workerAt, .instanceMethod yX2_workerAt, .selects RX2 yX2_workerAt yX2_workerAt, .code yX2_workerAt cX2_workerAt 3 (some (.object "ShortWork$Worker")), .classLink RX2 141 "java/lang/IndexOutOfBoundsException", .initialized "java/lang/IndexOutOfBoundsException", .fieldLink RX2 38 "ShortWork" "workerCount" "I", .fieldLink RX2 11 "ShortWork" "staff" "[LShortWork$Worker;", .methodLink RX2 30 yX2_isWithin, .static yX2_isWithin, .code yX2_isWithin cX2_isWithin 3 (some .boolean)] ++ wsX10 ++ wsX20 ++ (vx_at0 RX2 143 "java/lang/IndexOutOfBoundsException" ["java/lang/RuntimeException", "java/lang/Exception"]).filter goodWord)
def wsL_net : List Cond := .codeWith yL_net cL_net 4 (some .int) [(0, 9, 12, 21)] :: ([.classLink RL 21 "java/lang/IndexOutOfBoundsException", .methodLink RL 67 yX2_net, .instanceMethod yX2_net, .selects RX2 yX2_net yX2_net, .initialized RX2, .code yX2_net cX2_net 3 (some .int), .methodLink RX2 47 yX2_workerAt, .instanceMethod yX2_workerAt, .selects RX2 yX2_workerAt yX2_workerAt, .code yX2_workerAt cX2_workerAt 3 (some (.object "ShortWork$Worker")), .classLink RX2 141 "java/lang/IndexOutOfBoundsException", .initialized "java/lang/IndexOutOfBoundsException", .fieldLink RX2 38 "ShortWork" "workerCount" "I", .fieldLink RX2 11 "ShortWork" "staff" "[LShortWork$Worker;", .methodLink RX2 30 yX2_isWithin, .static yX2_isWithin, .code yX2_isWithin cX2_isWithin 3 (some .boolean)] ++ wsX10 ++ wsX20 ++ (vx_at0 RX2 143 "java/lang/IndexOutOfBoundsException" ["java/lang/RuntimeException", "java/lang/Exception"]).filter goodWord)
def wsL_law0_r1 : List Cond := [Cond.classLink RL 8 RX2, Cond.instantiable RX2 8, Cond.initialized RX2, Cond.classLink RL 71 RX3, Cond.instantiable RX3 25, Cond.initialized RX3, Cond.arrayClass .long, Cond.methodLink RL 70 yX2_init, Cond.instanceMethod yX2_init, Cond.code yX2_init cX2_init 1 none, Cond.methodLink RX2 3 objectInit, Cond.instanceMethod objectInit, Cond.code objectInit ⟨#[0xb1]⟩ 1 none, Cond.classLink RX2 9 RX1, Cond.fieldLink RX2 11 "ShortWork" "staff" "[LShortWork$Worker;", Cond.classLink RX2 15 RX0, Cond.fieldLink RX2 17 "ShortWork" "courses" "[LShortWork$Course;", Cond.arrayClass .boolean, Cond.fieldLink RX2 21 "ShortWork" "checked" "[Z", Cond.fieldLink RX2 25 "ShortWork" "floorPercent" "I", Cond.methodLink RL 73 yX3_init, Cond.instanceMethod yX3_init, Cond.code yX3_init cX3_init 2 none, Cond.methodLink RX3 1 objectInit]
def wsL_law0_r2 : List Cond := [Cond.arrayClass .int, Cond.fieldLink RX3 7 "ShortWorkModel" "pay" "[I", Cond.fieldLink RX3 13 "ShortWorkModel" "hasChildren" "[Z", Cond.fieldLink RX3 17 "ShortWorkModel" "noticed" "[I", Cond.fieldLink RX3 20 "ShortWorkModel" "from" "[I", Cond.fieldLink RX3 23 "ShortWorkModel" "to" "[I", Cond.fieldLink RX3 26 "ShortWorkModel" "hours" "[I", Cond.fieldLink RX3 29 "ShortWorkModel" "cutWeeks" "[I", Cond.fieldLink RX3 32 "ShortWorkModel" "owed" "[I", Cond.fieldLink RX3 35 "ShortWorkModel" "seats" "[I", Cond.fieldLink RX3 38 "ShortWorkModel" "begins" "[I", Cond.fieldLink RX3 41 "ShortWorkModel" "ends" "[I", Cond.fieldLink RX3 44 "ShortWorkModel" "filling" "[I", Cond.fieldLink RX3 47 "ShortWorkModel" "isIn" "[Z", Cond.fieldLink RX3 50 "ShortWorkModel" "floor" "I", Cond.fieldLink RX3 54 "ShortWorkModel" "paid" "[I", Cond.fieldLink RX3 57 "ShortWorkModel" "made" "[I", Cond.fieldLink RX3 60 "ShortWorkModel" "cutPaid" "[I", Cond.fieldLink RX3 63 "ShortWorkModel" "doors" "[I", Cond.fieldLink RX3 66 "ShortWorkModel" "mails" "[Z", Cond.fieldLink RX3 69 "ShortWorkModel" "isChecked" "[Z", Cond.methodLink RL 74 yL_add, Cond.static yL_add, Cond.initialized RL]
def wsL_law0_r3 : List Cond := [Cond.codeWith yL_add cL_add 5 (some .int) [(0, 10, 13, 13), (0, 10, 17, 15)], Cond.classLink RL 13 "java/lang/IllegalArgumentException", Cond.classLink RL 15 "java/lang/IllegalStateException", Cond.methodLink RL 7 yX2_add, Cond.instanceMethod yX2_add, Cond.selects RX2 yX2_add yX2_add, Cond.code yX2_add cX2_add 4 (some .int), Cond.constant RX2 29 (100000), Cond.fieldLink RX2 38 "ShortWork" "workerCount" "I", Cond.instantiable RX1 12, Cond.initialized RX1, Cond.methodLink RX2 30 yX2_isWithin, Cond.static yX2_isWithin, Cond.code yX2_isWithin cX2_isWithin 3 (some .boolean), Cond.methodLink RX2 34 yX2_requireArgument, Cond.static yX2_requireArgument, Cond.code yX2_requireArgument cX2_requireArgument 1 none, Cond.classLink RX2 144 "java/lang/IllegalArgumentException", Cond.initialized "java/lang/IllegalArgumentException", Cond.methodLink RX2 41 yX2_requireState, Cond.static yX2_requireState, Cond.code yX2_requireState cX2_requireState 1 none, Cond.classLink RX2 147 "java/lang/IllegalStateException", Cond.initialized "java/lang/IllegalStateException"]
def wsL_law0_r4 : List Cond := [Cond.methodLink RX2 44 yX1_init, Cond.instanceMethod yX1_init, Cond.code yX1_init cX1_init 3 none, Cond.methodLink RX1 3 objectInit, Cond.fieldLink RX1 9 "ShortWork$Worker" "fullPay" "I", Cond.fieldLink RX1 15 "ShortWork$Worker" "hasChildren" "Z", Cond.fieldLink RX1 19 "ShortWork$Worker" "cutHours" "[I", Cond.fieldLink RX1 23 "ShortWork$Worker" "courseHours" "[I", Cond.fieldLink RX1 26 "ShortWork$Worker" "firmPay" "[I", Cond.fieldLink RX1 29 "ShortWork$Worker" "fundPay" "[I", Cond.fieldLink RX1 32 "ShortWork$Worker" "doorHours" "[I", Cond.fieldLink RX1 35 "ShortWork$Worker" "mailed" "[Z", Cond.methodLink RL 79 yX3_add, Cond.instanceMethod yX3_add, Cond.selects RX3 yX3_add yX3_add, Cond.code yX3_add cX3_add 3 (some .int), Cond.constant RX3 81 (100000), Cond.fieldLink RX3 75 "ShortWorkModel" "workers" "I", Cond.methodLink RX3 82 yX3_in, Cond.static yX3_in, Cond.code yX3_in cX3_in 3 (some .boolean), Cond.methodLink RX3 86 yX3_asks, Cond.instanceMethod yX3_asks, Cond.selects RX3 yX3_asks yX3_asks]
def wsL_law0_r5 : List Cond := [Cond.code yX3_asks cX3_asks 2 (some .boolean), Cond.fieldLink RX3 72 "ShortWorkModel" "thrown" "I", Cond.methodLink RX3 90 yX3_fails, Cond.instanceMethod yX3_fails, Cond.selects RX3 yX3_fails yX3_fails, Cond.code yX3_fails cX3_fails 2 (some .int), Cond.methodLink RL 80 yX3_thrown, Cond.instanceMethod yX3_thrown, Cond.selects RX3 yX3_thrown yX3_thrown, Cond.code yX3_thrown cX3_thrown 1 (some .int), Cond.methodLink RL 84 yL_notice, Cond.static yL_notice, Cond.codeWith yL_notice cL_notice 7 (some .int) [(0, 14, 17, 21), (0, 14, 21, 13), (0, 14, 25, 15)], Cond.classLink RL 21 "java/lang/IndexOutOfBoundsException", Cond.methodLink RL 17 yX2_notice, Cond.instanceMethod yX2_notice, Cond.selects RX2 yX2_notice yX2_notice, Cond.code yX2_notice cX2_notice 6 (some .int), Cond.fieldLink RX2 55 "ShortWork" "currentWeek" "I", Cond.methodLink RX2 47 yX2_workerAt, Cond.instanceMethod yX2_workerAt, Cond.selects RX2 yX2_workerAt yX2_workerAt, Cond.code yX2_workerAt cX2_workerAt 3 (some (.object "ShortWork$Worker")), Cond.classLink RX2 141 "java/lang/IndexOutOfBoundsException"]
def wsL_law0_r6 : List Cond := [Cond.initialized "java/lang/IndexOutOfBoundsException", Cond.methodLink RX2 51 yX2_isSpan, Cond.static yX2_isSpan, Cond.code yX2_isSpan cX2_isSpan 2 (some .boolean), Cond.methodLink RX2 61 yX1_takeNotice, Cond.instanceMethod yX1_takeNotice, Cond.selects RX1 yX1_takeNotice yX1_takeNotice, Cond.code yX1_takeNotice cX1_takeNotice 5 none, Cond.fieldLink RX1 39 "ShortWork$Worker" "noticeCount" "I", Cond.methodLink RL 87 yX3_notice, Cond.instanceMethod yX3_notice, Cond.selects RX3 yX3_notice yX3_notice, Cond.code yX3_notice cX3_notice 6 (some .int), Cond.fieldLink RX3 98 "ShortWorkModel" "week" "I", Cond.methodLink RX3 94 yX3_isWorker, Cond.instanceMethod yX3_isWorker, Cond.selects RX3 yX3_isWorker yX3_isWorker, Cond.code yX3_isWorker cX3_isWorker 2 (some .boolean), Cond.methodLink RL 88 yL_addCourse, Cond.static yL_addCourse, Cond.codeWith yL_addCourse cL_addCourse 7 (some .int) [(0, 14, 17, 13), (0, 14, 21, 15)], Cond.methodLink RL 23 yX2_addCourse, Cond.instanceMethod yX2_addCourse, Cond.selects RX2 yX2_addCourse yX2_addCourse]
def wsL_law0_r7 : List Cond := [Cond.code yX2_addCourse cX2_addCourse 6 (some .int), Cond.fieldLink RX2 65 "ShortWork" "courseCount" "I", Cond.instantiable RX0 4, Cond.initialized RX0, Cond.methodLink RX2 68 yX0_init, Cond.instanceMethod yX0_init, Cond.code yX0_init cX0_init 5 none, Cond.methodLink RX0 1 objectInit, Cond.fieldLink RX0 7 "ShortWork$Course" "from" "I", Cond.fieldLink RX0 13 "ShortWork$Course" "to" "I", Cond.fieldLink RX0 16 "ShortWork$Course" "hours" "I", Cond.fieldLink RX0 19 "ShortWork$Course" "seatsLeft" "I", Cond.methodLink RL 90 yX3_addCourse, Cond.instanceMethod yX3_addCourse, Cond.selects RX3 yX3_addCourse yX3_addCourse, Cond.code yX3_addCourse cX3_addCourse 5 (some .int), Cond.fieldLink RX3 78 "ShortWorkModel" "courses" "I", Cond.methodLink RL 91 yL_enrol, Cond.static yL_enrol, Cond.codeWith yL_enrol cL_enrol 5 (some .int) [(0, 10, 13, 21), (0, 10, 17, 15)], Cond.methodLink RL 26 yX2_enrol, Cond.instanceMethod yX2_enrol, Cond.selects RX2 yX2_enrol yX2_enrol, Cond.code yX2_enrol cX2_enrol 5 (some .int)]
def wsL_law0_r8 : List Cond := [Cond.methodLink RX2 71 yX2_courseAt, Cond.instanceMethod yX2_courseAt, Cond.selects RX2 yX2_courseAt yX2_courseAt, Cond.code yX2_courseAt cX2_courseAt 3 (some (.object "ShortWork$Course")), Cond.methodLink RX2 84 yX1_hasNoCourseFrom, Cond.instanceMethod yX1_hasNoCourseFrom, Cond.selects RX1 yX1_hasNoCourseFrom yX1_hasNoCourseFrom, Cond.code yX1_hasNoCourseFrom cX1_hasNoCourseFrom 4 (some .boolean), Cond.methodLink RX2 87 yX1_goTo, Cond.instanceMethod yX1_goTo, Cond.selects RX1 yX1_goTo yX1_goTo, Cond.code yX1_goTo cX1_goTo 3 none, Cond.methodLink RL 94 yX3_enrol, Cond.instanceMethod yX3_enrol, Cond.selects RX3 yX3_enrol yX3_enrol, Cond.code yX3_enrol cX3_enrol 3 (some .int), Cond.methodLink RX3 101 yX3_isCourse, Cond.instanceMethod yX3_isCourse, Cond.selects RX3 yX3_isCourse yX3_isCourse, Cond.code yX3_isCourse cX3_isCourse 2 (some .boolean), Cond.methodLink RX3 104 yX3_meets, Cond.instanceMethod yX3_meets, Cond.selects RX3 yX3_meets yX3_meets, Cond.code yX3_meets cX3_meets 5 (some .boolean)]
def wsL_law0_r9 : List Cond := [Cond.methodLink RL 95 yL_setFloor, Cond.static yL_setFloor, Cond.codeWith yL_setFloor cL_setFloor 4 (some .int) [(0, 9, 12, 13)], Cond.methodLink RL 30 yX2_setFloor, Cond.instanceMethod yX2_setFloor, Cond.selects RX2 yX2_setFloor yX2_setFloor, Cond.code yX2_setFloor cX2_setFloor 3 (some .int), Cond.methodLink RL 98 yX3_setFloor, Cond.instanceMethod yX3_setFloor, Cond.selects RX3 yX3_setFloor yX3_setFloor, Cond.code yX3_setFloor cX3_setFloor 3 (some .int), Cond.methodLink RL 99 yX2_workers, Cond.instanceMethod yX2_workers, Cond.selects RX2 yX2_workers yX2_workers, Cond.code yX2_workers cX2_workers 1 (some .int), Cond.methodLink RL 102 yX3_workers, Cond.instanceMethod yX3_workers, Cond.selects RX3 yX3_workers yX3_workers, Cond.code yX3_workers cX3_workers 1 (some .int), Cond.methodLink RL 103 yL_cut, Cond.static yL_cut, Cond.codeWith yL_cut cL_cut 5 (some .int) [(0, 10, 13, 21), (0, 10, 17, 13)], Cond.methodLink RL 34 yX2_cut, Cond.instanceMethod yX2_cut]
def wsL_law0_r10 : List Cond := [Cond.selects RX2 yX2_cut yX2_cut, Cond.code yX2_cut cX2_cut 4 (some .int), Cond.methodLink RL 105 yX3_cut, Cond.instanceMethod yX3_cut, Cond.selects RX3 yX3_cut yX3_cut, Cond.code yX3_cut cX3_cut 3 (some .int), Cond.methodLink RX3 108 yX3_cutOf, Cond.instanceMethod yX3_cutOf, Cond.selects RX3 yX3_cutOf yX3_cutOf, Cond.code yX3_cutOf cX3_cutOf 5 (some .int), Cond.methodLink RL 106 yL_isFilled, Cond.static yL_isFilled, Cond.codeWith yL_isFilled cL_isFilled 5 (some .int) [(0, 17, 20, 21), (0, 17, 24, 13)], Cond.methodLink RL 37 yX2_isFilled, Cond.instanceMethod yX2_isFilled, Cond.selects RX2 yX2_isFilled yX2_isFilled, Cond.code yX2_isFilled cX2_isFilled 4 (some .boolean), Cond.methodLink RX2 95 yX1_hasFilled, Cond.instanceMethod yX1_hasFilled, Cond.selects RX1 yX1_hasFilled yX1_hasFilled, Cond.code yX1_hasFilled cX1_hasFilled 2 (some .boolean), Cond.methodLink RL 108 yX3_isFilled, Cond.instanceMethod yX3_isFilled, Cond.selects RX3 yX3_isFilled yX3_isFilled]
def wsL_law0_r11 : List Cond := [Cond.code yX3_isFilled cX3_isFilled 3 (some .boolean), Cond.methodLink RX3 112 yX3_fills, Cond.instanceMethod yX3_fills, Cond.selects RX3 yX3_fills yX3_fills, Cond.code yX3_fills cX3_fills 5 (some .boolean), Cond.methodLink RL 109 yL_pass, Cond.static yL_pass, Cond.codeWith yL_pass cL_pass 4 (some .int) [(0, 9, 12, 13), (0, 9, 15, 15)], Cond.methodLink RL 41 yX2_pass, Cond.instanceMethod yX2_pass, Cond.selects RX2 yX2_pass yX2_pass, Cond.code yX2_pass cX2_pass 4 (some .int), Cond.methodLink RX2 99 yX2_payCurrentWeek, Cond.instanceMethod yX2_payCurrentWeek, Cond.selects RX2 yX2_payCurrentWeek yX2_payCurrentWeek, Cond.code yX2_payCurrentWeek cX2_payCurrentWeek 6 (some .int), Cond.methodLink RX2 137 yX1_payFor, Cond.instanceMethod yX1_payFor, Cond.selects RX1 yX1_payFor yX1_payFor, Cond.code yX1_payFor cX1_payFor 6 (some .int), Cond.methodLink RX1 57 Lib.Math.max.name, Cond.static Lib.Math.max.name, Cond.initialized "java/lang/Math", Cond.code Lib.Math.max.name Lib.Math.max.code 2 (some .int)]
def wsL_law0_r12 : List Cond := [Cond.fieldLink RX1 63 "ShortWork$Worker" "received" "I", Cond.fieldLink RX1 66 "ShortWork$Worker" "cutWeekCount" "I", Cond.methodLink RX1 53 yX1_madeUpPercent, Cond.instanceMethod yX1_madeUpPercent, Cond.selects RX1 yX1_madeUpPercent yX1_madeUpPercent, Cond.code yX1_madeUpPercent cX1_madeUpPercent 3 (some .int), Cond.methodLink RX1 69 yX1_stepPercent, Cond.instanceMethod yX1_stepPercent, Cond.selects RX1 yX1_stepPercent yX1_stepPercent, Cond.code yX1_stepPercent cX1_stepPercent 1 (some .int), Cond.methodLink RX1 73 yX1_hasFilled, Cond.methodLink RL 111 yX3_pass, Cond.instanceMethod yX3_pass, Cond.selects RX3 yX3_pass yX3_pass, Cond.code yX3_pass cX3_pass 5 (some .int), Cond.methodLink RX3 118 yX3_pays, Cond.instanceMethod yX3_pays, Cond.selects RX3 yX3_pays yX3_pays, Cond.code yX3_pays cX3_pays 8 (some .int), Cond.methodLink RX3 115 yX3_percent, Cond.instanceMethod yX3_percent, Cond.selects RX3 yX3_percent yX3_percent, Cond.code yX3_percent cX3_percent 5 (some .int), Cond.methodLink RL 112 yX2_week]
def wsL_law0_r13 : List Cond := [Cond.instanceMethod yX2_week, Cond.selects RX2 yX2_week yX2_week, Cond.code yX2_week cX2_week 1 (some .int), Cond.methodLink RL 115 yX3_week, Cond.instanceMethod yX3_week, Cond.selects RX3 yX3_week yX3_week, Cond.code yX3_week cX3_week 1 (some .int), Cond.methodLink RL 116 yL_paid, Cond.static yL_paid, Cond.codeWith yL_paid cL_paid 5 (some .int) [(0, 10, 13, 21), (0, 10, 17, 13)], Cond.methodLink RL 44 yX2_paid, Cond.instanceMethod yX2_paid, Cond.selects RX2 yX2_paid yX2_paid, Cond.code yX2_paid cX2_paid 4 (some .int), Cond.methodLink RX2 103 yX2_hasPassed, Cond.instanceMethod yX2_hasPassed, Cond.selects RX2 yX2_hasPassed yX2_hasPassed, Cond.code yX2_hasPassed cX2_hasPassed 2 (some .boolean), Cond.methodLink RL 118 yX3_paid, Cond.instanceMethod yX3_paid, Cond.selects RX3 yX3_paid yX3_paid, Cond.code yX3_paid cX3_paid 3 (some .int), Cond.methodLink RX3 121 yX3_isPast, Cond.instanceMethod yX3_isPast]
def wsL_law0_r14 : List Cond := [Cond.selects RX3 yX3_isPast yX3_isPast, Cond.code yX3_isPast cX3_isPast 2 (some .boolean), Cond.methodLink RL 119 yL_madeUp, Cond.static yL_madeUp, Cond.codeWith yL_madeUp cL_madeUp 5 (some .int) [(0, 10, 13, 21), (0, 10, 17, 13)], Cond.methodLink RL 47 yX2_madeUp, Cond.instanceMethod yX2_madeUp, Cond.selects RX2 yX2_madeUp yX2_madeUp, Cond.code yX2_madeUp cX2_madeUp 4 (some .int), Cond.methodLink RL 121 yX3_madeUp, Cond.instanceMethod yX3_madeUp, Cond.selects RX3 yX3_madeUp yX3_madeUp, Cond.code yX3_madeUp cX3_madeUp 3 (some .int), Cond.methodLink RL 122 yL_cutWeeks, Cond.static yL_cutWeeks, Cond.codeWith yL_cutWeeks cL_cutWeeks 4 (some .int) [(0, 9, 12, 21)], Cond.methodLink RL 50 yX2_cutWeeks, Cond.instanceMethod yX2_cutWeeks, Cond.selects RX2 yX2_cutWeeks yX2_cutWeeks, Cond.code yX2_cutWeeks cX2_cutWeeks 2 (some .int), Cond.methodLink RL 124 yX3_cutWeeks, Cond.instanceMethod yX3_cutWeeks, Cond.selects RX3 yX3_cutWeeks yX3_cutWeeks, Cond.code yX3_cutWeeks cX3_cutWeeks 2 (some .int)]
def wsL_law0_r15 : List Cond := [Cond.methodLink RL 125 yL_door, Cond.static yL_door, Cond.codeWith yL_door cL_door 5 (some .int) [(0, 7, 10, 21), (0, 7, 14, 13), (0, 7, 18, 15)], Cond.methodLink RL 53 yX2_door, Cond.instanceMethod yX2_door, Cond.selects RX2 yX2_door yX2_door, Cond.code yX2_door cX2_door 5 none, Cond.methodLink RL 128 yX3_door, Cond.instanceMethod yX3_door, Cond.selects RX3 yX3_door yX3_door, Cond.code yX3_door cX3_door 4 none, Cond.methodLink RL 129 yL_mail, Cond.static yL_mail, Cond.codeWith yL_mail cL_mail 4 (some .int) [(0, 6, 9, 21), (0, 6, 12, 13), (0, 6, 15, 15)], Cond.methodLink RL 57 yX2_mail, Cond.instanceMethod yX2_mail, Cond.selects RX2 yX2_mail yX2_mail, Cond.code yX2_mail cX2_mail 4 none, Cond.methodLink RL 132 yX3_mail, Cond.instanceMethod yX3_mail, Cond.selects RX3 yX3_mail yX3_mail, Cond.code yX3_mail cX3_mail 3 none, Cond.methodLink RL 133 yL_check, Cond.static yL_check]
def wsL_law0_r16 : List Cond := [Cond.codeWith yL_check cL_check 4 (some .int) [(0, 9, 12, 13), (0, 9, 15, 15)], Cond.methodLink RL 61 yX2_check, Cond.instanceMethod yX2_check, Cond.selects RX2 yX2_check yX2_check, Cond.code yX2_check cX2_check 7 (some .int), Cond.methodLink RX2 121 yX1_hasWorkedTooMuch, Cond.instanceMethod yX1_hasWorkedTooMuch, Cond.selects RX1 yX1_hasWorkedTooMuch yX1_hasWorkedTooMuch, Cond.code yX1_hasWorkedTooMuch cX1_hasWorkedTooMuch 3 (some .boolean), Cond.methodLink RX2 124 yX2_chargeBack, Cond.instanceMethod yX2_chargeBack, Cond.selects RX2 yX2_chargeBack yX2_chargeBack, Cond.code yX2_chargeBack cX2_chargeBack 5 none, Cond.fieldLink RX2 128 "ShortWork" "firmDebt" "I", Cond.methodLink RL 135 yX3_check, Cond.instanceMethod yX3_check, Cond.selects RX3 yX3_check yX3_check, Cond.code yX3_check cX3_check 7 (some .int), Cond.fieldLink RX3 124 "ShortWorkModel" "firmOwed" "I", Cond.methodLink RL 136 yX2_firmOwes, Cond.instanceMethod yX2_firmOwes, Cond.selects RX2 yX2_firmOwes yX2_firmOwes, Cond.code yX2_firmOwes cX2_firmOwes 1 (some .int), Cond.methodLink RL 139 yX3_firmOwes]
def wsL_law0_r17 : List Cond := [Cond.instanceMethod yX3_firmOwes, Cond.selects RX3 yX3_firmOwes yX3_firmOwes, Cond.code yX3_firmOwes cX3_firmOwes 1 (some .int), Cond.methodLink RL 140 yL_owes, Cond.static yL_owes, Cond.codeWith yL_owes cL_owes 4 (some .int) [(0, 9, 12, 21)], Cond.methodLink RL 64 yX2_owes, Cond.instanceMethod yX2_owes, Cond.selects RX2 yX2_owes yX2_owes, Cond.code yX2_owes cX2_owes 2 (some .int), Cond.methodLink RL 142 yX3_owes, Cond.instanceMethod yX3_owes, Cond.selects RX3 yX3_owes yX3_owes, Cond.code yX3_owes cX3_owes 2 (some .int), Cond.methodLink RL 143 yL_net, Cond.static yL_net, Cond.codeWith yL_net cL_net 4 (some .int) [(0, 9, 12, 21)], Cond.methodLink RL 67 yX2_net, Cond.instanceMethod yX2_net, Cond.selects RX2 yX2_net yX2_net, Cond.code yX2_net cX2_net 3 (some .int), Cond.methodLink RL 145 yX3_net, Cond.instanceMethod yX3_net, Cond.selects RX3 yX3_net yX3_net]
def wsL_law0_r18 : List Cond := [Cond.code yX3_net cX3_net 4 (some .int)]
def wsL_law0 : List Cond := (wsL_law0_r1 ++ (wsL_law0_r2 ++ (wsL_law0_r3 ++ (wsL_law0_r4 ++ (wsL_law0_r5 ++ (wsL_law0_r6 ++ (wsL_law0_r7 ++ (wsL_law0_r8 ++ (wsL_law0_r9 ++ (wsL_law0_r10 ++ (wsL_law0_r11 ++ (wsL_law0_r12 ++ (wsL_law0_r13 ++ (wsL_law0_r14 ++ (wsL_law0_r15 ++ (wsL_law0_r16 ++ (wsL_law0_r17 ++ wsL_law0_r18))))))))))))))))) ++ wsX20 ++ wsX30 ++ wsX10 ++ wsX00 ++ ([] : List Cond)
def wsL_law : List Cond := wsL_law0 ++ (vx_at0 RX2 146 "java/lang/IllegalArgumentException" ["java/lang/RuntimeException", "java/lang/Exception"]).filter goodWord ++ (vx_at0 RX2 149 "java/lang/IllegalStateException" ["java/lang/RuntimeException", "java/lang/Exception"]).filter goodWord ++ (vx_at0 RX2 143 "java/lang/IndexOutOfBoundsException" ["java/lang/RuntimeException", "java/lang/Exception"]).filter goodWord
abbrev vwCl : List vw_C := [(RX0, TX0, 4), (RX1, TX1, 12), (RX2, TX2, 8), (RX3, TX3, 25)]
end
section
set_option maxRecDepth 20000 in
theorem wsL_law_in0_1 : ∀ w ∈ wsL_law0_r1, w ∈ lw_tbl := fun w h => (goodIn_p wsL_law0_r1 [34, 37, 436] (by decide +kernel) (by decide +kernel) w h).1
set_option maxRecDepth 20000 in
theorem wsL_law_in0_2 : ∀ w ∈ wsL_law0_r2, w ∈ lw_tbl := fun w h => (goodIn_p wsL_law0_r2 [] (by decide +kernel) (by decide +kernel) w h).1
set_option maxRecDepth 20000 in
theorem wsL_law_in0_3 : ∀ w ∈ wsL_law0_r3, w ∈ lw_tbl := fun w h => (goodIn_p wsL_law0_r3 [88, 92, 95, 161] (by decide +kernel) (by decide +kernel) w h).1
set_option maxRecDepth 20000 in
theorem wsL_law_in0_4 : ∀ w ∈ wsL_law0_r4, w ∈ lw_tbl := fun w h => (goodIn_p wsL_law0_r4 [180, 521, 525] (by decide +kernel) (by decide +kernel) w h).1
set_option maxRecDepth 20000 in
theorem wsL_law_in0_5 : ∀ w ∈ wsL_law0_r5, w ∈ lw_tbl := fun w h => (goodIn_p wsL_law0_r5 [529, 533, 517, 235, 239] (by decide +kernel) (by decide +kernel) w h).1
set_option maxRecDepth 20000 in
theorem wsL_law_in0_6 : ∀ w ∈ wsL_law0_r6, w ∈ lw_tbl := fun w h => (goodIn_p wsL_law0_r6 [257, 261, 537, 541] (by decide +kernel) (by decide +kernel) w h).1
set_option maxRecDepth 20000 in
theorem wsL_law_in0_7 : ∀ w ∈ wsL_law0_r7, w ∈ lw_tbl := fun w h => (goodIn_p wsL_law0_r7 [268, 272, 545, 299] (by decide +kernel) (by decide +kernel) w h).1
set_option maxRecDepth 20000 in
theorem wsL_law_in0_8 : ∀ w ∈ wsL_law0_r8, w ∈ lw_tbl := fun w h => (goodIn_p wsL_law0_r8 [303, 307, 311, 549, 553, 557] (by decide +kernel) (by decide +kernel) w h).1
set_option maxRecDepth 20000 in
theorem wsL_law_in0_9 : ∀ w ∈ wsL_law0_r9, w ∈ lw_tbl := fun w h => (goodIn_p wsL_law0_r9 [318, 561, 71, 565] (by decide +kernel) (by decide +kernel) w h).1
end
section
set_option maxRecDepth 20000 in
theorem wsL_law_in0_10 : ∀ w ∈ wsL_law0_r10, w ∈ lw_tbl := fun w h => (goodIn_p wsL_law0_r10 [325, 569, 573, 332, 336] (by decide +kernel) (by decide +kernel) w h).1
set_option maxRecDepth 20000 in
theorem wsL_law_in0_11 : ∀ w ∈ wsL_law0_r11, w ∈ lw_tbl := fun w h => (goodIn_p wsL_law0_r11 [577, 581, 343, 347, 351, 363] (by decide +kernel) (by decide +kernel) w h).1
set_option maxRecDepth 20000 in
theorem wsL_law_in0_12 : ∀ w ∈ wsL_law0_r12, w ∈ lw_tbl := fun w h => (goodIn_p wsL_law0_r12 [355, 359, 585, 589, 593] (by decide +kernel) (by decide +kernel) w h).1
set_option maxRecDepth 20000 in
theorem wsL_law_in0_13 : ∀ w ∈ wsL_law0_r13, w ∈ lw_tbl := fun w h => (goodIn_p wsL_law0_r13 [75, 597, 370, 374, 601] (by decide +kernel) (by decide +kernel) w h).1
set_option maxRecDepth 20000 in
theorem wsL_law_in0_14 : ∀ w ∈ wsL_law0_r14, w ∈ lw_tbl := fun w h => (goodIn_p wsL_law0_r14 [605, 381, 609, 388, 613] (by decide +kernel) (by decide +kernel) w h).1
set_option maxRecDepth 20000 in
theorem wsL_law_in0_15 : ∀ w ∈ wsL_law0_r15, w ∈ lw_tbl := fun w h => (goodIn_p wsL_law0_r15 [395, 617, 402, 621] (by decide +kernel) (by decide +kernel) w h).1
set_option maxRecDepth 20000 in
theorem wsL_law_in0_16 : ∀ w ∈ wsL_law0_r16, w ∈ lw_tbl := fun w h => (goodIn_p wsL_law0_r16 [409, 413, 417, 625, 79] (by decide +kernel) (by decide +kernel) w h).1
set_option maxRecDepth 20000 in
theorem wsL_law_in0_17 : ∀ w ∈ wsL_law0_r17, w ∈ lw_tbl := fun w h => (goodIn_p wsL_law0_r17 [629, 424, 633, 431] (by decide +kernel) (by decide +kernel) w h).1
set_option maxRecDepth 20000 in
theorem wsL_law_in0_18 : ∀ w ∈ wsL_law0_r18, w ∈ lw_tbl := fun w h => (goodIn_p wsL_law0_r18 [637] (by decide +kernel) (by decide +kernel) w h).1
theorem wsL_law_inX0 : ∀ w ∈ wsX00, w ∈ lw_tbl := by decide +kernel
theorem wsL_law_inX1 : ∀ w ∈ wsX10, w ∈ lw_tbl := by decide +kernel
theorem wsL_law_inX2 : ∀ w ∈ wsX20, w ∈ lw_tbl := by decide +kernel
theorem wsL_law_inX3 : ∀ w ∈ wsX30, w ∈ lw_tbl := by decide +kernel
theorem wsL_law_in0 : ∀ w ∈ wsL_law0, w ∈ lw_tbl := by
  intro w h
  rcases List.mem_append.mp h with h | h
  · rcases List.mem_append.mp h with h | h
    · rcases List.mem_append.mp h with h | h
      · rcases List.mem_append.mp h with h | h
        · rcases List.mem_append.mp h with h | h
          · exact (fun h => (List.mem_append.mp h).elim (fun h => wsL_law_in0_1 w h) (fun h => (List.mem_append.mp h).elim (fun h => wsL_law_in0_2 w h) (fun h => (List.mem_append.mp h).elim (fun h => wsL_law_in0_3 w h) (fun h => (List.mem_append.mp h).elim (fun h => wsL_law_in0_4 w h) (fun h => (List.mem_append.mp h).elim (fun h => wsL_law_in0_5 w h) (fun h => (List.mem_append.mp h).elim (fun h => wsL_law_in0_6 w h) (fun h => (List.mem_append.mp h).elim (fun h => wsL_law_in0_7 w h) (fun h => (List.mem_append.mp h).elim (fun h => wsL_law_in0_8 w h) (fun h => (List.mem_append.mp h).elim (fun h => wsL_law_in0_9 w h) (fun h => (List.mem_append.mp h).elim (fun h => wsL_law_in0_10 w h) (fun h => (List.mem_append.mp h).elim (fun h => wsL_law_in0_11 w h) (fun h => (List.mem_append.mp h).elim (fun h => wsL_law_in0_12 w h) (fun h => (List.mem_append.mp h).elim (fun h => wsL_law_in0_13 w h) (fun h => (List.mem_append.mp h).elim (fun h => wsL_law_in0_14 w h) (fun h => (List.mem_append.mp h).elim (fun h => wsL_law_in0_15 w h) (fun h => (List.mem_append.mp h).elim (fun h => wsL_law_in0_16 w h) (fun h => (List.mem_append.mp h).elim (fun h => wsL_law_in0_17 w h) (fun h => wsL_law_in0_18 w h)))))))))))))))))) h
          · exact wsL_law_inX2 w h
        · exact wsL_law_inX3 w h
      · exact wsL_law_inX1 w h
    · exact wsL_law_inX0 w h
  · exact absurd h List.not_mem_nil
end
section
theorem wsL_law_x0 : ∀ w ∈ (vx_at0 RX2 146 "java/lang/IllegalArgumentException" ["java/lang/RuntimeException", "java/lang/Exception"]).filter goodWord, w ∈ lw_tbl := by decide +kernel
theorem wsL_law_x1 : ∀ w ∈ (vx_at0 RX2 149 "java/lang/IllegalStateException" ["java/lang/RuntimeException", "java/lang/Exception"]).filter goodWord, w ∈ lw_tbl := by decide +kernel
theorem wsL_law_x2 : ∀ w ∈ (vx_at0 RX2 143 "java/lang/IndexOutOfBoundsException" ["java/lang/RuntimeException", "java/lang/Exception"]).filter goodWord, w ∈ lw_tbl := by decide +kernel
theorem wsL_law_in : ∀ w ∈ wsL_law, w ∈ lw_tbl := fun w h => (List.mem_append.mp h).elim (fun h => (List.mem_append.mp h).elim (fun h => (List.mem_append.mp h).elim (fun h => wsL_law_in0 w h) (fun h => wsL_law_x0 w h)) (fun h => wsL_law_x1 w h)) (fun h => wsL_law_x2 w h)
theorem inlX0 : ∀ w ∈ wsX00, w ∈ wsL_law := fun _ h => List.mem_append_left _ (List.mem_append_left _ (List.mem_append_left _ (List.mem_append_left _ (List.mem_append_right _ h))))
theorem inX0 : ∀ w ∈ wsX00, w ∈ lw_tbl := fun w h => wsL_law_in w (inlX0 w h)
theorem inlX1 : ∀ w ∈ wsX10, w ∈ wsL_law := fun _ h => List.mem_append_left _ (List.mem_append_left _ (List.mem_append_left _ (List.mem_append_left _ (List.mem_append_left _ (List.mem_append_right _ h)))))
theorem inX1 : ∀ w ∈ wsX10, w ∈ lw_tbl := fun w h => wsL_law_in w (inlX1 w h)
theorem inlX2 : ∀ w ∈ wsX20, w ∈ wsL_law := fun _ h => List.mem_append_left _ (List.mem_append_left _ (List.mem_append_left _ (List.mem_append_left _ (List.mem_append_left _ (List.mem_append_left _ (List.mem_append_left _ (List.mem_append_right _ h)))))))
theorem inX2 : ∀ w ∈ wsX20, w ∈ lw_tbl := fun w h => wsL_law_in w (inlX2 w h)
theorem inlX3 : ∀ w ∈ wsX30, w ∈ wsL_law := fun _ h => List.mem_append_left _ (List.mem_append_left _ (List.mem_append_left _ (List.mem_append_left _ (List.mem_append_left _ (List.mem_append_left _ (List.mem_append_right _ h))))))
theorem inX3 : ∀ w ∈ wsX30, w ∈ lw_tbl := fun w h => wsL_law_in w (inlX3 w h)
theorem inJ9 : ∀ w ∈ wsJ90, w ∈ lw_tbl := by decide +kernel
end
section
set_option maxRecDepth 20000 in
theorem ggX1_payFor_X1_madeUpPercent : GoodIn wsX1_payFor wsX1_madeUpPercent := goodIn_r _ [15, 16, 10, 17, 18, 19, 14, 20, 21, 22, 23, 24, 25, 2, 26, 27, 28, 29, 30, 31, 32, 33, 34, 35, 36, 37] (by decide +kernel) (by decide +kernel)
set_option maxRecDepth 20000 in
theorem gX1_payFor_X1_madeUpPercent : GoodIn wsX1_payFor (wsV RX1 53 RX1 yX1_madeUpPercent wsX1_madeUpPercent) := goodIn_app (goodIn_of _ (by decide +kernel)) ggX1_payFor_X1_madeUpPercent
set_option maxRecDepth 20000 in
theorem ggX1_madeUpPercent_X1_stepPercent : GoodIn wsX1_madeUpPercent wsX1_stepPercent := goodIn_r _ [7, 2, 14, 15, 16, 17, 18, 19, 20, 21, 22, 23, 24, 25] (by decide +kernel) (by decide +kernel)
set_option maxRecDepth 20000 in
theorem gX1_madeUpPercent_X1_stepPercent : GoodIn wsX1_madeUpPercent (wsV RX1 69 RX1 yX1_stepPercent wsX1_stepPercent) := goodIn_app (goodIn_of _ (by decide +kernel)) ggX1_madeUpPercent_X1_stepPercent
set_option maxRecDepth 20000 in
theorem ggX1_madeUpPercent_X1_hasFilled : GoodIn wsX1_madeUpPercent wsX1_hasFilled := goodIn_r _ [11, 12, 13, 14, 15, 16, 17, 18, 19, 20, 21, 22, 23, 24, 25] (by decide +kernel) (by decide +kernel)
set_option maxRecDepth 20000 in
theorem gX1_madeUpPercent_X1_hasFilled : GoodIn wsX1_madeUpPercent (wsV RX1 73 RX1 yX1_hasFilled wsX1_hasFilled) := goodIn_app (goodIn_of _ (by decide +kernel)) ggX1_madeUpPercent_X1_hasFilled
set_option maxRecDepth 20000 in
theorem ggX2_add_X2_isWithin : GoodIn wsX2_add wsX2_isWithin := goodIn_r _ [10] (by decide +kernel) (by decide +kernel)
set_option maxRecDepth 20000 in
theorem gX2_add_X2_isWithin : GoodIn wsX2_add (va_wsS RX2 30 yX2_isWithin wsX2_isWithin) := goodIn_app (goodIn_of _ (by decide +kernel)) ggX2_add_X2_isWithin
set_option maxRecDepth 20000 in
theorem ggX2_add_X2_requireArgument : GoodIn wsX2_add wsX2_requireArgument := goodIn_ca (goodIn_r _ [13, 14, 15] (by decide +kernel) (by decide +kernel)) (goodIn_sub (fun _ h => List.mem_cons_of_mem _ (List.mem_append_left _ (List.mem_append_right _ h))) (by decide +kernel))
set_option maxRecDepth 20000 in
theorem gX2_add_X2_requireArgument : GoodIn wsX2_add (va_wsS RX2 34 yX2_requireArgument wsX2_requireArgument) := goodIn_app (goodIn_of _ (by decide +kernel)) ggX2_add_X2_requireArgument
set_option maxRecDepth 20000 in
theorem ggX2_add_X2_requireState : GoodIn wsX2_add wsX2_requireState := goodIn_ca (goodIn_r _ [18, 19, 20] (by decide +kernel) (by decide +kernel)) (goodIn_sub (fun _ h => List.mem_cons_of_mem _ (List.mem_append_right _ h)) (by decide +kernel))
set_option maxRecDepth 20000 in
theorem gX2_add_X2_requireState : GoodIn wsX2_add (va_wsS RX2 41 yX2_requireState wsX2_requireState) := goodIn_app (goodIn_of _ (by decide +kernel)) ggX2_add_X2_requireState
set_option maxRecDepth 20000 in
theorem ggX2_add_X1_init : GoodIn wsX2_add wsX1_init := goodIn_r _ [23, 24, 25, 26, 27, 28, 29, 30, 31, 32, 33, 34, 35, 36, 45, 46, 47, 48, 49, 50, 51, 52, 53, 54, 55, 56] (by decide +kernel) (by decide +kernel)
set_option maxRecDepth 20000 in
theorem gX2_add_X1_init : GoodIn wsX2_add (wsX1_init) := ggX2_add_X1_init
set_option maxRecDepth 20000 in
theorem ggX2_notice_X2_workerAt : GoodIn wsX2_notice wsX2_workerAt := goodIn_ca (goodIn_r _ [6, 7, 8, 9, 10, 11, 12, 5, 13, 34, 35, 36, 37, 38, 39, 40, 41] (by decide +kernel) (by decide +kernel)) (goodIn_sub (fun _ h => List.mem_cons_of_mem _ (List.mem_append_left _ (List.mem_append_left _ (List.mem_append_right _ h)))) (by decide +kernel))
set_option maxRecDepth 20000 in
theorem gX2_notice_X2_workerAt : GoodIn wsX2_notice (wsV RX2 47 RX2 yX2_workerAt wsX2_workerAt) := goodIn_app (goodIn_of _ (by decide +kernel)) ggX2_notice_X2_workerAt
set_option maxRecDepth 20000 in
theorem ggX2_notice_X2_isSpan : GoodIn wsX2_notice wsX2_isSpan := goodIn_r _ [16, 11, 12, 5, 13] (by decide +kernel) (by decide +kernel)
set_option maxRecDepth 20000 in
theorem gX2_notice_X2_isSpan : GoodIn wsX2_notice (va_wsS RX2 51 yX2_isSpan wsX2_isSpan) := goodIn_app (goodIn_of _ (by decide +kernel)) ggX2_notice_X2_isSpan
set_option maxRecDepth 20000 in
theorem ggX2_notice_X2_isWithin : GoodIn wsX2_notice wsX2_isWithin := goodIn_r _ [13] (by decide +kernel) (by decide +kernel)
set_option maxRecDepth 20000 in
theorem gX2_notice_X2_isWithin : GoodIn wsX2_notice (va_wsS RX2 30 yX2_isWithin wsX2_isWithin) := goodIn_app (goodIn_of _ (by decide +kernel)) ggX2_notice_X2_isWithin
set_option maxRecDepth 20000 in
theorem ggX2_notice_X2_requireArgument : GoodIn wsX2_notice wsX2_requireArgument := goodIn_ca (goodIn_r _ [19, 20, 21] (by decide +kernel) (by decide +kernel)) (goodIn_sub (fun _ h => List.mem_cons_of_mem _ (List.mem_append_left _ (List.mem_append_right _ h))) (by decide +kernel))
set_option maxRecDepth 20000 in
theorem gX2_notice_X2_requireArgument : GoodIn wsX2_notice (va_wsS RX2 34 yX2_requireArgument wsX2_requireArgument) := goodIn_app (goodIn_of _ (by decide +kernel)) ggX2_notice_X2_requireArgument
set_option maxRecDepth 20000 in
theorem ggX2_notice_X2_requireState : GoodIn wsX2_notice wsX2_requireState := goodIn_ca (goodIn_r _ [24, 25, 26] (by decide +kernel) (by decide +kernel)) (goodIn_sub (fun _ h => List.mem_cons_of_mem _ (List.mem_append_right _ h)) (by decide +kernel))
set_option maxRecDepth 20000 in
theorem gX2_notice_X2_requireState : GoodIn wsX2_notice (va_wsS RX2 41 yX2_requireState wsX2_requireState) := goodIn_app (goodIn_of _ (by decide +kernel)) ggX2_notice_X2_requireState
set_option maxRecDepth 20000 in
theorem ggX2_notice_X1_takeNotice : GoodIn wsX2_notice wsX1_takeNotice := goodIn_r _ [31, 32, 33, 42, 43, 44, 45, 46, 47, 48, 49, 50, 51, 52, 53] (by decide +kernel) (by decide +kernel)
set_option maxRecDepth 20000 in
theorem gX2_notice_X1_takeNotice : GoodIn wsX2_notice (wsV RX2 61 RX1 yX1_takeNotice wsX1_takeNotice) := goodIn_app (goodIn_of _ (by decide +kernel)) ggX2_notice_X1_takeNotice
set_option maxRecDepth 20000 in
theorem ggX2_addCourse_X2_isWithin : GoodIn wsX2_addCourse wsX2_isWithin := goodIn_r _ [9] (by decide +kernel) (by decide +kernel)
set_option maxRecDepth 20000 in
theorem gX2_addCourse_X2_isWithin : GoodIn wsX2_addCourse (va_wsS RX2 30 yX2_isWithin wsX2_isWithin) := goodIn_app (goodIn_of _ (by decide +kernel)) ggX2_addCourse_X2_isWithin
set_option maxRecDepth 20000 in
theorem ggX2_addCourse_X2_isSpan : GoodIn wsX2_addCourse wsX2_isSpan := goodIn_r _ [12, 6, 7, 8, 9] (by decide +kernel) (by decide +kernel)
set_option maxRecDepth 20000 in
theorem gX2_addCourse_X2_isSpan : GoodIn wsX2_addCourse (va_wsS RX2 51 yX2_isSpan wsX2_isSpan) := goodIn_app (goodIn_of _ (by decide +kernel)) ggX2_addCourse_X2_isSpan
set_option maxRecDepth 20000 in
theorem ggX2_addCourse_X2_requireArgument : GoodIn wsX2_addCourse wsX2_requireArgument := goodIn_ca (goodIn_r _ [15, 16, 17] (by decide +kernel) (by decide +kernel)) (goodIn_sub (fun _ h => List.mem_cons_of_mem _ (List.mem_append_left _ (List.mem_append_right _ h))) (by decide +kernel))
set_option maxRecDepth 20000 in
theorem gX2_addCourse_X2_requireArgument : GoodIn wsX2_addCourse (va_wsS RX2 34 yX2_requireArgument wsX2_requireArgument) := goodIn_app (goodIn_of _ (by decide +kernel)) ggX2_addCourse_X2_requireArgument
set_option maxRecDepth 20000 in
theorem ggX2_addCourse_X2_requireState : GoodIn wsX2_addCourse wsX2_requireState := goodIn_ca (goodIn_r _ [20, 21, 22] (by decide +kernel) (by decide +kernel)) (goodIn_sub (fun _ h => List.mem_cons_of_mem _ (List.mem_append_right _ h)) (by decide +kernel))
set_option maxRecDepth 20000 in
theorem gX2_addCourse_X2_requireState : GoodIn wsX2_addCourse (va_wsS RX2 41 yX2_requireState wsX2_requireState) := goodIn_app (goodIn_of _ (by decide +kernel)) ggX2_addCourse_X2_requireState
set_option maxRecDepth 20000 in
theorem ggX2_addCourse_X0_init : GoodIn wsX2_addCourse wsX0_init := goodIn_r _ [25, 26, 27, 28, 29, 30, 31, 32, 41, 42, 43, 44] (by decide +kernel) (by decide +kernel)
set_option maxRecDepth 20000 in
theorem gX2_addCourse_X0_init : GoodIn wsX2_addCourse (wsX0_init) := ggX2_addCourse_X0_init
set_option maxRecDepth 20000 in
theorem ggX2_enrol_X2_workerAt : GoodIn wsX2_enrol wsX2_workerAt := goodIn_ca (goodIn_r _ [6, 7, 8, 9, 10, 11, 12, 5, 13, 39, 40, 41, 42, 43, 44, 45, 46] (by decide +kernel) (by decide +kernel)) (goodIn_sub (fun _ h => List.mem_cons_of_mem _ (List.mem_append_left _ (List.mem_append_right _ h))) (by decide +kernel))
set_option maxRecDepth 20000 in
theorem gX2_enrol_X2_workerAt : GoodIn wsX2_enrol (wsV RX2 47 RX2 yX2_workerAt wsX2_workerAt) := goodIn_app (goodIn_of _ (by decide +kernel)) ggX2_enrol_X2_workerAt
set_option maxRecDepth 20000 in
theorem ggX2_enrol_X2_courseAt : GoodIn wsX2_enrol wsX2_courseAt := goodIn_ca (goodIn_r _ [17, 7, 8, 18, 19, 11, 12, 5, 13, 39, 40, 41, 42, 43, 44, 45, 46] (by decide +kernel) (by decide +kernel)) (goodIn_sub (fun _ h => List.mem_cons_of_mem _ (List.mem_append_left _ (List.mem_append_right _ h))) (by decide +kernel))
set_option maxRecDepth 20000 in
theorem gX2_enrol_X2_courseAt : GoodIn wsX2_enrol (wsV RX2 71 RX2 yX2_courseAt wsX2_courseAt) := goodIn_app (goodIn_of _ (by decide +kernel)) ggX2_enrol_X2_courseAt
set_option maxRecDepth 20000 in
theorem ggX2_enrol_X1_hasNoCourseFrom : GoodIn wsX2_enrol wsX1_hasNoCourseFrom := goodIn_r _ [24, 25, 47, 48, 49, 50, 51, 52, 53, 54, 55, 56, 57, 58] (by decide +kernel) (by decide +kernel)
set_option maxRecDepth 20000 in
theorem gX2_enrol_X1_hasNoCourseFrom : GoodIn wsX2_enrol (wsV RX2 84 RX1 yX1_hasNoCourseFrom wsX1_hasNoCourseFrom) := goodIn_app (goodIn_of _ (by decide +kernel)) ggX2_enrol_X1_hasNoCourseFrom
set_option maxRecDepth 20000 in
theorem ggX2_enrol_X2_requireState : GoodIn wsX2_enrol wsX2_requireState := goodIn_ca (goodIn_r _ [28, 29, 30] (by decide +kernel) (by decide +kernel)) (goodIn_sub (fun _ h => List.mem_cons_of_mem _ (List.mem_append_right _ h)) (by decide +kernel))
set_option maxRecDepth 20000 in
theorem gX2_enrol_X2_requireState : GoodIn wsX2_enrol (va_wsS RX2 41 yX2_requireState wsX2_requireState) := goodIn_app (goodIn_of _ (by decide +kernel)) ggX2_enrol_X2_requireState
set_option maxRecDepth 20000 in
theorem ggX2_enrol_X1_goTo : GoodIn wsX2_enrol wsX1_goTo := goodIn_r _ [34, 25, 35, 36, 37, 38, 47, 48, 49, 50, 51, 52, 53, 54, 55, 56, 57, 58] (by decide +kernel) (by decide +kernel)
set_option maxRecDepth 20000 in
theorem gX2_enrol_X1_goTo : GoodIn wsX2_enrol (wsV RX2 87 RX1 yX1_goTo wsX1_goTo) := goodIn_app (goodIn_of _ (by decide +kernel)) ggX2_enrol_X1_goTo
set_option maxRecDepth 20000 in
theorem ggX2_setFloor_X2_isWithin : GoodIn wsX2_setFloor wsX2_isWithin := goodIn_r _ [5] (by decide +kernel) (by decide +kernel)
set_option maxRecDepth 20000 in
theorem gX2_setFloor_X2_isWithin : GoodIn wsX2_setFloor (va_wsS RX2 30 yX2_isWithin wsX2_isWithin) := goodIn_app (goodIn_of _ (by decide +kernel)) ggX2_setFloor_X2_isWithin
set_option maxRecDepth 20000 in
theorem ggX2_setFloor_X2_requireArgument : GoodIn wsX2_setFloor wsX2_requireArgument := goodIn_ca (goodIn_r _ [8, 9, 10] (by decide +kernel) (by decide +kernel)) (goodIn_sub (fun _ h => List.mem_cons_of_mem _ (List.mem_append_right _ h)) (by decide +kernel))
set_option maxRecDepth 20000 in
theorem gX2_setFloor_X2_requireArgument : GoodIn wsX2_setFloor (va_wsS RX2 34 yX2_requireArgument wsX2_requireArgument) := goodIn_app (goodIn_of _ (by decide +kernel)) ggX2_setFloor_X2_requireArgument
set_option maxRecDepth 20000 in
theorem ggX2_cut_X2_workerAt : GoodIn wsX2_cut wsX2_workerAt := goodIn_ca (goodIn_r _ [5, 6, 7, 8, 9, 10, 11, 4, 12, 30, 31, 32, 33, 34, 35, 36, 37] (by decide +kernel) (by decide +kernel)) (goodIn_sub (fun _ h => List.mem_cons_of_mem _ (List.mem_append_left _ (List.mem_append_right _ h))) (by decide +kernel))
set_option maxRecDepth 20000 in
theorem gX2_cut_X2_workerAt : GoodIn wsX2_cut (wsV RX2 47 RX2 yX2_workerAt wsX2_workerAt) := goodIn_app (goodIn_of _ (by decide +kernel)) ggX2_cut_X2_workerAt
set_option maxRecDepth 20000 in
theorem ggX2_cut_X2_isWithin : GoodIn wsX2_cut wsX2_isWithin := goodIn_r _ [12] (by decide +kernel) (by decide +kernel)
set_option maxRecDepth 20000 in
theorem gX2_cut_X2_isWithin : GoodIn wsX2_cut (va_wsS RX2 30 yX2_isWithin wsX2_isWithin) := goodIn_app (goodIn_of _ (by decide +kernel)) ggX2_cut_X2_isWithin
set_option maxRecDepth 20000 in
theorem ggX2_cut_X2_requireArgument : GoodIn wsX2_cut wsX2_requireArgument := goodIn_ca (goodIn_r _ [15, 16, 17] (by decide +kernel) (by decide +kernel)) (goodIn_sub (fun _ h => List.mem_cons_of_mem _ (List.mem_append_right _ h)) (by decide +kernel))
set_option maxRecDepth 20000 in
theorem gX2_cut_X2_requireArgument : GoodIn wsX2_cut (va_wsS RX2 34 yX2_requireArgument wsX2_requireArgument) := goodIn_app (goodIn_of _ (by decide +kernel)) ggX2_cut_X2_requireArgument
set_option maxRecDepth 20000 in
theorem ggX2_isFilled_X2_workerAt : GoodIn wsX2_isFilled wsX2_workerAt := goodIn_ca (goodIn_r _ [5, 6, 7, 8, 9, 10, 11, 4, 12, 25, 26, 27, 28, 29, 30, 31, 32] (by decide +kernel) (by decide +kernel)) (goodIn_sub (fun _ h => List.mem_cons_of_mem _ (List.mem_append_left _ (List.mem_append_right _ h))) (by decide +kernel))
set_option maxRecDepth 20000 in
theorem gX2_isFilled_X2_workerAt : GoodIn wsX2_isFilled (wsV RX2 47 RX2 yX2_workerAt wsX2_workerAt) := goodIn_app (goodIn_of _ (by decide +kernel)) ggX2_isFilled_X2_workerAt
set_option maxRecDepth 20000 in
theorem ggX2_isFilled_X2_isWithin : GoodIn wsX2_isFilled wsX2_isWithin := goodIn_r _ [12] (by decide +kernel) (by decide +kernel)
set_option maxRecDepth 20000 in
theorem gX2_isFilled_X2_isWithin : GoodIn wsX2_isFilled (va_wsS RX2 30 yX2_isWithin wsX2_isWithin) := goodIn_app (goodIn_of _ (by decide +kernel)) ggX2_isFilled_X2_isWithin
set_option maxRecDepth 20000 in
theorem ggX2_isFilled_X2_requireArgument : GoodIn wsX2_isFilled wsX2_requireArgument := goodIn_ca (goodIn_r _ [15, 16, 17] (by decide +kernel) (by decide +kernel)) (goodIn_sub (fun _ h => List.mem_cons_of_mem _ (List.mem_append_right _ h)) (by decide +kernel))
set_option maxRecDepth 20000 in
theorem gX2_isFilled_X2_requireArgument : GoodIn wsX2_isFilled (va_wsS RX2 34 yX2_requireArgument wsX2_requireArgument) := goodIn_app (goodIn_of _ (by decide +kernel)) ggX2_isFilled_X2_requireArgument
set_option maxRecDepth 20000 in
theorem ggX2_isFilled_X1_hasFilled : GoodIn wsX2_isFilled wsX1_hasFilled := goodIn_r _ [22, 23, 24, 33, 34, 35, 36, 37, 38, 39, 40, 41, 42, 43, 44] (by decide +kernel) (by decide +kernel)
set_option maxRecDepth 20000 in
theorem gX2_isFilled_X1_hasFilled : GoodIn wsX2_isFilled (wsV RX2 95 RX1 yX1_hasFilled wsX1_hasFilled) := goodIn_app (goodIn_of _ (by decide +kernel)) ggX2_isFilled_X1_hasFilled
set_option maxRecDepth 20000 in
theorem ggX2_pass_X2_isWithin : GoodIn wsX2_pass wsX2_isWithin := goodIn_r _ [5] (by decide +kernel) (by decide +kernel)
set_option maxRecDepth 20000 in
theorem gX2_pass_X2_isWithin : GoodIn wsX2_pass (va_wsS RX2 30 yX2_isWithin wsX2_isWithin) := goodIn_app (goodIn_of _ (by decide +kernel)) ggX2_pass_X2_isWithin
set_option maxRecDepth 20000 in
theorem ggX2_pass_X2_requireArgument : GoodIn wsX2_pass wsX2_requireArgument := goodIn_ca (goodIn_r _ [8, 9, 10] (by decide +kernel) (by decide +kernel)) (goodIn_sub (fun _ h => List.mem_cons_of_mem _ (List.mem_append_left _ (List.mem_append_right _ h))) (by decide +kernel))
set_option maxRecDepth 20000 in
theorem gX2_pass_X2_requireArgument : GoodIn wsX2_pass (va_wsS RX2 34 yX2_requireArgument wsX2_requireArgument) := goodIn_app (goodIn_of _ (by decide +kernel)) ggX2_pass_X2_requireArgument
set_option maxRecDepth 20000 in
theorem ggX2_pass_X2_requireState : GoodIn wsX2_pass wsX2_requireState := goodIn_ca (goodIn_r _ [13, 14, 15] (by decide +kernel) (by decide +kernel)) (goodIn_sub (fun _ h => List.mem_cons_of_mem _ (List.mem_append_right _ h)) (by decide +kernel))
set_option maxRecDepth 20000 in
theorem gX2_pass_X2_requireState : GoodIn wsX2_pass (va_wsS RX2 41 yX2_requireState wsX2_requireState) := goodIn_app (goodIn_of _ (by decide +kernel)) ggX2_pass_X2_requireState
set_option maxRecDepth 20000 in
theorem ggX2_pass_X2_payCurrentWeek : GoodIn wsX2_pass wsX2_payCurrentWeek := goodIn_r _ [19, 20, 1, 21, 22, 23, 24, 25, 26, 27, 28, 29, 30, 31, 32, 33, 34, 35, 36, 37, 38, 39, 40, 41, 42, 43, 44, 45, 46, 47, 48, 49, 50, 51, 52, 53, 54, 55, 56, 57, 58, 59, 60, 61, 62, 63, 64, 65, 66, 67, 68, 69, 70] (by decide +kernel) (by decide +kernel)
set_option maxRecDepth 20000 in
theorem gX2_pass_X2_payCurrentWeek : GoodIn wsX2_pass (wsV RX2 99 RX2 yX2_payCurrentWeek wsX2_payCurrentWeek) := goodIn_app (goodIn_of _ (by decide +kernel)) ggX2_pass_X2_payCurrentWeek
set_option maxRecDepth 20000 in
theorem ggX2_paid_X2_workerAt : GoodIn wsX2_paid wsX2_workerAt := goodIn_ca (goodIn_r _ [5, 6, 7, 8, 9, 10, 11, 4, 12, 35, 36, 37, 38, 39, 40, 41, 42] (by decide +kernel) (by decide +kernel)) (goodIn_sub (fun _ h => List.mem_cons_of_mem _ (List.mem_append_left _ (List.mem_append_right _ h))) (by decide +kernel))
set_option maxRecDepth 20000 in
theorem gX2_paid_X2_workerAt : GoodIn wsX2_paid (wsV RX2 47 RX2 yX2_workerAt wsX2_workerAt) := goodIn_app (goodIn_of _ (by decide +kernel)) ggX2_paid_X2_workerAt
set_option maxRecDepth 20000 in
theorem ggX2_paid_X2_hasPassed : GoodIn wsX2_paid wsX2_hasPassed := goodIn_r _ [16, 17, 10, 11, 4, 12, 35, 36, 37, 38, 39, 40, 41, 42] (by decide +kernel) (by decide +kernel)
set_option maxRecDepth 20000 in
theorem gX2_paid_X2_hasPassed : GoodIn wsX2_paid (wsV RX2 103 RX2 yX2_hasPassed wsX2_hasPassed) := goodIn_app (goodIn_of _ (by decide +kernel)) ggX2_paid_X2_hasPassed
set_option maxRecDepth 20000 in
theorem ggX2_paid_X2_requireArgument : GoodIn wsX2_paid wsX2_requireArgument := goodIn_ca (goodIn_r _ [20, 21, 22] (by decide +kernel) (by decide +kernel)) (goodIn_sub (fun _ h => List.mem_cons_of_mem _ (List.mem_append_right _ h)) (by decide +kernel))
set_option maxRecDepth 20000 in
theorem gX2_paid_X2_requireArgument : GoodIn wsX2_paid (va_wsS RX2 34 yX2_requireArgument wsX2_requireArgument) := goodIn_app (goodIn_of _ (by decide +kernel)) ggX2_paid_X2_requireArgument
set_option maxRecDepth 20000 in
theorem ggX2_madeUp_X2_workerAt : GoodIn wsX2_madeUp wsX2_workerAt := goodIn_ca (goodIn_r _ [5, 6, 7, 8, 9, 10, 11, 4, 12, 35, 36, 37, 38, 39, 40, 41, 42] (by decide +kernel) (by decide +kernel)) (goodIn_sub (fun _ h => List.mem_cons_of_mem _ (List.mem_append_left _ (List.mem_append_right _ h))) (by decide +kernel))
set_option maxRecDepth 20000 in
theorem gX2_madeUp_X2_workerAt : GoodIn wsX2_madeUp (wsV RX2 47 RX2 yX2_workerAt wsX2_workerAt) := goodIn_app (goodIn_of _ (by decide +kernel)) ggX2_madeUp_X2_workerAt
set_option maxRecDepth 20000 in
theorem ggX2_madeUp_X2_hasPassed : GoodIn wsX2_madeUp wsX2_hasPassed := goodIn_r _ [16, 17, 10, 11, 4, 12, 35, 36, 37, 38, 39, 40, 41, 42] (by decide +kernel) (by decide +kernel)
set_option maxRecDepth 20000 in
theorem gX2_madeUp_X2_hasPassed : GoodIn wsX2_madeUp (wsV RX2 103 RX2 yX2_hasPassed wsX2_hasPassed) := goodIn_app (goodIn_of _ (by decide +kernel)) ggX2_madeUp_X2_hasPassed
set_option maxRecDepth 20000 in
theorem ggX2_madeUp_X2_requireArgument : GoodIn wsX2_madeUp wsX2_requireArgument := goodIn_ca (goodIn_r _ [20, 21, 22] (by decide +kernel) (by decide +kernel)) (goodIn_sub (fun _ h => List.mem_cons_of_mem _ (List.mem_append_right _ h)) (by decide +kernel))
set_option maxRecDepth 20000 in
theorem gX2_madeUp_X2_requireArgument : GoodIn wsX2_madeUp (va_wsS RX2 34 yX2_requireArgument wsX2_requireArgument) := goodIn_app (goodIn_of _ (by decide +kernel)) ggX2_madeUp_X2_requireArgument
set_option maxRecDepth 20000 in
theorem ggX2_cutWeeks_X2_workerAt : GoodIn wsX2_cutWeeks wsX2_workerAt := goodIn_ca (goodIn_r _ [5, 6, 7, 8, 9, 10, 11, 4, 12, 25, 26, 27, 28, 29, 30, 31, 32] (by decide +kernel) (by decide +kernel)) (goodIn_sub (fun _ h => List.mem_cons_of_mem _ (List.mem_append_right _ h)) (by decide +kernel))
set_option maxRecDepth 20000 in
theorem gX2_cutWeeks_X2_workerAt : GoodIn wsX2_cutWeeks (wsV RX2 47 RX2 yX2_workerAt wsX2_workerAt) := goodIn_app (goodIn_of _ (by decide +kernel)) ggX2_cutWeeks_X2_workerAt
set_option maxRecDepth 20000 in
theorem ggX2_door_X2_workerAt : GoodIn wsX2_door wsX2_workerAt := goodIn_ca (goodIn_r _ [6, 7, 8, 9, 10, 11, 12, 5, 13, 29, 30, 31, 32, 33, 34, 35, 36] (by decide +kernel) (by decide +kernel)) (goodIn_sub (fun _ h => List.mem_cons_of_mem _ (List.mem_append_left _ (List.mem_append_left _ (List.mem_append_right _ h)))) (by decide +kernel))
set_option maxRecDepth 20000 in
theorem gX2_door_X2_workerAt : GoodIn wsX2_door (wsV RX2 47 RX2 yX2_workerAt wsX2_workerAt) := goodIn_app (goodIn_of _ (by decide +kernel)) ggX2_door_X2_workerAt
set_option maxRecDepth 20000 in
theorem ggX2_door_X2_hasPassed : GoodIn wsX2_door wsX2_hasPassed := goodIn_r _ [17, 18, 11, 12, 5, 13, 29, 30, 31, 32, 33, 34, 35, 36] (by decide +kernel) (by decide +kernel)
set_option maxRecDepth 20000 in
theorem gX2_door_X2_hasPassed : GoodIn wsX2_door (wsV RX2 103 RX2 yX2_hasPassed wsX2_hasPassed) := goodIn_app (goodIn_of _ (by decide +kernel)) ggX2_door_X2_hasPassed
set_option maxRecDepth 20000 in
theorem ggX2_door_X2_isWithin : GoodIn wsX2_door wsX2_isWithin := goodIn_r _ [13] (by decide +kernel) (by decide +kernel)
set_option maxRecDepth 20000 in
theorem gX2_door_X2_isWithin : GoodIn wsX2_door (va_wsS RX2 30 yX2_isWithin wsX2_isWithin) := goodIn_app (goodIn_of _ (by decide +kernel)) ggX2_door_X2_isWithin
set_option maxRecDepth 20000 in
theorem ggX2_door_X2_requireArgument : GoodIn wsX2_door wsX2_requireArgument := goodIn_ca (goodIn_r _ [21, 22, 23] (by decide +kernel) (by decide +kernel)) (goodIn_sub (fun _ h => List.mem_cons_of_mem _ (List.mem_append_left _ (List.mem_append_right _ h))) (by decide +kernel))
set_option maxRecDepth 20000 in
theorem gX2_door_X2_requireArgument : GoodIn wsX2_door (va_wsS RX2 34 yX2_requireArgument wsX2_requireArgument) := goodIn_app (goodIn_of _ (by decide +kernel)) ggX2_door_X2_requireArgument
set_option maxRecDepth 20000 in
theorem ggX2_door_X2_requireState : GoodIn wsX2_door wsX2_requireState := goodIn_ca (goodIn_r _ [26, 27, 28] (by decide +kernel) (by decide +kernel)) (goodIn_sub (fun _ h => List.mem_cons_of_mem _ (List.mem_append_right _ h)) (by decide +kernel))
set_option maxRecDepth 20000 in
theorem gX2_door_X2_requireState : GoodIn wsX2_door (va_wsS RX2 41 yX2_requireState wsX2_requireState) := goodIn_app (goodIn_of _ (by decide +kernel)) ggX2_door_X2_requireState
set_option maxRecDepth 20000 in
theorem ggX2_mail_X2_workerAt : GoodIn wsX2_mail wsX2_workerAt := goodIn_ca (goodIn_r _ [6, 7, 8, 9, 10, 11, 12, 5, 13, 29, 30, 31, 32, 33, 34, 35, 36] (by decide +kernel) (by decide +kernel)) (goodIn_sub (fun _ h => List.mem_cons_of_mem _ (List.mem_append_left _ (List.mem_append_left _ (List.mem_append_right _ h)))) (by decide +kernel))
set_option maxRecDepth 20000 in
theorem gX2_mail_X2_workerAt : GoodIn wsX2_mail (wsV RX2 47 RX2 yX2_workerAt wsX2_workerAt) := goodIn_app (goodIn_of _ (by decide +kernel)) ggX2_mail_X2_workerAt
set_option maxRecDepth 20000 in
theorem ggX2_mail_X2_hasPassed : GoodIn wsX2_mail wsX2_hasPassed := goodIn_r _ [17, 18, 11, 12, 5, 13, 29, 30, 31, 32, 33, 34, 35, 36] (by decide +kernel) (by decide +kernel)
set_option maxRecDepth 20000 in
theorem gX2_mail_X2_hasPassed : GoodIn wsX2_mail (wsV RX2 103 RX2 yX2_hasPassed wsX2_hasPassed) := goodIn_app (goodIn_of _ (by decide +kernel)) ggX2_mail_X2_hasPassed
set_option maxRecDepth 20000 in
theorem ggX2_mail_X2_requireArgument : GoodIn wsX2_mail wsX2_requireArgument := goodIn_ca (goodIn_r _ [21, 22, 23] (by decide +kernel) (by decide +kernel)) (goodIn_sub (fun _ h => List.mem_cons_of_mem _ (List.mem_append_left _ (List.mem_append_right _ h))) (by decide +kernel))
set_option maxRecDepth 20000 in
theorem gX2_mail_X2_requireArgument : GoodIn wsX2_mail (va_wsS RX2 34 yX2_requireArgument wsX2_requireArgument) := goodIn_app (goodIn_of _ (by decide +kernel)) ggX2_mail_X2_requireArgument
set_option maxRecDepth 20000 in
theorem ggX2_mail_X2_requireState : GoodIn wsX2_mail wsX2_requireState := goodIn_ca (goodIn_r _ [26, 27, 28] (by decide +kernel) (by decide +kernel)) (goodIn_sub (fun _ h => List.mem_cons_of_mem _ (List.mem_append_right _ h)) (by decide +kernel))
set_option maxRecDepth 20000 in
theorem gX2_mail_X2_requireState : GoodIn wsX2_mail (va_wsS RX2 41 yX2_requireState wsX2_requireState) := goodIn_app (goodIn_of _ (by decide +kernel)) ggX2_mail_X2_requireState
set_option maxRecDepth 20000 in
theorem ggX2_check_X2_hasPassed : GoodIn wsX2_check wsX2_hasPassed := goodIn_r _ [7, 8, 9, 10, 6, 11, 35, 36, 37, 38, 39, 40, 41, 42] (by decide +kernel) (by decide +kernel)
set_option maxRecDepth 20000 in
theorem gX2_check_X2_hasPassed : GoodIn wsX2_check (wsV RX2 103 RX2 yX2_hasPassed wsX2_hasPassed) := goodIn_app (goodIn_of _ (by decide +kernel)) ggX2_check_X2_hasPassed
set_option maxRecDepth 20000 in
theorem ggX2_check_X2_requireArgument : GoodIn wsX2_check wsX2_requireArgument := goodIn_ca (goodIn_r _ [14, 15, 16] (by decide +kernel) (by decide +kernel)) (goodIn_sub (fun _ h => List.mem_cons_of_mem _ (List.mem_append_left _ (List.mem_append_right _ h))) (by decide +kernel))
set_option maxRecDepth 20000 in
theorem gX2_check_X2_requireArgument : GoodIn wsX2_check (va_wsS RX2 34 yX2_requireArgument wsX2_requireArgument) := goodIn_app (goodIn_of _ (by decide +kernel)) ggX2_check_X2_requireArgument
set_option maxRecDepth 20000 in
theorem ggX2_check_X2_requireState : GoodIn wsX2_check wsX2_requireState := goodIn_ca (goodIn_r _ [19, 20, 21] (by decide +kernel) (by decide +kernel)) (goodIn_sub (fun _ h => List.mem_cons_of_mem _ (List.mem_append_right _ h)) (by decide +kernel))
set_option maxRecDepth 20000 in
theorem gX2_check_X2_requireState : GoodIn wsX2_check (va_wsS RX2 41 yX2_requireState wsX2_requireState) := goodIn_app (goodIn_of _ (by decide +kernel)) ggX2_check_X2_requireState
set_option maxRecDepth 20000 in
theorem ggX2_check_X1_hasWorkedTooMuch : GoodIn wsX2_check wsX1_hasWorkedTooMuch := goodIn_r _ [26, 27, 28, 29, 43, 44, 45, 46, 47, 48, 49, 50, 51, 52, 53, 54] (by decide +kernel) (by decide +kernel)
set_option maxRecDepth 20000 in
theorem gX2_check_X1_hasWorkedTooMuch : GoodIn wsX2_check (wsV RX2 121 RX1 yX1_hasWorkedTooMuch wsX1_hasWorkedTooMuch) := goodIn_app (goodIn_of _ (by decide +kernel)) ggX2_check_X1_hasWorkedTooMuch
set_option maxRecDepth 20000 in
theorem ggX2_check_X2_chargeBack : GoodIn wsX2_check wsX2_chargeBack := goodIn_r _ [33, 34, 43, 44, 45, 46, 47, 48, 49, 50, 51, 52, 53, 54, 35, 36, 37, 38, 39, 40, 41, 42] (by decide +kernel) (by decide +kernel)
set_option maxRecDepth 20000 in
theorem gX2_check_X2_chargeBack : GoodIn wsX2_check (wsV RX2 124 RX2 yX2_chargeBack wsX2_chargeBack) := goodIn_app (goodIn_of _ (by decide +kernel)) ggX2_check_X2_chargeBack
set_option maxRecDepth 20000 in
theorem ggX2_owes_X2_workerAt : GoodIn wsX2_owes wsX2_workerAt := goodIn_ca (goodIn_r _ [5, 6, 7, 8, 9, 10, 11, 4, 12, 25, 26, 27, 28, 29, 30, 31, 32] (by decide +kernel) (by decide +kernel)) (goodIn_sub (fun _ h => List.mem_cons_of_mem _ (List.mem_append_right _ h)) (by decide +kernel))
set_option maxRecDepth 20000 in
theorem gX2_owes_X2_workerAt : GoodIn wsX2_owes (wsV RX2 47 RX2 yX2_workerAt wsX2_workerAt) := goodIn_app (goodIn_of _ (by decide +kernel)) ggX2_owes_X2_workerAt
set_option maxRecDepth 20000 in
theorem ggX2_net_X2_workerAt : GoodIn wsX2_net wsX2_workerAt := goodIn_ca (goodIn_r _ [5, 6, 7, 8, 9, 10, 11, 4, 12, 25, 26, 27, 28, 29, 30, 31, 32] (by decide +kernel) (by decide +kernel)) (goodIn_sub (fun _ h => List.mem_cons_of_mem _ (List.mem_append_right _ h)) (by decide +kernel))
set_option maxRecDepth 20000 in
theorem gX2_net_X2_workerAt : GoodIn wsX2_net (wsV RX2 47 RX2 yX2_workerAt wsX2_workerAt) := goodIn_app (goodIn_of _ (by decide +kernel)) ggX2_net_X2_workerAt
set_option maxRecDepth 20000 in
theorem ggX2_payCurrentWeek_X1_payFor : GoodIn wsX2_payCurrentWeek wsX1_payFor := goodIn_r _ [8, 9, 10, 11, 12, 13, 14, 15, 16, 17, 18, 19, 20, 21, 7, 22, 23, 24, 25, 26, 27, 28, 29, 30, 31, 32, 41, 42, 43, 44, 45, 46, 47, 48, 49, 50, 51, 52] (by decide +kernel) (by decide +kernel)
set_option maxRecDepth 20000 in
theorem gX2_payCurrentWeek_X1_payFor : GoodIn wsX2_payCurrentWeek (wsV RX2 137 RX1 yX1_payFor wsX1_payFor) := goodIn_app (goodIn_of _ (by decide +kernel)) ggX2_payCurrentWeek_X1_payFor
set_option maxRecDepth 20000 in
theorem ggX2_workerAt_X2_isWithin : GoodIn wsX2_workerAt wsX2_isWithin := goodIn_r _ [8] (by decide +kernel) (by decide +kernel)
set_option maxRecDepth 20000 in
theorem gX2_workerAt_X2_isWithin : GoodIn wsX2_workerAt (va_wsS RX2 30 yX2_isWithin wsX2_isWithin) := goodIn_app (goodIn_of _ (by decide +kernel)) ggX2_workerAt_X2_isWithin
set_option maxRecDepth 20000 in
theorem ggX2_courseAt_X2_isWithin : GoodIn wsX2_courseAt wsX2_isWithin := goodIn_r _ [8] (by decide +kernel) (by decide +kernel)
set_option maxRecDepth 20000 in
theorem gX2_courseAt_X2_isWithin : GoodIn wsX2_courseAt (va_wsS RX2 30 yX2_isWithin wsX2_isWithin) := goodIn_app (goodIn_of _ (by decide +kernel)) ggX2_courseAt_X2_isWithin
set_option maxRecDepth 20000 in
theorem ggX2_hasPassed_X2_isWithin : GoodIn wsX2_hasPassed wsX2_isWithin := goodIn_r _ [5] (by decide +kernel) (by decide +kernel)
set_option maxRecDepth 20000 in
theorem gX2_hasPassed_X2_isWithin : GoodIn wsX2_hasPassed (va_wsS RX2 30 yX2_isWithin wsX2_isWithin) := goodIn_app (goodIn_of _ (by decide +kernel)) ggX2_hasPassed_X2_isWithin
set_option maxRecDepth 20000 in
theorem ggX2_isSpan_X2_isWithin : GoodIn wsX2_isSpan wsX2_isWithin := goodIn_r _ [4] (by decide +kernel) (by decide +kernel)
set_option maxRecDepth 20000 in
theorem gX2_isSpan_X2_isWithin : GoodIn wsX2_isSpan (va_wsS RX2 30 yX2_isWithin wsX2_isWithin) := goodIn_app (goodIn_of _ (by decide +kernel)) ggX2_isSpan_X2_isWithin
end
section
set_option maxRecDepth 20000 in
theorem ggX3_add_X3_in : GoodIn wsX3_add wsX3_in := goodIn_r _ [8] (by decide +kernel) (by decide +kernel)
set_option maxRecDepth 20000 in
theorem gX3_add_X3_in : GoodIn wsX3_add (va_wsS RX3 82 yX3_in wsX3_in) := goodIn_app (goodIn_of _ (by decide +kernel)) ggX3_add_X3_in
set_option maxRecDepth 20000 in
theorem ggX3_add_X3_asks : GoodIn wsX3_add wsX3_asks := goodIn_r _ [12, 13, 18, 19, 20, 21, 22, 23, 24, 25, 26, 27, 28, 29, 30, 31, 32, 33, 34, 35, 36, 37, 38, 39, 40, 41, 42] (by decide +kernel) (by decide +kernel)
set_option maxRecDepth 20000 in
theorem gX3_add_X3_asks : GoodIn wsX3_add (wsV RX3 86 RX3 yX3_asks wsX3_asks) := goodIn_app (goodIn_of _ (by decide +kernel)) ggX3_add_X3_asks
set_option maxRecDepth 20000 in
theorem ggX3_add_X3_fails : GoodIn wsX3_add wsX3_fails := goodIn_r _ [17, 13, 18, 19, 20, 21, 22, 23, 24, 25, 26, 27, 28, 29, 30, 31, 32, 33, 34, 35, 36, 37, 38, 39, 40, 41, 42] (by decide +kernel) (by decide +kernel)
set_option maxRecDepth 20000 in
theorem gX3_add_X3_fails : GoodIn wsX3_add (wsV RX3 90 RX3 yX3_fails wsX3_fails) := goodIn_app (goodIn_of _ (by decide +kernel)) ggX3_add_X3_fails
set_option maxRecDepth 20000 in
theorem ggX3_notice_X3_isWorker : GoodIn wsX3_notice wsX3_isWorker := goodIn_r _ [10, 11, 24, 25, 26, 27, 28, 29, 30, 31, 32, 33, 34, 35, 36, 37, 38, 39, 40, 41, 42, 43, 44, 45, 46, 47, 48] (by decide +kernel) (by decide +kernel)
set_option maxRecDepth 20000 in
theorem gX3_notice_X3_isWorker : GoodIn wsX3_notice (wsV RX3 94 RX3 yX3_isWorker wsX3_isWorker) := goodIn_app (goodIn_of _ (by decide +kernel)) ggX3_notice_X3_isWorker
set_option maxRecDepth 20000 in
theorem ggX3_notice_X3_asks : GoodIn wsX3_notice wsX3_asks := goodIn_r _ [15, 16, 24, 25, 26, 27, 28, 29, 30, 31, 32, 33, 34, 35, 36, 37, 38, 39, 40, 41, 42, 43, 44, 45, 46, 47, 48] (by decide +kernel) (by decide +kernel)
set_option maxRecDepth 20000 in
theorem gX3_notice_X3_asks : GoodIn wsX3_notice (wsV RX3 86 RX3 yX3_asks wsX3_asks) := goodIn_app (goodIn_of _ (by decide +kernel)) ggX3_notice_X3_asks
set_option maxRecDepth 20000 in
theorem ggX3_notice_X3_in : GoodIn wsX3_notice wsX3_in := goodIn_r _ [19] (by decide +kernel) (by decide +kernel)
set_option maxRecDepth 20000 in
theorem gX3_notice_X3_in : GoodIn wsX3_notice (va_wsS RX3 82 yX3_in wsX3_in) := goodIn_app (goodIn_of _ (by decide +kernel)) ggX3_notice_X3_in
set_option maxRecDepth 20000 in
theorem ggX3_notice_X3_fails : GoodIn wsX3_notice wsX3_fails := goodIn_r _ [23, 16, 24, 25, 26, 27, 28, 29, 30, 31, 32, 33, 34, 35, 36, 37, 38, 39, 40, 41, 42, 43, 44, 45, 46, 47, 48] (by decide +kernel) (by decide +kernel)
set_option maxRecDepth 20000 in
theorem gX3_notice_X3_fails : GoodIn wsX3_notice (wsV RX3 90 RX3 yX3_fails wsX3_fails) := goodIn_app (goodIn_of _ (by decide +kernel)) ggX3_notice_X3_fails
set_option maxRecDepth 20000 in
theorem ggX3_addCourse_X3_in : GoodIn wsX3_addCourse wsX3_in := goodIn_r _ [9] (by decide +kernel) (by decide +kernel)
set_option maxRecDepth 20000 in
theorem gX3_addCourse_X3_in : GoodIn wsX3_addCourse (va_wsS RX3 82 yX3_in wsX3_in) := goodIn_app (goodIn_of _ (by decide +kernel)) ggX3_addCourse_X3_in
set_option maxRecDepth 20000 in
theorem ggX3_addCourse_X3_asks : GoodIn wsX3_addCourse wsX3_asks := goodIn_r _ [13, 14, 19, 20, 21, 22, 23, 24, 25, 26, 27, 28, 29, 30, 31, 32, 33, 34, 35, 36, 37, 38, 39, 40, 41, 42, 43] (by decide +kernel) (by decide +kernel)
set_option maxRecDepth 20000 in
theorem gX3_addCourse_X3_asks : GoodIn wsX3_addCourse (wsV RX3 86 RX3 yX3_asks wsX3_asks) := goodIn_app (goodIn_of _ (by decide +kernel)) ggX3_addCourse_X3_asks
set_option maxRecDepth 20000 in
theorem ggX3_addCourse_X3_fails : GoodIn wsX3_addCourse wsX3_fails := goodIn_r _ [18, 14, 19, 20, 21, 22, 23, 24, 25, 26, 27, 28, 29, 30, 31, 32, 33, 34, 35, 36, 37, 38, 39, 40, 41, 42, 43] (by decide +kernel) (by decide +kernel)
set_option maxRecDepth 20000 in
theorem gX3_addCourse_X3_fails : GoodIn wsX3_addCourse (wsV RX3 90 RX3 yX3_fails wsX3_fails) := goodIn_app (goodIn_of _ (by decide +kernel)) ggX3_addCourse_X3_fails
set_option maxRecDepth 20000 in
theorem ggX3_enrol_X3_isWorker : GoodIn wsX3_enrol wsX3_isWorker := goodIn_r _ [9, 10, 30, 31, 32, 33, 34, 35, 36, 37, 38, 39, 40, 41, 42, 43, 44, 45, 46, 47, 48, 49, 50, 51, 52, 53, 54] (by decide +kernel) (by decide +kernel)
set_option maxRecDepth 20000 in
theorem gX3_enrol_X3_isWorker : GoodIn wsX3_enrol (wsV RX3 94 RX3 yX3_isWorker wsX3_isWorker) := goodIn_app (goodIn_of _ (by decide +kernel)) ggX3_enrol_X3_isWorker
set_option maxRecDepth 20000 in
theorem ggX3_enrol_X3_isCourse : GoodIn wsX3_enrol wsX3_isCourse := goodIn_r _ [14, 15, 30, 31, 32, 33, 34, 35, 36, 37, 38, 39, 40, 41, 42, 43, 44, 45, 46, 47, 48, 49, 50, 51, 52, 53, 54] (by decide +kernel) (by decide +kernel)
set_option maxRecDepth 20000 in
theorem gX3_enrol_X3_isCourse : GoodIn wsX3_enrol (wsV RX3 101 RX3 yX3_isCourse wsX3_isCourse) := goodIn_app (goodIn_of _ (by decide +kernel)) ggX3_enrol_X3_isCourse
set_option maxRecDepth 20000 in
theorem ggX3_enrol_X3_asks : GoodIn wsX3_enrol wsX3_asks := goodIn_r _ [19, 20, 30, 31, 32, 33, 34, 35, 36, 37, 38, 39, 40, 41, 42, 43, 44, 45, 46, 47, 48, 49, 50, 51, 52, 53, 54] (by decide +kernel) (by decide +kernel)
set_option maxRecDepth 20000 in
theorem gX3_enrol_X3_asks : GoodIn wsX3_enrol (wsV RX3 86 RX3 yX3_asks wsX3_asks) := goodIn_app (goodIn_of _ (by decide +kernel)) ggX3_enrol_X3_asks
set_option maxRecDepth 20000 in
theorem ggX3_enrol_X3_meets : GoodIn wsX3_enrol wsX3_meets := goodIn_r _ [24, 15, 4, 25, 2, 30, 31, 32, 33, 34, 35, 36, 37, 38, 39, 40, 41, 42, 43, 44, 45, 46, 47, 48, 49, 50, 51, 52, 53, 54] (by decide +kernel) (by decide +kernel)
set_option maxRecDepth 20000 in
theorem gX3_enrol_X3_meets : GoodIn wsX3_enrol (wsV RX3 104 RX3 yX3_meets wsX3_meets) := goodIn_app (goodIn_of _ (by decide +kernel)) ggX3_enrol_X3_meets
set_option maxRecDepth 20000 in
theorem ggX3_enrol_X3_fails : GoodIn wsX3_enrol wsX3_fails := goodIn_r _ [29, 20, 30, 31, 32, 33, 34, 35, 36, 37, 38, 39, 40, 41, 42, 43, 44, 45, 46, 47, 48, 49, 50, 51, 52, 53, 54] (by decide +kernel) (by decide +kernel)
set_option maxRecDepth 20000 in
theorem gX3_enrol_X3_fails : GoodIn wsX3_enrol (wsV RX3 90 RX3 yX3_fails wsX3_fails) := goodIn_app (goodIn_of _ (by decide +kernel)) ggX3_enrol_X3_fails
set_option maxRecDepth 20000 in
theorem ggX3_setFloor_X3_in : GoodIn wsX3_setFloor wsX3_in := goodIn_r _ [5] (by decide +kernel) (by decide +kernel)
set_option maxRecDepth 20000 in
theorem gX3_setFloor_X3_in : GoodIn wsX3_setFloor (va_wsS RX3 82 yX3_in wsX3_in) := goodIn_app (goodIn_of _ (by decide +kernel)) ggX3_setFloor_X3_in
set_option maxRecDepth 20000 in
theorem ggX3_setFloor_X3_asks : GoodIn wsX3_setFloor wsX3_asks := goodIn_r _ [9, 10, 11, 12, 13, 14, 15, 16, 17, 18, 19, 20, 21, 22, 23, 24, 25, 26, 27, 28, 29, 30, 31, 32, 33, 34, 35] (by decide +kernel) (by decide +kernel)
set_option maxRecDepth 20000 in
theorem gX3_setFloor_X3_asks : GoodIn wsX3_setFloor (wsV RX3 86 RX3 yX3_asks wsX3_asks) := goodIn_app (goodIn_of _ (by decide +kernel)) ggX3_setFloor_X3_asks
set_option maxRecDepth 20000 in
theorem ggX3_cut_X3_isWorker : GoodIn wsX3_cut wsX3_isWorker := goodIn_r _ [5, 6, 27, 28, 29, 30, 31, 32, 33, 34, 35, 36, 37, 38, 39, 40, 41, 42, 43, 44, 45, 46, 47, 48, 49, 50, 51] (by decide +kernel) (by decide +kernel)
set_option maxRecDepth 20000 in
theorem gX3_cut_X3_isWorker : GoodIn wsX3_cut (wsV RX3 94 RX3 yX3_isWorker wsX3_isWorker) := goodIn_app (goodIn_of _ (by decide +kernel)) ggX3_cut_X3_isWorker
set_option maxRecDepth 20000 in
theorem ggX3_cut_X3_asks : GoodIn wsX3_cut wsX3_asks := goodIn_r _ [10, 11, 27, 28, 29, 30, 31, 32, 33, 34, 35, 36, 37, 38, 39, 40, 41, 42, 43, 44, 45, 46, 47, 48, 49, 50, 51] (by decide +kernel) (by decide +kernel)
set_option maxRecDepth 20000 in
theorem gX3_cut_X3_asks : GoodIn wsX3_cut (wsV RX3 86 RX3 yX3_asks wsX3_asks) := goodIn_app (goodIn_of _ (by decide +kernel)) ggX3_cut_X3_asks
set_option maxRecDepth 20000 in
theorem ggX3_cut_X3_in : GoodIn wsX3_cut wsX3_in := goodIn_r _ [14] (by decide +kernel) (by decide +kernel)
set_option maxRecDepth 20000 in
theorem gX3_cut_X3_in : GoodIn wsX3_cut (va_wsS RX3 82 yX3_in wsX3_in) := goodIn_app (goodIn_of _ (by decide +kernel)) ggX3_cut_X3_in
set_option maxRecDepth 20000 in
theorem ggX3_cut_X3_cutOf : GoodIn wsX3_cut wsX3_cutOf := goodIn_r _ [18, 19, 20, 21, 22, 27, 28, 29, 30, 31, 32, 33, 34, 35, 36, 37, 38, 39, 40, 41, 42, 43, 44, 45, 46, 47, 48, 49, 50, 51] (by decide +kernel) (by decide +kernel)
set_option maxRecDepth 20000 in
theorem gX3_cut_X3_cutOf : GoodIn wsX3_cut (wsV RX3 108 RX3 yX3_cutOf wsX3_cutOf) := goodIn_app (goodIn_of _ (by decide +kernel)) ggX3_cut_X3_cutOf
set_option maxRecDepth 20000 in
theorem ggX3_cut_X3_fails : GoodIn wsX3_cut wsX3_fails := goodIn_r _ [26, 11, 27, 28, 29, 30, 31, 32, 33, 34, 35, 36, 37, 38, 39, 40, 41, 42, 43, 44, 45, 46, 47, 48, 49, 50, 51] (by decide +kernel) (by decide +kernel)
set_option maxRecDepth 20000 in
theorem gX3_cut_X3_fails : GoodIn wsX3_cut (wsV RX3 90 RX3 yX3_fails wsX3_fails) := goodIn_app (goodIn_of _ (by decide +kernel)) ggX3_cut_X3_fails
set_option maxRecDepth 20000 in
theorem ggX3_fills_X3_cutOf : GoodIn wsX3_fills wsX3_cutOf := goodIn_r _ [10, 11, 12, 13, 14, 15, 16, 17, 18, 19, 20, 21, 22, 23, 24, 25, 26, 27, 28, 29, 30, 31, 32, 33, 34, 35, 36, 37, 38, 39] (by decide +kernel) (by decide +kernel)
set_option maxRecDepth 20000 in
theorem gX3_fills_X3_cutOf : GoodIn wsX3_fills (wsV RX3 108 RX3 yX3_cutOf wsX3_cutOf) := goodIn_app (goodIn_of _ (by decide +kernel)) ggX3_fills_X3_cutOf
set_option maxRecDepth 20000 in
theorem ggX3_isFilled_X3_isWorker : GoodIn wsX3_isFilled wsX3_isWorker := goodIn_r _ [5, 6, 36, 37, 38, 39, 40, 41, 42, 43, 44, 45, 46, 47, 48, 49, 50, 51, 52, 53, 54, 55, 56, 57, 58, 59, 60] (by decide +kernel) (by decide +kernel)
set_option maxRecDepth 20000 in
theorem gX3_isFilled_X3_isWorker : GoodIn wsX3_isFilled (wsV RX3 94 RX3 yX3_isWorker wsX3_isWorker) := goodIn_app (goodIn_of _ (by decide +kernel)) ggX3_isFilled_X3_isWorker
set_option maxRecDepth 20000 in
theorem ggX3_isFilled_X3_asks : GoodIn wsX3_isFilled wsX3_asks := goodIn_r _ [10, 11, 36, 37, 38, 39, 40, 41, 42, 43, 44, 45, 46, 47, 48, 49, 50, 51, 52, 53, 54, 55, 56, 57, 58, 59, 60] (by decide +kernel) (by decide +kernel)
set_option maxRecDepth 20000 in
theorem gX3_isFilled_X3_asks : GoodIn wsX3_isFilled (wsV RX3 86 RX3 yX3_asks wsX3_asks) := goodIn_app (goodIn_of _ (by decide +kernel)) ggX3_isFilled_X3_asks
set_option maxRecDepth 20000 in
theorem ggX3_isFilled_X3_in : GoodIn wsX3_isFilled wsX3_in := goodIn_r _ [14] (by decide +kernel) (by decide +kernel)
set_option maxRecDepth 20000 in
theorem gX3_isFilled_X3_in : GoodIn wsX3_isFilled (va_wsS RX3 82 yX3_in wsX3_in) := goodIn_app (goodIn_of _ (by decide +kernel)) ggX3_isFilled_X3_in
set_option maxRecDepth 20000 in
theorem ggX3_isFilled_X3_fails : GoodIn wsX3_isFilled wsX3_fails := goodIn_r _ [18, 11, 36, 37, 38, 39, 40, 41, 42, 43, 44, 45, 46, 47, 48, 49, 50, 51, 52, 53, 54, 55, 56, 57, 58, 59, 60] (by decide +kernel) (by decide +kernel)
set_option maxRecDepth 20000 in
theorem gX3_isFilled_X3_fails : GoodIn wsX3_isFilled (wsV RX3 90 RX3 yX3_fails wsX3_fails) := goodIn_app (goodIn_of _ (by decide +kernel)) ggX3_isFilled_X3_fails
set_option maxRecDepth 20000 in
theorem ggX3_isFilled_X3_fills : GoodIn wsX3_isFilled wsX3_fills := goodIn_r _ [22, 23, 24, 25, 26, 27, 28, 29, 30, 4, 31, 32, 33, 34, 35, 36, 37, 38, 39, 40, 41, 42, 43, 44, 45, 46, 47, 48, 49, 50, 51, 52, 53, 54, 55, 56, 57, 58, 59, 60] (by decide +kernel) (by decide +kernel)
set_option maxRecDepth 20000 in
theorem gX3_isFilled_X3_fills : GoodIn wsX3_isFilled (wsV RX3 112 RX3 yX3_fills wsX3_fills) := goodIn_app (goodIn_of _ (by decide +kernel)) ggX3_isFilled_X3_fills
set_option maxRecDepth 20000 in
theorem ggX3_percent_X3_fills : GoodIn wsX3_percent wsX3_fills := goodIn_r _ [8, 9, 10, 11, 12, 13, 14, 15, 16, 7, 17, 18, 19, 20, 21, 22, 23, 24, 25, 26, 27, 28, 29, 30, 31, 32, 33, 34, 35, 36, 37, 38, 39, 40, 41, 42, 43, 44, 45, 46] (by decide +kernel) (by decide +kernel)
set_option maxRecDepth 20000 in
theorem gX3_percent_X3_fills : GoodIn wsX3_percent (wsV RX3 112 RX3 yX3_fills wsX3_fills) := goodIn_app (goodIn_of _ (by decide +kernel)) ggX3_percent_X3_fills
set_option maxRecDepth 20000 in
theorem ggX3_pays_X3_cutOf : GoodIn wsX3_pays wsX3_cutOf := goodIn_r _ [12, 13, 14, 15, 16, 31, 32, 33, 34, 35, 36, 37, 38, 39, 40, 41, 42, 43, 44, 45, 46, 47, 48, 49, 50, 51, 52, 53, 54, 55] (by decide +kernel) (by decide +kernel)
set_option maxRecDepth 20000 in
theorem gX3_pays_X3_cutOf : GoodIn wsX3_pays (wsV RX3 108 RX3 yX3_cutOf wsX3_cutOf) := goodIn_app (goodIn_of _ (by decide +kernel)) ggX3_pays_X3_cutOf
set_option maxRecDepth 20000 in
theorem ggX3_pays_X3_percent : GoodIn wsX3_pays wsX3_percent := goodIn_r _ [20, 1, 7, 21, 22, 23, 24, 11, 25, 26, 27, 28, 29, 30, 8, 9, 10, 12, 13, 14, 15, 16, 31, 32, 33, 34, 35, 36, 37, 38, 39, 40, 41, 42, 43, 44, 45, 46, 47, 48, 49, 50, 51, 52, 53, 54, 55] (by decide +kernel) (by decide +kernel)
set_option maxRecDepth 20000 in
theorem gX3_pays_X3_percent : GoodIn wsX3_pays (wsV RX3 115 RX3 yX3_percent wsX3_percent) := goodIn_app (goodIn_of _ (by decide +kernel)) ggX3_pays_X3_percent
set_option maxRecDepth 20000 in
theorem ggX3_pass_X3_in : GoodIn wsX3_pass wsX3_in := goodIn_r _ [6] (by decide +kernel) (by decide +kernel)
set_option maxRecDepth 20000 in
theorem gX3_pass_X3_in : GoodIn wsX3_pass (va_wsS RX3 82 yX3_in wsX3_in) := goodIn_app (goodIn_of _ (by decide +kernel)) ggX3_pass_X3_in
set_option maxRecDepth 20000 in
theorem ggX3_pass_X3_asks : GoodIn wsX3_pass wsX3_asks := goodIn_r _ [10, 11, 48, 49, 50, 51, 52, 53, 54, 55, 56, 57, 58, 59, 60, 61, 62, 63, 64, 65, 66, 67, 68, 69, 70, 71, 72] (by decide +kernel) (by decide +kernel)
set_option maxRecDepth 20000 in
theorem gX3_pass_X3_asks : GoodIn wsX3_pass (wsV RX3 86 RX3 yX3_asks wsX3_asks) := goodIn_app (goodIn_of _ (by decide +kernel)) ggX3_pass_X3_asks
set_option maxRecDepth 20000 in
theorem ggX3_pass_X3_fails : GoodIn wsX3_pass wsX3_fails := goodIn_r _ [15, 11, 48, 49, 50, 51, 52, 53, 54, 55, 56, 57, 58, 59, 60, 61, 62, 63, 64, 65, 66, 67, 68, 69, 70, 71, 72] (by decide +kernel) (by decide +kernel)
set_option maxRecDepth 20000 in
theorem gX3_pass_X3_fails : GoodIn wsX3_pass (wsV RX3 90 RX3 yX3_fails wsX3_fails) := goodIn_app (goodIn_of _ (by decide +kernel)) ggX3_pass_X3_fails
set_option maxRecDepth 20000 in
theorem ggX3_pass_X3_pays : GoodIn wsX3_pass wsX3_pays := goodIn_r _ [19, 1, 20, 21, 22, 23, 24, 25, 26, 27, 28, 5, 29, 30, 31, 32, 33, 34, 35, 36, 37, 38, 39, 40, 41, 42, 43, 44, 45, 46, 47, 48, 49, 50, 51, 52, 53, 54, 55, 56, 57, 58, 59, 60, 61, 62, 63, 64, 65, 66, 67, 68, 69, 70, 71, 72] (by decide +kernel) (by decide +kernel)
set_option maxRecDepth 20000 in
theorem gX3_pass_X3_pays : GoodIn wsX3_pass (wsV RX3 118 RX3 yX3_pays wsX3_pays) := goodIn_app (goodIn_of _ (by decide +kernel)) ggX3_pass_X3_pays
set_option maxRecDepth 20000 in
theorem ggX3_paid_X3_isWorker : GoodIn wsX3_paid wsX3_isWorker := goodIn_r _ [6, 7, 22, 23, 24, 25, 26, 27, 28, 29, 30, 31, 32, 33, 34, 35, 36, 37, 38, 39, 40, 41, 42, 43, 44, 45, 46] (by decide +kernel) (by decide +kernel)
set_option maxRecDepth 20000 in
theorem gX3_paid_X3_isWorker : GoodIn wsX3_paid (wsV RX3 94 RX3 yX3_isWorker wsX3_isWorker) := goodIn_app (goodIn_of _ (by decide +kernel)) ggX3_paid_X3_isWorker
set_option maxRecDepth 20000 in
theorem ggX3_paid_X3_asks : GoodIn wsX3_paid wsX3_asks := goodIn_r _ [11, 12, 22, 23, 24, 25, 26, 27, 28, 29, 30, 31, 32, 33, 34, 35, 36, 37, 38, 39, 40, 41, 42, 43, 44, 45, 46] (by decide +kernel) (by decide +kernel)
set_option maxRecDepth 20000 in
theorem gX3_paid_X3_asks : GoodIn wsX3_paid (wsV RX3 86 RX3 yX3_asks wsX3_asks) := goodIn_app (goodIn_of _ (by decide +kernel)) ggX3_paid_X3_asks
set_option maxRecDepth 20000 in
theorem ggX3_paid_X3_isPast : GoodIn wsX3_paid wsX3_isPast := goodIn_r _ [16, 17, 22, 23, 24, 25, 26, 27, 28, 29, 30, 31, 32, 33, 34, 35, 36, 37, 38, 39, 40, 41, 42, 43, 44, 45, 46] (by decide +kernel) (by decide +kernel)
set_option maxRecDepth 20000 in
theorem gX3_paid_X3_isPast : GoodIn wsX3_paid (wsV RX3 121 RX3 yX3_isPast wsX3_isPast) := goodIn_app (goodIn_of _ (by decide +kernel)) ggX3_paid_X3_isPast
set_option maxRecDepth 20000 in
theorem ggX3_paid_X3_fails : GoodIn wsX3_paid wsX3_fails := goodIn_r _ [21, 12, 22, 23, 24, 25, 26, 27, 28, 29, 30, 31, 32, 33, 34, 35, 36, 37, 38, 39, 40, 41, 42, 43, 44, 45, 46] (by decide +kernel) (by decide +kernel)
set_option maxRecDepth 20000 in
theorem gX3_paid_X3_fails : GoodIn wsX3_paid (wsV RX3 90 RX3 yX3_fails wsX3_fails) := goodIn_app (goodIn_of _ (by decide +kernel)) ggX3_paid_X3_fails
set_option maxRecDepth 20000 in
theorem ggX3_madeUp_X3_isWorker : GoodIn wsX3_madeUp wsX3_isWorker := goodIn_r _ [6, 7, 22, 23, 24, 25, 26, 27, 28, 29, 30, 31, 32, 33, 34, 35, 36, 37, 38, 39, 40, 41, 42, 43, 44, 45, 46] (by decide +kernel) (by decide +kernel)
set_option maxRecDepth 20000 in
theorem gX3_madeUp_X3_isWorker : GoodIn wsX3_madeUp (wsV RX3 94 RX3 yX3_isWorker wsX3_isWorker) := goodIn_app (goodIn_of _ (by decide +kernel)) ggX3_madeUp_X3_isWorker
set_option maxRecDepth 20000 in
theorem ggX3_madeUp_X3_asks : GoodIn wsX3_madeUp wsX3_asks := goodIn_r _ [11, 12, 22, 23, 24, 25, 26, 27, 28, 29, 30, 31, 32, 33, 34, 35, 36, 37, 38, 39, 40, 41, 42, 43, 44, 45, 46] (by decide +kernel) (by decide +kernel)
set_option maxRecDepth 20000 in
theorem gX3_madeUp_X3_asks : GoodIn wsX3_madeUp (wsV RX3 86 RX3 yX3_asks wsX3_asks) := goodIn_app (goodIn_of _ (by decide +kernel)) ggX3_madeUp_X3_asks
set_option maxRecDepth 20000 in
theorem ggX3_madeUp_X3_isPast : GoodIn wsX3_madeUp wsX3_isPast := goodIn_r _ [16, 17, 22, 23, 24, 25, 26, 27, 28, 29, 30, 31, 32, 33, 34, 35, 36, 37, 38, 39, 40, 41, 42, 43, 44, 45, 46] (by decide +kernel) (by decide +kernel)
set_option maxRecDepth 20000 in
theorem gX3_madeUp_X3_isPast : GoodIn wsX3_madeUp (wsV RX3 121 RX3 yX3_isPast wsX3_isPast) := goodIn_app (goodIn_of _ (by decide +kernel)) ggX3_madeUp_X3_isPast
set_option maxRecDepth 20000 in
theorem ggX3_madeUp_X3_fails : GoodIn wsX3_madeUp wsX3_fails := goodIn_r _ [21, 12, 22, 23, 24, 25, 26, 27, 28, 29, 30, 31, 32, 33, 34, 35, 36, 37, 38, 39, 40, 41, 42, 43, 44, 45, 46] (by decide +kernel) (by decide +kernel)
set_option maxRecDepth 20000 in
theorem gX3_madeUp_X3_fails : GoodIn wsX3_madeUp (wsV RX3 90 RX3 yX3_fails wsX3_fails) := goodIn_app (goodIn_of _ (by decide +kernel)) ggX3_madeUp_X3_fails
set_option maxRecDepth 20000 in
theorem ggX3_cutWeeks_X3_isWorker : GoodIn wsX3_cutWeeks wsX3_isWorker := goodIn_r _ [6, 7, 13, 14, 15, 16, 17, 18, 19, 20, 21, 22, 23, 24, 25, 26, 27, 28, 29, 30, 31, 32, 33, 34, 35, 36, 37] (by decide +kernel) (by decide +kernel)
set_option maxRecDepth 20000 in
theorem gX3_cutWeeks_X3_isWorker : GoodIn wsX3_cutWeeks (wsV RX3 94 RX3 yX3_isWorker wsX3_isWorker) := goodIn_app (goodIn_of _ (by decide +kernel)) ggX3_cutWeeks_X3_isWorker
set_option maxRecDepth 20000 in
theorem ggX3_cutWeeks_X3_asks : GoodIn wsX3_cutWeeks wsX3_asks := goodIn_r _ [11, 12, 13, 14, 15, 16, 17, 18, 19, 20, 21, 22, 23, 24, 25, 26, 27, 28, 29, 30, 31, 32, 33, 34, 35, 36, 37] (by decide +kernel) (by decide +kernel)
set_option maxRecDepth 20000 in
theorem gX3_cutWeeks_X3_asks : GoodIn wsX3_cutWeeks (wsV RX3 86 RX3 yX3_asks wsX3_asks) := goodIn_app (goodIn_of _ (by decide +kernel)) ggX3_cutWeeks_X3_asks
set_option maxRecDepth 20000 in
theorem ggX3_door_X3_isWorker : GoodIn wsX3_door wsX3_isWorker := goodIn_r _ [7, 8, 26, 27, 28, 29, 30, 31, 32, 33, 34, 35, 36, 37, 38, 39, 40, 41, 42, 43, 44, 45, 46, 47, 48, 49, 50] (by decide +kernel) (by decide +kernel)
set_option maxRecDepth 20000 in
theorem gX3_door_X3_isWorker : GoodIn wsX3_door (wsV RX3 94 RX3 yX3_isWorker wsX3_isWorker) := goodIn_app (goodIn_of _ (by decide +kernel)) ggX3_door_X3_isWorker
set_option maxRecDepth 20000 in
theorem ggX3_door_X3_asks : GoodIn wsX3_door wsX3_asks := goodIn_r _ [12, 13, 26, 27, 28, 29, 30, 31, 32, 33, 34, 35, 36, 37, 38, 39, 40, 41, 42, 43, 44, 45, 46, 47, 48, 49, 50] (by decide +kernel) (by decide +kernel)
set_option maxRecDepth 20000 in
theorem gX3_door_X3_asks : GoodIn wsX3_door (wsV RX3 86 RX3 yX3_asks wsX3_asks) := goodIn_app (goodIn_of _ (by decide +kernel)) ggX3_door_X3_asks
set_option maxRecDepth 20000 in
theorem ggX3_door_X3_isPast : GoodIn wsX3_door wsX3_isPast := goodIn_r _ [17, 18, 26, 27, 28, 29, 30, 31, 32, 33, 34, 35, 36, 37, 38, 39, 40, 41, 42, 43, 44, 45, 46, 47, 48, 49, 50] (by decide +kernel) (by decide +kernel)
set_option maxRecDepth 20000 in
theorem gX3_door_X3_isPast : GoodIn wsX3_door (wsV RX3 121 RX3 yX3_isPast wsX3_isPast) := goodIn_app (goodIn_of _ (by decide +kernel)) ggX3_door_X3_isPast
set_option maxRecDepth 20000 in
theorem ggX3_door_X3_in : GoodIn wsX3_door wsX3_in := goodIn_r _ [21] (by decide +kernel) (by decide +kernel)
set_option maxRecDepth 20000 in
theorem gX3_door_X3_in : GoodIn wsX3_door (va_wsS RX3 82 yX3_in wsX3_in) := goodIn_app (goodIn_of _ (by decide +kernel)) ggX3_door_X3_in
set_option maxRecDepth 20000 in
theorem ggX3_door_X3_fails : GoodIn wsX3_door wsX3_fails := goodIn_r _ [25, 13, 26, 27, 28, 29, 30, 31, 32, 33, 34, 35, 36, 37, 38, 39, 40, 41, 42, 43, 44, 45, 46, 47, 48, 49, 50] (by decide +kernel) (by decide +kernel)
set_option maxRecDepth 20000 in
theorem gX3_door_X3_fails : GoodIn wsX3_door (wsV RX3 90 RX3 yX3_fails wsX3_fails) := goodIn_app (goodIn_of _ (by decide +kernel)) ggX3_door_X3_fails
set_option maxRecDepth 20000 in
theorem ggX3_mail_X3_isWorker : GoodIn wsX3_mail wsX3_isWorker := goodIn_r _ [7, 8, 23, 24, 25, 26, 27, 28, 29, 30, 31, 32, 33, 34, 35, 36, 37, 38, 39, 40, 41, 42, 43, 44, 45, 46, 47] (by decide +kernel) (by decide +kernel)
set_option maxRecDepth 20000 in
theorem gX3_mail_X3_isWorker : GoodIn wsX3_mail (wsV RX3 94 RX3 yX3_isWorker wsX3_isWorker) := goodIn_app (goodIn_of _ (by decide +kernel)) ggX3_mail_X3_isWorker
set_option maxRecDepth 20000 in
theorem ggX3_mail_X3_asks : GoodIn wsX3_mail wsX3_asks := goodIn_r _ [12, 13, 23, 24, 25, 26, 27, 28, 29, 30, 31, 32, 33, 34, 35, 36, 37, 38, 39, 40, 41, 42, 43, 44, 45, 46, 47] (by decide +kernel) (by decide +kernel)
set_option maxRecDepth 20000 in
theorem gX3_mail_X3_asks : GoodIn wsX3_mail (wsV RX3 86 RX3 yX3_asks wsX3_asks) := goodIn_app (goodIn_of _ (by decide +kernel)) ggX3_mail_X3_asks
set_option maxRecDepth 20000 in
theorem ggX3_mail_X3_isPast : GoodIn wsX3_mail wsX3_isPast := goodIn_r _ [17, 18, 23, 24, 25, 26, 27, 28, 29, 30, 31, 32, 33, 34, 35, 36, 37, 38, 39, 40, 41, 42, 43, 44, 45, 46, 47] (by decide +kernel) (by decide +kernel)
set_option maxRecDepth 20000 in
theorem gX3_mail_X3_isPast : GoodIn wsX3_mail (wsV RX3 121 RX3 yX3_isPast wsX3_isPast) := goodIn_app (goodIn_of _ (by decide +kernel)) ggX3_mail_X3_isPast
set_option maxRecDepth 20000 in
theorem ggX3_mail_X3_fails : GoodIn wsX3_mail wsX3_fails := goodIn_r _ [22, 13, 23, 24, 25, 26, 27, 28, 29, 30, 31, 32, 33, 34, 35, 36, 37, 38, 39, 40, 41, 42, 43, 44, 45, 46, 47] (by decide +kernel) (by decide +kernel)
set_option maxRecDepth 20000 in
theorem gX3_mail_X3_fails : GoodIn wsX3_mail (wsV RX3 90 RX3 yX3_fails wsX3_fails) := goodIn_app (goodIn_of _ (by decide +kernel)) ggX3_mail_X3_fails
set_option maxRecDepth 20000 in
theorem ggX3_check_X3_isPast : GoodIn wsX3_check wsX3_isPast := goodIn_r _ [13, 14, 24, 25, 26, 27, 28, 29, 30, 31, 32, 33, 34, 35, 36, 37, 38, 39, 40, 41, 42, 43, 44, 45, 46, 47, 48] (by decide +kernel) (by decide +kernel)
set_option maxRecDepth 20000 in
theorem gX3_check_X3_isPast : GoodIn wsX3_check (wsV RX3 121 RX3 yX3_isPast wsX3_isPast) := goodIn_app (goodIn_of _ (by decide +kernel)) ggX3_check_X3_isPast
set_option maxRecDepth 20000 in
theorem ggX3_check_X3_asks : GoodIn wsX3_check wsX3_asks := goodIn_r _ [18, 19, 24, 25, 26, 27, 28, 29, 30, 31, 32, 33, 34, 35, 36, 37, 38, 39, 40, 41, 42, 43, 44, 45, 46, 47, 48] (by decide +kernel) (by decide +kernel)
set_option maxRecDepth 20000 in
theorem gX3_check_X3_asks : GoodIn wsX3_check (wsV RX3 86 RX3 yX3_asks wsX3_asks) := goodIn_app (goodIn_of _ (by decide +kernel)) ggX3_check_X3_asks
set_option maxRecDepth 20000 in
theorem ggX3_check_X3_fails : GoodIn wsX3_check wsX3_fails := goodIn_r _ [23, 19, 24, 25, 26, 27, 28, 29, 30, 31, 32, 33, 34, 35, 36, 37, 38, 39, 40, 41, 42, 43, 44, 45, 46, 47, 48] (by decide +kernel) (by decide +kernel)
set_option maxRecDepth 20000 in
theorem gX3_check_X3_fails : GoodIn wsX3_check (wsV RX3 90 RX3 yX3_fails wsX3_fails) := goodIn_app (goodIn_of _ (by decide +kernel)) ggX3_check_X3_fails
set_option maxRecDepth 20000 in
theorem ggX3_owes_X3_isWorker : GoodIn wsX3_owes wsX3_isWorker := goodIn_r _ [6, 7, 13, 14, 15, 16, 17, 18, 19, 20, 21, 22, 23, 24, 25, 26, 27, 28, 29, 30, 31, 32, 33, 34, 35, 36, 37] (by decide +kernel) (by decide +kernel)
set_option maxRecDepth 20000 in
theorem gX3_owes_X3_isWorker : GoodIn wsX3_owes (wsV RX3 94 RX3 yX3_isWorker wsX3_isWorker) := goodIn_app (goodIn_of _ (by decide +kernel)) ggX3_owes_X3_isWorker
set_option maxRecDepth 20000 in
theorem ggX3_owes_X3_asks : GoodIn wsX3_owes wsX3_asks := goodIn_r _ [11, 12, 13, 14, 15, 16, 17, 18, 19, 20, 21, 22, 23, 24, 25, 26, 27, 28, 29, 30, 31, 32, 33, 34, 35, 36, 37] (by decide +kernel) (by decide +kernel)
set_option maxRecDepth 20000 in
theorem gX3_owes_X3_asks : GoodIn wsX3_owes (wsV RX3 86 RX3 yX3_asks wsX3_asks) := goodIn_app (goodIn_of _ (by decide +kernel)) ggX3_owes_X3_asks
set_option maxRecDepth 20000 in
theorem ggX3_net_X3_isWorker : GoodIn wsX3_net wsX3_isWorker := goodIn_r _ [8, 9, 15, 16, 17, 18, 19, 20, 21, 22, 23, 24, 25, 26, 27, 28, 29, 30, 31, 32, 33, 34, 35, 36, 37, 38, 39] (by decide +kernel) (by decide +kernel)
set_option maxRecDepth 20000 in
theorem gX3_net_X3_isWorker : GoodIn wsX3_net (wsV RX3 94 RX3 yX3_isWorker wsX3_isWorker) := goodIn_app (goodIn_of _ (by decide +kernel)) ggX3_net_X3_isWorker
set_option maxRecDepth 20000 in
theorem ggX3_net_X3_asks : GoodIn wsX3_net wsX3_asks := goodIn_r _ [13, 14, 15, 16, 17, 18, 19, 20, 21, 22, 23, 24, 25, 26, 27, 28, 29, 30, 31, 32, 33, 34, 35, 36, 37, 38, 39] (by decide +kernel) (by decide +kernel)
set_option maxRecDepth 20000 in
theorem gX3_net_X3_asks : GoodIn wsX3_net (wsV RX3 86 RX3 yX3_asks wsX3_asks) := goodIn_app (goodIn_of _ (by decide +kernel)) ggX3_net_X3_asks
end
section
set_option maxRecDepth 20000 in
theorem ggL_add_X2_add : GoodIn wsL_add wsX2_add := goodIn_ca (goodIn_ca (goodIn_r _ [7, 8, 9, 10, 11, 12, 13, 14, 15, 6, 16, 17, 18, 19, 20, 21, 22, 23, 24, 25, 26, 27, 28, 29, 30, 31, 32, 33, 34, 35, 36, 37, 38, 39, 40, 41, 42, 43, 44, 45, 46, 47, 48, 49, 50, 51, 52, 53, 54, 55, 56, 57, 58, 59, 60, 61, 62] (by decide +kernel) (by decide +kernel)) (goodIn_sub (fun _ h => List.mem_cons_of_mem _ (List.mem_append_left _ (List.mem_append_right _ h))) (by decide +kernel))) (goodIn_sub (fun _ h => List.mem_cons_of_mem _ (List.mem_append_right _ h)) (by decide +kernel))
set_option maxRecDepth 20000 in
theorem gL_add_X2_add : GoodIn wsL_add (wsV RL 7 RX2 yX2_add wsX2_add) := goodIn_app (goodIn_of _ (by decide +kernel)) ggL_add_X2_add
set_option maxRecDepth 20000 in
theorem ggL_notice_X2_notice : GoodIn wsL_notice wsX2_notice := goodIn_ca (goodIn_ca (goodIn_ca (goodIn_r _ [8, 9, 10, 11, 12, 7, 13, 14, 15, 16, 17, 18, 19, 20, 21, 22, 23, 24, 25, 26, 27, 28, 29, 30, 31, 32, 33, 34, 35, 36, 37, 38, 39, 40, 41, 42, 43, 44, 45, 46, 47, 48, 49, 50, 51, 52, 53, 54, 55, 56, 57, 58, 59, 60] (by decide +kernel) (by decide +kernel)) (goodIn_sub (fun _ h => List.mem_cons_of_mem _ (List.mem_append_left _ (List.mem_append_left _ (List.mem_append_right _ h)))) (by decide +kernel))) (goodIn_sub (fun _ h => List.mem_cons_of_mem _ (List.mem_append_left _ (List.mem_append_right _ h))) (by decide +kernel))) (goodIn_sub (fun _ h => List.mem_cons_of_mem _ (List.mem_append_right _ h)) (by decide +kernel))
set_option maxRecDepth 20000 in
theorem gL_notice_X2_notice : GoodIn wsL_notice (wsV RL 17 RX2 yX2_notice wsX2_notice) := goodIn_app (goodIn_of _ (by decide +kernel)) ggL_notice_X2_notice
set_option maxRecDepth 20000 in
theorem ggL_addCourse_X2_addCourse : GoodIn wsL_addCourse wsX2_addCourse := goodIn_ca (goodIn_ca (goodIn_r _ [7, 8, 9, 10, 11, 12, 13, 14, 6, 15, 16, 17, 18, 19, 20, 21, 22, 23, 24, 25, 26, 27, 28, 29, 30, 31, 32, 33, 34, 35, 36, 37, 38, 39, 40, 41, 42, 43, 44, 45, 46, 47, 48, 49, 50] (by decide +kernel) (by decide +kernel)) (goodIn_sub (fun _ h => List.mem_cons_of_mem _ (List.mem_append_left _ (List.mem_append_right _ h))) (by decide +kernel))) (goodIn_sub (fun _ h => List.mem_cons_of_mem _ (List.mem_append_right _ h)) (by decide +kernel))
set_option maxRecDepth 20000 in
theorem gL_addCourse_X2_addCourse : GoodIn wsL_addCourse (wsV RL 23 RX2 yX2_addCourse wsX2_addCourse) := goodIn_app (goodIn_of _ (by decide +kernel)) ggL_addCourse_X2_addCourse
set_option maxRecDepth 20000 in
theorem ggL_enrol_X2_enrol : GoodIn wsL_enrol wsX2_enrol := goodIn_ca (goodIn_ca (goodIn_r _ [7, 8, 9, 10, 11, 6, 12, 13, 14, 15, 16, 17, 18, 19, 20, 21, 22, 23, 24, 25, 26, 27, 28, 29, 30, 31, 32, 33, 34, 35, 36, 37, 38, 39, 40, 41, 42, 43, 44, 45, 46, 47, 48, 49, 50, 51, 52, 53, 54, 55, 56, 57, 58, 59, 60, 61, 62, 63, 64] (by decide +kernel) (by decide +kernel)) (goodIn_sub (fun _ h => List.mem_cons_of_mem _ (List.mem_append_left _ (List.mem_append_right _ h))) (by decide +kernel))) (goodIn_sub (fun _ h => List.mem_cons_of_mem _ (List.mem_append_right _ h)) (by decide +kernel))
set_option maxRecDepth 20000 in
theorem gL_enrol_X2_enrol : GoodIn wsL_enrol (wsV RL 26 RX2 yX2_enrol wsX2_enrol) := goodIn_app (goodIn_of _ (by decide +kernel)) ggL_enrol_X2_enrol
set_option maxRecDepth 20000 in
theorem ggL_setFloor_X2_setFloor : GoodIn wsL_setFloor wsX2_setFloor := goodIn_ca (goodIn_r _ [6, 7, 8, 9, 5, 10, 11, 12, 13, 14, 15, 16, 17, 18, 19, 20, 21, 22, 23] (by decide +kernel) (by decide +kernel)) (goodIn_sub (fun _ h => List.mem_cons_of_mem _ (List.mem_append_right _ h)) (by decide +kernel))
set_option maxRecDepth 20000 in
theorem gL_setFloor_X2_setFloor : GoodIn wsL_setFloor (wsV RL 30 RX2 yX2_setFloor wsX2_setFloor) := goodIn_app (goodIn_of _ (by decide +kernel)) ggL_setFloor_X2_setFloor
set_option maxRecDepth 20000 in
theorem ggL_cut_X2_cut : GoodIn wsL_cut wsX2_cut := goodIn_ca (goodIn_ca (goodIn_r _ [7, 8, 9, 10, 6, 11, 12, 13, 14, 15, 16, 17, 18, 19, 20, 21, 22, 23, 24, 25, 26, 27, 28, 29, 30, 31, 32, 33, 34, 35, 36, 37, 38, 39, 40, 41, 42, 43] (by decide +kernel) (by decide +kernel)) (goodIn_sub (fun _ h => List.mem_cons_of_mem _ (List.mem_append_left _ (List.mem_append_right _ h))) (by decide +kernel))) (goodIn_sub (fun _ h => List.mem_cons_of_mem _ (List.mem_append_right _ h)) (by decide +kernel))
set_option maxRecDepth 20000 in
theorem gL_cut_X2_cut : GoodIn wsL_cut (wsV RL 34 RX2 yX2_cut wsX2_cut) := goodIn_app (goodIn_of _ (by decide +kernel)) ggL_cut_X2_cut
set_option maxRecDepth 20000 in
theorem ggL_isFilled_X2_isFilled : GoodIn wsL_isFilled wsX2_isFilled := goodIn_ca (goodIn_ca (goodIn_r _ [7, 8, 9, 10, 6, 11, 12, 13, 14, 15, 16, 17, 18, 19, 20, 21, 22, 23, 24, 25, 26, 27, 28, 29, 30, 31, 32, 33, 34, 35, 36, 37, 38, 39, 40, 41, 42, 43, 44, 45, 46, 47, 48, 49, 50] (by decide +kernel) (by decide +kernel)) (goodIn_sub (fun _ h => List.mem_cons_of_mem _ (List.mem_append_left _ (List.mem_append_right _ h))) (by decide +kernel))) (goodIn_sub (fun _ h => List.mem_cons_of_mem _ (List.mem_append_right _ h)) (by decide +kernel))
set_option maxRecDepth 20000 in
theorem gL_isFilled_X2_isFilled : GoodIn wsL_isFilled (wsV RL 37 RX2 yX2_isFilled wsX2_isFilled) := goodIn_app (goodIn_of _ (by decide +kernel)) ggL_isFilled_X2_isFilled
set_option maxRecDepth 20000 in
theorem ggL_pass_X2_pass : GoodIn wsL_pass wsX2_pass := goodIn_ca (goodIn_ca (goodIn_r _ [7, 8, 9, 10, 6, 11, 12, 13, 14, 15, 16, 17, 18, 19, 20, 21, 22, 23, 24, 25, 26, 27, 28, 29, 30, 31, 32, 33, 34, 35, 36, 37, 38, 39, 40, 41, 42, 43, 44, 45, 46, 47, 48, 49, 50, 51, 52, 53, 54, 55, 56, 57, 58, 59, 60, 61, 62, 63, 64, 65, 66, 67, 68, 69, 70, 71, 72, 73, 74, 75, 76] (by decide +kernel) (by decide +kernel)) (goodIn_sub (fun _ h => List.mem_cons_of_mem _ (List.mem_append_left _ (List.mem_append_right _ h))) (by decide +kernel))) (goodIn_sub (fun _ h => List.mem_cons_of_mem _ (List.mem_append_right _ h)) (by decide +kernel))
set_option maxRecDepth 20000 in
theorem gL_pass_X2_pass : GoodIn wsL_pass (wsV RL 41 RX2 yX2_pass wsX2_pass) := goodIn_app (goodIn_of _ (by decide +kernel)) ggL_pass_X2_pass
set_option maxRecDepth 20000 in
theorem ggL_paid_X2_paid : GoodIn wsL_paid wsX2_paid := goodIn_ca (goodIn_ca (goodIn_r _ [7, 8, 9, 10, 6, 11, 12, 13, 14, 15, 16, 17, 18, 19, 20, 21, 22, 23, 24, 25, 26, 27, 28, 29, 30, 31, 32, 33, 34, 35, 36, 37, 38, 39, 40, 41, 42, 43, 44, 45, 46, 47, 48] (by decide +kernel) (by decide +kernel)) (goodIn_sub (fun _ h => List.mem_cons_of_mem _ (List.mem_append_left _ (List.mem_append_right _ h))) (by decide +kernel))) (goodIn_sub (fun _ h => List.mem_cons_of_mem _ (List.mem_append_right _ h)) (by decide +kernel))
set_option maxRecDepth 20000 in
theorem gL_paid_X2_paid : GoodIn wsL_paid (wsV RL 44 RX2 yX2_paid wsX2_paid) := goodIn_app (goodIn_of _ (by decide +kernel)) ggL_paid_X2_paid
set_option maxRecDepth 20000 in
theorem ggL_madeUp_X2_madeUp : GoodIn wsL_madeUp wsX2_madeUp := goodIn_ca (goodIn_ca (goodIn_r _ [7, 8, 9, 10, 6, 11, 12, 13, 14, 15, 16, 17, 18, 19, 20, 21, 22, 23, 24, 25, 26, 27, 28, 29, 30, 31, 32, 33, 34, 35, 36, 37, 38, 39, 40, 41, 42, 43, 44, 45, 46, 47, 48] (by decide +kernel) (by decide +kernel)) (goodIn_sub (fun _ h => List.mem_cons_of_mem _ (List.mem_append_left _ (List.mem_append_right _ h))) (by decide +kernel))) (goodIn_sub (fun _ h => List.mem_cons_of_mem _ (List.mem_append_right _ h)) (by decide +kernel))
set_option maxRecDepth 20000 in
theorem gL_madeUp_X2_madeUp : GoodIn wsL_madeUp (wsV RL 47 RX2 yX2_madeUp wsX2_madeUp) := goodIn_app (goodIn_of _ (by decide +kernel)) ggL_madeUp_X2_madeUp
set_option maxRecDepth 20000 in
theorem ggL_cutWeeks_X2_cutWeeks : GoodIn wsL_cutWeeks wsX2_cutWeeks := goodIn_ca (goodIn_r _ [6, 7, 8, 9, 5, 10, 11, 12, 13, 14, 15, 16, 17, 18, 19, 20, 21, 22, 23, 24, 25, 26, 27, 28, 29, 30, 31, 32, 33, 34, 35, 36, 37] (by decide +kernel) (by decide +kernel)) (goodIn_sub (fun _ h => List.mem_cons_of_mem _ (List.mem_append_right _ h)) (by decide +kernel))
set_option maxRecDepth 20000 in
theorem gL_cutWeeks_X2_cutWeeks : GoodIn wsL_cutWeeks (wsV RL 50 RX2 yX2_cutWeeks wsX2_cutWeeks) := goodIn_app (goodIn_of _ (by decide +kernel)) ggL_cutWeeks_X2_cutWeeks
set_option maxRecDepth 20000 in
theorem ggL_door_X2_door : GoodIn wsL_door wsX2_door := goodIn_ca (goodIn_ca (goodIn_ca (goodIn_r _ [8, 9, 10, 11, 12, 7, 13, 14, 15, 16, 17, 18, 19, 20, 21, 22, 23, 24, 25, 26, 27, 28, 29, 30, 31, 32, 33, 34, 35, 36, 37, 38, 39, 40, 41, 42, 43, 44, 45, 46, 47, 48, 49, 50, 51, 52, 53, 54, 55] (by decide +kernel) (by decide +kernel)) (goodIn_sub (fun _ h => List.mem_cons_of_mem _ (List.mem_append_left _ (List.mem_append_left _ (List.mem_append_right _ h)))) (by decide +kernel))) (goodIn_sub (fun _ h => List.mem_cons_of_mem _ (List.mem_append_left _ (List.mem_append_right _ h))) (by decide +kernel))) (goodIn_sub (fun _ h => List.mem_cons_of_mem _ (List.mem_append_right _ h)) (by decide +kernel))
set_option maxRecDepth 20000 in
theorem gL_door_X2_door : GoodIn wsL_door (wsV RL 53 RX2 yX2_door wsX2_door) := goodIn_app (goodIn_of _ (by decide +kernel)) ggL_door_X2_door
set_option maxRecDepth 20000 in
theorem ggL_mail_X2_mail : GoodIn wsL_mail wsX2_mail := goodIn_ca (goodIn_ca (goodIn_ca (goodIn_r _ [8, 9, 10, 11, 12, 7, 13, 14, 15, 16, 17, 18, 19, 20, 21, 22, 23, 24, 25, 26, 27, 28, 29, 30, 31, 32, 33, 34, 35, 36, 37, 38, 39, 40, 41, 42, 43, 44, 45, 46, 47, 48, 49, 50, 51, 52, 53, 54, 55] (by decide +kernel) (by decide +kernel)) (goodIn_sub (fun _ h => List.mem_cons_of_mem _ (List.mem_append_left _ (List.mem_append_left _ (List.mem_append_right _ h)))) (by decide +kernel))) (goodIn_sub (fun _ h => List.mem_cons_of_mem _ (List.mem_append_left _ (List.mem_append_right _ h))) (by decide +kernel))) (goodIn_sub (fun _ h => List.mem_cons_of_mem _ (List.mem_append_right _ h)) (by decide +kernel))
set_option maxRecDepth 20000 in
theorem gL_mail_X2_mail : GoodIn wsL_mail (wsV RL 57 RX2 yX2_mail wsX2_mail) := goodIn_app (goodIn_of _ (by decide +kernel)) ggL_mail_X2_mail
set_option maxRecDepth 20000 in
theorem ggL_check_X2_check : GoodIn wsL_check wsX2_check := goodIn_ca (goodIn_ca (goodIn_r _ [7, 8, 9, 10, 11, 12, 6, 13, 14, 15, 16, 17, 18, 19, 20, 21, 22, 23, 24, 25, 26, 27, 28, 29, 30, 31, 32, 33, 34, 35, 36, 37, 38, 39, 40, 41, 42, 43, 44, 45, 46, 47, 48, 49, 50, 51, 52, 53, 54, 55, 56, 57, 58, 59, 60] (by decide +kernel) (by decide +kernel)) (goodIn_sub (fun _ h => List.mem_cons_of_mem _ (List.mem_append_left _ (List.mem_append_right _ h))) (by decide +kernel))) (goodIn_sub (fun _ h => List.mem_cons_of_mem _ (List.mem_append_right _ h)) (by decide +kernel))
set_option maxRecDepth 20000 in
theorem gL_check_X2_check : GoodIn wsL_check (wsV RL 61 RX2 yX2_check wsX2_check) := goodIn_app (goodIn_of _ (by decide +kernel)) ggL_check_X2_check
set_option maxRecDepth 20000 in
theorem ggL_owes_X2_owes : GoodIn wsL_owes wsX2_owes := goodIn_ca (goodIn_r _ [6, 7, 8, 9, 5, 10, 11, 12, 13, 14, 15, 16, 17, 18, 19, 20, 21, 22, 23, 24, 25, 26, 27, 28, 29, 30, 31, 32, 33, 34, 35, 36, 37] (by decide +kernel) (by decide +kernel)) (goodIn_sub (fun _ h => List.mem_cons_of_mem _ (List.mem_append_right _ h)) (by decide +kernel))
set_option maxRecDepth 20000 in
theorem gL_owes_X2_owes : GoodIn wsL_owes (wsV RL 64 RX2 yX2_owes wsX2_owes) := goodIn_app (goodIn_of _ (by decide +kernel)) ggL_owes_X2_owes
set_option maxRecDepth 20000 in
theorem ggL_net_X2_net : GoodIn wsL_net wsX2_net := goodIn_ca (goodIn_r _ [6, 7, 8, 9, 5, 10, 11, 12, 13, 14, 15, 16, 17, 18, 19, 20, 21, 22, 23, 24, 25, 26, 27, 28, 29, 30, 31, 32, 33, 34, 35, 36, 37] (by decide +kernel) (by decide +kernel)) (goodIn_sub (fun _ h => List.mem_cons_of_mem _ (List.mem_append_right _ h)) (by decide +kernel))
set_option maxRecDepth 20000 in
theorem gL_net_X2_net : GoodIn wsL_net (wsV RL 67 RX2 yX2_net wsX2_net) := goodIn_app (goodIn_of _ (by decide +kernel)) ggL_net_X2_net
end
section
set_option maxRecDepth 20000 in
theorem ggL_law_X2_init : GoodIn wsL_law wsX2_init := goodIn_r _ [9, 10, 11, 12, 13, 14, 15, 16, 17, 18, 19, 409, 410, 411, 412, 413, 414, 415, 416] (by decide +kernel) (by decide +kernel)
set_option maxRecDepth 20000 in
theorem gL_law_X2_init : GoodIn wsL_law (wsX2_init) := ggL_law_X2_init
set_option maxRecDepth 20000 in
theorem ggL_law_X3_init : GoodIn wsL_law wsX3_init := goodIn_r _ [22, 23, 11, 12, 24, 25, 17, 26, 27, 28, 29, 30, 31, 32, 33, 34, 35, 36, 37, 38, 39, 40, 41, 42, 43, 44, 417, 418, 419, 420, 421, 422, 423, 424, 425, 426, 427, 428, 429, 430, 431, 432, 433, 434, 435, 436, 437, 438, 439, 440, 441] (by decide +kernel) (by decide +kernel)
set_option maxRecDepth 20000 in
theorem gL_law_X3_init : GoodIn wsL_law (wsX3_init) := ggL_law_X3_init
set_option maxRecDepth 20000 in
theorem ggL_law_L_add : GoodIn wsL_law wsL_add := goodIn_ca (goodIn_ca (goodIn_r _ [48, 49, 50, 51, 52, 53, 2, 54, 55, 56, 14, 13, 57, 58, 59, 60, 61, 62, 63, 64, 65, 66, 67, 68, 69, 70, 71, 72, 73, 74, 75, 11, 12, 76, 77, 24, 78, 79, 80, 81, 82, 17, 83, 409, 410, 411, 412, 413, 414, 415, 416, 442, 443, 444, 445, 446, 447, 448, 449, 450, 451, 452, 453] (by decide +kernel) (by decide +kernel)) (goodIn_sub (fun _ h => List.mem_append_left _ (List.mem_append_left _ (List.mem_append_right _ h))) (by decide +kernel))) (goodIn_sub (fun _ h => List.mem_append_left _ (List.mem_append_right _ h)) (by decide +kernel))
set_option maxRecDepth 20000 in
theorem gL_law_L_add : GoodIn wsL_law (va_wsS RL 74 yL_add wsL_add) := goodIn_app (goodIn_of _ (by decide +kernel)) ggL_law_L_add
set_option maxRecDepth 20000 in
theorem ggL_law_X3_add : GoodIn wsL_law wsX3_add := goodIn_r _ [87, 88, 89, 25, 26, 90, 91, 5, 92, 93, 94, 95, 96, 97, 98, 99, 100, 101, 417, 418, 419, 420, 421, 422, 423, 424, 425, 426, 427, 428, 429, 430, 431, 432, 433, 434, 435, 436, 437, 438, 439, 440, 441] (by decide +kernel) (by decide +kernel)
set_option maxRecDepth 20000 in
theorem gL_law_X3_add : GoodIn wsL_law (wsV RL 79 RX3 yX3_add wsX3_add) := goodIn_app (goodIn_of _ (by decide +kernel)) ggL_law_X3_add
set_option maxRecDepth 20000 in
theorem ggL_law_X3_thrown : GoodIn wsL_law wsX3_thrown := goodIn_r _ [105, 97, 417, 418, 419, 420, 421, 422, 423, 424, 425, 426, 427, 428, 429, 430, 431, 432, 433, 434, 435, 436, 437, 438, 439, 440, 441] (by decide +kernel) (by decide +kernel)
set_option maxRecDepth 20000 in
theorem gL_law_X3_thrown : GoodIn wsL_law (wsV RL 80 RX3 yX3_thrown wsX3_thrown) := goodIn_app (goodIn_of _ (by decide +kernel)) ggL_law_X3_thrown
set_option maxRecDepth 20000 in
theorem ggL_law_L_notice : GoodIn wsL_law wsL_notice := goodIn_ca (goodIn_ca (goodIn_ca (goodIn_r _ [108, 109, 49, 50, 110, 111, 112, 2, 113, 114, 115, 116, 117, 118, 119, 120, 56, 14, 59, 60, 61, 121, 122, 123, 62, 63, 64, 65, 66, 67, 68, 69, 70, 71, 124, 125, 126, 58, 127, 78, 128, 409, 410, 411, 412, 413, 414, 415, 416, 442, 443, 444, 445, 446, 447, 448, 449, 450, 451, 452, 453] (by decide +kernel) (by decide +kernel)) (goodIn_sub (fun _ h => List.mem_append_right _ h) (by decide +kernel))) (goodIn_sub (fun _ h => List.mem_append_left _ (List.mem_append_left _ (List.mem_append_right _ h))) (by decide +kernel))) (goodIn_sub (fun _ h => List.mem_append_left _ (List.mem_append_right _ h)) (by decide +kernel))
set_option maxRecDepth 20000 in
theorem gL_law_L_notice : GoodIn wsL_law (va_wsS RL 84 yL_notice wsL_notice) := goodIn_app (goodIn_of _ (by decide +kernel)) ggL_law_L_notice
set_option maxRecDepth 20000 in
theorem ggL_law_X3_notice : GoodIn wsL_law wsX3_notice := goodIn_r _ [132, 133, 27, 28, 29, 30, 134, 135, 136, 5, 137, 89, 93, 94, 95, 96, 97, 90, 91, 92, 98, 99, 100, 101, 417, 418, 419, 420, 421, 422, 423, 424, 425, 426, 427, 428, 429, 430, 431, 432, 433, 434, 435, 436, 437, 438, 439, 440, 441] (by decide +kernel) (by decide +kernel)
set_option maxRecDepth 20000 in
theorem gL_law_X3_notice : GoodIn wsL_law (wsV RL 87 RX3 yX3_notice wsX3_notice) := goodIn_app (goodIn_of _ (by decide +kernel)) ggL_law_X3_notice
set_option maxRecDepth 20000 in
theorem ggL_law_L_addCourse : GoodIn wsL_law wsL_addCourse := goodIn_ca (goodIn_ca (goodIn_r _ [140, 49, 50, 141, 142, 143, 2, 144, 145, 16, 15, 146, 147, 59, 60, 61, 121, 122, 123, 62, 63, 64, 65, 66, 67, 68, 69, 70, 71, 148, 149, 150, 151, 11, 12, 152, 153, 154, 155, 409, 410, 411, 412, 413, 414, 415, 416, 454, 455, 456, 457] (by decide +kernel) (by decide +kernel)) (goodIn_sub (fun _ h => List.mem_append_left _ (List.mem_append_left _ (List.mem_append_right _ h))) (by decide +kernel))) (goodIn_sub (fun _ h => List.mem_append_left _ (List.mem_append_right _ h)) (by decide +kernel))
set_option maxRecDepth 20000 in
theorem gL_law_L_addCourse : GoodIn wsL_law (va_wsS RL 88 yL_addCourse wsL_addCourse) := goodIn_app (goodIn_of _ (by decide +kernel)) ggL_law_L_addCourse
set_option maxRecDepth 20000 in
theorem ggL_law_X3_addCourse : GoodIn wsL_law wsX3_addCourse := goodIn_r _ [159, 160, 33, 34, 35, 36, 90, 91, 5, 92, 93, 94, 95, 96, 97, 98, 99, 100, 101, 417, 418, 419, 420, 421, 422, 423, 424, 425, 426, 427, 428, 429, 430, 431, 432, 433, 434, 435, 436, 437, 438, 439, 440, 441] (by decide +kernel) (by decide +kernel)
set_option maxRecDepth 20000 in
theorem gL_law_X3_addCourse : GoodIn wsL_law (wsV RL 90 RX3 yX3_addCourse wsX3_addCourse) := goodIn_app (goodIn_of _ (by decide +kernel)) ggL_law_X3_addCourse
set_option maxRecDepth 20000 in
theorem ggL_law_L_enrol : GoodIn wsL_law wsL_enrol := goodIn_ca (goodIn_ca (goodIn_r _ [163, 109, 50, 164, 165, 166, 2, 167, 114, 115, 116, 117, 118, 119, 120, 56, 14, 59, 60, 61, 168, 169, 170, 171, 145, 16, 172, 173, 174, 58, 175, 79, 67, 68, 69, 70, 71, 176, 177, 178, 179, 454, 455, 456, 457, 409, 410, 411, 412, 413, 414, 415, 416, 442, 443, 444, 445, 446, 447, 448, 449, 450, 451, 452, 453] (by decide +kernel) (by decide +kernel)) (goodIn_sub (fun _ h => List.mem_append_right _ h) (by decide +kernel))) (goodIn_sub (fun _ h => List.mem_append_left _ (List.mem_append_right _ h)) (by decide +kernel))
set_option maxRecDepth 20000 in
theorem gL_law_L_enrol : GoodIn wsL_law (va_wsS RL 91 yL_enrol wsL_enrol) := goodIn_app (goodIn_of _ (by decide +kernel)) ggL_law_L_enrol
set_option maxRecDepth 20000 in
theorem ggL_law_X3_enrol : GoodIn wsL_law wsX3_enrol := goodIn_r _ [183, 33, 35, 133, 37, 134, 135, 136, 5, 137, 89, 184, 185, 186, 187, 160, 93, 94, 95, 96, 97, 188, 189, 190, 191, 34, 98, 99, 100, 101, 417, 418, 419, 420, 421, 422, 423, 424, 425, 426, 427, 428, 429, 430, 431, 432, 433, 434, 435, 436, 437, 438, 439, 440, 441] (by decide +kernel) (by decide +kernel)
set_option maxRecDepth 20000 in
theorem gL_law_X3_enrol : GoodIn wsL_law (wsV RL 94 RX3 yX3_enrol wsX3_enrol) := goodIn_app (goodIn_of _ (by decide +kernel)) ggL_law_X3_enrol
set_option maxRecDepth 20000 in
theorem ggL_law_L_setFloor : GoodIn wsL_law wsL_setFloor := goodIn_ca (goodIn_r _ [194, 49, 195, 196, 197, 2, 198, 19, 59, 60, 61, 62, 63, 64, 65, 66, 409, 410, 411, 412, 413, 414, 415, 416] (by decide +kernel) (by decide +kernel)) (goodIn_sub (fun _ h => List.mem_append_left _ (List.mem_append_left _ (List.mem_append_right _ h))) (by decide +kernel))
set_option maxRecDepth 20000 in
theorem gL_law_L_setFloor : GoodIn wsL_law (va_wsS RL 95 yL_setFloor wsL_setFloor) := goodIn_app (goodIn_of _ (by decide +kernel)) ggL_law_L_setFloor
set_option maxRecDepth 20000 in
theorem ggL_law_X3_setFloor : GoodIn wsL_law wsX3_setFloor := goodIn_r _ [202, 38, 90, 91, 5, 92, 93, 94, 95, 96, 97, 417, 418, 419, 420, 421, 422, 423, 424, 425, 426, 427, 428, 429, 430, 431, 432, 433, 434, 435, 436, 437, 438, 439, 440, 441] (by decide +kernel) (by decide +kernel)
set_option maxRecDepth 20000 in
theorem gL_law_X3_setFloor : GoodIn wsL_law (wsV RL 98 RX3 yX3_setFloor wsX3_setFloor) := goodIn_app (goodIn_of _ (by decide +kernel)) ggL_law_X3_setFloor
set_option maxRecDepth 20000 in
theorem ggL_law_X2_workers : GoodIn wsL_law wsX2_workers := goodIn_r _ [206, 56, 409, 410, 411, 412, 413, 414, 415, 416] (by decide +kernel) (by decide +kernel)
set_option maxRecDepth 20000 in
theorem gL_law_X2_workers : GoodIn wsL_law (wsV RL 99 RX2 yX2_workers wsX2_workers) := goodIn_app (goodIn_of _ (by decide +kernel)) ggL_law_X2_workers
set_option maxRecDepth 20000 in
theorem ggL_law_X3_workers : GoodIn wsL_law wsX3_workers := goodIn_r _ [210, 97, 89, 417, 418, 419, 420, 421, 422, 423, 424, 425, 426, 427, 428, 429, 430, 431, 432, 433, 434, 435, 436, 437, 438, 439, 440, 441] (by decide +kernel) (by decide +kernel)
set_option maxRecDepth 20000 in
theorem gL_law_X3_workers : GoodIn wsL_law (wsV RL 102 RX3 yX3_workers wsX3_workers) := goodIn_app (goodIn_of _ (by decide +kernel)) ggL_law_X3_workers
set_option maxRecDepth 20000 in
theorem ggL_law_L_cut : GoodIn wsL_law wsL_cut := goodIn_ca (goodIn_ca (goodIn_r _ [213, 109, 49, 214, 215, 216, 2, 217, 115, 116, 117, 118, 119, 120, 56, 14, 59, 60, 61, 62, 63, 64, 65, 66, 442, 443, 444, 445, 446, 447, 448, 449, 450, 451, 452, 453, 409, 410, 411, 412, 413, 414, 415, 416] (by decide +kernel) (by decide +kernel)) (goodIn_sub (fun _ h => List.mem_append_right _ h) (by decide +kernel))) (goodIn_sub (fun _ h => List.mem_append_left _ (List.mem_append_left _ (List.mem_append_right _ h))) (by decide +kernel))
set_option maxRecDepth 20000 in
theorem gL_law_L_cut : GoodIn wsL_law (va_wsS RL 103 yL_cut wsL_cut) := goodIn_app (goodIn_of _ (by decide +kernel)) ggL_law_L_cut
set_option maxRecDepth 20000 in
theorem ggL_law_X3_cut : GoodIn wsL_law wsX3_cut := goodIn_r _ [221, 134, 135, 136, 5, 137, 89, 93, 94, 95, 96, 97, 90, 91, 92, 222, 223, 224, 225, 27, 28, 29, 30, 98, 99, 100, 101, 417, 418, 419, 420, 421, 422, 423, 424, 425, 426, 427, 428, 429, 430, 431, 432, 433, 434, 435, 436, 437, 438, 439, 440, 441] (by decide +kernel) (by decide +kernel)
set_option maxRecDepth 20000 in
theorem gL_law_X3_cut : GoodIn wsL_law (wsV RL 105 RX3 yX3_cut wsX3_cut) := goodIn_app (goodIn_of _ (by decide +kernel)) ggL_law_X3_cut
set_option maxRecDepth 20000 in
theorem ggL_law_L_isFilled : GoodIn wsL_law wsL_isFilled := goodIn_ca (goodIn_ca (goodIn_r _ [228, 109, 49, 229, 230, 231, 2, 232, 115, 116, 117, 118, 119, 120, 56, 14, 59, 60, 61, 62, 63, 64, 65, 66, 233, 234, 235, 58, 236, 79, 78, 409, 410, 411, 412, 413, 414, 415, 416, 442, 443, 444, 445, 446, 447, 448, 449, 450, 451, 452, 453] (by decide +kernel) (by decide +kernel)) (goodIn_sub (fun _ h => List.mem_append_right _ h) (by decide +kernel))) (goodIn_sub (fun _ h => List.mem_append_left _ (List.mem_append_left _ (List.mem_append_right _ h))) (by decide +kernel))
set_option maxRecDepth 20000 in
theorem gL_law_L_isFilled : GoodIn wsL_law (va_wsS RL 106 yL_isFilled wsL_isFilled) := goodIn_app (goodIn_of _ (by decide +kernel)) ggL_law_L_isFilled
set_option maxRecDepth 20000 in
theorem ggL_law_X3_isFilled : GoodIn wsL_law wsX3_isFilled := goodIn_r _ [240, 134, 135, 136, 5, 137, 89, 93, 94, 95, 96, 97, 90, 91, 92, 98, 99, 100, 101, 241, 242, 243, 244, 160, 37, 34, 35, 36, 222, 223, 224, 225, 27, 28, 29, 30, 417, 418, 419, 420, 421, 422, 423, 424, 425, 426, 427, 428, 429, 430, 431, 432, 433, 434, 435, 436, 437, 438, 439, 440, 441] (by decide +kernel) (by decide +kernel)
set_option maxRecDepth 20000 in
theorem gL_law_X3_isFilled : GoodIn wsL_law (wsV RL 108 RX3 yX3_isFilled wsX3_isFilled) := goodIn_app (goodIn_of _ (by decide +kernel)) ggL_law_X3_isFilled
set_option maxRecDepth 20000 in
theorem ggL_law_L_pass : GoodIn wsL_law wsL_pass := goodIn_ca (goodIn_ca (goodIn_r _ [247, 49, 50, 248, 249, 250, 2, 251, 114, 59, 60, 61, 62, 63, 64, 65, 66, 67, 68, 69, 70, 71, 252, 253, 254, 255, 14, 19, 256, 257, 258, 58, 259, 76, 78, 260, 261, 262, 263, 80, 81, 264, 265, 266, 267, 268, 269, 77, 270, 271, 272, 273, 274, 234, 235, 236, 79, 409, 410, 411, 412, 413, 414, 415, 416, 442, 443, 444, 445, 446, 447, 448, 449, 450, 451, 452, 453] (by decide +kernel) (by decide +kernel)) (goodIn_sub (fun _ h => List.mem_append_left _ (List.mem_append_left _ (List.mem_append_right _ h))) (by decide +kernel))) (goodIn_sub (fun _ h => List.mem_append_left _ (List.mem_append_right _ h)) (by decide +kernel))
set_option maxRecDepth 20000 in
theorem gL_law_L_pass : GoodIn wsL_law (va_wsS RL 109 yL_pass wsL_pass) := goodIn_app (goodIn_of _ (by decide +kernel)) ggL_law_L_pass
end
section
set_option maxRecDepth 20000 in
theorem ggL_law_X3_pass : GoodIn wsL_law wsX3_pass := goodIn_r _ [278, 133, 89, 90, 91, 5, 92, 93, 94, 95, 96, 97, 98, 99, 100, 101, 279, 280, 281, 282, 25, 38, 39, 40, 41, 31, 222, 223, 224, 225, 27, 28, 29, 30, 283, 284, 285, 286, 26, 241, 242, 243, 244, 160, 37, 34, 35, 36, 417, 418, 419, 420, 421, 422, 423, 424, 425, 426, 427, 428, 429, 430, 431, 432, 433, 434, 435, 436, 437, 438, 439, 440, 441] (by decide +kernel) (by decide +kernel)
set_option maxRecDepth 20000 in
theorem gL_law_X3_pass : GoodIn wsL_law (wsV RL 111 RX3 yX3_pass wsX3_pass) := goodIn_app (goodIn_of _ (by decide +kernel)) ggL_law_X3_pass
set_option maxRecDepth 20000 in
theorem ggL_law_X2_week : GoodIn wsL_law wsX2_week := goodIn_r _ [290, 114, 409, 410, 411, 412, 413, 414, 415, 416] (by decide +kernel) (by decide +kernel)
set_option maxRecDepth 20000 in
theorem gL_law_X2_week : GoodIn wsL_law (wsV RL 112 RX2 yX2_week wsX2_week) := goodIn_app (goodIn_of _ (by decide +kernel)) ggL_law_X2_week
set_option maxRecDepth 20000 in
theorem ggL_law_X3_week : GoodIn wsL_law wsX3_week := goodIn_r _ [294, 97, 133, 417, 418, 419, 420, 421, 422, 423, 424, 425, 426, 427, 428, 429, 430, 431, 432, 433, 434, 435, 436, 437, 438, 439, 440, 441] (by decide +kernel) (by decide +kernel)
set_option maxRecDepth 20000 in
theorem gL_law_X3_week : GoodIn wsL_law (wsV RL 115 RX3 yX3_week wsX3_week) := goodIn_app (goodIn_of _ (by decide +kernel)) ggL_law_X3_week
set_option maxRecDepth 20000 in
theorem ggL_law_L_paid : GoodIn wsL_law wsL_paid := goodIn_ca (goodIn_ca (goodIn_r _ [297, 109, 49, 298, 299, 300, 2, 301, 115, 116, 117, 118, 119, 120, 56, 14, 59, 60, 61, 302, 303, 304, 305, 114, 62, 63, 64, 65, 66, 442, 443, 444, 445, 446, 447, 448, 449, 450, 451, 452, 453, 409, 410, 411, 412, 413, 414, 415, 416] (by decide +kernel) (by decide +kernel)) (goodIn_sub (fun _ h => List.mem_append_right _ h) (by decide +kernel))) (goodIn_sub (fun _ h => List.mem_append_left _ (List.mem_append_left _ (List.mem_append_right _ h))) (by decide +kernel))
set_option maxRecDepth 20000 in
theorem gL_law_L_paid : GoodIn wsL_law (va_wsS RL 116 yL_paid wsL_paid) := goodIn_app (goodIn_of _ (by decide +kernel)) ggL_law_L_paid
set_option maxRecDepth 20000 in
theorem ggL_law_X3_paid : GoodIn wsL_law wsX3_paid := goodIn_r _ [309, 39, 134, 135, 136, 5, 137, 89, 93, 94, 95, 96, 97, 310, 311, 312, 313, 133, 98, 99, 100, 101, 417, 418, 419, 420, 421, 422, 423, 424, 425, 426, 427, 428, 429, 430, 431, 432, 433, 434, 435, 436, 437, 438, 439, 440, 441] (by decide +kernel) (by decide +kernel)
set_option maxRecDepth 20000 in
theorem gL_law_X3_paid : GoodIn wsL_law (wsV RL 118 RX3 yX3_paid wsX3_paid) := goodIn_app (goodIn_of _ (by decide +kernel)) ggL_law_X3_paid
set_option maxRecDepth 20000 in
theorem ggL_law_L_madeUp : GoodIn wsL_law wsL_madeUp := goodIn_ca (goodIn_ca (goodIn_r _ [316, 109, 49, 317, 318, 319, 2, 320, 115, 116, 117, 118, 119, 120, 56, 14, 59, 60, 61, 302, 303, 304, 305, 114, 62, 63, 64, 65, 66, 442, 443, 444, 445, 446, 447, 448, 449, 450, 451, 452, 453, 409, 410, 411, 412, 413, 414, 415, 416] (by decide +kernel) (by decide +kernel)) (goodIn_sub (fun _ h => List.mem_append_right _ h) (by decide +kernel))) (goodIn_sub (fun _ h => List.mem_append_left _ (List.mem_append_left _ (List.mem_append_right _ h))) (by decide +kernel))
set_option maxRecDepth 20000 in
theorem gL_law_L_madeUp : GoodIn wsL_law (va_wsS RL 119 yL_madeUp wsL_madeUp) := goodIn_app (goodIn_of _ (by decide +kernel)) ggL_law_L_madeUp
set_option maxRecDepth 20000 in
theorem ggL_law_X3_madeUp : GoodIn wsL_law wsX3_madeUp := goodIn_r _ [324, 40, 134, 135, 136, 5, 137, 89, 93, 94, 95, 96, 97, 310, 311, 312, 313, 133, 98, 99, 100, 101, 417, 418, 419, 420, 421, 422, 423, 424, 425, 426, 427, 428, 429, 430, 431, 432, 433, 434, 435, 436, 437, 438, 439, 440, 441] (by decide +kernel) (by decide +kernel)
set_option maxRecDepth 20000 in
theorem gL_law_X3_madeUp : GoodIn wsL_law (wsV RL 121 RX3 yX3_madeUp wsX3_madeUp) := goodIn_app (goodIn_of _ (by decide +kernel)) ggL_law_X3_madeUp
set_option maxRecDepth 20000 in
theorem ggL_law_L_cutWeeks : GoodIn wsL_law wsL_cutWeeks := goodIn_ca (goodIn_r _ [327, 109, 328, 329, 330, 2, 331, 115, 116, 117, 118, 119, 120, 56, 14, 59, 60, 61, 442, 443, 444, 445, 446, 447, 448, 449, 450, 451, 452, 453, 409, 410, 411, 412, 413, 414, 415, 416] (by decide +kernel) (by decide +kernel)) (goodIn_sub (fun _ h => List.mem_append_right _ h) (by decide +kernel))
set_option maxRecDepth 20000 in
theorem gL_law_L_cutWeeks : GoodIn wsL_law (va_wsS RL 122 yL_cutWeeks wsL_cutWeeks) := goodIn_app (goodIn_of _ (by decide +kernel)) ggL_law_L_cutWeeks
set_option maxRecDepth 20000 in
theorem ggL_law_X3_cutWeeks : GoodIn wsL_law wsX3_cutWeeks := goodIn_r _ [335, 31, 134, 135, 136, 5, 137, 89, 93, 94, 95, 96, 97, 417, 418, 419, 420, 421, 422, 423, 424, 425, 426, 427, 428, 429, 430, 431, 432, 433, 434, 435, 436, 437, 438, 439, 440, 441] (by decide +kernel) (by decide +kernel)
set_option maxRecDepth 20000 in
theorem gL_law_X3_cutWeeks : GoodIn wsL_law (wsV RL 124 RX3 yX3_cutWeeks wsX3_cutWeeks) := goodIn_app (goodIn_of _ (by decide +kernel)) ggL_law_X3_cutWeeks
set_option maxRecDepth 20000 in
theorem ggL_law_L_door : GoodIn wsL_law wsL_door := goodIn_ca (goodIn_ca (goodIn_ca (goodIn_r _ [338, 109, 49, 50, 339, 340, 341, 2, 342, 18, 115, 116, 117, 118, 119, 120, 56, 14, 59, 60, 61, 302, 303, 304, 305, 114, 62, 63, 64, 65, 66, 67, 68, 69, 70, 71, 409, 410, 411, 412, 413, 414, 415, 416, 442, 443, 444, 445, 446, 447, 448, 449, 450, 451, 452, 453] (by decide +kernel) (by decide +kernel)) (goodIn_sub (fun _ h => List.mem_append_right _ h) (by decide +kernel))) (goodIn_sub (fun _ h => List.mem_append_left _ (List.mem_append_left _ (List.mem_append_right _ h))) (by decide +kernel))) (goodIn_sub (fun _ h => List.mem_append_left _ (List.mem_append_right _ h)) (by decide +kernel))
set_option maxRecDepth 20000 in
theorem gL_law_L_door : GoodIn wsL_law (va_wsS RL 125 yL_door wsL_door) := goodIn_app (goodIn_of _ (by decide +kernel)) ggL_law_L_door
set_option maxRecDepth 20000 in
theorem ggL_law_X3_door : GoodIn wsL_law wsX3_door := goodIn_r _ [346, 44, 42, 134, 135, 136, 5, 137, 89, 93, 94, 95, 96, 97, 310, 311, 312, 313, 133, 90, 91, 92, 98, 99, 100, 101, 417, 418, 419, 420, 421, 422, 423, 424, 425, 426, 427, 428, 429, 430, 431, 432, 433, 434, 435, 436, 437, 438, 439, 440, 441] (by decide +kernel) (by decide +kernel)
set_option maxRecDepth 20000 in
theorem gL_law_X3_door : GoodIn wsL_law (wsV RL 128 RX3 yX3_door wsX3_door) := goodIn_app (goodIn_of _ (by decide +kernel)) ggL_law_X3_door
set_option maxRecDepth 20000 in
theorem ggL_law_L_mail : GoodIn wsL_law wsL_mail := goodIn_ca (goodIn_ca (goodIn_ca (goodIn_r _ [349, 109, 49, 50, 350, 351, 352, 2, 353, 18, 115, 116, 117, 118, 119, 120, 56, 14, 59, 60, 61, 302, 303, 304, 305, 114, 62, 63, 64, 65, 66, 67, 68, 69, 70, 71, 409, 410, 411, 412, 413, 414, 415, 416, 442, 443, 444, 445, 446, 447, 448, 449, 450, 451, 452, 453] (by decide +kernel) (by decide +kernel)) (goodIn_sub (fun _ h => List.mem_append_right _ h) (by decide +kernel))) (goodIn_sub (fun _ h => List.mem_append_left _ (List.mem_append_left _ (List.mem_append_right _ h))) (by decide +kernel))) (goodIn_sub (fun _ h => List.mem_append_left _ (List.mem_append_right _ h)) (by decide +kernel))
set_option maxRecDepth 20000 in
theorem gL_law_L_mail : GoodIn wsL_law (va_wsS RL 129 yL_mail wsL_mail) := goodIn_app (goodIn_of _ (by decide +kernel)) ggL_law_L_mail
set_option maxRecDepth 20000 in
theorem ggL_law_X3_mail : GoodIn wsL_law wsX3_mail := goodIn_r _ [357, 44, 43, 134, 135, 136, 5, 137, 89, 93, 94, 95, 96, 97, 310, 311, 312, 313, 133, 98, 99, 100, 101, 417, 418, 419, 420, 421, 422, 423, 424, 425, 426, 427, 428, 429, 430, 431, 432, 433, 434, 435, 436, 437, 438, 439, 440, 441] (by decide +kernel) (by decide +kernel)
set_option maxRecDepth 20000 in
theorem gL_law_X3_mail : GoodIn wsL_law (wsV RL 132 RX3 yX3_mail wsX3_mail) := goodIn_app (goodIn_of _ (by decide +kernel)) ggL_law_X3_mail
set_option maxRecDepth 20000 in
theorem ggL_law_L_check : GoodIn wsL_law wsL_check := goodIn_ca (goodIn_ca (goodIn_r _ [360, 49, 50, 361, 362, 363, 2, 364, 18, 14, 302, 303, 304, 305, 114, 59, 60, 61, 62, 63, 64, 65, 66, 67, 68, 69, 70, 71, 365, 366, 367, 58, 368, 78, 82, 81, 369, 370, 371, 372, 373, 409, 410, 411, 412, 413, 414, 415, 416, 442, 443, 444, 445, 446, 447, 448, 449, 450, 451, 452, 453] (by decide +kernel) (by decide +kernel)) (goodIn_sub (fun _ h => List.mem_append_left _ (List.mem_append_left _ (List.mem_append_right _ h))) (by decide +kernel))) (goodIn_sub (fun _ h => List.mem_append_left _ (List.mem_append_right _ h)) (by decide +kernel))
set_option maxRecDepth 20000 in
theorem gL_law_L_check : GoodIn wsL_law (va_wsS RL 133 yL_check wsL_check) := goodIn_app (goodIn_of _ (by decide +kernel)) ggL_law_L_check
set_option maxRecDepth 20000 in
theorem ggL_law_X3_check : GoodIn wsL_law wsX3_check := goodIn_r _ [377, 44, 89, 40, 42, 41, 43, 32, 378, 310, 311, 312, 5, 313, 133, 93, 94, 95, 96, 97, 98, 99, 100, 101, 417, 418, 419, 420, 421, 422, 423, 424, 425, 426, 427, 428, 429, 430, 431, 432, 433, 434, 435, 436, 437, 438, 439, 440, 441] (by decide +kernel) (by decide +kernel)
set_option maxRecDepth 20000 in
theorem gL_law_X3_check : GoodIn wsL_law (wsV RL 135 RX3 yX3_check wsX3_check) := goodIn_app (goodIn_of _ (by decide +kernel)) ggL_law_X3_check
set_option maxRecDepth 20000 in
theorem ggL_law_X2_firmOwes : GoodIn wsL_law wsX2_firmOwes := goodIn_r _ [382, 373, 409, 410, 411, 412, 413, 414, 415, 416] (by decide +kernel) (by decide +kernel)
set_option maxRecDepth 20000 in
theorem gL_law_X2_firmOwes : GoodIn wsL_law (wsV RL 136 RX2 yX2_firmOwes wsX2_firmOwes) := goodIn_app (goodIn_of _ (by decide +kernel)) ggL_law_X2_firmOwes
set_option maxRecDepth 20000 in
theorem ggL_law_X3_firmOwes : GoodIn wsL_law wsX3_firmOwes := goodIn_r _ [386, 97, 378, 417, 418, 419, 420, 421, 422, 423, 424, 425, 426, 427, 428, 429, 430, 431, 432, 433, 434, 435, 436, 437, 438, 439, 440, 441] (by decide +kernel) (by decide +kernel)
set_option maxRecDepth 20000 in
theorem gL_law_X3_firmOwes : GoodIn wsL_law (wsV RL 139 RX3 yX3_firmOwes wsX3_firmOwes) := goodIn_app (goodIn_of _ (by decide +kernel)) ggL_law_X3_firmOwes
set_option maxRecDepth 20000 in
theorem ggL_law_L_owes : GoodIn wsL_law wsL_owes := goodIn_ca (goodIn_r _ [389, 109, 390, 391, 392, 2, 393, 115, 116, 117, 118, 119, 120, 56, 14, 59, 60, 61, 442, 443, 444, 445, 446, 447, 448, 449, 450, 451, 452, 453, 409, 410, 411, 412, 413, 414, 415, 416] (by decide +kernel) (by decide +kernel)) (goodIn_sub (fun _ h => List.mem_append_right _ h) (by decide +kernel))
set_option maxRecDepth 20000 in
theorem gL_law_L_owes : GoodIn wsL_law (va_wsS RL 140 yL_owes wsL_owes) := goodIn_app (goodIn_of _ (by decide +kernel)) ggL_law_L_owes
set_option maxRecDepth 20000 in
theorem ggL_law_X3_owes : GoodIn wsL_law wsX3_owes := goodIn_r _ [397, 32, 134, 135, 136, 5, 137, 89, 93, 94, 95, 96, 97, 417, 418, 419, 420, 421, 422, 423, 424, 425, 426, 427, 428, 429, 430, 431, 432, 433, 434, 435, 436, 437, 438, 439, 440, 441] (by decide +kernel) (by decide +kernel)
set_option maxRecDepth 20000 in
theorem gL_law_X3_owes : GoodIn wsL_law (wsV RL 142 RX3 yX3_owes wsX3_owes) := goodIn_app (goodIn_of _ (by decide +kernel)) ggL_law_X3_owes
set_option maxRecDepth 20000 in
theorem ggL_law_L_net : GoodIn wsL_law wsL_net := goodIn_ca (goodIn_r _ [400, 109, 401, 402, 403, 2, 404, 115, 116, 117, 118, 119, 120, 56, 14, 59, 60, 61, 442, 443, 444, 445, 446, 447, 448, 449, 450, 451, 452, 453, 409, 410, 411, 412, 413, 414, 415, 416] (by decide +kernel) (by decide +kernel)) (goodIn_sub (fun _ h => List.mem_append_right _ h) (by decide +kernel))
set_option maxRecDepth 20000 in
theorem gL_law_L_net : GoodIn wsL_law (va_wsS RL 143 yL_net wsL_net) := goodIn_app (goodIn_of _ (by decide +kernel)) ggL_law_L_net
set_option maxRecDepth 20000 in
theorem ggL_law_X3_net : GoodIn wsL_law wsX3_net := goodIn_r _ [408, 32, 39, 40, 134, 135, 136, 5, 137, 89, 93, 94, 95, 96, 97, 417, 418, 419, 420, 421, 422, 423, 424, 425, 426, 427, 428, 429, 430, 431, 432, 433, 434, 435, 436, 437, 438, 439, 440, 441] (by decide +kernel) (by decide +kernel)
set_option maxRecDepth 20000 in
theorem gL_law_X3_net : GoodIn wsL_law (wsV RL 145 RX3 yX3_net wsX3_net) := goodIn_app (goodIn_of _ (by decide +kernel)) ggL_law_X3_net
end
section
theorem dX0_init_0 : decode cX0_init 0 = .ok (.aload_n 0, 1) := by decide +kernel
theorem dX0_init_1 : decode cX0_init 1 = .ok (.invokespecial 1, 3) := by decide +kernel
theorem dX0_init_4 : decode cX0_init 4 = .ok (.aload_n 0, 1) := by decide +kernel
theorem dX0_init_5 : decode cX0_init 5 = .ok (.iload_n 2, 1) := by decide +kernel
theorem dX0_init_6 : decode cX0_init 6 = .ok (.putfield 7, 3) := by decide +kernel
theorem dX0_init_9 : decode cX0_init 9 = .ok (.aload_n 0, 1) := by decide +kernel
theorem dX0_init_10 : decode cX0_init 10 = .ok (.iload_n 3, 1) := by decide +kernel
theorem dX0_init_11 : decode cX0_init 11 = .ok (.putfield 13, 3) := by decide +kernel
theorem dX0_init_14 : decode cX0_init 14 = .ok (.aload_n 0, 1) := by decide +kernel
theorem dX0_init_15 : decode cX0_init 15 = .ok (.iload 4, 2) := by decide +kernel
theorem dX0_init_17 : decode cX0_init 17 = .ok (.putfield 16, 3) := by decide +kernel
theorem dX0_init_20 : decode cX0_init 20 = .ok (.aload_n 0, 1) := by decide +kernel
theorem dX0_init_21 : decode cX0_init 21 = .ok (.iload_n 1, 1) := by decide +kernel
theorem dX0_init_22 : decode cX0_init 22 = .ok (.putfield 19, 3) := by decide +kernel
theorem dX0_init_25 : decode cX0_init 25 = .ok (.return_, 1) := by decide +kernel
theorem dX1_init_0 : decode cX1_init 0 = .ok (.aload_n 0, 1) := by decide +kernel
theorem dX1_init_1 : decode cX1_init 1 = .ok (.invokespecial 3, 3) := by decide +kernel
theorem dX1_init_4 : decode cX1_init 4 = .ok (.aload_n 0, 1) := by decide +kernel
theorem dX1_init_5 : decode cX1_init 5 = .ok (.iload_n 1, 1) := by decide +kernel
theorem dX1_init_6 : decode cX1_init 6 = .ok (.putfield 9, 3) := by decide +kernel
theorem dX1_init_9 : decode cX1_init 9 = .ok (.aload_n 0, 1) := by decide +kernel
theorem dX1_init_10 : decode cX1_init 10 = .ok (.iload_n 2, 1) := by decide +kernel
theorem dX1_init_11 : decode cX1_init 11 = .ok (.putfield 15, 3) := by decide +kernel
theorem dX1_init_14 : decode cX1_init 14 = .ok (.aload_n 0, 1) := by decide +kernel
theorem dX1_init_15 : decode cX1_init 15 = .ok (.sipush 201, 3) := by decide +kernel
theorem dX1_init_18 : decode cX1_init 18 = .ok (.newarray .int, 2) := by decide +kernel
theorem dX1_init_20 : decode cX1_init 20 = .ok (.putfield 19, 3) := by decide +kernel
theorem dX1_init_23 : decode cX1_init 23 = .ok (.aload_n 0, 1) := by decide +kernel
theorem dX1_init_24 : decode cX1_init 24 = .ok (.sipush 201, 3) := by decide +kernel
theorem dX1_init_27 : decode cX1_init 27 = .ok (.newarray .int, 2) := by decide +kernel
theorem dX1_init_29 : decode cX1_init 29 = .ok (.putfield 23, 3) := by decide +kernel
theorem dX1_init_32 : decode cX1_init 32 = .ok (.aload_n 0, 1) := by decide +kernel
theorem dX1_init_33 : decode cX1_init 33 = .ok (.sipush 201, 3) := by decide +kernel
theorem dX1_init_36 : decode cX1_init 36 = .ok (.newarray .int, 2) := by decide +kernel
theorem dX1_init_38 : decode cX1_init 38 = .ok (.putfield 26, 3) := by decide +kernel
theorem dX1_init_41 : decode cX1_init 41 = .ok (.aload_n 0, 1) := by decide +kernel
theorem dX1_init_42 : decode cX1_init 42 = .ok (.sipush 201, 3) := by decide +kernel
theorem dX1_init_45 : decode cX1_init 45 = .ok (.newarray .int, 2) := by decide +kernel
theorem dX1_init_47 : decode cX1_init 47 = .ok (.putfield 29, 3) := by decide +kernel
theorem dX1_init_50 : decode cX1_init 50 = .ok (.aload_n 0, 1) := by decide +kernel
theorem dX1_init_51 : decode cX1_init 51 = .ok (.sipush 201, 3) := by decide +kernel
theorem dX1_init_54 : decode cX1_init 54 = .ok (.newarray .int, 2) := by decide +kernel
theorem dX1_init_56 : decode cX1_init 56 = .ok (.putfield 32, 3) := by decide +kernel
theorem dX1_init_59 : decode cX1_init 59 = .ok (.aload_n 0, 1) := by decide +kernel
theorem dX1_init_60 : decode cX1_init 60 = .ok (.sipush 201, 3) := by decide +kernel
theorem dX1_init_63 : decode cX1_init 63 = .ok (.newarray .boolean, 2) := by decide +kernel
theorem dX1_init_65 : decode cX1_init 65 = .ok (.putfield 35, 3) := by decide +kernel
theorem dX1_init_68 : decode cX1_init 68 = .ok (.return_, 1) := by decide +kernel
theorem dX1_takeNotice_0 : decode cX1_takeNotice 0 = .ok (.iload_n 1, 1) := by decide +kernel
theorem dX1_takeNotice_1 : decode cX1_takeNotice 1 = .ok (.istore 4, 2) := by decide +kernel
theorem dX1_takeNotice_3 : decode cX1_takeNotice 3 = .ok (.iload 4, 2) := by decide +kernel
theorem dX1_takeNotice_5 : decode cX1_takeNotice 5 = .ok (.iload_n 2, 1) := by decide +kernel
theorem dX1_takeNotice_6 : decode cX1_takeNotice 6 = .ok (.if_icmp .gt 17, 3) := by decide +kernel
theorem dX1_takeNotice_9 : decode cX1_takeNotice 9 = .ok (.aload_n 0, 1) := by decide +kernel
theorem dX1_takeNotice_10 : decode cX1_takeNotice 10 = .ok (.getfield 19, 3) := by decide +kernel
theorem dX1_takeNotice_13 : decode cX1_takeNotice 13 = .ok (.iload 4, 2) := by decide +kernel
theorem dX1_takeNotice_15 : decode cX1_takeNotice 15 = .ok (.iload_n 3, 1) := by decide +kernel
theorem dX1_takeNotice_16 : decode cX1_takeNotice 16 = .ok (.iastore, 1) := by decide +kernel
theorem dX1_takeNotice_17 : decode cX1_takeNotice 17 = .ok (.iinc 4 1, 3) := by decide +kernel
theorem dX1_takeNotice_20 : decode cX1_takeNotice 20 = .ok (.goto (-17), 3) := by decide +kernel
theorem dX1_takeNotice_23 : decode cX1_takeNotice 23 = .ok (.aload_n 0, 1) := by decide +kernel
theorem dX1_takeNotice_24 : decode cX1_takeNotice 24 = .ok (.dup, 1) := by decide +kernel
theorem dX1_takeNotice_25 : decode cX1_takeNotice 25 = .ok (.getfield 39, 3) := by decide +kernel
theorem dX1_takeNotice_28 : decode cX1_takeNotice 28 = .ok (.iconst 1, 1) := by decide +kernel
theorem dX1_takeNotice_29 : decode cX1_takeNotice 29 = .ok (.iadd, 1) := by decide +kernel
theorem dX1_takeNotice_30 : decode cX1_takeNotice 30 = .ok (.putfield 39, 3) := by decide +kernel
theorem dX1_takeNotice_33 : decode cX1_takeNotice 33 = .ok (.return_, 1) := by decide +kernel
theorem dX1_hasNoCourseFrom_0 : decode cX1_hasNoCourseFrom 0 = .ok (.iload_n 1, 1) := by decide +kernel
theorem dX1_hasNoCourseFrom_1 : decode cX1_hasNoCourseFrom 1 = .ok (.istore_n 3, 1) := by decide +kernel
theorem dX1_hasNoCourseFrom_2 : decode cX1_hasNoCourseFrom 2 = .ok (.iload_n 3, 1) := by decide +kernel
theorem dX1_hasNoCourseFrom_3 : decode cX1_hasNoCourseFrom 3 = .ok (.iload_n 2, 1) := by decide +kernel
theorem dX1_hasNoCourseFrom_4 : decode cX1_hasNoCourseFrom 4 = .ok (.if_icmp .gt 20, 3) := by decide +kernel
theorem dX1_hasNoCourseFrom_7 : decode cX1_hasNoCourseFrom 7 = .ok (.aload_n 0, 1) := by decide +kernel
theorem dX1_hasNoCourseFrom_8 : decode cX1_hasNoCourseFrom 8 = .ok (.getfield 23, 3) := by decide +kernel
theorem dX1_hasNoCourseFrom_11 : decode cX1_hasNoCourseFrom 11 = .ok (.iload_n 3, 1) := by decide +kernel
theorem dX1_hasNoCourseFrom_12 : decode cX1_hasNoCourseFrom 12 = .ok (.iaload, 1) := by decide +kernel
theorem dX1_hasNoCourseFrom_13 : decode cX1_hasNoCourseFrom 13 = .ok (.ifCond .le 5, 3) := by decide +kernel
theorem dX1_hasNoCourseFrom_16 : decode cX1_hasNoCourseFrom 16 = .ok (.iconst 0, 1) := by decide +kernel
theorem dX1_hasNoCourseFrom_17 : decode cX1_hasNoCourseFrom 17 = .ok (.ireturn, 1) := by decide +kernel
theorem dX1_hasNoCourseFrom_18 : decode cX1_hasNoCourseFrom 18 = .ok (.iinc 3 1, 3) := by decide +kernel
theorem dX1_hasNoCourseFrom_21 : decode cX1_hasNoCourseFrom 21 = .ok (.goto (-19), 3) := by decide +kernel
theorem dX1_hasNoCourseFrom_24 : decode cX1_hasNoCourseFrom 24 = .ok (.iconst 1, 1) := by decide +kernel
theorem dX1_hasNoCourseFrom_25 : decode cX1_hasNoCourseFrom 25 = .ok (.ireturn, 1) := by decide +kernel
theorem dX1_goTo_0 : decode cX1_goTo 0 = .ok (.aload_n 1, 1) := by decide +kernel
theorem dX1_goTo_1 : decode cX1_goTo 1 = .ok (.getfield 42, 3) := by decide +kernel
theorem dX1_goTo_4 : decode cX1_goTo 4 = .ok (.istore_n 2, 1) := by decide +kernel
theorem dX1_goTo_5 : decode cX1_goTo 5 = .ok (.iload_n 2, 1) := by decide +kernel
theorem dX1_goTo_6 : decode cX1_goTo 6 = .ok (.aload_n 1, 1) := by decide +kernel
theorem dX1_goTo_7 : decode cX1_goTo 7 = .ok (.getfield 47, 3) := by decide +kernel
theorem dX1_goTo_10 : decode cX1_goTo 10 = .ok (.if_icmp .gt 19, 3) := by decide +kernel
theorem dX1_goTo_13 : decode cX1_goTo 13 = .ok (.aload_n 0, 1) := by decide +kernel
theorem dX1_goTo_14 : decode cX1_goTo 14 = .ok (.getfield 23, 3) := by decide +kernel
theorem dX1_goTo_17 : decode cX1_goTo 17 = .ok (.iload_n 2, 1) := by decide +kernel
theorem dX1_goTo_18 : decode cX1_goTo 18 = .ok (.aload_n 1, 1) := by decide +kernel
theorem dX1_goTo_19 : decode cX1_goTo 19 = .ok (.getfield 50, 3) := by decide +kernel
theorem dX1_goTo_22 : decode cX1_goTo 22 = .ok (.iastore, 1) := by decide +kernel
theorem dX1_goTo_23 : decode cX1_goTo 23 = .ok (.iinc 2 1, 3) := by decide +kernel
theorem dX1_goTo_26 : decode cX1_goTo 26 = .ok (.goto (-21), 3) := by decide +kernel
theorem dX1_goTo_29 : decode cX1_goTo 29 = .ok (.return_, 1) := by decide +kernel
theorem dX1_hasFilled_0 : decode cX1_hasFilled 0 = .ok (.aload_n 0, 1) := by decide +kernel
theorem dX1_hasFilled_1 : decode cX1_hasFilled 1 = .ok (.getfield 23, 3) := by decide +kernel
theorem dX1_hasFilled_4 : decode cX1_hasFilled 4 = .ok (.iload_n 1, 1) := by decide +kernel
theorem dX1_hasFilled_5 : decode cX1_hasFilled 5 = .ok (.iaload, 1) := by decide +kernel
theorem dX1_hasFilled_6 : decode cX1_hasFilled 6 = .ok (.ifCond .le 24, 3) := by decide +kernel
theorem dX1_hasFilled_9 : decode cX1_hasFilled 9 = .ok (.iconst 2, 1) := by decide +kernel
theorem dX1_hasFilled_10 : decode cX1_hasFilled 10 = .ok (.aload_n 0, 1) := by decide +kernel
theorem dX1_hasFilled_11 : decode cX1_hasFilled 11 = .ok (.getfield 23, 3) := by decide +kernel
theorem dX1_hasFilled_14 : decode cX1_hasFilled 14 = .ok (.iload_n 1, 1) := by decide +kernel
theorem dX1_hasFilled_15 : decode cX1_hasFilled 15 = .ok (.iaload, 1) := by decide +kernel
theorem dX1_hasFilled_16 : decode cX1_hasFilled 16 = .ok (.imul, 1) := by decide +kernel
theorem dX1_hasFilled_17 : decode cX1_hasFilled 17 = .ok (.aload_n 0, 1) := by decide +kernel
theorem dX1_hasFilled_18 : decode cX1_hasFilled 18 = .ok (.getfield 19, 3) := by decide +kernel
theorem dX1_hasFilled_21 : decode cX1_hasFilled 21 = .ok (.iload_n 1, 1) := by decide +kernel
theorem dX1_hasFilled_22 : decode cX1_hasFilled 22 = .ok (.iaload, 1) := by decide +kernel
theorem dX1_hasFilled_23 : decode cX1_hasFilled 23 = .ok (.if_icmp .lt 7, 3) := by decide +kernel
theorem dX1_hasFilled_26 : decode cX1_hasFilled 26 = .ok (.iconst 1, 1) := by decide +kernel
theorem dX1_hasFilled_27 : decode cX1_hasFilled 27 = .ok (.goto 4, 3) := by decide +kernel
theorem dX1_hasFilled_30 : decode cX1_hasFilled 30 = .ok (.iconst 0, 1) := by decide +kernel
theorem dX1_hasFilled_31 : decode cX1_hasFilled 31 = .ok (.ireturn, 1) := by decide +kernel
theorem dX1_payFor_0 : decode cX1_payFor 0 = .ok (.aload_n 0, 1) := by decide +kernel
theorem dX1_payFor_1 : decode cX1_payFor 1 = .ok (.getfield 9, 3) := by decide +kernel
theorem dX1_payFor_4 : decode cX1_payFor 4 = .ok (.bipush 40, 2) := by decide +kernel
theorem dX1_payFor_6 : decode cX1_payFor 6 = .ok (.aload_n 0, 1) := by decide +kernel
theorem dX1_payFor_7 : decode cX1_payFor 7 = .ok (.getfield 19, 3) := by decide +kernel
theorem dX1_payFor_10 : decode cX1_payFor 10 = .ok (.iload_n 1, 1) := by decide +kernel
theorem dX1_payFor_11 : decode cX1_payFor 11 = .ok (.iaload, 1) := by decide +kernel
theorem dX1_payFor_12 : decode cX1_payFor 12 = .ok (.isub, 1) := by decide +kernel
theorem dX1_payFor_13 : decode cX1_payFor 13 = .ok (.imul, 1) := by decide +kernel
theorem dX1_payFor_14 : decode cX1_payFor 14 = .ok (.bipush 40, 2) := by decide +kernel
theorem dX1_payFor_16 : decode cX1_payFor 16 = .ok (.idiv, 1) := by decide +kernel
theorem dX1_payFor_17 : decode cX1_payFor 17 = .ok (.istore_n 3, 1) := by decide +kernel
theorem dX1_payFor_18 : decode cX1_payFor 18 = .ok (.aload_n 0, 1) := by decide +kernel
theorem dX1_payFor_19 : decode cX1_payFor 19 = .ok (.getfield 9, 3) := by decide +kernel
theorem dX1_payFor_22 : decode cX1_payFor 22 = .ok (.iload_n 3, 1) := by decide +kernel
theorem dX1_payFor_23 : decode cX1_payFor 23 = .ok (.isub, 1) := by decide +kernel
theorem dX1_payFor_24 : decode cX1_payFor 24 = .ok (.aload_n 0, 1) := by decide +kernel
theorem dX1_payFor_25 : decode cX1_payFor 25 = .ok (.iload_n 1, 1) := by decide +kernel
theorem dX1_payFor_26 : decode cX1_payFor 26 = .ok (.invokevirtual 53, 3) := by decide +kernel
theorem dX1_payFor_29 : decode cX1_payFor 29 = .ok (.imul, 1) := by decide +kernel
theorem dX1_payFor_30 : decode cX1_payFor 30 = .ok (.bipush 100, 2) := by decide +kernel
theorem dX1_payFor_32 : decode cX1_payFor 32 = .ok (.idiv, 1) := by decide +kernel
theorem dX1_payFor_33 : decode cX1_payFor 33 = .ok (.istore 4, 2) := by decide +kernel
theorem dX1_payFor_35 : decode cX1_payFor 35 = .ok (.aload_n 0, 1) := by decide +kernel
theorem dX1_payFor_36 : decode cX1_payFor 36 = .ok (.getfield 9, 3) := by decide +kernel
theorem dX1_payFor_39 : decode cX1_payFor 39 = .ok (.iload_n 2, 1) := by decide +kernel
theorem dX1_payFor_40 : decode cX1_payFor 40 = .ok (.imul, 1) := by decide +kernel
theorem dX1_payFor_41 : decode cX1_payFor 41 = .ok (.bipush 100, 2) := by decide +kernel
theorem dX1_payFor_43 : decode cX1_payFor 43 = .ok (.idiv, 1) := by decide +kernel
theorem dX1_payFor_44 : decode cX1_payFor 44 = .ok (.istore 5, 2) := by decide +kernel
theorem dX1_payFor_46 : decode cX1_payFor 46 = .ok (.iload 4, 2) := by decide +kernel
theorem dX1_payFor_48 : decode cX1_payFor 48 = .ok (.iload 5, 2) := by decide +kernel
theorem dX1_payFor_50 : decode cX1_payFor 50 = .ok (.iload_n 3, 1) := by decide +kernel
theorem dX1_payFor_51 : decode cX1_payFor 51 = .ok (.isub, 1) := by decide +kernel
theorem dX1_payFor_52 : decode cX1_payFor 52 = .ok (.invokestatic 57, 3) := by decide +kernel
theorem dX1_payFor_55 : decode cX1_payFor 55 = .ok (.istore 4, 2) := by decide +kernel
theorem dX1_payFor_57 : decode cX1_payFor 57 = .ok (.aload_n 0, 1) := by decide +kernel
theorem dX1_payFor_58 : decode cX1_payFor 58 = .ok (.getfield 26, 3) := by decide +kernel
theorem dX1_payFor_61 : decode cX1_payFor 61 = .ok (.iload_n 1, 1) := by decide +kernel
theorem dX1_payFor_62 : decode cX1_payFor 62 = .ok (.iload_n 3, 1) := by decide +kernel
theorem dX1_payFor_63 : decode cX1_payFor 63 = .ok (.iastore, 1) := by decide +kernel
theorem dX1_payFor_64 : decode cX1_payFor 64 = .ok (.aload_n 0, 1) := by decide +kernel
theorem dX1_payFor_65 : decode cX1_payFor 65 = .ok (.getfield 29, 3) := by decide +kernel
theorem dX1_payFor_68 : decode cX1_payFor 68 = .ok (.iload_n 1, 1) := by decide +kernel
theorem dX1_payFor_69 : decode cX1_payFor 69 = .ok (.iload 4, 2) := by decide +kernel
theorem dX1_payFor_71 : decode cX1_payFor 71 = .ok (.iastore, 1) := by decide +kernel
theorem dX1_payFor_72 : decode cX1_payFor 72 = .ok (.aload_n 0, 1) := by decide +kernel
theorem dX1_payFor_73 : decode cX1_payFor 73 = .ok (.dup, 1) := by decide +kernel
theorem dX1_payFor_74 : decode cX1_payFor 74 = .ok (.getfield 63, 3) := by decide +kernel
theorem dX1_payFor_77 : decode cX1_payFor 77 = .ok (.iload_n 3, 1) := by decide +kernel
theorem dX1_payFor_78 : decode cX1_payFor 78 = .ok (.iload 4, 2) := by decide +kernel
theorem dX1_payFor_80 : decode cX1_payFor 80 = .ok (.iadd, 1) := by decide +kernel
theorem dX1_payFor_81 : decode cX1_payFor 81 = .ok (.iadd, 1) := by decide +kernel
theorem dX1_payFor_82 : decode cX1_payFor 82 = .ok (.putfield 63, 3) := by decide +kernel
theorem dX1_payFor_85 : decode cX1_payFor 85 = .ok (.aload_n 0, 1) := by decide +kernel
theorem dX1_payFor_86 : decode cX1_payFor 86 = .ok (.getfield 19, 3) := by decide +kernel
theorem dX1_payFor_89 : decode cX1_payFor 89 = .ok (.iload_n 1, 1) := by decide +kernel
theorem dX1_payFor_90 : decode cX1_payFor 90 = .ok (.iaload, 1) := by decide +kernel
theorem dX1_payFor_91 : decode cX1_payFor 91 = .ok (.ifCond .le 13, 3) := by decide +kernel
theorem dX1_payFor_94 : decode cX1_payFor 94 = .ok (.aload_n 0, 1) := by decide +kernel
theorem dX1_payFor_95 : decode cX1_payFor 95 = .ok (.dup, 1) := by decide +kernel
theorem dX1_payFor_96 : decode cX1_payFor 96 = .ok (.getfield 66, 3) := by decide +kernel
theorem dX1_payFor_99 : decode cX1_payFor 99 = .ok (.iconst 1, 1) := by decide +kernel
theorem dX1_payFor_100 : decode cX1_payFor 100 = .ok (.iadd, 1) := by decide +kernel
theorem dX1_payFor_101 : decode cX1_payFor 101 = .ok (.putfield 66, 3) := by decide +kernel
theorem dX1_payFor_104 : decode cX1_payFor 104 = .ok (.iload 4, 2) := by decide +kernel
theorem dX1_payFor_106 : decode cX1_payFor 106 = .ok (.ireturn, 1) := by decide +kernel
theorem dX1_madeUpPercent_0 : decode cX1_madeUpPercent 0 = .ok (.aload_n 0, 1) := by decide +kernel
theorem dX1_madeUpPercent_1 : decode cX1_madeUpPercent 1 = .ok (.invokevirtual 69, 3) := by decide +kernel
theorem dX1_madeUpPercent_4 : decode cX1_madeUpPercent 4 = .ok (.istore_n 2, 1) := by decide +kernel
theorem dX1_madeUpPercent_5 : decode cX1_madeUpPercent 5 = .ok (.aload_n 0, 1) := by decide +kernel
theorem dX1_madeUpPercent_6 : decode cX1_madeUpPercent 6 = .ok (.getfield 15, 3) := by decide +kernel
theorem dX1_madeUpPercent_9 : decode cX1_madeUpPercent 9 = .ok (.ifCond .eq 6, 3) := by decide +kernel
theorem dX1_madeUpPercent_12 : decode cX1_madeUpPercent 12 = .ok (.iinc 2 7, 3) := by decide +kernel
theorem dX1_madeUpPercent_15 : decode cX1_madeUpPercent 15 = .ok (.aload_n 0, 1) := by decide +kernel
theorem dX1_madeUpPercent_16 : decode cX1_madeUpPercent 16 = .ok (.iload_n 1, 1) := by decide +kernel
theorem dX1_madeUpPercent_17 : decode cX1_madeUpPercent 17 = .ok (.invokevirtual 73, 3) := by decide +kernel
theorem dX1_madeUpPercent_20 : decode cX1_madeUpPercent 20 = .ok (.ifCond .eq 9, 3) := by decide +kernel
theorem dX1_madeUpPercent_23 : decode cX1_madeUpPercent 23 = .ok (.iinc 2 5, 3) := by decide +kernel
theorem dX1_madeUpPercent_26 : decode cX1_madeUpPercent 26 = .ok (.goto 15, 3) := by decide +kernel
theorem dX1_madeUpPercent_29 : decode cX1_madeUpPercent 29 = .ok (.aload_n 0, 1) := by decide +kernel
theorem dX1_madeUpPercent_30 : decode cX1_madeUpPercent 30 = .ok (.getfield 66, 3) := by decide +kernel
theorem dX1_madeUpPercent_33 : decode cX1_madeUpPercent 33 = .ok (.bipush 12, 2) := by decide +kernel
theorem dX1_madeUpPercent_35 : decode cX1_madeUpPercent 35 = .ok (.if_icmp .lt 6, 3) := by decide +kernel
theorem dX1_madeUpPercent_38 : decode cX1_madeUpPercent 38 = .ok (.iinc 2 (-10), 3) := by decide +kernel
theorem dX1_madeUpPercent_41 : decode cX1_madeUpPercent 41 = .ok (.iload_n 2, 1) := by decide +kernel
theorem dX1_madeUpPercent_42 : decode cX1_madeUpPercent 42 = .ok (.ireturn, 1) := by decide +kernel
theorem dX1_stepPercent_0 : decode cX1_stepPercent 0 = .ok (.aload_n 0, 1) := by decide +kernel
theorem dX1_stepPercent_1 : decode cX1_stepPercent 1 = .ok (.getfield 66, 3) := by decide +kernel
theorem dX1_stepPercent_4 : decode cX1_stepPercent 4 = .ok (.bipush 24, 2) := by decide +kernel
theorem dX1_stepPercent_6 : decode cX1_stepPercent 6 = .ok (.if_icmp .lt 6, 3) := by decide +kernel
theorem dX1_stepPercent_9 : decode cX1_stepPercent 9 = .ok (.bipush 80, 2) := by decide +kernel
theorem dX1_stepPercent_11 : decode cX1_stepPercent 11 = .ok (.ireturn, 1) := by decide +kernel
theorem dX1_stepPercent_12 : decode cX1_stepPercent 12 = .ok (.aload_n 0, 1) := by decide +kernel
theorem dX1_stepPercent_13 : decode cX1_stepPercent 13 = .ok (.getfield 66, 3) := by decide +kernel
theorem dX1_stepPercent_16 : decode cX1_stepPercent 16 = .ok (.bipush 12, 2) := by decide +kernel
theorem dX1_stepPercent_18 : decode cX1_stepPercent 18 = .ok (.if_icmp .lt 8, 3) := by decide +kernel
theorem dX1_stepPercent_21 : decode cX1_stepPercent 21 = .ok (.bipush 70, 2) := by decide +kernel
theorem dX1_stepPercent_23 : decode cX1_stepPercent 23 = .ok (.goto 5, 3) := by decide +kernel
theorem dX1_stepPercent_26 : decode cX1_stepPercent 26 = .ok (.bipush 60, 2) := by decide +kernel
theorem dX1_stepPercent_28 : decode cX1_stepPercent 28 = .ok (.ireturn, 1) := by decide +kernel
theorem dX1_hasWorkedTooMuch_0 : decode cX1_hasWorkedTooMuch 0 = .ok (.bipush 40, 2) := by decide +kernel
theorem dX1_hasWorkedTooMuch_2 : decode cX1_hasWorkedTooMuch 2 = .ok (.aload_n 0, 1) := by decide +kernel
theorem dX1_hasWorkedTooMuch_3 : decode cX1_hasWorkedTooMuch 3 = .ok (.getfield 19, 3) := by decide +kernel
theorem dX1_hasWorkedTooMuch_6 : decode cX1_hasWorkedTooMuch 6 = .ok (.iload_n 1, 1) := by decide +kernel
theorem dX1_hasWorkedTooMuch_7 : decode cX1_hasWorkedTooMuch 7 = .ok (.iaload, 1) := by decide +kernel
theorem dX1_hasWorkedTooMuch_8 : decode cX1_hasWorkedTooMuch 8 = .ok (.isub, 1) := by decide +kernel
theorem dX1_hasWorkedTooMuch_9 : decode cX1_hasWorkedTooMuch 9 = .ok (.iconst 2, 1) := by decide +kernel
theorem dX1_hasWorkedTooMuch_10 : decode cX1_hasWorkedTooMuch 10 = .ok (.iadd, 1) := by decide +kernel
theorem dX1_hasWorkedTooMuch_11 : decode cX1_hasWorkedTooMuch 11 = .ok (.istore_n 2, 1) := by decide +kernel
theorem dX1_hasWorkedTooMuch_12 : decode cX1_hasWorkedTooMuch 12 = .ok (.aload_n 0, 1) := by decide +kernel
theorem dX1_hasWorkedTooMuch_13 : decode cX1_hasWorkedTooMuch 13 = .ok (.getfield 32, 3) := by decide +kernel
theorem dX1_hasWorkedTooMuch_16 : decode cX1_hasWorkedTooMuch 16 = .ok (.iload_n 1, 1) := by decide +kernel
theorem dX1_hasWorkedTooMuch_17 : decode cX1_hasWorkedTooMuch 17 = .ok (.iaload, 1) := by decide +kernel
theorem dX1_hasWorkedTooMuch_18 : decode cX1_hasWorkedTooMuch 18 = .ok (.iload_n 2, 1) := by decide +kernel
theorem dX1_hasWorkedTooMuch_19 : decode cX1_hasWorkedTooMuch 19 = .ok (.if_icmp .le 16, 3) := by decide +kernel
theorem dX1_hasWorkedTooMuch_22 : decode cX1_hasWorkedTooMuch 22 = .ok (.aload_n 0, 1) := by decide +kernel
theorem dX1_hasWorkedTooMuch_23 : decode cX1_hasWorkedTooMuch 23 = .ok (.getfield 29, 3) := by decide +kernel
theorem dX1_hasWorkedTooMuch_26 : decode cX1_hasWorkedTooMuch 26 = .ok (.iload_n 1, 1) := by decide +kernel
theorem dX1_hasWorkedTooMuch_27 : decode cX1_hasWorkedTooMuch 27 = .ok (.iaload, 1) := by decide +kernel
theorem dX1_hasWorkedTooMuch_28 : decode cX1_hasWorkedTooMuch 28 = .ok (.ifCond .le 7, 3) := by decide +kernel
theorem dX1_hasWorkedTooMuch_31 : decode cX1_hasWorkedTooMuch 31 = .ok (.iconst 1, 1) := by decide +kernel
theorem dX1_hasWorkedTooMuch_32 : decode cX1_hasWorkedTooMuch 32 = .ok (.goto 4, 3) := by decide +kernel
theorem dX1_hasWorkedTooMuch_35 : decode cX1_hasWorkedTooMuch 35 = .ok (.iconst 0, 1) := by decide +kernel
theorem dX1_hasWorkedTooMuch_36 : decode cX1_hasWorkedTooMuch 36 = .ok (.ireturn, 1) := by decide +kernel
theorem dX2_init_0 : decode cX2_init 0 = .ok (.aload_n 0, 1) := by decide +kernel
theorem dX2_init_1 : decode cX2_init 1 = .ok (.invokespecial 3, 3) := by decide +kernel
theorem dX2_init_4 : decode cX2_init 4 = .ok (.aload_n 0, 1) := by decide +kernel
theorem dX2_init_5 : decode cX2_init 5 = .ok (.bipush 8, 2) := by decide +kernel
theorem dX2_init_7 : decode cX2_init 7 = .ok (.anewarray 9, 3) := by decide +kernel
theorem dX2_init_10 : decode cX2_init 10 = .ok (.putfield 11, 3) := by decide +kernel
theorem dX2_init_13 : decode cX2_init 13 = .ok (.aload_n 0, 1) := by decide +kernel
theorem dX2_init_14 : decode cX2_init 14 = .ok (.bipush 10, 2) := by decide +kernel
theorem dX2_init_16 : decode cX2_init 16 = .ok (.anewarray 15, 3) := by decide +kernel
theorem dX2_init_19 : decode cX2_init 19 = .ok (.putfield 17, 3) := by decide +kernel
theorem dX2_init_22 : decode cX2_init 22 = .ok (.aload_n 0, 1) := by decide +kernel
theorem dX2_init_23 : decode cX2_init 23 = .ok (.sipush 201, 3) := by decide +kernel
theorem dX2_init_26 : decode cX2_init 26 = .ok (.newarray .boolean, 2) := by decide +kernel
theorem dX2_init_28 : decode cX2_init 28 = .ok (.putfield 21, 3) := by decide +kernel
theorem dX2_init_31 : decode cX2_init 31 = .ok (.aload_n 0, 1) := by decide +kernel
theorem dX2_init_32 : decode cX2_init 32 = .ok (.bipush 50, 2) := by decide +kernel
theorem dX2_init_34 : decode cX2_init 34 = .ok (.putfield 25, 3) := by decide +kernel
theorem dX2_init_37 : decode cX2_init 37 = .ok (.return_, 1) := by decide +kernel
theorem dX2_add_0 : decode cX2_add 0 = .ok (.iload_n 1, 1) := by decide +kernel
theorem dX2_add_1 : decode cX2_add 1 = .ok (.iconst 1, 1) := by decide +kernel
theorem dX2_add_2 : decode cX2_add 2 = .ok (.ldc 29, 2) := by decide +kernel
theorem dX2_add_4 : decode cX2_add 4 = .ok (.invokestatic 30, 3) := by decide +kernel
theorem dX2_add_7 : decode cX2_add 7 = .ok (.invokestatic 34, 3) := by decide +kernel
theorem dX2_add_10 : decode cX2_add 10 = .ok (.aload_n 0, 1) := by decide +kernel
theorem dX2_add_11 : decode cX2_add 11 = .ok (.getfield 38, 3) := by decide +kernel
theorem dX2_add_14 : decode cX2_add 14 = .ok (.bipush 8, 2) := by decide +kernel
theorem dX2_add_16 : decode cX2_add 16 = .ok (.if_icmp .ge 7, 3) := by decide +kernel
theorem dX2_add_19 : decode cX2_add 19 = .ok (.iconst 1, 1) := by decide +kernel
theorem dX2_add_20 : decode cX2_add 20 = .ok (.goto 4, 3) := by decide +kernel
theorem dX2_add_23 : decode cX2_add 23 = .ok (.iconst 0, 1) := by decide +kernel
theorem dX2_add_24 : decode cX2_add 24 = .ok (.invokestatic 41, 3) := by decide +kernel
theorem dX2_add_27 : decode cX2_add 27 = .ok (.aload_n 0, 1) := by decide +kernel
theorem dX2_add_28 : decode cX2_add 28 = .ok (.getfield 38, 3) := by decide +kernel
theorem dX2_add_31 : decode cX2_add 31 = .ok (.istore_n 3, 1) := by decide +kernel
theorem dX2_add_32 : decode cX2_add 32 = .ok (.aload_n 0, 1) := by decide +kernel
theorem dX2_add_33 : decode cX2_add 33 = .ok (.getfield 11, 3) := by decide +kernel
theorem dX2_add_36 : decode cX2_add 36 = .ok (.iload_n 3, 1) := by decide +kernel
theorem dX2_add_37 : decode cX2_add 37 = .ok (.new 9, 3) := by decide +kernel
theorem dX2_add_40 : decode cX2_add 40 = .ok (.dup, 1) := by decide +kernel
theorem dX2_add_41 : decode cX2_add 41 = .ok (.iload_n 1, 1) := by decide +kernel
theorem dX2_add_42 : decode cX2_add 42 = .ok (.iload_n 2, 1) := by decide +kernel
theorem dX2_add_43 : decode cX2_add 43 = .ok (.invokespecial 44, 3) := by decide +kernel
theorem dX2_add_46 : decode cX2_add 46 = .ok (.aastore, 1) := by decide +kernel
theorem dX2_add_47 : decode cX2_add 47 = .ok (.aload_n 0, 1) := by decide +kernel
theorem dX2_add_48 : decode cX2_add 48 = .ok (.iload_n 3, 1) := by decide +kernel
theorem dX2_add_49 : decode cX2_add 49 = .ok (.iconst 1, 1) := by decide +kernel
theorem dX2_add_50 : decode cX2_add 50 = .ok (.iadd, 1) := by decide +kernel
theorem dX2_add_51 : decode cX2_add 51 = .ok (.putfield 38, 3) := by decide +kernel
theorem dX2_add_54 : decode cX2_add 54 = .ok (.iload_n 3, 1) := by decide +kernel
theorem dX2_add_55 : decode cX2_add 55 = .ok (.ireturn, 1) := by decide +kernel
theorem dX2_notice_0 : decode cX2_notice 0 = .ok (.aload_n 0, 1) := by decide +kernel
theorem dX2_notice_1 : decode cX2_notice 1 = .ok (.iload_n 1, 1) := by decide +kernel
theorem dX2_notice_2 : decode cX2_notice 2 = .ok (.invokevirtual 47, 3) := by decide +kernel
theorem dX2_notice_5 : decode cX2_notice 5 = .ok (.astore 5, 2) := by decide +kernel
theorem dX2_notice_7 : decode cX2_notice 7 = .ok (.iload_n 2, 1) := by decide +kernel
theorem dX2_notice_8 : decode cX2_notice 8 = .ok (.iload_n 3, 1) := by decide +kernel
theorem dX2_notice_9 : decode cX2_notice 9 = .ok (.invokestatic 51, 3) := by decide +kernel
theorem dX2_notice_12 : decode cX2_notice 12 = .ok (.ifCond .eq 18, 3) := by decide +kernel
theorem dX2_notice_15 : decode cX2_notice 15 = .ok (.iload 4, 2) := by decide +kernel
theorem dX2_notice_17 : decode cX2_notice 17 = .ok (.iconst 0, 1) := by decide +kernel
theorem dX2_notice_18 : decode cX2_notice 18 = .ok (.bipush 40, 2) := by decide +kernel
theorem dX2_notice_20 : decode cX2_notice 20 = .ok (.invokestatic 30, 3) := by decide +kernel
theorem dX2_notice_23 : decode cX2_notice 23 = .ok (.ifCond .eq 7, 3) := by decide +kernel
theorem dX2_notice_26 : decode cX2_notice 26 = .ok (.iconst 1, 1) := by decide +kernel
theorem dX2_notice_27 : decode cX2_notice 27 = .ok (.goto 4, 3) := by decide +kernel
theorem dX2_notice_30 : decode cX2_notice 30 = .ok (.iconst 0, 1) := by decide +kernel
theorem dX2_notice_31 : decode cX2_notice 31 = .ok (.invokestatic 34, 3) := by decide +kernel
theorem dX2_notice_34 : decode cX2_notice 34 = .ok (.iload_n 2, 1) := by decide +kernel
theorem dX2_notice_35 : decode cX2_notice 35 = .ok (.aload_n 0, 1) := by decide +kernel
theorem dX2_notice_36 : decode cX2_notice 36 = .ok (.getfield 55, 3) := by decide +kernel
theorem dX2_notice_39 : decode cX2_notice 39 = .ok (.iconst 2, 1) := by decide +kernel
theorem dX2_notice_40 : decode cX2_notice 40 = .ok (.iadd, 1) := by decide +kernel
theorem dX2_notice_41 : decode cX2_notice 41 = .ok (.if_icmp .lt 17, 3) := by decide +kernel
theorem dX2_notice_44 : decode cX2_notice 44 = .ok (.aload 5, 2) := by decide +kernel
theorem dX2_notice_46 : decode cX2_notice 46 = .ok (.getfield 58, 3) := by decide +kernel
theorem dX2_notice_49 : decode cX2_notice 49 = .ok (.bipush 30, 2) := by decide +kernel
theorem dX2_notice_51 : decode cX2_notice 51 = .ok (.if_icmp .ge 7, 3) := by decide +kernel
theorem dX2_notice_54 : decode cX2_notice 54 = .ok (.iconst 1, 1) := by decide +kernel
theorem dX2_notice_55 : decode cX2_notice 55 = .ok (.goto 4, 3) := by decide +kernel
theorem dX2_notice_58 : decode cX2_notice 58 = .ok (.iconst 0, 1) := by decide +kernel
theorem dX2_notice_59 : decode cX2_notice 59 = .ok (.invokestatic 41, 3) := by decide +kernel
theorem dX2_notice_62 : decode cX2_notice 62 = .ok (.aload 5, 2) := by decide +kernel
theorem dX2_notice_64 : decode cX2_notice 64 = .ok (.iload_n 2, 1) := by decide +kernel
theorem dX2_notice_65 : decode cX2_notice 65 = .ok (.iload_n 3, 1) := by decide +kernel
theorem dX2_notice_66 : decode cX2_notice 66 = .ok (.iload 4, 2) := by decide +kernel
theorem dX2_notice_68 : decode cX2_notice 68 = .ok (.invokevirtual 61, 3) := by decide +kernel
theorem dX2_notice_71 : decode cX2_notice 71 = .ok (.aload 5, 2) := by decide +kernel
theorem dX2_notice_73 : decode cX2_notice 73 = .ok (.getfield 58, 3) := by decide +kernel
theorem dX2_notice_76 : decode cX2_notice 76 = .ok (.ireturn, 1) := by decide +kernel
theorem dX2_addCourse_0 : decode cX2_addCourse 0 = .ok (.iload_n 1, 1) := by decide +kernel
theorem dX2_addCourse_1 : decode cX2_addCourse 1 = .ok (.iconst 1, 1) := by decide +kernel
theorem dX2_addCourse_2 : decode cX2_addCourse 2 = .ok (.bipush 8, 2) := by decide +kernel
theorem dX2_addCourse_4 : decode cX2_addCourse 4 = .ok (.invokestatic 30, 3) := by decide +kernel
theorem dX2_addCourse_7 : decode cX2_addCourse 7 = .ok (.ifCond .eq 26, 3) := by decide +kernel
theorem dX2_addCourse_10 : decode cX2_addCourse 10 = .ok (.iload_n 2, 1) := by decide +kernel
theorem dX2_addCourse_11 : decode cX2_addCourse 11 = .ok (.iload_n 3, 1) := by decide +kernel
theorem dX2_addCourse_12 : decode cX2_addCourse 12 = .ok (.invokestatic 51, 3) := by decide +kernel
theorem dX2_addCourse_15 : decode cX2_addCourse 15 = .ok (.ifCond .eq 18, 3) := by decide +kernel
theorem dX2_addCourse_18 : decode cX2_addCourse 18 = .ok (.iload 4, 2) := by decide +kernel
theorem dX2_addCourse_20 : decode cX2_addCourse 20 = .ok (.iconst 1, 1) := by decide +kernel
theorem dX2_addCourse_21 : decode cX2_addCourse 21 = .ok (.bipush 40, 2) := by decide +kernel
theorem dX2_addCourse_23 : decode cX2_addCourse 23 = .ok (.invokestatic 30, 3) := by decide +kernel
theorem dX2_addCourse_26 : decode cX2_addCourse 26 = .ok (.ifCond .eq 7, 3) := by decide +kernel
theorem dX2_addCourse_29 : decode cX2_addCourse 29 = .ok (.iconst 1, 1) := by decide +kernel
theorem dX2_addCourse_30 : decode cX2_addCourse 30 = .ok (.goto 4, 3) := by decide +kernel
theorem dX2_addCourse_33 : decode cX2_addCourse 33 = .ok (.iconst 0, 1) := by decide +kernel
theorem dX2_addCourse_34 : decode cX2_addCourse 34 = .ok (.invokestatic 34, 3) := by decide +kernel
theorem dX2_addCourse_37 : decode cX2_addCourse 37 = .ok (.aload_n 0, 1) := by decide +kernel
theorem dX2_addCourse_38 : decode cX2_addCourse 38 = .ok (.getfield 65, 3) := by decide +kernel
theorem dX2_addCourse_41 : decode cX2_addCourse 41 = .ok (.bipush 10, 2) := by decide +kernel
theorem dX2_addCourse_43 : decode cX2_addCourse 43 = .ok (.if_icmp .ge 7, 3) := by decide +kernel
theorem dX2_addCourse_46 : decode cX2_addCourse 46 = .ok (.iconst 1, 1) := by decide +kernel
theorem dX2_addCourse_47 : decode cX2_addCourse 47 = .ok (.goto 4, 3) := by decide +kernel
theorem dX2_addCourse_50 : decode cX2_addCourse 50 = .ok (.iconst 0, 1) := by decide +kernel
theorem dX2_addCourse_51 : decode cX2_addCourse 51 = .ok (.invokestatic 41, 3) := by decide +kernel
theorem dX2_addCourse_54 : decode cX2_addCourse 54 = .ok (.aload_n 0, 1) := by decide +kernel
theorem dX2_addCourse_55 : decode cX2_addCourse 55 = .ok (.getfield 65, 3) := by decide +kernel
theorem dX2_addCourse_58 : decode cX2_addCourse 58 = .ok (.istore 5, 2) := by decide +kernel
theorem dX2_addCourse_60 : decode cX2_addCourse 60 = .ok (.aload_n 0, 1) := by decide +kernel
theorem dX2_addCourse_61 : decode cX2_addCourse 61 = .ok (.getfield 17, 3) := by decide +kernel
theorem dX2_addCourse_64 : decode cX2_addCourse 64 = .ok (.iload 5, 2) := by decide +kernel
theorem dX2_addCourse_66 : decode cX2_addCourse 66 = .ok (.new 15, 3) := by decide +kernel
theorem dX2_addCourse_69 : decode cX2_addCourse 69 = .ok (.dup, 1) := by decide +kernel
theorem dX2_addCourse_70 : decode cX2_addCourse 70 = .ok (.iload_n 1, 1) := by decide +kernel
theorem dX2_addCourse_71 : decode cX2_addCourse 71 = .ok (.iload_n 2, 1) := by decide +kernel
theorem dX2_addCourse_72 : decode cX2_addCourse 72 = .ok (.iload_n 3, 1) := by decide +kernel
theorem dX2_addCourse_73 : decode cX2_addCourse 73 = .ok (.iload 4, 2) := by decide +kernel
theorem dX2_addCourse_75 : decode cX2_addCourse 75 = .ok (.invokespecial 68, 3) := by decide +kernel
theorem dX2_addCourse_78 : decode cX2_addCourse 78 = .ok (.aastore, 1) := by decide +kernel
theorem dX2_addCourse_79 : decode cX2_addCourse 79 = .ok (.aload_n 0, 1) := by decide +kernel
theorem dX2_addCourse_80 : decode cX2_addCourse 80 = .ok (.iload 5, 2) := by decide +kernel
theorem dX2_addCourse_82 : decode cX2_addCourse 82 = .ok (.iconst 1, 1) := by decide +kernel
theorem dX2_addCourse_83 : decode cX2_addCourse 83 = .ok (.iadd, 1) := by decide +kernel
theorem dX2_addCourse_84 : decode cX2_addCourse 84 = .ok (.putfield 65, 3) := by decide +kernel
theorem dX2_addCourse_87 : decode cX2_addCourse 87 = .ok (.iload 5, 2) := by decide +kernel
theorem dX2_addCourse_89 : decode cX2_addCourse 89 = .ok (.ireturn, 1) := by decide +kernel
theorem dX2_enrol_0 : decode cX2_enrol 0 = .ok (.aload_n 0, 1) := by decide +kernel
theorem dX2_enrol_1 : decode cX2_enrol 1 = .ok (.iload_n 1, 1) := by decide +kernel
theorem dX2_enrol_2 : decode cX2_enrol 2 = .ok (.invokevirtual 47, 3) := by decide +kernel
theorem dX2_enrol_5 : decode cX2_enrol 5 = .ok (.astore_n 3, 1) := by decide +kernel
theorem dX2_enrol_6 : decode cX2_enrol 6 = .ok (.aload_n 0, 1) := by decide +kernel
theorem dX2_enrol_7 : decode cX2_enrol 7 = .ok (.iload_n 2, 1) := by decide +kernel
theorem dX2_enrol_8 : decode cX2_enrol 8 = .ok (.invokevirtual 71, 3) := by decide +kernel
theorem dX2_enrol_11 : decode cX2_enrol 11 = .ok (.astore 4, 2) := by decide +kernel
theorem dX2_enrol_13 : decode cX2_enrol 13 = .ok (.aload 4, 2) := by decide +kernel
theorem dX2_enrol_15 : decode cX2_enrol 15 = .ok (.getfield 75, 3) := by decide +kernel
theorem dX2_enrol_18 : decode cX2_enrol 18 = .ok (.ifCond .le 36, 3) := by decide +kernel
theorem dX2_enrol_21 : decode cX2_enrol 21 = .ok (.aload 4, 2) := by decide +kernel
theorem dX2_enrol_23 : decode cX2_enrol 23 = .ok (.getfield 78, 3) := by decide +kernel
theorem dX2_enrol_26 : decode cX2_enrol 26 = .ok (.aload_n 0, 1) := by decide +kernel
theorem dX2_enrol_27 : decode cX2_enrol 27 = .ok (.getfield 55, 3) := by decide +kernel
theorem dX2_enrol_30 : decode cX2_enrol 30 = .ok (.if_icmp .lt 24, 3) := by decide +kernel
theorem dX2_enrol_33 : decode cX2_enrol 33 = .ok (.aload_n 3, 1) := by decide +kernel
theorem dX2_enrol_34 : decode cX2_enrol 34 = .ok (.aload 4, 2) := by decide +kernel
theorem dX2_enrol_36 : decode cX2_enrol 36 = .ok (.getfield 81, 3) := by decide +kernel
theorem dX2_enrol_39 : decode cX2_enrol 39 = .ok (.aload 4, 2) := by decide +kernel
theorem dX2_enrol_41 : decode cX2_enrol 41 = .ok (.getfield 78, 3) := by decide +kernel
theorem dX2_enrol_44 : decode cX2_enrol 44 = .ok (.invokevirtual 84, 3) := by decide +kernel
theorem dX2_enrol_47 : decode cX2_enrol 47 = .ok (.ifCond .eq 7, 3) := by decide +kernel
theorem dX2_enrol_50 : decode cX2_enrol 50 = .ok (.iconst 1, 1) := by decide +kernel
theorem dX2_enrol_51 : decode cX2_enrol 51 = .ok (.goto 4, 3) := by decide +kernel
theorem dX2_enrol_54 : decode cX2_enrol 54 = .ok (.iconst 0, 1) := by decide +kernel
theorem dX2_enrol_55 : decode cX2_enrol 55 = .ok (.invokestatic 41, 3) := by decide +kernel
theorem dX2_enrol_58 : decode cX2_enrol 58 = .ok (.aload_n 3, 1) := by decide +kernel
theorem dX2_enrol_59 : decode cX2_enrol 59 = .ok (.aload 4, 2) := by decide +kernel
theorem dX2_enrol_61 : decode cX2_enrol 61 = .ok (.invokevirtual 87, 3) := by decide +kernel
theorem dX2_enrol_64 : decode cX2_enrol 64 = .ok (.aload 4, 2) := by decide +kernel
theorem dX2_enrol_66 : decode cX2_enrol 66 = .ok (.dup, 1) := by decide +kernel
theorem dX2_enrol_67 : decode cX2_enrol 67 = .ok (.getfield 75, 3) := by decide +kernel
theorem dX2_enrol_70 : decode cX2_enrol 70 = .ok (.iconst 1, 1) := by decide +kernel
theorem dX2_enrol_71 : decode cX2_enrol 71 = .ok (.isub, 1) := by decide +kernel
theorem dX2_enrol_72 : decode cX2_enrol 72 = .ok (.putfield 75, 3) := by decide +kernel
theorem dX2_enrol_75 : decode cX2_enrol 75 = .ok (.aload 4, 2) := by decide +kernel
theorem dX2_enrol_77 : decode cX2_enrol 77 = .ok (.getfield 75, 3) := by decide +kernel
theorem dX2_enrol_80 : decode cX2_enrol 80 = .ok (.ireturn, 1) := by decide +kernel
theorem dX2_setFloor_0 : decode cX2_setFloor 0 = .ok (.iload_n 1, 1) := by decide +kernel
theorem dX2_setFloor_1 : decode cX2_setFloor 1 = .ok (.iconst 0, 1) := by decide +kernel
theorem dX2_setFloor_2 : decode cX2_setFloor 2 = .ok (.bipush 100, 2) := by decide +kernel
theorem dX2_setFloor_4 : decode cX2_setFloor 4 = .ok (.invokestatic 30, 3) := by decide +kernel
theorem dX2_setFloor_7 : decode cX2_setFloor 7 = .ok (.invokestatic 34, 3) := by decide +kernel
theorem dX2_setFloor_10 : decode cX2_setFloor 10 = .ok (.aload_n 0, 1) := by decide +kernel
theorem dX2_setFloor_11 : decode cX2_setFloor 11 = .ok (.getfield 25, 3) := by decide +kernel
theorem dX2_setFloor_14 : decode cX2_setFloor 14 = .ok (.istore_n 2, 1) := by decide +kernel
theorem dX2_setFloor_15 : decode cX2_setFloor 15 = .ok (.aload_n 0, 1) := by decide +kernel
theorem dX2_setFloor_16 : decode cX2_setFloor 16 = .ok (.iload_n 1, 1) := by decide +kernel
theorem dX2_setFloor_17 : decode cX2_setFloor 17 = .ok (.putfield 25, 3) := by decide +kernel
theorem dX2_setFloor_20 : decode cX2_setFloor 20 = .ok (.iload_n 2, 1) := by decide +kernel
theorem dX2_setFloor_21 : decode cX2_setFloor 21 = .ok (.ireturn, 1) := by decide +kernel
theorem dX2_workers_0 : decode cX2_workers 0 = .ok (.aload_n 0, 1) := by decide +kernel
theorem dX2_workers_1 : decode cX2_workers 1 = .ok (.getfield 38, 3) := by decide +kernel
theorem dX2_workers_4 : decode cX2_workers 4 = .ok (.ireturn, 1) := by decide +kernel
theorem dX2_cut_0 : decode cX2_cut 0 = .ok (.aload_n 0, 1) := by decide +kernel
theorem dX2_cut_1 : decode cX2_cut 1 = .ok (.iload_n 1, 1) := by decide +kernel
theorem dX2_cut_2 : decode cX2_cut 2 = .ok (.invokevirtual 47, 3) := by decide +kernel
theorem dX2_cut_5 : decode cX2_cut 5 = .ok (.astore_n 3, 1) := by decide +kernel
theorem dX2_cut_6 : decode cX2_cut 6 = .ok (.iload_n 2, 1) := by decide +kernel
theorem dX2_cut_7 : decode cX2_cut 7 = .ok (.iconst 0, 1) := by decide +kernel
theorem dX2_cut_8 : decode cX2_cut 8 = .ok (.sipush 200, 3) := by decide +kernel
theorem dX2_cut_11 : decode cX2_cut 11 = .ok (.invokestatic 30, 3) := by decide +kernel
theorem dX2_cut_14 : decode cX2_cut 14 = .ok (.invokestatic 34, 3) := by decide +kernel
theorem dX2_cut_17 : decode cX2_cut 17 = .ok (.aload_n 3, 1) := by decide +kernel
theorem dX2_cut_18 : decode cX2_cut 18 = .ok (.getfield 91, 3) := by decide +kernel
theorem dX2_cut_21 : decode cX2_cut 21 = .ok (.iload_n 2, 1) := by decide +kernel
theorem dX2_cut_22 : decode cX2_cut 22 = .ok (.iaload, 1) := by decide +kernel
theorem dX2_cut_23 : decode cX2_cut 23 = .ok (.ireturn, 1) := by decide +kernel
theorem dX2_isFilled_0 : decode cX2_isFilled 0 = .ok (.aload_n 0, 1) := by decide +kernel
theorem dX2_isFilled_1 : decode cX2_isFilled 1 = .ok (.iload_n 1, 1) := by decide +kernel
theorem dX2_isFilled_2 : decode cX2_isFilled 2 = .ok (.invokevirtual 47, 3) := by decide +kernel
theorem dX2_isFilled_5 : decode cX2_isFilled 5 = .ok (.astore_n 3, 1) := by decide +kernel
theorem dX2_isFilled_6 : decode cX2_isFilled 6 = .ok (.iload_n 2, 1) := by decide +kernel
theorem dX2_isFilled_7 : decode cX2_isFilled 7 = .ok (.iconst 0, 1) := by decide +kernel
theorem dX2_isFilled_8 : decode cX2_isFilled 8 = .ok (.sipush 200, 3) := by decide +kernel
theorem dX2_isFilled_11 : decode cX2_isFilled 11 = .ok (.invokestatic 30, 3) := by decide +kernel
theorem dX2_isFilled_14 : decode cX2_isFilled 14 = .ok (.invokestatic 34, 3) := by decide +kernel
theorem dX2_isFilled_17 : decode cX2_isFilled 17 = .ok (.aload_n 3, 1) := by decide +kernel
theorem dX2_isFilled_18 : decode cX2_isFilled 18 = .ok (.iload_n 2, 1) := by decide +kernel
theorem dX2_isFilled_19 : decode cX2_isFilled 19 = .ok (.invokevirtual 95, 3) := by decide +kernel
theorem dX2_isFilled_22 : decode cX2_isFilled 22 = .ok (.ireturn, 1) := by decide +kernel
theorem dX2_pass_0 : decode cX2_pass 0 = .ok (.iload_n 1, 1) := by decide +kernel
theorem dX2_pass_1 : decode cX2_pass 1 = .ok (.iconst 1, 1) := by decide +kernel
theorem dX2_pass_2 : decode cX2_pass 2 = .ok (.bipush 60, 2) := by decide +kernel
theorem dX2_pass_4 : decode cX2_pass 4 = .ok (.invokestatic 30, 3) := by decide +kernel
theorem dX2_pass_7 : decode cX2_pass 7 = .ok (.invokestatic 34, 3) := by decide +kernel
theorem dX2_pass_10 : decode cX2_pass 10 = .ok (.aload_n 0, 1) := by decide +kernel
theorem dX2_pass_11 : decode cX2_pass 11 = .ok (.getfield 55, 3) := by decide +kernel
theorem dX2_pass_14 : decode cX2_pass 14 = .ok (.iload_n 1, 1) := by decide +kernel
theorem dX2_pass_15 : decode cX2_pass 15 = .ok (.iadd, 1) := by decide +kernel
theorem dX2_pass_16 : decode cX2_pass 16 = .ok (.sipush 201, 3) := by decide +kernel
theorem dX2_pass_19 : decode cX2_pass 19 = .ok (.if_icmp .gt 7, 3) := by decide +kernel
theorem dX2_pass_22 : decode cX2_pass 22 = .ok (.iconst 1, 1) := by decide +kernel
theorem dX2_pass_23 : decode cX2_pass 23 = .ok (.goto 4, 3) := by decide +kernel
theorem dX2_pass_26 : decode cX2_pass 26 = .ok (.iconst 0, 1) := by decide +kernel
theorem dX2_pass_27 : decode cX2_pass 27 = .ok (.invokestatic 41, 3) := by decide +kernel
theorem dX2_pass_30 : decode cX2_pass 30 = .ok (.iconst 0, 1) := by decide +kernel
theorem dX2_pass_31 : decode cX2_pass 31 = .ok (.istore_n 2, 1) := by decide +kernel
theorem dX2_pass_32 : decode cX2_pass 32 = .ok (.iconst 0, 1) := by decide +kernel
theorem dX2_pass_33 : decode cX2_pass 33 = .ok (.istore_n 3, 1) := by decide +kernel
theorem dX2_pass_34 : decode cX2_pass 34 = .ok (.iload_n 3, 1) := by decide +kernel
theorem dX2_pass_35 : decode cX2_pass 35 = .ok (.iload_n 1, 1) := by decide +kernel
theorem dX2_pass_36 : decode cX2_pass 36 = .ok (.if_icmp .ge 26, 3) := by decide +kernel
theorem dX2_pass_39 : decode cX2_pass 39 = .ok (.iload_n 2, 1) := by decide +kernel
theorem dX2_pass_40 : decode cX2_pass 40 = .ok (.aload_n 0, 1) := by decide +kernel
theorem dX2_pass_41 : decode cX2_pass 41 = .ok (.invokevirtual 99, 3) := by decide +kernel
theorem dX2_pass_44 : decode cX2_pass 44 = .ok (.iadd, 1) := by decide +kernel
theorem dX2_pass_45 : decode cX2_pass 45 = .ok (.istore_n 2, 1) := by decide +kernel
theorem dX2_pass_46 : decode cX2_pass 46 = .ok (.aload_n 0, 1) := by decide +kernel
theorem dX2_pass_47 : decode cX2_pass 47 = .ok (.dup, 1) := by decide +kernel
theorem dX2_pass_48 : decode cX2_pass 48 = .ok (.getfield 55, 3) := by decide +kernel
theorem dX2_pass_51 : decode cX2_pass 51 = .ok (.iconst 1, 1) := by decide +kernel
theorem dX2_pass_52 : decode cX2_pass 52 = .ok (.iadd, 1) := by decide +kernel
theorem dX2_pass_53 : decode cX2_pass 53 = .ok (.putfield 55, 3) := by decide +kernel
theorem dX2_pass_56 : decode cX2_pass 56 = .ok (.iinc 3 1, 3) := by decide +kernel
theorem dX2_pass_59 : decode cX2_pass 59 = .ok (.goto (-25), 3) := by decide +kernel
theorem dX2_pass_62 : decode cX2_pass 62 = .ok (.iload_n 2, 1) := by decide +kernel
theorem dX2_pass_63 : decode cX2_pass 63 = .ok (.ireturn, 1) := by decide +kernel
theorem dX2_week_0 : decode cX2_week 0 = .ok (.aload_n 0, 1) := by decide +kernel
theorem dX2_week_1 : decode cX2_week 1 = .ok (.getfield 55, 3) := by decide +kernel
theorem dX2_week_4 : decode cX2_week 4 = .ok (.ireturn, 1) := by decide +kernel
theorem dX2_paid_0 : decode cX2_paid 0 = .ok (.aload_n 0, 1) := by decide +kernel
theorem dX2_paid_1 : decode cX2_paid 1 = .ok (.iload_n 1, 1) := by decide +kernel
theorem dX2_paid_2 : decode cX2_paid 2 = .ok (.invokevirtual 47, 3) := by decide +kernel
theorem dX2_paid_5 : decode cX2_paid 5 = .ok (.astore_n 3, 1) := by decide +kernel
theorem dX2_paid_6 : decode cX2_paid 6 = .ok (.aload_n 0, 1) := by decide +kernel
theorem dX2_paid_7 : decode cX2_paid 7 = .ok (.iload_n 2, 1) := by decide +kernel
theorem dX2_paid_8 : decode cX2_paid 8 = .ok (.invokevirtual 103, 3) := by decide +kernel
theorem dX2_paid_11 : decode cX2_paid 11 = .ok (.invokestatic 34, 3) := by decide +kernel
theorem dX2_paid_14 : decode cX2_paid 14 = .ok (.aload_n 3, 1) := by decide +kernel
theorem dX2_paid_15 : decode cX2_paid 15 = .ok (.getfield 106, 3) := by decide +kernel
theorem dX2_paid_18 : decode cX2_paid 18 = .ok (.iload_n 2, 1) := by decide +kernel
theorem dX2_paid_19 : decode cX2_paid 19 = .ok (.iaload, 1) := by decide +kernel
theorem dX2_paid_20 : decode cX2_paid 20 = .ok (.ireturn, 1) := by decide +kernel
theorem dX2_madeUp_0 : decode cX2_madeUp 0 = .ok (.aload_n 0, 1) := by decide +kernel
theorem dX2_madeUp_1 : decode cX2_madeUp 1 = .ok (.iload_n 1, 1) := by decide +kernel
theorem dX2_madeUp_2 : decode cX2_madeUp 2 = .ok (.invokevirtual 47, 3) := by decide +kernel
theorem dX2_madeUp_5 : decode cX2_madeUp 5 = .ok (.astore_n 3, 1) := by decide +kernel
theorem dX2_madeUp_6 : decode cX2_madeUp 6 = .ok (.aload_n 0, 1) := by decide +kernel
theorem dX2_madeUp_7 : decode cX2_madeUp 7 = .ok (.iload_n 2, 1) := by decide +kernel
theorem dX2_madeUp_8 : decode cX2_madeUp 8 = .ok (.invokevirtual 103, 3) := by decide +kernel
theorem dX2_madeUp_11 : decode cX2_madeUp 11 = .ok (.invokestatic 34, 3) := by decide +kernel
theorem dX2_madeUp_14 : decode cX2_madeUp 14 = .ok (.aload_n 3, 1) := by decide +kernel
theorem dX2_madeUp_15 : decode cX2_madeUp 15 = .ok (.getfield 109, 3) := by decide +kernel
theorem dX2_madeUp_18 : decode cX2_madeUp 18 = .ok (.iload_n 2, 1) := by decide +kernel
theorem dX2_madeUp_19 : decode cX2_madeUp 19 = .ok (.iaload, 1) := by decide +kernel
theorem dX2_madeUp_20 : decode cX2_madeUp 20 = .ok (.ireturn, 1) := by decide +kernel
theorem dX2_cutWeeks_0 : decode cX2_cutWeeks 0 = .ok (.aload_n 0, 1) := by decide +kernel
theorem dX2_cutWeeks_1 : decode cX2_cutWeeks 1 = .ok (.iload_n 1, 1) := by decide +kernel
theorem dX2_cutWeeks_2 : decode cX2_cutWeeks 2 = .ok (.invokevirtual 47, 3) := by decide +kernel
theorem dX2_cutWeeks_5 : decode cX2_cutWeeks 5 = .ok (.getfield 112, 3) := by decide +kernel
theorem dX2_cutWeeks_8 : decode cX2_cutWeeks 8 = .ok (.ireturn, 1) := by decide +kernel
theorem dX2_door_0 : decode cX2_door 0 = .ok (.aload_n 0, 1) := by decide +kernel
theorem dX2_door_1 : decode cX2_door 1 = .ok (.iload_n 1, 1) := by decide +kernel
theorem dX2_door_2 : decode cX2_door 2 = .ok (.invokevirtual 47, 3) := by decide +kernel
theorem dX2_door_5 : decode cX2_door 5 = .ok (.astore 4, 2) := by decide +kernel
theorem dX2_door_7 : decode cX2_door 7 = .ok (.aload_n 0, 1) := by decide +kernel
theorem dX2_door_8 : decode cX2_door 8 = .ok (.iload_n 2, 1) := by decide +kernel
theorem dX2_door_9 : decode cX2_door 9 = .ok (.invokevirtual 103, 3) := by decide +kernel
theorem dX2_door_12 : decode cX2_door 12 = .ok (.ifCond .eq 17, 3) := by decide +kernel
theorem dX2_door_15 : decode cX2_door 15 = .ok (.iload_n 3, 1) := by decide +kernel
theorem dX2_door_16 : decode cX2_door 16 = .ok (.iconst 0, 1) := by decide +kernel
theorem dX2_door_17 : decode cX2_door 17 = .ok (.bipush 80, 2) := by decide +kernel
theorem dX2_door_19 : decode cX2_door 19 = .ok (.invokestatic 30, 3) := by decide +kernel
theorem dX2_door_22 : decode cX2_door 22 = .ok (.ifCond .eq 7, 3) := by decide +kernel
theorem dX2_door_25 : decode cX2_door 25 = .ok (.iconst 1, 1) := by decide +kernel
theorem dX2_door_26 : decode cX2_door 26 = .ok (.goto 4, 3) := by decide +kernel
theorem dX2_door_29 : decode cX2_door 29 = .ok (.iconst 0, 1) := by decide +kernel
theorem dX2_door_30 : decode cX2_door 30 = .ok (.invokestatic 34, 3) := by decide +kernel
theorem dX2_door_33 : decode cX2_door 33 = .ok (.aload_n 0, 1) := by decide +kernel
theorem dX2_door_34 : decode cX2_door 34 = .ok (.getfield 21, 3) := by decide +kernel
theorem dX2_door_37 : decode cX2_door 37 = .ok (.iload_n 2, 1) := by decide +kernel
theorem dX2_door_38 : decode cX2_door 38 = .ok (.baload, 1) := by decide +kernel
theorem dX2_door_39 : decode cX2_door 39 = .ok (.ifCond .ne 7, 3) := by decide +kernel
theorem dX2_door_42 : decode cX2_door 42 = .ok (.iconst 1, 1) := by decide +kernel
theorem dX2_door_43 : decode cX2_door 43 = .ok (.goto 4, 3) := by decide +kernel
theorem dX2_door_46 : decode cX2_door 46 = .ok (.iconst 0, 1) := by decide +kernel
theorem dX2_door_47 : decode cX2_door 47 = .ok (.invokestatic 41, 3) := by decide +kernel
theorem dX2_door_50 : decode cX2_door 50 = .ok (.aload 4, 2) := by decide +kernel
theorem dX2_door_52 : decode cX2_door 52 = .ok (.getfield 115, 3) := by decide +kernel
theorem dX2_door_55 : decode cX2_door 55 = .ok (.iload_n 2, 1) := by decide +kernel
theorem dX2_door_56 : decode cX2_door 56 = .ok (.iload_n 3, 1) := by decide +kernel
theorem dX2_door_57 : decode cX2_door 57 = .ok (.iastore, 1) := by decide +kernel
theorem dX2_door_58 : decode cX2_door 58 = .ok (.return_, 1) := by decide +kernel
theorem dX2_mail_0 : decode cX2_mail 0 = .ok (.aload_n 0, 1) := by decide +kernel
theorem dX2_mail_1 : decode cX2_mail 1 = .ok (.iload_n 1, 1) := by decide +kernel
theorem dX2_mail_2 : decode cX2_mail 2 = .ok (.invokevirtual 47, 3) := by decide +kernel
theorem dX2_mail_5 : decode cX2_mail 5 = .ok (.astore_n 3, 1) := by decide +kernel
theorem dX2_mail_6 : decode cX2_mail 6 = .ok (.aload_n 0, 1) := by decide +kernel
theorem dX2_mail_7 : decode cX2_mail 7 = .ok (.iload_n 2, 1) := by decide +kernel
theorem dX2_mail_8 : decode cX2_mail 8 = .ok (.invokevirtual 103, 3) := by decide +kernel
theorem dX2_mail_11 : decode cX2_mail 11 = .ok (.invokestatic 34, 3) := by decide +kernel
theorem dX2_mail_14 : decode cX2_mail 14 = .ok (.aload_n 0, 1) := by decide +kernel
theorem dX2_mail_15 : decode cX2_mail 15 = .ok (.getfield 21, 3) := by decide +kernel
theorem dX2_mail_18 : decode cX2_mail 18 = .ok (.iload_n 2, 1) := by decide +kernel
theorem dX2_mail_19 : decode cX2_mail 19 = .ok (.baload, 1) := by decide +kernel
theorem dX2_mail_20 : decode cX2_mail 20 = .ok (.ifCond .ne 7, 3) := by decide +kernel
theorem dX2_mail_23 : decode cX2_mail 23 = .ok (.iconst 1, 1) := by decide +kernel
theorem dX2_mail_24 : decode cX2_mail 24 = .ok (.goto 4, 3) := by decide +kernel
theorem dX2_mail_27 : decode cX2_mail 27 = .ok (.iconst 0, 1) := by decide +kernel
theorem dX2_mail_28 : decode cX2_mail 28 = .ok (.invokestatic 41, 3) := by decide +kernel
theorem dX2_mail_31 : decode cX2_mail 31 = .ok (.aload_n 3, 1) := by decide +kernel
theorem dX2_mail_32 : decode cX2_mail 32 = .ok (.getfield 118, 3) := by decide +kernel
theorem dX2_mail_35 : decode cX2_mail 35 = .ok (.iload_n 2, 1) := by decide +kernel
theorem dX2_mail_36 : decode cX2_mail 36 = .ok (.iconst 1, 1) := by decide +kernel
theorem dX2_mail_37 : decode cX2_mail 37 = .ok (.bastore, 1) := by decide +kernel
theorem dX2_mail_38 : decode cX2_mail 38 = .ok (.return_, 1) := by decide +kernel
theorem dX2_check_0 : decode cX2_check 0 = .ok (.aload_n 0, 1) := by decide +kernel
theorem dX2_check_1 : decode cX2_check 1 = .ok (.iload_n 1, 1) := by decide +kernel
theorem dX2_check_2 : decode cX2_check 2 = .ok (.invokevirtual 103, 3) := by decide +kernel
theorem dX2_check_5 : decode cX2_check 5 = .ok (.invokestatic 34, 3) := by decide +kernel
theorem dX2_check_8 : decode cX2_check 8 = .ok (.aload_n 0, 1) := by decide +kernel
theorem dX2_check_9 : decode cX2_check 9 = .ok (.getfield 21, 3) := by decide +kernel
theorem dX2_check_12 : decode cX2_check 12 = .ok (.iload_n 1, 1) := by decide +kernel
theorem dX2_check_13 : decode cX2_check 13 = .ok (.baload, 1) := by decide +kernel
theorem dX2_check_14 : decode cX2_check 14 = .ok (.ifCond .ne 7, 3) := by decide +kernel
theorem dX2_check_17 : decode cX2_check 17 = .ok (.iconst 1, 1) := by decide +kernel
theorem dX2_check_18 : decode cX2_check 18 = .ok (.goto 4, 3) := by decide +kernel
theorem dX2_check_21 : decode cX2_check 21 = .ok (.iconst 0, 1) := by decide +kernel
theorem dX2_check_22 : decode cX2_check 22 = .ok (.invokestatic 41, 3) := by decide +kernel
theorem dX2_check_25 : decode cX2_check 25 = .ok (.aload_n 0, 1) := by decide +kernel
theorem dX2_check_26 : decode cX2_check 26 = .ok (.getfield 21, 3) := by decide +kernel
theorem dX2_check_29 : decode cX2_check 29 = .ok (.iload_n 1, 1) := by decide +kernel
theorem dX2_check_30 : decode cX2_check 30 = .ok (.iconst 1, 1) := by decide +kernel
theorem dX2_check_31 : decode cX2_check 31 = .ok (.bastore, 1) := by decide +kernel
theorem dX2_check_32 : decode cX2_check 32 = .ok (.iconst 0, 1) := by decide +kernel
theorem dX2_check_33 : decode cX2_check 33 = .ok (.istore_n 2, 1) := by decide +kernel
theorem dX2_check_34 : decode cX2_check 34 = .ok (.aload_n 0, 1) := by decide +kernel
theorem dX2_check_35 : decode cX2_check 35 = .ok (.getfield 11, 3) := by decide +kernel
theorem dX2_check_38 : decode cX2_check 38 = .ok (.astore_n 3, 1) := by decide +kernel
theorem dX2_check_39 : decode cX2_check 39 = .ok (.aload_n 3, 1) := by decide +kernel
theorem dX2_check_40 : decode cX2_check 40 = .ok (.arraylength, 1) := by decide +kernel
theorem dX2_check_41 : decode cX2_check 41 = .ok (.istore 4, 2) := by decide +kernel
theorem dX2_check_43 : decode cX2_check 43 = .ok (.iconst 0, 1) := by decide +kernel
theorem dX2_check_44 : decode cX2_check 44 = .ok (.istore 5, 2) := by decide +kernel
theorem dX2_check_46 : decode cX2_check 46 = .ok (.iload 5, 2) := by decide +kernel
theorem dX2_check_48 : decode cX2_check 48 = .ok (.iload 4, 2) := by decide +kernel
theorem dX2_check_50 : decode cX2_check 50 = .ok (.if_icmp .ge 39, 3) := by decide +kernel
theorem dX2_check_53 : decode cX2_check 53 = .ok (.aload_n 3, 1) := by decide +kernel
theorem dX2_check_54 : decode cX2_check 54 = .ok (.iload 5, 2) := by decide +kernel
theorem dX2_check_56 : decode cX2_check 56 = .ok (.aaload, 1) := by decide +kernel
theorem dX2_check_57 : decode cX2_check 57 = .ok (.astore 6, 2) := by decide +kernel
theorem dX2_check_59 : decode cX2_check 59 = .ok (.aload 6, 2) := by decide +kernel
theorem dX2_check_61 : decode cX2_check 61 = .ok (.ifnull 22, 3) := by decide +kernel
theorem dX2_check_64 : decode cX2_check 64 = .ok (.aload 6, 2) := by decide +kernel
theorem dX2_check_66 : decode cX2_check 66 = .ok (.iload_n 1, 1) := by decide +kernel
theorem dX2_check_67 : decode cX2_check 67 = .ok (.invokevirtual 121, 3) := by decide +kernel
theorem dX2_check_70 : decode cX2_check 70 = .ok (.ifCond .eq 13, 3) := by decide +kernel
theorem dX2_check_73 : decode cX2_check 73 = .ok (.aload_n 0, 1) := by decide +kernel
theorem dX2_check_74 : decode cX2_check 74 = .ok (.aload 6, 2) := by decide +kernel
theorem dX2_check_76 : decode cX2_check 76 = .ok (.iload_n 1, 1) := by decide +kernel
theorem dX2_check_77 : decode cX2_check 77 = .ok (.invokevirtual 124, 3) := by decide +kernel
theorem dX2_check_80 : decode cX2_check 80 = .ok (.iinc 2 1, 3) := by decide +kernel
theorem dX2_check_83 : decode cX2_check 83 = .ok (.iinc 5 1, 3) := by decide +kernel
theorem dX2_check_86 : decode cX2_check 86 = .ok (.goto (-40), 3) := by decide +kernel
theorem dX2_check_89 : decode cX2_check 89 = .ok (.iload_n 2, 1) := by decide +kernel
theorem dX2_check_90 : decode cX2_check 90 = .ok (.ireturn, 1) := by decide +kernel
theorem dX2_firmOwes_0 : decode cX2_firmOwes 0 = .ok (.aload_n 0, 1) := by decide +kernel
theorem dX2_firmOwes_1 : decode cX2_firmOwes 1 = .ok (.getfield 128, 3) := by decide +kernel
theorem dX2_firmOwes_4 : decode cX2_firmOwes 4 = .ok (.ireturn, 1) := by decide +kernel
theorem dX2_owes_0 : decode cX2_owes 0 = .ok (.aload_n 0, 1) := by decide +kernel
theorem dX2_owes_1 : decode cX2_owes 1 = .ok (.iload_n 1, 1) := by decide +kernel
theorem dX2_owes_2 : decode cX2_owes 2 = .ok (.invokevirtual 47, 3) := by decide +kernel
theorem dX2_owes_5 : decode cX2_owes 5 = .ok (.getfield 131, 3) := by decide +kernel
theorem dX2_owes_8 : decode cX2_owes 8 = .ok (.ireturn, 1) := by decide +kernel
theorem dX2_net_0 : decode cX2_net 0 = .ok (.aload_n 0, 1) := by decide +kernel
theorem dX2_net_1 : decode cX2_net 1 = .ok (.iload_n 1, 1) := by decide +kernel
theorem dX2_net_2 : decode cX2_net 2 = .ok (.invokevirtual 47, 3) := by decide +kernel
theorem dX2_net_5 : decode cX2_net 5 = .ok (.astore_n 2, 1) := by decide +kernel
theorem dX2_net_6 : decode cX2_net 6 = .ok (.aload_n 2, 1) := by decide +kernel
theorem dX2_net_7 : decode cX2_net 7 = .ok (.getfield 134, 3) := by decide +kernel
theorem dX2_net_10 : decode cX2_net 10 = .ok (.aload_n 2, 1) := by decide +kernel
theorem dX2_net_11 : decode cX2_net 11 = .ok (.getfield 131, 3) := by decide +kernel
theorem dX2_net_14 : decode cX2_net 14 = .ok (.isub, 1) := by decide +kernel
theorem dX2_net_15 : decode cX2_net 15 = .ok (.ireturn, 1) := by decide +kernel
theorem dX2_payCurrentWeek_0 : decode cX2_payCurrentWeek 0 = .ok (.iconst 0, 1) := by decide +kernel
theorem dX2_payCurrentWeek_1 : decode cX2_payCurrentWeek 1 = .ok (.istore_n 1, 1) := by decide +kernel
theorem dX2_payCurrentWeek_2 : decode cX2_payCurrentWeek 2 = .ok (.aload_n 0, 1) := by decide +kernel
theorem dX2_payCurrentWeek_3 : decode cX2_payCurrentWeek 3 = .ok (.getfield 11, 3) := by decide +kernel
theorem dX2_payCurrentWeek_6 : decode cX2_payCurrentWeek 6 = .ok (.astore_n 2, 1) := by decide +kernel
theorem dX2_payCurrentWeek_7 : decode cX2_payCurrentWeek 7 = .ok (.aload_n 2, 1) := by decide +kernel
theorem dX2_payCurrentWeek_8 : decode cX2_payCurrentWeek 8 = .ok (.arraylength, 1) := by decide +kernel
theorem dX2_payCurrentWeek_9 : decode cX2_payCurrentWeek 9 = .ok (.istore_n 3, 1) := by decide +kernel
theorem dX2_payCurrentWeek_10 : decode cX2_payCurrentWeek 10 = .ok (.iconst 0, 1) := by decide +kernel
theorem dX2_payCurrentWeek_11 : decode cX2_payCurrentWeek 11 = .ok (.istore 4, 2) := by decide +kernel
theorem dX2_payCurrentWeek_13 : decode cX2_payCurrentWeek 13 = .ok (.iload 4, 2) := by decide +kernel
theorem dX2_payCurrentWeek_15 : decode cX2_payCurrentWeek 15 = .ok (.iload_n 3, 1) := by decide +kernel
theorem dX2_payCurrentWeek_16 : decode cX2_payCurrentWeek 16 = .ok (.if_icmp .ge 36, 3) := by decide +kernel
theorem dX2_payCurrentWeek_19 : decode cX2_payCurrentWeek 19 = .ok (.aload_n 2, 1) := by decide +kernel
theorem dX2_payCurrentWeek_20 : decode cX2_payCurrentWeek 20 = .ok (.iload 4, 2) := by decide +kernel
theorem dX2_payCurrentWeek_22 : decode cX2_payCurrentWeek 22 = .ok (.aaload, 1) := by decide +kernel
theorem dX2_payCurrentWeek_23 : decode cX2_payCurrentWeek 23 = .ok (.astore 5, 2) := by decide +kernel
theorem dX2_payCurrentWeek_25 : decode cX2_payCurrentWeek 25 = .ok (.aload 5, 2) := by decide +kernel
theorem dX2_payCurrentWeek_27 : decode cX2_payCurrentWeek 27 = .ok (.ifnull 19, 3) := by decide +kernel
theorem dX2_payCurrentWeek_30 : decode cX2_payCurrentWeek 30 = .ok (.iload_n 1, 1) := by decide +kernel
theorem dX2_payCurrentWeek_31 : decode cX2_payCurrentWeek 31 = .ok (.aload 5, 2) := by decide +kernel
theorem dX2_payCurrentWeek_33 : decode cX2_payCurrentWeek 33 = .ok (.aload_n 0, 1) := by decide +kernel
theorem dX2_payCurrentWeek_34 : decode cX2_payCurrentWeek 34 = .ok (.getfield 55, 3) := by decide +kernel
theorem dX2_payCurrentWeek_37 : decode cX2_payCurrentWeek 37 = .ok (.aload_n 0, 1) := by decide +kernel
theorem dX2_payCurrentWeek_38 : decode cX2_payCurrentWeek 38 = .ok (.getfield 25, 3) := by decide +kernel
theorem dX2_payCurrentWeek_41 : decode cX2_payCurrentWeek 41 = .ok (.invokevirtual 137, 3) := by decide +kernel
theorem dX2_payCurrentWeek_44 : decode cX2_payCurrentWeek 44 = .ok (.iadd, 1) := by decide +kernel
theorem dX2_payCurrentWeek_45 : decode cX2_payCurrentWeek 45 = .ok (.istore_n 1, 1) := by decide +kernel
theorem dX2_payCurrentWeek_46 : decode cX2_payCurrentWeek 46 = .ok (.iinc 4 1, 3) := by decide +kernel
theorem dX2_payCurrentWeek_49 : decode cX2_payCurrentWeek 49 = .ok (.goto (-36), 3) := by decide +kernel
theorem dX2_payCurrentWeek_52 : decode cX2_payCurrentWeek 52 = .ok (.iload_n 1, 1) := by decide +kernel
theorem dX2_payCurrentWeek_53 : decode cX2_payCurrentWeek 53 = .ok (.ireturn, 1) := by decide +kernel
theorem dX2_chargeBack_0 : decode cX2_chargeBack 0 = .ok (.aload_n 1, 1) := by decide +kernel
theorem dX2_chargeBack_1 : decode cX2_chargeBack 1 = .ok (.getfield 109, 3) := by decide +kernel
theorem dX2_chargeBack_4 : decode cX2_chargeBack 4 = .ok (.iload_n 2, 1) := by decide +kernel
theorem dX2_chargeBack_5 : decode cX2_chargeBack 5 = .ok (.iaload, 1) := by decide +kernel
theorem dX2_chargeBack_6 : decode cX2_chargeBack 6 = .ok (.istore_n 3, 1) := by decide +kernel
theorem dX2_chargeBack_7 : decode cX2_chargeBack 7 = .ok (.aload_n 1, 1) := by decide +kernel
theorem dX2_chargeBack_8 : decode cX2_chargeBack 8 = .ok (.getfield 118, 3) := by decide +kernel
theorem dX2_chargeBack_11 : decode cX2_chargeBack 11 = .ok (.iload_n 2, 1) := by decide +kernel
theorem dX2_chargeBack_12 : decode cX2_chargeBack 12 = .ok (.baload, 1) := by decide +kernel
theorem dX2_chargeBack_13 : decode cX2_chargeBack 13 = .ok (.ifCond .eq 24, 3) := by decide +kernel
theorem dX2_chargeBack_16 : decode cX2_chargeBack 16 = .ok (.aload_n 0, 1) := by decide +kernel
theorem dX2_chargeBack_17 : decode cX2_chargeBack 17 = .ok (.dup, 1) := by decide +kernel
theorem dX2_chargeBack_18 : decode cX2_chargeBack 18 = .ok (.getfield 128, 3) := by decide +kernel
theorem dX2_chargeBack_21 : decode cX2_chargeBack 21 = .ok (.iload_n 3, 1) := by decide +kernel
theorem dX2_chargeBack_22 : decode cX2_chargeBack 22 = .ok (.iload_n 3, 1) := by decide +kernel
theorem dX2_chargeBack_23 : decode cX2_chargeBack 23 = .ok (.bipush 10, 2) := by decide +kernel
theorem dX2_chargeBack_25 : decode cX2_chargeBack 25 = .ok (.imul, 1) := by decide +kernel
theorem dX2_chargeBack_26 : decode cX2_chargeBack 26 = .ok (.bipush 100, 2) := by decide +kernel
theorem dX2_chargeBack_28 : decode cX2_chargeBack 28 = .ok (.idiv, 1) := by decide +kernel
theorem dX2_chargeBack_29 : decode cX2_chargeBack 29 = .ok (.iadd, 1) := by decide +kernel
theorem dX2_chargeBack_30 : decode cX2_chargeBack 30 = .ok (.iadd, 1) := by decide +kernel
theorem dX2_chargeBack_31 : decode cX2_chargeBack 31 = .ok (.putfield 128, 3) := by decide +kernel
theorem dX2_chargeBack_34 : decode cX2_chargeBack 34 = .ok (.goto 32, 3) := by decide +kernel
theorem dX2_chargeBack_37 : decode cX2_chargeBack 37 = .ok (.iload_n 3, 1) := by decide +kernel
theorem dX2_chargeBack_38 : decode cX2_chargeBack 38 = .ok (.iconst 2, 1) := by decide +kernel
theorem dX2_chargeBack_39 : decode cX2_chargeBack 39 = .ok (.idiv, 1) := by decide +kernel
theorem dX2_chargeBack_40 : decode cX2_chargeBack 40 = .ok (.istore 4, 2) := by decide +kernel
theorem dX2_chargeBack_42 : decode cX2_chargeBack 42 = .ok (.aload_n 1, 1) := by decide +kernel
theorem dX2_chargeBack_43 : decode cX2_chargeBack 43 = .ok (.dup, 1) := by decide +kernel
theorem dX2_chargeBack_44 : decode cX2_chargeBack 44 = .ok (.getfield 131, 3) := by decide +kernel
theorem dX2_chargeBack_47 : decode cX2_chargeBack 47 = .ok (.iload 4, 2) := by decide +kernel
theorem dX2_chargeBack_49 : decode cX2_chargeBack 49 = .ok (.iadd, 1) := by decide +kernel
theorem dX2_chargeBack_50 : decode cX2_chargeBack 50 = .ok (.putfield 131, 3) := by decide +kernel
theorem dX2_chargeBack_53 : decode cX2_chargeBack 53 = .ok (.aload_n 0, 1) := by decide +kernel
theorem dX2_chargeBack_54 : decode cX2_chargeBack 54 = .ok (.dup, 1) := by decide +kernel
theorem dX2_chargeBack_55 : decode cX2_chargeBack 55 = .ok (.getfield 128, 3) := by decide +kernel
theorem dX2_chargeBack_58 : decode cX2_chargeBack 58 = .ok (.iload_n 3, 1) := by decide +kernel
theorem dX2_chargeBack_59 : decode cX2_chargeBack 59 = .ok (.iload 4, 2) := by decide +kernel
theorem dX2_chargeBack_61 : decode cX2_chargeBack 61 = .ok (.isub, 1) := by decide +kernel
theorem dX2_chargeBack_62 : decode cX2_chargeBack 62 = .ok (.iadd, 1) := by decide +kernel
theorem dX2_chargeBack_63 : decode cX2_chargeBack 63 = .ok (.putfield 128, 3) := by decide +kernel
theorem dX2_chargeBack_66 : decode cX2_chargeBack 66 = .ok (.return_, 1) := by decide +kernel
theorem dX2_workerAt_0 : decode cX2_workerAt 0 = .ok (.iload_n 1, 1) := by decide +kernel
theorem dX2_workerAt_1 : decode cX2_workerAt 1 = .ok (.iconst 0, 1) := by decide +kernel
theorem dX2_workerAt_2 : decode cX2_workerAt 2 = .ok (.aload_n 0, 1) := by decide +kernel
theorem dX2_workerAt_3 : decode cX2_workerAt 3 = .ok (.getfield 38, 3) := by decide +kernel
theorem dX2_workerAt_6 : decode cX2_workerAt 6 = .ok (.iconst 1, 1) := by decide +kernel
theorem dX2_workerAt_7 : decode cX2_workerAt 7 = .ok (.isub, 1) := by decide +kernel
theorem dX2_workerAt_8 : decode cX2_workerAt 8 = .ok (.invokestatic 30, 3) := by decide +kernel
theorem dX2_workerAt_11 : decode cX2_workerAt 11 = .ok (.ifCond .eq 12, 3) := by decide +kernel
theorem dX2_workerAt_14 : decode cX2_workerAt 14 = .ok (.aload_n 0, 1) := by decide +kernel
theorem dX2_workerAt_15 : decode cX2_workerAt 15 = .ok (.getfield 11, 3) := by decide +kernel
theorem dX2_workerAt_18 : decode cX2_workerAt 18 = .ok (.iload_n 1, 1) := by decide +kernel
theorem dX2_workerAt_19 : decode cX2_workerAt 19 = .ok (.aaload, 1) := by decide +kernel
theorem dX2_workerAt_20 : decode cX2_workerAt 20 = .ok (.goto 4, 3) := by decide +kernel
theorem dX2_workerAt_23 : decode cX2_workerAt 23 = .ok (.aconst_null, 1) := by decide +kernel
theorem dX2_workerAt_24 : decode cX2_workerAt 24 = .ok (.astore_n 2, 1) := by decide +kernel
theorem dX2_workerAt_25 : decode cX2_workerAt 25 = .ok (.aload_n 2, 1) := by decide +kernel
theorem dX2_workerAt_26 : decode cX2_workerAt 26 = .ok (.ifnonnull 11, 3) := by decide +kernel
theorem dX2_workerAt_29 : decode cX2_workerAt 29 = .ok (.new 141, 3) := by decide +kernel
theorem dX2_workerAt_32 : decode cX2_workerAt 32 = .ok (.dup, 1) := by decide +kernel
theorem dX2_workerAt_33 : decode cX2_workerAt 33 = .ok (.invokespecial 143, 3) := by decide +kernel
theorem dX2_workerAt_36 : decode cX2_workerAt 36 = .ok (.athrow, 1) := by decide +kernel
theorem dX2_workerAt_37 : decode cX2_workerAt 37 = .ok (.aload_n 2, 1) := by decide +kernel
theorem dX2_workerAt_38 : decode cX2_workerAt 38 = .ok (.areturn, 1) := by decide +kernel
theorem dX2_courseAt_0 : decode cX2_courseAt 0 = .ok (.iload_n 1, 1) := by decide +kernel
theorem dX2_courseAt_1 : decode cX2_courseAt 1 = .ok (.iconst 0, 1) := by decide +kernel
theorem dX2_courseAt_2 : decode cX2_courseAt 2 = .ok (.aload_n 0, 1) := by decide +kernel
theorem dX2_courseAt_3 : decode cX2_courseAt 3 = .ok (.getfield 65, 3) := by decide +kernel
theorem dX2_courseAt_6 : decode cX2_courseAt 6 = .ok (.iconst 1, 1) := by decide +kernel
theorem dX2_courseAt_7 : decode cX2_courseAt 7 = .ok (.isub, 1) := by decide +kernel
theorem dX2_courseAt_8 : decode cX2_courseAt 8 = .ok (.invokestatic 30, 3) := by decide +kernel
theorem dX2_courseAt_11 : decode cX2_courseAt 11 = .ok (.ifCond .eq 12, 3) := by decide +kernel
theorem dX2_courseAt_14 : decode cX2_courseAt 14 = .ok (.aload_n 0, 1) := by decide +kernel
theorem dX2_courseAt_15 : decode cX2_courseAt 15 = .ok (.getfield 17, 3) := by decide +kernel
theorem dX2_courseAt_18 : decode cX2_courseAt 18 = .ok (.iload_n 1, 1) := by decide +kernel
theorem dX2_courseAt_19 : decode cX2_courseAt 19 = .ok (.aaload, 1) := by decide +kernel
theorem dX2_courseAt_20 : decode cX2_courseAt 20 = .ok (.goto 4, 3) := by decide +kernel
theorem dX2_courseAt_23 : decode cX2_courseAt 23 = .ok (.aconst_null, 1) := by decide +kernel
theorem dX2_courseAt_24 : decode cX2_courseAt 24 = .ok (.astore_n 2, 1) := by decide +kernel
theorem dX2_courseAt_25 : decode cX2_courseAt 25 = .ok (.aload_n 2, 1) := by decide +kernel
theorem dX2_courseAt_26 : decode cX2_courseAt 26 = .ok (.ifnonnull 11, 3) := by decide +kernel
theorem dX2_courseAt_29 : decode cX2_courseAt 29 = .ok (.new 141, 3) := by decide +kernel
theorem dX2_courseAt_32 : decode cX2_courseAt 32 = .ok (.dup, 1) := by decide +kernel
theorem dX2_courseAt_33 : decode cX2_courseAt 33 = .ok (.invokespecial 143, 3) := by decide +kernel
theorem dX2_courseAt_36 : decode cX2_courseAt 36 = .ok (.athrow, 1) := by decide +kernel
theorem dX2_courseAt_37 : decode cX2_courseAt 37 = .ok (.aload_n 2, 1) := by decide +kernel
theorem dX2_courseAt_38 : decode cX2_courseAt 38 = .ok (.areturn, 1) := by decide +kernel
theorem dX2_hasPassed_0 : decode cX2_hasPassed 0 = .ok (.iload_n 1, 1) := by decide +kernel
theorem dX2_hasPassed_1 : decode cX2_hasPassed 1 = .ok (.iconst 0, 1) := by decide +kernel
theorem dX2_hasPassed_2 : decode cX2_hasPassed 2 = .ok (.aload_n 0, 1) := by decide +kernel
theorem dX2_hasPassed_3 : decode cX2_hasPassed 3 = .ok (.getfield 55, 3) := by decide +kernel
theorem dX2_hasPassed_6 : decode cX2_hasPassed 6 = .ok (.iconst 1, 1) := by decide +kernel
theorem dX2_hasPassed_7 : decode cX2_hasPassed 7 = .ok (.isub, 1) := by decide +kernel
theorem dX2_hasPassed_8 : decode cX2_hasPassed 8 = .ok (.invokestatic 30, 3) := by decide +kernel
theorem dX2_hasPassed_11 : decode cX2_hasPassed 11 = .ok (.ireturn, 1) := by decide +kernel
theorem dX2_isSpan_0 : decode cX2_isSpan 0 = .ok (.iload_n 0, 1) := by decide +kernel
theorem dX2_isSpan_1 : decode cX2_isSpan 1 = .ok (.iconst 0, 1) := by decide +kernel
theorem dX2_isSpan_2 : decode cX2_isSpan 2 = .ok (.sipush 200, 3) := by decide +kernel
theorem dX2_isSpan_5 : decode cX2_isSpan 5 = .ok (.invokestatic 30, 3) := by decide +kernel
theorem dX2_isSpan_8 : decode cX2_isSpan 8 = .ok (.ifCond .eq 18, 3) := by decide +kernel
theorem dX2_isSpan_11 : decode cX2_isSpan 11 = .ok (.iload_n 1, 1) := by decide +kernel
theorem dX2_isSpan_12 : decode cX2_isSpan 12 = .ok (.iload_n 0, 1) := by decide +kernel
theorem dX2_isSpan_13 : decode cX2_isSpan 13 = .ok (.sipush 200, 3) := by decide +kernel
theorem dX2_isSpan_16 : decode cX2_isSpan 16 = .ok (.invokestatic 30, 3) := by decide +kernel
theorem dX2_isSpan_19 : decode cX2_isSpan 19 = .ok (.ifCond .eq 7, 3) := by decide +kernel
theorem dX2_isSpan_22 : decode cX2_isSpan 22 = .ok (.iconst 1, 1) := by decide +kernel
theorem dX2_isSpan_23 : decode cX2_isSpan 23 = .ok (.goto 4, 3) := by decide +kernel
theorem dX2_isSpan_26 : decode cX2_isSpan 26 = .ok (.iconst 0, 1) := by decide +kernel
theorem dX2_isSpan_27 : decode cX2_isSpan 27 = .ok (.ireturn, 1) := by decide +kernel
theorem dX2_isWithin_0 : decode cX2_isWithin 0 = .ok (.iload_n 0, 1) := by decide +kernel
theorem dX2_isWithin_1 : decode cX2_isWithin 1 = .ok (.iload_n 1, 1) := by decide +kernel
theorem dX2_isWithin_2 : decode cX2_isWithin 2 = .ok (.if_icmp .lt 12, 3) := by decide +kernel
theorem dX2_isWithin_5 : decode cX2_isWithin 5 = .ok (.iload_n 0, 1) := by decide +kernel
theorem dX2_isWithin_6 : decode cX2_isWithin 6 = .ok (.iload_n 2, 1) := by decide +kernel
theorem dX2_isWithin_7 : decode cX2_isWithin 7 = .ok (.if_icmp .gt 7, 3) := by decide +kernel
theorem dX2_isWithin_10 : decode cX2_isWithin 10 = .ok (.iconst 1, 1) := by decide +kernel
theorem dX2_isWithin_11 : decode cX2_isWithin 11 = .ok (.goto 4, 3) := by decide +kernel
theorem dX2_isWithin_14 : decode cX2_isWithin 14 = .ok (.iconst 0, 1) := by decide +kernel
theorem dX2_isWithin_15 : decode cX2_isWithin 15 = .ok (.ireturn, 1) := by decide +kernel
theorem dX2_requireArgument_0 : decode cX2_requireArgument 0 = .ok (.iload_n 0, 1) := by decide +kernel
theorem dX2_requireArgument_1 : decode cX2_requireArgument 1 = .ok (.ifCond .ne 11, 3) := by decide +kernel
theorem dX2_requireArgument_4 : decode cX2_requireArgument 4 = .ok (.new 144, 3) := by decide +kernel
theorem dX2_requireArgument_7 : decode cX2_requireArgument 7 = .ok (.dup, 1) := by decide +kernel
theorem dX2_requireArgument_8 : decode cX2_requireArgument 8 = .ok (.invokespecial 146, 3) := by decide +kernel
theorem dX2_requireArgument_11 : decode cX2_requireArgument 11 = .ok (.athrow, 1) := by decide +kernel
theorem dX2_requireArgument_12 : decode cX2_requireArgument 12 = .ok (.return_, 1) := by decide +kernel
theorem dX2_requireState_0 : decode cX2_requireState 0 = .ok (.iload_n 0, 1) := by decide +kernel
theorem dX2_requireState_1 : decode cX2_requireState 1 = .ok (.ifCond .ne 11, 3) := by decide +kernel
theorem dX2_requireState_4 : decode cX2_requireState 4 = .ok (.new 147, 3) := by decide +kernel
theorem dX2_requireState_7 : decode cX2_requireState 7 = .ok (.dup, 1) := by decide +kernel
theorem dX2_requireState_8 : decode cX2_requireState 8 = .ok (.invokespecial 149, 3) := by decide +kernel
theorem dX2_requireState_11 : decode cX2_requireState 11 = .ok (.athrow, 1) := by decide +kernel
theorem dX2_requireState_12 : decode cX2_requireState 12 = .ok (.return_, 1) := by decide +kernel
theorem dX3_init_0 : decode cX3_init 0 = .ok (.aload_n 0, 1) := by decide +kernel
theorem dX3_init_1 : decode cX3_init 1 = .ok (.invokespecial 1, 3) := by decide +kernel
theorem dX3_init_4 : decode cX3_init 4 = .ok (.aload_n 0, 1) := by decide +kernel
theorem dX3_init_5 : decode cX3_init 5 = .ok (.bipush 8, 2) := by decide +kernel
theorem dX3_init_7 : decode cX3_init 7 = .ok (.newarray .int, 2) := by decide +kernel
theorem dX3_init_9 : decode cX3_init 9 = .ok (.putfield 7, 3) := by decide +kernel
theorem dX3_init_12 : decode cX3_init 12 = .ok (.aload_n 0, 1) := by decide +kernel
theorem dX3_init_13 : decode cX3_init 13 = .ok (.bipush 8, 2) := by decide +kernel
theorem dX3_init_15 : decode cX3_init 15 = .ok (.newarray .boolean, 2) := by decide +kernel
theorem dX3_init_17 : decode cX3_init 17 = .ok (.putfield 13, 3) := by decide +kernel
theorem dX3_init_20 : decode cX3_init 20 = .ok (.aload_n 0, 1) := by decide +kernel
theorem dX3_init_21 : decode cX3_init 21 = .ok (.bipush 8, 2) := by decide +kernel
theorem dX3_init_23 : decode cX3_init 23 = .ok (.newarray .int, 2) := by decide +kernel
theorem dX3_init_25 : decode cX3_init 25 = .ok (.putfield 17, 3) := by decide +kernel
theorem dX3_init_28 : decode cX3_init 28 = .ok (.aload_n 0, 1) := by decide +kernel
theorem dX3_init_29 : decode cX3_init 29 = .ok (.sipush 240, 3) := by decide +kernel
theorem dX3_init_32 : decode cX3_init 32 = .ok (.newarray .int, 2) := by decide +kernel
theorem dX3_init_34 : decode cX3_init 34 = .ok (.putfield 20, 3) := by decide +kernel
theorem dX3_init_37 : decode cX3_init 37 = .ok (.aload_n 0, 1) := by decide +kernel
theorem dX3_init_38 : decode cX3_init 38 = .ok (.sipush 240, 3) := by decide +kernel
theorem dX3_init_41 : decode cX3_init 41 = .ok (.newarray .int, 2) := by decide +kernel
theorem dX3_init_43 : decode cX3_init 43 = .ok (.putfield 23, 3) := by decide +kernel
theorem dX3_init_46 : decode cX3_init 46 = .ok (.aload_n 0, 1) := by decide +kernel
theorem dX3_init_47 : decode cX3_init 47 = .ok (.sipush 240, 3) := by decide +kernel
theorem dX3_init_50 : decode cX3_init 50 = .ok (.newarray .int, 2) := by decide +kernel
theorem dX3_init_52 : decode cX3_init 52 = .ok (.putfield 26, 3) := by decide +kernel
theorem dX3_init_55 : decode cX3_init 55 = .ok (.aload_n 0, 1) := by decide +kernel
theorem dX3_init_56 : decode cX3_init 56 = .ok (.bipush 8, 2) := by decide +kernel
theorem dX3_init_58 : decode cX3_init 58 = .ok (.newarray .int, 2) := by decide +kernel
theorem dX3_init_60 : decode cX3_init 60 = .ok (.putfield 29, 3) := by decide +kernel
theorem dX3_init_63 : decode cX3_init 63 = .ok (.aload_n 0, 1) := by decide +kernel
theorem dX3_init_64 : decode cX3_init 64 = .ok (.bipush 8, 2) := by decide +kernel
theorem dX3_init_66 : decode cX3_init 66 = .ok (.newarray .int, 2) := by decide +kernel
theorem dX3_init_68 : decode cX3_init 68 = .ok (.putfield 32, 3) := by decide +kernel
theorem dX3_init_71 : decode cX3_init 71 = .ok (.aload_n 0, 1) := by decide +kernel
theorem dX3_init_72 : decode cX3_init 72 = .ok (.bipush 10, 2) := by decide +kernel
theorem dX3_init_74 : decode cX3_init 74 = .ok (.newarray .int, 2) := by decide +kernel
theorem dX3_init_76 : decode cX3_init 76 = .ok (.putfield 35, 3) := by decide +kernel
theorem dX3_init_79 : decode cX3_init 79 = .ok (.aload_n 0, 1) := by decide +kernel
theorem dX3_init_80 : decode cX3_init 80 = .ok (.bipush 10, 2) := by decide +kernel
theorem dX3_init_82 : decode cX3_init 82 = .ok (.newarray .int, 2) := by decide +kernel
theorem dX3_init_84 : decode cX3_init 84 = .ok (.putfield 38, 3) := by decide +kernel
theorem dX3_init_87 : decode cX3_init 87 = .ok (.aload_n 0, 1) := by decide +kernel
theorem dX3_init_88 : decode cX3_init 88 = .ok (.bipush 10, 2) := by decide +kernel
theorem dX3_init_90 : decode cX3_init 90 = .ok (.newarray .int, 2) := by decide +kernel
theorem dX3_init_92 : decode cX3_init 92 = .ok (.putfield 41, 3) := by decide +kernel
theorem dX3_init_95 : decode cX3_init 95 = .ok (.aload_n 0, 1) := by decide +kernel
theorem dX3_init_96 : decode cX3_init 96 = .ok (.bipush 10, 2) := by decide +kernel
theorem dX3_init_98 : decode cX3_init 98 = .ok (.newarray .int, 2) := by decide +kernel
theorem dX3_init_100 : decode cX3_init 100 = .ok (.putfield 44, 3) := by decide +kernel
theorem dX3_init_103 : decode cX3_init 103 = .ok (.aload_n 0, 1) := by decide +kernel
theorem dX3_init_104 : decode cX3_init 104 = .ok (.bipush 80, 2) := by decide +kernel
theorem dX3_init_106 : decode cX3_init 106 = .ok (.newarray .boolean, 2) := by decide +kernel
theorem dX3_init_108 : decode cX3_init 108 = .ok (.putfield 47, 3) := by decide +kernel
theorem dX3_init_111 : decode cX3_init 111 = .ok (.aload_n 0, 1) := by decide +kernel
theorem dX3_init_112 : decode cX3_init 112 = .ok (.bipush 50, 2) := by decide +kernel
theorem dX3_init_114 : decode cX3_init 114 = .ok (.putfield 50, 3) := by decide +kernel
theorem dX3_init_117 : decode cX3_init 117 = .ok (.aload_n 0, 1) := by decide +kernel
theorem dX3_init_118 : decode cX3_init 118 = .ok (.sipush 1608, 3) := by decide +kernel
theorem dX3_init_121 : decode cX3_init 121 = .ok (.newarray .int, 2) := by decide +kernel
theorem dX3_init_123 : decode cX3_init 123 = .ok (.putfield 54, 3) := by decide +kernel
theorem dX3_init_126 : decode cX3_init 126 = .ok (.aload_n 0, 1) := by decide +kernel
theorem dX3_init_127 : decode cX3_init 127 = .ok (.sipush 1608, 3) := by decide +kernel
theorem dX3_init_130 : decode cX3_init 130 = .ok (.newarray .int, 2) := by decide +kernel
theorem dX3_init_132 : decode cX3_init 132 = .ok (.putfield 57, 3) := by decide +kernel
theorem dX3_init_135 : decode cX3_init 135 = .ok (.aload_n 0, 1) := by decide +kernel
theorem dX3_init_136 : decode cX3_init 136 = .ok (.sipush 1608, 3) := by decide +kernel
theorem dX3_init_139 : decode cX3_init 139 = .ok (.newarray .int, 2) := by decide +kernel
theorem dX3_init_141 : decode cX3_init 141 = .ok (.putfield 60, 3) := by decide +kernel
theorem dX3_init_144 : decode cX3_init 144 = .ok (.aload_n 0, 1) := by decide +kernel
theorem dX3_init_145 : decode cX3_init 145 = .ok (.sipush 1608, 3) := by decide +kernel
theorem dX3_init_148 : decode cX3_init 148 = .ok (.newarray .int, 2) := by decide +kernel
theorem dX3_init_150 : decode cX3_init 150 = .ok (.putfield 63, 3) := by decide +kernel
theorem dX3_init_153 : decode cX3_init 153 = .ok (.aload_n 0, 1) := by decide +kernel
theorem dX3_init_154 : decode cX3_init 154 = .ok (.sipush 1608, 3) := by decide +kernel
theorem dX3_init_157 : decode cX3_init 157 = .ok (.newarray .boolean, 2) := by decide +kernel
theorem dX3_init_159 : decode cX3_init 159 = .ok (.putfield 66, 3) := by decide +kernel
theorem dX3_init_162 : decode cX3_init 162 = .ok (.aload_n 0, 1) := by decide +kernel
theorem dX3_init_163 : decode cX3_init 163 = .ok (.sipush 201, 3) := by decide +kernel
theorem dX3_init_166 : decode cX3_init 166 = .ok (.newarray .boolean, 2) := by decide +kernel
theorem dX3_init_168 : decode cX3_init 168 = .ok (.putfield 69, 3) := by decide +kernel
theorem dX3_init_171 : decode cX3_init 171 = .ok (.iconst 0, 1) := by decide +kernel
theorem dX3_init_172 : decode cX3_init 172 = .ok (.istore_n 1, 1) := by decide +kernel
theorem dX3_init_173 : decode cX3_init 173 = .ok (.iload_n 1, 1) := by decide +kernel
theorem dX3_init_174 : decode cX3_init 174 = .ok (.sipush 1608, 3) := by decide +kernel
theorem dX3_init_177 : decode cX3_init 177 = .ok (.if_icmp .ge 16, 3) := by decide +kernel
theorem dX3_init_180 : decode cX3_init 180 = .ok (.aload_n 0, 1) := by decide +kernel
theorem dX3_init_181 : decode cX3_init 181 = .ok (.getfield 63, 3) := by decide +kernel
theorem dX3_init_184 : decode cX3_init 184 = .ok (.iload_n 1, 1) := by decide +kernel
theorem dX3_init_185 : decode cX3_init 185 = .ok (.iconst (-1), 1) := by decide +kernel
theorem dX3_init_186 : decode cX3_init 186 = .ok (.iastore, 1) := by decide +kernel
theorem dX3_init_187 : decode cX3_init 187 = .ok (.iinc 1 1, 3) := by decide +kernel
theorem dX3_init_190 : decode cX3_init 190 = .ok (.goto (-17), 3) := by decide +kernel
theorem dX3_init_193 : decode cX3_init 193 = .ok (.return_, 1) := by decide +kernel
theorem dX3_thrown_0 : decode cX3_thrown 0 = .ok (.aload_n 0, 1) := by decide +kernel
theorem dX3_thrown_1 : decode cX3_thrown 1 = .ok (.getfield 72, 3) := by decide +kernel
theorem dX3_thrown_4 : decode cX3_thrown 4 = .ok (.ireturn, 1) := by decide +kernel
theorem dX3_fails_0 : decode cX3_fails 0 = .ok (.aload_n 0, 1) := by decide +kernel
theorem dX3_fails_1 : decode cX3_fails 1 = .ok (.iload_n 1, 1) := by decide +kernel
theorem dX3_fails_2 : decode cX3_fails 2 = .ok (.putfield 72, 3) := by decide +kernel
theorem dX3_fails_5 : decode cX3_fails 5 = .ok (.iconst 0, 1) := by decide +kernel
theorem dX3_fails_6 : decode cX3_fails 6 = .ok (.ireturn, 1) := by decide +kernel
theorem dX3_asks_0 : decode cX3_asks 0 = .ok (.aload_n 0, 1) := by decide +kernel
theorem dX3_asks_1 : decode cX3_asks 1 = .ok (.iload_n 1, 1) := by decide +kernel
theorem dX3_asks_2 : decode cX3_asks 2 = .ok (.ifCond .eq 7, 3) := by decide +kernel
theorem dX3_asks_5 : decode cX3_asks 5 = .ok (.iconst 0, 1) := by decide +kernel
theorem dX3_asks_6 : decode cX3_asks 6 = .ok (.goto 4, 3) := by decide +kernel
theorem dX3_asks_9 : decode cX3_asks 9 = .ok (.iconst 1, 1) := by decide +kernel
theorem dX3_asks_10 : decode cX3_asks 10 = .ok (.putfield 72, 3) := by decide +kernel
theorem dX3_asks_13 : decode cX3_asks 13 = .ok (.iload_n 1, 1) := by decide +kernel
theorem dX3_asks_14 : decode cX3_asks 14 = .ok (.ireturn, 1) := by decide +kernel
theorem dX3_in_0 : decode cX3_in 0 = .ok (.iload_n 0, 1) := by decide +kernel
theorem dX3_in_1 : decode cX3_in 1 = .ok (.iload_n 1, 1) := by decide +kernel
theorem dX3_in_2 : decode cX3_in 2 = .ok (.if_icmp .lt 12, 3) := by decide +kernel
theorem dX3_in_5 : decode cX3_in 5 = .ok (.iload_n 0, 1) := by decide +kernel
theorem dX3_in_6 : decode cX3_in 6 = .ok (.iload_n 2, 1) := by decide +kernel
theorem dX3_in_7 : decode cX3_in 7 = .ok (.if_icmp .gt 7, 3) := by decide +kernel
theorem dX3_in_10 : decode cX3_in 10 = .ok (.iconst 1, 1) := by decide +kernel
theorem dX3_in_11 : decode cX3_in 11 = .ok (.goto 4, 3) := by decide +kernel
theorem dX3_in_14 : decode cX3_in 14 = .ok (.iconst 0, 1) := by decide +kernel
theorem dX3_in_15 : decode cX3_in 15 = .ok (.ireturn, 1) := by decide +kernel
theorem dX3_isWorker_0 : decode cX3_isWorker 0 = .ok (.iload_n 1, 1) := by decide +kernel
theorem dX3_isWorker_1 : decode cX3_isWorker 1 = .ok (.ifCond .lt 15, 3) := by decide +kernel
theorem dX3_isWorker_4 : decode cX3_isWorker 4 = .ok (.iload_n 1, 1) := by decide +kernel
theorem dX3_isWorker_5 : decode cX3_isWorker 5 = .ok (.aload_n 0, 1) := by decide +kernel
theorem dX3_isWorker_6 : decode cX3_isWorker 6 = .ok (.getfield 75, 3) := by decide +kernel
theorem dX3_isWorker_9 : decode cX3_isWorker 9 = .ok (.if_icmp .ge 7, 3) := by decide +kernel
theorem dX3_isWorker_12 : decode cX3_isWorker 12 = .ok (.iconst 1, 1) := by decide +kernel
theorem dX3_isWorker_13 : decode cX3_isWorker 13 = .ok (.goto 4, 3) := by decide +kernel
theorem dX3_isWorker_16 : decode cX3_isWorker 16 = .ok (.iconst 0, 1) := by decide +kernel
theorem dX3_isWorker_17 : decode cX3_isWorker 17 = .ok (.ireturn, 1) := by decide +kernel
theorem dX3_isCourse_0 : decode cX3_isCourse 0 = .ok (.iload_n 1, 1) := by decide +kernel
theorem dX3_isCourse_1 : decode cX3_isCourse 1 = .ok (.ifCond .lt 15, 3) := by decide +kernel
theorem dX3_isCourse_4 : decode cX3_isCourse 4 = .ok (.iload_n 1, 1) := by decide +kernel
theorem dX3_isCourse_5 : decode cX3_isCourse 5 = .ok (.aload_n 0, 1) := by decide +kernel
theorem dX3_isCourse_6 : decode cX3_isCourse 6 = .ok (.getfield 78, 3) := by decide +kernel
theorem dX3_isCourse_9 : decode cX3_isCourse 9 = .ok (.if_icmp .ge 7, 3) := by decide +kernel
theorem dX3_isCourse_12 : decode cX3_isCourse 12 = .ok (.iconst 1, 1) := by decide +kernel
theorem dX3_isCourse_13 : decode cX3_isCourse 13 = .ok (.goto 4, 3) := by decide +kernel
theorem dX3_isCourse_16 : decode cX3_isCourse 16 = .ok (.iconst 0, 1) := by decide +kernel
theorem dX3_isCourse_17 : decode cX3_isCourse 17 = .ok (.ireturn, 1) := by decide +kernel
theorem dX3_add_0 : decode cX3_add 0 = .ok (.aload_n 0, 1) := by decide +kernel
theorem dX3_add_1 : decode cX3_add 1 = .ok (.iload_n 1, 1) := by decide +kernel
theorem dX3_add_2 : decode cX3_add 2 = .ok (.iconst 1, 1) := by decide +kernel
theorem dX3_add_3 : decode cX3_add 3 = .ok (.ldc 81, 2) := by decide +kernel
theorem dX3_add_5 : decode cX3_add 5 = .ok (.invokestatic 82, 3) := by decide +kernel
theorem dX3_add_8 : decode cX3_add 8 = .ok (.invokevirtual 86, 3) := by decide +kernel
theorem dX3_add_11 : decode cX3_add 11 = .ok (.ifCond .ne 5, 3) := by decide +kernel
theorem dX3_add_14 : decode cX3_add 14 = .ok (.iconst 0, 1) := by decide +kernel
theorem dX3_add_15 : decode cX3_add 15 = .ok (.ireturn, 1) := by decide +kernel
theorem dX3_add_16 : decode cX3_add 16 = .ok (.aload_n 0, 1) := by decide +kernel
theorem dX3_add_17 : decode cX3_add 17 = .ok (.getfield 75, 3) := by decide +kernel
theorem dX3_add_20 : decode cX3_add 20 = .ok (.bipush 8, 2) := by decide +kernel
theorem dX3_add_22 : decode cX3_add 22 = .ok (.if_icmp .ne 9, 3) := by decide +kernel
theorem dX3_add_25 : decode cX3_add 25 = .ok (.aload_n 0, 1) := by decide +kernel
theorem dX3_add_26 : decode cX3_add 26 = .ok (.iconst 2, 1) := by decide +kernel
theorem dX3_add_27 : decode cX3_add 27 = .ok (.invokevirtual 90, 3) := by decide +kernel
theorem dX3_add_30 : decode cX3_add 30 = .ok (.ireturn, 1) := by decide +kernel
theorem dX3_add_31 : decode cX3_add 31 = .ok (.aload_n 0, 1) := by decide +kernel
theorem dX3_add_32 : decode cX3_add 32 = .ok (.getfield 7, 3) := by decide +kernel
theorem dX3_add_35 : decode cX3_add 35 = .ok (.aload_n 0, 1) := by decide +kernel
theorem dX3_add_36 : decode cX3_add 36 = .ok (.getfield 75, 3) := by decide +kernel
theorem dX3_add_39 : decode cX3_add 39 = .ok (.iload_n 1, 1) := by decide +kernel
theorem dX3_add_40 : decode cX3_add 40 = .ok (.iastore, 1) := by decide +kernel
theorem dX3_add_41 : decode cX3_add 41 = .ok (.aload_n 0, 1) := by decide +kernel
theorem dX3_add_42 : decode cX3_add 42 = .ok (.getfield 13, 3) := by decide +kernel
theorem dX3_add_45 : decode cX3_add 45 = .ok (.aload_n 0, 1) := by decide +kernel
theorem dX3_add_46 : decode cX3_add 46 = .ok (.getfield 75, 3) := by decide +kernel
theorem dX3_add_49 : decode cX3_add 49 = .ok (.iload_n 2, 1) := by decide +kernel
theorem dX3_add_50 : decode cX3_add 50 = .ok (.bastore, 1) := by decide +kernel
theorem dX3_add_51 : decode cX3_add 51 = .ok (.aload_n 0, 1) := by decide +kernel
theorem dX3_add_52 : decode cX3_add 52 = .ok (.dup, 1) := by decide +kernel
theorem dX3_add_53 : decode cX3_add 53 = .ok (.getfield 75, 3) := by decide +kernel
theorem dX3_add_56 : decode cX3_add 56 = .ok (.iconst 1, 1) := by decide +kernel
theorem dX3_add_57 : decode cX3_add 57 = .ok (.iadd, 1) := by decide +kernel
theorem dX3_add_58 : decode cX3_add 58 = .ok (.putfield 75, 3) := by decide +kernel
theorem dX3_add_61 : decode cX3_add 61 = .ok (.aload_n 0, 1) := by decide +kernel
theorem dX3_add_62 : decode cX3_add 62 = .ok (.getfield 75, 3) := by decide +kernel
theorem dX3_add_65 : decode cX3_add 65 = .ok (.iconst 1, 1) := by decide +kernel
theorem dX3_add_66 : decode cX3_add 66 = .ok (.isub, 1) := by decide +kernel
theorem dX3_add_67 : decode cX3_add 67 = .ok (.ireturn, 1) := by decide +kernel
theorem dX3_notice_0 : decode cX3_notice 0 = .ok (.aload_n 0, 1) := by decide +kernel
theorem dX3_notice_1 : decode cX3_notice 1 = .ok (.aload_n 0, 1) := by decide +kernel
theorem dX3_notice_2 : decode cX3_notice 2 = .ok (.iload_n 1, 1) := by decide +kernel
theorem dX3_notice_3 : decode cX3_notice 3 = .ok (.invokevirtual 94, 3) := by decide +kernel
theorem dX3_notice_6 : decode cX3_notice 6 = .ok (.invokevirtual 86, 3) := by decide +kernel
theorem dX3_notice_9 : decode cX3_notice 9 = .ok (.ifCond .ne 5, 3) := by decide +kernel
theorem dX3_notice_12 : decode cX3_notice 12 = .ok (.iconst 0, 1) := by decide +kernel
theorem dX3_notice_13 : decode cX3_notice 13 = .ok (.ireturn, 1) := by decide +kernel
theorem dX3_notice_14 : decode cX3_notice 14 = .ok (.iload_n 2, 1) := by decide +kernel
theorem dX3_notice_15 : decode cX3_notice 15 = .ok (.iconst 0, 1) := by decide +kernel
theorem dX3_notice_16 : decode cX3_notice 16 = .ok (.sipush 200, 3) := by decide +kernel
theorem dX3_notice_19 : decode cX3_notice 19 = .ok (.invokestatic 82, 3) := by decide +kernel
theorem dX3_notice_22 : decode cX3_notice 22 = .ok (.ifCond .eq 25, 3) := by decide +kernel
theorem dX3_notice_25 : decode cX3_notice 25 = .ok (.iload_n 3, 1) := by decide +kernel
theorem dX3_notice_26 : decode cX3_notice 26 = .ok (.iload_n 2, 1) := by decide +kernel
theorem dX3_notice_27 : decode cX3_notice 27 = .ok (.sipush 200, 3) := by decide +kernel
theorem dX3_notice_30 : decode cX3_notice 30 = .ok (.invokestatic 82, 3) := by decide +kernel
theorem dX3_notice_33 : decode cX3_notice 33 = .ok (.ifCond .eq 14, 3) := by decide +kernel
theorem dX3_notice_36 : decode cX3_notice 36 = .ok (.iload 4, 2) := by decide +kernel
theorem dX3_notice_38 : decode cX3_notice 38 = .ok (.iconst 0, 1) := by decide +kernel
theorem dX3_notice_39 : decode cX3_notice 39 = .ok (.bipush 40, 2) := by decide +kernel
theorem dX3_notice_41 : decode cX3_notice 41 = .ok (.invokestatic 82, 3) := by decide +kernel
theorem dX3_notice_44 : decode cX3_notice 44 = .ok (.ifCond .ne 9, 3) := by decide +kernel
theorem dX3_notice_47 : decode cX3_notice 47 = .ok (.aload_n 0, 1) := by decide +kernel
theorem dX3_notice_48 : decode cX3_notice 48 = .ok (.iconst 2, 1) := by decide +kernel
theorem dX3_notice_49 : decode cX3_notice 49 = .ok (.invokevirtual 90, 3) := by decide +kernel
theorem dX3_notice_52 : decode cX3_notice 52 = .ok (.ireturn, 1) := by decide +kernel
theorem dX3_notice_53 : decode cX3_notice 53 = .ok (.iload_n 2, 1) := by decide +kernel
theorem dX3_notice_54 : decode cX3_notice 54 = .ok (.aload_n 0, 1) := by decide +kernel
theorem dX3_notice_55 : decode cX3_notice 55 = .ok (.getfield 98, 3) := by decide +kernel
theorem dX3_notice_58 : decode cX3_notice 58 = .ok (.iconst 2, 1) := by decide +kernel
theorem dX3_notice_59 : decode cX3_notice 59 = .ok (.iadd, 1) := by decide +kernel
theorem dX3_notice_60 : decode cX3_notice 60 = .ok (.if_icmp .lt 14, 3) := by decide +kernel
theorem dX3_notice_63 : decode cX3_notice 63 = .ok (.aload_n 0, 1) := by decide +kernel
theorem dX3_notice_64 : decode cX3_notice 64 = .ok (.getfield 17, 3) := by decide +kernel
theorem dX3_notice_67 : decode cX3_notice 67 = .ok (.iload_n 1, 1) := by decide +kernel
theorem dX3_notice_68 : decode cX3_notice 68 = .ok (.iaload, 1) := by decide +kernel
theorem dX3_notice_69 : decode cX3_notice 69 = .ok (.bipush 30, 2) := by decide +kernel
theorem dX3_notice_71 : decode cX3_notice 71 = .ok (.if_icmp .ne 9, 3) := by decide +kernel
theorem dX3_notice_74 : decode cX3_notice 74 = .ok (.aload_n 0, 1) := by decide +kernel
theorem dX3_notice_75 : decode cX3_notice 75 = .ok (.iconst 3, 1) := by decide +kernel
theorem dX3_notice_76 : decode cX3_notice 76 = .ok (.invokevirtual 90, 3) := by decide +kernel
theorem dX3_notice_79 : decode cX3_notice 79 = .ok (.ireturn, 1) := by decide +kernel
theorem dX3_notice_80 : decode cX3_notice 80 = .ok (.bipush 30, 2) := by decide +kernel
theorem dX3_notice_82 : decode cX3_notice 82 = .ok (.iload_n 1, 1) := by decide +kernel
theorem dX3_notice_83 : decode cX3_notice 83 = .ok (.imul, 1) := by decide +kernel
theorem dX3_notice_84 : decode cX3_notice 84 = .ok (.aload_n 0, 1) := by decide +kernel
theorem dX3_notice_85 : decode cX3_notice 85 = .ok (.getfield 17, 3) := by decide +kernel
theorem dX3_notice_88 : decode cX3_notice 88 = .ok (.iload_n 1, 1) := by decide +kernel
theorem dX3_notice_89 : decode cX3_notice 89 = .ok (.iaload, 1) := by decide +kernel
theorem dX3_notice_90 : decode cX3_notice 90 = .ok (.iadd, 1) := by decide +kernel
theorem dX3_notice_91 : decode cX3_notice 91 = .ok (.istore 5, 2) := by decide +kernel
theorem dX3_notice_93 : decode cX3_notice 93 = .ok (.aload_n 0, 1) := by decide +kernel
theorem dX3_notice_94 : decode cX3_notice 94 = .ok (.getfield 20, 3) := by decide +kernel
theorem dX3_notice_97 : decode cX3_notice 97 = .ok (.iload 5, 2) := by decide +kernel
theorem dX3_notice_99 : decode cX3_notice 99 = .ok (.iload_n 2, 1) := by decide +kernel
theorem dX3_notice_100 : decode cX3_notice 100 = .ok (.iastore, 1) := by decide +kernel
theorem dX3_notice_101 : decode cX3_notice 101 = .ok (.aload_n 0, 1) := by decide +kernel
theorem dX3_notice_102 : decode cX3_notice 102 = .ok (.getfield 23, 3) := by decide +kernel
theorem dX3_notice_105 : decode cX3_notice 105 = .ok (.iload 5, 2) := by decide +kernel
theorem dX3_notice_107 : decode cX3_notice 107 = .ok (.iload_n 3, 1) := by decide +kernel
theorem dX3_notice_108 : decode cX3_notice 108 = .ok (.iastore, 1) := by decide +kernel
theorem dX3_notice_109 : decode cX3_notice 109 = .ok (.aload_n 0, 1) := by decide +kernel
theorem dX3_notice_110 : decode cX3_notice 110 = .ok (.getfield 26, 3) := by decide +kernel
theorem dX3_notice_113 : decode cX3_notice 113 = .ok (.iload 5, 2) := by decide +kernel
theorem dX3_notice_115 : decode cX3_notice 115 = .ok (.iload 4, 2) := by decide +kernel
theorem dX3_notice_117 : decode cX3_notice 117 = .ok (.iastore, 1) := by decide +kernel
theorem dX3_notice_118 : decode cX3_notice 118 = .ok (.aload_n 0, 1) := by decide +kernel
theorem dX3_notice_119 : decode cX3_notice 119 = .ok (.getfield 17, 3) := by decide +kernel
theorem dX3_notice_122 : decode cX3_notice 122 = .ok (.iload_n 1, 1) := by decide +kernel
theorem dX3_notice_123 : decode cX3_notice 123 = .ok (.dup2, 1) := by decide +kernel
theorem dX3_notice_124 : decode cX3_notice 124 = .ok (.iaload, 1) := by decide +kernel
theorem dX3_notice_125 : decode cX3_notice 125 = .ok (.iconst 1, 1) := by decide +kernel
theorem dX3_notice_126 : decode cX3_notice 126 = .ok (.iadd, 1) := by decide +kernel
theorem dX3_notice_127 : decode cX3_notice 127 = .ok (.iastore, 1) := by decide +kernel
theorem dX3_notice_128 : decode cX3_notice 128 = .ok (.aload_n 0, 1) := by decide +kernel
theorem dX3_notice_129 : decode cX3_notice 129 = .ok (.getfield 17, 3) := by decide +kernel
theorem dX3_notice_132 : decode cX3_notice 132 = .ok (.iload_n 1, 1) := by decide +kernel
theorem dX3_notice_133 : decode cX3_notice 133 = .ok (.iaload, 1) := by decide +kernel
theorem dX3_notice_134 : decode cX3_notice 134 = .ok (.ireturn, 1) := by decide +kernel
theorem dX3_addCourse_0 : decode cX3_addCourse 0 = .ok (.aload_n 0, 1) := by decide +kernel
theorem dX3_addCourse_1 : decode cX3_addCourse 1 = .ok (.iload_n 1, 1) := by decide +kernel
theorem dX3_addCourse_2 : decode cX3_addCourse 2 = .ok (.iconst 1, 1) := by decide +kernel
theorem dX3_addCourse_3 : decode cX3_addCourse 3 = .ok (.bipush 8, 2) := by decide +kernel
theorem dX3_addCourse_5 : decode cX3_addCourse 5 = .ok (.invokestatic 82, 3) := by decide +kernel
theorem dX3_addCourse_8 : decode cX3_addCourse 8 = .ok (.ifCond .eq 40, 3) := by decide +kernel
theorem dX3_addCourse_11 : decode cX3_addCourse 11 = .ok (.iload_n 2, 1) := by decide +kernel
theorem dX3_addCourse_12 : decode cX3_addCourse 12 = .ok (.iconst 0, 1) := by decide +kernel
theorem dX3_addCourse_13 : decode cX3_addCourse 13 = .ok (.sipush 200, 3) := by decide +kernel
theorem dX3_addCourse_16 : decode cX3_addCourse 16 = .ok (.invokestatic 82, 3) := by decide +kernel
theorem dX3_addCourse_19 : decode cX3_addCourse 19 = .ok (.ifCond .eq 29, 3) := by decide +kernel
theorem dX3_addCourse_22 : decode cX3_addCourse 22 = .ok (.iload_n 3, 1) := by decide +kernel
theorem dX3_addCourse_23 : decode cX3_addCourse 23 = .ok (.iload_n 2, 1) := by decide +kernel
theorem dX3_addCourse_24 : decode cX3_addCourse 24 = .ok (.sipush 200, 3) := by decide +kernel
theorem dX3_addCourse_27 : decode cX3_addCourse 27 = .ok (.invokestatic 82, 3) := by decide +kernel
theorem dX3_addCourse_30 : decode cX3_addCourse 30 = .ok (.ifCond .eq 18, 3) := by decide +kernel
theorem dX3_addCourse_33 : decode cX3_addCourse 33 = .ok (.iload 4, 2) := by decide +kernel
theorem dX3_addCourse_35 : decode cX3_addCourse 35 = .ok (.iconst 1, 1) := by decide +kernel
theorem dX3_addCourse_36 : decode cX3_addCourse 36 = .ok (.bipush 40, 2) := by decide +kernel
theorem dX3_addCourse_38 : decode cX3_addCourse 38 = .ok (.invokestatic 82, 3) := by decide +kernel
theorem dX3_addCourse_41 : decode cX3_addCourse 41 = .ok (.ifCond .eq 7, 3) := by decide +kernel
theorem dX3_addCourse_44 : decode cX3_addCourse 44 = .ok (.iconst 1, 1) := by decide +kernel
theorem dX3_addCourse_45 : decode cX3_addCourse 45 = .ok (.goto 4, 3) := by decide +kernel
theorem dX3_addCourse_48 : decode cX3_addCourse 48 = .ok (.iconst 0, 1) := by decide +kernel
theorem dX3_addCourse_49 : decode cX3_addCourse 49 = .ok (.invokevirtual 86, 3) := by decide +kernel
theorem dX3_addCourse_52 : decode cX3_addCourse 52 = .ok (.ifCond .ne 5, 3) := by decide +kernel
theorem dX3_addCourse_55 : decode cX3_addCourse 55 = .ok (.iconst 0, 1) := by decide +kernel
theorem dX3_addCourse_56 : decode cX3_addCourse 56 = .ok (.ireturn, 1) := by decide +kernel
theorem dX3_addCourse_57 : decode cX3_addCourse 57 = .ok (.aload_n 0, 1) := by decide +kernel
theorem dX3_addCourse_58 : decode cX3_addCourse 58 = .ok (.getfield 78, 3) := by decide +kernel
theorem dX3_addCourse_61 : decode cX3_addCourse 61 = .ok (.bipush 10, 2) := by decide +kernel
theorem dX3_addCourse_63 : decode cX3_addCourse 63 = .ok (.if_icmp .ne 9, 3) := by decide +kernel
theorem dX3_addCourse_66 : decode cX3_addCourse 66 = .ok (.aload_n 0, 1) := by decide +kernel
theorem dX3_addCourse_67 : decode cX3_addCourse 67 = .ok (.iconst 2, 1) := by decide +kernel
theorem dX3_addCourse_68 : decode cX3_addCourse 68 = .ok (.invokevirtual 90, 3) := by decide +kernel
theorem dX3_addCourse_71 : decode cX3_addCourse 71 = .ok (.ireturn, 1) := by decide +kernel
theorem dX3_addCourse_72 : decode cX3_addCourse 72 = .ok (.aload_n 0, 1) := by decide +kernel
theorem dX3_addCourse_73 : decode cX3_addCourse 73 = .ok (.getfield 35, 3) := by decide +kernel
theorem dX3_addCourse_76 : decode cX3_addCourse 76 = .ok (.aload_n 0, 1) := by decide +kernel
theorem dX3_addCourse_77 : decode cX3_addCourse 77 = .ok (.getfield 78, 3) := by decide +kernel
theorem dX3_addCourse_80 : decode cX3_addCourse 80 = .ok (.iload_n 1, 1) := by decide +kernel
theorem dX3_addCourse_81 : decode cX3_addCourse 81 = .ok (.iastore, 1) := by decide +kernel
theorem dX3_addCourse_82 : decode cX3_addCourse 82 = .ok (.aload_n 0, 1) := by decide +kernel
theorem dX3_addCourse_83 : decode cX3_addCourse 83 = .ok (.getfield 38, 3) := by decide +kernel
theorem dX3_addCourse_86 : decode cX3_addCourse 86 = .ok (.aload_n 0, 1) := by decide +kernel
theorem dX3_addCourse_87 : decode cX3_addCourse 87 = .ok (.getfield 78, 3) := by decide +kernel
theorem dX3_addCourse_90 : decode cX3_addCourse 90 = .ok (.iload_n 2, 1) := by decide +kernel
theorem dX3_addCourse_91 : decode cX3_addCourse 91 = .ok (.iastore, 1) := by decide +kernel
theorem dX3_addCourse_92 : decode cX3_addCourse 92 = .ok (.aload_n 0, 1) := by decide +kernel
theorem dX3_addCourse_93 : decode cX3_addCourse 93 = .ok (.getfield 41, 3) := by decide +kernel
theorem dX3_addCourse_96 : decode cX3_addCourse 96 = .ok (.aload_n 0, 1) := by decide +kernel
theorem dX3_addCourse_97 : decode cX3_addCourse 97 = .ok (.getfield 78, 3) := by decide +kernel
theorem dX3_addCourse_100 : decode cX3_addCourse 100 = .ok (.iload_n 3, 1) := by decide +kernel
theorem dX3_addCourse_101 : decode cX3_addCourse 101 = .ok (.iastore, 1) := by decide +kernel
theorem dX3_addCourse_102 : decode cX3_addCourse 102 = .ok (.aload_n 0, 1) := by decide +kernel
theorem dX3_addCourse_103 : decode cX3_addCourse 103 = .ok (.getfield 44, 3) := by decide +kernel
theorem dX3_addCourse_106 : decode cX3_addCourse 106 = .ok (.aload_n 0, 1) := by decide +kernel
theorem dX3_addCourse_107 : decode cX3_addCourse 107 = .ok (.getfield 78, 3) := by decide +kernel
theorem dX3_addCourse_110 : decode cX3_addCourse 110 = .ok (.iload 4, 2) := by decide +kernel
theorem dX3_addCourse_112 : decode cX3_addCourse 112 = .ok (.iastore, 1) := by decide +kernel
theorem dX3_addCourse_113 : decode cX3_addCourse 113 = .ok (.aload_n 0, 1) := by decide +kernel
theorem dX3_addCourse_114 : decode cX3_addCourse 114 = .ok (.dup, 1) := by decide +kernel
theorem dX3_addCourse_115 : decode cX3_addCourse 115 = .ok (.getfield 78, 3) := by decide +kernel
theorem dX3_addCourse_118 : decode cX3_addCourse 118 = .ok (.iconst 1, 1) := by decide +kernel
theorem dX3_addCourse_119 : decode cX3_addCourse 119 = .ok (.iadd, 1) := by decide +kernel
theorem dX3_addCourse_120 : decode cX3_addCourse 120 = .ok (.putfield 78, 3) := by decide +kernel
theorem dX3_addCourse_123 : decode cX3_addCourse 123 = .ok (.aload_n 0, 1) := by decide +kernel
theorem dX3_addCourse_124 : decode cX3_addCourse 124 = .ok (.getfield 78, 3) := by decide +kernel
theorem dX3_addCourse_127 : decode cX3_addCourse 127 = .ok (.iconst 1, 1) := by decide +kernel
theorem dX3_addCourse_128 : decode cX3_addCourse 128 = .ok (.isub, 1) := by decide +kernel
theorem dX3_addCourse_129 : decode cX3_addCourse 129 = .ok (.ireturn, 1) := by decide +kernel
theorem dX3_meets_0 : decode cX3_meets 0 = .ok (.iconst 0, 1) := by decide +kernel
theorem dX3_meets_1 : decode cX3_meets 1 = .ok (.istore_n 3, 1) := by decide +kernel
theorem dX3_meets_2 : decode cX3_meets 2 = .ok (.iconst 0, 1) := by decide +kernel
theorem dX3_meets_3 : decode cX3_meets 3 = .ok (.istore 4, 2) := by decide +kernel
theorem dX3_meets_5 : decode cX3_meets 5 = .ok (.iload 4, 2) := by decide +kernel
theorem dX3_meets_7 : decode cX3_meets 7 = .ok (.aload_n 0, 1) := by decide +kernel
theorem dX3_meets_8 : decode cX3_meets 8 = .ok (.getfield 78, 3) := by decide +kernel
theorem dX3_meets_11 : decode cX3_meets 11 = .ok (.if_icmp .ge 66, 3) := by decide +kernel
theorem dX3_meets_14 : decode cX3_meets 14 = .ok (.iload_n 3, 1) := by decide +kernel
theorem dX3_meets_15 : decode cX3_meets 15 = .ok (.ifCond .ne 50, 3) := by decide +kernel
theorem dX3_meets_18 : decode cX3_meets 18 = .ok (.aload_n 0, 1) := by decide +kernel
theorem dX3_meets_19 : decode cX3_meets 19 = .ok (.getfield 47, 3) := by decide +kernel
theorem dX3_meets_22 : decode cX3_meets 22 = .ok (.bipush 8, 2) := by decide +kernel
theorem dX3_meets_24 : decode cX3_meets 24 = .ok (.iload 4, 2) := by decide +kernel
theorem dX3_meets_26 : decode cX3_meets 26 = .ok (.imul, 1) := by decide +kernel
theorem dX3_meets_27 : decode cX3_meets 27 = .ok (.iload_n 1, 1) := by decide +kernel
theorem dX3_meets_28 : decode cX3_meets 28 = .ok (.iadd, 1) := by decide +kernel
theorem dX3_meets_29 : decode cX3_meets 29 = .ok (.baload, 1) := by decide +kernel
theorem dX3_meets_30 : decode cX3_meets 30 = .ok (.ifCond .eq 39, 3) := by decide +kernel
theorem dX3_meets_33 : decode cX3_meets 33 = .ok (.aload_n 0, 1) := by decide +kernel
theorem dX3_meets_34 : decode cX3_meets 34 = .ok (.getfield 38, 3) := by decide +kernel
theorem dX3_meets_37 : decode cX3_meets 37 = .ok (.iload 4, 2) := by decide +kernel
theorem dX3_meets_39 : decode cX3_meets 39 = .ok (.iaload, 1) := by decide +kernel
theorem dX3_meets_40 : decode cX3_meets 40 = .ok (.aload_n 0, 1) := by decide +kernel
theorem dX3_meets_41 : decode cX3_meets 41 = .ok (.getfield 41, 3) := by decide +kernel
theorem dX3_meets_44 : decode cX3_meets 44 = .ok (.iload_n 2, 1) := by decide +kernel
theorem dX3_meets_45 : decode cX3_meets 45 = .ok (.iaload, 1) := by decide +kernel
theorem dX3_meets_46 : decode cX3_meets 46 = .ok (.if_icmp .gt 23, 3) := by decide +kernel
theorem dX3_meets_49 : decode cX3_meets 49 = .ok (.aload_n 0, 1) := by decide +kernel
theorem dX3_meets_50 : decode cX3_meets 50 = .ok (.getfield 38, 3) := by decide +kernel
theorem dX3_meets_53 : decode cX3_meets 53 = .ok (.iload_n 2, 1) := by decide +kernel
theorem dX3_meets_54 : decode cX3_meets 54 = .ok (.iaload, 1) := by decide +kernel
theorem dX3_meets_55 : decode cX3_meets 55 = .ok (.aload_n 0, 1) := by decide +kernel
theorem dX3_meets_56 : decode cX3_meets 56 = .ok (.getfield 41, 3) := by decide +kernel
theorem dX3_meets_59 : decode cX3_meets 59 = .ok (.iload 4, 2) := by decide +kernel
theorem dX3_meets_61 : decode cX3_meets 61 = .ok (.iaload, 1) := by decide +kernel
theorem dX3_meets_62 : decode cX3_meets 62 = .ok (.if_icmp .gt 7, 3) := by decide +kernel
theorem dX3_meets_65 : decode cX3_meets 65 = .ok (.iconst 1, 1) := by decide +kernel
theorem dX3_meets_66 : decode cX3_meets 66 = .ok (.goto 4, 3) := by decide +kernel
theorem dX3_meets_69 : decode cX3_meets 69 = .ok (.iconst 0, 1) := by decide +kernel
theorem dX3_meets_70 : decode cX3_meets 70 = .ok (.istore_n 3, 1) := by decide +kernel
theorem dX3_meets_71 : decode cX3_meets 71 = .ok (.iinc 4 1, 3) := by decide +kernel
theorem dX3_meets_74 : decode cX3_meets 74 = .ok (.goto (-69), 3) := by decide +kernel
theorem dX3_meets_77 : decode cX3_meets 77 = .ok (.iload_n 3, 1) := by decide +kernel
theorem dX3_meets_78 : decode cX3_meets 78 = .ok (.ireturn, 1) := by decide +kernel
theorem dX3_enrol_0 : decode cX3_enrol 0 = .ok (.aload_n 0, 1) := by decide +kernel
theorem dX3_enrol_1 : decode cX3_enrol 1 = .ok (.aload_n 0, 1) := by decide +kernel
theorem dX3_enrol_2 : decode cX3_enrol 2 = .ok (.iload_n 1, 1) := by decide +kernel
theorem dX3_enrol_3 : decode cX3_enrol 3 = .ok (.invokevirtual 94, 3) := by decide +kernel
theorem dX3_enrol_6 : decode cX3_enrol 6 = .ok (.ifCond .eq 15, 3) := by decide +kernel
theorem dX3_enrol_9 : decode cX3_enrol 9 = .ok (.aload_n 0, 1) := by decide +kernel
theorem dX3_enrol_10 : decode cX3_enrol 10 = .ok (.iload_n 2, 1) := by decide +kernel
theorem dX3_enrol_11 : decode cX3_enrol 11 = .ok (.invokevirtual 101, 3) := by decide +kernel
theorem dX3_enrol_14 : decode cX3_enrol 14 = .ok (.ifCond .eq 7, 3) := by decide +kernel
theorem dX3_enrol_17 : decode cX3_enrol 17 = .ok (.iconst 1, 1) := by decide +kernel
theorem dX3_enrol_18 : decode cX3_enrol 18 = .ok (.goto 4, 3) := by decide +kernel
theorem dX3_enrol_21 : decode cX3_enrol 21 = .ok (.iconst 0, 1) := by decide +kernel
theorem dX3_enrol_22 : decode cX3_enrol 22 = .ok (.invokevirtual 86, 3) := by decide +kernel
theorem dX3_enrol_25 : decode cX3_enrol 25 = .ok (.ifCond .ne 5, 3) := by decide +kernel
theorem dX3_enrol_28 : decode cX3_enrol 28 = .ok (.iconst 0, 1) := by decide +kernel
theorem dX3_enrol_29 : decode cX3_enrol 29 = .ok (.ireturn, 1) := by decide +kernel
theorem dX3_enrol_30 : decode cX3_enrol 30 = .ok (.aload_n 0, 1) := by decide +kernel
theorem dX3_enrol_31 : decode cX3_enrol 31 = .ok (.getfield 35, 3) := by decide +kernel
theorem dX3_enrol_34 : decode cX3_enrol 34 = .ok (.iload_n 2, 1) := by decide +kernel
theorem dX3_enrol_35 : decode cX3_enrol 35 = .ok (.iaload, 1) := by decide +kernel
theorem dX3_enrol_36 : decode cX3_enrol 36 = .ok (.ifCond .eq 25, 3) := by decide +kernel
theorem dX3_enrol_39 : decode cX3_enrol 39 = .ok (.aload_n 0, 1) := by decide +kernel
theorem dX3_enrol_40 : decode cX3_enrol 40 = .ok (.iload_n 1, 1) := by decide +kernel
theorem dX3_enrol_41 : decode cX3_enrol 41 = .ok (.iload_n 2, 1) := by decide +kernel
theorem dX3_enrol_42 : decode cX3_enrol 42 = .ok (.invokevirtual 104, 3) := by decide +kernel
theorem dX3_enrol_45 : decode cX3_enrol 45 = .ok (.ifCond .ne 16, 3) := by decide +kernel
theorem dX3_enrol_48 : decode cX3_enrol 48 = .ok (.aload_n 0, 1) := by decide +kernel
theorem dX3_enrol_49 : decode cX3_enrol 49 = .ok (.getfield 41, 3) := by decide +kernel
theorem dX3_enrol_52 : decode cX3_enrol 52 = .ok (.iload_n 2, 1) := by decide +kernel
theorem dX3_enrol_53 : decode cX3_enrol 53 = .ok (.iaload, 1) := by decide +kernel
theorem dX3_enrol_54 : decode cX3_enrol 54 = .ok (.aload_n 0, 1) := by decide +kernel
theorem dX3_enrol_55 : decode cX3_enrol 55 = .ok (.getfield 98, 3) := by decide +kernel
theorem dX3_enrol_58 : decode cX3_enrol 58 = .ok (.if_icmp .ge 9, 3) := by decide +kernel
theorem dX3_enrol_61 : decode cX3_enrol 61 = .ok (.aload_n 0, 1) := by decide +kernel
theorem dX3_enrol_62 : decode cX3_enrol 62 = .ok (.iconst 2, 1) := by decide +kernel
theorem dX3_enrol_63 : decode cX3_enrol 63 = .ok (.invokevirtual 90, 3) := by decide +kernel
theorem dX3_enrol_66 : decode cX3_enrol 66 = .ok (.ireturn, 1) := by decide +kernel
theorem dX3_enrol_67 : decode cX3_enrol 67 = .ok (.aload_n 0, 1) := by decide +kernel
theorem dX3_enrol_68 : decode cX3_enrol 68 = .ok (.getfield 47, 3) := by decide +kernel
theorem dX3_enrol_71 : decode cX3_enrol 71 = .ok (.bipush 8, 2) := by decide +kernel
theorem dX3_enrol_73 : decode cX3_enrol 73 = .ok (.iload_n 2, 1) := by decide +kernel
theorem dX3_enrol_74 : decode cX3_enrol 74 = .ok (.imul, 1) := by decide +kernel
theorem dX3_enrol_75 : decode cX3_enrol 75 = .ok (.iload_n 1, 1) := by decide +kernel
theorem dX3_enrol_76 : decode cX3_enrol 76 = .ok (.iadd, 1) := by decide +kernel
theorem dX3_enrol_77 : decode cX3_enrol 77 = .ok (.iconst 1, 1) := by decide +kernel
theorem dX3_enrol_78 : decode cX3_enrol 78 = .ok (.bastore, 1) := by decide +kernel
theorem dX3_enrol_79 : decode cX3_enrol 79 = .ok (.aload_n 0, 1) := by decide +kernel
theorem dX3_enrol_80 : decode cX3_enrol 80 = .ok (.getfield 35, 3) := by decide +kernel
theorem dX3_enrol_83 : decode cX3_enrol 83 = .ok (.iload_n 2, 1) := by decide +kernel
theorem dX3_enrol_84 : decode cX3_enrol 84 = .ok (.dup2, 1) := by decide +kernel
theorem dX3_enrol_85 : decode cX3_enrol 85 = .ok (.iaload, 1) := by decide +kernel
theorem dX3_enrol_86 : decode cX3_enrol 86 = .ok (.iconst 1, 1) := by decide +kernel
theorem dX3_enrol_87 : decode cX3_enrol 87 = .ok (.isub, 1) := by decide +kernel
theorem dX3_enrol_88 : decode cX3_enrol 88 = .ok (.iastore, 1) := by decide +kernel
theorem dX3_enrol_89 : decode cX3_enrol 89 = .ok (.aload_n 0, 1) := by decide +kernel
theorem dX3_enrol_90 : decode cX3_enrol 90 = .ok (.getfield 35, 3) := by decide +kernel
theorem dX3_enrol_93 : decode cX3_enrol 93 = .ok (.iload_n 2, 1) := by decide +kernel
theorem dX3_enrol_94 : decode cX3_enrol 94 = .ok (.iaload, 1) := by decide +kernel
theorem dX3_enrol_95 : decode cX3_enrol 95 = .ok (.ireturn, 1) := by decide +kernel
theorem dX3_setFloor_0 : decode cX3_setFloor 0 = .ok (.aload_n 0, 1) := by decide +kernel
theorem dX3_setFloor_1 : decode cX3_setFloor 1 = .ok (.iload_n 1, 1) := by decide +kernel
theorem dX3_setFloor_2 : decode cX3_setFloor 2 = .ok (.iconst 0, 1) := by decide +kernel
theorem dX3_setFloor_3 : decode cX3_setFloor 3 = .ok (.bipush 100, 2) := by decide +kernel
theorem dX3_setFloor_5 : decode cX3_setFloor 5 = .ok (.invokestatic 82, 3) := by decide +kernel
theorem dX3_setFloor_8 : decode cX3_setFloor 8 = .ok (.invokevirtual 86, 3) := by decide +kernel
theorem dX3_setFloor_11 : decode cX3_setFloor 11 = .ok (.ifCond .ne 5, 3) := by decide +kernel
theorem dX3_setFloor_14 : decode cX3_setFloor 14 = .ok (.iconst 0, 1) := by decide +kernel
theorem dX3_setFloor_15 : decode cX3_setFloor 15 = .ok (.ireturn, 1) := by decide +kernel
theorem dX3_setFloor_16 : decode cX3_setFloor 16 = .ok (.aload_n 0, 1) := by decide +kernel
theorem dX3_setFloor_17 : decode cX3_setFloor 17 = .ok (.getfield 50, 3) := by decide +kernel
theorem dX3_setFloor_20 : decode cX3_setFloor 20 = .ok (.istore_n 2, 1) := by decide +kernel
theorem dX3_setFloor_21 : decode cX3_setFloor 21 = .ok (.aload_n 0, 1) := by decide +kernel
theorem dX3_setFloor_22 : decode cX3_setFloor 22 = .ok (.iload_n 1, 1) := by decide +kernel
theorem dX3_setFloor_23 : decode cX3_setFloor 23 = .ok (.putfield 50, 3) := by decide +kernel
theorem dX3_setFloor_26 : decode cX3_setFloor 26 = .ok (.iload_n 2, 1) := by decide +kernel
theorem dX3_setFloor_27 : decode cX3_setFloor 27 = .ok (.ireturn, 1) := by decide +kernel
theorem dX3_workers_0 : decode cX3_workers 0 = .ok (.aload_n 0, 1) := by decide +kernel
theorem dX3_workers_1 : decode cX3_workers 1 = .ok (.iconst 0, 1) := by decide +kernel
theorem dX3_workers_2 : decode cX3_workers 2 = .ok (.putfield 72, 3) := by decide +kernel
theorem dX3_workers_5 : decode cX3_workers 5 = .ok (.aload_n 0, 1) := by decide +kernel
theorem dX3_workers_6 : decode cX3_workers 6 = .ok (.getfield 75, 3) := by decide +kernel
theorem dX3_workers_9 : decode cX3_workers 9 = .ok (.ireturn, 1) := by decide +kernel
theorem dX3_cutOf_0 : decode cX3_cutOf 0 = .ok (.iconst 0, 1) := by decide +kernel
theorem dX3_cutOf_1 : decode cX3_cutOf 1 = .ok (.istore_n 3, 1) := by decide +kernel
theorem dX3_cutOf_2 : decode cX3_cutOf 2 = .ok (.bipush 30, 2) := by decide +kernel
theorem dX3_cutOf_4 : decode cX3_cutOf 4 = .ok (.iload_n 1, 1) := by decide +kernel
theorem dX3_cutOf_5 : decode cX3_cutOf 5 = .ok (.imul, 1) := by decide +kernel
theorem dX3_cutOf_6 : decode cX3_cutOf 6 = .ok (.istore 4, 2) := by decide +kernel
theorem dX3_cutOf_8 : decode cX3_cutOf 8 = .ok (.iload 4, 2) := by decide +kernel
theorem dX3_cutOf_10 : decode cX3_cutOf 10 = .ok (.bipush 30, 2) := by decide +kernel
theorem dX3_cutOf_12 : decode cX3_cutOf 12 = .ok (.iload_n 1, 1) := by decide +kernel
theorem dX3_cutOf_13 : decode cX3_cutOf 13 = .ok (.imul, 1) := by decide +kernel
theorem dX3_cutOf_14 : decode cX3_cutOf 14 = .ok (.aload_n 0, 1) := by decide +kernel
theorem dX3_cutOf_15 : decode cX3_cutOf 15 = .ok (.getfield 17, 3) := by decide +kernel
theorem dX3_cutOf_18 : decode cX3_cutOf 18 = .ok (.iload_n 1, 1) := by decide +kernel
theorem dX3_cutOf_19 : decode cX3_cutOf 19 = .ok (.iaload, 1) := by decide +kernel
theorem dX3_cutOf_20 : decode cX3_cutOf 20 = .ok (.iadd, 1) := by decide +kernel
theorem dX3_cutOf_21 : decode cX3_cutOf 21 = .ok (.if_icmp .ge 43, 3) := by decide +kernel
theorem dX3_cutOf_24 : decode cX3_cutOf 24 = .ok (.iload_n 2, 1) := by decide +kernel
theorem dX3_cutOf_25 : decode cX3_cutOf 25 = .ok (.aload_n 0, 1) := by decide +kernel
theorem dX3_cutOf_26 : decode cX3_cutOf 26 = .ok (.getfield 20, 3) := by decide +kernel
theorem dX3_cutOf_29 : decode cX3_cutOf 29 = .ok (.iload 4, 2) := by decide +kernel
theorem dX3_cutOf_31 : decode cX3_cutOf 31 = .ok (.iaload, 1) := by decide +kernel
theorem dX3_cutOf_32 : decode cX3_cutOf 32 = .ok (.if_icmp .lt 24, 3) := by decide +kernel
theorem dX3_cutOf_35 : decode cX3_cutOf 35 = .ok (.iload_n 2, 1) := by decide +kernel
theorem dX3_cutOf_36 : decode cX3_cutOf 36 = .ok (.aload_n 0, 1) := by decide +kernel
theorem dX3_cutOf_37 : decode cX3_cutOf 37 = .ok (.getfield 23, 3) := by decide +kernel
theorem dX3_cutOf_40 : decode cX3_cutOf 40 = .ok (.iload 4, 2) := by decide +kernel
theorem dX3_cutOf_42 : decode cX3_cutOf 42 = .ok (.iaload, 1) := by decide +kernel
theorem dX3_cutOf_43 : decode cX3_cutOf 43 = .ok (.if_icmp .gt 13, 3) := by decide +kernel
theorem dX3_cutOf_46 : decode cX3_cutOf 46 = .ok (.aload_n 0, 1) := by decide +kernel
theorem dX3_cutOf_47 : decode cX3_cutOf 47 = .ok (.getfield 26, 3) := by decide +kernel
theorem dX3_cutOf_50 : decode cX3_cutOf 50 = .ok (.iload 4, 2) := by decide +kernel
theorem dX3_cutOf_52 : decode cX3_cutOf 52 = .ok (.iaload, 1) := by decide +kernel
theorem dX3_cutOf_53 : decode cX3_cutOf 53 = .ok (.goto 4, 3) := by decide +kernel
theorem dX3_cutOf_56 : decode cX3_cutOf 56 = .ok (.iload_n 3, 1) := by decide +kernel
theorem dX3_cutOf_57 : decode cX3_cutOf 57 = .ok (.istore_n 3, 1) := by decide +kernel
theorem dX3_cutOf_58 : decode cX3_cutOf 58 = .ok (.iinc 4 1, 3) := by decide +kernel
theorem dX3_cutOf_61 : decode cX3_cutOf 61 = .ok (.goto (-53), 3) := by decide +kernel
theorem dX3_cutOf_64 : decode cX3_cutOf 64 = .ok (.iload_n 3, 1) := by decide +kernel
theorem dX3_cutOf_65 : decode cX3_cutOf 65 = .ok (.ireturn, 1) := by decide +kernel
theorem dX3_cut_0 : decode cX3_cut 0 = .ok (.aload_n 0, 1) := by decide +kernel
theorem dX3_cut_1 : decode cX3_cut 1 = .ok (.aload_n 0, 1) := by decide +kernel
theorem dX3_cut_2 : decode cX3_cut 2 = .ok (.iload_n 1, 1) := by decide +kernel
theorem dX3_cut_3 : decode cX3_cut 3 = .ok (.invokevirtual 94, 3) := by decide +kernel
theorem dX3_cut_6 : decode cX3_cut 6 = .ok (.invokevirtual 86, 3) := by decide +kernel
theorem dX3_cut_9 : decode cX3_cut 9 = .ok (.ifCond .ne 5, 3) := by decide +kernel
theorem dX3_cut_12 : decode cX3_cut 12 = .ok (.iconst 0, 1) := by decide +kernel
theorem dX3_cut_13 : decode cX3_cut 13 = .ok (.ireturn, 1) := by decide +kernel
theorem dX3_cut_14 : decode cX3_cut 14 = .ok (.iload_n 2, 1) := by decide +kernel
theorem dX3_cut_15 : decode cX3_cut 15 = .ok (.iconst 0, 1) := by decide +kernel
theorem dX3_cut_16 : decode cX3_cut 16 = .ok (.sipush 200, 3) := by decide +kernel
theorem dX3_cut_19 : decode cX3_cut 19 = .ok (.invokestatic 82, 3) := by decide +kernel
theorem dX3_cut_22 : decode cX3_cut 22 = .ok (.ifCond .eq 12, 3) := by decide +kernel
theorem dX3_cut_25 : decode cX3_cut 25 = .ok (.aload_n 0, 1) := by decide +kernel
theorem dX3_cut_26 : decode cX3_cut 26 = .ok (.iload_n 1, 1) := by decide +kernel
theorem dX3_cut_27 : decode cX3_cut 27 = .ok (.iload_n 2, 1) := by decide +kernel
theorem dX3_cut_28 : decode cX3_cut 28 = .ok (.invokevirtual 108, 3) := by decide +kernel
theorem dX3_cut_31 : decode cX3_cut 31 = .ok (.goto 8, 3) := by decide +kernel
theorem dX3_cut_34 : decode cX3_cut 34 = .ok (.aload_n 0, 1) := by decide +kernel
theorem dX3_cut_35 : decode cX3_cut 35 = .ok (.iconst 2, 1) := by decide +kernel
theorem dX3_cut_36 : decode cX3_cut 36 = .ok (.invokevirtual 90, 3) := by decide +kernel
theorem dX3_cut_39 : decode cX3_cut 39 = .ok (.ireturn, 1) := by decide +kernel
theorem dX3_fills_0 : decode cX3_fills 0 = .ok (.iconst 0, 1) := by decide +kernel
theorem dX3_fills_1 : decode cX3_fills 1 = .ok (.istore_n 3, 1) := by decide +kernel
theorem dX3_fills_2 : decode cX3_fills 2 = .ok (.iconst 0, 1) := by decide +kernel
theorem dX3_fills_3 : decode cX3_fills 3 = .ok (.istore 4, 2) := by decide +kernel
theorem dX3_fills_5 : decode cX3_fills 5 = .ok (.iload 4, 2) := by decide +kernel
theorem dX3_fills_7 : decode cX3_fills 7 = .ok (.aload_n 0, 1) := by decide +kernel
theorem dX3_fills_8 : decode cX3_fills 8 = .ok (.getfield 78, 3) := by decide +kernel
theorem dX3_fills_11 : decode cX3_fills 11 = .ok (.if_icmp .ge 74, 3) := by decide +kernel
theorem dX3_fills_14 : decode cX3_fills 14 = .ok (.iload_n 3, 1) := by decide +kernel
theorem dX3_fills_15 : decode cX3_fills 15 = .ok (.ifCond .ne 58, 3) := by decide +kernel
theorem dX3_fills_18 : decode cX3_fills 18 = .ok (.aload_n 0, 1) := by decide +kernel
theorem dX3_fills_19 : decode cX3_fills 19 = .ok (.getfield 47, 3) := by decide +kernel
theorem dX3_fills_22 : decode cX3_fills 22 = .ok (.bipush 8, 2) := by decide +kernel
theorem dX3_fills_24 : decode cX3_fills 24 = .ok (.iload 4, 2) := by decide +kernel
theorem dX3_fills_26 : decode cX3_fills 26 = .ok (.imul, 1) := by decide +kernel
theorem dX3_fills_27 : decode cX3_fills 27 = .ok (.iload_n 1, 1) := by decide +kernel
theorem dX3_fills_28 : decode cX3_fills 28 = .ok (.iadd, 1) := by decide +kernel
theorem dX3_fills_29 : decode cX3_fills 29 = .ok (.baload, 1) := by decide +kernel
theorem dX3_fills_30 : decode cX3_fills 30 = .ok (.ifCond .eq 47, 3) := by decide +kernel
theorem dX3_fills_33 : decode cX3_fills 33 = .ok (.iload_n 2, 1) := by decide +kernel
theorem dX3_fills_34 : decode cX3_fills 34 = .ok (.aload_n 0, 1) := by decide +kernel
theorem dX3_fills_35 : decode cX3_fills 35 = .ok (.getfield 38, 3) := by decide +kernel
theorem dX3_fills_38 : decode cX3_fills 38 = .ok (.iload 4, 2) := by decide +kernel
theorem dX3_fills_40 : decode cX3_fills 40 = .ok (.iaload, 1) := by decide +kernel
theorem dX3_fills_41 : decode cX3_fills 41 = .ok (.if_icmp .lt 36, 3) := by decide +kernel
theorem dX3_fills_44 : decode cX3_fills 44 = .ok (.iload_n 2, 1) := by decide +kernel
theorem dX3_fills_45 : decode cX3_fills 45 = .ok (.aload_n 0, 1) := by decide +kernel
theorem dX3_fills_46 : decode cX3_fills 46 = .ok (.getfield 41, 3) := by decide +kernel
theorem dX3_fills_49 : decode cX3_fills 49 = .ok (.iload 4, 2) := by decide +kernel
theorem dX3_fills_51 : decode cX3_fills 51 = .ok (.iaload, 1) := by decide +kernel
theorem dX3_fills_52 : decode cX3_fills 52 = .ok (.if_icmp .gt 25, 3) := by decide +kernel
theorem dX3_fills_55 : decode cX3_fills 55 = .ok (.iconst 2, 1) := by decide +kernel
theorem dX3_fills_56 : decode cX3_fills 56 = .ok (.aload_n 0, 1) := by decide +kernel
theorem dX3_fills_57 : decode cX3_fills 57 = .ok (.getfield 44, 3) := by decide +kernel
theorem dX3_fills_60 : decode cX3_fills 60 = .ok (.iload 4, 2) := by decide +kernel
theorem dX3_fills_62 : decode cX3_fills 62 = .ok (.iaload, 1) := by decide +kernel
theorem dX3_fills_63 : decode cX3_fills 63 = .ok (.imul, 1) := by decide +kernel
theorem dX3_fills_64 : decode cX3_fills 64 = .ok (.aload_n 0, 1) := by decide +kernel
theorem dX3_fills_65 : decode cX3_fills 65 = .ok (.iload_n 1, 1) := by decide +kernel
theorem dX3_fills_66 : decode cX3_fills 66 = .ok (.iload_n 2, 1) := by decide +kernel
theorem dX3_fills_67 : decode cX3_fills 67 = .ok (.invokevirtual 108, 3) := by decide +kernel
theorem dX3_fills_70 : decode cX3_fills 70 = .ok (.if_icmp .lt 7, 3) := by decide +kernel
theorem dX3_fills_73 : decode cX3_fills 73 = .ok (.iconst 1, 1) := by decide +kernel
theorem dX3_fills_74 : decode cX3_fills 74 = .ok (.goto 4, 3) := by decide +kernel
theorem dX3_fills_77 : decode cX3_fills 77 = .ok (.iconst 0, 1) := by decide +kernel
theorem dX3_fills_78 : decode cX3_fills 78 = .ok (.istore_n 3, 1) := by decide +kernel
theorem dX3_fills_79 : decode cX3_fills 79 = .ok (.iinc 4 1, 3) := by decide +kernel
theorem dX3_fills_82 : decode cX3_fills 82 = .ok (.goto (-77), 3) := by decide +kernel
theorem dX3_fills_85 : decode cX3_fills 85 = .ok (.iload_n 3, 1) := by decide +kernel
theorem dX3_fills_86 : decode cX3_fills 86 = .ok (.ireturn, 1) := by decide +kernel
theorem dX3_isFilled_0 : decode cX3_isFilled 0 = .ok (.aload_n 0, 1) := by decide +kernel
theorem dX3_isFilled_1 : decode cX3_isFilled 1 = .ok (.aload_n 0, 1) := by decide +kernel
theorem dX3_isFilled_2 : decode cX3_isFilled 2 = .ok (.iload_n 1, 1) := by decide +kernel
theorem dX3_isFilled_3 : decode cX3_isFilled 3 = .ok (.invokevirtual 94, 3) := by decide +kernel
theorem dX3_isFilled_6 : decode cX3_isFilled 6 = .ok (.invokevirtual 86, 3) := by decide +kernel
theorem dX3_isFilled_9 : decode cX3_isFilled 9 = .ok (.ifCond .ne 5, 3) := by decide +kernel
theorem dX3_isFilled_12 : decode cX3_isFilled 12 = .ok (.iconst 0, 1) := by decide +kernel
theorem dX3_isFilled_13 : decode cX3_isFilled 13 = .ok (.ireturn, 1) := by decide +kernel
theorem dX3_isFilled_14 : decode cX3_isFilled 14 = .ok (.iload_n 2, 1) := by decide +kernel
theorem dX3_isFilled_15 : decode cX3_isFilled 15 = .ok (.iconst 0, 1) := by decide +kernel
theorem dX3_isFilled_16 : decode cX3_isFilled 16 = .ok (.sipush 200, 3) := by decide +kernel
theorem dX3_isFilled_19 : decode cX3_isFilled 19 = .ok (.invokestatic 82, 3) := by decide +kernel
theorem dX3_isFilled_22 : decode cX3_isFilled 22 = .ok (.ifCond .ne 11, 3) := by decide +kernel
theorem dX3_isFilled_25 : decode cX3_isFilled 25 = .ok (.aload_n 0, 1) := by decide +kernel
theorem dX3_isFilled_26 : decode cX3_isFilled 26 = .ok (.iconst 2, 1) := by decide +kernel
theorem dX3_isFilled_27 : decode cX3_isFilled 27 = .ok (.invokevirtual 90, 3) := by decide +kernel
theorem dX3_isFilled_30 : decode cX3_isFilled 30 = .ok (.pop, 1) := by decide +kernel
theorem dX3_isFilled_31 : decode cX3_isFilled 31 = .ok (.iconst 0, 1) := by decide +kernel
theorem dX3_isFilled_32 : decode cX3_isFilled 32 = .ok (.ireturn, 1) := by decide +kernel
theorem dX3_isFilled_33 : decode cX3_isFilled 33 = .ok (.aload_n 0, 1) := by decide +kernel
theorem dX3_isFilled_34 : decode cX3_isFilled 34 = .ok (.iload_n 1, 1) := by decide +kernel
theorem dX3_isFilled_35 : decode cX3_isFilled 35 = .ok (.iload_n 2, 1) := by decide +kernel
theorem dX3_isFilled_36 : decode cX3_isFilled 36 = .ok (.invokevirtual 112, 3) := by decide +kernel
theorem dX3_isFilled_39 : decode cX3_isFilled 39 = .ok (.ireturn, 1) := by decide +kernel
theorem dX3_percent_0 : decode cX3_percent 0 = .ok (.aload_n 0, 1) := by decide +kernel
theorem dX3_percent_1 : decode cX3_percent 1 = .ok (.iload_n 1, 1) := by decide +kernel
theorem dX3_percent_2 : decode cX3_percent 2 = .ok (.aload_n 0, 1) := by decide +kernel
theorem dX3_percent_3 : decode cX3_percent 3 = .ok (.getfield 98, 3) := by decide +kernel
theorem dX3_percent_6 : decode cX3_percent 6 = .ok (.invokevirtual 112, 3) := by decide +kernel
theorem dX3_percent_9 : decode cX3_percent 9 = .ok (.istore_n 2, 1) := by decide +kernel
theorem dX3_percent_10 : decode cX3_percent 10 = .ok (.aload_n 0, 1) := by decide +kernel
theorem dX3_percent_11 : decode cX3_percent 11 = .ok (.getfield 29, 3) := by decide +kernel
theorem dX3_percent_14 : decode cX3_percent 14 = .ok (.iload_n 1, 1) := by decide +kernel
theorem dX3_percent_15 : decode cX3_percent 15 = .ok (.iaload, 1) := by decide +kernel
theorem dX3_percent_16 : decode cX3_percent 16 = .ok (.istore_n 3, 1) := by decide +kernel
theorem dX3_percent_17 : decode cX3_percent 17 = .ok (.iload_n 3, 1) := by decide +kernel
theorem dX3_percent_18 : decode cX3_percent 18 = .ok (.bipush 24, 2) := by decide +kernel
theorem dX3_percent_20 : decode cX3_percent 20 = .ok (.if_icmp .lt 8, 3) := by decide +kernel
theorem dX3_percent_23 : decode cX3_percent 23 = .ok (.bipush 80, 2) := by decide +kernel
theorem dX3_percent_25 : decode cX3_percent 25 = .ok (.goto 16, 3) := by decide +kernel
theorem dX3_percent_28 : decode cX3_percent 28 = .ok (.iload_n 3, 1) := by decide +kernel
theorem dX3_percent_29 : decode cX3_percent 29 = .ok (.bipush 12, 2) := by decide +kernel
theorem dX3_percent_31 : decode cX3_percent 31 = .ok (.if_icmp .lt 8, 3) := by decide +kernel
theorem dX3_percent_34 : decode cX3_percent 34 = .ok (.bipush 70, 2) := by decide +kernel
theorem dX3_percent_36 : decode cX3_percent 36 = .ok (.goto 5, 3) := by decide +kernel
theorem dX3_percent_39 : decode cX3_percent 39 = .ok (.bipush 60, 2) := by decide +kernel
theorem dX3_percent_41 : decode cX3_percent 41 = .ok (.istore 4, 2) := by decide +kernel
theorem dX3_percent_43 : decode cX3_percent 43 = .ok (.iload 4, 2) := by decide +kernel
theorem dX3_percent_45 : decode cX3_percent 45 = .ok (.aload_n 0, 1) := by decide +kernel
theorem dX3_percent_46 : decode cX3_percent 46 = .ok (.getfield 13, 3) := by decide +kernel
theorem dX3_percent_49 : decode cX3_percent 49 = .ok (.iload_n 1, 1) := by decide +kernel
theorem dX3_percent_50 : decode cX3_percent 50 = .ok (.baload, 1) := by decide +kernel
theorem dX3_percent_51 : decode cX3_percent 51 = .ok (.ifCond .eq 8, 3) := by decide +kernel
theorem dX3_percent_54 : decode cX3_percent 54 = .ok (.bipush 7, 2) := by decide +kernel
theorem dX3_percent_56 : decode cX3_percent 56 = .ok (.goto 4, 3) := by decide +kernel
theorem dX3_percent_59 : decode cX3_percent 59 = .ok (.iconst 0, 1) := by decide +kernel
theorem dX3_percent_60 : decode cX3_percent 60 = .ok (.iadd, 1) := by decide +kernel
theorem dX3_percent_61 : decode cX3_percent 61 = .ok (.istore 4, 2) := by decide +kernel
theorem dX3_percent_63 : decode cX3_percent 63 = .ok (.iload 4, 2) := by decide +kernel
theorem dX3_percent_65 : decode cX3_percent 65 = .ok (.iload_n 2, 1) := by decide +kernel
theorem dX3_percent_66 : decode cX3_percent 66 = .ok (.ifCond .eq 7, 3) := by decide +kernel
theorem dX3_percent_69 : decode cX3_percent 69 = .ok (.iconst 5, 1) := by decide +kernel
theorem dX3_percent_70 : decode cX3_percent 70 = .ok (.goto 15, 3) := by decide +kernel
theorem dX3_percent_73 : decode cX3_percent 73 = .ok (.iload_n 3, 1) := by decide +kernel
theorem dX3_percent_74 : decode cX3_percent 74 = .ok (.bipush 12, 2) := by decide +kernel
theorem dX3_percent_76 : decode cX3_percent 76 = .ok (.if_icmp .lt 8, 3) := by decide +kernel
theorem dX3_percent_79 : decode cX3_percent 79 = .ok (.bipush (-10), 2) := by decide +kernel
theorem dX3_percent_81 : decode cX3_percent 81 = .ok (.goto 4, 3) := by decide +kernel
theorem dX3_percent_84 : decode cX3_percent 84 = .ok (.iconst 0, 1) := by decide +kernel
theorem dX3_percent_85 : decode cX3_percent 85 = .ok (.iadd, 1) := by decide +kernel
theorem dX3_percent_86 : decode cX3_percent 86 = .ok (.ireturn, 1) := by decide +kernel
theorem dX3_pays_0 : decode cX3_pays 0 = .ok (.sipush 201, 3) := by decide +kernel
theorem dX3_pays_3 : decode cX3_pays 3 = .ok (.iload_n 1, 1) := by decide +kernel
theorem dX3_pays_4 : decode cX3_pays 4 = .ok (.imul, 1) := by decide +kernel
theorem dX3_pays_5 : decode cX3_pays 5 = .ok (.aload_n 0, 1) := by decide +kernel
theorem dX3_pays_6 : decode cX3_pays 6 = .ok (.getfield 98, 3) := by decide +kernel
theorem dX3_pays_9 : decode cX3_pays 9 = .ok (.iadd, 1) := by decide +kernel
theorem dX3_pays_10 : decode cX3_pays 10 = .ok (.istore_n 2, 1) := by decide +kernel
theorem dX3_pays_11 : decode cX3_pays 11 = .ok (.aload_n 0, 1) := by decide +kernel
theorem dX3_pays_12 : decode cX3_pays 12 = .ok (.getfield 7, 3) := by decide +kernel
theorem dX3_pays_15 : decode cX3_pays 15 = .ok (.iload_n 1, 1) := by decide +kernel
theorem dX3_pays_16 : decode cX3_pays 16 = .ok (.iaload, 1) := by decide +kernel
theorem dX3_pays_17 : decode cX3_pays 17 = .ok (.istore_n 3, 1) := by decide +kernel
theorem dX3_pays_18 : decode cX3_pays 18 = .ok (.aload_n 0, 1) := by decide +kernel
theorem dX3_pays_19 : decode cX3_pays 19 = .ok (.iload_n 1, 1) := by decide +kernel
theorem dX3_pays_20 : decode cX3_pays 20 = .ok (.aload_n 0, 1) := by decide +kernel
theorem dX3_pays_21 : decode cX3_pays 21 = .ok (.getfield 98, 3) := by decide +kernel
theorem dX3_pays_24 : decode cX3_pays 24 = .ok (.invokevirtual 108, 3) := by decide +kernel
theorem dX3_pays_27 : decode cX3_pays 27 = .ok (.istore 4, 2) := by decide +kernel
theorem dX3_pays_29 : decode cX3_pays 29 = .ok (.iload_n 3, 1) := by decide +kernel
theorem dX3_pays_30 : decode cX3_pays 30 = .ok (.bipush 40, 2) := by decide +kernel
theorem dX3_pays_32 : decode cX3_pays 32 = .ok (.iload 4, 2) := by decide +kernel
theorem dX3_pays_34 : decode cX3_pays 34 = .ok (.isub, 1) := by decide +kernel
theorem dX3_pays_35 : decode cX3_pays 35 = .ok (.imul, 1) := by decide +kernel
theorem dX3_pays_36 : decode cX3_pays 36 = .ok (.bipush 40, 2) := by decide +kernel
theorem dX3_pays_38 : decode cX3_pays 38 = .ok (.idiv, 1) := by decide +kernel
theorem dX3_pays_39 : decode cX3_pays 39 = .ok (.istore 5, 2) := by decide +kernel
theorem dX3_pays_41 : decode cX3_pays 41 = .ok (.iload_n 3, 1) := by decide +kernel
theorem dX3_pays_42 : decode cX3_pays 42 = .ok (.iload 5, 2) := by decide +kernel
theorem dX3_pays_44 : decode cX3_pays 44 = .ok (.isub, 1) := by decide +kernel
theorem dX3_pays_45 : decode cX3_pays 45 = .ok (.aload_n 0, 1) := by decide +kernel
theorem dX3_pays_46 : decode cX3_pays 46 = .ok (.iload_n 1, 1) := by decide +kernel
theorem dX3_pays_47 : decode cX3_pays 47 = .ok (.invokevirtual 115, 3) := by decide +kernel
theorem dX3_pays_50 : decode cX3_pays 50 = .ok (.imul, 1) := by decide +kernel
theorem dX3_pays_51 : decode cX3_pays 51 = .ok (.bipush 100, 2) := by decide +kernel
theorem dX3_pays_53 : decode cX3_pays 53 = .ok (.idiv, 1) := by decide +kernel
theorem dX3_pays_54 : decode cX3_pays 54 = .ok (.istore 6, 2) := by decide +kernel
theorem dX3_pays_56 : decode cX3_pays 56 = .ok (.iload_n 3, 1) := by decide +kernel
theorem dX3_pays_57 : decode cX3_pays 57 = .ok (.aload_n 0, 1) := by decide +kernel
theorem dX3_pays_58 : decode cX3_pays 58 = .ok (.getfield 50, 3) := by decide +kernel
theorem dX3_pays_61 : decode cX3_pays 61 = .ok (.imul, 1) := by decide +kernel
theorem dX3_pays_62 : decode cX3_pays 62 = .ok (.bipush 100, 2) := by decide +kernel
theorem dX3_pays_64 : decode cX3_pays 64 = .ok (.idiv, 1) := by decide +kernel
theorem dX3_pays_65 : decode cX3_pays 65 = .ok (.istore 7, 2) := by decide +kernel
theorem dX3_pays_67 : decode cX3_pays 67 = .ok (.iload 5, 2) := by decide +kernel
theorem dX3_pays_69 : decode cX3_pays 69 = .ok (.iload 6, 2) := by decide +kernel
theorem dX3_pays_71 : decode cX3_pays 71 = .ok (.iadd, 1) := by decide +kernel
theorem dX3_pays_72 : decode cX3_pays 72 = .ok (.iload 7, 2) := by decide +kernel
theorem dX3_pays_74 : decode cX3_pays 74 = .ok (.if_icmp .ge 11, 3) := by decide +kernel
theorem dX3_pays_77 : decode cX3_pays 77 = .ok (.iload 7, 2) := by decide +kernel
theorem dX3_pays_79 : decode cX3_pays 79 = .ok (.iload 5, 2) := by decide +kernel
theorem dX3_pays_81 : decode cX3_pays 81 = .ok (.isub, 1) := by decide +kernel
theorem dX3_pays_82 : decode cX3_pays 82 = .ok (.goto 5, 3) := by decide +kernel
theorem dX3_pays_85 : decode cX3_pays 85 = .ok (.iload 6, 2) := by decide +kernel
theorem dX3_pays_87 : decode cX3_pays 87 = .ok (.istore 6, 2) := by decide +kernel
theorem dX3_pays_89 : decode cX3_pays 89 = .ok (.iload 5, 2) := by decide +kernel
theorem dX3_pays_91 : decode cX3_pays 91 = .ok (.iload 6, 2) := by decide +kernel
theorem dX3_pays_93 : decode cX3_pays 93 = .ok (.iadd, 1) := by decide +kernel
theorem dX3_pays_94 : decode cX3_pays 94 = .ok (.iload_n 3, 1) := by decide +kernel
theorem dX3_pays_95 : decode cX3_pays 95 = .ok (.if_icmp .le 10, 3) := by decide +kernel
theorem dX3_pays_98 : decode cX3_pays 98 = .ok (.iload_n 3, 1) := by decide +kernel
theorem dX3_pays_99 : decode cX3_pays 99 = .ok (.iload 5, 2) := by decide +kernel
theorem dX3_pays_101 : decode cX3_pays 101 = .ok (.isub, 1) := by decide +kernel
theorem dX3_pays_102 : decode cX3_pays 102 = .ok (.goto 5, 3) := by decide +kernel
theorem dX3_pays_105 : decode cX3_pays 105 = .ok (.iload 6, 2) := by decide +kernel
theorem dX3_pays_107 : decode cX3_pays 107 = .ok (.istore 6, 2) := by decide +kernel
theorem dX3_pays_109 : decode cX3_pays 109 = .ok (.aload_n 0, 1) := by decide +kernel
theorem dX3_pays_110 : decode cX3_pays 110 = .ok (.getfield 54, 3) := by decide +kernel
theorem dX3_pays_113 : decode cX3_pays 113 = .ok (.iload_n 2, 1) := by decide +kernel
theorem dX3_pays_114 : decode cX3_pays 114 = .ok (.iload 5, 2) := by decide +kernel
theorem dX3_pays_116 : decode cX3_pays 116 = .ok (.iastore, 1) := by decide +kernel
theorem dX3_pays_117 : decode cX3_pays 117 = .ok (.aload_n 0, 1) := by decide +kernel
theorem dX3_pays_118 : decode cX3_pays 118 = .ok (.getfield 57, 3) := by decide +kernel
theorem dX3_pays_121 : decode cX3_pays 121 = .ok (.iload_n 2, 1) := by decide +kernel
theorem dX3_pays_122 : decode cX3_pays 122 = .ok (.iload 6, 2) := by decide +kernel
theorem dX3_pays_124 : decode cX3_pays 124 = .ok (.iastore, 1) := by decide +kernel
theorem dX3_pays_125 : decode cX3_pays 125 = .ok (.aload_n 0, 1) := by decide +kernel
theorem dX3_pays_126 : decode cX3_pays 126 = .ok (.getfield 60, 3) := by decide +kernel
theorem dX3_pays_129 : decode cX3_pays 129 = .ok (.iload_n 2, 1) := by decide +kernel
theorem dX3_pays_130 : decode cX3_pays 130 = .ok (.iload 4, 2) := by decide +kernel
theorem dX3_pays_132 : decode cX3_pays 132 = .ok (.iastore, 1) := by decide +kernel
theorem dX3_pays_133 : decode cX3_pays 133 = .ok (.aload_n 0, 1) := by decide +kernel
theorem dX3_pays_134 : decode cX3_pays 134 = .ok (.getfield 29, 3) := by decide +kernel
theorem dX3_pays_137 : decode cX3_pays 137 = .ok (.iload_n 1, 1) := by decide +kernel
theorem dX3_pays_138 : decode cX3_pays 138 = .ok (.dup2, 1) := by decide +kernel
theorem dX3_pays_139 : decode cX3_pays 139 = .ok (.iaload, 1) := by decide +kernel
theorem dX3_pays_140 : decode cX3_pays 140 = .ok (.iload 4, 2) := by decide +kernel
theorem dX3_pays_142 : decode cX3_pays 142 = .ok (.ifCond .le 7, 3) := by decide +kernel
theorem dX3_pays_145 : decode cX3_pays 145 = .ok (.iconst 1, 1) := by decide +kernel
theorem dX3_pays_146 : decode cX3_pays 146 = .ok (.goto 4, 3) := by decide +kernel
theorem dX3_pays_149 : decode cX3_pays 149 = .ok (.iconst 0, 1) := by decide +kernel
theorem dX3_pays_150 : decode cX3_pays 150 = .ok (.iadd, 1) := by decide +kernel
theorem dX3_pays_151 : decode cX3_pays 151 = .ok (.iastore, 1) := by decide +kernel
theorem dX3_pays_152 : decode cX3_pays 152 = .ok (.iload 6, 2) := by decide +kernel
theorem dX3_pays_154 : decode cX3_pays 154 = .ok (.ireturn, 1) := by decide +kernel
theorem dX3_pass_0 : decode cX3_pass 0 = .ok (.aload_n 0, 1) := by decide +kernel
theorem dX3_pass_1 : decode cX3_pass 1 = .ok (.iload_n 1, 1) := by decide +kernel
theorem dX3_pass_2 : decode cX3_pass 2 = .ok (.iconst 1, 1) := by decide +kernel
theorem dX3_pass_3 : decode cX3_pass 3 = .ok (.bipush 60, 2) := by decide +kernel
theorem dX3_pass_5 : decode cX3_pass 5 = .ok (.invokestatic 82, 3) := by decide +kernel
theorem dX3_pass_8 : decode cX3_pass 8 = .ok (.invokevirtual 86, 3) := by decide +kernel
theorem dX3_pass_11 : decode cX3_pass 11 = .ok (.ifCond .ne 5, 3) := by decide +kernel
theorem dX3_pass_14 : decode cX3_pass 14 = .ok (.iconst 0, 1) := by decide +kernel
theorem dX3_pass_15 : decode cX3_pass 15 = .ok (.ireturn, 1) := by decide +kernel
theorem dX3_pass_16 : decode cX3_pass 16 = .ok (.aload_n 0, 1) := by decide +kernel
theorem dX3_pass_17 : decode cX3_pass 17 = .ok (.getfield 98, 3) := by decide +kernel
theorem dX3_pass_20 : decode cX3_pass 20 = .ok (.iload_n 1, 1) := by decide +kernel
theorem dX3_pass_21 : decode cX3_pass 21 = .ok (.iadd, 1) := by decide +kernel
theorem dX3_pass_22 : decode cX3_pass 22 = .ok (.sipush 201, 3) := by decide +kernel
theorem dX3_pass_25 : decode cX3_pass 25 = .ok (.if_icmp .le 9, 3) := by decide +kernel
theorem dX3_pass_28 : decode cX3_pass 28 = .ok (.aload_n 0, 1) := by decide +kernel
theorem dX3_pass_29 : decode cX3_pass 29 = .ok (.iconst 2, 1) := by decide +kernel
theorem dX3_pass_30 : decode cX3_pass 30 = .ok (.invokevirtual 90, 3) := by decide +kernel
theorem dX3_pass_33 : decode cX3_pass 33 = .ok (.ireturn, 1) := by decide +kernel
theorem dX3_pass_34 : decode cX3_pass 34 = .ok (.iconst 0, 1) := by decide +kernel
theorem dX3_pass_35 : decode cX3_pass 35 = .ok (.istore_n 2, 1) := by decide +kernel
theorem dX3_pass_36 : decode cX3_pass 36 = .ok (.iconst 0, 1) := by decide +kernel
theorem dX3_pass_37 : decode cX3_pass 37 = .ok (.istore_n 3, 1) := by decide +kernel
theorem dX3_pass_38 : decode cX3_pass 38 = .ok (.iload_n 3, 1) := by decide +kernel
theorem dX3_pass_39 : decode cX3_pass 39 = .ok (.iload_n 1, 1) := by decide +kernel
theorem dX3_pass_40 : decode cX3_pass 40 = .ok (.if_icmp .ge 46, 3) := by decide +kernel
theorem dX3_pass_43 : decode cX3_pass 43 = .ok (.iconst 0, 1) := by decide +kernel
theorem dX3_pass_44 : decode cX3_pass 44 = .ok (.istore 4, 2) := by decide +kernel
theorem dX3_pass_46 : decode cX3_pass 46 = .ok (.iload 4, 2) := by decide +kernel
theorem dX3_pass_48 : decode cX3_pass 48 = .ok (.aload_n 0, 1) := by decide +kernel
theorem dX3_pass_49 : decode cX3_pass 49 = .ok (.getfield 75, 3) := by decide +kernel
theorem dX3_pass_52 : decode cX3_pass 52 = .ok (.if_icmp .ge 18, 3) := by decide +kernel
theorem dX3_pass_55 : decode cX3_pass 55 = .ok (.iload_n 2, 1) := by decide +kernel
theorem dX3_pass_56 : decode cX3_pass 56 = .ok (.aload_n 0, 1) := by decide +kernel
theorem dX3_pass_57 : decode cX3_pass 57 = .ok (.iload 4, 2) := by decide +kernel
theorem dX3_pass_59 : decode cX3_pass 59 = .ok (.invokevirtual 118, 3) := by decide +kernel
theorem dX3_pass_62 : decode cX3_pass 62 = .ok (.iadd, 1) := by decide +kernel
theorem dX3_pass_63 : decode cX3_pass 63 = .ok (.istore_n 2, 1) := by decide +kernel
theorem dX3_pass_64 : decode cX3_pass 64 = .ok (.iinc 4 1, 3) := by decide +kernel
theorem dX3_pass_67 : decode cX3_pass 67 = .ok (.goto (-21), 3) := by decide +kernel
theorem dX3_pass_70 : decode cX3_pass 70 = .ok (.aload_n 0, 1) := by decide +kernel
theorem dX3_pass_71 : decode cX3_pass 71 = .ok (.dup, 1) := by decide +kernel
theorem dX3_pass_72 : decode cX3_pass 72 = .ok (.getfield 98, 3) := by decide +kernel
theorem dX3_pass_75 : decode cX3_pass 75 = .ok (.iconst 1, 1) := by decide +kernel
theorem dX3_pass_76 : decode cX3_pass 76 = .ok (.iadd, 1) := by decide +kernel
theorem dX3_pass_77 : decode cX3_pass 77 = .ok (.putfield 98, 3) := by decide +kernel
theorem dX3_pass_80 : decode cX3_pass 80 = .ok (.iinc 3 1, 3) := by decide +kernel
theorem dX3_pass_83 : decode cX3_pass 83 = .ok (.goto (-45), 3) := by decide +kernel
theorem dX3_pass_86 : decode cX3_pass 86 = .ok (.iload_n 2, 1) := by decide +kernel
theorem dX3_pass_87 : decode cX3_pass 87 = .ok (.ireturn, 1) := by decide +kernel
theorem dX3_week_0 : decode cX3_week 0 = .ok (.aload_n 0, 1) := by decide +kernel
theorem dX3_week_1 : decode cX3_week 1 = .ok (.iconst 0, 1) := by decide +kernel
theorem dX3_week_2 : decode cX3_week 2 = .ok (.putfield 72, 3) := by decide +kernel
theorem dX3_week_5 : decode cX3_week 5 = .ok (.aload_n 0, 1) := by decide +kernel
theorem dX3_week_6 : decode cX3_week 6 = .ok (.getfield 98, 3) := by decide +kernel
theorem dX3_week_9 : decode cX3_week 9 = .ok (.ireturn, 1) := by decide +kernel
theorem dX3_isPast_0 : decode cX3_isPast 0 = .ok (.iload_n 1, 1) := by decide +kernel
theorem dX3_isPast_1 : decode cX3_isPast 1 = .ok (.ifCond .lt 15, 3) := by decide +kernel
theorem dX3_isPast_4 : decode cX3_isPast 4 = .ok (.iload_n 1, 1) := by decide +kernel
theorem dX3_isPast_5 : decode cX3_isPast 5 = .ok (.aload_n 0, 1) := by decide +kernel
theorem dX3_isPast_6 : decode cX3_isPast 6 = .ok (.getfield 98, 3) := by decide +kernel
theorem dX3_isPast_9 : decode cX3_isPast 9 = .ok (.if_icmp .ge 7, 3) := by decide +kernel
theorem dX3_isPast_12 : decode cX3_isPast 12 = .ok (.iconst 1, 1) := by decide +kernel
theorem dX3_isPast_13 : decode cX3_isPast 13 = .ok (.goto 4, 3) := by decide +kernel
theorem dX3_isPast_16 : decode cX3_isPast 16 = .ok (.iconst 0, 1) := by decide +kernel
theorem dX3_isPast_17 : decode cX3_isPast 17 = .ok (.ireturn, 1) := by decide +kernel
theorem dX3_paid_0 : decode cX3_paid 0 = .ok (.aload_n 0, 1) := by decide +kernel
theorem dX3_paid_1 : decode cX3_paid 1 = .ok (.aload_n 0, 1) := by decide +kernel
theorem dX3_paid_2 : decode cX3_paid 2 = .ok (.iload_n 1, 1) := by decide +kernel
theorem dX3_paid_3 : decode cX3_paid 3 = .ok (.invokevirtual 94, 3) := by decide +kernel
theorem dX3_paid_6 : decode cX3_paid 6 = .ok (.invokevirtual 86, 3) := by decide +kernel
theorem dX3_paid_9 : decode cX3_paid 9 = .ok (.ifCond .ne 5, 3) := by decide +kernel
theorem dX3_paid_12 : decode cX3_paid 12 = .ok (.iconst 0, 1) := by decide +kernel
theorem dX3_paid_13 : decode cX3_paid 13 = .ok (.ireturn, 1) := by decide +kernel
theorem dX3_paid_14 : decode cX3_paid 14 = .ok (.aload_n 0, 1) := by decide +kernel
theorem dX3_paid_15 : decode cX3_paid 15 = .ok (.iload_n 2, 1) := by decide +kernel
theorem dX3_paid_16 : decode cX3_paid 16 = .ok (.invokevirtual 121, 3) := by decide +kernel
theorem dX3_paid_19 : decode cX3_paid 19 = .ok (.ifCond .eq 18, 3) := by decide +kernel
theorem dX3_paid_22 : decode cX3_paid 22 = .ok (.aload_n 0, 1) := by decide +kernel
theorem dX3_paid_23 : decode cX3_paid 23 = .ok (.getfield 54, 3) := by decide +kernel
theorem dX3_paid_26 : decode cX3_paid 26 = .ok (.sipush 201, 3) := by decide +kernel
theorem dX3_paid_29 : decode cX3_paid 29 = .ok (.iload_n 1, 1) := by decide +kernel
theorem dX3_paid_30 : decode cX3_paid 30 = .ok (.imul, 1) := by decide +kernel
theorem dX3_paid_31 : decode cX3_paid 31 = .ok (.iload_n 2, 1) := by decide +kernel
theorem dX3_paid_32 : decode cX3_paid 32 = .ok (.iadd, 1) := by decide +kernel
theorem dX3_paid_33 : decode cX3_paid 33 = .ok (.iaload, 1) := by decide +kernel
theorem dX3_paid_34 : decode cX3_paid 34 = .ok (.goto 8, 3) := by decide +kernel
theorem dX3_paid_37 : decode cX3_paid 37 = .ok (.aload_n 0, 1) := by decide +kernel
theorem dX3_paid_38 : decode cX3_paid 38 = .ok (.iconst 2, 1) := by decide +kernel
theorem dX3_paid_39 : decode cX3_paid 39 = .ok (.invokevirtual 90, 3) := by decide +kernel
theorem dX3_paid_42 : decode cX3_paid 42 = .ok (.ireturn, 1) := by decide +kernel
theorem dX3_madeUp_0 : decode cX3_madeUp 0 = .ok (.aload_n 0, 1) := by decide +kernel
theorem dX3_madeUp_1 : decode cX3_madeUp 1 = .ok (.aload_n 0, 1) := by decide +kernel
theorem dX3_madeUp_2 : decode cX3_madeUp 2 = .ok (.iload_n 1, 1) := by decide +kernel
theorem dX3_madeUp_3 : decode cX3_madeUp 3 = .ok (.invokevirtual 94, 3) := by decide +kernel
theorem dX3_madeUp_6 : decode cX3_madeUp 6 = .ok (.invokevirtual 86, 3) := by decide +kernel
theorem dX3_madeUp_9 : decode cX3_madeUp 9 = .ok (.ifCond .ne 5, 3) := by decide +kernel
theorem dX3_madeUp_12 : decode cX3_madeUp 12 = .ok (.iconst 0, 1) := by decide +kernel
theorem dX3_madeUp_13 : decode cX3_madeUp 13 = .ok (.ireturn, 1) := by decide +kernel
theorem dX3_madeUp_14 : decode cX3_madeUp 14 = .ok (.aload_n 0, 1) := by decide +kernel
theorem dX3_madeUp_15 : decode cX3_madeUp 15 = .ok (.iload_n 2, 1) := by decide +kernel
theorem dX3_madeUp_16 : decode cX3_madeUp 16 = .ok (.invokevirtual 121, 3) := by decide +kernel
theorem dX3_madeUp_19 : decode cX3_madeUp 19 = .ok (.ifCond .eq 18, 3) := by decide +kernel
theorem dX3_madeUp_22 : decode cX3_madeUp 22 = .ok (.aload_n 0, 1) := by decide +kernel
theorem dX3_madeUp_23 : decode cX3_madeUp 23 = .ok (.getfield 57, 3) := by decide +kernel
theorem dX3_madeUp_26 : decode cX3_madeUp 26 = .ok (.sipush 201, 3) := by decide +kernel
theorem dX3_madeUp_29 : decode cX3_madeUp 29 = .ok (.iload_n 1, 1) := by decide +kernel
theorem dX3_madeUp_30 : decode cX3_madeUp 30 = .ok (.imul, 1) := by decide +kernel
theorem dX3_madeUp_31 : decode cX3_madeUp 31 = .ok (.iload_n 2, 1) := by decide +kernel
theorem dX3_madeUp_32 : decode cX3_madeUp 32 = .ok (.iadd, 1) := by decide +kernel
theorem dX3_madeUp_33 : decode cX3_madeUp 33 = .ok (.iaload, 1) := by decide +kernel
theorem dX3_madeUp_34 : decode cX3_madeUp 34 = .ok (.goto 8, 3) := by decide +kernel
theorem dX3_madeUp_37 : decode cX3_madeUp 37 = .ok (.aload_n 0, 1) := by decide +kernel
theorem dX3_madeUp_38 : decode cX3_madeUp 38 = .ok (.iconst 2, 1) := by decide +kernel
theorem dX3_madeUp_39 : decode cX3_madeUp 39 = .ok (.invokevirtual 90, 3) := by decide +kernel
theorem dX3_madeUp_42 : decode cX3_madeUp 42 = .ok (.ireturn, 1) := by decide +kernel
theorem dX3_cutWeeks_0 : decode cX3_cutWeeks 0 = .ok (.aload_n 0, 1) := by decide +kernel
theorem dX3_cutWeeks_1 : decode cX3_cutWeeks 1 = .ok (.aload_n 0, 1) := by decide +kernel
theorem dX3_cutWeeks_2 : decode cX3_cutWeeks 2 = .ok (.iload_n 1, 1) := by decide +kernel
theorem dX3_cutWeeks_3 : decode cX3_cutWeeks 3 = .ok (.invokevirtual 94, 3) := by decide +kernel
theorem dX3_cutWeeks_6 : decode cX3_cutWeeks 6 = .ok (.invokevirtual 86, 3) := by decide +kernel
theorem dX3_cutWeeks_9 : decode cX3_cutWeeks 9 = .ok (.ifCond .eq 12, 3) := by decide +kernel
theorem dX3_cutWeeks_12 : decode cX3_cutWeeks 12 = .ok (.aload_n 0, 1) := by decide +kernel
theorem dX3_cutWeeks_13 : decode cX3_cutWeeks 13 = .ok (.getfield 29, 3) := by decide +kernel
theorem dX3_cutWeeks_16 : decode cX3_cutWeeks 16 = .ok (.iload_n 1, 1) := by decide +kernel
theorem dX3_cutWeeks_17 : decode cX3_cutWeeks 17 = .ok (.iaload, 1) := by decide +kernel
theorem dX3_cutWeeks_18 : decode cX3_cutWeeks 18 = .ok (.goto 4, 3) := by decide +kernel
theorem dX3_cutWeeks_21 : decode cX3_cutWeeks 21 = .ok (.iconst 0, 1) := by decide +kernel
theorem dX3_cutWeeks_22 : decode cX3_cutWeeks 22 = .ok (.ireturn, 1) := by decide +kernel
theorem dX3_door_0 : decode cX3_door 0 = .ok (.aload_n 0, 1) := by decide +kernel
theorem dX3_door_1 : decode cX3_door 1 = .ok (.aload_n 0, 1) := by decide +kernel
theorem dX3_door_2 : decode cX3_door 2 = .ok (.iload_n 1, 1) := by decide +kernel
theorem dX3_door_3 : decode cX3_door 3 = .ok (.invokevirtual 94, 3) := by decide +kernel
theorem dX3_door_6 : decode cX3_door 6 = .ok (.invokevirtual 86, 3) := by decide +kernel
theorem dX3_door_9 : decode cX3_door 9 = .ok (.ifCond .ne 4, 3) := by decide +kernel
theorem dX3_door_12 : decode cX3_door 12 = .ok (.return_, 1) := by decide +kernel
theorem dX3_door_13 : decode cX3_door 13 = .ok (.aload_n 0, 1) := by decide +kernel
theorem dX3_door_14 : decode cX3_door 14 = .ok (.iload_n 2, 1) := by decide +kernel
theorem dX3_door_15 : decode cX3_door 15 = .ok (.invokevirtual 121, 3) := by decide +kernel
theorem dX3_door_18 : decode cX3_door 18 = .ok (.ifCond .eq 13, 3) := by decide +kernel
theorem dX3_door_21 : decode cX3_door 21 = .ok (.iload_n 3, 1) := by decide +kernel
theorem dX3_door_22 : decode cX3_door 22 = .ok (.iconst 0, 1) := by decide +kernel
theorem dX3_door_23 : decode cX3_door 23 = .ok (.bipush 80, 2) := by decide +kernel
theorem dX3_door_25 : decode cX3_door 25 = .ok (.invokestatic 82, 3) := by decide +kernel
theorem dX3_door_28 : decode cX3_door 28 = .ok (.ifCond .ne 12, 3) := by decide +kernel
theorem dX3_door_31 : decode cX3_door 31 = .ok (.aload_n 0, 1) := by decide +kernel
theorem dX3_door_32 : decode cX3_door 32 = .ok (.iconst 2, 1) := by decide +kernel
theorem dX3_door_33 : decode cX3_door 33 = .ok (.invokevirtual 90, 3) := by decide +kernel
theorem dX3_door_36 : decode cX3_door 36 = .ok (.pop, 1) := by decide +kernel
theorem dX3_door_37 : decode cX3_door 37 = .ok (.goto 34, 3) := by decide +kernel
theorem dX3_door_40 : decode cX3_door 40 = .ok (.aload_n 0, 1) := by decide +kernel
theorem dX3_door_41 : decode cX3_door 41 = .ok (.getfield 69, 3) := by decide +kernel
theorem dX3_door_44 : decode cX3_door 44 = .ok (.iload_n 2, 1) := by decide +kernel
theorem dX3_door_45 : decode cX3_door 45 = .ok (.baload, 1) := by decide +kernel
theorem dX3_door_46 : decode cX3_door 46 = .ok (.ifCond .eq 12, 3) := by decide +kernel
theorem dX3_door_49 : decode cX3_door 49 = .ok (.aload_n 0, 1) := by decide +kernel
theorem dX3_door_50 : decode cX3_door 50 = .ok (.iconst 3, 1) := by decide +kernel
theorem dX3_door_51 : decode cX3_door 51 = .ok (.invokevirtual 90, 3) := by decide +kernel
theorem dX3_door_54 : decode cX3_door 54 = .ok (.pop, 1) := by decide +kernel
theorem dX3_door_55 : decode cX3_door 55 = .ok (.goto 16, 3) := by decide +kernel
theorem dX3_door_58 : decode cX3_door 58 = .ok (.aload_n 0, 1) := by decide +kernel
theorem dX3_door_59 : decode cX3_door 59 = .ok (.getfield 63, 3) := by decide +kernel
theorem dX3_door_62 : decode cX3_door 62 = .ok (.sipush 201, 3) := by decide +kernel
theorem dX3_door_65 : decode cX3_door 65 = .ok (.iload_n 1, 1) := by decide +kernel
theorem dX3_door_66 : decode cX3_door 66 = .ok (.imul, 1) := by decide +kernel
theorem dX3_door_67 : decode cX3_door 67 = .ok (.iload_n 2, 1) := by decide +kernel
theorem dX3_door_68 : decode cX3_door 68 = .ok (.iadd, 1) := by decide +kernel
theorem dX3_door_69 : decode cX3_door 69 = .ok (.iload_n 3, 1) := by decide +kernel
theorem dX3_door_70 : decode cX3_door 70 = .ok (.iastore, 1) := by decide +kernel
theorem dX3_door_71 : decode cX3_door 71 = .ok (.return_, 1) := by decide +kernel
theorem dX3_mail_0 : decode cX3_mail 0 = .ok (.aload_n 0, 1) := by decide +kernel
theorem dX3_mail_1 : decode cX3_mail 1 = .ok (.aload_n 0, 1) := by decide +kernel
theorem dX3_mail_2 : decode cX3_mail 2 = .ok (.iload_n 1, 1) := by decide +kernel
theorem dX3_mail_3 : decode cX3_mail 3 = .ok (.invokevirtual 94, 3) := by decide +kernel
theorem dX3_mail_6 : decode cX3_mail 6 = .ok (.invokevirtual 86, 3) := by decide +kernel
theorem dX3_mail_9 : decode cX3_mail 9 = .ok (.ifCond .ne 4, 3) := by decide +kernel
theorem dX3_mail_12 : decode cX3_mail 12 = .ok (.return_, 1) := by decide +kernel
theorem dX3_mail_13 : decode cX3_mail 13 = .ok (.aload_n 0, 1) := by decide +kernel
theorem dX3_mail_14 : decode cX3_mail 14 = .ok (.iload_n 2, 1) := by decide +kernel
theorem dX3_mail_15 : decode cX3_mail 15 = .ok (.invokevirtual 121, 3) := by decide +kernel
theorem dX3_mail_18 : decode cX3_mail 18 = .ok (.ifCond .ne 12, 3) := by decide +kernel
theorem dX3_mail_21 : decode cX3_mail 21 = .ok (.aload_n 0, 1) := by decide +kernel
theorem dX3_mail_22 : decode cX3_mail 22 = .ok (.iconst 2, 1) := by decide +kernel
theorem dX3_mail_23 : decode cX3_mail 23 = .ok (.invokevirtual 90, 3) := by decide +kernel
theorem dX3_mail_26 : decode cX3_mail 26 = .ok (.pop, 1) := by decide +kernel
theorem dX3_mail_27 : decode cX3_mail 27 = .ok (.goto 34, 3) := by decide +kernel
theorem dX3_mail_30 : decode cX3_mail 30 = .ok (.aload_n 0, 1) := by decide +kernel
theorem dX3_mail_31 : decode cX3_mail 31 = .ok (.getfield 69, 3) := by decide +kernel
theorem dX3_mail_34 : decode cX3_mail 34 = .ok (.iload_n 2, 1) := by decide +kernel
theorem dX3_mail_35 : decode cX3_mail 35 = .ok (.baload, 1) := by decide +kernel
theorem dX3_mail_36 : decode cX3_mail 36 = .ok (.ifCond .eq 12, 3) := by decide +kernel
theorem dX3_mail_39 : decode cX3_mail 39 = .ok (.aload_n 0, 1) := by decide +kernel
theorem dX3_mail_40 : decode cX3_mail 40 = .ok (.iconst 3, 1) := by decide +kernel
theorem dX3_mail_41 : decode cX3_mail 41 = .ok (.invokevirtual 90, 3) := by decide +kernel
theorem dX3_mail_44 : decode cX3_mail 44 = .ok (.pop, 1) := by decide +kernel
theorem dX3_mail_45 : decode cX3_mail 45 = .ok (.goto 16, 3) := by decide +kernel
theorem dX3_mail_48 : decode cX3_mail 48 = .ok (.aload_n 0, 1) := by decide +kernel
theorem dX3_mail_49 : decode cX3_mail 49 = .ok (.getfield 66, 3) := by decide +kernel
theorem dX3_mail_52 : decode cX3_mail 52 = .ok (.sipush 201, 3) := by decide +kernel
theorem dX3_mail_55 : decode cX3_mail 55 = .ok (.iload_n 1, 1) := by decide +kernel
theorem dX3_mail_56 : decode cX3_mail 56 = .ok (.imul, 1) := by decide +kernel
theorem dX3_mail_57 : decode cX3_mail 57 = .ok (.iload_n 2, 1) := by decide +kernel
theorem dX3_mail_58 : decode cX3_mail 58 = .ok (.iadd, 1) := by decide +kernel
theorem dX3_mail_59 : decode cX3_mail 59 = .ok (.iconst 1, 1) := by decide +kernel
theorem dX3_mail_60 : decode cX3_mail 60 = .ok (.bastore, 1) := by decide +kernel
theorem dX3_mail_61 : decode cX3_mail 61 = .ok (.return_, 1) := by decide +kernel
theorem dX3_check_0 : decode cX3_check 0 = .ok (.aload_n 0, 1) := by decide +kernel
theorem dX3_check_1 : decode cX3_check 1 = .ok (.aload_n 0, 1) := by decide +kernel
theorem dX3_check_2 : decode cX3_check 2 = .ok (.iload_n 1, 1) := by decide +kernel
theorem dX3_check_3 : decode cX3_check 3 = .ok (.invokevirtual 121, 3) := by decide +kernel
theorem dX3_check_6 : decode cX3_check 6 = .ok (.invokevirtual 86, 3) := by decide +kernel
theorem dX3_check_9 : decode cX3_check 9 = .ok (.ifCond .ne 5, 3) := by decide +kernel
theorem dX3_check_12 : decode cX3_check 12 = .ok (.iconst 0, 1) := by decide +kernel
theorem dX3_check_13 : decode cX3_check 13 = .ok (.ireturn, 1) := by decide +kernel
theorem dX3_check_14 : decode cX3_check 14 = .ok (.aload_n 0, 1) := by decide +kernel
theorem dX3_check_15 : decode cX3_check 15 = .ok (.getfield 69, 3) := by decide +kernel
theorem dX3_check_18 : decode cX3_check 18 = .ok (.iload_n 1, 1) := by decide +kernel
theorem dX3_check_19 : decode cX3_check 19 = .ok (.baload, 1) := by decide +kernel
theorem dX3_check_20 : decode cX3_check 20 = .ok (.ifCond .eq 9, 3) := by decide +kernel
theorem dX3_check_23 : decode cX3_check 23 = .ok (.aload_n 0, 1) := by decide +kernel
theorem dX3_check_24 : decode cX3_check 24 = .ok (.iconst 2, 1) := by decide +kernel
theorem dX3_check_25 : decode cX3_check 25 = .ok (.invokevirtual 90, 3) := by decide +kernel
theorem dX3_check_28 : decode cX3_check 28 = .ok (.ireturn, 1) := by decide +kernel
theorem dX3_check_29 : decode cX3_check 29 = .ok (.aload_n 0, 1) := by decide +kernel
theorem dX3_check_30 : decode cX3_check 30 = .ok (.getfield 69, 3) := by decide +kernel
theorem dX3_check_33 : decode cX3_check 33 = .ok (.iload_n 1, 1) := by decide +kernel
theorem dX3_check_34 : decode cX3_check 34 = .ok (.iconst 1, 1) := by decide +kernel
theorem dX3_check_35 : decode cX3_check 35 = .ok (.bastore, 1) := by decide +kernel
theorem dX3_check_36 : decode cX3_check 36 = .ok (.iconst 0, 1) := by decide +kernel
theorem dX3_check_37 : decode cX3_check 37 = .ok (.istore_n 2, 1) := by decide +kernel
theorem dX3_check_38 : decode cX3_check 38 = .ok (.iconst 0, 1) := by decide +kernel
theorem dX3_check_39 : decode cX3_check 39 = .ok (.istore_n 3, 1) := by decide +kernel
theorem dX3_check_40 : decode cX3_check 40 = .ok (.iload_n 3, 1) := by decide +kernel
theorem dX3_check_41 : decode cX3_check 41 = .ok (.aload_n 0, 1) := by decide +kernel
theorem dX3_check_42 : decode cX3_check 42 = .ok (.getfield 75, 3) := by decide +kernel
theorem dX3_check_45 : decode cX3_check 45 = .ok (.if_icmp .ge 136, 3) := by decide +kernel
theorem dX3_check_48 : decode cX3_check 48 = .ok (.sipush 201, 3) := by decide +kernel
theorem dX3_check_51 : decode cX3_check 51 = .ok (.iload_n 3, 1) := by decide +kernel
theorem dX3_check_52 : decode cX3_check 52 = .ok (.imul, 1) := by decide +kernel
theorem dX3_check_53 : decode cX3_check 53 = .ok (.iload_n 1, 1) := by decide +kernel
theorem dX3_check_54 : decode cX3_check 54 = .ok (.iadd, 1) := by decide +kernel
theorem dX3_check_55 : decode cX3_check 55 = .ok (.istore 4, 2) := by decide +kernel
theorem dX3_check_57 : decode cX3_check 57 = .ok (.aload_n 0, 1) := by decide +kernel
theorem dX3_check_58 : decode cX3_check 58 = .ok (.getfield 57, 3) := by decide +kernel
theorem dX3_check_61 : decode cX3_check 61 = .ok (.iload 4, 2) := by decide +kernel
theorem dX3_check_63 : decode cX3_check 63 = .ok (.iaload, 1) := by decide +kernel
theorem dX3_check_64 : decode cX3_check 64 = .ok (.istore 5, 2) := by decide +kernel
theorem dX3_check_66 : decode cX3_check 66 = .ok (.aload_n 0, 1) := by decide +kernel
theorem dX3_check_67 : decode cX3_check 67 = .ok (.getfield 63, 3) := by decide +kernel
theorem dX3_check_70 : decode cX3_check 70 = .ok (.iload 4, 2) := by decide +kernel
theorem dX3_check_72 : decode cX3_check 72 = .ok (.iaload, 1) := by decide +kernel
theorem dX3_check_73 : decode cX3_check 73 = .ok (.iconst (-1), 1) := by decide +kernel
theorem dX3_check_74 : decode cX3_check 74 = .ok (.if_icmp .eq 101, 3) := by decide +kernel
theorem dX3_check_77 : decode cX3_check 77 = .ok (.aload_n 0, 1) := by decide +kernel
theorem dX3_check_78 : decode cX3_check 78 = .ok (.getfield 63, 3) := by decide +kernel
theorem dX3_check_81 : decode cX3_check 81 = .ok (.iload 4, 2) := by decide +kernel
theorem dX3_check_83 : decode cX3_check 83 = .ok (.iaload, 1) := by decide +kernel
theorem dX3_check_84 : decode cX3_check 84 = .ok (.bipush 40, 2) := by decide +kernel
theorem dX3_check_86 : decode cX3_check 86 = .ok (.aload_n 0, 1) := by decide +kernel
theorem dX3_check_87 : decode cX3_check 87 = .ok (.getfield 60, 3) := by decide +kernel
theorem dX3_check_90 : decode cX3_check 90 = .ok (.iload 4, 2) := by decide +kernel
theorem dX3_check_92 : decode cX3_check 92 = .ok (.iaload, 1) := by decide +kernel
theorem dX3_check_93 : decode cX3_check 93 = .ok (.isub, 1) := by decide +kernel
theorem dX3_check_94 : decode cX3_check 94 = .ok (.iconst 2, 1) := by decide +kernel
theorem dX3_check_95 : decode cX3_check 95 = .ok (.iadd, 1) := by decide +kernel
theorem dX3_check_96 : decode cX3_check 96 = .ok (.if_icmp .le 79, 3) := by decide +kernel
theorem dX3_check_99 : decode cX3_check 99 = .ok (.iload 5, 2) := by decide +kernel
theorem dX3_check_101 : decode cX3_check 101 = .ok (.ifCond .le 74, 3) := by decide +kernel
theorem dX3_check_104 : decode cX3_check 104 = .ok (.aload_n 0, 1) := by decide +kernel
theorem dX3_check_105 : decode cX3_check 105 = .ok (.getfield 66, 3) := by decide +kernel
theorem dX3_check_108 : decode cX3_check 108 = .ok (.iload 4, 2) := by decide +kernel
theorem dX3_check_110 : decode cX3_check 110 = .ok (.baload, 1) := by decide +kernel
theorem dX3_check_111 : decode cX3_check 111 = .ok (.ifCond .eq 7, 3) := by decide +kernel
theorem dX3_check_114 : decode cX3_check 114 = .ok (.iconst 0, 1) := by decide +kernel
theorem dX3_check_115 : decode cX3_check 115 = .ok (.goto 7, 3) := by decide +kernel
theorem dX3_check_118 : decode cX3_check 118 = .ok (.iload 5, 2) := by decide +kernel
theorem dX3_check_120 : decode cX3_check 120 = .ok (.iconst 2, 1) := by decide +kernel
theorem dX3_check_121 : decode cX3_check 121 = .ok (.idiv, 1) := by decide +kernel
theorem dX3_check_122 : decode cX3_check 122 = .ok (.istore 6, 2) := by decide +kernel
theorem dX3_check_124 : decode cX3_check 124 = .ok (.aload_n 0, 1) := by decide +kernel
theorem dX3_check_125 : decode cX3_check 125 = .ok (.getfield 32, 3) := by decide +kernel
theorem dX3_check_128 : decode cX3_check 128 = .ok (.iload_n 3, 1) := by decide +kernel
theorem dX3_check_129 : decode cX3_check 129 = .ok (.dup2, 1) := by decide +kernel
theorem dX3_check_130 : decode cX3_check 130 = .ok (.iaload, 1) := by decide +kernel
theorem dX3_check_131 : decode cX3_check 131 = .ok (.iload 6, 2) := by decide +kernel
theorem dX3_check_133 : decode cX3_check 133 = .ok (.iadd, 1) := by decide +kernel
theorem dX3_check_134 : decode cX3_check 134 = .ok (.iastore, 1) := by decide +kernel
theorem dX3_check_135 : decode cX3_check 135 = .ok (.aload_n 0, 1) := by decide +kernel
theorem dX3_check_136 : decode cX3_check 136 = .ok (.dup, 1) := by decide +kernel
theorem dX3_check_137 : decode cX3_check 137 = .ok (.getfield 124, 3) := by decide +kernel
theorem dX3_check_140 : decode cX3_check 140 = .ok (.iload 5, 2) := by decide +kernel
theorem dX3_check_142 : decode cX3_check 142 = .ok (.iload 6, 2) := by decide +kernel
theorem dX3_check_144 : decode cX3_check 144 = .ok (.isub, 1) := by decide +kernel
theorem dX3_check_145 : decode cX3_check 145 = .ok (.aload_n 0, 1) := by decide +kernel
theorem dX3_check_146 : decode cX3_check 146 = .ok (.getfield 66, 3) := by decide +kernel
theorem dX3_check_149 : decode cX3_check 149 = .ok (.iload 4, 2) := by decide +kernel
theorem dX3_check_151 : decode cX3_check 151 = .ok (.baload, 1) := by decide +kernel
theorem dX3_check_152 : decode cX3_check 152 = .ok (.ifCond .eq 14, 3) := by decide +kernel
theorem dX3_check_155 : decode cX3_check 155 = .ok (.iload 5, 2) := by decide +kernel
theorem dX3_check_157 : decode cX3_check 157 = .ok (.bipush 10, 2) := by decide +kernel
theorem dX3_check_159 : decode cX3_check 159 = .ok (.imul, 1) := by decide +kernel
theorem dX3_check_160 : decode cX3_check 160 = .ok (.bipush 100, 2) := by decide +kernel
theorem dX3_check_162 : decode cX3_check 162 = .ok (.idiv, 1) := by decide +kernel
theorem dX3_check_163 : decode cX3_check 163 = .ok (.goto 4, 3) := by decide +kernel
theorem dX3_check_166 : decode cX3_check 166 = .ok (.iconst 0, 1) := by decide +kernel
theorem dX3_check_167 : decode cX3_check 167 = .ok (.iadd, 1) := by decide +kernel
theorem dX3_check_168 : decode cX3_check 168 = .ok (.iadd, 1) := by decide +kernel
theorem dX3_check_169 : decode cX3_check 169 = .ok (.putfield 124, 3) := by decide +kernel
theorem dX3_check_172 : decode cX3_check 172 = .ok (.iinc 2 1, 3) := by decide +kernel
theorem dX3_check_175 : decode cX3_check 175 = .ok (.iinc 3 1, 3) := by decide +kernel
theorem dX3_check_178 : decode cX3_check 178 = .ok (.goto (-138), 3) := by decide +kernel
theorem dX3_check_181 : decode cX3_check 181 = .ok (.iload_n 2, 1) := by decide +kernel
theorem dX3_check_182 : decode cX3_check 182 = .ok (.ireturn, 1) := by decide +kernel
theorem dX3_firmOwes_0 : decode cX3_firmOwes 0 = .ok (.aload_n 0, 1) := by decide +kernel
theorem dX3_firmOwes_1 : decode cX3_firmOwes 1 = .ok (.iconst 0, 1) := by decide +kernel
theorem dX3_firmOwes_2 : decode cX3_firmOwes 2 = .ok (.putfield 72, 3) := by decide +kernel
theorem dX3_firmOwes_5 : decode cX3_firmOwes 5 = .ok (.aload_n 0, 1) := by decide +kernel
theorem dX3_firmOwes_6 : decode cX3_firmOwes 6 = .ok (.getfield 124, 3) := by decide +kernel
theorem dX3_firmOwes_9 : decode cX3_firmOwes 9 = .ok (.ireturn, 1) := by decide +kernel
theorem dX3_owes_0 : decode cX3_owes 0 = .ok (.aload_n 0, 1) := by decide +kernel
theorem dX3_owes_1 : decode cX3_owes 1 = .ok (.aload_n 0, 1) := by decide +kernel
theorem dX3_owes_2 : decode cX3_owes 2 = .ok (.iload_n 1, 1) := by decide +kernel
theorem dX3_owes_3 : decode cX3_owes 3 = .ok (.invokevirtual 94, 3) := by decide +kernel
theorem dX3_owes_6 : decode cX3_owes 6 = .ok (.invokevirtual 86, 3) := by decide +kernel
theorem dX3_owes_9 : decode cX3_owes 9 = .ok (.ifCond .eq 12, 3) := by decide +kernel
theorem dX3_owes_12 : decode cX3_owes 12 = .ok (.aload_n 0, 1) := by decide +kernel
theorem dX3_owes_13 : decode cX3_owes 13 = .ok (.getfield 32, 3) := by decide +kernel
theorem dX3_owes_16 : decode cX3_owes 16 = .ok (.iload_n 1, 1) := by decide +kernel
theorem dX3_owes_17 : decode cX3_owes 17 = .ok (.iaload, 1) := by decide +kernel
theorem dX3_owes_18 : decode cX3_owes 18 = .ok (.goto 4, 3) := by decide +kernel
theorem dX3_owes_21 : decode cX3_owes 21 = .ok (.iconst 0, 1) := by decide +kernel
theorem dX3_owes_22 : decode cX3_owes 22 = .ok (.ireturn, 1) := by decide +kernel
theorem dX3_net_0 : decode cX3_net 0 = .ok (.aload_n 0, 1) := by decide +kernel
theorem dX3_net_1 : decode cX3_net 1 = .ok (.aload_n 0, 1) := by decide +kernel
theorem dX3_net_2 : decode cX3_net 2 = .ok (.iload_n 1, 1) := by decide +kernel
theorem dX3_net_3 : decode cX3_net 3 = .ok (.invokevirtual 94, 3) := by decide +kernel
theorem dX3_net_6 : decode cX3_net 6 = .ok (.invokevirtual 86, 3) := by decide +kernel
theorem dX3_net_9 : decode cX3_net 9 = .ok (.ifCond .ne 5, 3) := by decide +kernel
theorem dX3_net_12 : decode cX3_net 12 = .ok (.iconst 0, 1) := by decide +kernel
theorem dX3_net_13 : decode cX3_net 13 = .ok (.ireturn, 1) := by decide +kernel
theorem dX3_net_14 : decode cX3_net 14 = .ok (.aload_n 0, 1) := by decide +kernel
theorem dX3_net_15 : decode cX3_net 15 = .ok (.getfield 32, 3) := by decide +kernel
theorem dX3_net_18 : decode cX3_net 18 = .ok (.iload_n 1, 1) := by decide +kernel
theorem dX3_net_19 : decode cX3_net 19 = .ok (.iaload, 1) := by decide +kernel
theorem dX3_net_20 : decode cX3_net 20 = .ok (.ineg, 1) := by decide +kernel
theorem dX3_net_21 : decode cX3_net 21 = .ok (.istore_n 2, 1) := by decide +kernel
theorem dX3_net_22 : decode cX3_net 22 = .ok (.sipush 201, 3) := by decide +kernel
theorem dX3_net_25 : decode cX3_net 25 = .ok (.iload_n 1, 1) := by decide +kernel
theorem dX3_net_26 : decode cX3_net 26 = .ok (.imul, 1) := by decide +kernel
theorem dX3_net_27 : decode cX3_net 27 = .ok (.istore_n 3, 1) := by decide +kernel
theorem dX3_net_28 : decode cX3_net 28 = .ok (.iload_n 3, 1) := by decide +kernel
theorem dX3_net_29 : decode cX3_net 29 = .ok (.sipush 201, 3) := by decide +kernel
theorem dX3_net_32 : decode cX3_net 32 = .ok (.iload_n 1, 1) := by decide +kernel
theorem dX3_net_33 : decode cX3_net 33 = .ok (.imul, 1) := by decide +kernel
theorem dX3_net_34 : decode cX3_net 34 = .ok (.sipush 201, 3) := by decide +kernel
theorem dX3_net_37 : decode cX3_net 37 = .ok (.iadd, 1) := by decide +kernel
theorem dX3_net_38 : decode cX3_net 38 = .ok (.if_icmp .ge 25, 3) := by decide +kernel
theorem dX3_net_41 : decode cX3_net 41 = .ok (.iload_n 2, 1) := by decide +kernel
theorem dX3_net_42 : decode cX3_net 42 = .ok (.aload_n 0, 1) := by decide +kernel
theorem dX3_net_43 : decode cX3_net 43 = .ok (.getfield 54, 3) := by decide +kernel
theorem dX3_net_46 : decode cX3_net 46 = .ok (.iload_n 3, 1) := by decide +kernel
theorem dX3_net_47 : decode cX3_net 47 = .ok (.iaload, 1) := by decide +kernel
theorem dX3_net_48 : decode cX3_net 48 = .ok (.aload_n 0, 1) := by decide +kernel
theorem dX3_net_49 : decode cX3_net 49 = .ok (.getfield 57, 3) := by decide +kernel
theorem dX3_net_52 : decode cX3_net 52 = .ok (.iload_n 3, 1) := by decide +kernel
theorem dX3_net_53 : decode cX3_net 53 = .ok (.iaload, 1) := by decide +kernel
theorem dX3_net_54 : decode cX3_net 54 = .ok (.iadd, 1) := by decide +kernel
theorem dX3_net_55 : decode cX3_net 55 = .ok (.iadd, 1) := by decide +kernel
theorem dX3_net_56 : decode cX3_net 56 = .ok (.istore_n 2, 1) := by decide +kernel
theorem dX3_net_57 : decode cX3_net 57 = .ok (.iinc 3 1, 3) := by decide +kernel
theorem dX3_net_60 : decode cX3_net 60 = .ok (.goto (-32), 3) := by decide +kernel
theorem dX3_net_63 : decode cX3_net 63 = .ok (.iload_n 2, 1) := by decide +kernel
theorem dX3_net_64 : decode cX3_net 64 = .ok (.ireturn, 1) := by decide +kernel
theorem dJ9_max_7cf53_0 : decode cJ9_max_7cf53 0 = .ok (.iload_n 0, 1) := by decide +kernel
theorem dJ9_max_7cf53_1 : decode cJ9_max_7cf53 1 = .ok (.iload_n 1, 1) := by decide +kernel
theorem dJ9_max_7cf53_2 : decode cJ9_max_7cf53 2 = .ok (.if_icmp .lt 7, 3) := by decide +kernel
theorem dJ9_max_7cf53_5 : decode cJ9_max_7cf53 5 = .ok (.iload_n 0, 1) := by decide +kernel
theorem dJ9_max_7cf53_6 : decode cJ9_max_7cf53 6 = .ok (.goto 4, 3) := by decide +kernel
theorem dJ9_max_7cf53_9 : decode cJ9_max_7cf53 9 = .ok (.iload_n 1, 1) := by decide +kernel
theorem dJ9_max_7cf53_10 : decode cJ9_max_7cf53 10 = .ok (.ireturn, 1) := by decide +kernel
end
section
theorem dL_add_0 : decode cL_add 0 = .ok (.aload_n 3, 1) := by decide +kernel
theorem dL_add_1 : decode cL_add 1 = .ok (.iconst 0, 1) := by decide +kernel
theorem dL_add_2 : decode cL_add 2 = .ok (.aload_n 0, 1) := by decide +kernel
theorem dL_add_3 : decode cL_add 3 = .ok (.iload_n 1, 1) := by decide +kernel
theorem dL_add_4 : decode cL_add 4 = .ok (.iload_n 2, 1) := by decide +kernel
theorem dL_add_5 : decode cL_add 5 = .ok (.invokevirtual 7, 3) := by decide +kernel
theorem dL_add_8 : decode cL_add 8 = .ok (.i2l, 1) := by decide +kernel
theorem dL_add_9 : decode cL_add 9 = .ok (.lastore, 1) := by decide +kernel
theorem dL_add_10 : decode cL_add 10 = .ok (.goto 11, 3) := by decide +kernel
theorem dL_add_13 : decode cL_add 13 = .ok (.astore 4, 2) := by decide +kernel
theorem dL_add_15 : decode cL_add 15 = .ok (.iconst 1, 1) := by decide +kernel
theorem dL_add_16 : decode cL_add 16 = .ok (.ireturn, 1) := by decide +kernel
theorem dL_add_17 : decode cL_add 17 = .ok (.astore 4, 2) := by decide +kernel
theorem dL_add_19 : decode cL_add 19 = .ok (.iconst 2, 1) := by decide +kernel
theorem dL_add_20 : decode cL_add 20 = .ok (.ireturn, 1) := by decide +kernel
theorem dL_add_21 : decode cL_add 21 = .ok (.iconst 0, 1) := by decide +kernel
theorem dL_add_22 : decode cL_add 22 = .ok (.ireturn, 1) := by decide +kernel
theorem dL_notice_0 : decode cL_notice 0 = .ok (.aload 5, 2) := by decide +kernel
theorem dL_notice_2 : decode cL_notice 2 = .ok (.iconst 0, 1) := by decide +kernel
theorem dL_notice_3 : decode cL_notice 3 = .ok (.aload_n 0, 1) := by decide +kernel
theorem dL_notice_4 : decode cL_notice 4 = .ok (.iload_n 1, 1) := by decide +kernel
theorem dL_notice_5 : decode cL_notice 5 = .ok (.iload_n 2, 1) := by decide +kernel
theorem dL_notice_6 : decode cL_notice 6 = .ok (.iload_n 3, 1) := by decide +kernel
theorem dL_notice_7 : decode cL_notice 7 = .ok (.iload 4, 2) := by decide +kernel
theorem dL_notice_9 : decode cL_notice 9 = .ok (.invokevirtual 17, 3) := by decide +kernel
theorem dL_notice_12 : decode cL_notice 12 = .ok (.i2l, 1) := by decide +kernel
theorem dL_notice_13 : decode cL_notice 13 = .ok (.lastore, 1) := by decide +kernel
theorem dL_notice_14 : decode cL_notice 14 = .ok (.goto 15, 3) := by decide +kernel
theorem dL_notice_17 : decode cL_notice 17 = .ok (.astore 6, 2) := by decide +kernel
theorem dL_notice_19 : decode cL_notice 19 = .ok (.iconst 1, 1) := by decide +kernel
theorem dL_notice_20 : decode cL_notice 20 = .ok (.ireturn, 1) := by decide +kernel
theorem dL_notice_21 : decode cL_notice 21 = .ok (.astore 6, 2) := by decide +kernel
theorem dL_notice_23 : decode cL_notice 23 = .ok (.iconst 2, 1) := by decide +kernel
theorem dL_notice_24 : decode cL_notice 24 = .ok (.ireturn, 1) := by decide +kernel
theorem dL_notice_25 : decode cL_notice 25 = .ok (.astore 6, 2) := by decide +kernel
theorem dL_notice_27 : decode cL_notice 27 = .ok (.iconst 3, 1) := by decide +kernel
theorem dL_notice_28 : decode cL_notice 28 = .ok (.ireturn, 1) := by decide +kernel
theorem dL_notice_29 : decode cL_notice 29 = .ok (.iconst 0, 1) := by decide +kernel
theorem dL_notice_30 : decode cL_notice 30 = .ok (.ireturn, 1) := by decide +kernel
theorem dL_addCourse_0 : decode cL_addCourse 0 = .ok (.aload 5, 2) := by decide +kernel
theorem dL_addCourse_2 : decode cL_addCourse 2 = .ok (.iconst 0, 1) := by decide +kernel
theorem dL_addCourse_3 : decode cL_addCourse 3 = .ok (.aload_n 0, 1) := by decide +kernel
theorem dL_addCourse_4 : decode cL_addCourse 4 = .ok (.iload_n 1, 1) := by decide +kernel
theorem dL_addCourse_5 : decode cL_addCourse 5 = .ok (.iload_n 2, 1) := by decide +kernel
theorem dL_addCourse_6 : decode cL_addCourse 6 = .ok (.iload_n 3, 1) := by decide +kernel
theorem dL_addCourse_7 : decode cL_addCourse 7 = .ok (.iload 4, 2) := by decide +kernel
theorem dL_addCourse_9 : decode cL_addCourse 9 = .ok (.invokevirtual 23, 3) := by decide +kernel
theorem dL_addCourse_12 : decode cL_addCourse 12 = .ok (.i2l, 1) := by decide +kernel
theorem dL_addCourse_13 : decode cL_addCourse 13 = .ok (.lastore, 1) := by decide +kernel
theorem dL_addCourse_14 : decode cL_addCourse 14 = .ok (.goto 11, 3) := by decide +kernel
theorem dL_addCourse_17 : decode cL_addCourse 17 = .ok (.astore 6, 2) := by decide +kernel
theorem dL_addCourse_19 : decode cL_addCourse 19 = .ok (.iconst 1, 1) := by decide +kernel
theorem dL_addCourse_20 : decode cL_addCourse 20 = .ok (.ireturn, 1) := by decide +kernel
theorem dL_addCourse_21 : decode cL_addCourse 21 = .ok (.astore 6, 2) := by decide +kernel
theorem dL_addCourse_23 : decode cL_addCourse 23 = .ok (.iconst 2, 1) := by decide +kernel
theorem dL_addCourse_24 : decode cL_addCourse 24 = .ok (.ireturn, 1) := by decide +kernel
theorem dL_addCourse_25 : decode cL_addCourse 25 = .ok (.iconst 0, 1) := by decide +kernel
theorem dL_addCourse_26 : decode cL_addCourse 26 = .ok (.ireturn, 1) := by decide +kernel
theorem dL_enrol_0 : decode cL_enrol 0 = .ok (.aload_n 3, 1) := by decide +kernel
theorem dL_enrol_1 : decode cL_enrol 1 = .ok (.iconst 0, 1) := by decide +kernel
theorem dL_enrol_2 : decode cL_enrol 2 = .ok (.aload_n 0, 1) := by decide +kernel
theorem dL_enrol_3 : decode cL_enrol 3 = .ok (.iload_n 1, 1) := by decide +kernel
theorem dL_enrol_4 : decode cL_enrol 4 = .ok (.iload_n 2, 1) := by decide +kernel
theorem dL_enrol_5 : decode cL_enrol 5 = .ok (.invokevirtual 26, 3) := by decide +kernel
theorem dL_enrol_8 : decode cL_enrol 8 = .ok (.i2l, 1) := by decide +kernel
theorem dL_enrol_9 : decode cL_enrol 9 = .ok (.lastore, 1) := by decide +kernel
theorem dL_enrol_10 : decode cL_enrol 10 = .ok (.goto 11, 3) := by decide +kernel
theorem dL_enrol_13 : decode cL_enrol 13 = .ok (.astore 4, 2) := by decide +kernel
theorem dL_enrol_15 : decode cL_enrol 15 = .ok (.iconst 1, 1) := by decide +kernel
theorem dL_enrol_16 : decode cL_enrol 16 = .ok (.ireturn, 1) := by decide +kernel
theorem dL_enrol_17 : decode cL_enrol 17 = .ok (.astore 4, 2) := by decide +kernel
theorem dL_enrol_19 : decode cL_enrol 19 = .ok (.iconst 2, 1) := by decide +kernel
theorem dL_enrol_20 : decode cL_enrol 20 = .ok (.ireturn, 1) := by decide +kernel
theorem dL_enrol_21 : decode cL_enrol 21 = .ok (.iconst 0, 1) := by decide +kernel
theorem dL_enrol_22 : decode cL_enrol 22 = .ok (.ireturn, 1) := by decide +kernel
theorem dL_setFloor_0 : decode cL_setFloor 0 = .ok (.aload_n 2, 1) := by decide +kernel
theorem dL_setFloor_1 : decode cL_setFloor 1 = .ok (.iconst 0, 1) := by decide +kernel
theorem dL_setFloor_2 : decode cL_setFloor 2 = .ok (.aload_n 0, 1) := by decide +kernel
theorem dL_setFloor_3 : decode cL_setFloor 3 = .ok (.iload_n 1, 1) := by decide +kernel
theorem dL_setFloor_4 : decode cL_setFloor 4 = .ok (.invokevirtual 30, 3) := by decide +kernel
theorem dL_setFloor_7 : decode cL_setFloor 7 = .ok (.i2l, 1) := by decide +kernel
theorem dL_setFloor_8 : decode cL_setFloor 8 = .ok (.lastore, 1) := by decide +kernel
theorem dL_setFloor_9 : decode cL_setFloor 9 = .ok (.goto 6, 3) := by decide +kernel
theorem dL_setFloor_12 : decode cL_setFloor 12 = .ok (.astore_n 3, 1) := by decide +kernel
theorem dL_setFloor_13 : decode cL_setFloor 13 = .ok (.iconst 1, 1) := by decide +kernel
theorem dL_setFloor_14 : decode cL_setFloor 14 = .ok (.ireturn, 1) := by decide +kernel
theorem dL_setFloor_15 : decode cL_setFloor 15 = .ok (.iconst 0, 1) := by decide +kernel
theorem dL_setFloor_16 : decode cL_setFloor 16 = .ok (.ireturn, 1) := by decide +kernel
theorem dL_cut_0 : decode cL_cut 0 = .ok (.aload_n 3, 1) := by decide +kernel
theorem dL_cut_1 : decode cL_cut 1 = .ok (.iconst 0, 1) := by decide +kernel
theorem dL_cut_2 : decode cL_cut 2 = .ok (.aload_n 0, 1) := by decide +kernel
theorem dL_cut_3 : decode cL_cut 3 = .ok (.iload_n 1, 1) := by decide +kernel
theorem dL_cut_4 : decode cL_cut 4 = .ok (.iload_n 2, 1) := by decide +kernel
theorem dL_cut_5 : decode cL_cut 5 = .ok (.invokevirtual 34, 3) := by decide +kernel
theorem dL_cut_8 : decode cL_cut 8 = .ok (.i2l, 1) := by decide +kernel
theorem dL_cut_9 : decode cL_cut 9 = .ok (.lastore, 1) := by decide +kernel
theorem dL_cut_10 : decode cL_cut 10 = .ok (.goto 11, 3) := by decide +kernel
theorem dL_cut_13 : decode cL_cut 13 = .ok (.astore 4, 2) := by decide +kernel
theorem dL_cut_15 : decode cL_cut 15 = .ok (.iconst 1, 1) := by decide +kernel
theorem dL_cut_16 : decode cL_cut 16 = .ok (.ireturn, 1) := by decide +kernel
theorem dL_cut_17 : decode cL_cut 17 = .ok (.astore 4, 2) := by decide +kernel
theorem dL_cut_19 : decode cL_cut 19 = .ok (.iconst 2, 1) := by decide +kernel
theorem dL_cut_20 : decode cL_cut 20 = .ok (.ireturn, 1) := by decide +kernel
theorem dL_cut_21 : decode cL_cut 21 = .ok (.iconst 0, 1) := by decide +kernel
theorem dL_cut_22 : decode cL_cut 22 = .ok (.ireturn, 1) := by decide +kernel
theorem dL_isFilled_0 : decode cL_isFilled 0 = .ok (.aload_n 3, 1) := by decide +kernel
theorem dL_isFilled_1 : decode cL_isFilled 1 = .ok (.iconst 0, 1) := by decide +kernel
theorem dL_isFilled_2 : decode cL_isFilled 2 = .ok (.aload_n 0, 1) := by decide +kernel
theorem dL_isFilled_3 : decode cL_isFilled 3 = .ok (.iload_n 1, 1) := by decide +kernel
theorem dL_isFilled_4 : decode cL_isFilled 4 = .ok (.iload_n 2, 1) := by decide +kernel
theorem dL_isFilled_5 : decode cL_isFilled 5 = .ok (.invokevirtual 37, 3) := by decide +kernel
theorem dL_isFilled_8 : decode cL_isFilled 8 = .ok (.ifCond .eq 7, 3) := by decide +kernel
theorem dL_isFilled_11 : decode cL_isFilled 11 = .ok (.lconst 1, 1) := by decide +kernel
theorem dL_isFilled_12 : decode cL_isFilled 12 = .ok (.goto 4, 3) := by decide +kernel
theorem dL_isFilled_15 : decode cL_isFilled 15 = .ok (.lconst 0, 1) := by decide +kernel
theorem dL_isFilled_16 : decode cL_isFilled 16 = .ok (.lastore, 1) := by decide +kernel
theorem dL_isFilled_17 : decode cL_isFilled 17 = .ok (.goto 11, 3) := by decide +kernel
theorem dL_isFilled_20 : decode cL_isFilled 20 = .ok (.astore 4, 2) := by decide +kernel
theorem dL_isFilled_22 : decode cL_isFilled 22 = .ok (.iconst 1, 1) := by decide +kernel
theorem dL_isFilled_23 : decode cL_isFilled 23 = .ok (.ireturn, 1) := by decide +kernel
theorem dL_isFilled_24 : decode cL_isFilled 24 = .ok (.astore 4, 2) := by decide +kernel
theorem dL_isFilled_26 : decode cL_isFilled 26 = .ok (.iconst 2, 1) := by decide +kernel
theorem dL_isFilled_27 : decode cL_isFilled 27 = .ok (.ireturn, 1) := by decide +kernel
theorem dL_isFilled_28 : decode cL_isFilled 28 = .ok (.iconst 0, 1) := by decide +kernel
theorem dL_isFilled_29 : decode cL_isFilled 29 = .ok (.ireturn, 1) := by decide +kernel
theorem dL_pass_0 : decode cL_pass 0 = .ok (.aload_n 2, 1) := by decide +kernel
theorem dL_pass_1 : decode cL_pass 1 = .ok (.iconst 0, 1) := by decide +kernel
theorem dL_pass_2 : decode cL_pass 2 = .ok (.aload_n 0, 1) := by decide +kernel
theorem dL_pass_3 : decode cL_pass 3 = .ok (.iload_n 1, 1) := by decide +kernel
theorem dL_pass_4 : decode cL_pass 4 = .ok (.invokevirtual 41, 3) := by decide +kernel
theorem dL_pass_7 : decode cL_pass 7 = .ok (.i2l, 1) := by decide +kernel
theorem dL_pass_8 : decode cL_pass 8 = .ok (.lastore, 1) := by decide +kernel
theorem dL_pass_9 : decode cL_pass 9 = .ok (.goto 9, 3) := by decide +kernel
theorem dL_pass_12 : decode cL_pass 12 = .ok (.astore_n 3, 1) := by decide +kernel
theorem dL_pass_13 : decode cL_pass 13 = .ok (.iconst 1, 1) := by decide +kernel
theorem dL_pass_14 : decode cL_pass 14 = .ok (.ireturn, 1) := by decide +kernel
theorem dL_pass_15 : decode cL_pass 15 = .ok (.astore_n 3, 1) := by decide +kernel
theorem dL_pass_16 : decode cL_pass 16 = .ok (.iconst 2, 1) := by decide +kernel
theorem dL_pass_17 : decode cL_pass 17 = .ok (.ireturn, 1) := by decide +kernel
theorem dL_pass_18 : decode cL_pass 18 = .ok (.iconst 0, 1) := by decide +kernel
theorem dL_pass_19 : decode cL_pass 19 = .ok (.ireturn, 1) := by decide +kernel
theorem dL_paid_0 : decode cL_paid 0 = .ok (.aload_n 3, 1) := by decide +kernel
theorem dL_paid_1 : decode cL_paid 1 = .ok (.iconst 0, 1) := by decide +kernel
theorem dL_paid_2 : decode cL_paid 2 = .ok (.aload_n 0, 1) := by decide +kernel
theorem dL_paid_3 : decode cL_paid 3 = .ok (.iload_n 1, 1) := by decide +kernel
theorem dL_paid_4 : decode cL_paid 4 = .ok (.iload_n 2, 1) := by decide +kernel
theorem dL_paid_5 : decode cL_paid 5 = .ok (.invokevirtual 44, 3) := by decide +kernel
theorem dL_paid_8 : decode cL_paid 8 = .ok (.i2l, 1) := by decide +kernel
theorem dL_paid_9 : decode cL_paid 9 = .ok (.lastore, 1) := by decide +kernel
theorem dL_paid_10 : decode cL_paid 10 = .ok (.goto 11, 3) := by decide +kernel
theorem dL_paid_13 : decode cL_paid 13 = .ok (.astore 4, 2) := by decide +kernel
theorem dL_paid_15 : decode cL_paid 15 = .ok (.iconst 1, 1) := by decide +kernel
theorem dL_paid_16 : decode cL_paid 16 = .ok (.ireturn, 1) := by decide +kernel
theorem dL_paid_17 : decode cL_paid 17 = .ok (.astore 4, 2) := by decide +kernel
theorem dL_paid_19 : decode cL_paid 19 = .ok (.iconst 2, 1) := by decide +kernel
theorem dL_paid_20 : decode cL_paid 20 = .ok (.ireturn, 1) := by decide +kernel
theorem dL_paid_21 : decode cL_paid 21 = .ok (.iconst 0, 1) := by decide +kernel
theorem dL_paid_22 : decode cL_paid 22 = .ok (.ireturn, 1) := by decide +kernel
theorem dL_madeUp_0 : decode cL_madeUp 0 = .ok (.aload_n 3, 1) := by decide +kernel
theorem dL_madeUp_1 : decode cL_madeUp 1 = .ok (.iconst 0, 1) := by decide +kernel
theorem dL_madeUp_2 : decode cL_madeUp 2 = .ok (.aload_n 0, 1) := by decide +kernel
theorem dL_madeUp_3 : decode cL_madeUp 3 = .ok (.iload_n 1, 1) := by decide +kernel
theorem dL_madeUp_4 : decode cL_madeUp 4 = .ok (.iload_n 2, 1) := by decide +kernel
theorem dL_madeUp_5 : decode cL_madeUp 5 = .ok (.invokevirtual 47, 3) := by decide +kernel
theorem dL_madeUp_8 : decode cL_madeUp 8 = .ok (.i2l, 1) := by decide +kernel
theorem dL_madeUp_9 : decode cL_madeUp 9 = .ok (.lastore, 1) := by decide +kernel
theorem dL_madeUp_10 : decode cL_madeUp 10 = .ok (.goto 11, 3) := by decide +kernel
theorem dL_madeUp_13 : decode cL_madeUp 13 = .ok (.astore 4, 2) := by decide +kernel
theorem dL_madeUp_15 : decode cL_madeUp 15 = .ok (.iconst 1, 1) := by decide +kernel
theorem dL_madeUp_16 : decode cL_madeUp 16 = .ok (.ireturn, 1) := by decide +kernel
theorem dL_madeUp_17 : decode cL_madeUp 17 = .ok (.astore 4, 2) := by decide +kernel
theorem dL_madeUp_19 : decode cL_madeUp 19 = .ok (.iconst 2, 1) := by decide +kernel
theorem dL_madeUp_20 : decode cL_madeUp 20 = .ok (.ireturn, 1) := by decide +kernel
theorem dL_madeUp_21 : decode cL_madeUp 21 = .ok (.iconst 0, 1) := by decide +kernel
theorem dL_madeUp_22 : decode cL_madeUp 22 = .ok (.ireturn, 1) := by decide +kernel
theorem dL_cutWeeks_0 : decode cL_cutWeeks 0 = .ok (.aload_n 2, 1) := by decide +kernel
theorem dL_cutWeeks_1 : decode cL_cutWeeks 1 = .ok (.iconst 0, 1) := by decide +kernel
theorem dL_cutWeeks_2 : decode cL_cutWeeks 2 = .ok (.aload_n 0, 1) := by decide +kernel
theorem dL_cutWeeks_3 : decode cL_cutWeeks 3 = .ok (.iload_n 1, 1) := by decide +kernel
theorem dL_cutWeeks_4 : decode cL_cutWeeks 4 = .ok (.invokevirtual 50, 3) := by decide +kernel
theorem dL_cutWeeks_7 : decode cL_cutWeeks 7 = .ok (.i2l, 1) := by decide +kernel
theorem dL_cutWeeks_8 : decode cL_cutWeeks 8 = .ok (.lastore, 1) := by decide +kernel
theorem dL_cutWeeks_9 : decode cL_cutWeeks 9 = .ok (.goto 6, 3) := by decide +kernel
theorem dL_cutWeeks_12 : decode cL_cutWeeks 12 = .ok (.astore_n 3, 1) := by decide +kernel
theorem dL_cutWeeks_13 : decode cL_cutWeeks 13 = .ok (.iconst 1, 1) := by decide +kernel
theorem dL_cutWeeks_14 : decode cL_cutWeeks 14 = .ok (.ireturn, 1) := by decide +kernel
theorem dL_cutWeeks_15 : decode cL_cutWeeks 15 = .ok (.iconst 0, 1) := by decide +kernel
theorem dL_cutWeeks_16 : decode cL_cutWeeks 16 = .ok (.ireturn, 1) := by decide +kernel
theorem dL_door_0 : decode cL_door 0 = .ok (.aload_n 0, 1) := by decide +kernel
theorem dL_door_1 : decode cL_door 1 = .ok (.iload_n 1, 1) := by decide +kernel
theorem dL_door_2 : decode cL_door 2 = .ok (.iload_n 2, 1) := by decide +kernel
theorem dL_door_3 : decode cL_door 3 = .ok (.iload_n 3, 1) := by decide +kernel
theorem dL_door_4 : decode cL_door 4 = .ok (.invokevirtual 53, 3) := by decide +kernel
theorem dL_door_7 : decode cL_door 7 = .ok (.goto 15, 3) := by decide +kernel
theorem dL_door_10 : decode cL_door 10 = .ok (.astore 4, 2) := by decide +kernel
theorem dL_door_12 : decode cL_door 12 = .ok (.iconst 1, 1) := by decide +kernel
theorem dL_door_13 : decode cL_door 13 = .ok (.ireturn, 1) := by decide +kernel
theorem dL_door_14 : decode cL_door 14 = .ok (.astore 4, 2) := by decide +kernel
theorem dL_door_16 : decode cL_door 16 = .ok (.iconst 2, 1) := by decide +kernel
theorem dL_door_17 : decode cL_door 17 = .ok (.ireturn, 1) := by decide +kernel
theorem dL_door_18 : decode cL_door 18 = .ok (.astore 4, 2) := by decide +kernel
theorem dL_door_20 : decode cL_door 20 = .ok (.iconst 3, 1) := by decide +kernel
theorem dL_door_21 : decode cL_door 21 = .ok (.ireturn, 1) := by decide +kernel
theorem dL_door_22 : decode cL_door 22 = .ok (.iconst 0, 1) := by decide +kernel
theorem dL_door_23 : decode cL_door 23 = .ok (.ireturn, 1) := by decide +kernel
theorem dL_mail_0 : decode cL_mail 0 = .ok (.aload_n 0, 1) := by decide +kernel
theorem dL_mail_1 : decode cL_mail 1 = .ok (.iload_n 1, 1) := by decide +kernel
theorem dL_mail_2 : decode cL_mail 2 = .ok (.iload_n 2, 1) := by decide +kernel
theorem dL_mail_3 : decode cL_mail 3 = .ok (.invokevirtual 57, 3) := by decide +kernel
theorem dL_mail_6 : decode cL_mail 6 = .ok (.goto 12, 3) := by decide +kernel
theorem dL_mail_9 : decode cL_mail 9 = .ok (.astore_n 3, 1) := by decide +kernel
theorem dL_mail_10 : decode cL_mail 10 = .ok (.iconst 1, 1) := by decide +kernel
theorem dL_mail_11 : decode cL_mail 11 = .ok (.ireturn, 1) := by decide +kernel
theorem dL_mail_12 : decode cL_mail 12 = .ok (.astore_n 3, 1) := by decide +kernel
theorem dL_mail_13 : decode cL_mail 13 = .ok (.iconst 2, 1) := by decide +kernel
theorem dL_mail_14 : decode cL_mail 14 = .ok (.ireturn, 1) := by decide +kernel
theorem dL_mail_15 : decode cL_mail 15 = .ok (.astore_n 3, 1) := by decide +kernel
theorem dL_mail_16 : decode cL_mail 16 = .ok (.iconst 3, 1) := by decide +kernel
theorem dL_mail_17 : decode cL_mail 17 = .ok (.ireturn, 1) := by decide +kernel
theorem dL_mail_18 : decode cL_mail 18 = .ok (.iconst 0, 1) := by decide +kernel
theorem dL_mail_19 : decode cL_mail 19 = .ok (.ireturn, 1) := by decide +kernel
theorem dL_check_0 : decode cL_check 0 = .ok (.aload_n 2, 1) := by decide +kernel
theorem dL_check_1 : decode cL_check 1 = .ok (.iconst 0, 1) := by decide +kernel
theorem dL_check_2 : decode cL_check 2 = .ok (.aload_n 0, 1) := by decide +kernel
theorem dL_check_3 : decode cL_check 3 = .ok (.iload_n 1, 1) := by decide +kernel
theorem dL_check_4 : decode cL_check 4 = .ok (.invokevirtual 61, 3) := by decide +kernel
theorem dL_check_7 : decode cL_check 7 = .ok (.i2l, 1) := by decide +kernel
theorem dL_check_8 : decode cL_check 8 = .ok (.lastore, 1) := by decide +kernel
theorem dL_check_9 : decode cL_check 9 = .ok (.goto 9, 3) := by decide +kernel
theorem dL_check_12 : decode cL_check 12 = .ok (.astore_n 3, 1) := by decide +kernel
theorem dL_check_13 : decode cL_check 13 = .ok (.iconst 1, 1) := by decide +kernel
theorem dL_check_14 : decode cL_check 14 = .ok (.ireturn, 1) := by decide +kernel
theorem dL_check_15 : decode cL_check 15 = .ok (.astore_n 3, 1) := by decide +kernel
theorem dL_check_16 : decode cL_check 16 = .ok (.iconst 2, 1) := by decide +kernel
theorem dL_check_17 : decode cL_check 17 = .ok (.ireturn, 1) := by decide +kernel
theorem dL_check_18 : decode cL_check 18 = .ok (.iconst 0, 1) := by decide +kernel
theorem dL_check_19 : decode cL_check 19 = .ok (.ireturn, 1) := by decide +kernel
theorem dL_owes_0 : decode cL_owes 0 = .ok (.aload_n 2, 1) := by decide +kernel
theorem dL_owes_1 : decode cL_owes 1 = .ok (.iconst 0, 1) := by decide +kernel
theorem dL_owes_2 : decode cL_owes 2 = .ok (.aload_n 0, 1) := by decide +kernel
theorem dL_owes_3 : decode cL_owes 3 = .ok (.iload_n 1, 1) := by decide +kernel
theorem dL_owes_4 : decode cL_owes 4 = .ok (.invokevirtual 64, 3) := by decide +kernel
theorem dL_owes_7 : decode cL_owes 7 = .ok (.i2l, 1) := by decide +kernel
theorem dL_owes_8 : decode cL_owes 8 = .ok (.lastore, 1) := by decide +kernel
theorem dL_owes_9 : decode cL_owes 9 = .ok (.goto 6, 3) := by decide +kernel
theorem dL_owes_12 : decode cL_owes 12 = .ok (.astore_n 3, 1) := by decide +kernel
theorem dL_owes_13 : decode cL_owes 13 = .ok (.iconst 1, 1) := by decide +kernel
theorem dL_owes_14 : decode cL_owes 14 = .ok (.ireturn, 1) := by decide +kernel
theorem dL_owes_15 : decode cL_owes 15 = .ok (.iconst 0, 1) := by decide +kernel
theorem dL_owes_16 : decode cL_owes 16 = .ok (.ireturn, 1) := by decide +kernel
theorem dL_net_0 : decode cL_net 0 = .ok (.aload_n 2, 1) := by decide +kernel
theorem dL_net_1 : decode cL_net 1 = .ok (.iconst 0, 1) := by decide +kernel
theorem dL_net_2 : decode cL_net 2 = .ok (.aload_n 0, 1) := by decide +kernel
theorem dL_net_3 : decode cL_net 3 = .ok (.iload_n 1, 1) := by decide +kernel
theorem dL_net_4 : decode cL_net 4 = .ok (.invokevirtual 67, 3) := by decide +kernel
theorem dL_net_7 : decode cL_net 7 = .ok (.i2l, 1) := by decide +kernel
theorem dL_net_8 : decode cL_net 8 = .ok (.lastore, 1) := by decide +kernel
theorem dL_net_9 : decode cL_net 9 = .ok (.goto 6, 3) := by decide +kernel
theorem dL_net_12 : decode cL_net 12 = .ok (.astore_n 3, 1) := by decide +kernel
theorem dL_net_13 : decode cL_net 13 = .ok (.iconst 1, 1) := by decide +kernel
theorem dL_net_14 : decode cL_net 14 = .ok (.ireturn, 1) := by decide +kernel
theorem dL_net_15 : decode cL_net 15 = .ok (.iconst 0, 1) := by decide +kernel
theorem dL_net_16 : decode cL_net 16 = .ok (.ireturn, 1) := by decide +kernel
theorem dL_law_0 : decode cL_law 0 = .ok (.new 8, 3) := by decide +kernel
theorem dL_law_3 : decode cL_law 3 = .ok (.dup, 1) := by decide +kernel
theorem dL_law_4 : decode cL_law 4 = .ok (.invokespecial 70, 3) := by decide +kernel
theorem dL_law_7 : decode cL_law 7 = .ok (.astore_n 1, 1) := by decide +kernel
theorem dL_law_8 : decode cL_law 8 = .ok (.new 71, 3) := by decide +kernel
theorem dL_law_11 : decode cL_law 11 = .ok (.dup, 1) := by decide +kernel
theorem dL_law_12 : decode cL_law 12 = .ok (.invokespecial 73, 3) := by decide +kernel
theorem dL_law_15 : decode cL_law 15 = .ok (.astore_n 2, 1) := by decide +kernel
theorem dL_law_16 : decode cL_law 16 = .ok (.iconst 1, 1) := by decide +kernel
theorem dL_law_17 : decode cL_law 17 = .ok (.newarray .long, 2) := by decide +kernel
theorem dL_law_19 : decode cL_law 19 = .ok (.astore_n 3, 1) := by decide +kernel
theorem dL_law_20 : decode cL_law 20 = .ok (.iconst 0, 1) := by decide +kernel
theorem dL_law_21 : decode cL_law 21 = .ok (.istore 4, 2) := by decide +kernel
theorem dL_law_23 : decode cL_law 23 = .ok (.iload 4, 2) := by decide +kernel
theorem dL_law_25 : decode cL_law 25 = .ok (.aload_n 0, 1) := by decide +kernel
theorem dL_law_26 : decode cL_law 26 = .ok (.arraylength, 1) := by decide +kernel
theorem dL_law_27 : decode cL_law 27 = .ok (.iconst 5, 1) := by decide +kernel
theorem dL_law_28 : decode cL_law 28 = .ok (.isub, 1) := by decide +kernel
theorem dL_law_29 : decode cL_law 29 = .ok (.if_icmp .gt 1203, 3) := by decide +kernel
theorem dL_law_32 : decode cL_law 32 = .ok (.aload_n 0, 1) := by decide +kernel
theorem dL_law_33 : decode cL_law 33 = .ok (.iload 4, 2) := by decide +kernel
theorem dL_law_35 : decode cL_law 35 = .ok (.iaload, 1) := by decide +kernel
theorem dL_law_36 : decode cL_law 36 = .ok (.bipush 31, 2) := by decide +kernel
theorem dL_law_38 : decode cL_law 38 = .ok (.iand, 1) := by decide +kernel
theorem dL_law_39 : decode cL_law 39 = .ok (.tableswitch 1187 0 18 #[89, 173, 265, 357, 425, 481, 494, 562, 637, 693, 706, 774, 842, 898, 958, 1006, 1062, 1075, 1131], 89) := by decide +kernel
theorem dL_law_128 : decode cL_law 128 = .ok (.aload_n 1, 1) := by decide +kernel
theorem dL_law_129 : decode cL_law 129 = .ok (.aload_n 0, 1) := by decide +kernel
theorem dL_law_130 : decode cL_law 130 = .ok (.iload 4, 2) := by decide +kernel
theorem dL_law_132 : decode cL_law 132 = .ok (.iconst 1, 1) := by decide +kernel
theorem dL_law_133 : decode cL_law 133 = .ok (.iadd, 1) := by decide +kernel
theorem dL_law_134 : decode cL_law 134 = .ok (.iaload, 1) := by decide +kernel
theorem dL_law_135 : decode cL_law 135 = .ok (.aload_n 0, 1) := by decide +kernel
theorem dL_law_136 : decode cL_law 136 = .ok (.iload 4, 2) := by decide +kernel
theorem dL_law_138 : decode cL_law 138 = .ok (.iconst 2, 1) := by decide +kernel
theorem dL_law_139 : decode cL_law 139 = .ok (.iadd, 1) := by decide +kernel
theorem dL_law_140 : decode cL_law 140 = .ok (.iaload, 1) := by decide +kernel
theorem dL_law_141 : decode cL_law 141 = .ok (.ifCond .eq 7, 3) := by decide +kernel
theorem dL_law_144 : decode cL_law 144 = .ok (.iconst 1, 1) := by decide +kernel
theorem dL_law_145 : decode cL_law 145 = .ok (.goto 4, 3) := by decide +kernel
theorem dL_law_148 : decode cL_law 148 = .ok (.iconst 0, 1) := by decide +kernel
theorem dL_law_149 : decode cL_law 149 = .ok (.aload_n 3, 1) := by decide +kernel
theorem dL_law_150 : decode cL_law 150 = .ok (.invokestatic 74, 3) := by decide +kernel
theorem dL_law_153 : decode cL_law 153 = .ok (.istore 5, 2) := by decide +kernel
theorem dL_law_155 : decode cL_law 155 = .ok (.aload_n 2, 1) := by decide +kernel
theorem dL_law_156 : decode cL_law 156 = .ok (.aload_n 0, 1) := by decide +kernel
theorem dL_law_157 : decode cL_law 157 = .ok (.iload 4, 2) := by decide +kernel
theorem dL_law_159 : decode cL_law 159 = .ok (.iconst 1, 1) := by decide +kernel
theorem dL_law_160 : decode cL_law 160 = .ok (.iadd, 1) := by decide +kernel
theorem dL_law_161 : decode cL_law 161 = .ok (.iaload, 1) := by decide +kernel
theorem dL_law_162 : decode cL_law 162 = .ok (.aload_n 0, 1) := by decide +kernel
theorem dL_law_163 : decode cL_law 163 = .ok (.iload 4, 2) := by decide +kernel
theorem dL_law_165 : decode cL_law 165 = .ok (.iconst 2, 1) := by decide +kernel
theorem dL_law_166 : decode cL_law 166 = .ok (.iadd, 1) := by decide +kernel
theorem dL_law_167 : decode cL_law 167 = .ok (.iaload, 1) := by decide +kernel
theorem dL_law_168 : decode cL_law 168 = .ok (.ifCond .eq 7, 3) := by decide +kernel
theorem dL_law_171 : decode cL_law 171 = .ok (.iconst 1, 1) := by decide +kernel
theorem dL_law_172 : decode cL_law 172 = .ok (.goto 4, 3) := by decide +kernel
theorem dL_law_175 : decode cL_law 175 = .ok (.iconst 0, 1) := by decide +kernel
theorem dL_law_176 : decode cL_law 176 = .ok (.invokevirtual 79, 3) := by decide +kernel
theorem dL_law_179 : decode cL_law 179 = .ok (.istore 6, 2) := by decide +kernel
theorem dL_law_181 : decode cL_law 181 = .ok (.aload_n 2, 1) := by decide +kernel
theorem dL_law_182 : decode cL_law 182 = .ok (.invokevirtual 80, 3) := by decide +kernel
theorem dL_law_185 : decode cL_law 185 = .ok (.iload 5, 2) := by decide +kernel
theorem dL_law_187 : decode cL_law 187 = .ok (.if_icmp .eq 5, 3) := by decide +kernel
theorem dL_law_190 : decode cL_law 190 = .ok (.iconst 0, 1) := by decide +kernel
theorem dL_law_191 : decode cL_law 191 = .ok (.ireturn, 1) := by decide +kernel
theorem dL_law_192 : decode cL_law 192 = .ok (.iload 5, 2) := by decide +kernel
theorem dL_law_194 : decode cL_law 194 = .ok (.ifCond .ne 15, 3) := by decide +kernel
theorem dL_law_197 : decode cL_law 197 = .ok (.aload_n 3, 1) := by decide +kernel
theorem dL_law_198 : decode cL_law 198 = .ok (.iconst 0, 1) := by decide +kernel
theorem dL_law_199 : decode cL_law 199 = .ok (.laload, 1) := by decide +kernel
theorem dL_law_200 : decode cL_law 200 = .ok (.iload 6, 2) := by decide +kernel
theorem dL_law_202 : decode cL_law 202 = .ok (.i2l, 1) := by decide +kernel
theorem dL_law_203 : decode cL_law 203 = .ok (.lcmp, 1) := by decide +kernel
theorem dL_law_204 : decode cL_law 204 = .ok (.ifCond .eq 5, 3) := by decide +kernel
theorem dL_law_207 : decode cL_law 207 = .ok (.iconst 0, 1) := by decide +kernel
theorem dL_law_208 : decode cL_law 208 = .ok (.ireturn, 1) := by decide +kernel
theorem dL_law_209 : decode cL_law 209 = .ok (.goto 1017, 3) := by decide +kernel
theorem dL_law_212 : decode cL_law 212 = .ok (.aload_n 1, 1) := by decide +kernel
theorem dL_law_213 : decode cL_law 213 = .ok (.aload_n 0, 1) := by decide +kernel
theorem dL_law_214 : decode cL_law 214 = .ok (.iload 4, 2) := by decide +kernel
theorem dL_law_216 : decode cL_law 216 = .ok (.iconst 1, 1) := by decide +kernel
theorem dL_law_217 : decode cL_law 217 = .ok (.iadd, 1) := by decide +kernel
theorem dL_law_218 : decode cL_law 218 = .ok (.iaload, 1) := by decide +kernel
theorem dL_law_219 : decode cL_law 219 = .ok (.aload_n 0, 1) := by decide +kernel
theorem dL_law_220 : decode cL_law 220 = .ok (.iload 4, 2) := by decide +kernel
theorem dL_law_222 : decode cL_law 222 = .ok (.iconst 2, 1) := by decide +kernel
theorem dL_law_223 : decode cL_law 223 = .ok (.iadd, 1) := by decide +kernel
theorem dL_law_224 : decode cL_law 224 = .ok (.iaload, 1) := by decide +kernel
theorem dL_law_225 : decode cL_law 225 = .ok (.aload_n 0, 1) := by decide +kernel
theorem dL_law_226 : decode cL_law 226 = .ok (.iload 4, 2) := by decide +kernel
theorem dL_law_228 : decode cL_law 228 = .ok (.iconst 3, 1) := by decide +kernel
theorem dL_law_229 : decode cL_law 229 = .ok (.iadd, 1) := by decide +kernel
theorem dL_law_230 : decode cL_law 230 = .ok (.iaload, 1) := by decide +kernel
theorem dL_law_231 : decode cL_law 231 = .ok (.aload_n 0, 1) := by decide +kernel
theorem dL_law_232 : decode cL_law 232 = .ok (.iload 4, 2) := by decide +kernel
theorem dL_law_234 : decode cL_law 234 = .ok (.iconst 4, 1) := by decide +kernel
theorem dL_law_235 : decode cL_law 235 = .ok (.iadd, 1) := by decide +kernel
theorem dL_law_236 : decode cL_law 236 = .ok (.iaload, 1) := by decide +kernel
theorem dL_law_237 : decode cL_law 237 = .ok (.aload_n 3, 1) := by decide +kernel
theorem dL_law_238 : decode cL_law 238 = .ok (.invokestatic 84, 3) := by decide +kernel
theorem dL_law_241 : decode cL_law 241 = .ok (.istore 5, 2) := by decide +kernel
theorem dL_law_243 : decode cL_law 243 = .ok (.aload_n 2, 1) := by decide +kernel
theorem dL_law_244 : decode cL_law 244 = .ok (.aload_n 0, 1) := by decide +kernel
theorem dL_law_245 : decode cL_law 245 = .ok (.iload 4, 2) := by decide +kernel
theorem dL_law_247 : decode cL_law 247 = .ok (.iconst 1, 1) := by decide +kernel
theorem dL_law_248 : decode cL_law 248 = .ok (.iadd, 1) := by decide +kernel
theorem dL_law_249 : decode cL_law 249 = .ok (.iaload, 1) := by decide +kernel
theorem dL_law_250 : decode cL_law 250 = .ok (.aload_n 0, 1) := by decide +kernel
theorem dL_law_251 : decode cL_law 251 = .ok (.iload 4, 2) := by decide +kernel
theorem dL_law_253 : decode cL_law 253 = .ok (.iconst 2, 1) := by decide +kernel
theorem dL_law_254 : decode cL_law 254 = .ok (.iadd, 1) := by decide +kernel
theorem dL_law_255 : decode cL_law 255 = .ok (.iaload, 1) := by decide +kernel
theorem dL_law_256 : decode cL_law 256 = .ok (.aload_n 0, 1) := by decide +kernel
theorem dL_law_257 : decode cL_law 257 = .ok (.iload 4, 2) := by decide +kernel
theorem dL_law_259 : decode cL_law 259 = .ok (.iconst 3, 1) := by decide +kernel
theorem dL_law_260 : decode cL_law 260 = .ok (.iadd, 1) := by decide +kernel
theorem dL_law_261 : decode cL_law 261 = .ok (.iaload, 1) := by decide +kernel
theorem dL_law_262 : decode cL_law 262 = .ok (.aload_n 0, 1) := by decide +kernel
theorem dL_law_263 : decode cL_law 263 = .ok (.iload 4, 2) := by decide +kernel
theorem dL_law_265 : decode cL_law 265 = .ok (.iconst 4, 1) := by decide +kernel
theorem dL_law_266 : decode cL_law 266 = .ok (.iadd, 1) := by decide +kernel
theorem dL_law_267 : decode cL_law 267 = .ok (.iaload, 1) := by decide +kernel
theorem dL_law_268 : decode cL_law 268 = .ok (.invokevirtual 87, 3) := by decide +kernel
theorem dL_law_271 : decode cL_law 271 = .ok (.istore 6, 2) := by decide +kernel
theorem dL_law_273 : decode cL_law 273 = .ok (.aload_n 2, 1) := by decide +kernel
theorem dL_law_274 : decode cL_law 274 = .ok (.invokevirtual 80, 3) := by decide +kernel
theorem dL_law_277 : decode cL_law 277 = .ok (.iload 5, 2) := by decide +kernel
theorem dL_law_279 : decode cL_law 279 = .ok (.if_icmp .eq 5, 3) := by decide +kernel
theorem dL_law_282 : decode cL_law 282 = .ok (.iconst 0, 1) := by decide +kernel
theorem dL_law_283 : decode cL_law 283 = .ok (.ireturn, 1) := by decide +kernel
theorem dL_law_284 : decode cL_law 284 = .ok (.iload 5, 2) := by decide +kernel
theorem dL_law_286 : decode cL_law 286 = .ok (.ifCond .ne 15, 3) := by decide +kernel
theorem dL_law_289 : decode cL_law 289 = .ok (.aload_n 3, 1) := by decide +kernel
theorem dL_law_290 : decode cL_law 290 = .ok (.iconst 0, 1) := by decide +kernel
theorem dL_law_291 : decode cL_law 291 = .ok (.laload, 1) := by decide +kernel
theorem dL_law_292 : decode cL_law 292 = .ok (.iload 6, 2) := by decide +kernel
theorem dL_law_294 : decode cL_law 294 = .ok (.i2l, 1) := by decide +kernel
theorem dL_law_295 : decode cL_law 295 = .ok (.lcmp, 1) := by decide +kernel
theorem dL_law_296 : decode cL_law 296 = .ok (.ifCond .eq 5, 3) := by decide +kernel
theorem dL_law_299 : decode cL_law 299 = .ok (.iconst 0, 1) := by decide +kernel
theorem dL_law_300 : decode cL_law 300 = .ok (.ireturn, 1) := by decide +kernel
theorem dL_law_301 : decode cL_law 301 = .ok (.goto 925, 3) := by decide +kernel
theorem dL_law_304 : decode cL_law 304 = .ok (.aload_n 1, 1) := by decide +kernel
theorem dL_law_305 : decode cL_law 305 = .ok (.aload_n 0, 1) := by decide +kernel
theorem dL_law_306 : decode cL_law 306 = .ok (.iload 4, 2) := by decide +kernel
theorem dL_law_308 : decode cL_law 308 = .ok (.iconst 1, 1) := by decide +kernel
theorem dL_law_309 : decode cL_law 309 = .ok (.iadd, 1) := by decide +kernel
theorem dL_law_310 : decode cL_law 310 = .ok (.iaload, 1) := by decide +kernel
theorem dL_law_311 : decode cL_law 311 = .ok (.aload_n 0, 1) := by decide +kernel
theorem dL_law_312 : decode cL_law 312 = .ok (.iload 4, 2) := by decide +kernel
theorem dL_law_314 : decode cL_law 314 = .ok (.iconst 2, 1) := by decide +kernel
theorem dL_law_315 : decode cL_law 315 = .ok (.iadd, 1) := by decide +kernel
theorem dL_law_316 : decode cL_law 316 = .ok (.iaload, 1) := by decide +kernel
theorem dL_law_317 : decode cL_law 317 = .ok (.aload_n 0, 1) := by decide +kernel
theorem dL_law_318 : decode cL_law 318 = .ok (.iload 4, 2) := by decide +kernel
theorem dL_law_320 : decode cL_law 320 = .ok (.iconst 3, 1) := by decide +kernel
theorem dL_law_321 : decode cL_law 321 = .ok (.iadd, 1) := by decide +kernel
theorem dL_law_322 : decode cL_law 322 = .ok (.iaload, 1) := by decide +kernel
theorem dL_law_323 : decode cL_law 323 = .ok (.aload_n 0, 1) := by decide +kernel
theorem dL_law_324 : decode cL_law 324 = .ok (.iload 4, 2) := by decide +kernel
theorem dL_law_326 : decode cL_law 326 = .ok (.iconst 4, 1) := by decide +kernel
theorem dL_law_327 : decode cL_law 327 = .ok (.iadd, 1) := by decide +kernel
theorem dL_law_328 : decode cL_law 328 = .ok (.iaload, 1) := by decide +kernel
theorem dL_law_329 : decode cL_law 329 = .ok (.aload_n 3, 1) := by decide +kernel
theorem dL_law_330 : decode cL_law 330 = .ok (.invokestatic 88, 3) := by decide +kernel
theorem dL_law_333 : decode cL_law 333 = .ok (.istore 5, 2) := by decide +kernel
theorem dL_law_335 : decode cL_law 335 = .ok (.aload_n 2, 1) := by decide +kernel
theorem dL_law_336 : decode cL_law 336 = .ok (.aload_n 0, 1) := by decide +kernel
theorem dL_law_337 : decode cL_law 337 = .ok (.iload 4, 2) := by decide +kernel
theorem dL_law_339 : decode cL_law 339 = .ok (.iconst 1, 1) := by decide +kernel
theorem dL_law_340 : decode cL_law 340 = .ok (.iadd, 1) := by decide +kernel
theorem dL_law_341 : decode cL_law 341 = .ok (.iaload, 1) := by decide +kernel
theorem dL_law_342 : decode cL_law 342 = .ok (.aload_n 0, 1) := by decide +kernel
theorem dL_law_343 : decode cL_law 343 = .ok (.iload 4, 2) := by decide +kernel
theorem dL_law_345 : decode cL_law 345 = .ok (.iconst 2, 1) := by decide +kernel
theorem dL_law_346 : decode cL_law 346 = .ok (.iadd, 1) := by decide +kernel
theorem dL_law_347 : decode cL_law 347 = .ok (.iaload, 1) := by decide +kernel
theorem dL_law_348 : decode cL_law 348 = .ok (.aload_n 0, 1) := by decide +kernel
theorem dL_law_349 : decode cL_law 349 = .ok (.iload 4, 2) := by decide +kernel
theorem dL_law_351 : decode cL_law 351 = .ok (.iconst 3, 1) := by decide +kernel
theorem dL_law_352 : decode cL_law 352 = .ok (.iadd, 1) := by decide +kernel
theorem dL_law_353 : decode cL_law 353 = .ok (.iaload, 1) := by decide +kernel
theorem dL_law_354 : decode cL_law 354 = .ok (.aload_n 0, 1) := by decide +kernel
theorem dL_law_355 : decode cL_law 355 = .ok (.iload 4, 2) := by decide +kernel
theorem dL_law_357 : decode cL_law 357 = .ok (.iconst 4, 1) := by decide +kernel
theorem dL_law_358 : decode cL_law 358 = .ok (.iadd, 1) := by decide +kernel
theorem dL_law_359 : decode cL_law 359 = .ok (.iaload, 1) := by decide +kernel
theorem dL_law_360 : decode cL_law 360 = .ok (.invokevirtual 90, 3) := by decide +kernel
theorem dL_law_363 : decode cL_law 363 = .ok (.istore 6, 2) := by decide +kernel
theorem dL_law_365 : decode cL_law 365 = .ok (.aload_n 2, 1) := by decide +kernel
theorem dL_law_366 : decode cL_law 366 = .ok (.invokevirtual 80, 3) := by decide +kernel
theorem dL_law_369 : decode cL_law 369 = .ok (.iload 5, 2) := by decide +kernel
theorem dL_law_371 : decode cL_law 371 = .ok (.if_icmp .eq 5, 3) := by decide +kernel
theorem dL_law_374 : decode cL_law 374 = .ok (.iconst 0, 1) := by decide +kernel
theorem dL_law_375 : decode cL_law 375 = .ok (.ireturn, 1) := by decide +kernel
theorem dL_law_376 : decode cL_law 376 = .ok (.iload 5, 2) := by decide +kernel
theorem dL_law_378 : decode cL_law 378 = .ok (.ifCond .ne 15, 3) := by decide +kernel
theorem dL_law_381 : decode cL_law 381 = .ok (.aload_n 3, 1) := by decide +kernel
theorem dL_law_382 : decode cL_law 382 = .ok (.iconst 0, 1) := by decide +kernel
theorem dL_law_383 : decode cL_law 383 = .ok (.laload, 1) := by decide +kernel
theorem dL_law_384 : decode cL_law 384 = .ok (.iload 6, 2) := by decide +kernel
theorem dL_law_386 : decode cL_law 386 = .ok (.i2l, 1) := by decide +kernel
theorem dL_law_387 : decode cL_law 387 = .ok (.lcmp, 1) := by decide +kernel
theorem dL_law_388 : decode cL_law 388 = .ok (.ifCond .eq 5, 3) := by decide +kernel
theorem dL_law_391 : decode cL_law 391 = .ok (.iconst 0, 1) := by decide +kernel
theorem dL_law_392 : decode cL_law 392 = .ok (.ireturn, 1) := by decide +kernel
theorem dL_law_393 : decode cL_law 393 = .ok (.goto 833, 3) := by decide +kernel
theorem dL_law_396 : decode cL_law 396 = .ok (.aload_n 1, 1) := by decide +kernel
theorem dL_law_397 : decode cL_law 397 = .ok (.aload_n 0, 1) := by decide +kernel
theorem dL_law_398 : decode cL_law 398 = .ok (.iload 4, 2) := by decide +kernel
theorem dL_law_400 : decode cL_law 400 = .ok (.iconst 1, 1) := by decide +kernel
theorem dL_law_401 : decode cL_law 401 = .ok (.iadd, 1) := by decide +kernel
theorem dL_law_402 : decode cL_law 402 = .ok (.iaload, 1) := by decide +kernel
theorem dL_law_403 : decode cL_law 403 = .ok (.aload_n 0, 1) := by decide +kernel
theorem dL_law_404 : decode cL_law 404 = .ok (.iload 4, 2) := by decide +kernel
theorem dL_law_406 : decode cL_law 406 = .ok (.iconst 2, 1) := by decide +kernel
theorem dL_law_407 : decode cL_law 407 = .ok (.iadd, 1) := by decide +kernel
theorem dL_law_408 : decode cL_law 408 = .ok (.iaload, 1) := by decide +kernel
theorem dL_law_409 : decode cL_law 409 = .ok (.aload_n 3, 1) := by decide +kernel
theorem dL_law_410 : decode cL_law 410 = .ok (.invokestatic 91, 3) := by decide +kernel
theorem dL_law_413 : decode cL_law 413 = .ok (.istore 5, 2) := by decide +kernel
theorem dL_law_415 : decode cL_law 415 = .ok (.aload_n 2, 1) := by decide +kernel
theorem dL_law_416 : decode cL_law 416 = .ok (.aload_n 0, 1) := by decide +kernel
theorem dL_law_417 : decode cL_law 417 = .ok (.iload 4, 2) := by decide +kernel
theorem dL_law_419 : decode cL_law 419 = .ok (.iconst 1, 1) := by decide +kernel
theorem dL_law_420 : decode cL_law 420 = .ok (.iadd, 1) := by decide +kernel
theorem dL_law_421 : decode cL_law 421 = .ok (.iaload, 1) := by decide +kernel
theorem dL_law_422 : decode cL_law 422 = .ok (.aload_n 0, 1) := by decide +kernel
theorem dL_law_423 : decode cL_law 423 = .ok (.iload 4, 2) := by decide +kernel
theorem dL_law_425 : decode cL_law 425 = .ok (.iconst 2, 1) := by decide +kernel
theorem dL_law_426 : decode cL_law 426 = .ok (.iadd, 1) := by decide +kernel
theorem dL_law_427 : decode cL_law 427 = .ok (.iaload, 1) := by decide +kernel
theorem dL_law_428 : decode cL_law 428 = .ok (.invokevirtual 94, 3) := by decide +kernel
theorem dL_law_431 : decode cL_law 431 = .ok (.istore 6, 2) := by decide +kernel
theorem dL_law_433 : decode cL_law 433 = .ok (.aload_n 2, 1) := by decide +kernel
theorem dL_law_434 : decode cL_law 434 = .ok (.invokevirtual 80, 3) := by decide +kernel
theorem dL_law_437 : decode cL_law 437 = .ok (.iload 5, 2) := by decide +kernel
theorem dL_law_439 : decode cL_law 439 = .ok (.if_icmp .eq 5, 3) := by decide +kernel
theorem dL_law_442 : decode cL_law 442 = .ok (.iconst 0, 1) := by decide +kernel
theorem dL_law_443 : decode cL_law 443 = .ok (.ireturn, 1) := by decide +kernel
theorem dL_law_444 : decode cL_law 444 = .ok (.iload 5, 2) := by decide +kernel
theorem dL_law_446 : decode cL_law 446 = .ok (.ifCond .ne 15, 3) := by decide +kernel
theorem dL_law_449 : decode cL_law 449 = .ok (.aload_n 3, 1) := by decide +kernel
theorem dL_law_450 : decode cL_law 450 = .ok (.iconst 0, 1) := by decide +kernel
theorem dL_law_451 : decode cL_law 451 = .ok (.laload, 1) := by decide +kernel
theorem dL_law_452 : decode cL_law 452 = .ok (.iload 6, 2) := by decide +kernel
theorem dL_law_454 : decode cL_law 454 = .ok (.i2l, 1) := by decide +kernel
theorem dL_law_455 : decode cL_law 455 = .ok (.lcmp, 1) := by decide +kernel
theorem dL_law_456 : decode cL_law 456 = .ok (.ifCond .eq 5, 3) := by decide +kernel
theorem dL_law_459 : decode cL_law 459 = .ok (.iconst 0, 1) := by decide +kernel
theorem dL_law_460 : decode cL_law 460 = .ok (.ireturn, 1) := by decide +kernel
theorem dL_law_461 : decode cL_law 461 = .ok (.goto 765, 3) := by decide +kernel
theorem dL_law_464 : decode cL_law 464 = .ok (.aload_n 1, 1) := by decide +kernel
theorem dL_law_465 : decode cL_law 465 = .ok (.aload_n 0, 1) := by decide +kernel
theorem dL_law_466 : decode cL_law 466 = .ok (.iload 4, 2) := by decide +kernel
theorem dL_law_468 : decode cL_law 468 = .ok (.iconst 1, 1) := by decide +kernel
theorem dL_law_469 : decode cL_law 469 = .ok (.iadd, 1) := by decide +kernel
theorem dL_law_470 : decode cL_law 470 = .ok (.iaload, 1) := by decide +kernel
theorem dL_law_471 : decode cL_law 471 = .ok (.aload_n 3, 1) := by decide +kernel
theorem dL_law_472 : decode cL_law 472 = .ok (.invokestatic 95, 3) := by decide +kernel
theorem dL_law_475 : decode cL_law 475 = .ok (.istore 5, 2) := by decide +kernel
theorem dL_law_477 : decode cL_law 477 = .ok (.aload_n 2, 1) := by decide +kernel
theorem dL_law_478 : decode cL_law 478 = .ok (.aload_n 0, 1) := by decide +kernel
theorem dL_law_479 : decode cL_law 479 = .ok (.iload 4, 2) := by decide +kernel
theorem dL_law_481 : decode cL_law 481 = .ok (.iconst 1, 1) := by decide +kernel
theorem dL_law_482 : decode cL_law 482 = .ok (.iadd, 1) := by decide +kernel
theorem dL_law_483 : decode cL_law 483 = .ok (.iaload, 1) := by decide +kernel
theorem dL_law_484 : decode cL_law 484 = .ok (.invokevirtual 98, 3) := by decide +kernel
theorem dL_law_487 : decode cL_law 487 = .ok (.istore 6, 2) := by decide +kernel
theorem dL_law_489 : decode cL_law 489 = .ok (.aload_n 2, 1) := by decide +kernel
theorem dL_law_490 : decode cL_law 490 = .ok (.invokevirtual 80, 3) := by decide +kernel
theorem dL_law_493 : decode cL_law 493 = .ok (.iload 5, 2) := by decide +kernel
theorem dL_law_495 : decode cL_law 495 = .ok (.if_icmp .eq 5, 3) := by decide +kernel
theorem dL_law_498 : decode cL_law 498 = .ok (.iconst 0, 1) := by decide +kernel
theorem dL_law_499 : decode cL_law 499 = .ok (.ireturn, 1) := by decide +kernel
theorem dL_law_500 : decode cL_law 500 = .ok (.iload 5, 2) := by decide +kernel
theorem dL_law_502 : decode cL_law 502 = .ok (.ifCond .ne 15, 3) := by decide +kernel
theorem dL_law_505 : decode cL_law 505 = .ok (.aload_n 3, 1) := by decide +kernel
theorem dL_law_506 : decode cL_law 506 = .ok (.iconst 0, 1) := by decide +kernel
theorem dL_law_507 : decode cL_law 507 = .ok (.laload, 1) := by decide +kernel
theorem dL_law_508 : decode cL_law 508 = .ok (.iload 6, 2) := by decide +kernel
theorem dL_law_510 : decode cL_law 510 = .ok (.i2l, 1) := by decide +kernel
theorem dL_law_511 : decode cL_law 511 = .ok (.lcmp, 1) := by decide +kernel
theorem dL_law_512 : decode cL_law 512 = .ok (.ifCond .eq 5, 3) := by decide +kernel
theorem dL_law_515 : decode cL_law 515 = .ok (.iconst 0, 1) := by decide +kernel
theorem dL_law_516 : decode cL_law 516 = .ok (.ireturn, 1) := by decide +kernel
theorem dL_law_517 : decode cL_law 517 = .ok (.goto 709, 3) := by decide +kernel
theorem dL_law_520 : decode cL_law 520 = .ok (.aload_n 1, 1) := by decide +kernel
theorem dL_law_521 : decode cL_law 521 = .ok (.invokevirtual 99, 3) := by decide +kernel
theorem dL_law_524 : decode cL_law 524 = .ok (.aload_n 2, 1) := by decide +kernel
theorem dL_law_525 : decode cL_law 525 = .ok (.invokevirtual 102, 3) := by decide +kernel
theorem dL_law_528 : decode cL_law 528 = .ok (.if_icmp .eq 698, 3) := by decide +kernel
theorem dL_law_531 : decode cL_law 531 = .ok (.iconst 0, 1) := by decide +kernel
theorem dL_law_532 : decode cL_law 532 = .ok (.ireturn, 1) := by decide +kernel
theorem dL_law_533 : decode cL_law 533 = .ok (.aload_n 1, 1) := by decide +kernel
theorem dL_law_534 : decode cL_law 534 = .ok (.aload_n 0, 1) := by decide +kernel
theorem dL_law_535 : decode cL_law 535 = .ok (.iload 4, 2) := by decide +kernel
theorem dL_law_537 : decode cL_law 537 = .ok (.iconst 1, 1) := by decide +kernel
theorem dL_law_538 : decode cL_law 538 = .ok (.iadd, 1) := by decide +kernel
theorem dL_law_539 : decode cL_law 539 = .ok (.iaload, 1) := by decide +kernel
theorem dL_law_540 : decode cL_law 540 = .ok (.aload_n 0, 1) := by decide +kernel
theorem dL_law_541 : decode cL_law 541 = .ok (.iload 4, 2) := by decide +kernel
theorem dL_law_543 : decode cL_law 543 = .ok (.iconst 2, 1) := by decide +kernel
theorem dL_law_544 : decode cL_law 544 = .ok (.iadd, 1) := by decide +kernel
theorem dL_law_545 : decode cL_law 545 = .ok (.iaload, 1) := by decide +kernel
theorem dL_law_546 : decode cL_law 546 = .ok (.aload_n 3, 1) := by decide +kernel
theorem dL_law_547 : decode cL_law 547 = .ok (.invokestatic 103, 3) := by decide +kernel
theorem dL_law_550 : decode cL_law 550 = .ok (.istore 5, 2) := by decide +kernel
theorem dL_law_552 : decode cL_law 552 = .ok (.aload_n 2, 1) := by decide +kernel
theorem dL_law_553 : decode cL_law 553 = .ok (.aload_n 0, 1) := by decide +kernel
theorem dL_law_554 : decode cL_law 554 = .ok (.iload 4, 2) := by decide +kernel
theorem dL_law_556 : decode cL_law 556 = .ok (.iconst 1, 1) := by decide +kernel
theorem dL_law_557 : decode cL_law 557 = .ok (.iadd, 1) := by decide +kernel
theorem dL_law_558 : decode cL_law 558 = .ok (.iaload, 1) := by decide +kernel
theorem dL_law_559 : decode cL_law 559 = .ok (.aload_n 0, 1) := by decide +kernel
theorem dL_law_560 : decode cL_law 560 = .ok (.iload 4, 2) := by decide +kernel
theorem dL_law_562 : decode cL_law 562 = .ok (.iconst 2, 1) := by decide +kernel
theorem dL_law_563 : decode cL_law 563 = .ok (.iadd, 1) := by decide +kernel
theorem dL_law_564 : decode cL_law 564 = .ok (.iaload, 1) := by decide +kernel
theorem dL_law_565 : decode cL_law 565 = .ok (.invokevirtual 105, 3) := by decide +kernel
theorem dL_law_568 : decode cL_law 568 = .ok (.istore 6, 2) := by decide +kernel
theorem dL_law_570 : decode cL_law 570 = .ok (.aload_n 2, 1) := by decide +kernel
theorem dL_law_571 : decode cL_law 571 = .ok (.invokevirtual 80, 3) := by decide +kernel
theorem dL_law_574 : decode cL_law 574 = .ok (.iload 5, 2) := by decide +kernel
theorem dL_law_576 : decode cL_law 576 = .ok (.if_icmp .eq 5, 3) := by decide +kernel
theorem dL_law_579 : decode cL_law 579 = .ok (.iconst 0, 1) := by decide +kernel
theorem dL_law_580 : decode cL_law 580 = .ok (.ireturn, 1) := by decide +kernel
theorem dL_law_581 : decode cL_law 581 = .ok (.iload 5, 2) := by decide +kernel
theorem dL_law_583 : decode cL_law 583 = .ok (.ifCond .ne 15, 3) := by decide +kernel
theorem dL_law_586 : decode cL_law 586 = .ok (.aload_n 3, 1) := by decide +kernel
theorem dL_law_587 : decode cL_law 587 = .ok (.iconst 0, 1) := by decide +kernel
theorem dL_law_588 : decode cL_law 588 = .ok (.laload, 1) := by decide +kernel
theorem dL_law_589 : decode cL_law 589 = .ok (.iload 6, 2) := by decide +kernel
theorem dL_law_591 : decode cL_law 591 = .ok (.i2l, 1) := by decide +kernel
theorem dL_law_592 : decode cL_law 592 = .ok (.lcmp, 1) := by decide +kernel
theorem dL_law_593 : decode cL_law 593 = .ok (.ifCond .eq 5, 3) := by decide +kernel
theorem dL_law_596 : decode cL_law 596 = .ok (.iconst 0, 1) := by decide +kernel
theorem dL_law_597 : decode cL_law 597 = .ok (.ireturn, 1) := by decide +kernel
theorem dL_law_598 : decode cL_law 598 = .ok (.goto 628, 3) := by decide +kernel
theorem dL_law_601 : decode cL_law 601 = .ok (.aload_n 1, 1) := by decide +kernel
theorem dL_law_602 : decode cL_law 602 = .ok (.aload_n 0, 1) := by decide +kernel
theorem dL_law_603 : decode cL_law 603 = .ok (.iload 4, 2) := by decide +kernel
theorem dL_law_605 : decode cL_law 605 = .ok (.iconst 1, 1) := by decide +kernel
theorem dL_law_606 : decode cL_law 606 = .ok (.iadd, 1) := by decide +kernel
theorem dL_law_607 : decode cL_law 607 = .ok (.iaload, 1) := by decide +kernel
theorem dL_law_608 : decode cL_law 608 = .ok (.aload_n 0, 1) := by decide +kernel
theorem dL_law_609 : decode cL_law 609 = .ok (.iload 4, 2) := by decide +kernel
theorem dL_law_611 : decode cL_law 611 = .ok (.iconst 2, 1) := by decide +kernel
theorem dL_law_612 : decode cL_law 612 = .ok (.iadd, 1) := by decide +kernel
theorem dL_law_613 : decode cL_law 613 = .ok (.iaload, 1) := by decide +kernel
theorem dL_law_614 : decode cL_law 614 = .ok (.aload_n 3, 1) := by decide +kernel
theorem dL_law_615 : decode cL_law 615 = .ok (.invokestatic 106, 3) := by decide +kernel
theorem dL_law_618 : decode cL_law 618 = .ok (.istore 5, 2) := by decide +kernel
theorem dL_law_620 : decode cL_law 620 = .ok (.aload_n 2, 1) := by decide +kernel
theorem dL_law_621 : decode cL_law 621 = .ok (.aload_n 0, 1) := by decide +kernel
theorem dL_law_622 : decode cL_law 622 = .ok (.iload 4, 2) := by decide +kernel
theorem dL_law_624 : decode cL_law 624 = .ok (.iconst 1, 1) := by decide +kernel
theorem dL_law_625 : decode cL_law 625 = .ok (.iadd, 1) := by decide +kernel
theorem dL_law_626 : decode cL_law 626 = .ok (.iaload, 1) := by decide +kernel
theorem dL_law_627 : decode cL_law 627 = .ok (.aload_n 0, 1) := by decide +kernel
theorem dL_law_628 : decode cL_law 628 = .ok (.iload 4, 2) := by decide +kernel
theorem dL_law_630 : decode cL_law 630 = .ok (.iconst 2, 1) := by decide +kernel
theorem dL_law_631 : decode cL_law 631 = .ok (.iadd, 1) := by decide +kernel
theorem dL_law_632 : decode cL_law 632 = .ok (.iaload, 1) := by decide +kernel
theorem dL_law_633 : decode cL_law 633 = .ok (.invokevirtual 108, 3) := by decide +kernel
theorem dL_law_636 : decode cL_law 636 = .ok (.istore 6, 2) := by decide +kernel
theorem dL_law_638 : decode cL_law 638 = .ok (.aload_n 2, 1) := by decide +kernel
theorem dL_law_639 : decode cL_law 639 = .ok (.invokevirtual 80, 3) := by decide +kernel
theorem dL_law_642 : decode cL_law 642 = .ok (.iload 5, 2) := by decide +kernel
theorem dL_law_644 : decode cL_law 644 = .ok (.if_icmp .eq 5, 3) := by decide +kernel
theorem dL_law_647 : decode cL_law 647 = .ok (.iconst 0, 1) := by decide +kernel
theorem dL_law_648 : decode cL_law 648 = .ok (.ireturn, 1) := by decide +kernel
theorem dL_law_649 : decode cL_law 649 = .ok (.iload 5, 2) := by decide +kernel
theorem dL_law_651 : decode cL_law 651 = .ok (.ifCond .ne 22, 3) := by decide +kernel
theorem dL_law_654 : decode cL_law 654 = .ok (.aload_n 3, 1) := by decide +kernel
theorem dL_law_655 : decode cL_law 655 = .ok (.iconst 0, 1) := by decide +kernel
theorem dL_law_656 : decode cL_law 656 = .ok (.laload, 1) := by decide +kernel
theorem dL_law_657 : decode cL_law 657 = .ok (.iload 6, 2) := by decide +kernel
theorem dL_law_659 : decode cL_law 659 = .ok (.ifCond .eq 7, 3) := by decide +kernel
theorem dL_law_662 : decode cL_law 662 = .ok (.lconst 1, 1) := by decide +kernel
theorem dL_law_663 : decode cL_law 663 = .ok (.goto 4, 3) := by decide +kernel
theorem dL_law_666 : decode cL_law 666 = .ok (.lconst 0, 1) := by decide +kernel
theorem dL_law_667 : decode cL_law 667 = .ok (.lcmp, 1) := by decide +kernel
theorem dL_law_668 : decode cL_law 668 = .ok (.ifCond .eq 5, 3) := by decide +kernel
theorem dL_law_671 : decode cL_law 671 = .ok (.iconst 0, 1) := by decide +kernel
theorem dL_law_672 : decode cL_law 672 = .ok (.ireturn, 1) := by decide +kernel
theorem dL_law_673 : decode cL_law 673 = .ok (.goto 553, 3) := by decide +kernel
theorem dL_law_676 : decode cL_law 676 = .ok (.aload_n 1, 1) := by decide +kernel
theorem dL_law_677 : decode cL_law 677 = .ok (.aload_n 0, 1) := by decide +kernel
theorem dL_law_678 : decode cL_law 678 = .ok (.iload 4, 2) := by decide +kernel
theorem dL_law_680 : decode cL_law 680 = .ok (.iconst 1, 1) := by decide +kernel
theorem dL_law_681 : decode cL_law 681 = .ok (.iadd, 1) := by decide +kernel
theorem dL_law_682 : decode cL_law 682 = .ok (.iaload, 1) := by decide +kernel
theorem dL_law_683 : decode cL_law 683 = .ok (.aload_n 3, 1) := by decide +kernel
theorem dL_law_684 : decode cL_law 684 = .ok (.invokestatic 109, 3) := by decide +kernel
theorem dL_law_687 : decode cL_law 687 = .ok (.istore 5, 2) := by decide +kernel
theorem dL_law_689 : decode cL_law 689 = .ok (.aload_n 2, 1) := by decide +kernel
theorem dL_law_690 : decode cL_law 690 = .ok (.aload_n 0, 1) := by decide +kernel
theorem dL_law_691 : decode cL_law 691 = .ok (.iload 4, 2) := by decide +kernel
theorem dL_law_693 : decode cL_law 693 = .ok (.iconst 1, 1) := by decide +kernel
theorem dL_law_694 : decode cL_law 694 = .ok (.iadd, 1) := by decide +kernel
theorem dL_law_695 : decode cL_law 695 = .ok (.iaload, 1) := by decide +kernel
theorem dL_law_696 : decode cL_law 696 = .ok (.invokevirtual 111, 3) := by decide +kernel
theorem dL_law_699 : decode cL_law 699 = .ok (.istore 6, 2) := by decide +kernel
theorem dL_law_701 : decode cL_law 701 = .ok (.aload_n 2, 1) := by decide +kernel
theorem dL_law_702 : decode cL_law 702 = .ok (.invokevirtual 80, 3) := by decide +kernel
theorem dL_law_705 : decode cL_law 705 = .ok (.iload 5, 2) := by decide +kernel
theorem dL_law_707 : decode cL_law 707 = .ok (.if_icmp .eq 5, 3) := by decide +kernel
theorem dL_law_710 : decode cL_law 710 = .ok (.iconst 0, 1) := by decide +kernel
theorem dL_law_711 : decode cL_law 711 = .ok (.ireturn, 1) := by decide +kernel
theorem dL_law_712 : decode cL_law 712 = .ok (.iload 5, 2) := by decide +kernel
theorem dL_law_714 : decode cL_law 714 = .ok (.ifCond .ne 15, 3) := by decide +kernel
theorem dL_law_717 : decode cL_law 717 = .ok (.aload_n 3, 1) := by decide +kernel
theorem dL_law_718 : decode cL_law 718 = .ok (.iconst 0, 1) := by decide +kernel
theorem dL_law_719 : decode cL_law 719 = .ok (.laload, 1) := by decide +kernel
theorem dL_law_720 : decode cL_law 720 = .ok (.iload 6, 2) := by decide +kernel
theorem dL_law_722 : decode cL_law 722 = .ok (.i2l, 1) := by decide +kernel
theorem dL_law_723 : decode cL_law 723 = .ok (.lcmp, 1) := by decide +kernel
theorem dL_law_724 : decode cL_law 724 = .ok (.ifCond .eq 5, 3) := by decide +kernel
theorem dL_law_727 : decode cL_law 727 = .ok (.iconst 0, 1) := by decide +kernel
theorem dL_law_728 : decode cL_law 728 = .ok (.ireturn, 1) := by decide +kernel
theorem dL_law_729 : decode cL_law 729 = .ok (.goto 497, 3) := by decide +kernel
theorem dL_law_732 : decode cL_law 732 = .ok (.aload_n 1, 1) := by decide +kernel
theorem dL_law_733 : decode cL_law 733 = .ok (.invokevirtual 112, 3) := by decide +kernel
theorem dL_law_736 : decode cL_law 736 = .ok (.aload_n 2, 1) := by decide +kernel
theorem dL_law_737 : decode cL_law 737 = .ok (.invokevirtual 115, 3) := by decide +kernel
theorem dL_law_740 : decode cL_law 740 = .ok (.if_icmp .eq 486, 3) := by decide +kernel
theorem dL_law_743 : decode cL_law 743 = .ok (.iconst 0, 1) := by decide +kernel
theorem dL_law_744 : decode cL_law 744 = .ok (.ireturn, 1) := by decide +kernel
theorem dL_law_745 : decode cL_law 745 = .ok (.aload_n 1, 1) := by decide +kernel
theorem dL_law_746 : decode cL_law 746 = .ok (.aload_n 0, 1) := by decide +kernel
theorem dL_law_747 : decode cL_law 747 = .ok (.iload 4, 2) := by decide +kernel
theorem dL_law_749 : decode cL_law 749 = .ok (.iconst 1, 1) := by decide +kernel
theorem dL_law_750 : decode cL_law 750 = .ok (.iadd, 1) := by decide +kernel
theorem dL_law_751 : decode cL_law 751 = .ok (.iaload, 1) := by decide +kernel
theorem dL_law_752 : decode cL_law 752 = .ok (.aload_n 0, 1) := by decide +kernel
theorem dL_law_753 : decode cL_law 753 = .ok (.iload 4, 2) := by decide +kernel
theorem dL_law_755 : decode cL_law 755 = .ok (.iconst 2, 1) := by decide +kernel
theorem dL_law_756 : decode cL_law 756 = .ok (.iadd, 1) := by decide +kernel
theorem dL_law_757 : decode cL_law 757 = .ok (.iaload, 1) := by decide +kernel
theorem dL_law_758 : decode cL_law 758 = .ok (.aload_n 3, 1) := by decide +kernel
theorem dL_law_759 : decode cL_law 759 = .ok (.invokestatic 116, 3) := by decide +kernel
theorem dL_law_762 : decode cL_law 762 = .ok (.istore 5, 2) := by decide +kernel
theorem dL_law_764 : decode cL_law 764 = .ok (.aload_n 2, 1) := by decide +kernel
theorem dL_law_765 : decode cL_law 765 = .ok (.aload_n 0, 1) := by decide +kernel
theorem dL_law_766 : decode cL_law 766 = .ok (.iload 4, 2) := by decide +kernel
theorem dL_law_768 : decode cL_law 768 = .ok (.iconst 1, 1) := by decide +kernel
theorem dL_law_769 : decode cL_law 769 = .ok (.iadd, 1) := by decide +kernel
theorem dL_law_770 : decode cL_law 770 = .ok (.iaload, 1) := by decide +kernel
theorem dL_law_771 : decode cL_law 771 = .ok (.aload_n 0, 1) := by decide +kernel
theorem dL_law_772 : decode cL_law 772 = .ok (.iload 4, 2) := by decide +kernel
theorem dL_law_774 : decode cL_law 774 = .ok (.iconst 2, 1) := by decide +kernel
theorem dL_law_775 : decode cL_law 775 = .ok (.iadd, 1) := by decide +kernel
theorem dL_law_776 : decode cL_law 776 = .ok (.iaload, 1) := by decide +kernel
theorem dL_law_777 : decode cL_law 777 = .ok (.invokevirtual 118, 3) := by decide +kernel
theorem dL_law_780 : decode cL_law 780 = .ok (.istore 6, 2) := by decide +kernel
theorem dL_law_782 : decode cL_law 782 = .ok (.aload_n 2, 1) := by decide +kernel
theorem dL_law_783 : decode cL_law 783 = .ok (.invokevirtual 80, 3) := by decide +kernel
theorem dL_law_786 : decode cL_law 786 = .ok (.iload 5, 2) := by decide +kernel
theorem dL_law_788 : decode cL_law 788 = .ok (.if_icmp .eq 5, 3) := by decide +kernel
theorem dL_law_791 : decode cL_law 791 = .ok (.iconst 0, 1) := by decide +kernel
theorem dL_law_792 : decode cL_law 792 = .ok (.ireturn, 1) := by decide +kernel
theorem dL_law_793 : decode cL_law 793 = .ok (.iload 5, 2) := by decide +kernel
theorem dL_law_795 : decode cL_law 795 = .ok (.ifCond .ne 15, 3) := by decide +kernel
theorem dL_law_798 : decode cL_law 798 = .ok (.aload_n 3, 1) := by decide +kernel
theorem dL_law_799 : decode cL_law 799 = .ok (.iconst 0, 1) := by decide +kernel
theorem dL_law_800 : decode cL_law 800 = .ok (.laload, 1) := by decide +kernel
theorem dL_law_801 : decode cL_law 801 = .ok (.iload 6, 2) := by decide +kernel
theorem dL_law_803 : decode cL_law 803 = .ok (.i2l, 1) := by decide +kernel
theorem dL_law_804 : decode cL_law 804 = .ok (.lcmp, 1) := by decide +kernel
theorem dL_law_805 : decode cL_law 805 = .ok (.ifCond .eq 5, 3) := by decide +kernel
theorem dL_law_808 : decode cL_law 808 = .ok (.iconst 0, 1) := by decide +kernel
theorem dL_law_809 : decode cL_law 809 = .ok (.ireturn, 1) := by decide +kernel
theorem dL_law_810 : decode cL_law 810 = .ok (.goto 416, 3) := by decide +kernel
theorem dL_law_813 : decode cL_law 813 = .ok (.aload_n 1, 1) := by decide +kernel
theorem dL_law_814 : decode cL_law 814 = .ok (.aload_n 0, 1) := by decide +kernel
theorem dL_law_815 : decode cL_law 815 = .ok (.iload 4, 2) := by decide +kernel
theorem dL_law_817 : decode cL_law 817 = .ok (.iconst 1, 1) := by decide +kernel
theorem dL_law_818 : decode cL_law 818 = .ok (.iadd, 1) := by decide +kernel
theorem dL_law_819 : decode cL_law 819 = .ok (.iaload, 1) := by decide +kernel
theorem dL_law_820 : decode cL_law 820 = .ok (.aload_n 0, 1) := by decide +kernel
theorem dL_law_821 : decode cL_law 821 = .ok (.iload 4, 2) := by decide +kernel
theorem dL_law_823 : decode cL_law 823 = .ok (.iconst 2, 1) := by decide +kernel
theorem dL_law_824 : decode cL_law 824 = .ok (.iadd, 1) := by decide +kernel
theorem dL_law_825 : decode cL_law 825 = .ok (.iaload, 1) := by decide +kernel
theorem dL_law_826 : decode cL_law 826 = .ok (.aload_n 3, 1) := by decide +kernel
theorem dL_law_827 : decode cL_law 827 = .ok (.invokestatic 119, 3) := by decide +kernel
theorem dL_law_830 : decode cL_law 830 = .ok (.istore 5, 2) := by decide +kernel
theorem dL_law_832 : decode cL_law 832 = .ok (.aload_n 2, 1) := by decide +kernel
theorem dL_law_833 : decode cL_law 833 = .ok (.aload_n 0, 1) := by decide +kernel
theorem dL_law_834 : decode cL_law 834 = .ok (.iload 4, 2) := by decide +kernel
theorem dL_law_836 : decode cL_law 836 = .ok (.iconst 1, 1) := by decide +kernel
theorem dL_law_837 : decode cL_law 837 = .ok (.iadd, 1) := by decide +kernel
theorem dL_law_838 : decode cL_law 838 = .ok (.iaload, 1) := by decide +kernel
theorem dL_law_839 : decode cL_law 839 = .ok (.aload_n 0, 1) := by decide +kernel
theorem dL_law_840 : decode cL_law 840 = .ok (.iload 4, 2) := by decide +kernel
theorem dL_law_842 : decode cL_law 842 = .ok (.iconst 2, 1) := by decide +kernel
theorem dL_law_843 : decode cL_law 843 = .ok (.iadd, 1) := by decide +kernel
theorem dL_law_844 : decode cL_law 844 = .ok (.iaload, 1) := by decide +kernel
theorem dL_law_845 : decode cL_law 845 = .ok (.invokevirtual 121, 3) := by decide +kernel
theorem dL_law_848 : decode cL_law 848 = .ok (.istore 6, 2) := by decide +kernel
theorem dL_law_850 : decode cL_law 850 = .ok (.aload_n 2, 1) := by decide +kernel
theorem dL_law_851 : decode cL_law 851 = .ok (.invokevirtual 80, 3) := by decide +kernel
theorem dL_law_854 : decode cL_law 854 = .ok (.iload 5, 2) := by decide +kernel
theorem dL_law_856 : decode cL_law 856 = .ok (.if_icmp .eq 5, 3) := by decide +kernel
theorem dL_law_859 : decode cL_law 859 = .ok (.iconst 0, 1) := by decide +kernel
theorem dL_law_860 : decode cL_law 860 = .ok (.ireturn, 1) := by decide +kernel
theorem dL_law_861 : decode cL_law 861 = .ok (.iload 5, 2) := by decide +kernel
theorem dL_law_863 : decode cL_law 863 = .ok (.ifCond .ne 15, 3) := by decide +kernel
theorem dL_law_866 : decode cL_law 866 = .ok (.aload_n 3, 1) := by decide +kernel
theorem dL_law_867 : decode cL_law 867 = .ok (.iconst 0, 1) := by decide +kernel
theorem dL_law_868 : decode cL_law 868 = .ok (.laload, 1) := by decide +kernel
theorem dL_law_869 : decode cL_law 869 = .ok (.iload 6, 2) := by decide +kernel
theorem dL_law_871 : decode cL_law 871 = .ok (.i2l, 1) := by decide +kernel
theorem dL_law_872 : decode cL_law 872 = .ok (.lcmp, 1) := by decide +kernel
theorem dL_law_873 : decode cL_law 873 = .ok (.ifCond .eq 5, 3) := by decide +kernel
theorem dL_law_876 : decode cL_law 876 = .ok (.iconst 0, 1) := by decide +kernel
theorem dL_law_877 : decode cL_law 877 = .ok (.ireturn, 1) := by decide +kernel
theorem dL_law_878 : decode cL_law 878 = .ok (.goto 348, 3) := by decide +kernel
theorem dL_law_881 : decode cL_law 881 = .ok (.aload_n 1, 1) := by decide +kernel
theorem dL_law_882 : decode cL_law 882 = .ok (.aload_n 0, 1) := by decide +kernel
theorem dL_law_883 : decode cL_law 883 = .ok (.iload 4, 2) := by decide +kernel
theorem dL_law_885 : decode cL_law 885 = .ok (.iconst 1, 1) := by decide +kernel
theorem dL_law_886 : decode cL_law 886 = .ok (.iadd, 1) := by decide +kernel
theorem dL_law_887 : decode cL_law 887 = .ok (.iaload, 1) := by decide +kernel
theorem dL_law_888 : decode cL_law 888 = .ok (.aload_n 3, 1) := by decide +kernel
theorem dL_law_889 : decode cL_law 889 = .ok (.invokestatic 122, 3) := by decide +kernel
theorem dL_law_892 : decode cL_law 892 = .ok (.istore 5, 2) := by decide +kernel
theorem dL_law_894 : decode cL_law 894 = .ok (.aload_n 2, 1) := by decide +kernel
theorem dL_law_895 : decode cL_law 895 = .ok (.aload_n 0, 1) := by decide +kernel
theorem dL_law_896 : decode cL_law 896 = .ok (.iload 4, 2) := by decide +kernel
theorem dL_law_898 : decode cL_law 898 = .ok (.iconst 1, 1) := by decide +kernel
theorem dL_law_899 : decode cL_law 899 = .ok (.iadd, 1) := by decide +kernel
theorem dL_law_900 : decode cL_law 900 = .ok (.iaload, 1) := by decide +kernel
theorem dL_law_901 : decode cL_law 901 = .ok (.invokevirtual 124, 3) := by decide +kernel
theorem dL_law_904 : decode cL_law 904 = .ok (.istore 6, 2) := by decide +kernel
theorem dL_law_906 : decode cL_law 906 = .ok (.aload_n 2, 1) := by decide +kernel
theorem dL_law_907 : decode cL_law 907 = .ok (.invokevirtual 80, 3) := by decide +kernel
theorem dL_law_910 : decode cL_law 910 = .ok (.iload 5, 2) := by decide +kernel
theorem dL_law_912 : decode cL_law 912 = .ok (.if_icmp .eq 5, 3) := by decide +kernel
theorem dL_law_915 : decode cL_law 915 = .ok (.iconst 0, 1) := by decide +kernel
theorem dL_law_916 : decode cL_law 916 = .ok (.ireturn, 1) := by decide +kernel
theorem dL_law_917 : decode cL_law 917 = .ok (.iload 5, 2) := by decide +kernel
theorem dL_law_919 : decode cL_law 919 = .ok (.ifCond .ne 15, 3) := by decide +kernel
theorem dL_law_922 : decode cL_law 922 = .ok (.aload_n 3, 1) := by decide +kernel
theorem dL_law_923 : decode cL_law 923 = .ok (.iconst 0, 1) := by decide +kernel
theorem dL_law_924 : decode cL_law 924 = .ok (.laload, 1) := by decide +kernel
theorem dL_law_925 : decode cL_law 925 = .ok (.iload 6, 2) := by decide +kernel
theorem dL_law_927 : decode cL_law 927 = .ok (.i2l, 1) := by decide +kernel
theorem dL_law_928 : decode cL_law 928 = .ok (.lcmp, 1) := by decide +kernel
theorem dL_law_929 : decode cL_law 929 = .ok (.ifCond .eq 5, 3) := by decide +kernel
theorem dL_law_932 : decode cL_law 932 = .ok (.iconst 0, 1) := by decide +kernel
theorem dL_law_933 : decode cL_law 933 = .ok (.ireturn, 1) := by decide +kernel
theorem dL_law_934 : decode cL_law 934 = .ok (.goto 292, 3) := by decide +kernel
theorem dL_law_937 : decode cL_law 937 = .ok (.aload_n 1, 1) := by decide +kernel
theorem dL_law_938 : decode cL_law 938 = .ok (.aload_n 0, 1) := by decide +kernel
theorem dL_law_939 : decode cL_law 939 = .ok (.iload 4, 2) := by decide +kernel
theorem dL_law_941 : decode cL_law 941 = .ok (.iconst 1, 1) := by decide +kernel
theorem dL_law_942 : decode cL_law 942 = .ok (.iadd, 1) := by decide +kernel
theorem dL_law_943 : decode cL_law 943 = .ok (.iaload, 1) := by decide +kernel
theorem dL_law_944 : decode cL_law 944 = .ok (.aload_n 0, 1) := by decide +kernel
theorem dL_law_945 : decode cL_law 945 = .ok (.iload 4, 2) := by decide +kernel
theorem dL_law_947 : decode cL_law 947 = .ok (.iconst 2, 1) := by decide +kernel
theorem dL_law_948 : decode cL_law 948 = .ok (.iadd, 1) := by decide +kernel
theorem dL_law_949 : decode cL_law 949 = .ok (.iaload, 1) := by decide +kernel
theorem dL_law_950 : decode cL_law 950 = .ok (.aload_n 0, 1) := by decide +kernel
theorem dL_law_951 : decode cL_law 951 = .ok (.iload 4, 2) := by decide +kernel
theorem dL_law_953 : decode cL_law 953 = .ok (.iconst 3, 1) := by decide +kernel
theorem dL_law_954 : decode cL_law 954 = .ok (.iadd, 1) := by decide +kernel
theorem dL_law_955 : decode cL_law 955 = .ok (.iaload, 1) := by decide +kernel
theorem dL_law_956 : decode cL_law 956 = .ok (.invokestatic 125, 3) := by decide +kernel
theorem dL_law_959 : decode cL_law 959 = .ok (.istore 5, 2) := by decide +kernel
theorem dL_law_961 : decode cL_law 961 = .ok (.aload_n 2, 1) := by decide +kernel
theorem dL_law_962 : decode cL_law 962 = .ok (.aload_n 0, 1) := by decide +kernel
theorem dL_law_963 : decode cL_law 963 = .ok (.iload 4, 2) := by decide +kernel
theorem dL_law_965 : decode cL_law 965 = .ok (.iconst 1, 1) := by decide +kernel
theorem dL_law_966 : decode cL_law 966 = .ok (.iadd, 1) := by decide +kernel
theorem dL_law_967 : decode cL_law 967 = .ok (.iaload, 1) := by decide +kernel
theorem dL_law_968 : decode cL_law 968 = .ok (.aload_n 0, 1) := by decide +kernel
theorem dL_law_969 : decode cL_law 969 = .ok (.iload 4, 2) := by decide +kernel
theorem dL_law_971 : decode cL_law 971 = .ok (.iconst 2, 1) := by decide +kernel
theorem dL_law_972 : decode cL_law 972 = .ok (.iadd, 1) := by decide +kernel
theorem dL_law_973 : decode cL_law 973 = .ok (.iaload, 1) := by decide +kernel
theorem dL_law_974 : decode cL_law 974 = .ok (.aload_n 0, 1) := by decide +kernel
theorem dL_law_975 : decode cL_law 975 = .ok (.iload 4, 2) := by decide +kernel
theorem dL_law_977 : decode cL_law 977 = .ok (.iconst 3, 1) := by decide +kernel
theorem dL_law_978 : decode cL_law 978 = .ok (.iadd, 1) := by decide +kernel
theorem dL_law_979 : decode cL_law 979 = .ok (.iaload, 1) := by decide +kernel
theorem dL_law_980 : decode cL_law 980 = .ok (.invokevirtual 128, 3) := by decide +kernel
theorem dL_law_983 : decode cL_law 983 = .ok (.aload_n 2, 1) := by decide +kernel
theorem dL_law_984 : decode cL_law 984 = .ok (.invokevirtual 80, 3) := by decide +kernel
theorem dL_law_987 : decode cL_law 987 = .ok (.iload 5, 2) := by decide +kernel
theorem dL_law_989 : decode cL_law 989 = .ok (.if_icmp .eq 5, 3) := by decide +kernel
theorem dL_law_992 : decode cL_law 992 = .ok (.iconst 0, 1) := by decide +kernel
theorem dL_law_993 : decode cL_law 993 = .ok (.ireturn, 1) := by decide +kernel
theorem dL_law_994 : decode cL_law 994 = .ok (.goto 232, 3) := by decide +kernel
theorem dL_law_997 : decode cL_law 997 = .ok (.aload_n 1, 1) := by decide +kernel
theorem dL_law_998 : decode cL_law 998 = .ok (.aload_n 0, 1) := by decide +kernel
theorem dL_law_999 : decode cL_law 999 = .ok (.iload 4, 2) := by decide +kernel
theorem dL_law_1001 : decode cL_law 1001 = .ok (.iconst 1, 1) := by decide +kernel
theorem dL_law_1002 : decode cL_law 1002 = .ok (.iadd, 1) := by decide +kernel
theorem dL_law_1003 : decode cL_law 1003 = .ok (.iaload, 1) := by decide +kernel
theorem dL_law_1004 : decode cL_law 1004 = .ok (.aload_n 0, 1) := by decide +kernel
theorem dL_law_1005 : decode cL_law 1005 = .ok (.iload 4, 2) := by decide +kernel
theorem dL_law_1007 : decode cL_law 1007 = .ok (.iconst 2, 1) := by decide +kernel
theorem dL_law_1008 : decode cL_law 1008 = .ok (.iadd, 1) := by decide +kernel
theorem dL_law_1009 : decode cL_law 1009 = .ok (.iaload, 1) := by decide +kernel
theorem dL_law_1010 : decode cL_law 1010 = .ok (.invokestatic 129, 3) := by decide +kernel
theorem dL_law_1013 : decode cL_law 1013 = .ok (.istore 5, 2) := by decide +kernel
theorem dL_law_1015 : decode cL_law 1015 = .ok (.aload_n 2, 1) := by decide +kernel
theorem dL_law_1016 : decode cL_law 1016 = .ok (.aload_n 0, 1) := by decide +kernel
theorem dL_law_1017 : decode cL_law 1017 = .ok (.iload 4, 2) := by decide +kernel
theorem dL_law_1019 : decode cL_law 1019 = .ok (.iconst 1, 1) := by decide +kernel
theorem dL_law_1020 : decode cL_law 1020 = .ok (.iadd, 1) := by decide +kernel
theorem dL_law_1021 : decode cL_law 1021 = .ok (.iaload, 1) := by decide +kernel
theorem dL_law_1022 : decode cL_law 1022 = .ok (.aload_n 0, 1) := by decide +kernel
theorem dL_law_1023 : decode cL_law 1023 = .ok (.iload 4, 2) := by decide +kernel
theorem dL_law_1025 : decode cL_law 1025 = .ok (.iconst 2, 1) := by decide +kernel
theorem dL_law_1026 : decode cL_law 1026 = .ok (.iadd, 1) := by decide +kernel
theorem dL_law_1027 : decode cL_law 1027 = .ok (.iaload, 1) := by decide +kernel
theorem dL_law_1028 : decode cL_law 1028 = .ok (.invokevirtual 132, 3) := by decide +kernel
theorem dL_law_1031 : decode cL_law 1031 = .ok (.aload_n 2, 1) := by decide +kernel
theorem dL_law_1032 : decode cL_law 1032 = .ok (.invokevirtual 80, 3) := by decide +kernel
theorem dL_law_1035 : decode cL_law 1035 = .ok (.iload 5, 2) := by decide +kernel
theorem dL_law_1037 : decode cL_law 1037 = .ok (.if_icmp .eq 5, 3) := by decide +kernel
theorem dL_law_1040 : decode cL_law 1040 = .ok (.iconst 0, 1) := by decide +kernel
theorem dL_law_1041 : decode cL_law 1041 = .ok (.ireturn, 1) := by decide +kernel
theorem dL_law_1042 : decode cL_law 1042 = .ok (.goto 184, 3) := by decide +kernel
theorem dL_law_1045 : decode cL_law 1045 = .ok (.aload_n 1, 1) := by decide +kernel
theorem dL_law_1046 : decode cL_law 1046 = .ok (.aload_n 0, 1) := by decide +kernel
theorem dL_law_1047 : decode cL_law 1047 = .ok (.iload 4, 2) := by decide +kernel
theorem dL_law_1049 : decode cL_law 1049 = .ok (.iconst 1, 1) := by decide +kernel
theorem dL_law_1050 : decode cL_law 1050 = .ok (.iadd, 1) := by decide +kernel
theorem dL_law_1051 : decode cL_law 1051 = .ok (.iaload, 1) := by decide +kernel
theorem dL_law_1052 : decode cL_law 1052 = .ok (.aload_n 3, 1) := by decide +kernel
theorem dL_law_1053 : decode cL_law 1053 = .ok (.invokestatic 133, 3) := by decide +kernel
theorem dL_law_1056 : decode cL_law 1056 = .ok (.istore 5, 2) := by decide +kernel
theorem dL_law_1058 : decode cL_law 1058 = .ok (.aload_n 2, 1) := by decide +kernel
theorem dL_law_1059 : decode cL_law 1059 = .ok (.aload_n 0, 1) := by decide +kernel
theorem dL_law_1060 : decode cL_law 1060 = .ok (.iload 4, 2) := by decide +kernel
theorem dL_law_1062 : decode cL_law 1062 = .ok (.iconst 1, 1) := by decide +kernel
theorem dL_law_1063 : decode cL_law 1063 = .ok (.iadd, 1) := by decide +kernel
theorem dL_law_1064 : decode cL_law 1064 = .ok (.iaload, 1) := by decide +kernel
theorem dL_law_1065 : decode cL_law 1065 = .ok (.invokevirtual 135, 3) := by decide +kernel
theorem dL_law_1068 : decode cL_law 1068 = .ok (.istore 6, 2) := by decide +kernel
theorem dL_law_1070 : decode cL_law 1070 = .ok (.aload_n 2, 1) := by decide +kernel
theorem dL_law_1071 : decode cL_law 1071 = .ok (.invokevirtual 80, 3) := by decide +kernel
theorem dL_law_1074 : decode cL_law 1074 = .ok (.iload 5, 2) := by decide +kernel
theorem dL_law_1076 : decode cL_law 1076 = .ok (.if_icmp .eq 5, 3) := by decide +kernel
theorem dL_law_1079 : decode cL_law 1079 = .ok (.iconst 0, 1) := by decide +kernel
theorem dL_law_1080 : decode cL_law 1080 = .ok (.ireturn, 1) := by decide +kernel
theorem dL_law_1081 : decode cL_law 1081 = .ok (.iload 5, 2) := by decide +kernel
theorem dL_law_1083 : decode cL_law 1083 = .ok (.ifCond .ne 15, 3) := by decide +kernel
theorem dL_law_1086 : decode cL_law 1086 = .ok (.aload_n 3, 1) := by decide +kernel
theorem dL_law_1087 : decode cL_law 1087 = .ok (.iconst 0, 1) := by decide +kernel
theorem dL_law_1088 : decode cL_law 1088 = .ok (.laload, 1) := by decide +kernel
theorem dL_law_1089 : decode cL_law 1089 = .ok (.iload 6, 2) := by decide +kernel
theorem dL_law_1091 : decode cL_law 1091 = .ok (.i2l, 1) := by decide +kernel
theorem dL_law_1092 : decode cL_law 1092 = .ok (.lcmp, 1) := by decide +kernel
theorem dL_law_1093 : decode cL_law 1093 = .ok (.ifCond .eq 5, 3) := by decide +kernel
theorem dL_law_1096 : decode cL_law 1096 = .ok (.iconst 0, 1) := by decide +kernel
theorem dL_law_1097 : decode cL_law 1097 = .ok (.ireturn, 1) := by decide +kernel
theorem dL_law_1098 : decode cL_law 1098 = .ok (.goto 128, 3) := by decide +kernel
theorem dL_law_1101 : decode cL_law 1101 = .ok (.aload_n 1, 1) := by decide +kernel
theorem dL_law_1102 : decode cL_law 1102 = .ok (.invokevirtual 136, 3) := by decide +kernel
theorem dL_law_1105 : decode cL_law 1105 = .ok (.aload_n 2, 1) := by decide +kernel
theorem dL_law_1106 : decode cL_law 1106 = .ok (.invokevirtual 139, 3) := by decide +kernel
theorem dL_law_1109 : decode cL_law 1109 = .ok (.if_icmp .eq 117, 3) := by decide +kernel
theorem dL_law_1112 : decode cL_law 1112 = .ok (.iconst 0, 1) := by decide +kernel
theorem dL_law_1113 : decode cL_law 1113 = .ok (.ireturn, 1) := by decide +kernel
theorem dL_law_1114 : decode cL_law 1114 = .ok (.aload_n 1, 1) := by decide +kernel
theorem dL_law_1115 : decode cL_law 1115 = .ok (.aload_n 0, 1) := by decide +kernel
theorem dL_law_1116 : decode cL_law 1116 = .ok (.iload 4, 2) := by decide +kernel
theorem dL_law_1118 : decode cL_law 1118 = .ok (.iconst 1, 1) := by decide +kernel
theorem dL_law_1119 : decode cL_law 1119 = .ok (.iadd, 1) := by decide +kernel
theorem dL_law_1120 : decode cL_law 1120 = .ok (.iaload, 1) := by decide +kernel
theorem dL_law_1121 : decode cL_law 1121 = .ok (.aload_n 3, 1) := by decide +kernel
theorem dL_law_1122 : decode cL_law 1122 = .ok (.invokestatic 140, 3) := by decide +kernel
theorem dL_law_1125 : decode cL_law 1125 = .ok (.istore 5, 2) := by decide +kernel
theorem dL_law_1127 : decode cL_law 1127 = .ok (.aload_n 2, 1) := by decide +kernel
theorem dL_law_1128 : decode cL_law 1128 = .ok (.aload_n 0, 1) := by decide +kernel
theorem dL_law_1129 : decode cL_law 1129 = .ok (.iload 4, 2) := by decide +kernel
theorem dL_law_1131 : decode cL_law 1131 = .ok (.iconst 1, 1) := by decide +kernel
theorem dL_law_1132 : decode cL_law 1132 = .ok (.iadd, 1) := by decide +kernel
theorem dL_law_1133 : decode cL_law 1133 = .ok (.iaload, 1) := by decide +kernel
theorem dL_law_1134 : decode cL_law 1134 = .ok (.invokevirtual 142, 3) := by decide +kernel
theorem dL_law_1137 : decode cL_law 1137 = .ok (.istore 6, 2) := by decide +kernel
theorem dL_law_1139 : decode cL_law 1139 = .ok (.aload_n 2, 1) := by decide +kernel
theorem dL_law_1140 : decode cL_law 1140 = .ok (.invokevirtual 80, 3) := by decide +kernel
theorem dL_law_1143 : decode cL_law 1143 = .ok (.iload 5, 2) := by decide +kernel
theorem dL_law_1145 : decode cL_law 1145 = .ok (.if_icmp .eq 5, 3) := by decide +kernel
theorem dL_law_1148 : decode cL_law 1148 = .ok (.iconst 0, 1) := by decide +kernel
theorem dL_law_1149 : decode cL_law 1149 = .ok (.ireturn, 1) := by decide +kernel
theorem dL_law_1150 : decode cL_law 1150 = .ok (.iload 5, 2) := by decide +kernel
theorem dL_law_1152 : decode cL_law 1152 = .ok (.ifCond .ne 15, 3) := by decide +kernel
theorem dL_law_1155 : decode cL_law 1155 = .ok (.aload_n 3, 1) := by decide +kernel
theorem dL_law_1156 : decode cL_law 1156 = .ok (.iconst 0, 1) := by decide +kernel
theorem dL_law_1157 : decode cL_law 1157 = .ok (.laload, 1) := by decide +kernel
theorem dL_law_1158 : decode cL_law 1158 = .ok (.iload 6, 2) := by decide +kernel
theorem dL_law_1160 : decode cL_law 1160 = .ok (.i2l, 1) := by decide +kernel
theorem dL_law_1161 : decode cL_law 1161 = .ok (.lcmp, 1) := by decide +kernel
theorem dL_law_1162 : decode cL_law 1162 = .ok (.ifCond .eq 5, 3) := by decide +kernel
theorem dL_law_1165 : decode cL_law 1165 = .ok (.iconst 0, 1) := by decide +kernel
theorem dL_law_1166 : decode cL_law 1166 = .ok (.ireturn, 1) := by decide +kernel
theorem dL_law_1167 : decode cL_law 1167 = .ok (.goto 59, 3) := by decide +kernel
theorem dL_law_1170 : decode cL_law 1170 = .ok (.aload_n 1, 1) := by decide +kernel
theorem dL_law_1171 : decode cL_law 1171 = .ok (.aload_n 0, 1) := by decide +kernel
theorem dL_law_1172 : decode cL_law 1172 = .ok (.iload 4, 2) := by decide +kernel
theorem dL_law_1174 : decode cL_law 1174 = .ok (.iconst 1, 1) := by decide +kernel
theorem dL_law_1175 : decode cL_law 1175 = .ok (.iadd, 1) := by decide +kernel
theorem dL_law_1176 : decode cL_law 1176 = .ok (.iaload, 1) := by decide +kernel
theorem dL_law_1177 : decode cL_law 1177 = .ok (.aload_n 3, 1) := by decide +kernel
theorem dL_law_1178 : decode cL_law 1178 = .ok (.invokestatic 143, 3) := by decide +kernel
theorem dL_law_1181 : decode cL_law 1181 = .ok (.istore 5, 2) := by decide +kernel
theorem dL_law_1183 : decode cL_law 1183 = .ok (.aload_n 2, 1) := by decide +kernel
theorem dL_law_1184 : decode cL_law 1184 = .ok (.aload_n 0, 1) := by decide +kernel
theorem dL_law_1185 : decode cL_law 1185 = .ok (.iload 4, 2) := by decide +kernel
theorem dL_law_1187 : decode cL_law 1187 = .ok (.iconst 1, 1) := by decide +kernel
theorem dL_law_1188 : decode cL_law 1188 = .ok (.iadd, 1) := by decide +kernel
theorem dL_law_1189 : decode cL_law 1189 = .ok (.iaload, 1) := by decide +kernel
theorem dL_law_1190 : decode cL_law 1190 = .ok (.invokevirtual 145, 3) := by decide +kernel
theorem dL_law_1193 : decode cL_law 1193 = .ok (.istore 6, 2) := by decide +kernel
theorem dL_law_1195 : decode cL_law 1195 = .ok (.aload_n 2, 1) := by decide +kernel
theorem dL_law_1196 : decode cL_law 1196 = .ok (.invokevirtual 80, 3) := by decide +kernel
theorem dL_law_1199 : decode cL_law 1199 = .ok (.iload 5, 2) := by decide +kernel
theorem dL_law_1201 : decode cL_law 1201 = .ok (.if_icmp .eq 5, 3) := by decide +kernel
theorem dL_law_1204 : decode cL_law 1204 = .ok (.iconst 0, 1) := by decide +kernel
theorem dL_law_1205 : decode cL_law 1205 = .ok (.ireturn, 1) := by decide +kernel
theorem dL_law_1206 : decode cL_law 1206 = .ok (.iload 5, 2) := by decide +kernel
theorem dL_law_1208 : decode cL_law 1208 = .ok (.ifCond .ne 15, 3) := by decide +kernel
theorem dL_law_1211 : decode cL_law 1211 = .ok (.aload_n 3, 1) := by decide +kernel
theorem dL_law_1212 : decode cL_law 1212 = .ok (.iconst 0, 1) := by decide +kernel
theorem dL_law_1213 : decode cL_law 1213 = .ok (.laload, 1) := by decide +kernel
theorem dL_law_1214 : decode cL_law 1214 = .ok (.iload 6, 2) := by decide +kernel
theorem dL_law_1216 : decode cL_law 1216 = .ok (.i2l, 1) := by decide +kernel
theorem dL_law_1217 : decode cL_law 1217 = .ok (.lcmp, 1) := by decide +kernel
theorem dL_law_1218 : decode cL_law 1218 = .ok (.ifCond .eq 5, 3) := by decide +kernel
theorem dL_law_1221 : decode cL_law 1221 = .ok (.iconst 0, 1) := by decide +kernel
theorem dL_law_1222 : decode cL_law 1222 = .ok (.ireturn, 1) := by decide +kernel
theorem dL_law_1223 : decode cL_law 1223 = .ok (.goto 3, 3) := by decide +kernel
theorem dL_law_1226 : decode cL_law 1226 = .ok (.iinc 4 5, 3) := by decide +kernel
theorem dL_law_1229 : decode cL_law 1229 = .ok (.goto (-1206), 3) := by decide +kernel
theorem dL_law_1232 : decode cL_law 1232 = .ok (.iconst 1, 1) := by decide +kernel
theorem dL_law_1233 : decode cL_law 1233 = .ok (.ireturn, 1) := by decide +kernel
end
section
/-! worlds as lists of cells, contracts over them, calls -/
abbrev Gx : Type := va_G × (Nat → ClassId)
def tyL (G : Gx) : List (ClassId × FieldType) := [(G.2 0, .int), (G.2 1, .boolean), (G.2 2, .object "ShortWork$Worker"), (G.2 3, .object "ShortWork$Course"), (G.2 4, .long)]
def evL : List Cond := [.fieldLinkNest RX2 91 RX1 "cutHours" "[I" RX2, .fieldLinkNest RX2 106 RX1 "firmPay" "[I" RX2, .fieldLinkNest RX2 109 RX1 "fundPay" "[I" RX2, .fieldLinkNest RX2 115 RX1 "doorHours" "[I" RX2, .fieldLinkNest RX2 118 RX1 "mailed" "[Z" RX2, .fieldLinkNest RX2 58 RX1 "noticeCount" "I" RX2, .fieldLinkNest RX2 112 RX1 "cutWeekCount" "I" RX2, .fieldLinkNest RX2 134 RX1 "received" "I" RX2, .fieldLinkNest RX2 131 RX1 "debt" "I" RX2, .fieldLinkNest RX1 42 RX0 "from" "I" RX2, .fieldLinkNest RX2 81 RX0 "from" "I" RX2, .fieldLinkNest RX1 47 RX0 "to" "I" RX2, .fieldLinkNest RX2 78 RX0 "to" "I" RX2, .fieldLinkNest RX1 50 RX0 "hours" "I" RX2, .fieldLinkNest RX2 75 RX0 "seatsLeft" "I" RX2]
def exL : List String := ["java/lang/IllegalArgumentException", "java/lang/IllegalStateException", "java/lang/IndexOutOfBoundsException"]
def exW : List Cond := [.castable "java/lang/IllegalArgumentException" "java/lang/IllegalArgumentException", .castable "java/lang/IllegalStateException" "java/lang/IllegalStateException", .castable "java/lang/IndexOutOfBoundsException" "java/lang/IndexOutOfBoundsException", .declares ⟨"java/lang/RuntimeException", "<init>", "()V"⟩, .declares ⟨"java/lang/Exception", "<init>", "()V"⟩, .declares ⟨"java/lang/Throwable", "<init>", "()V"⟩]
def CsW (w : Cond) (U : State) : Prop := w.before #[] U = true
theorem exW_ok : ∀ w ∈ exW, w.faceAtom = true ∧ w.onTables = true := by
  intro w hw
  simp only [exW, List.mem_cons, List.not_mem_nil, or_false] at hw
  rcases hw with h | h | h | h | h | h <;> subst h <;> exact ⟨rfl, rfl⟩
theorem CsW.moved {w : Cond} (hw : w ∈ exW) {u U : State} (hvm : u.vm.Alike U.vm) (h : CsW w u) : CsW w U :=
  va_tabs (A := #[]) (exW_ok w hw).2 (rfl : (u.setVm U.vm).vm = U.vm) (Cond.faceAtom_setVm hvm w (exW_ok w hw).1 h)
def EVt (U : State) : Prop := (∀ w ∈ evL, va_Nw w U) ∧ va_AO RX1 U ∧ va_AO RX0 U ∧ ∀ w ∈ exW, CsW w U
def EVh (A : Nat → Prop) (U : State) (H : Heap) : Prop := vx_Zq Bundle.tN "UNASSIGNED_STACK" Bundle.steD A U H ∧ vx_Zq Bundle.tN "SUPPRESSED_SENTINEL" Bundle.listD A U H
theorem evL_form : ∀ w ∈ evL, ∃ a i b n d h, w = Cond.fieldLinkNest a i b n d h := by
  intro w hw
  simp only [evL, List.mem_cons, List.not_mem_nil, or_false] at hw
  rcases hw with h | h | h | h | h | h | h | h | h | h | h | h | h | h | h <;> exact ⟨_, _, _, _, _, _, h⟩
theorem evL_ot : ∀ w ∈ evL, w.onTables = true := by
  intro w hw
  obtain ⟨a, i, b, n, d, h, rfl⟩ := evL_form w hw
  rfl
theorem EVt.moved {s U : State} (hW : s.WarmedH U.vm) (h : EVt s) : EVt U := by
  refine ⟨fun w hw => ?_, h.2.1.moved hW.alike, h.2.2.1.moved hW.alike, fun w hw => (h.2.2.2 w hw).moved hw hW.alike⟩
  have h1 := h.1 w hw
  obtain ⟨a, i, b, n, d, hh, rfl⟩ := evL_form w hw
  exact va_Nw.warmF hW h1
theorem EVt.same {s U : State} (hvm : s.vm = U.vm) (h : EVt s) : EVt U := by
  refine ⟨fun w hw => (h.1 w hw).same (evL_ot w hw) hvm, ?_, ?_, fun w hw => ?_⟩
  · exact va_AO.moved (by rw [hvm]; exact Vm.Alike.refl U.vm) h.2.1
  · exact va_AO.moved (by rw [hvm]; exact Vm.Alike.refl U.vm) h.2.2.1
  · exact CsW.moved hw (by rw [hvm]; exact Vm.Alike.refl U.vm) (h.2.2.2 w hw)
theorem EVh.moved {A : Nat → Prop} {s U : State} {H : Heap} (hvm : s.vm.Alike U.vm) (h : EVh A s H) : EVh A U H := ⟨h.1.moved hvm, h.2.moved hvm⟩
theorem EVh.kept {A : Nat → Prop} {s : State} {H H1 : Heap} (h : EVh A s H) (hq : ∀ a : Nat, a < H.size → ¬ A a → H1[a]? = H[a]?) : EVh A s H1 := ⟨h.1.kept hq, h.2.kept hq⟩
theorem EVh.narrow {A B : Nat → Prop} {s : State} {H : Heap} (h : EVh A s H) (hAB : ∀ q, B q → A q) : EVh B s H := ⟨h.1.narrow hAB, h.2.narrow hAB⟩
def BP (G : Gx) (ws : va_W) (sz : Nat) (U : State) : Prop := U.heap.size = sz ∧ va_P G.1 vwCl ws U.heap ∧ va_K G.1 vwCl (tyL G) U ∧ va_D (fun _ => True) ws ∧ EVt U ∧ EVh (va_A ws sz) U U.heap
def BQ (G : Gx) (A : Nat → Prop) (ws : va_W) (t : State) : Prop := va_P G.1 vwCl ws t.heap ∧ va_K G.1 vwCl (tyL G) t ∧ va_D A ws
theorem BP.blind {G : Gx} {ws : va_W} {sz : Nat} {av : List Value} : FrameBlind (va_Pc av (BP G ws sz)) := by
  intro a U g mk q
  obtain ⟨q0, q1, qP, qK, qD, qE, qH⟩ := q
  exact ⟨q0, q1, qP, va_K.moved (u := U) (U := U.calling g mk a) (Vm.Alike.refl U.vm) qK, qD, EVt.same (s := U) (U := U.calling g mk a) rfl qE, EVh.moved (s := U) (U := U.calling g mk a) (Vm.Alike.refl U.vm) qH⟩
/-- what stays in a method's body -/
def Fx (G : Gx) (p : Program) (s : State) (m : MethodId) (args : Array Value) (meth : Method) (c : Code) (cc : ByteArray) (nL : Nat) (Ts : List Cond) (own : String) (A : Nat → Prop) : Prop :=
  CallFix p m c cc nL s args Ts own ∧ meth.locks = false ∧ va_K G.1 vwCl (tyL G) s ∧ EVt s ∧ EVh A s s.heap ∧ ∀ q, s.heap.size ≤ q → A q
def HH (G : Gx) (A : Nat → Prop) (s : State) (ws : va_W) (H : Heap) (locs : List Loc) : Prop := va_P G.1 vwCl ws H ∧ va_D A ws ∧ va_S A s.heap H locs
/-! parts of a world -/
theorem va_P_mem {D : va_G} {cl : List vw_C} {ws : va_W} {H : Heap} : va_P D cl ws H ↔ ∀ q ∈ ws, va_at D cl q H := by
  constructor
  · intro h q hq
    obtain ⟨k, hk⟩ := List.getElem?_of_mem hq
    exact h k q hk
  · intro h k q hk
    exact h q (List.mem_of_getElem? hk)
theorem mid_at {a w b : va_W} {k : Nat} {q : Nat × va_E} (h : w[k]? = some q) : (a ++ w ++ b)[a.length + k]? = some q := by
  have hk := (List.getElem?_eq_some_iff.mp h).1
  rw [List.getElem?_append_left (by rw [List.length_append]; omega), List.getElem?_append_right (by omega), Nat.add_sub_cancel_left]
  exact h
theorem mid_set {a w b : va_W} {k : Nat} {q : Nat × va_E} (h : k < w.length) : (a ++ w ++ b).set (a.length + k) q = a ++ w.set k q ++ b := by
  rw [List.set_append_left _ _ (by rw [List.length_append]; omega), List.set_append_right _ _ (by omega), Nat.add_sub_cancel_left]
theorem midP {D : va_G} {cl : List vw_C} {a w b : va_W} {H : Heap} (h : va_P D cl (a ++ w ++ b) H) : va_P D cl w H := fun _ q hk => h _ q (mid_at hk)
theorem midD {A : Nat → Prop} {a w b : va_W} (h : va_D A (a ++ w ++ b)) : va_D A w := h.by (fun k => a.length + k) (fun _ _ hk => mid_at hk) (fun i j _ _ e => Nat.add_left_cancel e)
theorem lefD {A : Nat → Prop} {a b : va_W} (h : va_D A (a ++ b)) : va_D A a := h.by id (fun k q hk => by
  show (a ++ b)[k]? = some q
  rw [List.getElem?_append_left (List.getElem?_eq_some_iff.mp hk).1]; exact hk) (fun _ _ _ _ e => e)
theorem rigD {A : Nat → Prop} {a b : va_W} (h : va_D A (a ++ b)) : va_D A b := h.by (fun k => a.length + k) (fun k q hk => by
  show (a ++ b)[a.length + k]? = some q
  rw [List.getElem?_append_right (by omega), Nat.add_sub_cancel_left]; exact hk) (fun i j _ _ e => Nat.add_left_cancel e)
theorem disD {A : Nat → Prop} {a b : va_W} (h : va_D A (a ++ b)) {p q : Nat × va_E} (hp : p ∈ a) (hq : q ∈ b) : p.1 ≠ q.1 := by
  obtain ⟨i, hi⟩ := List.getElem?_of_mem hp
  obtain ⟨j, hj⟩ := List.getElem?_of_mem hq
  intro e
  have hl := (List.getElem?_eq_some_iff.mp hi).1
  have h1 : (a ++ b)[i]? = some p := by rw [List.getElem?_append_left hl]; exact hi
  have h2 : (a ++ b)[a.length + j]? = some q := by rw [List.getElem?_append_right (by omega), Nat.add_sub_cancel_left]; exact hj
  have := h.1 _ _ p q h1 h2 e
  omega
theorem joinM {A0 : Nat → Prop} {D : va_G} {cl : List vw_C} {a w b w1 : va_W} {H H1 : Heap} (hP : va_P D cl (a ++ w ++ b) H) (hD : va_D A0 (a ++ w ++ b))
    (hk : ∀ q : Nat, q < H.size → ¬ va_A w H.size q → H1[q]? = H[q]?) (hF : ∀ q, va_A w H.size q → A0 q) (hP1 : va_P D cl w1 H1) (hD1 : va_D (va_A w H.size) w1) : va_P D cl (a ++ w1 ++ b) H1 ∧ va_D A0 (a ++ w1 ++ b) := by
  have hDaw : va_D A0 (a ++ w) := lefD hD
  have outA : ∀ x : Nat × va_E, x.1 < H.size → (∀ y ∈ w, y.1 ≠ x.1) → ¬ va_A w H.size x.1 := by
    intro x hx hy h
    rcases h with ⟨k, e, h⟩ | h
    · exact hy _ (List.mem_of_getElem? h) rfl
    · omega
  have ha : ∀ x ∈ a, x.1 < H.size ∧ ¬ va_A w H.size x.1 := by
    intro x hx
    have hl := (va_P_mem.mp hP x (List.mem_append_left _ (List.mem_append_left _ hx))).lt
    exact ⟨hl, outA x hl fun y hy e => disD hDaw hx hy e.symm⟩
  have hb : ∀ x ∈ b, x.1 < H.size ∧ ¬ va_A w H.size x.1 := by
    intro x hx
    have hl := (va_P_mem.mp hP x (List.mem_append_right _ hx)).lt
    exact ⟨hl, outA x hl fun y hy e => disD hD (List.mem_append_right _ hy) hx e⟩
  constructor
  · refine va_P_mem.mpr fun x hx => ?_
    rcases List.mem_append.mp hx with hx | hx
    · rcases List.mem_append.mp hx with hx | hx
      · exact (va_P_mem.mp hP x (List.mem_append_left _ (List.mem_append_left _ hx))).kept (hk _ (ha x hx).1 (ha x hx).2)
      · exact va_P_mem.mp hP1 x hx
    · exact (va_P_mem.mp hP x (List.mem_append_right _ hx)).kept (hk _ (hb x hx).1 (hb x hx).2)
  · refine va_D.app (va_D.app (lefD hDaw) (hD1.weaken fun _ q _ h => hF q.1 h) ?_) (rigD hD) ?_
    · intro i j x y hx hy e
      have h1 := ha x (List.mem_of_getElem? hx)
      have h2 := hD1.2 j y hy
      rw [← e] at h2
      exact h1.2 h2
    · intro i j x y hx hy e
      rcases List.mem_append.mp (List.mem_of_getElem? hx) with hx | hx
      · exact disD (a := a) (b := b) (by
          have h9 : va_D A0 (a ++ b) := hD.by (fun k => if k < a.length then k else k + w.length) (fun k q hk => by
            by_cases hl : k < a.length
            · rw [if_pos hl]
              rw [List.getElem?_append_left hl] at hk
              rw [List.getElem?_append_left (by rw [List.length_append]; omega), List.getElem?_append_left hl]
              exact hk
            · rw [if_neg hl]
              rw [List.getElem?_append_right (by omega)] at hk
              rw [List.getElem?_append_right (by rw [List.length_append]; omega), List.length_append, show k + w.length - (a.length + w.length) = k - a.length by omega]
              exact hk) (fun i j _ _ e => by
            by_cases h1 : i < a.length <;> by_cases h2 : j < a.length <;> simp only [h1, h2, if_true, if_false] at e <;> omega)
          exact h9) hx (List.mem_of_getElem? hy) e
      · obtain ⟨k, hk⟩ := List.getElem?_of_mem hx
        have h2 := hD1.2 k x hk
        rw [e] at h2
        exact (hb y (List.mem_of_getElem? hy)).2 h2
theorem freeM {A0 : Nat → Prop} {a w b : va_W} {H0 H : Heap} {locs : List Loc} (hD : va_D A0 (a ++ w ++ b)) (hS : va_S A0 H0 H locs) (hA : ∀ q, H0.size ≤ q → A0 q) : ∀ q, va_A w H.size q → A0 q := by
  intro q h
  rcases h with ⟨k, e, h⟩ | h
  · exact hD.2 _ (q, e) (mid_at h)
  · exact hA q (Nat.le_trans hS.1 h)
/-! contracts -/
/-- returns 'ans', the world is then ws' (u: addresses of what was made) -/
def MI (l : Launch) (y : MethodName) (Wd : List Cond) (rm : Room) (av : List Value) (G : Gx) (ws : va_W) (ws' : (Nat → Nat) → va_W) (ans : Int32) : Prop :=
  ∀ sz : Nat, Met l y Wd rm (va_Pc av (BP G ws sz)) (va_Qi (fun r (_ : Nat → Nat) => r = ans) (fun u => BQ G (va_A ws sz) (ws' u)) (va_A ws sz)) rm.cells rm.slots (va_A ws sz)
def MV (l : Launch) (y : MethodName) (Wd : List Cond) (rm : Room) (av : List Value) (G : Gx) (ws : va_W) (ws' : (Nat → Nat) → va_W) : Prop :=
  ∀ sz : Nat, Met l y Wd rm (va_Pc av (BP G ws sz)) (va_Qv (fun (_ : Nat → Nat) => True) (fun u => BQ G (va_A ws sz) (ws' u)) (va_A ws sz)) rm.cells rm.slots (va_A ws sz)
/-- returns the reference r, the world stays -/
def MR (l : Launch) (y : MethodName) (Wd : List Cond) (rm : Room) (av : List Value) (G : Gx) (ws : va_W) (r : Nat) : Prop :=
  ∀ sz : Nat, Met l y Wd rm (va_Pc av (BP G ws sz)) (va_Qr (fun (_ : Unit) => True) (fun _ a t => a = r ∧ BQ G (va_A ws sz) ws t) (va_A ws sz)) rm.cells rm.slots (va_A ws sz)
def XQ (G : Gx) (A : Nat → Prop) (ws : va_W) (E : String) : String → State → State → Prop := vx_X (fun (_ : Unit) => True) (fun E' _ t => E' = E ∧ BQ G A ws t) A
/-- throws E, the world stays -/
def MX (l : Launch) (y : MethodName) (Wd : List Cond) (rm : Room) (av : List Value) (G : Gx) (ws : va_W) (E : String) : Prop :=
  ∀ sz : Nat, vx_Met l y Wd rm (va_Pc av (BP G ws sz)) (fun _ _ _ _ => False) (XQ G (va_A ws sz) ws E) rm.cells rm.slots (va_A ws sz)
abbrev EnI (G : Gx) (A : Nat → Prop) (below : List Frame) (s : State) (args : Array Value) (rm : Room) (ws' : (Nat → Nat) → va_W) (ans : Int32) : State → Prop :=
  MQ below (va_Qi (fun r (_ : Nat → Nat) => r = ans) (fun u => BQ G A (ws' u)) A) args s rm.cells rm.slots A
abbrev EnV (G : Gx) (A : Nat → Prop) (below : List Frame) (s : State) (args : Array Value) (rm : Room) (ws' : (Nat → Nat) → va_W) : State → Prop :=
  MQ below (va_Qv (fun (_ : Nat → Nat) => True) (fun u => BQ G A (ws' u)) A) args s rm.cells rm.slots A
abbrev EnR (G : Gx) (A : Nat → Prop) (below : List Frame) (s : State) (args : Array Value) (rm : Room) (ws : va_W) (r : Nat) : State → Prop :=
  MQ below (va_Qr (fun (_ : Unit) => True) (fun _ a t => a = r ∧ BQ G A ws t) A) args s rm.cells rm.slots A
abbrev EnX (G : Gx) (A : Nat → Prop) (below : List Frame) (s : State) (args : Array Value) (rm : Room) (ws : va_W) (E : String) : State → Prop :=
  vx_MQ below (fun _ _ _ _ => False) (XQ G A ws E) args s rm.cells rm.slots A
section Entry
variable {l : Launch} {y : MethodName} {Wd Wd' : List Cond} {rm : Room} {av : List Value} {G : Gx} {ws : va_W} {ws' : (Nat → Nat) → va_W} {ans : Int32} {r : Nat} {E : String} {cc : ByteArray} {maxL : Nat} {ret : Option FieldType}
theorem ofMI (hy : plainName y.cls = true) (hw : Wd = Cond.code y cc maxL ret :: Wd') (hlen : (lg_sl av).length ≤ maxL)
    (body : ∀ (p : Program) (e : Env) (s : State) (m : MethodId) (below : List Frame) (meth : Method) (c : Code) (A : Nat → Prop) (ls : Array Slot), Fx G p s m av.toArray meth c cc maxL Wd y.cls A → meth.sig.returnType = ret → meth.name = y.name → HH G A s ws s.heap [] → lv_has ls maxL (lv_args 0 av) →
      W p l e rm s m av.toArray below meth c s.heap [] 0 0 (EnI G A below s av.toArray rm ws' ans) (F0 m 0 ls [])) : MI l y Wd rm av G ws ws' ans := by
  intro sz
  refine Met.ofW (cc := cc) (maxL := maxL) (ret := ret) hy hw ?_
  intro p e s m args below meth c s₁ B hml hv
  obtain ⟨rfl, hsz, hP, hK, hD0, hE, hE2⟩ := hv
  subst hsz
  have hl := lv_entry av (n := maxL) hlen
  rw [lg_entry_eq]
  exact body p e s m below meth c (va_A ws s.heap.size) _ ⟨⟨B.exec, B.bytes, hml, findClass_of_methodNamed B.named, atoms_spec (ws := Wd) B.pre⟩, B.notSynchronized, hK, hE, hE2, fun q h => Or.inr h⟩ B.returns (name_of_methodNamed B.named B.method).1 ⟨hP, hD0.self, va_S.rf⟩ hl
theorem ofMV (hy : plainName y.cls = true) (hw : Wd = Cond.code y cc maxL ret :: Wd') (hlen : (lg_sl av).length ≤ maxL)
    (body : ∀ (p : Program) (e : Env) (s : State) (m : MethodId) (below : List Frame) (meth : Method) (c : Code) (A : Nat → Prop) (ls : Array Slot), Fx G p s m av.toArray meth c cc maxL Wd y.cls A → meth.sig.returnType = ret → meth.name = y.name → HH G A s ws s.heap [] → lv_has ls maxL (lv_args 0 av) →
      W p l e rm s m av.toArray below meth c s.heap [] 0 0 (EnV G A below s av.toArray rm ws') (F0 m 0 ls [])) : MV l y Wd rm av G ws ws' := by
  intro sz
  refine Met.ofW (cc := cc) (maxL := maxL) (ret := ret) hy hw ?_
  intro p e s m args below meth c s₁ B hml hv
  obtain ⟨rfl, hsz, hP, hK, hD0, hE, hE2⟩ := hv
  subst hsz
  have hl := lv_entry av (n := maxL) hlen
  rw [lg_entry_eq]
  exact body p e s m below meth c (va_A ws s.heap.size) _ ⟨⟨B.exec, B.bytes, hml, findClass_of_methodNamed B.named, atoms_spec (ws := Wd) B.pre⟩, B.notSynchronized, hK, hE, hE2, fun q h => Or.inr h⟩ B.returns (name_of_methodNamed B.named B.method).1 ⟨hP, hD0.self, va_S.rf⟩ hl
theorem ofMR (hy : plainName y.cls = true) (hw : Wd = Cond.code y cc maxL ret :: Wd') (hlen : (lg_sl av).length ≤ maxL)
    (body : ∀ (p : Program) (e : Env) (s : State) (m : MethodId) (below : List Frame) (meth : Method) (c : Code) (A : Nat → Prop) (ls : Array Slot), Fx G p s m av.toArray meth c cc maxL Wd y.cls A → meth.sig.returnType = ret → meth.name = y.name → HH G A s ws s.heap [] → lv_has ls maxL (lv_args 0 av) →
      W p l e rm s m av.toArray below meth c s.heap [] 0 0 (EnR G A below s av.toArray rm ws r) (F0 m 0 ls [])) : MR l y Wd rm av G ws r := by
  intro sz
  refine Met.ofW (cc := cc) (maxL := maxL) (ret := ret) hy hw ?_
  intro p e s m args below meth c s₁ B hml hv
  obtain ⟨rfl, hsz, hP, hK, hD0, hE, hE2⟩ := hv
  subst hsz
  have hl := lv_entry av (n := maxL) hlen
  rw [lg_entry_eq]
  exact body p e s m below meth c (va_A ws s.heap.size) _ ⟨⟨B.exec, B.bytes, hml, findClass_of_methodNamed B.named, atoms_spec (ws := Wd) B.pre⟩, B.notSynchronized, hK, hE, hE2, fun q h => Or.inr h⟩ B.returns (name_of_methodNamed B.named B.method).1 ⟨hP, hD0.self, va_S.rf⟩ hl
theorem ofMX (hy : plainName y.cls = true) (hw : Wd = Cond.code y cc maxL ret :: Wd') (hlen : (lg_sl av).length ≤ maxL)
    (body : ∀ (p : Program) (e : Env) (s : State) (m : MethodId) (below : List Frame) (meth : Method) (c : Code) (A : Nat → Prop) (ls : Array Slot), Fx G p s m av.toArray meth c cc maxL Wd y.cls A → (∀ x ∈ c.exceptionTable.toList, False) → HH G A s ws s.heap [] → lv_has ls maxL (lv_args 0 av) →
      W p l e rm s m av.toArray below meth c s.heap [] 0 0 (EnX G A below s av.toArray rm ws E) (F0 m 0 ls [])) : MX l y Wd rm av G ws E := by
  intro sz
  refine vx_ofW (cc := cc) (maxL := maxL) (ret := ret) hy hw ?_
  intro p e s m args below meth c s₁ B hml ht hv
  obtain ⟨rfl, hsz, hP, hK, hD0, hE, hE2⟩ := hv
  subst hsz
  have hl := lv_entry av (n := maxL) hlen
  rw [lg_entry_eq]
  exact body p e s m below meth c (va_A ws s.heap.size) _ ⟨⟨B.exec, B.bytes, hml, findClass_of_methodNamed B.named, atoms_spec (ws := Wd) B.pre⟩, B.notSynchronized, hK, hE, hE2, fun q h => Or.inr h⟩ ht ⟨hP, hD0.self, va_S.rf⟩ hl
end Entry
section Ends9
variable {p : Program} {l : Launch} {e : Env} {R rm : Room} {s : State} {m : MethodId} {args : Array Value} {below : List Frame} {meth : Method} {c : Code} {H : Heap} {locs : List Loc} {cells slots : Nat} {Q : State → Prop}
variable {cc : ByteArray} {pc nL : Nat} {ls : Array Slot} {rest st0 : List Value} {G : Gx} {Ts : List Cond} {own : String} {A : Nat → Prop} {ws w0 w1 : va_W} {ws' : (Nat → Nat) → va_W} {ans v : Int32} {ty : FieldType} {r : Nat} {E : String}
theorem retI (F : Fx G p s m args meth c cc nL Ts own A) (hr : meth.sig.returnType = some ty) (hn : narrow ty (.int v) = .int v) (u : Nat → Nat) (hH : HH G A s (ws' u) H locs) (hv : v = ans) (hc : cells ≤ rm.cells) (hs : slots ≤ rm.slots) (hdg : decode cc pc = .ok (.ireturn, 1)) :
    W p l e R s m args below meth c H locs cells slots (EnI G A below s args rm ws' ans) (F0 m pc ls [.int v]) := by
  subst hv
  refine W.widen hc hs ?_
  exact W.zret F.1.1 F.1.2.1 hr hn (fun t ht hW => ⟨⟨_, u, rfl, rfl, by rw [ht]; exact hH.1, va_K.moved hW.alike F.2.2.1, hH.2.1⟩, hH.2.2.F ht⟩) hH.2.2.2.2 hdg F.2.1
theorem retV (F : Fx G p s m args meth c cc nL Ts own A) (hr : meth.sig.returnType = none) (u : Nat → Nat) (hH : HH G A s (ws' u) H locs) (hc : cells ≤ rm.cells) (hs : slots ≤ rm.slots) (hdg : decode cc pc = .ok (.return_, 1)) :
    W p l e R s m args below meth c H locs cells slots (EnV G A below s args rm ws') (F0 m pc ls []) := by
  refine W.widen hc hs ?_
  exact W.vret F.1.1 F.1.2.1 hr (fun t ht hW => ⟨⟨u, rfl, trivial, by rw [ht]; exact hH.1, va_K.moved hW.alike F.2.2.1, hH.2.1⟩, hH.2.2.F ht⟩) hH.2.2.2.2 hdg F.2.1
theorem retR (F : Fx G p s m args meth c cc nL Ts own A) {C : String} (hr : meth.sig.returnType = some (.object C)) (hH : HH G A s ws H locs) (hc : cells ≤ rm.cells) (hs : slots ≤ rm.slots) (hdg : decode cc pc = .ok (.areturn, 1)) :
    W p l e R s m args below meth c H locs cells slots (EnR G A below s args rm ws r) (F0 m pc ls [.ref r]) := by
  refine W.widen hc hs ?_
  exact W.aret F.1.1 F.1.2.1 hr (Or.inl ⟨_, rfl⟩) (Or.inr ⟨_, rfl⟩) (fun t ht hW => ⟨⟨(), r, rfl, trivial, rfl, by rw [ht]; exact hH.1, va_K.moved hW.alike F.2.2.1, hH.2.1⟩, hH.2.2.F ht⟩) hH.2.2.2.2 hdg F.2.1
/-- new E(); throw -/
theorem throw0 (F : Fx G p s m args meth c cc nL Ts own A) (hl : l.stackTraces = false) {names : List String} {ik ic : Nat} (hcls : Bundle.fit E = true) (hnames : ∀ n ∈ names, Bundle.fit n = true)
    (hk : (Cond.classLink own ik E) ∈ Ts) (hini : (Cond.initialized E) ∈ Ts) (hat : ∀ w ∈ (vx_at0 own ic E names).filter goodWord, w ∈ Ts) (hca : ∀ w ∈ (vx_at0 own ic E names).filter (fun w => !goodWord w), w ∈ exW) (hgood : ∀ w ∈ Cond.classLink own ik E :: Cond.initialized E :: vx_at0 own ic E names, vx_ot w = true)
    (hH : HH G A s ws H locs) (hsize : ls.size = nL)
    (d0 : decode cc pc = .ok (.new ik, 3)) (d3 : decode cc (pc + 3) = .ok (.dup, 1)) (d4 : decode cc (pc + 4) = .ok (.invokespecial ic, 3)) (d7 : decode cc (pc + 7) = .ok (.athrow, 1))
    (hout : ∀ x ∈ c.exceptionTable.toList, False)
    (hRframes : names.length + 3 < R.frames) (hRlocals : (rest.map fun v => v.category).sum + (13 * (names.length + 1) + 42) ≤ R.locals) (hRcells : cells + 1 ≤ R.cells) (hRslots : slots + 6 ≤ R.slots) (hc : cells + 1 ≤ rm.cells) (hs : slots + 6 ≤ rm.slots) :
    W p l e R s m args below meth c H locs cells slots (EnX G A below s args rm ws E) (F0 m pc ls rest) := by
  have hts := F.1.2.2.2.2
  refine vx_throw0 F.1.1 F.1.2.1 hl (own := own) (cls := E) (names := names) (ik := ik) (ic := ic) (A := A) F.1.2.2.2.1 hcls hnames (hts _ hk) (hts _ hini) (vx_hat (B := exW) (fun w hw => hts _ (hat w hw)) hca (fun w hw => va_tabs (exW_ok w hw).2 rfl (F.2.2.2.1.2.2.2 w hw))) hgood F.2.2.2.2.1.1 F.2.2.2.2.1.2 hH.2.2 (by rw [hsize]; exact F.1.2.2.1.symm) d0 d3 d4 d7 (fun x hx => (hout x hx).elim) hRframes hRlocals hRcells hRslots F.2.1 ?_ hH.2.2.2.2 hc hs
  intro t hvm hz hq
  refine ⟨(), trivial, ⟨rfl, hH.1.kept fun k q hk => hq _ (hH.1 k q hk).lt, va_K.moved hvm F.2.2.1, hH.2.1⟩, Nat.le_trans hH.2.2.1 hz, fun q h1 h2 => ?_⟩
  rw [hq q (Nat.lt_of_lt_of_le h1 hH.2.2.1)]
  exact hH.2.2.2.1 q h1 h2
end Ends9
end
section
section C9
variable {p : Program} {l : Launch} {e : Env} {R rm : Room} {s : State} {m : MethodId} {args : Array Value} {below : List Frame} {meth : Method} {c : Code} {H : Heap} {locs : List Loc} {cells slots : Nat} {Q : State → Prop}
variable {cc : ByteArray} {pc nL : Nat} {ls : Array Slot} {rest st0 : List Value} {G : Gx} {Ts : List Cond} {own : String} {A : Nat → Prop} {ws w0 w1 : va_W} {E : String} {q : Addr}
variable {y : MethodName} {bytes : ByteArray} {maxL n index : Nat} {ret : Option FieldType} {Wc Wc' : List Cond} {rmc : Room} {b0 : Nat} {As : List Value} {wsc : va_W} {wsc' : (Nat → Nat) → va_W} {ans : Int32} {C : String} {r : Nat}
theorem callVI (F : Fx G p s m args meth c cc nL Ts own A) (hM : MI l y Wc rmc (.ref b0 :: As) G wsc wsc' ans) (hg : GoodIn Ts (wsV own index C y Wc)) (hwc : Wc = Cond.code y bytes maxL ret :: Wc') (hd : y.cls = C ∧ y.cls ≠ "java/lang/invoke/MethodHandle" ∧ y.cls ≠ "java/lang/invoke/VarHandle" ∧ (parseMethodDescriptor y.desc).map (fun d => d.parameters.length) = some n) (hR : rmc.frames + 1 ≤ R.frames ∧ 8 + (maxL + 11) + rmc.locals ≤ R.locals)
    (a b : va_W) (hH : HH G A s w0 H locs) (hw : w0 = a ++ wsc ++ b) (hrec : ∃ (i ci : Nat) (fs : List Value) (q : vw_C), wsc[i]? = some (b0, .inr (ci, fs)) ∧ vwCl[ci]? = some q ∧ q.1 = C) (hn : As.length = n) (hsz : ls.size = nL) (hrest : (rest.map fun v => v.category).sum ≤ 8) (hdg : decode cc pc = .ok (.invokevirtual index, 3)) (hf : cells + rmc.cells ≤ R.cells ∧ slots + rmc.slots ≤ R.slots) (hst : st0 = As.reverse ++ .ref b0 :: rest)
    (kk : ∀ (u : Nat → Nat) (H1 : Heap) (locs1 : List Loc), HH G A s (a ++ wsc' u ++ b) H1 locs1 → W p l e R s m args below meth c H1 locs1 (cells + rmc.cells) (slots + rmc.slots) Q (F0 m (pc + 3) ls (.int ans :: rest))) :
    W p l e R s m args below meth c H locs cells slots Q (F0 m pc ls st0) := by
  subst hw
  have hPc := midP hH.1
  have hDc := midD hH.2.1
  have hFc := freeM hH.2.1 hH.2.2 F.2.2.2.2.2
  have hE : EVh (va_A wsc H.size) s H := (F.2.2.2.2.1.kept hH.2.2.2.1).narrow hFc
  obtain ⟨i, ci, fs, q, hr1, hr2, hr3⟩ := hrec
  subst hr3
  refine va_calli (va_runV (As := As) (rest := rest) F.1 (hM H.size) (cwV n F.1.2.2.2.2 hg hwc rfl rfl hd hR) ⟨BP.blind, va_recv F.2.2.1 hPc hr2 hr1, fun U hU hW => ⟨rfl, by rw [hU], by rw [hU]; exact hPc, va_K.moved hW.alike F.2.2.1, hDc.weaken (fun _ _ _ _ => trivial), F.2.2.2.1.moved hW, by rw [hU]; exact hE.moved hW.alike⟩⟩ rfl hn hsz hst (lv_room hrest) hdg hf) hH.2.2 (fun q _ h => hFc q h) hFc (fun r u t H1 locs1 ht hvm hw hB hz1 hk1 hS => ?_)
  subst hw
  obtain ⟨hP1, -, hD1⟩ := hB
  rw [ht] at hP1
  obtain ⟨j1, j2⟩ := joinM hH.1 hH.2.1 hk1 hFc hP1 hD1
  exact kk u H1 locs1 ⟨j1, j2, hS⟩
theorem callVV (F : Fx G p s m args meth c cc nL Ts own A) (hM : MV l y Wc rmc (.ref b0 :: As) G wsc wsc') (hg : GoodIn Ts (wsV own index C y Wc)) (hwc : Wc = Cond.code y bytes maxL ret :: Wc') (hd : y.cls = C ∧ y.cls ≠ "java/lang/invoke/MethodHandle" ∧ y.cls ≠ "java/lang/invoke/VarHandle" ∧ (parseMethodDescriptor y.desc).map (fun d => d.parameters.length) = some n) (hR : rmc.frames + 1 ≤ R.frames ∧ 8 + (maxL + 11) + rmc.locals ≤ R.locals)
    (a b : va_W) (hH : HH G A s w0 H locs) (hw : w0 = a ++ wsc ++ b) (hrec : ∃ (i ci : Nat) (fs : List Value) (q : vw_C), wsc[i]? = some (b0, .inr (ci, fs)) ∧ vwCl[ci]? = some q ∧ q.1 = C) (hn : As.length = n) (hsz : ls.size = nL) (hrest : (rest.map fun v => v.category).sum ≤ 8) (hdg : decode cc pc = .ok (.invokevirtual index, 3)) (hf : cells + rmc.cells ≤ R.cells ∧ slots + rmc.slots ≤ R.slots) (hst : st0 = As.reverse ++ .ref b0 :: rest)
    (kk : ∀ (u : Nat → Nat) (H1 : Heap) (locs1 : List Loc), HH G A s (a ++ wsc' u ++ b) H1 locs1 → W p l e R s m args below meth c H1 locs1 (cells + rmc.cells) (slots + rmc.slots) Q (F0 m (pc + 3) ls rest)) :
    W p l e R s m args below meth c H locs cells slots Q (F0 m pc ls st0) := by
  subst hw
  have hPc := midP hH.1
  have hDc := midD hH.2.1
  have hFc := freeM hH.2.1 hH.2.2 F.2.2.2.2.2
  have hE : EVh (va_A wsc H.size) s H := (F.2.2.2.2.1.kept hH.2.2.2.1).narrow hFc
  obtain ⟨i, ci, fs, q, hr1, hr2, hr3⟩ := hrec
  subst hr3
  refine va_callv (va_runV (As := As) (rest := rest) F.1 (hM H.size) (cwV n F.1.2.2.2.2 hg hwc rfl rfl hd hR) ⟨BP.blind, va_recv F.2.2.1 hPc hr2 hr1, fun U hU hW => ⟨rfl, by rw [hU], by rw [hU]; exact hPc, va_K.moved hW.alike F.2.2.1, hDc.weaken (fun _ _ _ _ => trivial), F.2.2.2.1.moved hW, by rw [hU]; exact hE.moved hW.alike⟩⟩ rfl hn hsz hst (lv_room hrest) hdg hf) hH.2.2 (fun q _ h => hFc q h) hFc (fun u t H1 locs1 ht hvm hw hB hz1 hk1 hS => ?_)
  obtain ⟨hP1, -, hD1⟩ := hB
  rw [ht] at hP1
  obtain ⟨j1, j2⟩ := joinM hH.1 hH.2.1 hk1 hFc hP1 hD1
  exact kk u H1 locs1 ⟨j1, j2, hS⟩
theorem callVR (F : Fx G p s m args meth c cc nL Ts own A) (hM : MR l y Wc rmc (.ref b0 :: As) G wsc r) (hg : GoodIn Ts (wsV own index C y Wc)) (hwc : Wc = Cond.code y bytes maxL ret :: Wc') (hd : y.cls = C ∧ y.cls ≠ "java/lang/invoke/MethodHandle" ∧ y.cls ≠ "java/lang/invoke/VarHandle" ∧ (parseMethodDescriptor y.desc).map (fun d => d.parameters.length) = some n) (hR : rmc.frames + 1 ≤ R.frames ∧ 8 + (maxL + 11) + rmc.locals ≤ R.locals)
    (a b : va_W) (hH : HH G A s w0 H locs) (hw : w0 = a ++ wsc ++ b) (hrec : ∃ (i ci : Nat) (fs : List Value) (q : vw_C), wsc[i]? = some (b0, .inr (ci, fs)) ∧ vwCl[ci]? = some q ∧ q.1 = C) (hn : As.length = n) (hsz : ls.size = nL) (hrest : (rest.map fun v => v.category).sum ≤ 8) (hdg : decode cc pc = .ok (.invokevirtual index, 3)) (hf : cells + rmc.cells ≤ R.cells ∧ slots + rmc.slots ≤ R.slots) (hst : st0 = As.reverse ++ .ref b0 :: rest)
    (kk : ∀ (H1 : Heap) (locs1 : List Loc), HH G A s w0 H1 locs1 → W p l e R s m args below meth c H1 locs1 (cells + rmc.cells) (slots + rmc.slots) Q (F0 m (pc + 3) ls (.ref r :: rest))) :
    W p l e R s m args below meth c H locs cells slots Q (F0 m pc ls st0) := by
  subst hw
  have hPc := midP hH.1
  have hDc := midD hH.2.1
  have hFc := freeM hH.2.1 hH.2.2 F.2.2.2.2.2
  have hE : EVh (va_A wsc H.size) s H := (F.2.2.2.2.1.kept hH.2.2.2.1).narrow hFc
  obtain ⟨i, ci, fs, q, hr1, hr2, hr3⟩ := hrec
  subst hr3
  refine va_callr (va_runV (As := As) (rest := rest) F.1 (hM H.size) (cwV n F.1.2.2.2.2 hg hwc rfl rfl hd hR) ⟨BP.blind, va_recv F.2.2.1 hPc hr2 hr1, fun U hU hW => ⟨rfl, by rw [hU], by rw [hU]; exact hPc, va_K.moved hW.alike F.2.2.1, hDc.weaken (fun _ _ _ _ => trivial), F.2.2.2.1.moved hW, by rw [hU]; exact hE.moved hW.alike⟩⟩ rfl hn hsz hst (lv_room hrest) hdg hf) hH.2.2 (fun q _ h => hFc q h) hFc (fun u r9 t H1 locs1 ht hvm hw hB hz1 hk1 hS => ?_)
  obtain ⟨hr9, hP1, -, hD1⟩ := hB
  subst hr9
  rw [ht] at hP1
  obtain ⟨j1, j2⟩ := joinM hH.1 hH.2.1 hk1 hFc hP1 hD1
  exact kk H1 locs1 ⟨j1, j2, hS⟩
theorem callSI (F : Fx G p s m args meth c cc nL Ts own A) (hM : MI l y Wc rmc As G wsc wsc' ans) (hg : GoodIn Ts (va_wsS own index y Wc)) (hwc : Wc = Cond.code y bytes maxL ret :: Wc') (hd : y.cls = own ∧ y.cls ≠ "java/lang/invoke/MethodHandle" ∧ y.cls ≠ "java/lang/invoke/VarHandle" ∧ (parseMethodDescriptor y.desc).map (fun d => d.parameters.length) = some n) (hR : rmc.frames + 1 ≤ R.frames ∧ 8 + (maxL + 11) + rmc.locals ≤ R.locals)
    (a b : va_W) (hH : HH G A s w0 H locs) (hw : w0 = a ++ wsc ++ b) (hn : As.length = n) (hsz : ls.size = nL) (hrest : (rest.map fun v => v.category).sum ≤ 8) (hdg : decode cc pc = .ok (.invokestatic index, 3)) (hf : cells + rmc.cells ≤ R.cells ∧ slots + rmc.slots ≤ R.slots) (hst : st0 = As.reverse ++ rest)
    (kk : ∀ (u : Nat → Nat) (H1 : Heap) (locs1 : List Loc), HH G A s (a ++ wsc' u ++ b) H1 locs1 → W p l e R s m args below meth c H1 locs1 (cells + rmc.cells) (slots + rmc.slots) Q (F0 m (pc + 3) ls (.int ans :: rest))) :
    W p l e R s m args below meth c H locs cells slots Q (F0 m pc ls st0) := by
  subst hw
  have hPc := midP hH.1
  have hDc := midD hH.2.1
  have hFc := freeM hH.2.1 hH.2.2 F.2.2.2.2.2
  have hE : EVh (va_A wsc H.size) s H := (F.2.2.2.2.1.kept hH.2.2.2.1).narrow hFc
  have hg' : GoodIn Ts (wsS own index y Wc) := by
    have h0 : wsS own index y Wc = va_wsS own index y Wc := by unfold wsS va_wsS; rw [hd.1]
    rw [h0]; exact hg
  refine va_calli (va_runS (As := As) (rest := rest) F.1 (hM H.size) (cwS n F.1.2.2.2.2 hg' hwc rfl rfl hd hR) ⟨BP.blind, fun U hU hW => ⟨rfl, by rw [hU], by rw [hU]; exact hPc, va_K.moved hW.alike F.2.2.1, hDc.weaken (fun _ _ _ _ => trivial), F.2.2.2.1.moved hW, by rw [hU]; exact hE.moved hW.alike⟩⟩ rfl hn hsz hst (lv_room hrest) hdg hf) hH.2.2 (fun q _ h => hFc q h) hFc (fun r u t H1 locs1 ht hvm hw hB hz1 hk1 hS => ?_)
  subst hw
  obtain ⟨hP1, -, hD1⟩ := hB
  rw [ht] at hP1
  obtain ⟨j1, j2⟩ := joinM hH.1 hH.2.1 hk1 hFc hP1 hD1
  exact kk u H1 locs1 ⟨j1, j2, hS⟩
theorem callSV (F : Fx G p s m args meth c cc nL Ts own A) (hM : MV l y Wc rmc As G wsc wsc') (hg : GoodIn Ts (va_wsS own index y Wc)) (hwc : Wc = Cond.code y bytes maxL ret :: Wc') (hd : y.cls = own ∧ y.cls ≠ "java/lang/invoke/MethodHandle" ∧ y.cls ≠ "java/lang/invoke/VarHandle" ∧ (parseMethodDescriptor y.desc).map (fun d => d.parameters.length) = some n) (hR : rmc.frames + 1 ≤ R.frames ∧ 8 + (maxL + 11) + rmc.locals ≤ R.locals)
    (a b : va_W) (hH : HH G A s w0 H locs) (hw : w0 = a ++ wsc ++ b) (hn : As.length = n) (hsz : ls.size = nL) (hrest : (rest.map fun v => v.category).sum ≤ 8) (hdg : decode cc pc = .ok (.invokestatic index, 3)) (hf : cells + rmc.cells ≤ R.cells ∧ slots + rmc.slots ≤ R.slots) (hst : st0 = As.reverse ++ rest)
    (kk : ∀ (u : Nat → Nat) (H1 : Heap) (locs1 : List Loc), HH G A s (a ++ wsc' u ++ b) H1 locs1 → W p l e R s m args below meth c H1 locs1 (cells + rmc.cells) (slots + rmc.slots) Q (F0 m (pc + 3) ls rest)) :
    W p l e R s m args below meth c H locs cells slots Q (F0 m pc ls st0) := by
  subst hw
  have hPc := midP hH.1
  have hDc := midD hH.2.1
  have hFc := freeM hH.2.1 hH.2.2 F.2.2.2.2.2
  have hE : EVh (va_A wsc H.size) s H := (F.2.2.2.2.1.kept hH.2.2.2.1).narrow hFc
  have hg' : GoodIn Ts (wsS own index y Wc) := by
    have h0 : wsS own index y Wc = va_wsS own index y Wc := by unfold wsS va_wsS; rw [hd.1]
    rw [h0]; exact hg
  refine va_callv (va_runS (As := As) (rest := rest) F.1 (hM H.size) (cwS n F.1.2.2.2.2 hg' hwc rfl rfl hd hR) ⟨BP.blind, fun U hU hW => ⟨rfl, by rw [hU], by rw [hU]; exact hPc, va_K.moved hW.alike F.2.2.1, hDc.weaken (fun _ _ _ _ => trivial), F.2.2.2.1.moved hW, by rw [hU]; exact hE.moved hW.alike⟩⟩ rfl hn hsz hst (lv_room hrest) hdg hf) hH.2.2 (fun q _ h => hFc q h) hFc (fun u t H1 locs1 ht hvm hw hB hz1 hk1 hS => ?_)
  obtain ⟨hP1, -, hD1⟩ := hB
  rw [ht] at hP1
  obtain ⟨j1, j2⟩ := joinM hH.1 hH.2.1 hk1 hFc hP1 hD1
  exact kk u H1 locs1 ⟨j1, j2, hS⟩
theorem callIV (F : Fx G p s m args meth c cc nL Ts own A) (hM : MV l y Wc rmc (.ref b0 :: As) G wsc wsc') (hg : GoodIn Ts Wc) (hwc : Wc = Cond.code y bytes maxL none :: Wc') (hini : Cond.initialized y.cls ∈ Ts) (hli : Cond.methodLink own index y ∈ Ts) (hinst : Cond.instanceMethod y ∈ Ts) (hy1 : y.name = "<init>") (hd : y.cls ≠ "java/lang/invoke/MethodHandle" ∧ y.cls ≠ "java/lang/invoke/VarHandle" ∧ (parseMethodDescriptor y.desc).map (fun d => d.parameters.length) = some n) (hR : rmc.frames + 1 ≤ R.frames ∧ 8 + (maxL + 11) + rmc.locals ≤ R.locals)
    (a b : va_W) (hH : HH G A s w0 H locs) (hw : w0 = a ++ wsc ++ b) (hn : As.length = n) (hsz : ls.size = nL) (hrest : (rest.map fun v => v.category).sum ≤ 8) (hdg : decode cc pc = .ok (.invokespecial index, 3)) (hf : cells + rmc.cells ≤ R.cells ∧ slots + rmc.slots ≤ R.slots) (hst : st0 = As.reverse ++ .ref b0 :: rest)
    (kk : ∀ (u : Nat → Nat) (H1 : Heap) (locs1 : List Loc), HH G A s (a ++ wsc' u ++ b) H1 locs1 → W p l e R s m args below meth c H1 locs1 (cells + rmc.cells) (slots + rmc.slots) Q (F0 m (pc + 3) ls rest)) :
    W p l e R s m args below meth c H locs cells slots Q (F0 m pc ls st0) := by
  subst hw
  have hPc := midP hH.1
  have hDc := midD hH.2.1
  have hFc := freeM hH.2.1 hH.2.2 F.2.2.2.2.2
  have hE : EVh (va_A wsc H.size) s H := (F.2.2.2.2.1.kept hH.2.2.2.1).narrow hFc
  have hts := F.1.2.2.2.2
  refine va_callv (va_runI (As := As) (rest := rest) F.1 (hM H.size) (cwI n hts hg hwc rfl rfl (hts _ hini) (hts _ hli) (hts _ hinst) hy1 hd hR) ⟨BP.blind, fun U hU hW => ⟨rfl, by rw [hU], by rw [hU]; exact hPc, va_K.moved hW.alike F.2.2.1, hDc.weaken (fun _ _ _ _ => trivial), F.2.2.2.1.moved hW, by rw [hU]; exact hE.moved hW.alike⟩⟩ rfl hn hsz hst (lv_room hrest) hdg hf) hH.2.2 (fun q _ h => hFc q h) hFc (fun u t H1 locs1 ht hvm hw hB hz1 hk1 hS => ?_)
  obtain ⟨hP1, -, hD1⟩ := hB
  rw [ht] at hP1
  obtain ⟨j1, j2⟩ := joinM hH.1 hH.2.1 hk1 hFc hP1 hD1
  exact kk u H1 locs1 ⟨j1, j2, hS⟩
theorem callF9 {mc ms : Nat} {free AX : Nat → Prop} {px : Unit → Prop} {BX : String → Unit → State → Prop} (hr : vx_Run p l e R s m args below meth c H locs cells slots mc ms (F0 m pc ls st0) rest (fun _ _ _ => False) (vx_X px BX AX) free) (hS : va_S A s.heap H locs) (hf : ∀ q, free q → A q) (hAX : ∀ q, q < H.size → AX q → A q)
    (kx : ∀ (E : String) (ce : Cell) (q9 : Addr) (u : Unit) (t : State) (H1 : Heap) (locs1 : List Loc), t.heap = H1 → s.vm.Alike t.vm → px u → BX E u t → H.size ≤ H1.size → (∀ q : Nat, q < H.size → ¬ AX q → H1[q]? = H[q]?) → va_S A s.heap H1 locs1 → H1[q9]? = some ce → ce.vm = .none → s.vm.findClass E = some ce.cls → vx_W p l e R s m args below meth c H1 locs1 (cells + mc) (slots + ms) Q (F0 m pc ls rest) q9) : W p l e R s m args below meth c H locs cells slots Q (F0 m pc ls st0) := by
  intro T hT X
  rcases hr T hT X with ⟨v, st₀, t, T', L, h0, X', hL, e1, e2, hF, st⟩ | ⟨q, st₀, t, T', L, E, ce, h0, X', hL, e1, e2, ⟨u, hp, hb, hF⟩, hce, hcv, hcl, st⟩
  · exact hF.elim
  · obtain ⟨k1, k2, k3⟩ := vx_keep h0 e1 hS hAX hf hL hF
    obtain ⟨t2, a1, b1⟩ := kx E ce q u t T'.heap (locs ++ L) e1.symm (by rw [← e2]; exact X'.warmed.alike) hp hb k1 k2 k3 (by rw [e1]; exact hce) hcv hcl T' rfl X'
    exact ⟨t2, st.trans a1, b1⟩
theorem callVX (F : Fx G p s m args meth c cc nL Ts own A) (hM : MX l y Wc rmc (.ref b0 :: As) G wsc E) (hg : GoodIn Ts (wsV own index C y Wc)) (hwc : Wc = Cond.code y bytes maxL ret :: Wc') (hd : y.cls = C ∧ y.cls ≠ "java/lang/invoke/MethodHandle" ∧ y.cls ≠ "java/lang/invoke/VarHandle" ∧ (parseMethodDescriptor y.desc).map (fun d => d.parameters.length) = some n) (hR : rmc.frames + 1 ≤ R.frames ∧ 8 + (maxL + 11) + rmc.locals ≤ R.locals)
    (a b : va_W) (hH : HH G A s w0 H locs) (hw : w0 = a ++ wsc ++ b) (hrec : ∃ (i ci : Nat) (fs : List Value) (q : vw_C), wsc[i]? = some (b0, .inr (ci, fs)) ∧ vwCl[ci]? = some q ∧ q.1 = C) (hn : As.length = n) (hsz : ls.size = nL) (hrest : (rest.map fun v => v.category).sum ≤ 8) (hdg : decode cc pc = .ok (.invokevirtual index, 3)) (hf : cells + rmc.cells ≤ R.cells ∧ slots + rmc.slots ≤ R.slots) (hst : st0 = As.reverse ++ .ref b0 :: rest)
    (kx : ∀ (ce : Cell) (q9 : Addr) (H1 : Heap) (locs1 : List Loc), HH G A s w0 H1 locs1 → H1[q9]? = some ce → ce.vm = .none → s.vm.findClass E = some ce.cls → vx_W p l e R s m args below meth c H1 locs1 (cells + rmc.cells) (slots + rmc.slots) Q (F0 m pc ls rest) q9) :
    W p l e R s m args below meth c H locs cells slots Q (F0 m pc ls st0) := by
  subst hw
  have hPc := midP hH.1
  have hDc := midD hH.2.1
  have hFc := freeM hH.2.1 hH.2.2 F.2.2.2.2.2
  have hE : EVh (va_A wsc H.size) s H := (F.2.2.2.2.1.kept hH.2.2.2.1).narrow hFc
  obtain ⟨i, ci, fs, q, hr1, hr2, hr3⟩ := hrec
  subst hr3
  refine callF9 (vx_runV (As := As) (rest := rest) F.1 (hM H.size) (cwV n F.1.2.2.2.2 hg hwc rfl rfl hd hR) ⟨BP.blind, va_recv F.2.2.1 hPc hr2 hr1, fun U hU hW => ⟨rfl, by rw [hU], by rw [hU]; exact hPc, va_K.moved hW.alike F.2.2.1, hDc.weaken (fun _ _ _ _ => trivial), F.2.2.2.1.moved hW, by rw [hU]; exact hE.moved hW.alike⟩⟩ rfl hn hsz hst (lv_room hrest) hdg hf) hH.2.2 hFc (fun q _ h => hFc q h) (fun E' ce q9 u t H1 locs1 ht hvm hw hB hz1 hk1 hS h1 h2 h3 => ?_)
  obtain ⟨rfl, hP1, -, hD1⟩ := hB
  rw [ht] at hP1
  obtain ⟨j1, j2⟩ := joinM hH.1 hH.2.1 hk1 hFc hP1 hD1
  exact kx ce q9 H1 locs1 ⟨j1, j2, hS⟩ h1 h2 h3
theorem callSX (F : Fx G p s m args meth c cc nL Ts own A) (hM : MX l y Wc rmc As G wsc E) (hg : GoodIn Ts (va_wsS own index y Wc)) (hwc : Wc = Cond.code y bytes maxL ret :: Wc') (hd : y.cls = own ∧ y.cls ≠ "java/lang/invoke/MethodHandle" ∧ y.cls ≠ "java/lang/invoke/VarHandle" ∧ (parseMethodDescriptor y.desc).map (fun d => d.parameters.length) = some n) (hR : rmc.frames + 1 ≤ R.frames ∧ 8 + (maxL + 11) + rmc.locals ≤ R.locals)
    (a b : va_W) (hH : HH G A s w0 H locs) (hw : w0 = a ++ wsc ++ b) (hn : As.length = n) (hsz : ls.size = nL) (hrest : (rest.map fun v => v.category).sum ≤ 8) (hdg : decode cc pc = .ok (.invokestatic index, 3)) (hf : cells + rmc.cells ≤ R.cells ∧ slots + rmc.slots ≤ R.slots) (hst : st0 = As.reverse ++ rest)
    (kx : ∀ (ce : Cell) (q9 : Addr) (H1 : Heap) (locs1 : List Loc), HH G A s w0 H1 locs1 → H1[q9]? = some ce → ce.vm = .none → s.vm.findClass E = some ce.cls → vx_W p l e R s m args below meth c H1 locs1 (cells + rmc.cells) (slots + rmc.slots) Q (F0 m pc ls rest) q9) :
    W p l e R s m args below meth c H locs cells slots Q (F0 m pc ls st0) := by
  subst hw
  have hPc := midP hH.1
  have hDc := midD hH.2.1
  have hFc := freeM hH.2.1 hH.2.2 F.2.2.2.2.2
  have hE : EVh (va_A wsc H.size) s H := (F.2.2.2.2.1.kept hH.2.2.2.1).narrow hFc
  have hg' : GoodIn Ts (wsS own index y Wc) := by
    have h0 : wsS own index y Wc = va_wsS own index y Wc := by unfold wsS va_wsS; rw [hd.1]
    rw [h0]; exact hg
  refine callF9 (vx_runS (As := As) (rest := rest) F.1 (hM H.size) (cwS n F.1.2.2.2.2 hg' hwc rfl rfl hd hR) ⟨BP.blind, fun U hU hW => ⟨rfl, by rw [hU], by rw [hU]; exact hPc, va_K.moved hW.alike F.2.2.1, hDc.weaken (fun _ _ _ _ => trivial), F.2.2.2.1.moved hW, by rw [hU]; exact hE.moved hW.alike⟩⟩ rfl hn hsz hst (lv_room hrest) hdg hf) hH.2.2 hFc (fun q _ h => hFc q h) (fun E' ce q9 u t H1 locs1 ht hvm hw hB hz1 hk1 hS h1 h2 h3 => ?_)
  obtain ⟨rfl, hP1, -, hD1⟩ := hB
  rw [ht] at hP1
  obtain ⟨j1, j2⟩ := joinM hH.1 hH.2.1 hk1 hFc hP1 hD1
  exact kx ce q9 H1 locs1 ⟨j1, j2, hS⟩ h1 h2 h3
/-- what was thrown goes on -/
theorem outX (F : Fx G p s m args meth c cc nL Ts own A) (hout : ∀ x ∈ c.exceptionTable.toList, False) {ce : Cell} (hH : HH G A s ws H locs) (hcell : H[q]? = some ce) (hv : ce.vm = .none) (hcl : s.vm.findClass E = some ce.cls) (hc : cells ≤ rm.cells) (hs : slots ≤ rm.slots) :
    vx_W p l e R s m args below meth c H locs cells slots (EnX G A below s args rm ws E) (F0 m pc ls rest) q :=
  vx_out (fun x hx => (hout x hx).elim) F.2.1 hcell hv hcl (fun t ht hvm => ⟨(), trivial, ⟨rfl, by rw [ht]; exact hH.1, va_K.moved hvm F.2.2.1, hH.2.1⟩, hH.2.2.F ht⟩) hH.2.2.2.2 hc hs
end C9
section D9
variable {p : Program} {l : Launch} {e : Env} {R rm : Room} {s : State} {m : MethodId} {args : Array Value} {below : List Frame} {meth : Method} {c : Code} {H : Heap} {locs : List Loc} {cells slots : Nat} {Q : State → Prop}
variable {cc : ByteArray} {pc nL a : Nat} {ls : Array Slot} {rest st0 : List Value} {G : Gx} {Ts : List Cond} {own : String} {A : Nat → Prop} {ws w0 w1 : va_W}
theorem rget (F : Fx G p s m args meth c cc nL Ts own A) {ref C : String} {T : u_T} {N ci index : Nat} (hin : ∀ w ∈ u_ws C T N, w ∈ Ts) (hH : HH G A s w0 H locs) (q0 : Nat) {fs : List Value} (he : w0[q0]? = some (a, .inr (ci, fs))) (hc : vwCl[ci]? = some (C, T, N)) (k : Nat) (hk : k < N) (hlink : Cond.fieldLink own index ref (T k).2.1 (T k).2.2.1 ∈ Ts) (hsame : ∀ x, s.fieldFound? (T k).1 (T k).2.1 (T k).2.2.1 = some x → s.fieldFound? ref (T k).2.1 (T k).2.2.1 = some x) {v : Value} (hv : fs[k]? = some v) (hdg : decode cc pc = .ok (.getfield index, 3))
    (kk : W p l e R s m args below meth c H locs cells slots Q (F0 m (pc + 3) ls (v :: rest))) : W p l e R s m args below meth c H locs cells slots Q (F0 m pc ls (.ref a :: rest)) :=
  va_get F.1.1 F.1.2.1 F.1.2.2.2.2 hin F.1.2.2.2.1 F.2.2.1 hH.1 q0 he hc k hk (F.1.2.2.2.2 _ hlink) hsame hv hdg kk
theorem rgetN (F : Fx G p s m args meth c cc nL Ts own A) {ref C host : String} {T : u_T} {N ci index : Nat} (hin : ∀ w ∈ u_ws C T N, w ∈ Ts) (hH : HH G A s w0 H locs) (q0 : Nat) {fs : List Value} (he : w0[q0]? = some (a, .inr (ci, fs))) (hc : vwCl[ci]? = some (C, T, N)) (k : Nat) (hk : k < N) (hlink : Cond.fieldLinkNest own index ref (T k).2.1 (T k).2.2.1 host ∈ evL) (hsame : ∀ x, s.fieldFound? (T k).1 (T k).2.1 (T k).2.2.1 = some x → s.fieldFound? ref (T k).2.1 (T k).2.2.1 = some x) {v : Value} (hv : fs[k]? = some v) (hdg : decode cc pc = .ok (.getfield index, 3))
    (kk : W p l e R s m args below meth c H locs cells slots Q (F0 m (pc + 3) ls (v :: rest))) : W p l e R s m args below meth c H locs cells slots Q (F0 m pc ls (.ref a :: rest)) :=
  va_getN F.1.1 F.1.2.1 F.1.2.2.2.2 hin F.1.2.2.2.1 F.2.2.1 hH.1 q0 he hc k hk (va_Nw.use rfl (F.2.2.2.1.1 _ hlink)) hsame hv hdg kk
theorem rput (F : Fx G p s m args meth c cc nL Ts own A) {ref C : String} {T : u_T} {N ci index : Nat} (hin : ∀ w ∈ u_ws C T N, w ∈ Ts) (ty0 : Nat → FieldType) (hty : ∀ k, k < N → parseFieldDescriptor (T k).2.2.1 = some (ty0 k)) (hnm : ∀ a, a < N → ∀ b, b < N → a ≠ b → (T a).2.1 ≠ (T b).2.1) (hH : HH G A s w0 H locs) (q0 : Nat) {fs : List Value} (he : w0[q0]? = some (a, .inr (ci, fs))) (hc : vwCl[ci]? = some (C, T, N)) (k : Nat) (hk : k < N) (hlink : Cond.fieldLink own index ref (T k).2.1 (T k).2.2.1 ∈ Ts) (hsame : ∀ x, s.fieldFound? (T k).1 (T k).2.1 (T k).2.2.1 = some x → s.fieldFound? ref (T k).2.1 (T k).2.2.1 = some x) (hfin : (T k).2.2.2 = false) {v : Value} (hn : narrow (ty0 k) v = v) (hfit : fits (ty0 k) v = true) (hl : k < fs.length) (hdg : decode cc pc = .ok (.putfield index, 3))
    (kk : ∀ (H1 : Heap) (locs1 : List Loc), HH G A s (w0.set q0 (a, .inr (ci, fs.set k v))) H1 locs1 → W p l e R s m args below meth c H1 locs1 cells slots Q (F0 m (pc + 3) ls rest)) : W p l e R s m args below meth c H locs cells slots Q (F0 m pc ls (v :: .ref a :: rest)) :=
  va_put F.1.1 F.1.2.1 F.1.2.2.2.2 hin ty0 hty hnm F.1.2.2.2.1 F.2.2.1 hH.1 hH.2.1 hH.2.2 q0 he hc k hk (F.1.2.2.2.2 _ hlink) hsame hfin (hty k hk) hn hfit hl hdg (fun H1 locs1 h1 h2 h3 => kk H1 locs1 ⟨h1, h2, h3⟩)
theorem rputN (F : Fx G p s m args meth c cc nL Ts own A) {ref C host : String} {T : u_T} {N ci index : Nat} (hin : ∀ w ∈ u_ws C T N, w ∈ Ts) (ty0 : Nat → FieldType) (hty : ∀ k, k < N → parseFieldDescriptor (T k).2.2.1 = some (ty0 k)) (hnm : ∀ a, a < N → ∀ b, b < N → a ≠ b → (T a).2.1 ≠ (T b).2.1) (hH : HH G A s w0 H locs) (q0 : Nat) {fs : List Value} (he : w0[q0]? = some (a, .inr (ci, fs))) (hc : vwCl[ci]? = some (C, T, N)) (k : Nat) (hk : k < N) (hlink : Cond.fieldLinkNest own index ref (T k).2.1 (T k).2.2.1 host ∈ evL) (hsame : ∀ x, s.fieldFound? (T k).1 (T k).2.1 (T k).2.2.1 = some x → s.fieldFound? ref (T k).2.1 (T k).2.2.1 = some x) (hfin : (T k).2.2.2 = false) {v : Value} (hn : narrow (ty0 k) v = v) (hfit : fits (ty0 k) v = true) (hl : k < fs.length) (hdg : decode cc pc = .ok (.putfield index, 3))
    (kk : ∀ (H1 : Heap) (locs1 : List Loc), HH G A s (w0.set q0 (a, .inr (ci, fs.set k v))) H1 locs1 → W p l e R s m args below meth c H1 locs1 cells slots Q (F0 m (pc + 3) ls rest)) : W p l e R s m args below meth c H locs cells slots Q (F0 m pc ls (v :: .ref a :: rest)) :=
  va_putN F.1.1 F.1.2.1 F.1.2.2.2.2 hin ty0 hty hnm F.1.2.2.2.1 F.2.2.1 hH.1 hH.2.1 hH.2.2 q0 he hc k hk (va_Nw.use rfl (F.2.2.2.1.1 _ hlink)) hsame hfin (hty k hk) hn hfit hl hdg (fun H1 locs1 h1 h2 h3 => kk H1 locs1 ⟨h1, h2, h3⟩)
theorem rputF (F : Fx G p s m args meth c cc nL Ts own A) {ref C : String} {T : u_T} {N ci index : Nat} (hin : ∀ w ∈ u_ws C T N, w ∈ Ts) (ty0 : Nat → FieldType) (hty : ∀ k, k < N → parseFieldDescriptor (T k).2.2.1 = some (ty0 k)) (hnm : ∀ a, a < N → ∀ b, b < N → a ≠ b → (T a).2.1 ≠ (T b).2.1) (hH : HH G A s w0 H locs) (q0 : Nat) {fs : List Value} (he : w0[q0]? = some (a, .inr (ci, fs))) (hc : vwCl[ci]? = some (C, T, N)) (k : Nat) (hk : k < N) (hlink : Cond.fieldLink own index ref (T k).2.1 (T k).2.2.1 ∈ Ts) (hsame : ∀ x, s.fieldFound? (T k).1 (T k).2.1 (T k).2.2.1 = some x → s.fieldFound? ref (T k).2.1 (T k).2.2.1 = some x) (hfin : (T k).2.2.2 = true) (hnm9 : meth.name = "<init>") (hdecl : (T k).1 = own) {v : Value} (hn : narrow (ty0 k) v = v) (hfit : fits (ty0 k) v = true) (hl : k < fs.length) (hdg : decode cc pc = .ok (.putfield index, 3))
    (kk : ∀ (H1 : Heap) (locs1 : List Loc), HH G A s (w0.set q0 (a, .inr (ci, fs.set k v))) H1 locs1 → W p l e R s m args below meth c H1 locs1 cells slots Q (F0 m (pc + 3) ls rest)) : W p l e R s m args below meth c H locs cells slots Q (F0 m pc ls (v :: .ref a :: rest)) :=
  va_putF F.1.1 F.1.2.1 F.1.2.2.2.2 hin ty0 hty hnm F.1.2.2.2.1 F.2.2.1 hH.1 hH.2.1 hH.2.2 q0 he hc k hk (F.1.2.2.2.2 _ hlink) hsame hfin hnm9 hdecl (hty k hk) hn hfit hl hdg (fun H1 locs1 h1 h2 h3 => kk H1 locs1 ⟨h1, h2, h3⟩)
theorem riald (F : Fx G p s m args meth c cc nL Ts own A) (hH : HH G A s w0 H locs) (q0 : Nat) {n : Nat} {f : Nat → Int32} (he : w0[q0]? = some (a, .inl (G.2 0, n, .inl f))) (k : Nat) {i : Int32} (hi : i = nI k) (hk : k < n) (hn : n < 2 ^ 31) (hdg : decode cc pc = .ok (.iaload, 1))
    (kk : W p l e R s m args below meth c H locs cells slots Q (F0 m (pc + 1) ls (.int (f k) :: rest))) : W p l e R s m args below meth c H locs cells slots Q (F0 m pc ls (.int i :: .ref a :: rest)) := by
  subst hi
  refine va_iald F.1.1 F.1.2.1 F.2.2.1 hH.1 q0 0 he rfl (vp_in_nI hk hn) hdg ?_
  rw [nI_clamp (by omega)]; exact kk
theorem rzald (F : Fx G p s m args meth c cc nL Ts own A) (hH : HH G A s w0 H locs) (q0 : Nat) {n : Nat} {f : Nat → Int32} (he : w0[q0]? = some (a, .inl (G.2 1, n, .inl f))) (k : Nat) {i : Int32} (hi : i = nI k) (hk : k < n) (hn : n < 2 ^ 31) (hdg : decode cc pc = .ok (.baload, 1))
    (kk : W p l e R s m args below meth c H locs cells slots Q (F0 m (pc + 1) ls (.int (f k) :: rest))) : W p l e R s m args below meth c H locs cells slots Q (F0 m pc ls (.int i :: .ref a :: rest)) := by
  subst hi
  refine va_zald F.1.1 F.1.2.1 F.2.2.1 hH.1 q0 1 he rfl (vp_in_nI hk hn) hdg ?_
  rw [nI_clamp (by omega)]; exact kk
theorem riast (F : Fx G p s m args meth c cc nL Ts own A) (hH : HH G A s w0 H locs) (q0 : Nat) {n : Nat} {f : Nat → Int32} (he : w0[q0]? = some (a, .inl (G.2 0, n, .inl f))) (k : Nat) {i x : Int32} (hi : i = nI k) (hk : k < n) (hn : n < 2 ^ 31) (hdg : decode cc pc = .ok (.iastore, 1))
    (kk : ∀ (H1 : Heap) (locs1 : List Loc), HH G A s (w0.set q0 (a, .inl (G.2 0, n, .inl (upd f k x)))) H1 locs1 → W p l e R s m args below meth c H1 locs1 cells slots Q (F0 m (pc + 1) ls rest)) : W p l e R s m args below meth c H locs cells slots Q (F0 m pc ls (.int x :: .int i :: .ref a :: rest)) := by
  subst hi
  refine va_iast F.1.1 F.1.2.1 F.2.2.1 hH.1 hH.2.1 hH.2.2 q0 0 he rfl (vp_in_nI hk hn) hdg (fun H1 locs1 h1 h2 h3 => kk H1 locs1 ?_)
  rw [nI_clamp (by omega)] at h1 h2
  exact ⟨h1, h2, h3⟩
theorem rzast (F : Fx G p s m args meth c cc nL Ts own A) (hH : HH G A s w0 H locs) (q0 : Nat) {n : Nat} {f : Nat → Int32} (he : w0[q0]? = some (a, .inl (G.2 1, n, .inl f))) (k : Nat) {i x : Int32} (hi : i = nI k) (hk : k < n) (hn : n < 2 ^ 31) (hx : vp_nar .boolean x = x) (hdg : decode cc pc = .ok (.bastore, 1))
    (kk : ∀ (H1 : Heap) (locs1 : List Loc), HH G A s (w0.set q0 (a, .inl (G.2 1, n, .inl (upd f k x)))) H1 locs1 → W p l e R s m args below meth c H1 locs1 cells slots Q (F0 m (pc + 1) ls rest)) : W p l e R s m args below meth c H locs cells slots Q (F0 m pc ls (.int x :: .int i :: .ref a :: rest)) := by
  subst hi
  refine va_zast F.1.1 F.1.2.1 F.2.2.1 hH.1 hH.2.1 hH.2.2 q0 1 he rfl (vp_in_nI hk hn) hdg (fun H1 locs1 h1 h2 h3 => kk H1 locs1 ?_)
  rw [nI_clamp (by omega), hx] at h1 h2
  exact ⟨h1, h2, h3⟩
theorem raald (F : Fx G p s m args meth c cc nL Ts own A) (hH : HH G A s w0 H locs) (q0 t0 : Nat) {cA : ClassId} {C : String} {n : Nat} {f : Nat → Option Nat} (he : w0[q0]? = some (a, .inl (cA, n, .inr (.inr (.inr (.inr f)))))) (ht : (tyL G)[t0]? = some (cA, .object C)) (k : Nat) {i : Int32} (hi : i = nI k) (hk : k < n) (hn : n < 2 ^ 31) {v : Value} (hv : va_rf (f k) = v) (hdg : decode cc pc = .ok (.aaload, 1))
    (kk : W p l e R s m args below meth c H locs cells slots Q (F0 m (pc + 1) ls (v :: rest))) : W p l e R s m args below meth c H locs cells slots Q (F0 m pc ls (.int i :: .ref a :: rest)) := by
  subst hi
  subst hv
  refine va_aldq F.1.1 F.1.2.1 F.2.2.1 hH.1 q0 t0 he ht (vp_in_nI hk hn) hdg ?_
  rw [nI_clamp (by omega)]; exact kk
theorem raast (F : Fx G p s m args meth c cc nL Ts own A) (hH : HH G A s w0 H locs) (q0 t0 qk ci : Nat) {cA : ClassId} {r : vw_C} {n v : Nat} {vs : List Value} {f : Nat → Option Nat} (he : w0[q0]? = some (a, .inl (cA, n, .inr (.inr (.inr (.inr f)))))) (ht : (tyL G)[t0]? = some (cA, .object r.1)) (hv : w0[qk]? = some (v, .inr (ci, vs))) (hc : vwCl[ci]? = some r) (k : Nat) {i : Int32} (hi : i = nI k) (hk : k < n) (hn : n < 2 ^ 31) (hdg : decode cc pc = .ok (.aastore, 1))
    (kk : ∀ (H1 : Heap) (locs1 : List Loc), HH G A s (w0.set q0 (a, .inl (cA, n, .inr (.inr (.inr (.inr (va_up f k (some v)))))))) H1 locs1 → W p l e R s m args below meth c H1 locs1 cells slots Q (F0 m (pc + 1) ls rest)) : W p l e R s m args below meth c H locs cells slots Q (F0 m pc ls (.ref v :: .int i :: .ref a :: rest)) := by
  subst hi
  refine va_astq F.1.1 F.1.2.1 F.2.2.1 hH.1 hH.2.1 hH.2.2 q0 t0 qk ci he ht hv hc (vp_in_nI hk hn) hdg (fun H1 locs1 h1 h2 h3 => kk H1 locs1 ?_)
  rw [nI_clamp (by omega)] at h1 h2
  exact ⟨h1, h2, h3⟩
theorem ralen (F : Fx G p s m args meth c cc nL Ts own A) (hH : HH G A s w0 H locs) (q0 t0 : Nat) {cA : ClassId} {x : vp_A} (he : w0[q0]? = some (a, .inl (cA, x))) {ty : FieldType} (ht : (tyL G)[t0]? = some (cA, ty)) {v : Int32} (hv : Int32.ofNat x.1 = v) (hdg : decode cc pc = .ok (.arraylength, 1))
    (kk : W p l e R s m args below meth c H locs cells slots Q (F0 m (pc + 1) ls (.int v :: rest))) : W p l e R s m args below meth c H locs cells slots Q (F0 m pc ls (.ref a :: rest)) :=
  va_alen F.1.1 F.1.2.1 F.2.2.1 hH.1 q0 t0 he ht hv hdg kk
theorem rlast (F : Fx G p s m args meth c cc nL Ts own A) (hH : HH G A s w0 H locs) (q0 : Nat) {n : Nat} {f : Nat → Int64} (he : w0[q0]? = some (a, .inl (G.2 4, n, .inr (.inl f)))) (k : Nat) {i : Int32} {x : Int64} (hi : i = nI k) (hk : k < n) (hn : n < 2 ^ 31) (hdg : decode cc pc = .ok (.lastore, 1))
    (kk : ∀ (H1 : Heap) (locs1 : List Loc), HH G A s (w0.set q0 (a, .inl (G.2 4, n, .inr (.inl (vp_updL f k x))))) H1 locs1 → W p l e R s m args below meth c H1 locs1 cells slots Q (F0 m (pc + 1) ls rest)) : W p l e R s m args below meth c H locs cells slots Q (F0 m pc ls (.long x :: .int i :: .ref a :: rest)) := by
  subst hi
  refine va_last F.1.1 F.1.2.1 F.2.2.1 hH.1 hH.2.1 hH.2.2 q0 4 he rfl (vp_in_nI hk hn) hdg (fun H1 locs1 h1 h2 h3 => kk H1 locs1 ?_)
  rw [nI_clamp (by omega)] at h1 h2
  exact ⟨h1, h2, h3⟩
theorem rlald (F : Fx G p s m args meth c cc nL Ts own A) (hH : HH G A s w0 H locs) (q0 : Nat) {n : Nat} {f : Nat → Int64} (he : w0[q0]? = some (a, .inl (G.2 4, n, .inr (.inl f)))) (k : Nat) {i : Int32} (hi : i = nI k) (hk : k < n) (hn : n < 2 ^ 31) (hdg : decode cc pc = .ok (.laload, 1))
    (kk : W p l e R s m args below meth c H locs cells slots Q (F0 m (pc + 1) ls (.long (f k) :: rest))) : W p l e R s m args below meth c H locs cells slots Q (F0 m pc ls (.int i :: .ref a :: rest)) := by
  subst hi
  refine va_lald F.1.1 F.1.2.1 F.2.2.1 hH.1 q0 4 he rfl (vp_in_nI hk hn) hdg ?_
  rw [nI_clamp (by omega)]; exact kk
theorem tyL_uni {G : Gx} {U : State} {t0 : Nat} {ty : FieldType} {cA cB : ClassId} (hK : va_K G.1 vwCl (tyL G) U) (ht : (tyL G)[t0]? = some (cB, ty)) (h : va_RA U cA ty) : cA = cB := by
  have h1 := (hK.2 t0 _ ht).2
  cases ty with
  | object C =>
    obtain ⟨_, _, -, -, -, h2⟩ := h
    obtain ⟨_, _, -, -, -, h3⟩ := h1
    exact Option.some.inj (h2.symm.trans h3)
  | _ => exact Option.some.inj (Eq.trans (Eq.symm h) h1)
theorem rnewa (F : Fx G p s m args meth c cc nL Ts own A) {atype : ArrayType} (harr : Cond.arrayClass (newarray.typeOf atype) ∈ Ts) (t0 : Nat) {cB : ClassId} {ty : FieldType} (hty : newarray.typeOf atype = ty) (ht : (tyL G)[t0]? = some (cB, ty)) (hH : HH G A s w0 H locs) {n : Int32} {N' : Nat} {a0 : vp_A} (ha : ∀ cA : ClassId, vp_cell cA a0 = arrV cA N' (fun _ => defaultValue ty)) (hn : ¬ n < 0) (hN : n.toNatClampNeg = N') (hbytes : N' * componentBytes ty ≤ 536870912) (hcells : cells + 1 ≤ R.cells) (hslots : slots + N' ≤ R.slots) (hdg : decode cc pc = .ok (.newarray atype, 2))
    (kk : ∀ (q : Nat) (H1 : Heap), HH G A s (w0 ++ [(q, .inl (cB, a0))]) H1 locs → W p l e R s m args below meth c H1 locs (cells + 1) (slots + N') Q (F0 m (pc + 2) ls (.ref q :: rest))) : W p l e R s m args below meth c H locs cells slots Q (F0 m pc ls (.int n :: rest)) := by
  refine va_newa F.1.1 F.1.2.1 (F.1.2.2.2.2 _ harr) hty F.2.2.1 hH.1 hH.2.1 hH.2.2 F.2.2.2.2.2 ha hn hN hbytes hcells hslots hdg (fun q cA H1 hK hP hD hS => ?_)
  have hx : (tyL G ++ [(cA, ty)])[(tyL G).length]? = some (cA, ty) := by rw [List.getElem?_append_right (Nat.le_refl _), Nat.sub_self]; rfl
  have he := tyL_uni F.2.2.1 ht (hK.2 _ _ hx).2
  subst he
  exact kk q H1 ⟨hP, hD, hS⟩
theorem rnewq (F : Fx G p s m args meth c cc nL Ts own A) {C : String} {index : Nat} (hcl : Cond.classLink own index C ∈ Ts) (hover : va_AO C s) (t0 : Nat) {cB : ClassId} (ht : (tyL G)[t0]? = some (cB, .object C)) (hH : HH G A s w0 H locs) {n : Int32} {N' : Nat} (hn : ¬ n < 0) (hN : n.toNatClampNeg = N') (hbytes : N' * 4 ≤ 536870912) (hcells : cells + 1 ≤ R.cells) (hslots : slots + N' ≤ R.slots) (hdg : decode cc pc = .ok (.anewarray index, 3))
    (kk : ∀ (q : Nat) (H1 : Heap), HH G A s (w0 ++ [(q, .inl (cB, N', .inr (.inr (.inr (.inr (fun _ => none))))))]) H1 locs → W p l e R s m args below meth c H1 locs (cells + 1) (slots + N') Q (F0 m (pc + 3) ls (.ref q :: rest))) : W p l e R s m args below meth c H locs cells slots Q (F0 m pc ls (.int n :: rest)) := by
  refine va_newq F.1.1 F.1.2.1 F.1.2.2.2.1 (F.1.2.2.2.2 _ hcl) hover F.2.2.1 hH.1 hH.2.1 hH.2.2 F.2.2.2.2.2 hn hN hbytes hcells hslots hdg (fun q cA H1 hK hP hD hS => ?_)
  have hx : (tyL G ++ [(cA, .object C)])[(tyL G).length]? = some (cA, .object C) := by rw [List.getElem?_append_right (Nat.le_refl _), Nat.sub_self]; rfl
  have he := tyL_uni F.2.2.1 ht (hK.2 _ _ hx).2
  subst he
  exact kk q H1 ⟨hP, hD, hS⟩
theorem rnew (F : Fx G p s m args meth c cc nL Ts own A) {C : String} {T : u_T} {N ci index : Nat} (hin : ∀ w ∈ u_ws C T N, w ∈ Ts) (ty : Nat → FieldType) (hty : ∀ k, k < N → parseFieldDescriptor (T k).2.2.1 = some (ty k)) (hcl : Cond.classLink own index C ∈ Ts) (hinst : Cond.instantiable C N ∈ Ts) (hini : Cond.initialized C ∈ Ts) (hH : HH G A s w0 H locs) (hc : vwCl[ci]? = some (C, T, N)) {fs : List Value} (hfs : ∀ j, j < N → defaultValue (ty j) = vp_V fs j) (hcells : cells + 1 ≤ R.cells) (hslots : slots + N ≤ R.slots) (hdg : decode cc pc = .ok (.new index, 3))
    (kk : ∀ (q : Nat) (H1 : Heap), HH G A s (w0 ++ [(q, .inr (ci, fs))]) H1 locs → W p l e R s m args below meth c H1 locs (cells + 1) (slots + N) Q (F0 m (pc + 3) ls (.ref q :: rest))) : W p l e R s m args below meth c H locs cells slots Q (F0 m pc ls rest) :=
  va_new F.1.1 F.1.2.1 F.1.2.2.2.2 hin ty hty F.1.2.2.2.1 (F.1.2.2.2.2 _ hcl) (F.1.2.2.2.2 _ hinst) (F.1.2.2.2.2 _ hini) F.2.2.1 hH.1 hH.2.1 hH.2.2 F.2.2.2.2.2 hc hfs hcells hslots hdg (fun q H1 h1 h2 h3 => kk q H1 ⟨h1, h2, h3⟩)
end D9
section C0
variable {p : Program} {l : Launch} {e : Env} {R rm : Room} {s : State} {m : MethodId} {args : Array Value} {below : List Frame} {meth : Method} {c : Code} {H : Heap} {locs : List Loc} {cells slots : Nat} {Q : State → Prop}
variable {cc : ByteArray} {pc nL : Nat} {ls : Array Slot} {rest st0 : List Value} {G : Gx} {Ts : List Cond} {own : String} {A : Nat → Prop} {w0 : va_W} {E : String}
variable {y : MethodName} {bytes : ByteArray} {maxL n index : Nat} {ret : Option FieldType} {Wc Wc' : List Cond} {rmc : Room} {b0 : Nat} {As : List Value} {wsc' : (Nat → Nat) → va_W} {ans : Int32} {C : String} {r : Nat}
theorem callVI0 (F : Fx G p s m args meth c cc nL Ts own A) (hM : MI l y Wc rmc (.ref b0 :: As) G w0 wsc' ans) (hg : GoodIn Ts (wsV own index C y Wc)) (hwc : Wc = Cond.code y bytes maxL ret :: Wc') (hd : y.cls = C ∧ y.cls ≠ "java/lang/invoke/MethodHandle" ∧ y.cls ≠ "java/lang/invoke/VarHandle" ∧ (parseMethodDescriptor y.desc).map (fun d => d.parameters.length) = some n) (hR : rmc.frames + 1 ≤ R.frames ∧ 8 + (maxL + 11) + rmc.locals ≤ R.locals)
    (hH : HH G A s w0 H locs) (hrec : ∃ (i ci : Nat) (fs : List Value) (q : vw_C), w0[i]? = some (b0, .inr (ci, fs)) ∧ vwCl[ci]? = some q ∧ q.1 = C) (hn : As.length = n) (hsz : ls.size = nL) (hrest : (rest.map fun v => v.category).sum ≤ 8) (hdg : decode cc pc = .ok (.invokevirtual index, 3)) (hf : cells + rmc.cells ≤ R.cells ∧ slots + rmc.slots ≤ R.slots) (hst : st0 = As.reverse ++ .ref b0 :: rest)
    (kk : ∀ (u : Nat → Nat) (H1 : Heap) (locs1 : List Loc), HH G A s (wsc' u) H1 locs1 → W p l e R s m args below meth c H1 locs1 (cells + rmc.cells) (slots + rmc.slots) Q (F0 m (pc + 3) ls (.int ans :: rest))) :
    W p l e R s m args below meth c H locs cells slots Q (F0 m pc ls st0) :=
  callVI F hM hg hwc hd hR [] [] hH (by simp) hrec hn hsz hrest hdg hf hst (fun u H1 locs1 h => kk u H1 locs1 (by rw [List.nil_append, List.append_nil] at h; exact h))
theorem callVV0 (F : Fx G p s m args meth c cc nL Ts own A) (hM : MV l y Wc rmc (.ref b0 :: As) G w0 wsc') (hg : GoodIn Ts (wsV own index C y Wc)) (hwc : Wc = Cond.code y bytes maxL ret :: Wc') (hd : y.cls = C ∧ y.cls ≠ "java/lang/invoke/MethodHandle" ∧ y.cls ≠ "java/lang/invoke/VarHandle" ∧ (parseMethodDescriptor y.desc).map (fun d => d.parameters.length) = some n) (hR : rmc.frames + 1 ≤ R.frames ∧ 8 + (maxL + 11) + rmc.locals ≤ R.locals)
    (hH : HH G A s w0 H locs) (hrec : ∃ (i ci : Nat) (fs : List Value) (q : vw_C), w0[i]? = some (b0, .inr (ci, fs)) ∧ vwCl[ci]? = some q ∧ q.1 = C) (hn : As.length = n) (hsz : ls.size = nL) (hrest : (rest.map fun v => v.category).sum ≤ 8) (hdg : decode cc pc = .ok (.invokevirtual index, 3)) (hf : cells + rmc.cells ≤ R.cells ∧ slots + rmc.slots ≤ R.slots) (hst : st0 = As.reverse ++ .ref b0 :: rest)
    (kk : ∀ (u : Nat → Nat) (H1 : Heap) (locs1 : List Loc), HH G A s (wsc' u) H1 locs1 → W p l e R s m args below meth c H1 locs1 (cells + rmc.cells) (slots + rmc.slots) Q (F0 m (pc + 3) ls rest)) :
    W p l e R s m args below meth c H locs cells slots Q (F0 m pc ls st0) :=
  callVV F hM hg hwc hd hR [] [] hH (by simp) hrec hn hsz hrest hdg hf hst (fun u H1 locs1 h => kk u H1 locs1 (by rw [List.nil_append, List.append_nil] at h; exact h))
theorem callVR0 (F : Fx G p s m args meth c cc nL Ts own A) (hM : MR l y Wc rmc (.ref b0 :: As) G w0 r) (hg : GoodIn Ts (wsV own index C y Wc)) (hwc : Wc = Cond.code y bytes maxL ret :: Wc') (hd : y.cls = C ∧ y.cls ≠ "java/lang/invoke/MethodHandle" ∧ y.cls ≠ "java/lang/invoke/VarHandle" ∧ (parseMethodDescriptor y.desc).map (fun d => d.parameters.length) = some n) (hR : rmc.frames + 1 ≤ R.frames ∧ 8 + (maxL + 11) + rmc.locals ≤ R.locals)
    (hH : HH G A s w0 H locs) (hrec : ∃ (i ci : Nat) (fs : List Value) (q : vw_C), w0[i]? = some (b0, .inr (ci, fs)) ∧ vwCl[ci]? = some q ∧ q.1 = C) (hn : As.length = n) (hsz : ls.size = nL) (hrest : (rest.map fun v => v.category).sum ≤ 8) (hdg : decode cc pc = .ok (.invokevirtual index, 3)) (hf : cells + rmc.cells ≤ R.cells ∧ slots + rmc.slots ≤ R.slots) (hst : st0 = As.reverse ++ .ref b0 :: rest)
    (kk : ∀ (H1 : Heap) (locs1 : List Loc), HH G A s w0 H1 locs1 → W p l e R s m args below meth c H1 locs1 (cells + rmc.cells) (slots + rmc.slots) Q (F0 m (pc + 3) ls (.ref r :: rest))) :
    W p l e R s m args below meth c H locs cells slots Q (F0 m pc ls st0) :=
  callVR F hM hg hwc hd hR [] [] hH (by simp) hrec hn hsz hrest hdg hf hst kk
theorem callVX0 (F : Fx G p s m args meth c cc nL Ts own A) (hM : MX l y Wc rmc (.ref b0 :: As) G w0 E) (hg : GoodIn Ts (wsV own index C y Wc)) (hwc : Wc = Cond.code y bytes maxL ret :: Wc') (hd : y.cls = C ∧ y.cls ≠ "java/lang/invoke/MethodHandle" ∧ y.cls ≠ "java/lang/invoke/VarHandle" ∧ (parseMethodDescriptor y.desc).map (fun d => d.parameters.length) = some n) (hR : rmc.frames + 1 ≤ R.frames ∧ 8 + (maxL + 11) + rmc.locals ≤ R.locals)
    (hH : HH G A s w0 H locs) (hrec : ∃ (i ci : Nat) (fs : List Value) (q : vw_C), w0[i]? = some (b0, .inr (ci, fs)) ∧ vwCl[ci]? = some q ∧ q.1 = C) (hn : As.length = n) (hsz : ls.size = nL) (hrest : (rest.map fun v => v.category).sum ≤ 8) (hdg : decode cc pc = .ok (.invokevirtual index, 3)) (hf : cells + rmc.cells ≤ R.cells ∧ slots + rmc.slots ≤ R.slots) (hst : st0 = As.reverse ++ .ref b0 :: rest)
    (hout : ∀ x ∈ c.exceptionTable.toList, False) (hc : cells + rmc.cells ≤ rm.cells) (hs : slots + rmc.slots ≤ rm.slots) :
    W p l e R s m args below meth c H locs cells slots (EnX G A below s args rm w0 E) (F0 m pc ls st0) :=
  callVX F hM hg hwc hd hR [] [] hH (by simp) hrec hn hsz hrest hdg hf hst (fun ce q9 H1 locs1 h h1 h2 h3 => outX F hout h h1 h2 h3 hc hs)
theorem callSI0 (F : Fx G p s m args meth c cc nL Ts own A) (hM : MI l y Wc rmc As G w0 wsc' ans) (hg : GoodIn Ts (va_wsS own index y Wc)) (hwc : Wc = Cond.code y bytes maxL ret :: Wc') (hd : y.cls = own ∧ y.cls ≠ "java/lang/invoke/MethodHandle" ∧ y.cls ≠ "java/lang/invoke/VarHandle" ∧ (parseMethodDescriptor y.desc).map (fun d => d.parameters.length) = some n) (hR : rmc.frames + 1 ≤ R.frames ∧ 8 + (maxL + 11) + rmc.locals ≤ R.locals)
    (hH : HH G A s w0 H locs) (hn : As.length = n) (hsz : ls.size = nL) (hrest : (rest.map fun v => v.category).sum ≤ 8) (hdg : decode cc pc = .ok (.invokestatic index, 3)) (hf : cells + rmc.cells ≤ R.cells ∧ slots + rmc.slots ≤ R.slots) (hst : st0 = As.reverse ++ rest)
    (kk : ∀ (u : Nat → Nat) (H1 : Heap) (locs1 : List Loc), HH G A s (wsc' u) H1 locs1 → W p l e R s m args below meth c H1 locs1 (cells + rmc.cells) (slots + rmc.slots) Q (F0 m (pc + 3) ls (.int ans :: rest))) :
    W p l e R s m args below meth c H locs cells slots Q (F0 m pc ls st0) :=
  callSI F hM hg hwc hd hR [] [] hH (by simp) hn hsz hrest hdg hf hst (fun u H1 locs1 h => kk u H1 locs1 (by rw [List.nil_append, List.append_nil] at h; exact h))
theorem callSV0 (F : Fx G p s m args meth c cc nL Ts own A) (hM : MV l y Wc rmc As G w0 wsc') (hg : GoodIn Ts (va_wsS own index y Wc)) (hwc : Wc = Cond.code y bytes maxL ret :: Wc') (hd : y.cls = own ∧ y.cls ≠ "java/lang/invoke/MethodHandle" ∧ y.cls ≠ "java/lang/invoke/VarHandle" ∧ (parseMethodDescriptor y.desc).map (fun d => d.parameters.length) = some n) (hR : rmc.frames + 1 ≤ R.frames ∧ 8 + (maxL + 11) + rmc.locals ≤ R.locals)
    (hH : HH G A s w0 H locs) (hn : As.length = n) (hsz : ls.size = nL) (hrest : (rest.map fun v => v.category).sum ≤ 8) (hdg : decode cc pc = .ok (.invokestatic index, 3)) (hf : cells + rmc.cells ≤ R.cells ∧ slots + rmc.slots ≤ R.slots) (hst : st0 = As.reverse ++ rest)
    (kk : ∀ (u : Nat → Nat) (H1 : Heap) (locs1 : List Loc), HH G A s (wsc' u) H1 locs1 → W p l e R s m args below meth c H1 locs1 (cells + rmc.cells) (slots + rmc.slots) Q (F0 m (pc + 3) ls rest)) :
    W p l e R s m args below meth c H locs cells slots Q (F0 m pc ls st0) :=
  callSV F hM hg hwc hd hR [] [] hH (by simp) hn hsz hrest hdg hf hst (fun u H1 locs1 h => kk u H1 locs1 (by rw [List.nil_append, List.append_nil] at h; exact h))
theorem callSX0 (F : Fx G p s m args meth c cc nL Ts own A) (hM : MX l y Wc rmc As G w0 E) (hg : GoodIn Ts (va_wsS own index y Wc)) (hwc : Wc = Cond.code y bytes maxL ret :: Wc') (hd : y.cls = own ∧ y.cls ≠ "java/lang/invoke/MethodHandle" ∧ y.cls ≠ "java/lang/invoke/VarHandle" ∧ (parseMethodDescriptor y.desc).map (fun d => d.parameters.length) = some n) (hR : rmc.frames + 1 ≤ R.frames ∧ 8 + (maxL + 11) + rmc.locals ≤ R.locals)
    (hH : HH G A s w0 H locs) (hn : As.length = n) (hsz : ls.size = nL) (hrest : (rest.map fun v => v.category).sum ≤ 8) (hdg : decode cc pc = .ok (.invokestatic index, 3)) (hf : cells + rmc.cells ≤ R.cells ∧ slots + rmc.slots ≤ R.slots) (hst : st0 = As.reverse ++ rest)
    (hout : ∀ x ∈ c.exceptionTable.toList, False) (hc : cells + rmc.cells ≤ rm.cells) (hs : slots + rmc.slots ≤ rm.slots) :
    W p l e R s m args below meth c H locs cells slots (EnX G A below s args rm w0 E) (F0 m pc ls st0) :=
  callSX F hM hg hwc hd hR [] [] hH (by simp) hn hsz hrest hdg hf hst (fun ce q9 H1 locs1 h h1 h2 h3 => outX F hout h h1 h2 h3 hc hs)
end C0
end
section
/-! the cells of the system and of the reference -/
/-- a worker: d addresses (0: the object, 2..7: the rows), f int fields, a rows -/
def wW (G : Gx) (d : Nat → Nat) (f : Nat → Int32) (a : Nat → Nat → Int32) : va_W := [(d 0, .inr (1, [.int (f 0), .int (f 1), .ref (d 2), .ref (d 3), .ref (d 4), .ref (d 5), .ref (d 6), .ref (d 7), .int (f 8), .int (f 9), .int (f 10), .int (f 11)])), (d 2, .inl (G.2 0, 201, .inl (a 2))), (d 3, .inl (G.2 0, 201, .inl (a 3))), (d 4, .inl (G.2 0, 201, .inl (a 4))), (d 5, .inl (G.2 0, 201, .inl (a 5))), (d 6, .inl (G.2 0, 201, .inl (a 6))), (d 7, .inl (G.2 1, 201, .inl (a 7)))]
def cC (d : Nat) (f : Nat → Int32) : va_W := [(d, .inr (0, [.int (f 0), .int (f 1), .int (f 2), .int (f 3)]))]
def wkL (G : Gx) (wd : Nat → Nat → Nat) (wf : Nat → Nat → Int32) (wa : Nat → Nat → Nat → Int32) : Nat → va_W
  | 0 => []
  | n + 1 => wkL G wd wf wa n ++ wW G (wd n) (wf n) (wa n)
def crL (cd : Nat → Nat) (cf : Nat → Nat → Int32) : Nat → va_W
  | 0 => []
  | m + 1 => crL cd cf m ++ cC (cd m) (cf m)
def rfT (d : Nat → Nat) (n : Nat) : Nat → Option Nat := fun i => if i < n then some (d i) else none
/-- the system: q addresses of the object and its three rows, n workers, m courses, t the week, fl the floor, fd the firm's debt, k the checked weeks -/
def sW (G : Gx) (q : Nat → Nat) (n m t : Nat) (fl fd : Int32) (k : Nat → Int32) (wd : Nat → Nat → Nat) (wf : Nat → Nat → Int32) (wa : Nat → Nat → Nat → Int32) (cd : Nat → Nat) (cf : Nat → Nat → Int32) : va_W :=
  (q 0, .inr (2, [.ref (q 1), .ref (q 2), .ref (q 3), .int (nI n), .int (nI m), .int (nI t), .int fl, .int fd])) :: (q 1, .inl (G.2 2, 8, .inr (.inr (.inr (.inr (rfT (fun i => wd i 0) n)))))) :: (q 2, .inl (G.2 3, 10, .inr (.inr (.inr (.inr (rfT cd m)))))) :: (q 3, .inl (G.2 1, 201, .inl k)) :: (wkL G wd wf wa n ++ crL cd cf m)
/-- the reference: q addresses (0: the object), f int fields, a rows -/
def mW (G : Gx) (q : Nat → Nat) (f : Nat → Int32) (a : Nat → Nat → Int32) : va_W := [(q 0, .inr (3, [.int (f 0), .ref (q 1), .ref (q 2), .ref (q 3), .ref (q 4), .ref (q 5), .ref (q 6), .ref (q 7), .ref (q 8), .int (f 9), .int (f 10), .ref (q 11), .ref (q 12), .ref (q 13), .ref (q 14), .ref (q 15), .int (f 16), .int (f 17), .ref (q 18), .ref (q 19), .ref (q 20), .ref (q 21), .ref (q 22), .ref (q 23), .int (f 24)])),
  (q 1, .inl (G.2 0, 8, .inl (a 1))), (q 2, .inl (G.2 1, 8, .inl (a 2))), (q 3, .inl (G.2 0, 8, .inl (a 3))), (q 4, .inl (G.2 0, 240, .inl (a 4))), (q 5, .inl (G.2 0, 240, .inl (a 5))), (q 6, .inl (G.2 0, 240, .inl (a 6))), (q 7, .inl (G.2 0, 8, .inl (a 7))), (q 8, .inl (G.2 0, 8, .inl (a 8))), (q 11, .inl (G.2 0, 10, .inl (a 11))), (q 12, .inl (G.2 0, 10, .inl (a 12))), (q 13, .inl (G.2 0, 10, .inl (a 13))), (q 14, .inl (G.2 0, 10, .inl (a 14))), (q 15, .inl (G.2 1, 80, .inl (a 15))), (q 18, .inl (G.2 0, 1608, .inl (a 18))), (q 19, .inl (G.2 0, 1608, .inl (a 19))), (q 20, .inl (G.2 0, 1608, .inl (a 20))), (q 21, .inl (G.2 0, 1608, .inl (a 21))), (q 22, .inl (G.2 1, 1608, .inl (a 22))), (q 23, .inl (G.2 1, 201, .inl (a 23)))]
theorem wW_len {G : Gx} {d : Nat → Nat} {f : Nat → Int32} {a : Nat → Nat → Int32} : (wW G d f a).length = 7 := rfl
theorem wkL_congr {G : Gx} {wd wd' : Nat → Nat → Nat} {wf wf' : Nat → Nat → Int32} {wa wa' : Nat → Nat → Nat → Int32} : ∀ {n : Nat}, (∀ i, i < n → wd i = wd' i ∧ wf i = wf' i ∧ wa i = wa' i) → wkL G wd wf wa n = wkL G wd' wf' wa' n
  | 0, _ => rfl
  | n + 1, h => by
    have h0 := h n (Nat.lt_succ_self n)
    show wkL G wd wf wa n ++ wW G (wd n) (wf n) (wa n) = wkL G wd' wf' wa' n ++ wW G (wd' n) (wf' n) (wa' n)
    rw [wkL_congr (fun i hi => h i (Nat.lt_succ_of_lt hi)), h0.1, h0.2.1, h0.2.2]
theorem crL_congr {cd cd' : Nat → Nat} {cf cf' : Nat → Nat → Int32} : ∀ {n : Nat}, (∀ i, i < n → cd i = cd' i ∧ cf i = cf' i) → crL cd cf n = crL cd' cf' n
  | 0, _ => rfl
  | n + 1, h => by
    have h0 := h n (Nat.lt_succ_self n)
    show crL cd cf n ++ cC (cd n) (cf n) = crL cd' cf' n ++ cC (cd' n) (cf' n)
    rw [crL_congr (fun i hi => h i (Nat.lt_succ_of_lt hi)), h0.1, h0.2]
theorem wkL_mid {G : Gx} {wd : Nat → Nat → Nat} {wf : Nat → Nat → Int32} {wa : Nat → Nat → Nat → Int32} {i : Nat} : ∀ {n : Nat}, i < n → ∃ a b : va_W, a.length = 7 * i ∧ wkL G wd wf wa n = a ++ wW G (wd i) (wf i) (wa i) ++ b ∧ ∀ f' a', wkL G wd (va_up wf i f') (va_up wa i a') n = a ++ wW G (wd i) f' a' ++ b
  | 0, h => absurd h (Nat.not_lt_zero _)
  | n + 1, h => by
    have hlen : ∀ k : Nat, (wkL G wd wf wa k).length = 7 * k := by
      intro k
      induction k with
      | zero => rfl
      | succ k ih =>
        show (wkL G wd wf wa k ++ wW G (wd k) (wf k) (wa k)).length = _
        rw [List.length_append, ih, wW_len]; omega
    by_cases hi : i = n
    · subst hi
      refine ⟨wkL G wd wf wa i, [], hlen i, by simp [wkL], fun f' a' => ?_⟩
      show wkL G wd (va_up wf i f') (va_up wa i a') i ++ wW G (wd i) (va_up wf i f' i) (va_up wa i a' i) = _
      rw [va_up_self, va_up_self, List.append_nil, wkL_congr (wd' := wd) (wf' := wf) (wa' := wa) (fun j hj => ⟨rfl, va_up_ne _ _ (Nat.ne_of_lt hj), va_up_ne _ _ (Nat.ne_of_lt hj)⟩)]
    · obtain ⟨a, b, h0, h1, h2⟩ := wkL_mid (G := G) (wd := wd) (wf := wf) (wa := wa) (n := n) (i := i) (by omega)
      refine ⟨a, b ++ wW G (wd n) (wf n) (wa n), h0, ?_, fun f' a' => ?_⟩
      · show wkL G wd wf wa n ++ wW G (wd n) (wf n) (wa n) = _
        rw [h1, List.append_assoc]
      · show wkL G wd (va_up wf i f') (va_up wa i a') n ++ wW G (wd n) (va_up wf i f' n) (va_up wa i a' n) = _
        rw [h2, List.append_assoc, va_up_ne _ _ (Ne.symm hi), va_up_ne _ _ (Ne.symm hi)]
theorem wkL_len {G : Gx} {wd : Nat → Nat → Nat} {wf : Nat → Nat → Int32} {wa : Nat → Nat → Nat → Int32} (k : Nat) : (wkL G wd wf wa k).length = 7 * k := by
  induction k with
  | zero => rfl
  | succ k ih =>
    show (wkL G wd wf wa k ++ wW G (wd k) (wf k) (wa k)).length = _
    rw [List.length_append, ih, wW_len]; omega
theorem crL_mid {cd : Nat → Nat} {cf : Nat → Nat → Int32} {i : Nat} : ∀ {n : Nat}, i < n → ∃ a b : va_W, a.length = i ∧ crL cd cf n = a ++ cC (cd i) (cf i) ++ b ∧ ∀ f', crL cd (va_up cf i f') n = a ++ cC (cd i) f' ++ b
  | 0, h => absurd h (Nat.not_lt_zero _)
  | n + 1, h => by
    have hlen : ∀ k : Nat, (crL cd cf k).length = k := by
      intro k
      induction k with
      | zero => rfl
      | succ k ih =>
        show (crL cd cf k ++ cC (cd k) (cf k)).length = _
        rw [List.length_append, ih]; rfl
    by_cases hi : i = n
    · subst hi
      refine ⟨crL cd cf i, [], hlen i, by simp [crL], fun f' => ?_⟩
      show crL cd (va_up cf i f') i ++ cC (cd i) (va_up cf i f' i) = _
      rw [va_up_self, List.append_nil, crL_congr (cd' := cd) (cf' := cf) (fun j hj => ⟨rfl, va_up_ne _ _ (Nat.ne_of_lt hj)⟩)]
    · obtain ⟨a, b, h0, h1, h2⟩ := crL_mid (cd := cd) (cf := cf) (n := n) (i := i) (by omega)
      refine ⟨a, b ++ cC (cd n) (cf n), h0, ?_, fun f' => ?_⟩
      · show crL cd cf n ++ cC (cd n) (cf n) = _
        rw [h1, List.append_assoc]
      · show crL cd (va_up cf i f') n ++ cC (cd n) (va_up cf i f' n) = _
        rw [h2, List.append_assoc, va_up_ne _ _ (Ne.symm hi)]
section SW9
variable {G : Gx} {q : Nat → Nat} {n m t i : Nat} {fl fd : Int32} {k : Nat → Int32} {wd : Nat → Nat → Nat} {wf : Nat → Nat → Int32} {wa : Nat → Nat → Nat → Int32} {cd : Nat → Nat} {cf : Nat → Nat → Int32}
/-- a worker among the rest -/
theorem sW_mid (h : i < n) : ∃ a b : va_W, a.length = 4 + 7 * i ∧ sW G q n m t fl fd k wd wf wa cd cf = a ++ wW G (wd i) (wf i) (wa i) ++ b ∧ ∀ f' a', sW G q n m t fl fd k wd (va_up wf i f') (va_up wa i a') cd cf = a ++ wW G (wd i) f' a' ++ b := by
  obtain ⟨a, b, h0, h1, h2⟩ := wkL_mid (G := G) (wd := wd) (wf := wf) (wa := wa) h
  refine ⟨(q 0, .inr (2, [.ref (q 1), .ref (q 2), .ref (q 3), .int (nI n), .int (nI m), .int (nI t), .int fl, .int fd])) :: (q 1, .inl (G.2 2, 8, .inr (.inr (.inr (.inr (rfT (fun i => wd i 0) n)))))) :: (q 2, .inl (G.2 3, 10, .inr (.inr (.inr (.inr (rfT cd m)))))) :: (q 3, .inl (G.2 1, 201, .inl k)) :: a, b ++ crL cd cf m, ?_, ?_, fun f' a' => ?_⟩
  · simp only [List.length_cons]; omega
  · unfold sW
    rw [h1]
    simp only [List.cons_append, List.append_assoc]
  · unfold sW
    rw [h2]
    simp only [List.cons_append, List.append_assoc]
theorem sW_at (h : i < n) {j : Nat} {c : Nat × va_E} (hc : (wW G (wd i) (wf i) (wa i))[j]? = some c) : (sW G q n m t fl fd k wd wf wa cd cf)[4 + 7 * i + j]? = some c := by
  obtain ⟨a, b, h0, h1, -⟩ := sW_mid (G := G) (q := q) (m := m) (t := t) (fl := fl) (fd := fd) (k := k) (wd := wd) (wf := wf) (wa := wa) (cd := cd) (cf := cf) h
  rw [h1, ← h0]
  exact mid_at hc
theorem sW_set (h : i < n) {j : Nat} {c : Nat × va_E} (hj : j < 7) {f' : Nat → Int32} {a' : Nat → Nat → Int32} (hc : (wW G (wd i) (wf i) (wa i)).set j c = wW G (wd i) f' a') : (sW G q n m t fl fd k wd wf wa cd cf).set (4 + 7 * i + j) c = sW G q n m t fl fd k wd (va_up wf i f') (va_up wa i a') cd cf := by
  obtain ⟨a, b, h0, h1, h2⟩ := sW_mid (G := G) (q := q) (m := m) (t := t) (fl := fl) (fd := fd) (k := k) (wd := wd) (wf := wf) (wa := wa) (cd := cd) (cf := cf) h
  rw [h1, h2, ← h0, mid_set (by rw [wW_len]; exact hj), hc]
/-- a course among the rest -/
theorem sW_midC (h : i < m) : ∃ a b : va_W, a.length = 4 + 7 * n + i ∧ sW G q n m t fl fd k wd wf wa cd cf = a ++ cC (cd i) (cf i) ++ b ∧ ∀ f', sW G q n m t fl fd k wd wf wa cd (va_up cf i f') = a ++ cC (cd i) f' ++ b := by
  obtain ⟨a, b, h0, h1, h2⟩ := crL_mid (cd := cd) (cf := cf) h
  refine ⟨(q 0, .inr (2, [.ref (q 1), .ref (q 2), .ref (q 3), .int (nI n), .int (nI m), .int (nI t), .int fl, .int fd])) :: (q 1, .inl (G.2 2, 8, .inr (.inr (.inr (.inr (rfT (fun i => wd i 0) n)))))) :: (q 2, .inl (G.2 3, 10, .inr (.inr (.inr (.inr (rfT cd m)))))) :: (q 3, .inl (G.2 1, 201, .inl k)) :: (wkL G wd wf wa n ++ a), b, ?_, ?_, fun f' => ?_⟩
  · simp only [List.length_cons, List.length_append, wkL_len]; omega
  · unfold sW
    rw [h1]
    simp only [List.cons_append, List.append_assoc]
  · unfold sW
    rw [h2]
    simp only [List.cons_append, List.append_assoc]
theorem sW_atC (h : i < m) : (sW G q n m t fl fd k wd wf wa cd cf)[4 + 7 * n + i]? = some (cd i, .inr (0, [.int (cf i 0), .int (cf i 1), .int (cf i 2), .int (cf i 3)])) := by
  obtain ⟨a, b, h0, h1, -⟩ := sW_midC (G := G) (q := q) (n := n) (t := t) (fl := fl) (fd := fd) (k := k) (wd := wd) (wf := wf) (wa := wa) (cd := cd) (cf := cf) h
  rw [h1, ← h0]
  exact mid_at (k := 0) rfl
theorem sW_setC (h : i < m) {c : Nat × va_E} {f' : Nat → Int32} (hc : (cC (cd i) (cf i)).set 0 c = cC (cd i) f') : (sW G q n m t fl fd k wd wf wa cd cf).set (4 + 7 * n + i) c = sW G q n m t fl fd k wd wf wa cd (va_up cf i f') := by
  obtain ⟨a, b, h0, h1, h2⟩ := sW_midC (G := G) (q := q) (n := n) (t := t) (fl := fl) (fd := fd) (k := k) (wd := wd) (wf := wf) (wa := wa) (cd := cd) (cf := cf) h
  rw [h1, h2, ← h0]
  have h9 := mid_set (a := a) (w := cC (cd i) (cf i)) (b := b) (k := 0) (q := c) (Nat.zero_lt_succ _)
  rw [Nat.add_zero] at h9
  rw [h9, hc]
end SW9
end
section
/-! numbers -/
theorem nI_m1_toInt {n : Nat} (h : n < 2 ^ 30) : (nI n - 1).toInt = (n : Int) - 1 := by
  have h1 : (1 : Int32) = nI 1 := rfl
  rw [h1, pk_sub_toInt h (by decide)]
  rfl
theorem nI_le_m1 {i n : Nat} (h : i < n) (hn : n < 2 ^ 30) : nI i ≤ nI n - 1 := by
  rw [Int32.le_iff_toInt_le, nI_m1_toInt hn, nI_toInt (by omega)]
  omega
theorem nI_m1_lt {n : Nat} {v : Int32} (hn : n < 2 ^ 30) (h : nI n ≤ v) : nI n - 1 < v := by
  rw [Int32.le_iff_toInt_le, nI_toInt (by omega)] at h
  rw [Int32.lt_iff_toInt_lt, nI_m1_toInt hn]
  omega
theorem out_m1 {n : Nat} {v : Int32} (hn : n < 2 ^ 30) (h : v < 0 ∨ nI n ≤ v) : v < 0 ∨ nI n - 1 < v := h.imp id (nI_m1_lt hn)
theorem i_nle {a b : Int32} (h : a < b) : ¬ b ≤ a := fun h2 => by
  rw [Int32.lt_iff_toInt_lt] at h
  rw [Int32.le_iff_toInt_le] at h2
  omega
theorem i_nlt {a b : Int32} (h : a ≤ b) : ¬ b < a := fun h2 => by
  rw [Int32.le_iff_toInt_le] at h
  rw [Int32.lt_iff_toInt_lt] at h2
  omega
theorem i_lt {a b : Int32} (h : ¬ b ≤ a) : a < b := by
  rw [Int32.le_iff_toInt_le] at h
  rw [Int32.lt_iff_toInt_lt]
  omega
theorem i_le {a b : Int32} (h : ¬ b < a) : a ≤ b := by
  rw [Int32.lt_iff_toInt_lt] at h
  rw [Int32.le_iff_toInt_le]
  omega
theorem rfT_in {d : Nat → Nat} {n i : Nat} (h : i < n) : va_rf (rfT d n i) = .ref (d i) := by simp [rfT, h, va_rf]
theorem rfT_out {d : Nat → Nat} {n i : Nat} (h : ¬ i < n) : va_rf (rfT d n i) = .null := by simp [rfT, h, va_rf]
/-! what the methods say, of their numbers -/
/-- the step by the cut weeks that were paid -/
def stepP (x : Int32) : Int32 := if x < 24 then (if x < 12 then 60 else 70) else 80
/-- is the week filled: c the course's hours, h the cut -/
def fillB (c h : Int32) : Int32 := if c ≤ 0 then 0 else if 2 * c < h then 0 else 1
/-- the percentage: ch children, w the cut weeks paid, b filled -/
def pctS (ch w b : Int32) : Int32 :=
  let p := if ch = 0 then stepP w else stepP w + 7
  if b = 0 then (if w < 12 then p else p + (-10)) else p + 5
/-- too much work seen: h the cut, d the hours at the door, m made up -/
def muchB (h d m : Int32) : Int32 := if d ≤ 40 - h + 2 then 0 else if m ≤ 0 then 0 else 1
/-- the firm's pay, what the fund makes up: p full pay, h the cut, c percentage, fl the floor -/
def firmP (p h : Int32) : Int32 := p * (40 - h) / 40
def fundP (p h c fl : Int32) : Int32 := if (p - firmP p h) * c / 100 < p * fl / 100 - firmP p h then p * fl / 100 - firmP p h else (p - firmP p h) * c / 100
theorem fillB_nar (c h : Int32) : narrow .boolean (.int (fillB c h)) = .int (fillB c h) := by
  unfold fillB
  split
  · rfl
  · split <;> rfl
theorem muchB_nar (h d m : Int32) : narrow .boolean (.int (muchB h d m)) = .int (muchB h d m) := by
  unfold muchB
  split
  · rfl
  · split <;> rfl
/-- g with h laid at x .. i - 1 -/
def fillR (g : Nat → Int32) (x i : Nat) (h : Int32) : Nat → Int32 := fun j => if x ≤ j ∧ j < i then h else g j
theorem fillR_0 {g : Nat → Int32} {x : Nat} {h : Int32} : fillR g x x h = g := by
  funext j
  unfold fillR
  rw [if_neg (by omega)]
theorem fillR_step {g : Nat → Int32} {x i : Nat} {h : Int32} (hxi : x ≤ i) : upd (fillR g x i h) i h = fillR g x (i + 1) h := by
  funext j
  unfold fillR upd
  by_cases h1 : j = i
  · subst h1
    rw [if_pos rfl, if_pos (by omega)]
  · rw [if_neg h1]
    show (if x ≤ j ∧ j < i then h else g j) = _
    by_cases h2 : x ≤ j ∧ j < i
    · rw [if_pos h2, if_pos (by omega)]
    · rw [if_neg h2, if_neg (by omega)]
end
section
theorem hdX1_hasFilled : yX1_hasFilled.cls = RX1 ∧ yX1_hasFilled.cls ≠ "java/lang/invoke/MethodHandle" ∧ yX1_hasFilled.cls ≠ "java/lang/invoke/VarHandle" ∧ (parseMethodDescriptor yX1_hasFilled.desc).map (fun d => d.parameters.length) = some 1 := by decide +kernel
theorem hdX1_madeUpPercent : yX1_madeUpPercent.cls = RX1 ∧ yX1_madeUpPercent.cls ≠ "java/lang/invoke/MethodHandle" ∧ yX1_madeUpPercent.cls ≠ "java/lang/invoke/VarHandle" ∧ (parseMethodDescriptor yX1_madeUpPercent.desc).map (fun d => d.parameters.length) = some 1 := by decide +kernel
theorem hdX1_stepPercent : yX1_stepPercent.cls = RX1 ∧ yX1_stepPercent.cls ≠ "java/lang/invoke/MethodHandle" ∧ yX1_stepPercent.cls ≠ "java/lang/invoke/VarHandle" ∧ (parseMethodDescriptor yX1_stepPercent.desc).map (fun d => d.parameters.length) = some 0 := by decide +kernel
theorem hdX2_isWithin : yX2_isWithin.cls = RX2 ∧ yX2_isWithin.cls ≠ "java/lang/invoke/MethodHandle" ∧ yX2_isWithin.cls ≠ "java/lang/invoke/VarHandle" ∧ (parseMethodDescriptor yX2_isWithin.desc).map (fun d => d.parameters.length) = some 3 := by decide +kernel
theorem in_X1_hasFilled_X1 : ∀ w ∈ wsX10, w ∈ wsX1_hasFilled := by decide +kernel
theorem in_X1_hasWorkedTooMuch_X1 : ∀ w ∈ wsX10, w ∈ wsX1_hasWorkedTooMuch := by decide +kernel
theorem in_X1_madeUpPercent_X1 : ∀ w ∈ wsX10, w ∈ wsX1_madeUpPercent := by decide +kernel
theorem in_X1_payFor_X1 : ∀ w ∈ wsX10, w ∈ wsX1_payFor := by decide +kernel
theorem in_X1_stepPercent_X1 : ∀ w ∈ wsX10, w ∈ wsX1_stepPercent := by decide +kernel
theorem in_X2_courseAt_X2 : ∀ w ∈ wsX20, w ∈ wsX2_courseAt := by decide +kernel
theorem in_X2_firmOwes_X2 : ∀ w ∈ wsX20, w ∈ wsX2_firmOwes := by decide +kernel
theorem in_X2_hasPassed_X2 : ∀ w ∈ wsX20, w ∈ wsX2_hasPassed := by decide +kernel
theorem in_X2_week_X2 : ∀ w ∈ wsX20, w ∈ wsX2_week := by decide +kernel
theorem in_X2_workerAt_X2 : ∀ w ∈ wsX20, w ∈ wsX2_workerAt := by decide +kernel
theorem in_X2_workers_X2 : ∀ w ∈ wsX20, w ∈ wsX2_workers := by decide +kernel
theorem thr_X2_requireArgument : ∀ w ∈ (vx_at0 RX2 146 "java/lang/IllegalArgumentException" ["java/lang/RuntimeException", "java/lang/Exception"]).filter goodWord, w ∈ wsX2_requireArgument := by decide +kernel
theorem thr_X2_requireArgument_c : ∀ w ∈ (vx_at0 RX2 146 "java/lang/IllegalArgumentException" ["java/lang/RuntimeException", "java/lang/Exception"]).filter (fun w => !goodWord w), w ∈ exW := by decide +kernel
theorem thr_X2_requireArgument_ot : ∀ w ∈ Cond.classLink RX2 144 "java/lang/IllegalArgumentException" :: Cond.initialized "java/lang/IllegalArgumentException" :: vx_at0 RX2 146 "java/lang/IllegalArgumentException" ["java/lang/RuntimeException", "java/lang/Exception"], vx_ot w = true := by decide +kernel
theorem thr_X2_requireState : ∀ w ∈ (vx_at0 RX2 149 "java/lang/IllegalStateException" ["java/lang/RuntimeException", "java/lang/Exception"]).filter goodWord, w ∈ wsX2_requireState := by decide +kernel
theorem thr_X2_requireState_c : ∀ w ∈ (vx_at0 RX2 149 "java/lang/IllegalStateException" ["java/lang/RuntimeException", "java/lang/Exception"]).filter (fun w => !goodWord w), w ∈ exW := by decide +kernel
theorem thr_X2_requireState_ot : ∀ w ∈ Cond.classLink RX2 147 "java/lang/IllegalStateException" :: Cond.initialized "java/lang/IllegalStateException" :: vx_at0 RX2 149 "java/lang/IllegalStateException" ["java/lang/RuntimeException", "java/lang/Exception"], vx_ot w = true := by decide +kernel
theorem thr_X2_workerAt : ∀ w ∈ (vx_at0 RX2 143 "java/lang/IndexOutOfBoundsException" ["java/lang/RuntimeException", "java/lang/Exception"]).filter goodWord, w ∈ wsX2_workerAt := by decide +kernel
theorem thr_X2_workerAt_c : ∀ w ∈ (vx_at0 RX2 143 "java/lang/IndexOutOfBoundsException" ["java/lang/RuntimeException", "java/lang/Exception"]).filter (fun w => !goodWord w), w ∈ exW := by decide +kernel
theorem thr_X2_workerAt_ot : ∀ w ∈ Cond.classLink RX2 141 "java/lang/IndexOutOfBoundsException" :: Cond.initialized "java/lang/IndexOutOfBoundsException" :: vx_at0 RX2 143 "java/lang/IndexOutOfBoundsException" ["java/lang/RuntimeException", "java/lang/Exception"], vx_ot w = true := by decide +kernel
theorem thr_X2_courseAt : ∀ w ∈ (vx_at0 RX2 143 "java/lang/IndexOutOfBoundsException" ["java/lang/RuntimeException", "java/lang/Exception"]).filter goodWord, w ∈ wsX2_courseAt := by decide +kernel
theorem thr_X2_courseAt_c : ∀ w ∈ (vx_at0 RX2 143 "java/lang/IndexOutOfBoundsException" ["java/lang/RuntimeException", "java/lang/Exception"]).filter (fun w => !goodWord w), w ∈ exW := by decide +kernel
theorem thr_X2_courseAt_ot : ∀ w ∈ Cond.classLink RX2 141 "java/lang/IndexOutOfBoundsException" :: Cond.initialized "java/lang/IndexOutOfBoundsException" :: vx_at0 RX2 143 "java/lang/IndexOutOfBoundsException" ["java/lang/RuntimeException", "java/lang/Exception"], vx_ot w = true := by decide +kernel
end
section
set_option maxHeartbeats 4000000 in
set_option maxRecDepth 100000 in
theorem c_X2_isWithin_1 (l : Launch) (G : Gx) (ws : va_W) (v lo hi : Int32) (h1 : lo ≤ v) (h2 : v ≤ hi) : MI l yX2_isWithin wsX2_isWithin ({ frames := 0, cells := 0, slots := 0, locals := 0 } : Room) [.int v, .int lo, .int hi] G (ws) (fun u => ws) 1 := by
  refine ofMI (cc := cX2_isWithin) (maxL := 3) (ret := (some .boolean)) (by decide) rfl (Nat.le_of_ble_eq_true rfl) (fun p e s m below meth c A ls F hr hnm hH hl => ?_)
  have F : Fx G p s m _ meth c cX2_isWithin 3 wsX2_isWithin RX2 A := F
  have hx := F.1.1
  have hb := F.1.2.1
  have hl : lv_has ls 3 [(0, .int v), (1, .int lo), (2, .int hi)] := hl
  refine lv_iload_n hx hb dX2_isWithin_0 rfl (lv_at hl 0 rfl) ?_
  refine lv_iload_n hx hb dX2_isWithin_1 rfl (lv_at hl 1 rfl) ?_
  refine lv_icmp_lt (tgt := 14) hx hb dX2_isWithin_2 (by decide) (fun c_2 => absurd c_2 (i_nlt h1)) (fun c_2 => ?_)
  refine lv_iload_n hx hb dX2_isWithin_5 rfl (lv_at hl 0 rfl) ?_
  refine lv_iload_n hx hb dX2_isWithin_6 rfl (lv_at hl 2 rfl) ?_
  refine lv_icmp_gt (tgt := 14) hx hb dX2_isWithin_7 (by decide) (fun c_7 => absurd c_7 (i_nlt h2)) (fun c_7 => ?_)
  refine lv_iconst (v := 1) hx hb dX2_isWithin_10 (by decide) ?_
  refine lv_goto (tgt := 15) hx hb dX2_isWithin_11 (by decide) ?_
  exact retI F hr rfl (fun _ => 0) hH rfl (Nat.le_of_ble_eq_true rfl) (Nat.le_of_ble_eq_true rfl) dX2_isWithin_15

set_option maxHeartbeats 4000000 in
set_option maxRecDepth 100000 in
theorem c_X2_isWithin_0 (l : Launch) (G : Gx) (ws : va_W) (v lo hi : Int32) (h : v < lo ∨ hi < v) : MI l yX2_isWithin wsX2_isWithin ({ frames := 0, cells := 0, slots := 0, locals := 0 } : Room) [.int v, .int lo, .int hi] G (ws) (fun u => ws) 0 := by
  refine ofMI (cc := cX2_isWithin) (maxL := 3) (ret := (some .boolean)) (by decide) rfl (Nat.le_of_ble_eq_true rfl) (fun p e s m below meth c A ls F hr hnm hH hl => ?_)
  have F : Fx G p s m _ meth c cX2_isWithin 3 wsX2_isWithin RX2 A := F
  have hx := F.1.1
  have hb := F.1.2.1
  have hl : lv_has ls 3 [(0, .int v), (1, .int lo), (2, .int hi)] := hl
  refine lv_iload_n hx hb dX2_isWithin_0 rfl (lv_at hl 0 rfl) ?_
  refine lv_iload_n hx hb dX2_isWithin_1 rfl (lv_at hl 1 rfl) ?_
  refine lv_icmp_lt (tgt := 14) hx hb dX2_isWithin_2 (by decide) (fun c_2 => ?_) (fun c_2 => ?_)
  · refine lv_iconst (v := 0) hx hb dX2_isWithin_14 (by decide) ?_
    exact retI F hr rfl (fun _ => 0) hH rfl (Nat.le_of_ble_eq_true rfl) (Nat.le_of_ble_eq_true rfl) dX2_isWithin_15
  · refine lv_iload_n hx hb dX2_isWithin_5 rfl (lv_at hl 0 rfl) ?_
    refine lv_iload_n hx hb dX2_isWithin_6 rfl (lv_at hl 2 rfl) ?_
    refine lv_icmp_gt (tgt := 14) hx hb dX2_isWithin_7 (by decide) (fun c_7 => ?_) (fun c_7 => absurd (h.resolve_left c_2) c_7)
    refine lv_iconst (v := 0) hx hb dX2_isWithin_14 (by decide) ?_
    exact retI F hr rfl (fun _ => 0) hH rfl (Nat.le_of_ble_eq_true rfl) (Nat.le_of_ble_eq_true rfl) dX2_isWithin_15

set_option maxHeartbeats 4000000 in
set_option maxRecDepth 100000 in
theorem c_X2_requireArgument_1 (l : Launch) (G : Gx) (ws : va_W) : MV l yX2_requireArgument wsX2_requireArgument ({ frames := 0, cells := 0, slots := 0, locals := 0 } : Room) [.int 1] G (ws) (fun u => ws) := by
  refine ofMV (cc := cX2_requireArgument) (maxL := 1) (ret := none) (by decide) rfl (Nat.le_of_ble_eq_true rfl) (fun p e s m below meth c A ls F hr hnm hH hl => ?_)
  have F : Fx G p s m _ meth c cX2_requireArgument 1 wsX2_requireArgument RX2 A := F
  have hx := F.1.1
  have hb := F.1.2.1
  have hl : lv_has ls 1 [(0, .int 1)] := hl
  refine lv_iload_n hx hb dX2_requireArgument_0 rfl (lv_at hl 0 rfl) ?_
  refine lv_if_ne (tgt := 12) hx hb dX2_requireArgument_1 (by decide) (fun c_1 => ?_) (fun c_1 => absurd c_1 (by decide))
  exact retV F hr (fun _ => 0) hH (Nat.le_of_ble_eq_true rfl) (Nat.le_of_ble_eq_true rfl) dX2_requireArgument_12

set_option maxHeartbeats 4000000 in
set_option maxRecDepth 100000 in
theorem c_X2_requireArgument_0 (l : Launch) (hst : l.stackTraces = false) (G : Gx) (ws : va_W) : MX l yX2_requireArgument wsX2_requireArgument ({ frames := 6, cells := 1, slots := 6, locals := 90 } : Room) [.int 0] G (ws) "java/lang/IllegalArgumentException" := by
  refine ofMX (cc := cX2_requireArgument) (maxL := 1) (ret := none) (by decide) rfl (Nat.le_of_ble_eq_true rfl) (fun p e s m below meth c A ls F htb hH hl => ?_)
  have F : Fx G p s m _ meth c cX2_requireArgument 1 wsX2_requireArgument RX2 A := F
  have hx := F.1.1
  have hb := F.1.2.1
  have hl : lv_has ls 1 [(0, .int 0)] := hl
  refine lv_iload_n hx hb dX2_requireArgument_0 rfl (lv_at hl 0 rfl) ?_
  refine lv_if_ne (tgt := 12) hx hb dX2_requireArgument_1 (by decide) (fun c_1 => absurd rfl c_1) (fun c_1 => ?_)
  exact throw0 F hst (names := ["java/lang/RuntimeException", "java/lang/Exception"]) (ik := 144) (ic := 146) (by decide +kernel) (by decide +kernel) (by decide +kernel) (by decide +kernel) thr_X2_requireArgument thr_X2_requireArgument_c thr_X2_requireArgument_ot hH hl.1 dX2_requireArgument_4 dX2_requireArgument_7 dX2_requireArgument_8 dX2_requireArgument_11 htb (Nat.le_of_ble_eq_true rfl) (Nat.le_of_ble_eq_true rfl) (Nat.le_of_ble_eq_true rfl) (Nat.le_of_ble_eq_true rfl) (Nat.le_of_ble_eq_true rfl) (Nat.le_of_ble_eq_true rfl)

set_option maxHeartbeats 4000000 in
set_option maxRecDepth 100000 in
theorem c_X2_requireState_1 (l : Launch) (G : Gx) (ws : va_W) : MV l yX2_requireState wsX2_requireState ({ frames := 0, cells := 0, slots := 0, locals := 0 } : Room) [.int 1] G (ws) (fun u => ws) := by
  refine ofMV (cc := cX2_requireState) (maxL := 1) (ret := none) (by decide) rfl (Nat.le_of_ble_eq_true rfl) (fun p e s m below meth c A ls F hr hnm hH hl => ?_)
  have F : Fx G p s m _ meth c cX2_requireState 1 wsX2_requireState RX2 A := F
  have hx := F.1.1
  have hb := F.1.2.1
  have hl : lv_has ls 1 [(0, .int 1)] := hl
  refine lv_iload_n hx hb dX2_requireState_0 rfl (lv_at hl 0 rfl) ?_
  refine lv_if_ne (tgt := 12) hx hb dX2_requireState_1 (by decide) (fun c_1 => ?_) (fun c_1 => absurd c_1 (by decide))
  exact retV F hr (fun _ => 0) hH (Nat.le_of_ble_eq_true rfl) (Nat.le_of_ble_eq_true rfl) dX2_requireState_12

set_option maxHeartbeats 4000000 in
set_option maxRecDepth 100000 in
theorem c_X2_requireState_0 (l : Launch) (hst : l.stackTraces = false) (G : Gx) (ws : va_W) : MX l yX2_requireState wsX2_requireState ({ frames := 6, cells := 1, slots := 6, locals := 90 } : Room) [.int 0] G (ws) "java/lang/IllegalStateException" := by
  refine ofMX (cc := cX2_requireState) (maxL := 1) (ret := none) (by decide) rfl (Nat.le_of_ble_eq_true rfl) (fun p e s m below meth c A ls F htb hH hl => ?_)
  have F : Fx G p s m _ meth c cX2_requireState 1 wsX2_requireState RX2 A := F
  have hx := F.1.1
  have hb := F.1.2.1
  have hl : lv_has ls 1 [(0, .int 0)] := hl
  refine lv_iload_n hx hb dX2_requireState_0 rfl (lv_at hl 0 rfl) ?_
  refine lv_if_ne (tgt := 12) hx hb dX2_requireState_1 (by decide) (fun c_1 => absurd rfl c_1) (fun c_1 => ?_)
  exact throw0 F hst (names := ["java/lang/RuntimeException", "java/lang/Exception"]) (ik := 147) (ic := 149) (by decide +kernel) (by decide +kernel) (by decide +kernel) (by decide +kernel) thr_X2_requireState thr_X2_requireState_c thr_X2_requireState_ot hH hl.1 dX2_requireState_4 dX2_requireState_7 dX2_requireState_8 dX2_requireState_11 htb (Nat.le_of_ble_eq_true rfl) (Nat.le_of_ble_eq_true rfl) (Nat.le_of_ble_eq_true rfl) (Nat.le_of_ble_eq_true rfl) (Nat.le_of_ble_eq_true rfl) (Nat.le_of_ble_eq_true rfl)

set_option maxHeartbeats 4000000 in
set_option maxRecDepth 100000 in
theorem c_X2_isSpan_1 (l : Launch) (G : Gx) (ws : va_W) (x y : Int32) (h1 : 0 ≤ x) (h2 : x ≤ 200) (h3 : x ≤ y) (h4 : y ≤ 200) : MI l yX2_isSpan wsX2_isSpan ({ frames := 1, cells := 0, slots := 0, locals := 22 } : Room) [.int x, .int y] G (ws) (fun u => ws) 1 := by
  refine ofMI (cc := cX2_isSpan) (maxL := 2) (ret := (some .boolean)) (by decide) rfl (Nat.le_of_ble_eq_true rfl) (fun p e s m below meth c A ls F hr hnm hH hl => ?_)
  have F : Fx G p s m _ meth c cX2_isSpan 2 wsX2_isSpan RX2 A := F
  have hx := F.1.1
  have hb := F.1.2.1
  have hl : lv_has ls 2 [(0, .int x), (1, .int y)] := hl
  refine lv_iload_n hx hb dX2_isSpan_0 rfl (lv_at hl 0 rfl) ?_
  refine lv_iconst (v := 0) hx hb dX2_isSpan_1 (by decide) ?_
  refine lv_sipush (v := 200) hx hb dX2_isSpan_2 (by decide) ?_
  refine callSI0 (rest := []) F (c_X2_isWithin_1 l G ws x 0 200 h1 h2) gX2_isSpan_X2_isWithin rfl hdX2_isWithin ⟨Nat.le_of_ble_eq_true rfl, Nat.le_of_ble_eq_true rfl⟩ hH rfl hl.1 (Nat.le_of_ble_eq_true rfl) dX2_isSpan_5 ⟨Nat.le_of_ble_eq_true rfl, Nat.le_of_ble_eq_true rfl⟩ rfl (fun u H locs hH => ?_)
  have hH : HH G A s (ws) H locs := hH
  refine lv_if_eq (tgt := 26) hx hb dX2_isSpan_8 (by decide) (fun c_8 => absurd c_8 (by decide)) (fun c_8 => ?_)
  refine lv_iload_n hx hb dX2_isSpan_11 rfl (lv_at hl 1 rfl) ?_
  refine lv_iload_n hx hb dX2_isSpan_12 rfl (lv_at hl 0 rfl) ?_
  refine lv_sipush (v := 200) hx hb dX2_isSpan_13 (by decide) ?_
  refine callSI0 (rest := []) F (c_X2_isWithin_1 l G ws y x 200 h3 h4) gX2_isSpan_X2_isWithin rfl hdX2_isWithin ⟨Nat.le_of_ble_eq_true rfl, Nat.le_of_ble_eq_true rfl⟩ hH rfl hl.1 (Nat.le_of_ble_eq_true rfl) dX2_isSpan_16 ⟨Nat.le_of_ble_eq_true rfl, Nat.le_of_ble_eq_true rfl⟩ rfl (fun u H locs hH => ?_)
  have hH : HH G A s (ws) H locs := hH
  refine lv_if_eq (tgt := 26) hx hb dX2_isSpan_19 (by decide) (fun c_19 => absurd c_19 (by decide)) (fun c_19 => ?_)
  refine lv_iconst (v := 1) hx hb dX2_isSpan_22 (by decide) ?_
  refine lv_goto (tgt := 27) hx hb dX2_isSpan_23 (by decide) ?_
  exact retI F hr rfl (fun _ => 0) hH rfl (Nat.le_of_ble_eq_true rfl) (Nat.le_of_ble_eq_true rfl) dX2_isSpan_27

set_option maxHeartbeats 4000000 in
set_option maxRecDepth 100000 in
theorem c_X2_isSpan_0 (l : Launch) (G : Gx) (ws : va_W) (x y : Int32) (h : x < 0 ∨ 200 < x) : MI l yX2_isSpan wsX2_isSpan ({ frames := 1, cells := 0, slots := 0, locals := 22 } : Room) [.int x, .int y] G (ws) (fun u => ws) 0 := by
  refine ofMI (cc := cX2_isSpan) (maxL := 2) (ret := (some .boolean)) (by decide) rfl (Nat.le_of_ble_eq_true rfl) (fun p e s m below meth c A ls F hr hnm hH hl => ?_)
  have F : Fx G p s m _ meth c cX2_isSpan 2 wsX2_isSpan RX2 A := F
  have hx := F.1.1
  have hb := F.1.2.1
  have hl : lv_has ls 2 [(0, .int x), (1, .int y)] := hl
  refine lv_iload_n hx hb dX2_isSpan_0 rfl (lv_at hl 0 rfl) ?_
  refine lv_iconst (v := 0) hx hb dX2_isSpan_1 (by decide) ?_
  refine lv_sipush (v := 200) hx hb dX2_isSpan_2 (by decide) ?_
  refine callSI0 (rest := []) F (c_X2_isWithin_0 l G ws x 0 200 h) gX2_isSpan_X2_isWithin rfl hdX2_isWithin ⟨Nat.le_of_ble_eq_true rfl, Nat.le_of_ble_eq_true rfl⟩ hH rfl hl.1 (Nat.le_of_ble_eq_true rfl) dX2_isSpan_5 ⟨Nat.le_of_ble_eq_true rfl, Nat.le_of_ble_eq_true rfl⟩ rfl (fun u H locs hH => ?_)
  have hH : HH G A s (ws) H locs := hH
  refine lv_if_eq (tgt := 26) hx hb dX2_isSpan_8 (by decide) (fun c_8 => ?_) (fun c_8 => absurd rfl c_8)
  refine lv_iconst (v := 0) hx hb dX2_isSpan_26 (by decide) ?_
  exact retI F hr rfl (fun _ => 0) hH rfl (Nat.le_of_ble_eq_true rfl) (Nat.le_of_ble_eq_true rfl) dX2_isSpan_27

set_option maxHeartbeats 4000000 in
set_option maxRecDepth 100000 in
theorem c_X2_isSpan_00 (l : Launch) (G : Gx) (ws : va_W) (x y : Int32) (h1 : 0 ≤ x) (h2 : x ≤ 200) (h : y < x ∨ 200 < y) : MI l yX2_isSpan wsX2_isSpan ({ frames := 1, cells := 0, slots := 0, locals := 22 } : Room) [.int x, .int y] G (ws) (fun u => ws) 0 := by
  refine ofMI (cc := cX2_isSpan) (maxL := 2) (ret := (some .boolean)) (by decide) rfl (Nat.le_of_ble_eq_true rfl) (fun p e s m below meth c A ls F hr hnm hH hl => ?_)
  have F : Fx G p s m _ meth c cX2_isSpan 2 wsX2_isSpan RX2 A := F
  have hx := F.1.1
  have hb := F.1.2.1
  have hl : lv_has ls 2 [(0, .int x), (1, .int y)] := hl
  refine lv_iload_n hx hb dX2_isSpan_0 rfl (lv_at hl 0 rfl) ?_
  refine lv_iconst (v := 0) hx hb dX2_isSpan_1 (by decide) ?_
  refine lv_sipush (v := 200) hx hb dX2_isSpan_2 (by decide) ?_
  refine callSI0 (rest := []) F (c_X2_isWithin_1 l G ws x 0 200 h1 h2) gX2_isSpan_X2_isWithin rfl hdX2_isWithin ⟨Nat.le_of_ble_eq_true rfl, Nat.le_of_ble_eq_true rfl⟩ hH rfl hl.1 (Nat.le_of_ble_eq_true rfl) dX2_isSpan_5 ⟨Nat.le_of_ble_eq_true rfl, Nat.le_of_ble_eq_true rfl⟩ rfl (fun u H locs hH => ?_)
  have hH : HH G A s (ws) H locs := hH
  refine lv_if_eq (tgt := 26) hx hb dX2_isSpan_8 (by decide) (fun c_8 => absurd c_8 (by decide)) (fun c_8 => ?_)
  refine lv_iload_n hx hb dX2_isSpan_11 rfl (lv_at hl 1 rfl) ?_
  refine lv_iload_n hx hb dX2_isSpan_12 rfl (lv_at hl 0 rfl) ?_
  refine lv_sipush (v := 200) hx hb dX2_isSpan_13 (by decide) ?_
  refine callSI0 (rest := []) F (c_X2_isWithin_0 l G ws y x 200 h) gX2_isSpan_X2_isWithin rfl hdX2_isWithin ⟨Nat.le_of_ble_eq_true rfl, Nat.le_of_ble_eq_true rfl⟩ hH rfl hl.1 (Nat.le_of_ble_eq_true rfl) dX2_isSpan_16 ⟨Nat.le_of_ble_eq_true rfl, Nat.le_of_ble_eq_true rfl⟩ rfl (fun u H locs hH => ?_)
  have hH : HH G A s (ws) H locs := hH
  refine lv_if_eq (tgt := 26) hx hb dX2_isSpan_19 (by decide) (fun c_19 => ?_) (fun c_19 => absurd rfl c_19)
  refine lv_iconst (v := 0) hx hb dX2_isSpan_26 (by decide) ?_
  exact retI F hr rfl (fun _ => 0) hH rfl (Nat.le_of_ble_eq_true rfl) (Nat.le_of_ble_eq_true rfl) dX2_isSpan_27

set_option maxHeartbeats 4000000 in
set_option maxRecDepth 100000 in
theorem c_X2_hasPassed_1 (l : Launch) (G : Gx) (q : Nat → Nat) (n nc t : Nat) (fl fd : Int32) (k : Nat → Int32) (wd : Nat → Nat → Nat) (wf : Nat → Nat → Int32) (wa : Nat → Nat → Nat → Int32) (cd : Nat → Nat) (cf : Nat → Nat → Int32) (ht : t < 1000) (j : Nat) (hj : j < t) : MI l yX2_hasPassed wsX2_hasPassed ({ frames := 1, cells := 0, slots := 0, locals := 22 } : Room) [.ref (q 0), .int (nI j)] G (sW G q n nc t fl fd k wd wf wa cd cf) (fun u => sW G q n nc t fl fd k wd wf wa cd cf) 1 := by
  refine ofMI (cc := cX2_hasPassed) (maxL := 2) (ret := (some .boolean)) (by decide) rfl (Nat.le_of_ble_eq_true rfl) (fun p e s m below meth c A ls F hr hnm hH hl => ?_)
  have F : Fx G p s m _ meth c cX2_hasPassed 2 wsX2_hasPassed RX2 A := F
  have hx := F.1.1
  have hb := F.1.2.1
  have hl : lv_has ls 2 [(0, .ref (q 0)), (1, .int (nI j))] := hl
  refine lv_iload_n hx hb dX2_hasPassed_0 rfl (lv_at hl 1 rfl) ?_
  refine lv_iconst (v := 0) hx hb dX2_hasPassed_1 (by decide) ?_
  refine lv_aload_n hx hb dX2_hasPassed_2 rfl (lv_at hl 0 rfl) ?_
  refine rget (C := RX2) (T := TX2) (N := 8) (ref := RX2) F in_X2_hasPassed_X2 hH 0 rfl rfl 5 (by decide) (by decide +kernel) (fun _ h9 => h9) (v := .int (nI t)) rfl dX2_hasPassed_3 ?_
  refine lv_iconst (v := 1) hx hb dX2_hasPassed_6 (by decide) ?_
  refine lv_isub hx hb dX2_hasPassed_7 ?_
  refine callSI0 (rest := []) F (c_X2_isWithin_1 l G _ (nI j) 0 (nI t - 1) (nI_pos' (by omega)) (nI_le_m1 hj (by omega))) gX2_hasPassed_X2_isWithin rfl hdX2_isWithin ⟨Nat.le_of_ble_eq_true rfl, Nat.le_of_ble_eq_true rfl⟩ hH rfl hl.1 (Nat.le_of_ble_eq_true rfl) dX2_hasPassed_8 ⟨Nat.le_of_ble_eq_true rfl, Nat.le_of_ble_eq_true rfl⟩ rfl (fun u H locs hH => ?_)
  have hH : HH G A s (sW G q n nc t fl fd k wd wf wa cd cf) H locs := hH
  exact retI F hr rfl (fun _ => 0) hH rfl (Nat.le_of_ble_eq_true rfl) (Nat.le_of_ble_eq_true rfl) dX2_hasPassed_11

set_option maxHeartbeats 4000000 in
set_option maxRecDepth 100000 in
theorem c_X2_hasPassed_0 (l : Launch) (G : Gx) (q : Nat → Nat) (n nc t : Nat) (fl fd : Int32) (k : Nat → Int32) (wd : Nat → Nat → Nat) (wf : Nat → Nat → Int32) (wa : Nat → Nat → Nat → Int32) (cd : Nat → Nat) (cf : Nat → Nat → Int32) (ht : t < 1000) (v : Int32) (h : v < 0 ∨ nI t ≤ v) : MI l yX2_hasPassed wsX2_hasPassed ({ frames := 1, cells := 0, slots := 0, locals := 22 } : Room) [.ref (q 0), .int v] G (sW G q n nc t fl fd k wd wf wa cd cf) (fun u => sW G q n nc t fl fd k wd wf wa cd cf) 0 := by
  refine ofMI (cc := cX2_hasPassed) (maxL := 2) (ret := (some .boolean)) (by decide) rfl (Nat.le_of_ble_eq_true rfl) (fun p e s m below meth c A ls F hr hnm hH hl => ?_)
  have F : Fx G p s m _ meth c cX2_hasPassed 2 wsX2_hasPassed RX2 A := F
  have hx := F.1.1
  have hb := F.1.2.1
  have hl : lv_has ls 2 [(0, .ref (q 0)), (1, .int v)] := hl
  refine lv_iload_n hx hb dX2_hasPassed_0 rfl (lv_at hl 1 rfl) ?_
  refine lv_iconst (v := 0) hx hb dX2_hasPassed_1 (by decide) ?_
  refine lv_aload_n hx hb dX2_hasPassed_2 rfl (lv_at hl 0 rfl) ?_
  refine rget (C := RX2) (T := TX2) (N := 8) (ref := RX2) F in_X2_hasPassed_X2 hH 0 rfl rfl 5 (by decide) (by decide +kernel) (fun _ h9 => h9) (v := .int (nI t)) rfl dX2_hasPassed_3 ?_
  refine lv_iconst (v := 1) hx hb dX2_hasPassed_6 (by decide) ?_
  refine lv_isub hx hb dX2_hasPassed_7 ?_
  refine callSI0 (rest := []) F (c_X2_isWithin_0 l G _ v 0 (nI t - 1) (out_m1 (by omega) h)) gX2_hasPassed_X2_isWithin rfl hdX2_isWithin ⟨Nat.le_of_ble_eq_true rfl, Nat.le_of_ble_eq_true rfl⟩ hH rfl hl.1 (Nat.le_of_ble_eq_true rfl) dX2_hasPassed_8 ⟨Nat.le_of_ble_eq_true rfl, Nat.le_of_ble_eq_true rfl⟩ rfl (fun u H locs hH => ?_)
  have hH : HH G A s (sW G q n nc t fl fd k wd wf wa cd cf) H locs := hH
  exact retI F hr rfl (fun _ => 0) hH rfl (Nat.le_of_ble_eq_true rfl) (Nat.le_of_ble_eq_true rfl) dX2_hasPassed_11

set_option maxHeartbeats 4000000 in
set_option maxRecDepth 100000 in
theorem c_X2_workerAt_1 (l : Launch) (G : Gx) (q : Nat → Nat) (n nc t : Nat) (fl fd : Int32) (k : Nat → Int32) (wd : Nat → Nat → Nat) (wf : Nat → Nat → Int32) (wa : Nat → Nat → Nat → Int32) (cd : Nat → Nat) (cf : Nat → Nat → Int32) (hn : n ≤ 8) (i : Nat) (hi : i < n) : MR l yX2_workerAt wsX2_workerAt ({ frames := 1, cells := 0, slots := 0, locals := 22 } : Room) [.ref (q 0), .int (nI i)] G (sW G q n nc t fl fd k wd wf wa cd cf) (wd i 0) := by
  refine ofMR (cc := cX2_workerAt) (maxL := 3) (ret := (some (.object "ShortWork$Worker"))) (by decide) rfl (Nat.le_of_ble_eq_true rfl) (fun p e s m below meth c A ls F hr hnm hH hl => ?_)
  have F : Fx G p s m _ meth c cX2_workerAt 3 wsX2_workerAt RX2 A := F
  have hx := F.1.1
  have hb := F.1.2.1
  have hl : lv_has ls 3 [(0, .ref (q 0)), (1, .int (nI i))] := hl
  refine lv_iload_n hx hb dX2_workerAt_0 rfl (lv_at hl 1 rfl) ?_
  refine lv_iconst (v := 0) hx hb dX2_workerAt_1 (by decide) ?_
  refine lv_aload_n hx hb dX2_workerAt_2 rfl (lv_at hl 0 rfl) ?_
  refine rget (C := RX2) (T := TX2) (N := 8) (ref := RX2) F in_X2_workerAt_X2 hH 0 rfl rfl 3 (by decide) (by decide +kernel) (fun _ h9 => h9) (v := .int (nI n)) rfl dX2_workerAt_3 ?_
  refine lv_iconst (v := 1) hx hb dX2_workerAt_6 (by decide) ?_
  refine lv_isub hx hb dX2_workerAt_7 ?_
  refine callSI0 (rest := []) F (c_X2_isWithin_1 l G _ (nI i) 0 (nI n - 1) (nI_pos' (by omega)) (nI_le_m1 hi (by omega))) gX2_workerAt_X2_isWithin rfl hdX2_isWithin ⟨Nat.le_of_ble_eq_true rfl, Nat.le_of_ble_eq_true rfl⟩ hH rfl hl.1 (Nat.le_of_ble_eq_true rfl) dX2_workerAt_8 ⟨Nat.le_of_ble_eq_true rfl, Nat.le_of_ble_eq_true rfl⟩ rfl (fun u H locs hH => ?_)
  have hH : HH G A s (sW G q n nc t fl fd k wd wf wa cd cf) H locs := hH
  refine lv_if_eq (tgt := 23) hx hb dX2_workerAt_11 (by decide) (fun c_11 => absurd c_11 (by decide)) (fun c_11 => ?_)
  refine lv_aload_n hx hb dX2_workerAt_14 rfl (lv_at hl 0 rfl) ?_
  refine rget (C := RX2) (T := TX2) (N := 8) (ref := RX2) F in_X2_workerAt_X2 hH 0 rfl rfl 0 (by decide) (by decide +kernel) (fun _ h9 => h9) (v := .ref (q 1)) rfl dX2_workerAt_15 ?_
  refine lv_iload_n hx hb dX2_workerAt_18 rfl (lv_at hl 1 rfl) ?_
  refine raald F hH 1 2 rfl rfl i rfl (by omega) (by decide) (v := .ref (wd i 0)) (rfT_in hi) dX2_workerAt_19 ?_
  refine lv_goto (tgt := 24) hx hb dX2_workerAt_20 (by decide) ?_
  refine lv_astore_n (lv' := [(2, .ref (wd i 0)), (0, .ref (q 0)), (1, .int (nI i))]) hx hb dX2_workerAt_24 rfl hl (by decide) rfl (fun ls hl => ?_)
  refine lv_aload_n hx hb dX2_workerAt_25 rfl (lv_at hl 0 rfl) ?_
  refine lv_ifnonnull (tgt := 37) hx hb dX2_workerAt_26 (by decide) ?_
  refine lv_aload_n hx hb dX2_workerAt_37 rfl (lv_at hl 0 rfl) ?_
  exact retR F hr hH (Nat.le_of_ble_eq_true rfl) (Nat.le_of_ble_eq_true rfl) dX2_workerAt_38

set_option maxHeartbeats 4000000 in
set_option maxRecDepth 100000 in
theorem c_X2_workerAt_0 (l : Launch) (hst : l.stackTraces = false) (G : Gx) (q : Nat → Nat) (n nc t : Nat) (fl fd : Int32) (k : Nat → Int32) (wd : Nat → Nat → Nat) (wf : Nat → Nat → Int32) (wa : Nat → Nat → Nat → Int32) (cd : Nat → Nat) (cf : Nat → Nat → Int32) (hn : n ≤ 8) (v : Int32) (h : v < 0 ∨ nI n ≤ v) : MX l yX2_workerAt wsX2_workerAt ({ frames := 6, cells := 1, slots := 6, locals := 90 } : Room) [.ref (q 0), .int v] G (sW G q n nc t fl fd k wd wf wa cd cf) "java/lang/IndexOutOfBoundsException" := by
  refine ofMX (cc := cX2_workerAt) (maxL := 3) (ret := (some (.object "ShortWork$Worker"))) (by decide) rfl (Nat.le_of_ble_eq_true rfl) (fun p e s m below meth c A ls F htb hH hl => ?_)
  have F : Fx G p s m _ meth c cX2_workerAt 3 wsX2_workerAt RX2 A := F
  have hx := F.1.1
  have hb := F.1.2.1
  have hl : lv_has ls 3 [(0, .ref (q 0)), (1, .int v)] := hl
  refine lv_iload_n hx hb dX2_workerAt_0 rfl (lv_at hl 1 rfl) ?_
  refine lv_iconst (v := 0) hx hb dX2_workerAt_1 (by decide) ?_
  refine lv_aload_n hx hb dX2_workerAt_2 rfl (lv_at hl 0 rfl) ?_
  refine rget (C := RX2) (T := TX2) (N := 8) (ref := RX2) F in_X2_workerAt_X2 hH 0 rfl rfl 3 (by decide) (by decide +kernel) (fun _ h9 => h9) (v := .int (nI n)) rfl dX2_workerAt_3 ?_
  refine lv_iconst (v := 1) hx hb dX2_workerAt_6 (by decide) ?_
  refine lv_isub hx hb dX2_workerAt_7 ?_
  refine callSI0 (rest := []) F (c_X2_isWithin_0 l G _ v 0 (nI n - 1) (out_m1 (by omega) h)) gX2_workerAt_X2_isWithin rfl hdX2_isWithin ⟨Nat.le_of_ble_eq_true rfl, Nat.le_of_ble_eq_true rfl⟩ hH rfl hl.1 (Nat.le_of_ble_eq_true rfl) dX2_workerAt_8 ⟨Nat.le_of_ble_eq_true rfl, Nat.le_of_ble_eq_true rfl⟩ rfl (fun u H locs hH => ?_)
  have hH : HH G A s (sW G q n nc t fl fd k wd wf wa cd cf) H locs := hH
  refine lv_if_eq (tgt := 23) hx hb dX2_workerAt_11 (by decide) (fun c_11 => ?_) (fun c_11 => absurd rfl c_11)
  refine lv_null hx hb dX2_workerAt_23 ?_
  refine lv_astore_nN (lv' := [(2, .null), (0, .ref (q 0)), (1, .int v)]) hx hb dX2_workerAt_24 rfl hl (by decide) rfl (fun ls hl => ?_)
  refine lv_aload_nN hx hb dX2_workerAt_25 rfl (lv_at hl 0 rfl) ?_
  refine lv_ifnonnullN hx hb dX2_workerAt_26 ?_
  exact throw0 F hst (names := ["java/lang/RuntimeException", "java/lang/Exception"]) (ik := 141) (ic := 143) (by decide +kernel) (by decide +kernel) (by decide +kernel) (by decide +kernel) thr_X2_workerAt thr_X2_workerAt_c thr_X2_workerAt_ot hH hl.1 dX2_workerAt_29 dX2_workerAt_32 dX2_workerAt_33 dX2_workerAt_36 htb (Nat.le_of_ble_eq_true rfl) (Nat.le_of_ble_eq_true rfl) (Nat.le_of_ble_eq_true rfl) (Nat.le_of_ble_eq_true rfl) (Nat.le_of_ble_eq_true rfl) (Nat.le_of_ble_eq_true rfl)

set_option maxHeartbeats 4000000 in
set_option maxRecDepth 100000 in
theorem c_X2_courseAt_1 (l : Launch) (G : Gx) (q : Nat → Nat) (n nc t : Nat) (fl fd : Int32) (k : Nat → Int32) (wd : Nat → Nat → Nat) (wf : Nat → Nat → Int32) (wa : Nat → Nat → Nat → Int32) (cd : Nat → Nat) (cf : Nat → Nat → Int32) (hn : nc ≤ 10) (i : Nat) (hi : i < nc) : MR l yX2_courseAt wsX2_courseAt ({ frames := 1, cells := 0, slots := 0, locals := 22 } : Room) [.ref (q 0), .int (nI i)] G (sW G q n nc t fl fd k wd wf wa cd cf) (cd i) := by
  refine ofMR (cc := cX2_courseAt) (maxL := 3) (ret := (some (.object "ShortWork$Course"))) (by decide) rfl (Nat.le_of_ble_eq_true rfl) (fun p e s m below meth c A ls F hr hnm hH hl => ?_)
  have F : Fx G p s m _ meth c cX2_courseAt 3 wsX2_courseAt RX2 A := F
  have hx := F.1.1
  have hb := F.1.2.1
  have hl : lv_has ls 3 [(0, .ref (q 0)), (1, .int (nI i))] := hl
  refine lv_iload_n hx hb dX2_courseAt_0 rfl (lv_at hl 1 rfl) ?_
  refine lv_iconst (v := 0) hx hb dX2_courseAt_1 (by decide) ?_
  refine lv_aload_n hx hb dX2_courseAt_2 rfl (lv_at hl 0 rfl) ?_
  refine rget (C := RX2) (T := TX2) (N := 8) (ref := RX2) F in_X2_courseAt_X2 hH 0 rfl rfl 4 (by decide) (by decide +kernel) (fun _ h9 => h9) (v := .int (nI nc)) rfl dX2_courseAt_3 ?_
  refine lv_iconst (v := 1) hx hb dX2_courseAt_6 (by decide) ?_
  refine lv_isub hx hb dX2_courseAt_7 ?_
  refine callSI0 (rest := []) F (c_X2_isWithin_1 l G _ (nI i) 0 (nI nc - 1) (nI_pos' (by omega)) (nI_le_m1 hi (by omega))) gX2_courseAt_X2_isWithin rfl hdX2_isWithin ⟨Nat.le_of_ble_eq_true rfl, Nat.le_of_ble_eq_true rfl⟩ hH rfl hl.1 (Nat.le_of_ble_eq_true rfl) dX2_courseAt_8 ⟨Nat.le_of_ble_eq_true rfl, Nat.le_of_ble_eq_true rfl⟩ rfl (fun u H locs hH => ?_)
  have hH : HH G A s (sW G q n nc t fl fd k wd wf wa cd cf) H locs := hH
  refine lv_if_eq (tgt := 23) hx hb dX2_courseAt_11 (by decide) (fun c_11 => absurd c_11 (by decide)) (fun c_11 => ?_)
  refine lv_aload_n hx hb dX2_courseAt_14 rfl (lv_at hl 0 rfl) ?_
  refine rget (C := RX2) (T := TX2) (N := 8) (ref := RX2) F in_X2_courseAt_X2 hH 0 rfl rfl 1 (by decide) (by decide +kernel) (fun _ h9 => h9) (v := .ref (q 2)) rfl dX2_courseAt_15 ?_
  refine lv_iload_n hx hb dX2_courseAt_18 rfl (lv_at hl 1 rfl) ?_
  refine raald F hH 2 3 rfl rfl i rfl (by omega) (by decide) (v := .ref (cd i)) (rfT_in hi) dX2_courseAt_19 ?_
  refine lv_goto (tgt := 24) hx hb dX2_courseAt_20 (by decide) ?_
  refine lv_astore_n (lv' := [(2, .ref (cd i)), (0, .ref (q 0)), (1, .int (nI i))]) hx hb dX2_courseAt_24 rfl hl (by decide) rfl (fun ls hl => ?_)
  refine lv_aload_n hx hb dX2_courseAt_25 rfl (lv_at hl 0 rfl) ?_
  refine lv_ifnonnull (tgt := 37) hx hb dX2_courseAt_26 (by decide) ?_
  refine lv_aload_n hx hb dX2_courseAt_37 rfl (lv_at hl 0 rfl) ?_
  exact retR F hr hH (Nat.le_of_ble_eq_true rfl) (Nat.le_of_ble_eq_true rfl) dX2_courseAt_38

set_option maxHeartbeats 4000000 in
set_option maxRecDepth 100000 in
theorem c_X2_courseAt_0 (l : Launch) (hst : l.stackTraces = false) (G : Gx) (q : Nat → Nat) (n nc t : Nat) (fl fd : Int32) (k : Nat → Int32) (wd : Nat → Nat → Nat) (wf : Nat → Nat → Int32) (wa : Nat → Nat → Nat → Int32) (cd : Nat → Nat) (cf : Nat → Nat → Int32) (hn : nc ≤ 10) (v : Int32) (h : v < 0 ∨ nI nc ≤ v) : MX l yX2_courseAt wsX2_courseAt ({ frames := 6, cells := 1, slots := 6, locals := 90 } : Room) [.ref (q 0), .int v] G (sW G q n nc t fl fd k wd wf wa cd cf) "java/lang/IndexOutOfBoundsException" := by
  refine ofMX (cc := cX2_courseAt) (maxL := 3) (ret := (some (.object "ShortWork$Course"))) (by decide) rfl (Nat.le_of_ble_eq_true rfl) (fun p e s m below meth c A ls F htb hH hl => ?_)
  have F : Fx G p s m _ meth c cX2_courseAt 3 wsX2_courseAt RX2 A := F
  have hx := F.1.1
  have hb := F.1.2.1
  have hl : lv_has ls 3 [(0, .ref (q 0)), (1, .int v)] := hl
  refine lv_iload_n hx hb dX2_courseAt_0 rfl (lv_at hl 1 rfl) ?_
  refine lv_iconst (v := 0) hx hb dX2_courseAt_1 (by decide) ?_
  refine lv_aload_n hx hb dX2_courseAt_2 rfl (lv_at hl 0 rfl) ?_
  refine rget (C := RX2) (T := TX2) (N := 8) (ref := RX2) F in_X2_courseAt_X2 hH 0 rfl rfl 4 (by decide) (by decide +kernel) (fun _ h9 => h9) (v := .int (nI nc)) rfl dX2_courseAt_3 ?_
  refine lv_iconst (v := 1) hx hb dX2_courseAt_6 (by decide) ?_
  refine lv_isub hx hb dX2_courseAt_7 ?_
  refine callSI0 (rest := []) F (c_X2_isWithin_0 l G _ v 0 (nI nc - 1) (out_m1 (by omega) h)) gX2_courseAt_X2_isWithin rfl hdX2_isWithin ⟨Nat.le_of_ble_eq_true rfl, Nat.le_of_ble_eq_true rfl⟩ hH rfl hl.1 (Nat.le_of_ble_eq_true rfl) dX2_courseAt_8 ⟨Nat.le_of_ble_eq_true rfl, Nat.le_of_ble_eq_true rfl⟩ rfl (fun u H locs hH => ?_)
  have hH : HH G A s (sW G q n nc t fl fd k wd wf wa cd cf) H locs := hH
  refine lv_if_eq (tgt := 23) hx hb dX2_courseAt_11 (by decide) (fun c_11 => ?_) (fun c_11 => absurd rfl c_11)
  refine lv_null hx hb dX2_courseAt_23 ?_
  refine lv_astore_nN (lv' := [(2, .null), (0, .ref (q 0)), (1, .int v)]) hx hb dX2_courseAt_24 rfl hl (by decide) rfl (fun ls hl => ?_)
  refine lv_aload_nN hx hb dX2_courseAt_25 rfl (lv_at hl 0 rfl) ?_
  refine lv_ifnonnullN hx hb dX2_courseAt_26 ?_
  exact throw0 F hst (names := ["java/lang/RuntimeException", "java/lang/Exception"]) (ik := 141) (ic := 143) (by decide +kernel) (by decide +kernel) (by decide +kernel) (by decide +kernel) thr_X2_courseAt thr_X2_courseAt_c thr_X2_courseAt_ot hH hl.1 dX2_courseAt_29 dX2_courseAt_32 dX2_courseAt_33 dX2_courseAt_36 htb (Nat.le_of_ble_eq_true rfl) (Nat.le_of_ble_eq_true rfl) (Nat.le_of_ble_eq_true rfl) (Nat.le_of_ble_eq_true rfl) (Nat.le_of_ble_eq_true rfl) (Nat.le_of_ble_eq_true rfl)

set_option maxHeartbeats 4000000 in
set_option maxRecDepth 100000 in
theorem c_X2_workers (l : Launch) (G : Gx) (q : Nat → Nat) (n nc t : Nat) (fl fd : Int32) (k : Nat → Int32) (wd : Nat → Nat → Nat) (wf : Nat → Nat → Int32) (wa : Nat → Nat → Nat → Int32) (cd : Nat → Nat) (cf : Nat → Nat → Int32) : MI l yX2_workers wsX2_workers ({ frames := 0, cells := 0, slots := 0, locals := 0 } : Room) [.ref (q 0)] G (sW G q n nc t fl fd k wd wf wa cd cf) (fun u => sW G q n nc t fl fd k wd wf wa cd cf) (nI n) := by
  refine ofMI (cc := cX2_workers) (maxL := 1) (ret := (some .int)) (by decide) rfl (Nat.le_of_ble_eq_true rfl) (fun p e s m below meth c A ls F hr hnm hH hl => ?_)
  have F : Fx G p s m _ meth c cX2_workers 1 wsX2_workers RX2 A := F
  have hx := F.1.1
  have hb := F.1.2.1
  have hl : lv_has ls 1 [(0, .ref (q 0))] := hl
  refine lv_aload_n hx hb dX2_workers_0 rfl (lv_at hl 0 rfl) ?_
  refine rget (C := RX2) (T := TX2) (N := 8) (ref := RX2) F in_X2_workers_X2 hH 0 rfl rfl 3 (by decide) (by decide +kernel) (fun _ h9 => h9) (v := .int (nI n)) rfl dX2_workers_1 ?_
  exact retI F hr rfl (fun _ => 0) hH rfl (Nat.le_of_ble_eq_true rfl) (Nat.le_of_ble_eq_true rfl) dX2_workers_4

set_option maxHeartbeats 4000000 in
set_option maxRecDepth 100000 in
theorem c_X2_week (l : Launch) (G : Gx) (q : Nat → Nat) (n nc t : Nat) (fl fd : Int32) (k : Nat → Int32) (wd : Nat → Nat → Nat) (wf : Nat → Nat → Int32) (wa : Nat → Nat → Nat → Int32) (cd : Nat → Nat) (cf : Nat → Nat → Int32) : MI l yX2_week wsX2_week ({ frames := 0, cells := 0, slots := 0, locals := 0 } : Room) [.ref (q 0)] G (sW G q n nc t fl fd k wd wf wa cd cf) (fun u => sW G q n nc t fl fd k wd wf wa cd cf) (nI t) := by
  refine ofMI (cc := cX2_week) (maxL := 1) (ret := (some .int)) (by decide) rfl (Nat.le_of_ble_eq_true rfl) (fun p e s m below meth c A ls F hr hnm hH hl => ?_)
  have F : Fx G p s m _ meth c cX2_week 1 wsX2_week RX2 A := F
  have hx := F.1.1
  have hb := F.1.2.1
  have hl : lv_has ls 1 [(0, .ref (q 0))] := hl
  refine lv_aload_n hx hb dX2_week_0 rfl (lv_at hl 0 rfl) ?_
  refine rget (C := RX2) (T := TX2) (N := 8) (ref := RX2) F in_X2_week_X2 hH 0 rfl rfl 5 (by decide) (by decide +kernel) (fun _ h9 => h9) (v := .int (nI t)) rfl dX2_week_1 ?_
  exact retI F hr rfl (fun _ => 0) hH rfl (Nat.le_of_ble_eq_true rfl) (Nat.le_of_ble_eq_true rfl) dX2_week_4

set_option maxHeartbeats 4000000 in
set_option maxRecDepth 100000 in
theorem c_X2_firmOwes (l : Launch) (G : Gx) (q : Nat → Nat) (n nc t : Nat) (fl fd : Int32) (k : Nat → Int32) (wd : Nat → Nat → Nat) (wf : Nat → Nat → Int32) (wa : Nat → Nat → Nat → Int32) (cd : Nat → Nat) (cf : Nat → Nat → Int32) : MI l yX2_firmOwes wsX2_firmOwes ({ frames := 0, cells := 0, slots := 0, locals := 0 } : Room) [.ref (q 0)] G (sW G q n nc t fl fd k wd wf wa cd cf) (fun u => sW G q n nc t fl fd k wd wf wa cd cf) fd := by
  refine ofMI (cc := cX2_firmOwes) (maxL := 1) (ret := (some .int)) (by decide) rfl (Nat.le_of_ble_eq_true rfl) (fun p e s m below meth c A ls F hr hnm hH hl => ?_)
  have F : Fx G p s m _ meth c cX2_firmOwes 1 wsX2_firmOwes RX2 A := F
  have hx := F.1.1
  have hb := F.1.2.1
  have hl : lv_has ls 1 [(0, .ref (q 0))] := hl
  refine lv_aload_n hx hb dX2_firmOwes_0 rfl (lv_at hl 0 rfl) ?_
  refine rget (C := RX2) (T := TX2) (N := 8) (ref := RX2) F in_X2_firmOwes_X2 hH 0 rfl rfl 7 (by decide) (by decide +kernel) (fun _ h9 => h9) (v := .int fd) rfl dX2_firmOwes_1 ?_
  exact retI F hr rfl (fun _ => 0) hH rfl (Nat.le_of_ble_eq_true rfl) (Nat.le_of_ble_eq_true rfl) dX2_firmOwes_4

set_option maxHeartbeats 4000000 in
set_option maxRecDepth 100000 in
theorem c_X1_stepPercent (l : Launch) (G : Gx) (d : Nat → Nat) (f : Nat → Int32) (a : Nat → Nat → Int32) : MI l yX1_stepPercent wsX1_stepPercent ({ frames := 0, cells := 0, slots := 0, locals := 0 } : Room) [.ref (d 0)] G (wW G d f a) (fun u => wW G d f a) (stepP (f 9)) := by
  refine ofMI (cc := cX1_stepPercent) (maxL := 1) (ret := (some .int)) (by decide) rfl (Nat.le_of_ble_eq_true rfl) (fun p e s m below meth c A ls F hr hnm hH hl => ?_)
  have F : Fx G p s m _ meth c cX1_stepPercent 1 wsX1_stepPercent RX1 A := F
  have hx := F.1.1
  have hb := F.1.2.1
  have hl : lv_has ls 1 [(0, .ref (d 0))] := hl
  refine lv_aload_n hx hb dX1_stepPercent_0 rfl (lv_at hl 0 rfl) ?_
  refine rget (C := RX1) (T := TX1) (N := 12) (ref := RX1) F in_X1_stepPercent_X1 hH 0 rfl rfl 9 (by decide) (by decide +kernel) (fun _ h9 => h9) (v := .int (f 9)) rfl dX1_stepPercent_1 ?_
  refine lv_bipush (v := 24) hx hb dX1_stepPercent_4 (by decide) ?_
  refine lv_icmp_lt (tgt := 12) hx hb dX1_stepPercent_6 (by decide) (fun c_6 => ?_) (fun c_6 => ?_)
  · refine lv_aload_n hx hb dX1_stepPercent_12 rfl (lv_at hl 0 rfl) ?_
    refine rget (C := RX1) (T := TX1) (N := 12) (ref := RX1) F in_X1_stepPercent_X1 hH 0 rfl rfl 9 (by decide) (by decide +kernel) (fun _ h9 => h9) (v := .int (f 9)) rfl dX1_stepPercent_13 ?_
    refine lv_bipush (v := 12) hx hb dX1_stepPercent_16 (by decide) ?_
    refine lv_icmp_lt (tgt := 26) hx hb dX1_stepPercent_18 (by decide) (fun c_18 => ?_) (fun c_18 => ?_)
    · refine lv_bipush (v := 60) hx hb dX1_stepPercent_26 (by decide) ?_
      exact retI F hr rfl (fun _ => 0) hH (by unfold stepP; rw [if_pos c_6, if_pos c_18]) (Nat.le_of_ble_eq_true rfl) (Nat.le_of_ble_eq_true rfl) dX1_stepPercent_28
    · refine lv_bipush (v := 70) hx hb dX1_stepPercent_21 (by decide) ?_
      refine lv_goto (tgt := 28) hx hb dX1_stepPercent_23 (by decide) ?_
      exact retI F hr rfl (fun _ => 0) hH (by unfold stepP; rw [if_pos c_6, if_neg c_18]) (Nat.le_of_ble_eq_true rfl) (Nat.le_of_ble_eq_true rfl) dX1_stepPercent_28
  · refine lv_bipush (v := 80) hx hb dX1_stepPercent_9 (by decide) ?_
    exact retI F hr rfl (fun _ => 0) hH (by unfold stepP; rw [if_neg c_6]) (Nat.le_of_ble_eq_true rfl) (Nat.le_of_ble_eq_true rfl) dX1_stepPercent_11

set_option maxHeartbeats 4000000 in
set_option maxRecDepth 100000 in
theorem c_X1_hasFilled (l : Launch) (G : Gx) (d : Nat → Nat) (f : Nat → Int32) (a : Nat → Nat → Int32) (j : Nat) (hj : j < 201) : MI l yX1_hasFilled wsX1_hasFilled ({ frames := 0, cells := 0, slots := 0, locals := 0 } : Room) [.ref (d 0), .int (nI j)] G (wW G d f a) (fun u => wW G d f a) (fillB (a 3 j) (a 2 j)) := by
  refine ofMI (cc := cX1_hasFilled) (maxL := 2) (ret := (some .boolean)) (by decide) rfl (Nat.le_of_ble_eq_true rfl) (fun p e s m below meth c A ls F hr hnm hH hl => ?_)
  have F : Fx G p s m _ meth c cX1_hasFilled 2 wsX1_hasFilled RX1 A := F
  have hx := F.1.1
  have hb := F.1.2.1
  have hl : lv_has ls 2 [(0, .ref (d 0)), (1, .int (nI j))] := hl
  refine lv_aload_n hx hb dX1_hasFilled_0 rfl (lv_at hl 0 rfl) ?_
  refine rget (C := RX1) (T := TX1) (N := 12) (ref := RX1) F in_X1_hasFilled_X1 hH 0 rfl rfl 3 (by decide) (by decide +kernel) (fun _ h9 => h9) (v := .ref (d 3)) rfl dX1_hasFilled_1 ?_
  refine lv_iload_n hx hb dX1_hasFilled_4 rfl (lv_at hl 1 rfl) ?_
  refine riald F hH 2 (n := 201) (f := a 3) rfl j rfl hj (by decide) dX1_hasFilled_5 ?_
  refine lv_if_le (tgt := 30) hx hb dX1_hasFilled_6 (by decide) (fun c_6 => ?_) (fun c_6 => ?_)
  · refine lv_iconst (v := 0) hx hb dX1_hasFilled_30 (by decide) ?_
    exact retI F hr rfl (fun _ => 0) hH (by unfold fillB; rw [if_pos c_6]) (Nat.le_of_ble_eq_true rfl) (Nat.le_of_ble_eq_true rfl) dX1_hasFilled_31
  · refine lv_iconst (v := 2) hx hb dX1_hasFilled_9 (by decide) ?_
    refine lv_aload_n hx hb dX1_hasFilled_10 rfl (lv_at hl 0 rfl) ?_
    refine rget (C := RX1) (T := TX1) (N := 12) (ref := RX1) F in_X1_hasFilled_X1 hH 0 rfl rfl 3 (by decide) (by decide +kernel) (fun _ h9 => h9) (v := .ref (d 3)) rfl dX1_hasFilled_11 ?_
    refine lv_iload_n hx hb dX1_hasFilled_14 rfl (lv_at hl 1 rfl) ?_
    refine riald F hH 2 (n := 201) (f := a 3) rfl j rfl hj (by decide) dX1_hasFilled_15 ?_
    refine lv_imul hx hb dX1_hasFilled_16 ?_
    refine lv_aload_n hx hb dX1_hasFilled_17 rfl (lv_at hl 0 rfl) ?_
    refine rget (C := RX1) (T := TX1) (N := 12) (ref := RX1) F in_X1_hasFilled_X1 hH 0 rfl rfl 2 (by decide) (by decide +kernel) (fun _ h9 => h9) (v := .ref (d 2)) rfl dX1_hasFilled_18 ?_
    refine lv_iload_n hx hb dX1_hasFilled_21 rfl (lv_at hl 1 rfl) ?_
    refine riald F hH 1 (n := 201) (f := a 2) rfl j rfl hj (by decide) dX1_hasFilled_22 ?_
    refine lv_icmp_lt (tgt := 30) hx hb dX1_hasFilled_23 (by decide) (fun c_23 => ?_) (fun c_23 => ?_)
    · refine lv_iconst (v := 0) hx hb dX1_hasFilled_30 (by decide) ?_
      exact retI F hr rfl (fun _ => 0) hH (by unfold fillB; rw [if_neg c_6, if_pos c_23]) (Nat.le_of_ble_eq_true rfl) (Nat.le_of_ble_eq_true rfl) dX1_hasFilled_31
    · refine lv_iconst (v := 1) hx hb dX1_hasFilled_26 (by decide) ?_
      refine lv_goto (tgt := 31) hx hb dX1_hasFilled_27 (by decide) ?_
      exact retI F hr rfl (fun _ => 0) hH (by unfold fillB; rw [if_neg c_6, if_neg c_23]) (Nat.le_of_ble_eq_true rfl) (Nat.le_of_ble_eq_true rfl) dX1_hasFilled_31

set_option maxHeartbeats 4000000 in
set_option maxRecDepth 100000 in
theorem c_X1_hasWorkedTooMuch (l : Launch) (G : Gx) (d : Nat → Nat) (f : Nat → Int32) (a : Nat → Nat → Int32) (j : Nat) (hj : j < 201) : MI l yX1_hasWorkedTooMuch wsX1_hasWorkedTooMuch ({ frames := 0, cells := 0, slots := 0, locals := 0 } : Room) [.ref (d 0), .int (nI j)] G (wW G d f a) (fun u => wW G d f a) (muchB (a 2 j) (a 6 j) (a 5 j)) := by
  refine ofMI (cc := cX1_hasWorkedTooMuch) (maxL := 3) (ret := (some .boolean)) (by decide) rfl (Nat.le_of_ble_eq_true rfl) (fun p e s m below meth c A ls F hr hnm hH hl => ?_)
  have F : Fx G p s m _ meth c cX1_hasWorkedTooMuch 3 wsX1_hasWorkedTooMuch RX1 A := F
  have hx := F.1.1
  have hb := F.1.2.1
  have hl : lv_has ls 3 [(0, .ref (d 0)), (1, .int (nI j))] := hl
  refine lv_bipush (v := 40) hx hb dX1_hasWorkedTooMuch_0 (by decide) ?_
  refine lv_aload_n hx hb dX1_hasWorkedTooMuch_2 rfl (lv_at hl 0 rfl) ?_
  refine rget (C := RX1) (T := TX1) (N := 12) (ref := RX1) F in_X1_hasWorkedTooMuch_X1 hH 0 rfl rfl 2 (by decide) (by decide +kernel) (fun _ h9 => h9) (v := .ref (d 2)) rfl dX1_hasWorkedTooMuch_3 ?_
  refine lv_iload_n hx hb dX1_hasWorkedTooMuch_6 rfl (lv_at hl 1 rfl) ?_
  refine riald F hH 1 (n := 201) (f := a 2) rfl j rfl hj (by decide) dX1_hasWorkedTooMuch_7 ?_
  refine lv_isub hx hb dX1_hasWorkedTooMuch_8 ?_
  refine lv_iconst (v := 2) hx hb dX1_hasWorkedTooMuch_9 (by decide) ?_
  refine lv_iadd hx hb dX1_hasWorkedTooMuch_10 ?_
  refine lv_istore_n (lv' := [(2, .int ((40 - (a 2 j)) + 2)), (0, .ref (d 0)), (1, .int (nI j))]) hx hb dX1_hasWorkedTooMuch_11 rfl hl (by decide) rfl (fun ls hl => ?_)
  refine lv_aload_n hx hb dX1_hasWorkedTooMuch_12 rfl (lv_at hl 1 rfl) ?_
  refine rget (C := RX1) (T := TX1) (N := 12) (ref := RX1) F in_X1_hasWorkedTooMuch_X1 hH 0 rfl rfl 6 (by decide) (by decide +kernel) (fun _ h9 => h9) (v := .ref (d 6)) rfl dX1_hasWorkedTooMuch_13 ?_
  refine lv_iload_n hx hb dX1_hasWorkedTooMuch_16 rfl (lv_at hl 2 rfl) ?_
  refine riald F hH 5 (n := 201) (f := a 6) rfl j rfl hj (by decide) dX1_hasWorkedTooMuch_17 ?_
  refine lv_iload_n hx hb dX1_hasWorkedTooMuch_18 rfl (lv_at hl 0 rfl) ?_
  refine lv_icmp_le (tgt := 35) hx hb dX1_hasWorkedTooMuch_19 (by decide) (fun c_19 => ?_) (fun c_19 => ?_)
  · refine lv_iconst (v := 0) hx hb dX1_hasWorkedTooMuch_35 (by decide) ?_
    exact retI F hr rfl (fun _ => 0) hH (by unfold muchB; rw [if_pos c_19]) (Nat.le_of_ble_eq_true rfl) (Nat.le_of_ble_eq_true rfl) dX1_hasWorkedTooMuch_36
  · refine lv_aload_n hx hb dX1_hasWorkedTooMuch_22 rfl (lv_at hl 1 rfl) ?_
    refine rget (C := RX1) (T := TX1) (N := 12) (ref := RX1) F in_X1_hasWorkedTooMuch_X1 hH 0 rfl rfl 5 (by decide) (by decide +kernel) (fun _ h9 => h9) (v := .ref (d 5)) rfl dX1_hasWorkedTooMuch_23 ?_
    refine lv_iload_n hx hb dX1_hasWorkedTooMuch_26 rfl (lv_at hl 2 rfl) ?_
    refine riald F hH 4 (n := 201) (f := a 5) rfl j rfl hj (by decide) dX1_hasWorkedTooMuch_27 ?_
    refine lv_if_le (tgt := 35) hx hb dX1_hasWorkedTooMuch_28 (by decide) (fun c_28 => ?_) (fun c_28 => ?_)
    · refine lv_iconst (v := 0) hx hb dX1_hasWorkedTooMuch_35 (by decide) ?_
      exact retI F hr rfl (fun _ => 0) hH (by unfold muchB; rw [if_neg c_19, if_pos c_28]) (Nat.le_of_ble_eq_true rfl) (Nat.le_of_ble_eq_true rfl) dX1_hasWorkedTooMuch_36
    · refine lv_iconst (v := 1) hx hb dX1_hasWorkedTooMuch_31 (by decide) ?_
      refine lv_goto (tgt := 36) hx hb dX1_hasWorkedTooMuch_32 (by decide) ?_
      exact retI F hr rfl (fun _ => 0) hH (by unfold muchB; rw [if_neg c_19, if_neg c_28]) (Nat.le_of_ble_eq_true rfl) (Nat.le_of_ble_eq_true rfl) dX1_hasWorkedTooMuch_36

set_option maxHeartbeats 4000000 in
set_option maxRecDepth 100000 in
theorem c_X1_madeUpPercent (l : Launch) (G : Gx) (d : Nat → Nat) (f : Nat → Int32) (a : Nat → Nat → Int32) (j : Nat) (hj : j < 201) : MI l yX1_madeUpPercent wsX1_madeUpPercent ({ frames := 1, cells := 0, slots := 0, locals := 21 } : Room) [.ref (d 0), .int (nI j)] G (wW G d f a) (fun u => wW G d f a) (pctS (f 1) (f 9) (fillB (a 3 j) (a 2 j))) := by
  refine ofMI (cc := cX1_madeUpPercent) (maxL := 3) (ret := (some .int)) (by decide) rfl (Nat.le_of_ble_eq_true rfl) (fun p e s m below meth c A ls F hr hnm hH hl => ?_)
  have F : Fx G p s m _ meth c cX1_madeUpPercent 3 wsX1_madeUpPercent RX1 A := F
  have hx := F.1.1
  have hb := F.1.2.1
  have hl : lv_has ls 3 [(0, .ref (d 0)), (1, .int (nI j))] := hl
  refine lv_aload_n hx hb dX1_madeUpPercent_0 rfl (lv_at hl 0 rfl) ?_
  refine callVI0 (rest := []) F (c_X1_stepPercent l G d f a) gX1_madeUpPercent_X1_stepPercent rfl hdX1_stepPercent ⟨Nat.le_of_ble_eq_true rfl, Nat.le_of_ble_eq_true rfl⟩ hH ⟨0, 1, _, _, rfl, rfl, rfl⟩ rfl hl.1 (Nat.le_of_ble_eq_true rfl) dX1_madeUpPercent_1 ⟨Nat.le_of_ble_eq_true rfl, Nat.le_of_ble_eq_true rfl⟩ rfl (fun u H locs hH => ?_)
  have hH : HH G A s (wW G d f a) H locs := hH
  refine lv_istore_n (lv' := [(2, .int (stepP (f 9))), (0, .ref (d 0)), (1, .int (nI j))]) hx hb dX1_madeUpPercent_4 rfl hl (by decide) rfl (fun ls hl => ?_)
  refine lv_aload_n hx hb dX1_madeUpPercent_5 rfl (lv_at hl 1 rfl) ?_
  refine rget (C := RX1) (T := TX1) (N := 12) (ref := RX1) F in_X1_madeUpPercent_X1 hH 0 rfl rfl 1 (by decide) (by decide +kernel) (fun _ h9 => h9) (v := .int (f 1)) rfl dX1_madeUpPercent_6 ?_
  refine lv_if_eq (tgt := 15) hx hb dX1_madeUpPercent_9 (by decide) (fun c_9 => ?_) (fun c_9 => ?_)
  · refine lv_aload_n hx hb dX1_madeUpPercent_15 rfl (lv_at hl 1 rfl) ?_
    refine lv_iload_n hx hb dX1_madeUpPercent_16 rfl (lv_at hl 2 rfl) ?_
    refine callVI0 (rest := []) F (c_X1_hasFilled l G d f a j hj) gX1_madeUpPercent_X1_hasFilled rfl hdX1_hasFilled ⟨Nat.le_of_ble_eq_true rfl, Nat.le_of_ble_eq_true rfl⟩ hH ⟨0, 1, _, _, rfl, rfl, rfl⟩ rfl hl.1 (Nat.le_of_ble_eq_true rfl) dX1_madeUpPercent_17 ⟨Nat.le_of_ble_eq_true rfl, Nat.le_of_ble_eq_true rfl⟩ rfl (fun u H locs hH => ?_)
    have hH : HH G A s (wW G d f a) H locs := hH
    refine lv_if_eq (tgt := 29) hx hb dX1_madeUpPercent_20 (by decide) (fun c_20 => ?_) (fun c_20 => ?_)
    · refine lv_aload_n hx hb dX1_madeUpPercent_29 rfl (lv_at hl 1 rfl) ?_
      refine rget (C := RX1) (T := TX1) (N := 12) (ref := RX1) F in_X1_madeUpPercent_X1 hH 0 rfl rfl 9 (by decide) (by decide +kernel) (fun _ h9 => h9) (v := .int (f 9)) rfl dX1_madeUpPercent_30 ?_
      refine lv_bipush (v := 12) hx hb dX1_madeUpPercent_33 (by decide) ?_
      refine lv_icmp_lt (tgt := 41) hx hb dX1_madeUpPercent_35 (by decide) (fun c_35 => ?_) (fun c_35 => ?_)
      · refine lv_iload_n hx hb dX1_madeUpPercent_41 rfl (lv_at hl 0 rfl) ?_
        exact retI F hr rfl (fun _ => 0) hH (by unfold pctS; dsimp only; rw [if_pos c_20, if_pos c_35, if_pos c_9]) (Nat.le_of_ble_eq_true rfl) (Nat.le_of_ble_eq_true rfl) dX1_madeUpPercent_42
      · refine lv_iinc (v := ((stepP (f 9)) + (-10))) (lv' := [(2, .int ((stepP (f 9)) + (-10))), (0, .ref (d 0)), (1, .int (nI j))]) hx hb dX1_madeUpPercent_38 hl (k := 0) rfl rfl (by decide) rfl (fun ls hl => ?_)
        refine lv_iload_n hx hb dX1_madeUpPercent_41 rfl (lv_at hl 0 rfl) ?_
        exact retI F hr rfl (fun _ => 0) hH (by unfold pctS; dsimp only; rw [if_pos c_20, if_neg c_35, if_pos c_9]) (Nat.le_of_ble_eq_true rfl) (Nat.le_of_ble_eq_true rfl) dX1_madeUpPercent_42
    · refine lv_iinc (v := ((stepP (f 9)) + 5)) (lv' := [(2, .int ((stepP (f 9)) + 5)), (0, .ref (d 0)), (1, .int (nI j))]) hx hb dX1_madeUpPercent_23 hl (k := 0) rfl rfl (by decide) rfl (fun ls hl => ?_)
      refine lv_goto (tgt := 41) hx hb dX1_madeUpPercent_26 (by decide) ?_
      refine lv_iload_n hx hb dX1_madeUpPercent_41 rfl (lv_at hl 0 rfl) ?_
      exact retI F hr rfl (fun _ => 0) hH (by unfold pctS; dsimp only; rw [if_neg c_20, if_pos c_9]) (Nat.le_of_ble_eq_true rfl) (Nat.le_of_ble_eq_true rfl) dX1_madeUpPercent_42
  · refine lv_iinc (v := ((stepP (f 9)) + 7)) (lv' := [(2, .int ((stepP (f 9)) + 7)), (0, .ref (d 0)), (1, .int (nI j))]) hx hb dX1_madeUpPercent_12 hl (k := 0) rfl rfl (by decide) rfl (fun ls hl => ?_)
    refine lv_aload_n hx hb dX1_madeUpPercent_15 rfl (lv_at hl 1 rfl) ?_
    refine lv_iload_n hx hb dX1_madeUpPercent_16 rfl (lv_at hl 2 rfl) ?_
    refine callVI0 (rest := []) F (c_X1_hasFilled l G d f a j hj) gX1_madeUpPercent_X1_hasFilled rfl hdX1_hasFilled ⟨Nat.le_of_ble_eq_true rfl, Nat.le_of_ble_eq_true rfl⟩ hH ⟨0, 1, _, _, rfl, rfl, rfl⟩ rfl hl.1 (Nat.le_of_ble_eq_true rfl) dX1_madeUpPercent_17 ⟨Nat.le_of_ble_eq_true rfl, Nat.le_of_ble_eq_true rfl⟩ rfl (fun u H locs hH => ?_)
    have hH : HH G A s (wW G d f a) H locs := hH
    refine lv_if_eq (tgt := 29) hx hb dX1_madeUpPercent_20 (by decide) (fun c_20 => ?_) (fun c_20 => ?_)
    · refine lv_aload_n hx hb dX1_madeUpPercent_29 rfl (lv_at hl 1 rfl) ?_
      refine rget (C := RX1) (T := TX1) (N := 12) (ref := RX1) F in_X1_madeUpPercent_X1 hH 0 rfl rfl 9 (by decide) (by decide +kernel) (fun _ h9 => h9) (v := .int (f 9)) rfl dX1_madeUpPercent_30 ?_
      refine lv_bipush (v := 12) hx hb dX1_madeUpPercent_33 (by decide) ?_
      refine lv_icmp_lt (tgt := 41) hx hb dX1_madeUpPercent_35 (by decide) (fun c_35 => ?_) (fun c_35 => ?_)
      · refine lv_iload_n hx hb dX1_madeUpPercent_41 rfl (lv_at hl 0 rfl) ?_
        exact retI F hr rfl (fun _ => 0) hH (by unfold pctS; dsimp only; rw [if_pos c_20, if_pos c_35, if_neg c_9]) (Nat.le_of_ble_eq_true rfl) (Nat.le_of_ble_eq_true rfl) dX1_madeUpPercent_42
      · refine lv_iinc (v := (((stepP (f 9)) + 7) + (-10))) (lv' := [(2, .int (((stepP (f 9)) + 7) + (-10))), (0, .ref (d 0)), (1, .int (nI j))]) hx hb dX1_madeUpPercent_38 hl (k := 0) rfl rfl (by decide) rfl (fun ls hl => ?_)
        refine lv_iload_n hx hb dX1_madeUpPercent_41 rfl (lv_at hl 0 rfl) ?_
        exact retI F hr rfl (fun _ => 0) hH (by unfold pctS; dsimp only; rw [if_pos c_20, if_neg c_35, if_neg c_9]) (Nat.le_of_ble_eq_true rfl) (Nat.le_of_ble_eq_true rfl) dX1_madeUpPercent_42
    · refine lv_iinc (v := (((stepP (f 9)) + 7) + 5)) (lv' := [(2, .int (((stepP (f 9)) + 7) + 5)), (0, .ref (d 0)), (1, .int (nI j))]) hx hb dX1_madeUpPercent_23 hl (k := 0) rfl rfl (by decide) rfl (fun ls hl => ?_)
      refine lv_goto (tgt := 41) hx hb dX1_madeUpPercent_26 (by decide) ?_
      refine lv_iload_n hx hb dX1_madeUpPercent_41 rfl (lv_at hl 0 rfl) ?_
      exact retI F hr rfl (fun _ => 0) hH (by unfold pctS; dsimp only; rw [if_neg c_20, if_neg c_9]) (Nat.le_of_ble_eq_true rfl) (Nat.le_of_ble_eq_true rfl) dX1_madeUpPercent_42

set_option maxHeartbeats 4000000 in
set_option maxRecDepth 100000 in
theorem c_X1_payFor (l : Launch) (G : Gx) (d : Nat → Nat) (f : Nat → Int32) (a : Nat → Nat → Int32) (j : Nat) (hj : j < 201) (fl : Int32) : MI l yX1_payFor wsX1_payFor ({ frames := 2, cells := 0, slots := 0, locals := 43 } : Room) [.ref (d 0), .int (nI j), .int fl] G (wW G d f a) (fun u => wW G d (va_up (va_up f 10 (f 10 + (firmP (f 0) (a 2 j) + fundP (f 0) (a 2 j) (pctS (f 1) (f 9) (fillB (a 3 j) (a 2 j))) fl))) 9 (if a 2 j ≤ 0 then f 9 else f 9 + 1)) (va_up (va_up a 4 (upd (a 4) j (firmP (f 0) (a 2 j)))) 5 (upd (a 5) j (fundP (f 0) (a 2 j) (pctS (f 1) (f 9) (fillB (a 3 j) (a 2 j))) fl)))) (fundP (f 0) (a 2 j) (pctS (f 1) (f 9) (fillB (a 3 j) (a 2 j))) fl) := by
  refine ofMI (cc := cX1_payFor) (maxL := 6) (ret := (some .int)) (by decide) rfl (Nat.le_of_ble_eq_true rfl) (fun p e s m below meth c A ls F hr hnm hH hl => ?_)
  have F : Fx G p s m _ meth c cX1_payFor 6 wsX1_payFor RX1 A := F
  have hx := F.1.1
  have hb := F.1.2.1
  have hl : lv_has ls 6 [(0, .ref (d 0)), (1, .int (nI j)), (2, .int fl)] := hl
  refine lv_aload_n hx hb dX1_payFor_0 rfl (lv_at hl 0 rfl) ?_
  refine rget (C := RX1) (T := TX1) (N := 12) (ref := RX1) F in_X1_payFor_X1 hH 0 rfl rfl 0 (by decide) (by decide +kernel) (fun _ h9 => h9) (v := .int (f 0)) rfl dX1_payFor_1 ?_
  refine lv_bipush (v := 40) hx hb dX1_payFor_4 (by decide) ?_
  refine lv_aload_n hx hb dX1_payFor_6 rfl (lv_at hl 0 rfl) ?_
  refine rget (C := RX1) (T := TX1) (N := 12) (ref := RX1) F in_X1_payFor_X1 hH 0 rfl rfl 2 (by decide) (by decide +kernel) (fun _ h9 => h9) (v := .ref (d 2)) rfl dX1_payFor_7 ?_
  refine lv_iload_n hx hb dX1_payFor_10 rfl (lv_at hl 1 rfl) ?_
  refine riald F hH 1 (n := 201) (f := a 2) rfl j rfl hj (by decide) dX1_payFor_11 ?_
  refine lv_isub hx hb dX1_payFor_12 ?_
  refine lv_imul hx hb dX1_payFor_13 ?_
  refine lv_bipush (v := 40) hx hb dX1_payFor_14 (by decide) ?_
  refine lv_idiv hx hb dX1_payFor_16 (by decide) ?_
  refine lv_istore_n (lv' := [(3, .int (((f 0) * (40 - (a 2 j))) / 40)), (0, .ref (d 0)), (1, .int (nI j)), (2, .int fl)]) hx hb dX1_payFor_17 rfl hl (by decide) rfl (fun ls hl => ?_)
  refine lv_aload_n hx hb dX1_payFor_18 rfl (lv_at hl 1 rfl) ?_
  refine rget (C := RX1) (T := TX1) (N := 12) (ref := RX1) F in_X1_payFor_X1 hH 0 rfl rfl 0 (by decide) (by decide +kernel) (fun _ h9 => h9) (v := .int (f 0)) rfl dX1_payFor_19 ?_
  refine lv_iload_n hx hb dX1_payFor_22 rfl (lv_at hl 0 rfl) ?_
  refine lv_isub hx hb dX1_payFor_23 ?_
  refine lv_aload_n hx hb dX1_payFor_24 rfl (lv_at hl 1 rfl) ?_
  refine lv_iload_n hx hb dX1_payFor_25 rfl (lv_at hl 2 rfl) ?_
  refine callVI0 (rest := [.int ((f 0) - (((f 0) * (40 - (a 2 j))) / 40))]) F (c_X1_madeUpPercent l G d f a j hj) gX1_payFor_X1_madeUpPercent rfl hdX1_madeUpPercent ⟨Nat.le_of_ble_eq_true rfl, Nat.le_of_ble_eq_true rfl⟩ hH ⟨0, 1, _, _, rfl, rfl, rfl⟩ rfl hl.1 (Nat.le_of_ble_eq_true rfl) dX1_payFor_26 ⟨Nat.le_of_ble_eq_true rfl, Nat.le_of_ble_eq_true rfl⟩ rfl (fun u H locs hH => ?_)
  have hH : HH G A s (wW G d f a) H locs := hH
  refine lv_imul hx hb dX1_payFor_29 ?_
  refine lv_bipush (v := 100) hx hb dX1_payFor_30 (by decide) ?_
  refine lv_idiv hx hb dX1_payFor_32 (by decide) ?_
  refine lv_istore (lv' := [(4, .int ((((f 0) - (((f 0) * (40 - (a 2 j))) / 40)) * (pctS (f 1) (f 9) (fillB (a 3 j) (a 2 j)))) / 100)), (3, .int (((f 0) * (40 - (a 2 j))) / 40)), (0, .ref (d 0)), (1, .int (nI j)), (2, .int fl)]) hx hb dX1_payFor_33 hl (by decide) rfl (fun ls hl => ?_)
  refine lv_aload_n hx hb dX1_payFor_35 rfl (lv_at hl 2 rfl) ?_
  refine rget (C := RX1) (T := TX1) (N := 12) (ref := RX1) F in_X1_payFor_X1 hH 0 rfl rfl 0 (by decide) (by decide +kernel) (fun _ h9 => h9) (v := .int (f 0)) rfl dX1_payFor_36 ?_
  refine lv_iload_n hx hb dX1_payFor_39 rfl (lv_at hl 4 rfl) ?_
  refine lv_imul hx hb dX1_payFor_40 ?_
  refine lv_bipush (v := 100) hx hb dX1_payFor_41 (by decide) ?_
  refine lv_idiv hx hb dX1_payFor_43 (by decide) ?_
  refine lv_istore (lv' := [(5, .int (((f 0) * fl) / 100)), (4, .int ((((f 0) - (((f 0) * (40 - (a 2 j))) / 40)) * (pctS (f 1) (f 9) (fillB (a 3 j) (a 2 j)))) / 100)), (3, .int (((f 0) * (40 - (a 2 j))) / 40)), (0, .ref (d 0)), (1, .int (nI j)), (2, .int fl)]) hx hb dX1_payFor_44 hl (by decide) rfl (fun ls hl => ?_)
  refine lv_iload hx hb dX1_payFor_46 (lv_at hl 1 rfl) ?_
  refine lv_iload hx hb dX1_payFor_48 (lv_at hl 0 rfl) ?_
  refine lv_iload_n hx hb dX1_payFor_50 rfl (lv_at hl 2 rfl) ?_
  refine lv_isub hx hb dX1_payFor_51 ?_
  refine va_mmax hx hb (by rw [F.1.2.2.1]; exact hl.1.symm) F.1.2.2.2.1 (F.1.2.2.2.2 (.methodLink RX1 57 Lib.Math.max.name) (by decide +kernel)) (F.1.2.2.2.2 (.static Lib.Math.max.name) (by decide +kernel)) (F.1.2.2.2.2 (.initialized "java/lang/Math") (by decide +kernel)) (F.1.2.2.2.2 (.code Lib.Math.max.name Lib.Math.max.code 2 (some .int)) (by decide +kernel)) (Nat.le_of_ble_eq_true rfl) (Nat.le_of_ble_eq_true rfl) (Nat.le_of_ble_eq_true rfl) (Nat.le_of_ble_eq_true rfl) dX1_payFor_52 ?_
  refine lv_istore (lv' := [(4, .int (if ((((f 0) - (((f 0) * (40 - (a 2 j))) / 40)) * (pctS (f 1) (f 9) (fillB (a 3 j) (a 2 j)))) / 100) < ((((f 0) * fl) / 100) - (((f 0) * (40 - (a 2 j))) / 40)) then ((((f 0) * fl) / 100) - (((f 0) * (40 - (a 2 j))) / 40)) else ((((f 0) - (((f 0) * (40 - (a 2 j))) / 40)) * (pctS (f 1) (f 9) (fillB (a 3 j) (a 2 j)))) / 100))), (5, .int (((f 0) * fl) / 100)), (3, .int (((f 0) * (40 - (a 2 j))) / 40)), (0, .ref (d 0)), (1, .int (nI j)), (2, .int fl)]) hx hb dX1_payFor_55 hl (by decide) rfl (fun ls hl => ?_)
  refine lv_aload_n hx hb dX1_payFor_57 rfl (lv_at hl 3 rfl) ?_
  refine rget (C := RX1) (T := TX1) (N := 12) (ref := RX1) F in_X1_payFor_X1 hH 0 rfl rfl 4 (by decide) (by decide +kernel) (fun _ h9 => h9) (v := .ref (d 4)) rfl dX1_payFor_58 ?_
  refine lv_iload_n hx hb dX1_payFor_61 rfl (lv_at hl 4 rfl) ?_
  refine lv_iload_n hx hb dX1_payFor_62 rfl (lv_at hl 2 rfl) ?_
  refine riast F hH 3 (n := 201) (f := a 4) rfl j rfl hj (by decide) dX1_payFor_63 (fun H locs hH => ?_)
  have hH : HH G A s (wW G d f (va_up a 4 (upd (a 4) j (((f 0) * (40 - (a 2 j))) / 40)))) H locs := hH
  refine lv_aload_n hx hb dX1_payFor_64 rfl (lv_at hl 3 rfl) ?_
  refine rget (C := RX1) (T := TX1) (N := 12) (ref := RX1) F in_X1_payFor_X1 hH 0 rfl rfl 5 (by decide) (by decide +kernel) (fun _ h9 => h9) (v := .ref (d 5)) rfl dX1_payFor_65 ?_
  refine lv_iload_n hx hb dX1_payFor_68 rfl (lv_at hl 4 rfl) ?_
  refine lv_iload hx hb dX1_payFor_69 (lv_at hl 0 rfl) ?_
  refine riast F hH 4 (n := 201) (f := a 5) rfl j rfl hj (by decide) dX1_payFor_71 (fun H locs hH => ?_)
  have hH : HH G A s (wW G d f (va_up (va_up a 4 (upd (a 4) j (((f 0) * (40 - (a 2 j))) / 40))) 5 (upd (a 5) j (if ((((f 0) - (((f 0) * (40 - (a 2 j))) / 40)) * (pctS (f 1) (f 9) (fillB (a 3 j) (a 2 j)))) / 100) < ((((f 0) * fl) / 100) - (((f 0) * (40 - (a 2 j))) / 40)) then ((((f 0) * fl) / 100) - (((f 0) * (40 - (a 2 j))) / 40)) else ((((f 0) - (((f 0) * (40 - (a 2 j))) / 40)) * (pctS (f 1) (f 9) (fillB (a 3 j) (a 2 j)))) / 100))))) H locs := hH
  refine lv_aload_n hx hb dX1_payFor_72 rfl (lv_at hl 3 rfl) ?_
  refine lv_dup hx hb dX1_payFor_73 rfl ?_
  refine rget (C := RX1) (T := TX1) (N := 12) (ref := RX1) F in_X1_payFor_X1 hH 0 rfl rfl 10 (by decide) (by decide +kernel) (fun _ h9 => h9) (v := .int (f 10)) rfl dX1_payFor_74 ?_
  refine lv_iload_n hx hb dX1_payFor_77 rfl (lv_at hl 2 rfl) ?_
  refine lv_iload hx hb dX1_payFor_78 (lv_at hl 0 rfl) ?_
  refine lv_iadd hx hb dX1_payFor_80 ?_
  refine lv_iadd hx hb dX1_payFor_81 ?_
  refine rput (C := RX1) (T := TX1) (N := 12) (ref := RX1) F in_X1_payFor_X1 tyX1 tyX1_ok nmX1 hH 0 rfl rfl 10 (by decide) (by decide +kernel) (fun _ h9 => h9) rfl (v := .int ((f 10) + ((((f 0) * (40 - (a 2 j))) / 40) + (if ((((f 0) - (((f 0) * (40 - (a 2 j))) / 40)) * (pctS (f 1) (f 9) (fillB (a 3 j) (a 2 j)))) / 100) < ((((f 0) * fl) / 100) - (((f 0) * (40 - (a 2 j))) / 40)) then ((((f 0) * fl) / 100) - (((f 0) * (40 - (a 2 j))) / 40)) else ((((f 0) - (((f 0) * (40 - (a 2 j))) / 40)) * (pctS (f 1) (f 9) (fillB (a 3 j) (a 2 j)))) / 100))))) rfl rfl (Nat.le_of_ble_eq_true rfl) dX1_payFor_82 (fun H locs hH => ?_)
  have hH : HH G A s (wW G d (va_up f 10 ((f 10) + ((((f 0) * (40 - (a 2 j))) / 40) + (if ((((f 0) - (((f 0) * (40 - (a 2 j))) / 40)) * (pctS (f 1) (f 9) (fillB (a 3 j) (a 2 j)))) / 100) < ((((f 0) * fl) / 100) - (((f 0) * (40 - (a 2 j))) / 40)) then ((((f 0) * fl) / 100) - (((f 0) * (40 - (a 2 j))) / 40)) else ((((f 0) - (((f 0) * (40 - (a 2 j))) / 40)) * (pctS (f 1) (f 9) (fillB (a 3 j) (a 2 j)))) / 100))))) (va_up (va_up a 4 (upd (a 4) j (((f 0) * (40 - (a 2 j))) / 40))) 5 (upd (a 5) j (if ((((f 0) - (((f 0) * (40 - (a 2 j))) / 40)) * (pctS (f 1) (f 9) (fillB (a 3 j) (a 2 j)))) / 100) < ((((f 0) * fl) / 100) - (((f 0) * (40 - (a 2 j))) / 40)) then ((((f 0) * fl) / 100) - (((f 0) * (40 - (a 2 j))) / 40)) else ((((f 0) - (((f 0) * (40 - (a 2 j))) / 40)) * (pctS (f 1) (f 9) (fillB (a 3 j) (a 2 j)))) / 100))))) H locs := hH
  refine lv_aload_n hx hb dX1_payFor_85 rfl (lv_at hl 3 rfl) ?_
  refine rget (C := RX1) (T := TX1) (N := 12) (ref := RX1) F in_X1_payFor_X1 hH 0 rfl rfl 2 (by decide) (by decide +kernel) (fun _ h9 => h9) (v := .ref (d 2)) rfl dX1_payFor_86 ?_
  refine lv_iload_n hx hb dX1_payFor_89 rfl (lv_at hl 4 rfl) ?_
  refine riald F hH 1 (n := 201) (f := a 2) rfl j rfl hj (by decide) dX1_payFor_90 ?_
  refine lv_if_le (tgt := 104) hx hb dX1_payFor_91 (by decide) (fun c_91 => ?_) (fun c_91 => ?_)
  · refine lv_iload hx hb dX1_payFor_104 (lv_at hl 0 rfl) ?_
    exact retI F hr rfl (fun _ => 0) (by rw [if_pos c_91]; exact hH) rfl (Nat.le_of_ble_eq_true rfl) (Nat.le_of_ble_eq_true rfl) dX1_payFor_106
  · refine lv_aload_n hx hb dX1_payFor_94 rfl (lv_at hl 3 rfl) ?_
    refine lv_dup hx hb dX1_payFor_95 rfl ?_
    refine rget (C := RX1) (T := TX1) (N := 12) (ref := RX1) F in_X1_payFor_X1 hH 0 rfl rfl 9 (by decide) (by decide +kernel) (fun _ h9 => h9) (v := .int (f 9)) rfl dX1_payFor_96 ?_
    refine lv_iconst (v := 1) hx hb dX1_payFor_99 (by decide) ?_
    refine lv_iadd hx hb dX1_payFor_100 ?_
    refine rput (C := RX1) (T := TX1) (N := 12) (ref := RX1) F in_X1_payFor_X1 tyX1 tyX1_ok nmX1 hH 0 rfl rfl 9 (by decide) (by decide +kernel) (fun _ h9 => h9) rfl (v := .int ((f 9) + 1)) rfl rfl (Nat.le_of_ble_eq_true rfl) dX1_payFor_101 (fun H locs hH => ?_)
    have hH : HH G A s (wW G d (va_up (va_up f 10 ((f 10) + ((((f 0) * (40 - (a 2 j))) / 40) + (if ((((f 0) - (((f 0) * (40 - (a 2 j))) / 40)) * (pctS (f 1) (f 9) (fillB (a 3 j) (a 2 j)))) / 100) < ((((f 0) * fl) / 100) - (((f 0) * (40 - (a 2 j))) / 40)) then ((((f 0) * fl) / 100) - (((f 0) * (40 - (a 2 j))) / 40)) else ((((f 0) - (((f 0) * (40 - (a 2 j))) / 40)) * (pctS (f 1) (f 9) (fillB (a 3 j) (a 2 j)))) / 100))))) 9 ((f 9) + 1)) (va_up (va_up a 4 (upd (a 4) j (((f 0) * (40 - (a 2 j))) / 40))) 5 (upd (a 5) j (if ((((f 0) - (((f 0) * (40 - (a 2 j))) / 40)) * (pctS (f 1) (f 9) (fillB (a 3 j) (a 2 j)))) / 100) < ((((f 0) * fl) / 100) - (((f 0) * (40 - (a 2 j))) / 40)) then ((((f 0) * fl) / 100) - (((f 0) * (40 - (a 2 j))) / 40)) else ((((f 0) - (((f 0) * (40 - (a 2 j))) / 40)) * (pctS (f 1) (f 9) (fillB (a 3 j) (a 2 j)))) / 100))))) H locs := hH
    refine lv_iload hx hb dX1_payFor_104 (lv_at hl 0 rfl) ?_
    exact retI F hr rfl (fun _ => 0) (by rw [if_neg c_91]; exact hH) rfl (Nat.le_of_ble_eq_true rfl) (Nat.le_of_ble_eq_true rfl) dX1_payFor_106
end
section
theorem hdX2_hasPassed : yX2_hasPassed.cls = RX2 ∧ yX2_hasPassed.cls ≠ "java/lang/invoke/MethodHandle" ∧ yX2_hasPassed.cls ≠ "java/lang/invoke/VarHandle" ∧ (parseMethodDescriptor yX2_hasPassed.desc).map (fun d => d.parameters.length) = some 1 := by decide +kernel
theorem hdX2_requireArgument : yX2_requireArgument.cls = RX2 ∧ yX2_requireArgument.cls ≠ "java/lang/invoke/MethodHandle" ∧ yX2_requireArgument.cls ≠ "java/lang/invoke/VarHandle" ∧ (parseMethodDescriptor yX2_requireArgument.desc).map (fun d => d.parameters.length) = some 1 := by decide +kernel
theorem hdX2_requireState : yX2_requireState.cls = RX2 ∧ yX2_requireState.cls ≠ "java/lang/invoke/MethodHandle" ∧ yX2_requireState.cls ≠ "java/lang/invoke/VarHandle" ∧ (parseMethodDescriptor yX2_requireState.desc).map (fun d => d.parameters.length) = some 1 := by decide +kernel
theorem hdX2_workerAt : yX2_workerAt.cls = RX2 ∧ yX2_workerAt.cls ≠ "java/lang/invoke/MethodHandle" ∧ yX2_workerAt.cls ≠ "java/lang/invoke/VarHandle" ∧ (parseMethodDescriptor yX2_workerAt.desc).map (fun d => d.parameters.length) = some 1 := by decide +kernel
theorem in_X1_hasNoCourseFrom_X1 : ∀ w ∈ wsX10, w ∈ wsX1_hasNoCourseFrom := by decide +kernel
theorem in_X1_takeNotice_X1 : ∀ w ∈ wsX10, w ∈ wsX1_takeNotice := by decide +kernel
theorem in_X2_chargeBack_X1 : ∀ w ∈ wsX10, w ∈ wsX2_chargeBack := by decide +kernel
theorem in_X2_chargeBack_X2 : ∀ w ∈ wsX20, w ∈ wsX2_chargeBack := by decide +kernel
theorem in_X2_cut_X1 : ∀ w ∈ wsX10, w ∈ wsX2_cut := by decide +kernel
theorem in_X2_cutWeeks_X1 : ∀ w ∈ wsX10, w ∈ wsX2_cutWeeks := by decide +kernel
theorem in_X2_door_X1 : ∀ w ∈ wsX10, w ∈ wsX2_door := by decide +kernel
theorem in_X2_door_X2 : ∀ w ∈ wsX20, w ∈ wsX2_door := by decide +kernel
theorem in_X2_madeUp_X1 : ∀ w ∈ wsX10, w ∈ wsX2_madeUp := by decide +kernel
theorem in_X2_mail_X1 : ∀ w ∈ wsX10, w ∈ wsX2_mail := by decide +kernel
theorem in_X2_mail_X2 : ∀ w ∈ wsX20, w ∈ wsX2_mail := by decide +kernel
theorem in_X2_net_X1 : ∀ w ∈ wsX10, w ∈ wsX2_net := by decide +kernel
theorem in_X2_owes_X1 : ∀ w ∈ wsX10, w ∈ wsX2_owes := by decide +kernel
theorem in_X2_paid_X1 : ∀ w ∈ wsX10, w ∈ wsX2_paid := by decide +kernel
theorem in_X2_setFloor_X2 : ∀ w ∈ wsX20, w ∈ wsX2_setFloor := by decide +kernel
end
section
set_option maxHeartbeats 4000000 in
set_option maxRecDepth 100000 in
theorem c_X2_cut_1 (l : Launch) (G : Gx) (q : Nat → Nat) (n nc t : Nat) (fl fd : Int32) (k : Nat → Int32) (wd : Nat → Nat → Nat) (wf : Nat → Nat → Int32) (wa : Nat → Nat → Nat → Int32) (cd : Nat → Nat) (cf : Nat → Nat → Int32) (hn : n ≤ 8) (i : Nat) (hi : i < n) (j : Nat) (hj : j ≤ 200) : MI l yX2_cut wsX2_cut ({ frames := 2, cells := 0, slots := 0, locals := 44 } : Room) [.ref (q 0), .int (nI i), .int (nI j)] G (sW G q n nc t fl fd k wd wf wa cd cf) (fun u => sW G q n nc t fl fd k wd wf wa cd cf) (wa i 2 j) := by
  refine ofMI (cc := cX2_cut) (maxL := 4) (ret := (some .int)) (by decide) rfl (Nat.le_of_ble_eq_true rfl) (fun p e s m below meth c A ls F hr hnm hH hl => ?_)
  have F : Fx G p s m _ meth c cX2_cut 4 wsX2_cut RX2 A := F
  have hx := F.1.1
  have hb := F.1.2.1
  have hl : lv_has ls 4 [(0, .ref (q 0)), (1, .int (nI i)), (2, .int (nI j))] := hl
  refine lv_aload_n hx hb dX2_cut_0 rfl (lv_at hl 0 rfl) ?_
  refine lv_iload_n hx hb dX2_cut_1 rfl (lv_at hl 1 rfl) ?_
  refine callVR0 (rest := []) F (c_X2_workerAt_1 l G q n nc t fl fd k wd wf wa cd cf hn i hi) gX2_cut_X2_workerAt rfl hdX2_workerAt ⟨Nat.le_of_ble_eq_true rfl, Nat.le_of_ble_eq_true rfl⟩ hH ⟨0, 2, _, _, rfl, rfl, rfl⟩ rfl hl.1 (Nat.le_of_ble_eq_true rfl) dX2_cut_2 ⟨Nat.le_of_ble_eq_true rfl, Nat.le_of_ble_eq_true rfl⟩ rfl (fun H locs hH => ?_)
  refine lv_astore_n (lv' := [(3, .ref (wd i 0)), (0, .ref (q 0)), (1, .int (nI i)), (2, .int (nI j))]) hx hb dX2_cut_5 rfl hl (by decide) rfl (fun ls hl => ?_)
  refine lv_iload_n hx hb dX2_cut_6 rfl (lv_at hl 3 rfl) ?_
  refine lv_iconst (v := 0) hx hb dX2_cut_7 (by decide) ?_
  refine lv_sipush (v := 200) hx hb dX2_cut_8 (by decide) ?_
  refine callSI0 (rest := []) F (c_X2_isWithin_1 l G _ (nI j) 0 200 (nI_pos' (by omega)) (nI_le (a := j) (b := 200) hj (by decide))) gX2_cut_X2_isWithin rfl hdX2_isWithin ⟨Nat.le_of_ble_eq_true rfl, Nat.le_of_ble_eq_true rfl⟩ hH rfl hl.1 (Nat.le_of_ble_eq_true rfl) dX2_cut_11 ⟨Nat.le_of_ble_eq_true rfl, Nat.le_of_ble_eq_true rfl⟩ rfl (fun u H locs hH => ?_)
  have hH : HH G A s (sW G q n nc t fl fd k wd wf wa cd cf) H locs := hH
  refine callSV0 (rest := []) F (c_X2_requireArgument_1 l G _) gX2_cut_X2_requireArgument rfl hdX2_requireArgument ⟨Nat.le_of_ble_eq_true rfl, Nat.le_of_ble_eq_true rfl⟩ hH rfl hl.1 (Nat.le_of_ble_eq_true rfl) dX2_cut_14 ⟨Nat.le_of_ble_eq_true rfl, Nat.le_of_ble_eq_true rfl⟩ rfl (fun u H locs hH => ?_)
  have hH : HH G A s (sW G q n nc t fl fd k wd wf wa cd cf) H locs := hH
  refine lv_aload_n hx hb dX2_cut_17 rfl (lv_at hl 0 rfl) ?_
  refine rgetN (C := RX1) (T := TX1) (N := 12) (ref := RX1) (host := RX2) F in_X2_cut_X1 hH (4 + 7 * i + 0) (sW_at hi (j := 0) rfl) rfl 2 (by decide) (by decide +kernel) (fun _ h9 => h9) (v := .ref (wd i 2)) rfl dX2_cut_18 ?_
  refine lv_iload_n hx hb dX2_cut_21 rfl (lv_at hl 3 rfl) ?_
  refine riald F hH (4 + 7 * i + 1) (n := 201) (f := wa i 2) (sW_at hi (j := 1) rfl) j rfl (by omega) (by decide) dX2_cut_22 ?_
  exact retI F hr rfl (fun _ => 0) hH rfl (Nat.le_of_ble_eq_true rfl) (Nat.le_of_ble_eq_true rfl) dX2_cut_23

set_option maxHeartbeats 4000000 in
set_option maxRecDepth 100000 in
theorem c_X2_cut_2 (l : Launch) (hst : l.stackTraces = false) (G : Gx) (q : Nat → Nat) (n nc t : Nat) (fl fd : Int32) (k : Nat → Int32) (wd : Nat → Nat → Nat) (wf : Nat → Nat → Int32) (wa : Nat → Nat → Nat → Int32) (cd : Nat → Nat) (cf : Nat → Nat → Int32) (hn : n ≤ 8) (i : Nat) (hi : i < n) (w : Int32) (h : w < 0 ∨ 200 < w) : MX l yX2_cut wsX2_cut ({ frames := 7, cells := 1, slots := 6, locals := 110 } : Room) [.ref (q 0), .int (nI i), .int w] G (sW G q n nc t fl fd k wd wf wa cd cf) "java/lang/IllegalArgumentException" := by
  refine ofMX (cc := cX2_cut) (maxL := 4) (ret := (some .int)) (by decide) rfl (Nat.le_of_ble_eq_true rfl) (fun p e s m below meth c A ls F htb hH hl => ?_)
  have F : Fx G p s m _ meth c cX2_cut 4 wsX2_cut RX2 A := F
  have hx := F.1.1
  have hb := F.1.2.1
  have hl : lv_has ls 4 [(0, .ref (q 0)), (1, .int (nI i)), (2, .int w)] := hl
  refine lv_aload_n hx hb dX2_cut_0 rfl (lv_at hl 0 rfl) ?_
  refine lv_iload_n hx hb dX2_cut_1 rfl (lv_at hl 1 rfl) ?_
  refine callVR0 (rest := []) F (c_X2_workerAt_1 l G q n nc t fl fd k wd wf wa cd cf hn i hi) gX2_cut_X2_workerAt rfl hdX2_workerAt ⟨Nat.le_of_ble_eq_true rfl, Nat.le_of_ble_eq_true rfl⟩ hH ⟨0, 2, _, _, rfl, rfl, rfl⟩ rfl hl.1 (Nat.le_of_ble_eq_true rfl) dX2_cut_2 ⟨Nat.le_of_ble_eq_true rfl, Nat.le_of_ble_eq_true rfl⟩ rfl (fun H locs hH => ?_)
  refine lv_astore_n (lv' := [(3, .ref (wd i 0)), (0, .ref (q 0)), (1, .int (nI i)), (2, .int w)]) hx hb dX2_cut_5 rfl hl (by decide) rfl (fun ls hl => ?_)
  refine lv_iload_n hx hb dX2_cut_6 rfl (lv_at hl 3 rfl) ?_
  refine lv_iconst (v := 0) hx hb dX2_cut_7 (by decide) ?_
  refine lv_sipush (v := 200) hx hb dX2_cut_8 (by decide) ?_
  refine callSI0 (rest := []) F (c_X2_isWithin_0 l G _ w 0 200 h) gX2_cut_X2_isWithin rfl hdX2_isWithin ⟨Nat.le_of_ble_eq_true rfl, Nat.le_of_ble_eq_true rfl⟩ hH rfl hl.1 (Nat.le_of_ble_eq_true rfl) dX2_cut_11 ⟨Nat.le_of_ble_eq_true rfl, Nat.le_of_ble_eq_true rfl⟩ rfl (fun u H locs hH => ?_)
  have hH : HH G A s (sW G q n nc t fl fd k wd wf wa cd cf) H locs := hH
  exact callSX0 (rest := []) F (c_X2_requireArgument_0 l hst G _) gX2_cut_X2_requireArgument rfl hdX2_requireArgument ⟨Nat.le_of_ble_eq_true rfl, Nat.le_of_ble_eq_true rfl⟩ hH rfl hl.1 (Nat.le_of_ble_eq_true rfl) dX2_cut_14 ⟨Nat.le_of_ble_eq_true rfl, Nat.le_of_ble_eq_true rfl⟩ rfl htb (Nat.le_of_ble_eq_true rfl) (Nat.le_of_ble_eq_true rfl)

set_option maxHeartbeats 4000000 in
set_option maxRecDepth 100000 in
theorem c_X2_cut_0 (l : Launch) (hst : l.stackTraces = false) (G : Gx) (q : Nat → Nat) (n nc t : Nat) (fl fd : Int32) (k : Nat → Int32) (wd : Nat → Nat → Nat) (wf : Nat → Nat → Int32) (wa : Nat → Nat → Nat → Int32) (cd : Nat → Nat) (cf : Nat → Nat → Int32) (hn : n ≤ 8) (v : Int32) (h : v < 0 ∨ nI n ≤ v) (w : Int32) : MX l yX2_cut wsX2_cut ({ frames := 7, cells := 1, slots := 6, locals := 112 } : Room) [.ref (q 0), .int v, .int w] G (sW G q n nc t fl fd k wd wf wa cd cf) "java/lang/IndexOutOfBoundsException" := by
  refine ofMX (cc := cX2_cut) (maxL := 4) (ret := (some .int)) (by decide) rfl (Nat.le_of_ble_eq_true rfl) (fun p e s m below meth c A ls F htb hH hl => ?_)
  have F : Fx G p s m _ meth c cX2_cut 4 wsX2_cut RX2 A := F
  have hx := F.1.1
  have hb := F.1.2.1
  have hl : lv_has ls 4 [(0, .ref (q 0)), (1, .int v), (2, .int w)] := hl
  refine lv_aload_n hx hb dX2_cut_0 rfl (lv_at hl 0 rfl) ?_
  refine lv_iload_n hx hb dX2_cut_1 rfl (lv_at hl 1 rfl) ?_
  exact callVX0 (rest := []) F (c_X2_workerAt_0 l hst G q n nc t fl fd k wd wf wa cd cf hn v h) gX2_cut_X2_workerAt rfl hdX2_workerAt ⟨Nat.le_of_ble_eq_true rfl, Nat.le_of_ble_eq_true rfl⟩ hH ⟨0, 2, _, _, rfl, rfl, rfl⟩ rfl hl.1 (Nat.le_of_ble_eq_true rfl) dX2_cut_2 ⟨Nat.le_of_ble_eq_true rfl, Nat.le_of_ble_eq_true rfl⟩ rfl htb (Nat.le_of_ble_eq_true rfl) (Nat.le_of_ble_eq_true rfl)

set_option maxHeartbeats 4000000 in
set_option maxRecDepth 100000 in
theorem c_X2_isFilled_1 (l : Launch) (G : Gx) (q : Nat → Nat) (n nc t : Nat) (fl fd : Int32) (k : Nat → Int32) (wd : Nat → Nat → Nat) (wf : Nat → Nat → Int32) (wa : Nat → Nat → Nat → Int32) (cd : Nat → Nat) (cf : Nat → Nat → Int32) (hn : n ≤ 8) (i : Nat) (hi : i < n) (j : Nat) (hj : j ≤ 200) : MI l yX2_isFilled wsX2_isFilled ({ frames := 2, cells := 0, slots := 0, locals := 44 } : Room) [.ref (q 0), .int (nI i), .int (nI j)] G (sW G q n nc t fl fd k wd wf wa cd cf) (fun u => sW G q n nc t fl fd k wd wf wa cd cf) (fillB (wa i 3 j) (wa i 2 j)) := by
  refine ofMI (cc := cX2_isFilled) (maxL := 4) (ret := (some .boolean)) (by decide) rfl (Nat.le_of_ble_eq_true rfl) (fun p e s m below meth c A ls F hr hnm hH hl => ?_)
  have F : Fx G p s m _ meth c cX2_isFilled 4 wsX2_isFilled RX2 A := F
  have hx := F.1.1
  have hb := F.1.2.1
  have hl : lv_has ls 4 [(0, .ref (q 0)), (1, .int (nI i)), (2, .int (nI j))] := hl
  refine lv_aload_n hx hb dX2_isFilled_0 rfl (lv_at hl 0 rfl) ?_
  refine lv_iload_n hx hb dX2_isFilled_1 rfl (lv_at hl 1 rfl) ?_
  refine callVR0 (rest := []) F (c_X2_workerAt_1 l G q n nc t fl fd k wd wf wa cd cf hn i hi) gX2_isFilled_X2_workerAt rfl hdX2_workerAt ⟨Nat.le_of_ble_eq_true rfl, Nat.le_of_ble_eq_true rfl⟩ hH ⟨0, 2, _, _, rfl, rfl, rfl⟩ rfl hl.1 (Nat.le_of_ble_eq_true rfl) dX2_isFilled_2 ⟨Nat.le_of_ble_eq_true rfl, Nat.le_of_ble_eq_true rfl⟩ rfl (fun H locs hH => ?_)
  refine lv_astore_n (lv' := [(3, .ref (wd i 0)), (0, .ref (q 0)), (1, .int (nI i)), (2, .int (nI j))]) hx hb dX2_isFilled_5 rfl hl (by decide) rfl (fun ls hl => ?_)
  refine lv_iload_n hx hb dX2_isFilled_6 rfl (lv_at hl 3 rfl) ?_
  refine lv_iconst (v := 0) hx hb dX2_isFilled_7 (by decide) ?_
  refine lv_sipush (v := 200) hx hb dX2_isFilled_8 (by decide) ?_
  refine callSI0 (rest := []) F (c_X2_isWithin_1 l G _ (nI j) 0 200 (nI_pos' (by omega)) (nI_le (a := j) (b := 200) hj (by decide))) gX2_isFilled_X2_isWithin rfl hdX2_isWithin ⟨Nat.le_of_ble_eq_true rfl, Nat.le_of_ble_eq_true rfl⟩ hH rfl hl.1 (Nat.le_of_ble_eq_true rfl) dX2_isFilled_11 ⟨Nat.le_of_ble_eq_true rfl, Nat.le_of_ble_eq_true rfl⟩ rfl (fun u H locs hH => ?_)
  have hH : HH G A s (sW G q n nc t fl fd k wd wf wa cd cf) H locs := hH
  refine callSV0 (rest := []) F (c_X2_requireArgument_1 l G _) gX2_isFilled_X2_requireArgument rfl hdX2_requireArgument ⟨Nat.le_of_ble_eq_true rfl, Nat.le_of_ble_eq_true rfl⟩ hH rfl hl.1 (Nat.le_of_ble_eq_true rfl) dX2_isFilled_14 ⟨Nat.le_of_ble_eq_true rfl, Nat.le_of_ble_eq_true rfl⟩ rfl (fun u H locs hH => ?_)
  have hH : HH G A s (sW G q n nc t fl fd k wd wf wa cd cf) H locs := hH
  refine lv_aload_n hx hb dX2_isFilled_17 rfl (lv_at hl 0 rfl) ?_
  refine lv_iload_n hx hb dX2_isFilled_18 rfl (lv_at hl 3 rfl) ?_
  obtain ⟨a9, b9, -, h91, h92⟩ := sW_mid (G := G) (q := q) (n := n) (m := nc) (t := t) (fl := fl) (fd := fd) (k := k) (wd := wd) (wf := wf) (wa := wa) (cd := cd) (cf := cf) hi
  refine callVI (rest := []) F (c_X1_hasFilled l G (wd i) (wf i) (wa i) j (by omega)) gX2_isFilled_X1_hasFilled rfl hdX1_hasFilled ⟨Nat.le_of_ble_eq_true rfl, Nat.le_of_ble_eq_true rfl⟩ a9 b9 hH h91 ⟨0, 1, _, _, rfl, rfl, rfl⟩ rfl hl.1 (Nat.le_of_ble_eq_true rfl) dX2_isFilled_19 ⟨Nat.le_of_ble_eq_true rfl, Nat.le_of_ble_eq_true rfl⟩ rfl (fun u H locs hH => ?_)
  have hH : HH G A s (sW G q n nc t fl fd k wd wf wa cd cf) H locs := by rw [h91]; exact hH
  exact retI F hr (fillB_nar _ _) (fun _ => 0) hH rfl (Nat.le_of_ble_eq_true rfl) (Nat.le_of_ble_eq_true rfl) dX2_isFilled_22

set_option maxHeartbeats 4000000 in
set_option maxRecDepth 100000 in
theorem c_X2_isFilled_2 (l : Launch) (hst : l.stackTraces = false) (G : Gx) (q : Nat → Nat) (n nc t : Nat) (fl fd : Int32) (k : Nat → Int32) (wd : Nat → Nat → Nat) (wf : Nat → Nat → Int32) (wa : Nat → Nat → Nat → Int32) (cd : Nat → Nat) (cf : Nat → Nat → Int32) (hn : n ≤ 8) (i : Nat) (hi : i < n) (w : Int32) (h : w < 0 ∨ 200 < w) : MX l yX2_isFilled wsX2_isFilled ({ frames := 7, cells := 1, slots := 6, locals := 110 } : Room) [.ref (q 0), .int (nI i), .int w] G (sW G q n nc t fl fd k wd wf wa cd cf) "java/lang/IllegalArgumentException" := by
  refine ofMX (cc := cX2_isFilled) (maxL := 4) (ret := (some .boolean)) (by decide) rfl (Nat.le_of_ble_eq_true rfl) (fun p e s m below meth c A ls F htb hH hl => ?_)
  have F : Fx G p s m _ meth c cX2_isFilled 4 wsX2_isFilled RX2 A := F
  have hx := F.1.1
  have hb := F.1.2.1
  have hl : lv_has ls 4 [(0, .ref (q 0)), (1, .int (nI i)), (2, .int w)] := hl
  refine lv_aload_n hx hb dX2_isFilled_0 rfl (lv_at hl 0 rfl) ?_
  refine lv_iload_n hx hb dX2_isFilled_1 rfl (lv_at hl 1 rfl) ?_
  refine callVR0 (rest := []) F (c_X2_workerAt_1 l G q n nc t fl fd k wd wf wa cd cf hn i hi) gX2_isFilled_X2_workerAt rfl hdX2_workerAt ⟨Nat.le_of_ble_eq_true rfl, Nat.le_of_ble_eq_true rfl⟩ hH ⟨0, 2, _, _, rfl, rfl, rfl⟩ rfl hl.1 (Nat.le_of_ble_eq_true rfl) dX2_isFilled_2 ⟨Nat.le_of_ble_eq_true rfl, Nat.le_of_ble_eq_true rfl⟩ rfl (fun H locs hH => ?_)
  refine lv_astore_n (lv' := [(3, .ref (wd i 0)), (0, .ref (q 0)), (1, .int (nI i)), (2, .int w)]) hx hb dX2_isFilled_5 rfl hl (by decide) rfl (fun ls hl => ?_)
  refine lv_iload_n hx hb dX2_isFilled_6 rfl (lv_at hl 3 rfl) ?_
  refine lv_iconst (v := 0) hx hb dX2_isFilled_7 (by decide) ?_
  refine lv_sipush (v := 200) hx hb dX2_isFilled_8 (by decide) ?_
  refine callSI0 (rest := []) F (c_X2_isWithin_0 l G _ w 0 200 h) gX2_isFilled_X2_isWithin rfl hdX2_isWithin ⟨Nat.le_of_ble_eq_true rfl, Nat.le_of_ble_eq_true rfl⟩ hH rfl hl.1 (Nat.le_of_ble_eq_true rfl) dX2_isFilled_11 ⟨Nat.le_of_ble_eq_true rfl, Nat.le_of_ble_eq_true rfl⟩ rfl (fun u H locs hH => ?_)
  have hH : HH G A s (sW G q n nc t fl fd k wd wf wa cd cf) H locs := hH
  exact callSX0 (rest := []) F (c_X2_requireArgument_0 l hst G _) gX2_isFilled_X2_requireArgument rfl hdX2_requireArgument ⟨Nat.le_of_ble_eq_true rfl, Nat.le_of_ble_eq_true rfl⟩ hH rfl hl.1 (Nat.le_of_ble_eq_true rfl) dX2_isFilled_14 ⟨Nat.le_of_ble_eq_true rfl, Nat.le_of_ble_eq_true rfl⟩ rfl htb (Nat.le_of_ble_eq_true rfl) (Nat.le_of_ble_eq_true rfl)

set_option maxHeartbeats 4000000 in
set_option maxRecDepth 100000 in
theorem c_X2_isFilled_0 (l : Launch) (hst : l.stackTraces = false) (G : Gx) (q : Nat → Nat) (n nc t : Nat) (fl fd : Int32) (k : Nat → Int32) (wd : Nat → Nat → Nat) (wf : Nat → Nat → Int32) (wa : Nat → Nat → Nat → Int32) (cd : Nat → Nat) (cf : Nat → Nat → Int32) (hn : n ≤ 8) (v : Int32) (h : v < 0 ∨ nI n ≤ v) (w : Int32) : MX l yX2_isFilled wsX2_isFilled ({ frames := 7, cells := 1, slots := 6, locals := 112 } : Room) [.ref (q 0), .int v, .int w] G (sW G q n nc t fl fd k wd wf wa cd cf) "java/lang/IndexOutOfBoundsException" := by
  refine ofMX (cc := cX2_isFilled) (maxL := 4) (ret := (some .boolean)) (by decide) rfl (Nat.le_of_ble_eq_true rfl) (fun p e s m below meth c A ls F htb hH hl => ?_)
  have F : Fx G p s m _ meth c cX2_isFilled 4 wsX2_isFilled RX2 A := F
  have hx := F.1.1
  have hb := F.1.2.1
  have hl : lv_has ls 4 [(0, .ref (q 0)), (1, .int v), (2, .int w)] := hl
  refine lv_aload_n hx hb dX2_isFilled_0 rfl (lv_at hl 0 rfl) ?_
  refine lv_iload_n hx hb dX2_isFilled_1 rfl (lv_at hl 1 rfl) ?_
  exact callVX0 (rest := []) F (c_X2_workerAt_0 l hst G q n nc t fl fd k wd wf wa cd cf hn v h) gX2_isFilled_X2_workerAt rfl hdX2_workerAt ⟨Nat.le_of_ble_eq_true rfl, Nat.le_of_ble_eq_true rfl⟩ hH ⟨0, 2, _, _, rfl, rfl, rfl⟩ rfl hl.1 (Nat.le_of_ble_eq_true rfl) dX2_isFilled_2 ⟨Nat.le_of_ble_eq_true rfl, Nat.le_of_ble_eq_true rfl⟩ rfl htb (Nat.le_of_ble_eq_true rfl) (Nat.le_of_ble_eq_true rfl)

set_option maxHeartbeats 4000000 in
set_option maxRecDepth 100000 in
theorem c_X2_paid_1 (l : Launch) (G : Gx) (q : Nat → Nat) (n nc t : Nat) (fl fd : Int32) (k : Nat → Int32) (wd : Nat → Nat → Nat) (wf : Nat → Nat → Int32) (wa : Nat → Nat → Nat → Int32) (cd : Nat → Nat) (cf : Nat → Nat → Int32) (hn : n ≤ 8) (i : Nat) (hi : i < n) (ht : t ≤ 201) (j : Nat) (hj : j < t) : MI l yX2_paid wsX2_paid ({ frames := 2, cells := 0, slots := 0, locals := 44 } : Room) [.ref (q 0), .int (nI i), .int (nI j)] G (sW G q n nc t fl fd k wd wf wa cd cf) (fun u => sW G q n nc t fl fd k wd wf wa cd cf) (wa i 4 j) := by
  refine ofMI (cc := cX2_paid) (maxL := 4) (ret := (some .int)) (by decide) rfl (Nat.le_of_ble_eq_true rfl) (fun p e s m below meth c A ls F hr hnm hH hl => ?_)
  have F : Fx G p s m _ meth c cX2_paid 4 wsX2_paid RX2 A := F
  have hx := F.1.1
  have hb := F.1.2.1
  have hl : lv_has ls 4 [(0, .ref (q 0)), (1, .int (nI i)), (2, .int (nI j))] := hl
  refine lv_aload_n hx hb dX2_paid_0 rfl (lv_at hl 0 rfl) ?_
  refine lv_iload_n hx hb dX2_paid_1 rfl (lv_at hl 1 rfl) ?_
  refine callVR0 (rest := []) F (c_X2_workerAt_1 l G q n nc t fl fd k wd wf wa cd cf hn i hi) gX2_paid_X2_workerAt rfl hdX2_workerAt ⟨Nat.le_of_ble_eq_true rfl, Nat.le_of_ble_eq_true rfl⟩ hH ⟨0, 2, _, _, rfl, rfl, rfl⟩ rfl hl.1 (Nat.le_of_ble_eq_true rfl) dX2_paid_2 ⟨Nat.le_of_ble_eq_true rfl, Nat.le_of_ble_eq_true rfl⟩ rfl (fun H locs hH => ?_)
  refine lv_astore_n (lv' := [(3, .ref (wd i 0)), (0, .ref (q 0)), (1, .int (nI i)), (2, .int (nI j))]) hx hb dX2_paid_5 rfl hl (by decide) rfl (fun ls hl => ?_)
  refine lv_aload_n hx hb dX2_paid_6 rfl (lv_at hl 1 rfl) ?_
  refine lv_iload_n hx hb dX2_paid_7 rfl (lv_at hl 3 rfl) ?_
  refine callVI0 (rest := []) F (c_X2_hasPassed_1 l G q n nc t fl fd k wd wf wa cd cf (by omega) j hj) gX2_paid_X2_hasPassed rfl hdX2_hasPassed ⟨Nat.le_of_ble_eq_true rfl, Nat.le_of_ble_eq_true rfl⟩ hH ⟨0, 2, _, _, rfl, rfl, rfl⟩ rfl hl.1 (Nat.le_of_ble_eq_true rfl) dX2_paid_8 ⟨Nat.le_of_ble_eq_true rfl, Nat.le_of_ble_eq_true rfl⟩ rfl (fun u H locs hH => ?_)
  have hH : HH G A s (sW G q n nc t fl fd k wd wf wa cd cf) H locs := hH
  refine callSV0 (rest := []) F (c_X2_requireArgument_1 l G _) gX2_paid_X2_requireArgument rfl hdX2_requireArgument ⟨Nat.le_of_ble_eq_true rfl, Nat.le_of_ble_eq_true rfl⟩ hH rfl hl.1 (Nat.le_of_ble_eq_true rfl) dX2_paid_11 ⟨Nat.le_of_ble_eq_true rfl, Nat.le_of_ble_eq_true rfl⟩ rfl (fun u H locs hH => ?_)
  have hH : HH G A s (sW G q n nc t fl fd k wd wf wa cd cf) H locs := hH
  refine lv_aload_n hx hb dX2_paid_14 rfl (lv_at hl 0 rfl) ?_
  refine rgetN (C := RX1) (T := TX1) (N := 12) (ref := RX1) (host := RX2) F in_X2_paid_X1 hH (4 + 7 * i + 0) (sW_at hi (j := 0) rfl) rfl 4 (by decide) (by decide +kernel) (fun _ h9 => h9) (v := .ref (wd i 4)) rfl dX2_paid_15 ?_
  refine lv_iload_n hx hb dX2_paid_18 rfl (lv_at hl 3 rfl) ?_
  refine riald F hH (4 + 7 * i + 3) (n := 201) (f := wa i 4) (sW_at hi (j := 3) rfl) j rfl (by omega) (by decide) dX2_paid_19 ?_
  exact retI F hr rfl (fun _ => 0) hH rfl (Nat.le_of_ble_eq_true rfl) (Nat.le_of_ble_eq_true rfl) dX2_paid_20

set_option maxHeartbeats 4000000 in
set_option maxRecDepth 100000 in
theorem c_X2_paid_2 (l : Launch) (hst : l.stackTraces = false) (G : Gx) (q : Nat → Nat) (n nc t : Nat) (fl fd : Int32) (k : Nat → Int32) (wd : Nat → Nat → Nat) (wf : Nat → Nat → Int32) (wa : Nat → Nat → Nat → Int32) (cd : Nat → Nat) (cf : Nat → Nat → Int32) (hn : n ≤ 8) (i : Nat) (hi : i < n) (ht : t ≤ 201) (w : Int32) (h : w < 0 ∨ nI t ≤ w) : MX l yX2_paid wsX2_paid ({ frames := 7, cells := 1, slots := 6, locals := 110 } : Room) [.ref (q 0), .int (nI i), .int w] G (sW G q n nc t fl fd k wd wf wa cd cf) "java/lang/IllegalArgumentException" := by
  refine ofMX (cc := cX2_paid) (maxL := 4) (ret := (some .int)) (by decide) rfl (Nat.le_of_ble_eq_true rfl) (fun p e s m below meth c A ls F htb hH hl => ?_)
  have F : Fx G p s m _ meth c cX2_paid 4 wsX2_paid RX2 A := F
  have hx := F.1.1
  have hb := F.1.2.1
  have hl : lv_has ls 4 [(0, .ref (q 0)), (1, .int (nI i)), (2, .int w)] := hl
  refine lv_aload_n hx hb dX2_paid_0 rfl (lv_at hl 0 rfl) ?_
  refine lv_iload_n hx hb dX2_paid_1 rfl (lv_at hl 1 rfl) ?_
  refine callVR0 (rest := []) F (c_X2_workerAt_1 l G q n nc t fl fd k wd wf wa cd cf hn i hi) gX2_paid_X2_workerAt rfl hdX2_workerAt ⟨Nat.le_of_ble_eq_true rfl, Nat.le_of_ble_eq_true rfl⟩ hH ⟨0, 2, _, _, rfl, rfl, rfl⟩ rfl hl.1 (Nat.le_of_ble_eq_true rfl) dX2_paid_2 ⟨Nat.le_of_ble_eq_true rfl, Nat.le_of_ble_eq_true rfl⟩ rfl (fun H locs hH => ?_)
  refine lv_astore_n (lv' := [(3, .ref (wd i 0)), (0, .ref (q 0)), (1, .int (nI i)), (2, .int w)]) hx hb dX2_paid_5 rfl hl (by decide) rfl (fun ls hl => ?_)
  refine lv_aload_n hx hb dX2_paid_6 rfl (lv_at hl 1 rfl) ?_
  refine lv_iload_n hx hb dX2_paid_7 rfl (lv_at hl 3 rfl) ?_
  refine callVI0 (rest := []) F (c_X2_hasPassed_0 l G q n nc t fl fd k wd wf wa cd cf (by omega) w h) gX2_paid_X2_hasPassed rfl hdX2_hasPassed ⟨Nat.le_of_ble_eq_true rfl, Nat.le_of_ble_eq_true rfl⟩ hH ⟨0, 2, _, _, rfl, rfl, rfl⟩ rfl hl.1 (Nat.le_of_ble_eq_true rfl) dX2_paid_8 ⟨Nat.le_of_ble_eq_true rfl, Nat.le_of_ble_eq_true rfl⟩ rfl (fun u H locs hH => ?_)
  have hH : HH G A s (sW G q n nc t fl fd k wd wf wa cd cf) H locs := hH
  exact callSX0 (rest := []) F (c_X2_requireArgument_0 l hst G _) gX2_paid_X2_requireArgument rfl hdX2_requireArgument ⟨Nat.le_of_ble_eq_true rfl, Nat.le_of_ble_eq_true rfl⟩ hH rfl hl.1 (Nat.le_of_ble_eq_true rfl) dX2_paid_11 ⟨Nat.le_of_ble_eq_true rfl, Nat.le_of_ble_eq_true rfl⟩ rfl htb (Nat.le_of_ble_eq_true rfl) (Nat.le_of_ble_eq_true rfl)

set_option maxHeartbeats 4000000 in
set_option maxRecDepth 100000 in
theorem c_X2_paid_0 (l : Launch) (hst : l.stackTraces = false) (G : Gx) (q : Nat → Nat) (n nc t : Nat) (fl fd : Int32) (k : Nat → Int32) (wd : Nat → Nat → Nat) (wf : Nat → Nat → Int32) (wa : Nat → Nat → Nat → Int32) (cd : Nat → Nat) (cf : Nat → Nat → Int32) (hn : n ≤ 8) (v : Int32) (h : v < 0 ∨ nI n ≤ v) (w : Int32) : MX l yX2_paid wsX2_paid ({ frames := 7, cells := 1, slots := 6, locals := 112 } : Room) [.ref (q 0), .int v, .int w] G (sW G q n nc t fl fd k wd wf wa cd cf) "java/lang/IndexOutOfBoundsException" := by
  refine ofMX (cc := cX2_paid) (maxL := 4) (ret := (some .int)) (by decide) rfl (Nat.le_of_ble_eq_true rfl) (fun p e s m below meth c A ls F htb hH hl => ?_)
  have F : Fx G p s m _ meth c cX2_paid 4 wsX2_paid RX2 A := F
  have hx := F.1.1
  have hb := F.1.2.1
  have hl : lv_has ls 4 [(0, .ref (q 0)), (1, .int v), (2, .int w)] := hl
  refine lv_aload_n hx hb dX2_paid_0 rfl (lv_at hl 0 rfl) ?_
  refine lv_iload_n hx hb dX2_paid_1 rfl (lv_at hl 1 rfl) ?_
  exact callVX0 (rest := []) F (c_X2_workerAt_0 l hst G q n nc t fl fd k wd wf wa cd cf hn v h) gX2_paid_X2_workerAt rfl hdX2_workerAt ⟨Nat.le_of_ble_eq_true rfl, Nat.le_of_ble_eq_true rfl⟩ hH ⟨0, 2, _, _, rfl, rfl, rfl⟩ rfl hl.1 (Nat.le_of_ble_eq_true rfl) dX2_paid_2 ⟨Nat.le_of_ble_eq_true rfl, Nat.le_of_ble_eq_true rfl⟩ rfl htb (Nat.le_of_ble_eq_true rfl) (Nat.le_of_ble_eq_true rfl)

set_option maxHeartbeats 4000000 in
set_option maxRecDepth 100000 in
theorem c_X2_madeUp_1 (l : Launch) (G : Gx) (q : Nat → Nat) (n nc t : Nat) (fl fd : Int32) (k : Nat → Int32) (wd : Nat → Nat → Nat) (wf : Nat → Nat → Int32) (wa : Nat → Nat → Nat → Int32) (cd : Nat → Nat) (cf : Nat → Nat → Int32) (hn : n ≤ 8) (i : Nat) (hi : i < n) (ht : t ≤ 201) (j : Nat) (hj : j < t) : MI l yX2_madeUp wsX2_madeUp ({ frames := 2, cells := 0, slots := 0, locals := 44 } : Room) [.ref (q 0), .int (nI i), .int (nI j)] G (sW G q n nc t fl fd k wd wf wa cd cf) (fun u => sW G q n nc t fl fd k wd wf wa cd cf) (wa i 5 j) := by
  refine ofMI (cc := cX2_madeUp) (maxL := 4) (ret := (some .int)) (by decide) rfl (Nat.le_of_ble_eq_true rfl) (fun p e s m below meth c A ls F hr hnm hH hl => ?_)
  have F : Fx G p s m _ meth c cX2_madeUp 4 wsX2_madeUp RX2 A := F
  have hx := F.1.1
  have hb := F.1.2.1
  have hl : lv_has ls 4 [(0, .ref (q 0)), (1, .int (nI i)), (2, .int (nI j))] := hl
  refine lv_aload_n hx hb dX2_madeUp_0 rfl (lv_at hl 0 rfl) ?_
  refine lv_iload_n hx hb dX2_madeUp_1 rfl (lv_at hl 1 rfl) ?_
  refine callVR0 (rest := []) F (c_X2_workerAt_1 l G q n nc t fl fd k wd wf wa cd cf hn i hi) gX2_madeUp_X2_workerAt rfl hdX2_workerAt ⟨Nat.le_of_ble_eq_true rfl, Nat.le_of_ble_eq_true rfl⟩ hH ⟨0, 2, _, _, rfl, rfl, rfl⟩ rfl hl.1 (Nat.le_of_ble_eq_true rfl) dX2_madeUp_2 ⟨Nat.le_of_ble_eq_true rfl, Nat.le_of_ble_eq_true rfl⟩ rfl (fun H locs hH => ?_)
  refine lv_astore_n (lv' := [(3, .ref (wd i 0)), (0, .ref (q 0)), (1, .int (nI i)), (2, .int (nI j))]) hx hb dX2_madeUp_5 rfl hl (by decide) rfl (fun ls hl => ?_)
  refine lv_aload_n hx hb dX2_madeUp_6 rfl (lv_at hl 1 rfl) ?_
  refine lv_iload_n hx hb dX2_madeUp_7 rfl (lv_at hl 3 rfl) ?_
  refine callVI0 (rest := []) F (c_X2_hasPassed_1 l G q n nc t fl fd k wd wf wa cd cf (by omega) j hj) gX2_madeUp_X2_hasPassed rfl hdX2_hasPassed ⟨Nat.le_of_ble_eq_true rfl, Nat.le_of_ble_eq_true rfl⟩ hH ⟨0, 2, _, _, rfl, rfl, rfl⟩ rfl hl.1 (Nat.le_of_ble_eq_true rfl) dX2_madeUp_8 ⟨Nat.le_of_ble_eq_true rfl, Nat.le_of_ble_eq_true rfl⟩ rfl (fun u H locs hH => ?_)
  have hH : HH G A s (sW G q n nc t fl fd k wd wf wa cd cf) H locs := hH
  refine callSV0 (rest := []) F (c_X2_requireArgument_1 l G _) gX2_madeUp_X2_requireArgument rfl hdX2_requireArgument ⟨Nat.le_of_ble_eq_true rfl, Nat.le_of_ble_eq_true rfl⟩ hH rfl hl.1 (Nat.le_of_ble_eq_true rfl) dX2_madeUp_11 ⟨Nat.le_of_ble_eq_true rfl, Nat.le_of_ble_eq_true rfl⟩ rfl (fun u H locs hH => ?_)
  have hH : HH G A s (sW G q n nc t fl fd k wd wf wa cd cf) H locs := hH
  refine lv_aload_n hx hb dX2_madeUp_14 rfl (lv_at hl 0 rfl) ?_
  refine rgetN (C := RX1) (T := TX1) (N := 12) (ref := RX1) (host := RX2) F in_X2_madeUp_X1 hH (4 + 7 * i + 0) (sW_at hi (j := 0) rfl) rfl 5 (by decide) (by decide +kernel) (fun _ h9 => h9) (v := .ref (wd i 5)) rfl dX2_madeUp_15 ?_
  refine lv_iload_n hx hb dX2_madeUp_18 rfl (lv_at hl 3 rfl) ?_
  refine riald F hH (4 + 7 * i + 4) (n := 201) (f := wa i 5) (sW_at hi (j := 4) rfl) j rfl (by omega) (by decide) dX2_madeUp_19 ?_
  exact retI F hr rfl (fun _ => 0) hH rfl (Nat.le_of_ble_eq_true rfl) (Nat.le_of_ble_eq_true rfl) dX2_madeUp_20

set_option maxHeartbeats 4000000 in
set_option maxRecDepth 100000 in
theorem c_X2_madeUp_2 (l : Launch) (hst : l.stackTraces = false) (G : Gx) (q : Nat → Nat) (n nc t : Nat) (fl fd : Int32) (k : Nat → Int32) (wd : Nat → Nat → Nat) (wf : Nat → Nat → Int32) (wa : Nat → Nat → Nat → Int32) (cd : Nat → Nat) (cf : Nat → Nat → Int32) (hn : n ≤ 8) (i : Nat) (hi : i < n) (ht : t ≤ 201) (w : Int32) (h : w < 0 ∨ nI t ≤ w) : MX l yX2_madeUp wsX2_madeUp ({ frames := 7, cells := 1, slots := 6, locals := 110 } : Room) [.ref (q 0), .int (nI i), .int w] G (sW G q n nc t fl fd k wd wf wa cd cf) "java/lang/IllegalArgumentException" := by
  refine ofMX (cc := cX2_madeUp) (maxL := 4) (ret := (some .int)) (by decide) rfl (Nat.le_of_ble_eq_true rfl) (fun p e s m below meth c A ls F htb hH hl => ?_)
  have F : Fx G p s m _ meth c cX2_madeUp 4 wsX2_madeUp RX2 A := F
  have hx := F.1.1
  have hb := F.1.2.1
  have hl : lv_has ls 4 [(0, .ref (q 0)), (1, .int (nI i)), (2, .int w)] := hl
  refine lv_aload_n hx hb dX2_madeUp_0 rfl (lv_at hl 0 rfl) ?_
  refine lv_iload_n hx hb dX2_madeUp_1 rfl (lv_at hl 1 rfl) ?_
  refine callVR0 (rest := []) F (c_X2_workerAt_1 l G q n nc t fl fd k wd wf wa cd cf hn i hi) gX2_madeUp_X2_workerAt rfl hdX2_workerAt ⟨Nat.le_of_ble_eq_true rfl, Nat.le_of_ble_eq_true rfl⟩ hH ⟨0, 2, _, _, rfl, rfl, rfl⟩ rfl hl.1 (Nat.le_of_ble_eq_true rfl) dX2_madeUp_2 ⟨Nat.le_of_ble_eq_true rfl, Nat.le_of_ble_eq_true rfl⟩ rfl (fun H locs hH => ?_)
  refine lv_astore_n (lv' := [(3, .ref (wd i 0)), (0, .ref (q 0)), (1, .int (nI i)), (2, .int w)]) hx hb dX2_madeUp_5 rfl hl (by decide) rfl (fun ls hl => ?_)
  refine lv_aload_n hx hb dX2_madeUp_6 rfl (lv_at hl 1 rfl) ?_
  refine lv_iload_n hx hb dX2_madeUp_7 rfl (lv_at hl 3 rfl) ?_
  refine callVI0 (rest := []) F (c_X2_hasPassed_0 l G q n nc t fl fd k wd wf wa cd cf (by omega) w h) gX2_madeUp_X2_hasPassed rfl hdX2_hasPassed ⟨Nat.le_of_ble_eq_true rfl, Nat.le_of_ble_eq_true rfl⟩ hH ⟨0, 2, _, _, rfl, rfl, rfl⟩ rfl hl.1 (Nat.le_of_ble_eq_true rfl) dX2_madeUp_8 ⟨Nat.le_of_ble_eq_true rfl, Nat.le_of_ble_eq_true rfl⟩ rfl (fun u H locs hH => ?_)
  have hH : HH G A s (sW G q n nc t fl fd k wd wf wa cd cf) H locs := hH
  exact callSX0 (rest := []) F (c_X2_requireArgument_0 l hst G _) gX2_madeUp_X2_requireArgument rfl hdX2_requireArgument ⟨Nat.le_of_ble_eq_true rfl, Nat.le_of_ble_eq_true rfl⟩ hH rfl hl.1 (Nat.le_of_ble_eq_true rfl) dX2_madeUp_11 ⟨Nat.le_of_ble_eq_true rfl, Nat.le_of_ble_eq_true rfl⟩ rfl htb (Nat.le_of_ble_eq_true rfl) (Nat.le_of_ble_eq_true rfl)

set_option maxHeartbeats 4000000 in
set_option maxRecDepth 100000 in
theorem c_X2_madeUp_0 (l : Launch) (hst : l.stackTraces = false) (G : Gx) (q : Nat → Nat) (n nc t : Nat) (fl fd : Int32) (k : Nat → Int32) (wd : Nat → Nat → Nat) (wf : Nat → Nat → Int32) (wa : Nat → Nat → Nat → Int32) (cd : Nat → Nat) (cf : Nat → Nat → Int32) (hn : n ≤ 8) (v : Int32) (h : v < 0 ∨ nI n ≤ v) (w : Int32) : MX l yX2_madeUp wsX2_madeUp ({ frames := 7, cells := 1, slots := 6, locals := 112 } : Room) [.ref (q 0), .int v, .int w] G (sW G q n nc t fl fd k wd wf wa cd cf) "java/lang/IndexOutOfBoundsException" := by
  refine ofMX (cc := cX2_madeUp) (maxL := 4) (ret := (some .int)) (by decide) rfl (Nat.le_of_ble_eq_true rfl) (fun p e s m below meth c A ls F htb hH hl => ?_)
  have F : Fx G p s m _ meth c cX2_madeUp 4 wsX2_madeUp RX2 A := F
  have hx := F.1.1
  have hb := F.1.2.1
  have hl : lv_has ls 4 [(0, .ref (q 0)), (1, .int v), (2, .int w)] := hl
  refine lv_aload_n hx hb dX2_madeUp_0 rfl (lv_at hl 0 rfl) ?_
  refine lv_iload_n hx hb dX2_madeUp_1 rfl (lv_at hl 1 rfl) ?_
  exact callVX0 (rest := []) F (c_X2_workerAt_0 l hst G q n nc t fl fd k wd wf wa cd cf hn v h) gX2_madeUp_X2_workerAt rfl hdX2_workerAt ⟨Nat.le_of_ble_eq_true rfl, Nat.le_of_ble_eq_true rfl⟩ hH ⟨0, 2, _, _, rfl, rfl, rfl⟩ rfl hl.1 (Nat.le_of_ble_eq_true rfl) dX2_madeUp_2 ⟨Nat.le_of_ble_eq_true rfl, Nat.le_of_ble_eq_true rfl⟩ rfl htb (Nat.le_of_ble_eq_true rfl) (Nat.le_of_ble_eq_true rfl)

set_option maxHeartbeats 4000000 in
set_option maxRecDepth 100000 in
theorem c_X2_cutWeeks_1 (l : Launch) (G : Gx) (q : Nat → Nat) (n nc t : Nat) (fl fd : Int32) (k : Nat → Int32) (wd : Nat → Nat → Nat) (wf : Nat → Nat → Int32) (wa : Nat → Nat → Nat → Int32) (cd : Nat → Nat) (cf : Nat → Nat → Int32) (hn : n ≤ 8) (i : Nat) (hi : i < n) : MI l yX2_cutWeeks wsX2_cutWeeks ({ frames := 2, cells := 0, slots := 0, locals := 44 } : Room) [.ref (q 0), .int (nI i)] G (sW G q n nc t fl fd k wd wf wa cd cf) (fun u => sW G q n nc t fl fd k wd wf wa cd cf) (wf i 9) := by
  refine ofMI (cc := cX2_cutWeeks) (maxL := 2) (ret := (some .int)) (by decide) rfl (Nat.le_of_ble_eq_true rfl) (fun p e s m below meth c A ls F hr hnm hH hl => ?_)
  have F : Fx G p s m _ meth c cX2_cutWeeks 2 wsX2_cutWeeks RX2 A := F
  have hx := F.1.1
  have hb := F.1.2.1
  have hl : lv_has ls 2 [(0, .ref (q 0)), (1, .int (nI i))] := hl
  refine lv_aload_n hx hb dX2_cutWeeks_0 rfl (lv_at hl 0 rfl) ?_
  refine lv_iload_n hx hb dX2_cutWeeks_1 rfl (lv_at hl 1 rfl) ?_
  refine callVR0 (rest := []) F (c_X2_workerAt_1 l G q n nc t fl fd k wd wf wa cd cf hn i hi) gX2_cutWeeks_X2_workerAt rfl hdX2_workerAt ⟨Nat.le_of_ble_eq_true rfl, Nat.le_of_ble_eq_true rfl⟩ hH ⟨0, 2, _, _, rfl, rfl, rfl⟩ rfl hl.1 (Nat.le_of_ble_eq_true rfl) dX2_cutWeeks_2 ⟨Nat.le_of_ble_eq_true rfl, Nat.le_of_ble_eq_true rfl⟩ rfl (fun H locs hH => ?_)
  refine rgetN (C := RX1) (T := TX1) (N := 12) (ref := RX1) (host := RX2) F in_X2_cutWeeks_X1 hH (4 + 7 * i + 0) (sW_at hi (j := 0) rfl) rfl 9 (by decide) (by decide +kernel) (fun _ h9 => h9) (v := .int (wf i 9)) rfl dX2_cutWeeks_5 ?_
  exact retI F hr rfl (fun _ => 0) hH rfl (Nat.le_of_ble_eq_true rfl) (Nat.le_of_ble_eq_true rfl) dX2_cutWeeks_8

set_option maxHeartbeats 4000000 in
set_option maxRecDepth 100000 in
theorem c_X2_cutWeeks_0 (l : Launch) (hst : l.stackTraces = false) (G : Gx) (q : Nat → Nat) (n nc t : Nat) (fl fd : Int32) (k : Nat → Int32) (wd : Nat → Nat → Nat) (wf : Nat → Nat → Int32) (wa : Nat → Nat → Nat → Int32) (cd : Nat → Nat) (cf : Nat → Nat → Int32) (hn : n ≤ 8) (v : Int32) (h : v < 0 ∨ nI n ≤ v) : MX l yX2_cutWeeks wsX2_cutWeeks ({ frames := 7, cells := 1, slots := 6, locals := 112 } : Room) [.ref (q 0), .int v] G (sW G q n nc t fl fd k wd wf wa cd cf) "java/lang/IndexOutOfBoundsException" := by
  refine ofMX (cc := cX2_cutWeeks) (maxL := 2) (ret := (some .int)) (by decide) rfl (Nat.le_of_ble_eq_true rfl) (fun p e s m below meth c A ls F htb hH hl => ?_)
  have F : Fx G p s m _ meth c cX2_cutWeeks 2 wsX2_cutWeeks RX2 A := F
  have hx := F.1.1
  have hb := F.1.2.1
  have hl : lv_has ls 2 [(0, .ref (q 0)), (1, .int v)] := hl
  refine lv_aload_n hx hb dX2_cutWeeks_0 rfl (lv_at hl 0 rfl) ?_
  refine lv_iload_n hx hb dX2_cutWeeks_1 rfl (lv_at hl 1 rfl) ?_
  exact callVX0 (rest := []) F (c_X2_workerAt_0 l hst G q n nc t fl fd k wd wf wa cd cf hn v h) gX2_cutWeeks_X2_workerAt rfl hdX2_workerAt ⟨Nat.le_of_ble_eq_true rfl, Nat.le_of_ble_eq_true rfl⟩ hH ⟨0, 2, _, _, rfl, rfl, rfl⟩ rfl hl.1 (Nat.le_of_ble_eq_true rfl) dX2_cutWeeks_2 ⟨Nat.le_of_ble_eq_true rfl, Nat.le_of_ble_eq_true rfl⟩ rfl htb (Nat.le_of_ble_eq_true rfl) (Nat.le_of_ble_eq_true rfl)

set_option maxHeartbeats 4000000 in
set_option maxRecDepth 100000 in
theorem c_X2_owes_1 (l : Launch) (G : Gx) (q : Nat → Nat) (n nc t : Nat) (fl fd : Int32) (k : Nat → Int32) (wd : Nat → Nat → Nat) (wf : Nat → Nat → Int32) (wa : Nat → Nat → Nat → Int32) (cd : Nat → Nat) (cf : Nat → Nat → Int32) (hn : n ≤ 8) (i : Nat) (hi : i < n) : MI l yX2_owes wsX2_owes ({ frames := 2, cells := 0, slots := 0, locals := 44 } : Room) [.ref (q 0), .int (nI i)] G (sW G q n nc t fl fd k wd wf wa cd cf) (fun u => sW G q n nc t fl fd k wd wf wa cd cf) (wf i 11) := by
  refine ofMI (cc := cX2_owes) (maxL := 2) (ret := (some .int)) (by decide) rfl (Nat.le_of_ble_eq_true rfl) (fun p e s m below meth c A ls F hr hnm hH hl => ?_)
  have F : Fx G p s m _ meth c cX2_owes 2 wsX2_owes RX2 A := F
  have hx := F.1.1
  have hb := F.1.2.1
  have hl : lv_has ls 2 [(0, .ref (q 0)), (1, .int (nI i))] := hl
  refine lv_aload_n hx hb dX2_owes_0 rfl (lv_at hl 0 rfl) ?_
  refine lv_iload_n hx hb dX2_owes_1 rfl (lv_at hl 1 rfl) ?_
  refine callVR0 (rest := []) F (c_X2_workerAt_1 l G q n nc t fl fd k wd wf wa cd cf hn i hi) gX2_owes_X2_workerAt rfl hdX2_workerAt ⟨Nat.le_of_ble_eq_true rfl, Nat.le_of_ble_eq_true rfl⟩ hH ⟨0, 2, _, _, rfl, rfl, rfl⟩ rfl hl.1 (Nat.le_of_ble_eq_true rfl) dX2_owes_2 ⟨Nat.le_of_ble_eq_true rfl, Nat.le_of_ble_eq_true rfl⟩ rfl (fun H locs hH => ?_)
  refine rgetN (C := RX1) (T := TX1) (N := 12) (ref := RX1) (host := RX2) F in_X2_owes_X1 hH (4 + 7 * i + 0) (sW_at hi (j := 0) rfl) rfl 11 (by decide) (by decide +kernel) (fun _ h9 => h9) (v := .int (wf i 11)) rfl dX2_owes_5 ?_
  exact retI F hr rfl (fun _ => 0) hH rfl (Nat.le_of_ble_eq_true rfl) (Nat.le_of_ble_eq_true rfl) dX2_owes_8

set_option maxHeartbeats 4000000 in
set_option maxRecDepth 100000 in
theorem c_X2_owes_0 (l : Launch) (hst : l.stackTraces = false) (G : Gx) (q : Nat → Nat) (n nc t : Nat) (fl fd : Int32) (k : Nat → Int32) (wd : Nat → Nat → Nat) (wf : Nat → Nat → Int32) (wa : Nat → Nat → Nat → Int32) (cd : Nat → Nat) (cf : Nat → Nat → Int32) (hn : n ≤ 8) (v : Int32) (h : v < 0 ∨ nI n ≤ v) : MX l yX2_owes wsX2_owes ({ frames := 7, cells := 1, slots := 6, locals := 112 } : Room) [.ref (q 0), .int v] G (sW G q n nc t fl fd k wd wf wa cd cf) "java/lang/IndexOutOfBoundsException" := by
  refine ofMX (cc := cX2_owes) (maxL := 2) (ret := (some .int)) (by decide) rfl (Nat.le_of_ble_eq_true rfl) (fun p e s m below meth c A ls F htb hH hl => ?_)
  have F : Fx G p s m _ meth c cX2_owes 2 wsX2_owes RX2 A := F
  have hx := F.1.1
  have hb := F.1.2.1
  have hl : lv_has ls 2 [(0, .ref (q 0)), (1, .int v)] := hl
  refine lv_aload_n hx hb dX2_owes_0 rfl (lv_at hl 0 rfl) ?_
  refine lv_iload_n hx hb dX2_owes_1 rfl (lv_at hl 1 rfl) ?_
  exact callVX0 (rest := []) F (c_X2_workerAt_0 l hst G q n nc t fl fd k wd wf wa cd cf hn v h) gX2_owes_X2_workerAt rfl hdX2_workerAt ⟨Nat.le_of_ble_eq_true rfl, Nat.le_of_ble_eq_true rfl⟩ hH ⟨0, 2, _, _, rfl, rfl, rfl⟩ rfl hl.1 (Nat.le_of_ble_eq_true rfl) dX2_owes_2 ⟨Nat.le_of_ble_eq_true rfl, Nat.le_of_ble_eq_true rfl⟩ rfl htb (Nat.le_of_ble_eq_true rfl) (Nat.le_of_ble_eq_true rfl)

set_option maxHeartbeats 4000000 in
set_option maxRecDepth 100000 in
theorem c_X2_net_1 (l : Launch) (G : Gx) (q : Nat → Nat) (n nc t : Nat) (fl fd : Int32) (k : Nat → Int32) (wd : Nat → Nat → Nat) (wf : Nat → Nat → Int32) (wa : Nat → Nat → Nat → Int32) (cd : Nat → Nat) (cf : Nat → Nat → Int32) (hn : n ≤ 8) (i : Nat) (hi : i < n) : MI l yX2_net wsX2_net ({ frames := 2, cells := 0, slots := 0, locals := 44 } : Room) [.ref (q 0), .int (nI i)] G (sW G q n nc t fl fd k wd wf wa cd cf) (fun u => sW G q n nc t fl fd k wd wf wa cd cf) (wf i 10 - wf i 11) := by
  refine ofMI (cc := cX2_net) (maxL := 3) (ret := (some .int)) (by decide) rfl (Nat.le_of_ble_eq_true rfl) (fun p e s m below meth c A ls F hr hnm hH hl => ?_)
  have F : Fx G p s m _ meth c cX2_net 3 wsX2_net RX2 A := F
  have hx := F.1.1
  have hb := F.1.2.1
  have hl : lv_has ls 3 [(0, .ref (q 0)), (1, .int (nI i))] := hl
  refine lv_aload_n hx hb dX2_net_0 rfl (lv_at hl 0 rfl) ?_
  refine lv_iload_n hx hb dX2_net_1 rfl (lv_at hl 1 rfl) ?_
  refine callVR0 (rest := []) F (c_X2_workerAt_1 l G q n nc t fl fd k wd wf wa cd cf hn i hi) gX2_net_X2_workerAt rfl hdX2_workerAt ⟨Nat.le_of_ble_eq_true rfl, Nat.le_of_ble_eq_true rfl⟩ hH ⟨0, 2, _, _, rfl, rfl, rfl⟩ rfl hl.1 (Nat.le_of_ble_eq_true rfl) dX2_net_2 ⟨Nat.le_of_ble_eq_true rfl, Nat.le_of_ble_eq_true rfl⟩ rfl (fun H locs hH => ?_)
  refine lv_astore_n (lv' := [(2, .ref (wd i 0)), (0, .ref (q 0)), (1, .int (nI i))]) hx hb dX2_net_5 rfl hl (by decide) rfl (fun ls hl => ?_)
  refine lv_aload_n hx hb dX2_net_6 rfl (lv_at hl 0 rfl) ?_
  refine rgetN (C := RX1) (T := TX1) (N := 12) (ref := RX1) (host := RX2) F in_X2_net_X1 hH (4 + 7 * i + 0) (sW_at hi (j := 0) rfl) rfl 10 (by decide) (by decide +kernel) (fun _ h9 => h9) (v := .int (wf i 10)) rfl dX2_net_7 ?_
  refine lv_aload_n hx hb dX2_net_10 rfl (lv_at hl 0 rfl) ?_
  refine rgetN (C := RX1) (T := TX1) (N := 12) (ref := RX1) (host := RX2) F in_X2_net_X1 hH (4 + 7 * i + 0) (sW_at hi (j := 0) rfl) rfl 11 (by decide) (by decide +kernel) (fun _ h9 => h9) (v := .int (wf i 11)) rfl dX2_net_11 ?_
  refine lv_isub hx hb dX2_net_14 ?_
  exact retI F hr rfl (fun _ => 0) hH rfl (Nat.le_of_ble_eq_true rfl) (Nat.le_of_ble_eq_true rfl) dX2_net_15

set_option maxHeartbeats 4000000 in
set_option maxRecDepth 100000 in
theorem c_X2_net_0 (l : Launch) (hst : l.stackTraces = false) (G : Gx) (q : Nat → Nat) (n nc t : Nat) (fl fd : Int32) (k : Nat → Int32) (wd : Nat → Nat → Nat) (wf : Nat → Nat → Int32) (wa : Nat → Nat → Nat → Int32) (cd : Nat → Nat) (cf : Nat → Nat → Int32) (hn : n ≤ 8) (v : Int32) (h : v < 0 ∨ nI n ≤ v) : MX l yX2_net wsX2_net ({ frames := 7, cells := 1, slots := 6, locals := 112 } : Room) [.ref (q 0), .int v] G (sW G q n nc t fl fd k wd wf wa cd cf) "java/lang/IndexOutOfBoundsException" := by
  refine ofMX (cc := cX2_net) (maxL := 3) (ret := (some .int)) (by decide) rfl (Nat.le_of_ble_eq_true rfl) (fun p e s m below meth c A ls F htb hH hl => ?_)
  have F : Fx G p s m _ meth c cX2_net 3 wsX2_net RX2 A := F
  have hx := F.1.1
  have hb := F.1.2.1
  have hl : lv_has ls 3 [(0, .ref (q 0)), (1, .int v)] := hl
  refine lv_aload_n hx hb dX2_net_0 rfl (lv_at hl 0 rfl) ?_
  refine lv_iload_n hx hb dX2_net_1 rfl (lv_at hl 1 rfl) ?_
  exact callVX0 (rest := []) F (c_X2_workerAt_0 l hst G q n nc t fl fd k wd wf wa cd cf hn v h) gX2_net_X2_workerAt rfl hdX2_workerAt ⟨Nat.le_of_ble_eq_true rfl, Nat.le_of_ble_eq_true rfl⟩ hH ⟨0, 2, _, _, rfl, rfl, rfl⟩ rfl hl.1 (Nat.le_of_ble_eq_true rfl) dX2_net_2 ⟨Nat.le_of_ble_eq_true rfl, Nat.le_of_ble_eq_true rfl⟩ rfl htb (Nat.le_of_ble_eq_true rfl) (Nat.le_of_ble_eq_true rfl)

set_option maxHeartbeats 4000000 in
set_option maxRecDepth 100000 in
theorem c_X2_setFloor_1 (l : Launch) (G : Gx) (q : Nat → Nat) (n nc t : Nat) (fl fd : Int32) (k : Nat → Int32) (wd : Nat → Nat → Nat) (wf : Nat → Nat → Int32) (wa : Nat → Nat → Nat → Int32) (cd : Nat → Nat) (cf : Nat → Nat → Int32) (v : Int32) (h1 : 0 ≤ v) (h2 : v ≤ 100) : MI l yX2_setFloor wsX2_setFloor ({ frames := 1, cells := 0, slots := 0, locals := 22 } : Room) [.ref (q 0), .int v] G (sW G q n nc t fl fd k wd wf wa cd cf) (fun u => sW G q n nc t v fd k wd wf wa cd cf) fl := by
  refine ofMI (cc := cX2_setFloor) (maxL := 3) (ret := (some .int)) (by decide) rfl (Nat.le_of_ble_eq_true rfl) (fun p e s m below meth c A ls F hr hnm hH hl => ?_)
  have F : Fx G p s m _ meth c cX2_setFloor 3 wsX2_setFloor RX2 A := F
  have hx := F.1.1
  have hb := F.1.2.1
  have hl : lv_has ls 3 [(0, .ref (q 0)), (1, .int v)] := hl
  refine lv_iload_n hx hb dX2_setFloor_0 rfl (lv_at hl 1 rfl) ?_
  refine lv_iconst (v := 0) hx hb dX2_setFloor_1 (by decide) ?_
  refine lv_bipush (v := 100) hx hb dX2_setFloor_2 (by decide) ?_
  refine callSI0 (rest := []) F (c_X2_isWithin_1 l G _ v 0 100 h1 h2) gX2_setFloor_X2_isWithin rfl hdX2_isWithin ⟨Nat.le_of_ble_eq_true rfl, Nat.le_of_ble_eq_true rfl⟩ hH rfl hl.1 (Nat.le_of_ble_eq_true rfl) dX2_setFloor_4 ⟨Nat.le_of_ble_eq_true rfl, Nat.le_of_ble_eq_true rfl⟩ rfl (fun u H locs hH => ?_)
  have hH : HH G A s (sW G q n nc t fl fd k wd wf wa cd cf) H locs := hH
  refine callSV0 (rest := []) F (c_X2_requireArgument_1 l G _) gX2_setFloor_X2_requireArgument rfl hdX2_requireArgument ⟨Nat.le_of_ble_eq_true rfl, Nat.le_of_ble_eq_true rfl⟩ hH rfl hl.1 (Nat.le_of_ble_eq_true rfl) dX2_setFloor_7 ⟨Nat.le_of_ble_eq_true rfl, Nat.le_of_ble_eq_true rfl⟩ rfl (fun u H locs hH => ?_)
  have hH : HH G A s (sW G q n nc t fl fd k wd wf wa cd cf) H locs := hH
  refine lv_aload_n hx hb dX2_setFloor_10 rfl (lv_at hl 0 rfl) ?_
  refine rget (C := RX2) (T := TX2) (N := 8) (ref := RX2) F in_X2_setFloor_X2 hH 0 rfl rfl 6 (by decide) (by decide +kernel) (fun _ h9 => h9) (v := .int fl) rfl dX2_setFloor_11 ?_
  refine lv_istore_n (lv' := [(2, .int fl), (0, .ref (q 0)), (1, .int v)]) hx hb dX2_setFloor_14 rfl hl (by decide) rfl (fun ls hl => ?_)
  refine lv_aload_n hx hb dX2_setFloor_15 rfl (lv_at hl 1 rfl) ?_
  refine lv_iload_n hx hb dX2_setFloor_16 rfl (lv_at hl 2 rfl) ?_
  refine rput (C := RX2) (T := TX2) (N := 8) (ref := RX2) F in_X2_setFloor_X2 tyX2 tyX2_ok nmX2 hH 0 rfl rfl 6 (by decide) (by decide +kernel) (fun _ h9 => h9) rfl (v := .int v) rfl rfl (Nat.le_of_ble_eq_true rfl) dX2_setFloor_17 (fun H locs hH => ?_)
  have hH : HH G A s (sW G q n nc t v fd k wd wf wa cd cf) H locs := hH
  refine lv_iload_n hx hb dX2_setFloor_20 rfl (lv_at hl 0 rfl) ?_
  exact retI F hr rfl (fun _ => 0) hH rfl (Nat.le_of_ble_eq_true rfl) (Nat.le_of_ble_eq_true rfl) dX2_setFloor_21

set_option maxHeartbeats 4000000 in
set_option maxRecDepth 100000 in
theorem c_X2_setFloor_2 (l : Launch) (hst : l.stackTraces = false) (G : Gx) (q : Nat → Nat) (n nc t : Nat) (fl fd : Int32) (k : Nat → Int32) (wd : Nat → Nat → Nat) (wf : Nat → Nat → Int32) (wa : Nat → Nat → Nat → Int32) (cd : Nat → Nat) (cf : Nat → Nat → Int32) (v : Int32) (h : v < 0 ∨ 100 < v) : MX l yX2_setFloor wsX2_setFloor ({ frames := 7, cells := 1, slots := 6, locals := 110 } : Room) [.ref (q 0), .int v] G (sW G q n nc t fl fd k wd wf wa cd cf) "java/lang/IllegalArgumentException" := by
  refine ofMX (cc := cX2_setFloor) (maxL := 3) (ret := (some .int)) (by decide) rfl (Nat.le_of_ble_eq_true rfl) (fun p e s m below meth c A ls F htb hH hl => ?_)
  have F : Fx G p s m _ meth c cX2_setFloor 3 wsX2_setFloor RX2 A := F
  have hx := F.1.1
  have hb := F.1.2.1
  have hl : lv_has ls 3 [(0, .ref (q 0)), (1, .int v)] := hl
  refine lv_iload_n hx hb dX2_setFloor_0 rfl (lv_at hl 1 rfl) ?_
  refine lv_iconst (v := 0) hx hb dX2_setFloor_1 (by decide) ?_
  refine lv_bipush (v := 100) hx hb dX2_setFloor_2 (by decide) ?_
  refine callSI0 (rest := []) F (c_X2_isWithin_0 l G _ v 0 100 h) gX2_setFloor_X2_isWithin rfl hdX2_isWithin ⟨Nat.le_of_ble_eq_true rfl, Nat.le_of_ble_eq_true rfl⟩ hH rfl hl.1 (Nat.le_of_ble_eq_true rfl) dX2_setFloor_4 ⟨Nat.le_of_ble_eq_true rfl, Nat.le_of_ble_eq_true rfl⟩ rfl (fun u H locs hH => ?_)
  have hH : HH G A s (sW G q n nc t fl fd k wd wf wa cd cf) H locs := hH
  exact callSX0 (rest := []) F (c_X2_requireArgument_0 l hst G _) gX2_setFloor_X2_requireArgument rfl hdX2_requireArgument ⟨Nat.le_of_ble_eq_true rfl, Nat.le_of_ble_eq_true rfl⟩ hH rfl hl.1 (Nat.le_of_ble_eq_true rfl) dX2_setFloor_7 ⟨Nat.le_of_ble_eq_true rfl, Nat.le_of_ble_eq_true rfl⟩ rfl htb (Nat.le_of_ble_eq_true rfl) (Nat.le_of_ble_eq_true rfl)

set_option maxHeartbeats 4000000 in
set_option maxRecDepth 100000 in
theorem c_X2_door_1 (l : Launch) (G : Gx) (q : Nat → Nat) (n nc t : Nat) (fl fd : Int32) (k : Nat → Int32) (wd : Nat → Nat → Nat) (wf : Nat → Nat → Int32) (wa : Nat → Nat → Nat → Int32) (cd : Nat → Nat) (cf : Nat → Nat → Int32) (hn : n ≤ 8) (i : Nat) (hi : i < n) (ht : t ≤ 201) (j : Nat) (hj : j < t) (h : Int32) (h1 : 0 ≤ h) (h2 : h ≤ 80) (hk : k j = 0) : MV l yX2_door wsX2_door ({ frames := 2, cells := 0, slots := 0, locals := 44 } : Room) [.ref (q 0), .int (nI i), .int (nI j), .int h] G (sW G q n nc t fl fd k wd wf wa cd cf) (fun u => sW G q n nc t fl fd k wd (va_up wf i (wf i)) (va_up wa i (va_up (wa i) 6 (upd (wa i 6) j h))) cd cf) := by
  refine ofMV (cc := cX2_door) (maxL := 5) (ret := none) (by decide) rfl (Nat.le_of_ble_eq_true rfl) (fun p e s m below meth c A ls F hr hnm hH hl => ?_)
  have F : Fx G p s m _ meth c cX2_door 5 wsX2_door RX2 A := F
  have hx := F.1.1
  have hb := F.1.2.1
  have hl : lv_has ls 5 [(0, .ref (q 0)), (1, .int (nI i)), (2, .int (nI j)), (3, .int h)] := hl
  refine lv_aload_n hx hb dX2_door_0 rfl (lv_at hl 0 rfl) ?_
  refine lv_iload_n hx hb dX2_door_1 rfl (lv_at hl 1 rfl) ?_
  refine callVR0 (rest := []) F (c_X2_workerAt_1 l G q n nc t fl fd k wd wf wa cd cf hn i hi) gX2_door_X2_workerAt rfl hdX2_workerAt ⟨Nat.le_of_ble_eq_true rfl, Nat.le_of_ble_eq_true rfl⟩ hH ⟨0, 2, _, _, rfl, rfl, rfl⟩ rfl hl.1 (Nat.le_of_ble_eq_true rfl) dX2_door_2 ⟨Nat.le_of_ble_eq_true rfl, Nat.le_of_ble_eq_true rfl⟩ rfl (fun H locs hH => ?_)
  refine lv_astore (lv' := [(4, .ref (wd i 0)), (0, .ref (q 0)), (1, .int (nI i)), (2, .int (nI j)), (3, .int h)]) hx hb dX2_door_5 hl (by decide) rfl (fun ls hl => ?_)
  refine lv_aload_n hx hb dX2_door_7 rfl (lv_at hl 1 rfl) ?_
  refine lv_iload_n hx hb dX2_door_8 rfl (lv_at hl 3 rfl) ?_
  refine callVI0 (rest := []) F (c_X2_hasPassed_1 l G q n nc t fl fd k wd wf wa cd cf (by omega) j hj) gX2_door_X2_hasPassed rfl hdX2_hasPassed ⟨Nat.le_of_ble_eq_true rfl, Nat.le_of_ble_eq_true rfl⟩ hH ⟨0, 2, _, _, rfl, rfl, rfl⟩ rfl hl.1 (Nat.le_of_ble_eq_true rfl) dX2_door_9 ⟨Nat.le_of_ble_eq_true rfl, Nat.le_of_ble_eq_true rfl⟩ rfl (fun u H locs hH => ?_)
  have hH : HH G A s (sW G q n nc t fl fd k wd wf wa cd cf) H locs := hH
  refine lv_if_eq (tgt := 29) hx hb dX2_door_12 (by decide) (fun c_12 => absurd c_12 (by decide)) (fun c_12 => ?_)
  refine lv_iload_n hx hb dX2_door_15 rfl (lv_at hl 4 rfl) ?_
  refine lv_iconst (v := 0) hx hb dX2_door_16 (by decide) ?_
  refine lv_bipush (v := 80) hx hb dX2_door_17 (by decide) ?_
  refine callSI0 (rest := []) F (c_X2_isWithin_1 l G _ h 0 80 h1 h2) gX2_door_X2_isWithin rfl hdX2_isWithin ⟨Nat.le_of_ble_eq_true rfl, Nat.le_of_ble_eq_true rfl⟩ hH rfl hl.1 (Nat.le_of_ble_eq_true rfl) dX2_door_19 ⟨Nat.le_of_ble_eq_true rfl, Nat.le_of_ble_eq_true rfl⟩ rfl (fun u H locs hH => ?_)
  have hH : HH G A s (sW G q n nc t fl fd k wd wf wa cd cf) H locs := hH
  refine lv_if_eq (tgt := 29) hx hb dX2_door_22 (by decide) (fun c_22 => absurd c_22 (by decide)) (fun c_22 => ?_)
  refine lv_iconst (v := 1) hx hb dX2_door_25 (by decide) ?_
  refine lv_goto (tgt := 30) hx hb dX2_door_26 (by decide) ?_
  refine callSV0 (rest := []) F (c_X2_requireArgument_1 l G _) gX2_door_X2_requireArgument rfl hdX2_requireArgument ⟨Nat.le_of_ble_eq_true rfl, Nat.le_of_ble_eq_true rfl⟩ hH rfl hl.1 (Nat.le_of_ble_eq_true rfl) dX2_door_30 ⟨Nat.le_of_ble_eq_true rfl, Nat.le_of_ble_eq_true rfl⟩ rfl (fun u H locs hH => ?_)
  have hH : HH G A s (sW G q n nc t fl fd k wd wf wa cd cf) H locs := hH
  refine lv_aload_n hx hb dX2_door_33 rfl (lv_at hl 1 rfl) ?_
  refine rget (C := RX2) (T := TX2) (N := 8) (ref := RX2) F in_X2_door_X2 hH 0 rfl rfl 2 (by decide) (by decide +kernel) (fun _ h9 => h9) (v := .ref (q 3)) rfl dX2_door_34 ?_
  refine lv_iload_n hx hb dX2_door_37 rfl (lv_at hl 3 rfl) ?_
  refine rzald F hH 3 (n := 201) (f := k) rfl j rfl (by omega) (by decide) dX2_door_38 ?_
  refine lv_if_ne (tgt := 46) hx hb dX2_door_39 (by decide) (fun c_39 => absurd hk c_39) (fun c_39 => ?_)
  refine lv_iconst (v := 1) hx hb dX2_door_42 (by decide) ?_
  refine lv_goto (tgt := 47) hx hb dX2_door_43 (by decide) ?_
  refine callSV0 (rest := []) F (c_X2_requireState_1 l G _) gX2_door_X2_requireState rfl hdX2_requireState ⟨Nat.le_of_ble_eq_true rfl, Nat.le_of_ble_eq_true rfl⟩ hH rfl hl.1 (Nat.le_of_ble_eq_true rfl) dX2_door_47 ⟨Nat.le_of_ble_eq_true rfl, Nat.le_of_ble_eq_true rfl⟩ rfl (fun u H locs hH => ?_)
  have hH : HH G A s (sW G q n nc t fl fd k wd wf wa cd cf) H locs := hH
  refine lv_aload hx hb dX2_door_50 (lv_at hl 0 rfl) ?_
  refine rgetN (C := RX1) (T := TX1) (N := 12) (ref := RX1) (host := RX2) F in_X2_door_X1 hH (4 + 7 * i + 0) (sW_at hi (j := 0) rfl) rfl 6 (by decide) (by decide +kernel) (fun _ h9 => h9) (v := .ref (wd i 6)) rfl dX2_door_52 ?_
  refine lv_iload_n hx hb dX2_door_55 rfl (lv_at hl 3 rfl) ?_
  refine lv_iload_n hx hb dX2_door_56 rfl (lv_at hl 4 rfl) ?_
  refine riast F hH (4 + 7 * i + 5) (n := 201) (f := wa i 6) (sW_at hi (j := 5) rfl) j rfl (by omega) (by decide) dX2_door_57 (fun H locs hH => ?_)
  have hH : HH G A s (sW G q n nc t fl fd k wd (va_up wf i (wf i)) (va_up wa i (va_up (wa i) 6 (upd (wa i 6) j h))) cd cf) H locs := (sW_set hi (j := 5) (by decide) (f' := wf i) (a' := va_up (wa i) 6 (upd (wa i 6) j h)) rfl ▸ hH)
  exact retV F hr (fun _ => 0) hH (Nat.le_of_ble_eq_true rfl) (Nat.le_of_ble_eq_true rfl) dX2_door_58

set_option maxHeartbeats 4000000 in
set_option maxRecDepth 100000 in
theorem c_X2_door_3 (l : Launch) (hst : l.stackTraces = false) (G : Gx) (q : Nat → Nat) (n nc t : Nat) (fl fd : Int32) (k : Nat → Int32) (wd : Nat → Nat → Nat) (wf : Nat → Nat → Int32) (wa : Nat → Nat → Nat → Int32) (cd : Nat → Nat) (cf : Nat → Nat → Int32) (hn : n ≤ 8) (i : Nat) (hi : i < n) (ht : t ≤ 201) (j : Nat) (hj : j < t) (h : Int32) (h1 : 0 ≤ h) (h2 : h ≤ 80) (hk : ¬ k j = 0) : MX l yX2_door wsX2_door ({ frames := 7, cells := 1, slots := 6, locals := 110 } : Room) [.ref (q 0), .int (nI i), .int (nI j), .int h] G (sW G q n nc t fl fd k wd wf wa cd cf) "java/lang/IllegalStateException" := by
  refine ofMX (cc := cX2_door) (maxL := 5) (ret := none) (by decide) rfl (Nat.le_of_ble_eq_true rfl) (fun p e s m below meth c A ls F htb hH hl => ?_)
  have F : Fx G p s m _ meth c cX2_door 5 wsX2_door RX2 A := F
  have hx := F.1.1
  have hb := F.1.2.1
  have hl : lv_has ls 5 [(0, .ref (q 0)), (1, .int (nI i)), (2, .int (nI j)), (3, .int h)] := hl
  refine lv_aload_n hx hb dX2_door_0 rfl (lv_at hl 0 rfl) ?_
  refine lv_iload_n hx hb dX2_door_1 rfl (lv_at hl 1 rfl) ?_
  refine callVR0 (rest := []) F (c_X2_workerAt_1 l G q n nc t fl fd k wd wf wa cd cf hn i hi) gX2_door_X2_workerAt rfl hdX2_workerAt ⟨Nat.le_of_ble_eq_true rfl, Nat.le_of_ble_eq_true rfl⟩ hH ⟨0, 2, _, _, rfl, rfl, rfl⟩ rfl hl.1 (Nat.le_of_ble_eq_true rfl) dX2_door_2 ⟨Nat.le_of_ble_eq_true rfl, Nat.le_of_ble_eq_true rfl⟩ rfl (fun H locs hH => ?_)
  refine lv_astore (lv' := [(4, .ref (wd i 0)), (0, .ref (q 0)), (1, .int (nI i)), (2, .int (nI j)), (3, .int h)]) hx hb dX2_door_5 hl (by decide) rfl (fun ls hl => ?_)
  refine lv_aload_n hx hb dX2_door_7 rfl (lv_at hl 1 rfl) ?_
  refine lv_iload_n hx hb dX2_door_8 rfl (lv_at hl 3 rfl) ?_
  refine callVI0 (rest := []) F (c_X2_hasPassed_1 l G q n nc t fl fd k wd wf wa cd cf (by omega) j hj) gX2_door_X2_hasPassed rfl hdX2_hasPassed ⟨Nat.le_of_ble_eq_true rfl, Nat.le_of_ble_eq_true rfl⟩ hH ⟨0, 2, _, _, rfl, rfl, rfl⟩ rfl hl.1 (Nat.le_of_ble_eq_true rfl) dX2_door_9 ⟨Nat.le_of_ble_eq_true rfl, Nat.le_of_ble_eq_true rfl⟩ rfl (fun u H locs hH => ?_)
  have hH : HH G A s (sW G q n nc t fl fd k wd wf wa cd cf) H locs := hH
  refine lv_if_eq (tgt := 29) hx hb dX2_door_12 (by decide) (fun c_12 => absurd c_12 (by decide)) (fun c_12 => ?_)
  refine lv_iload_n hx hb dX2_door_15 rfl (lv_at hl 4 rfl) ?_
  refine lv_iconst (v := 0) hx hb dX2_door_16 (by decide) ?_
  refine lv_bipush (v := 80) hx hb dX2_door_17 (by decide) ?_
  refine callSI0 (rest := []) F (c_X2_isWithin_1 l G _ h 0 80 h1 h2) gX2_door_X2_isWithin rfl hdX2_isWithin ⟨Nat.le_of_ble_eq_true rfl, Nat.le_of_ble_eq_true rfl⟩ hH rfl hl.1 (Nat.le_of_ble_eq_true rfl) dX2_door_19 ⟨Nat.le_of_ble_eq_true rfl, Nat.le_of_ble_eq_true rfl⟩ rfl (fun u H locs hH => ?_)
  have hH : HH G A s (sW G q n nc t fl fd k wd wf wa cd cf) H locs := hH
  refine lv_if_eq (tgt := 29) hx hb dX2_door_22 (by decide) (fun c_22 => absurd c_22 (by decide)) (fun c_22 => ?_)
  refine lv_iconst (v := 1) hx hb dX2_door_25 (by decide) ?_
  refine lv_goto (tgt := 30) hx hb dX2_door_26 (by decide) ?_
  refine callSV0 (rest := []) F (c_X2_requireArgument_1 l G _) gX2_door_X2_requireArgument rfl hdX2_requireArgument ⟨Nat.le_of_ble_eq_true rfl, Nat.le_of_ble_eq_true rfl⟩ hH rfl hl.1 (Nat.le_of_ble_eq_true rfl) dX2_door_30 ⟨Nat.le_of_ble_eq_true rfl, Nat.le_of_ble_eq_true rfl⟩ rfl (fun u H locs hH => ?_)
  have hH : HH G A s (sW G q n nc t fl fd k wd wf wa cd cf) H locs := hH
  refine lv_aload_n hx hb dX2_door_33 rfl (lv_at hl 1 rfl) ?_
  refine rget (C := RX2) (T := TX2) (N := 8) (ref := RX2) F in_X2_door_X2 hH 0 rfl rfl 2 (by decide) (by decide +kernel) (fun _ h9 => h9) (v := .ref (q 3)) rfl dX2_door_34 ?_
  refine lv_iload_n hx hb dX2_door_37 rfl (lv_at hl 3 rfl) ?_
  refine rzald F hH 3 (n := 201) (f := k) rfl j rfl (by omega) (by decide) dX2_door_38 ?_
  refine lv_if_ne (tgt := 46) hx hb dX2_door_39 (by decide) (fun c_39 => ?_) (fun c_39 => absurd c_39 hk)
  refine lv_iconst (v := 0) hx hb dX2_door_46 (by decide) ?_
  exact callSX0 (rest := []) F (c_X2_requireState_0 l hst G _) gX2_door_X2_requireState rfl hdX2_requireState ⟨Nat.le_of_ble_eq_true rfl, Nat.le_of_ble_eq_true rfl⟩ hH rfl hl.1 (Nat.le_of_ble_eq_true rfl) dX2_door_47 ⟨Nat.le_of_ble_eq_true rfl, Nat.le_of_ble_eq_true rfl⟩ rfl htb (Nat.le_of_ble_eq_true rfl) (Nat.le_of_ble_eq_true rfl)

set_option maxHeartbeats 4000000 in
set_option maxRecDepth 100000 in
theorem c_X2_door_2 (l : Launch) (hst : l.stackTraces = false) (G : Gx) (q : Nat → Nat) (n nc t : Nat) (fl fd : Int32) (k : Nat → Int32) (wd : Nat → Nat → Nat) (wf : Nat → Nat → Int32) (wa : Nat → Nat → Nat → Int32) (cd : Nat → Nat) (cf : Nat → Nat → Int32) (hn : n ≤ 8) (i : Nat) (hi : i < n) (ht : t ≤ 201) (w : Int32) (x : Int32) (h : w < 0 ∨ nI t ≤ w) : MX l yX2_door wsX2_door ({ frames := 7, cells := 1, slots := 6, locals := 110 } : Room) [.ref (q 0), .int (nI i), .int w, .int x] G (sW G q n nc t fl fd k wd wf wa cd cf) "java/lang/IllegalArgumentException" := by
  refine ofMX (cc := cX2_door) (maxL := 5) (ret := none) (by decide) rfl (Nat.le_of_ble_eq_true rfl) (fun p e s m below meth c A ls F htb hH hl => ?_)
  have F : Fx G p s m _ meth c cX2_door 5 wsX2_door RX2 A := F
  have hx := F.1.1
  have hb := F.1.2.1
  have hl : lv_has ls 5 [(0, .ref (q 0)), (1, .int (nI i)), (2, .int w), (3, .int x)] := hl
  refine lv_aload_n hx hb dX2_door_0 rfl (lv_at hl 0 rfl) ?_
  refine lv_iload_n hx hb dX2_door_1 rfl (lv_at hl 1 rfl) ?_
  refine callVR0 (rest := []) F (c_X2_workerAt_1 l G q n nc t fl fd k wd wf wa cd cf hn i hi) gX2_door_X2_workerAt rfl hdX2_workerAt ⟨Nat.le_of_ble_eq_true rfl, Nat.le_of_ble_eq_true rfl⟩ hH ⟨0, 2, _, _, rfl, rfl, rfl⟩ rfl hl.1 (Nat.le_of_ble_eq_true rfl) dX2_door_2 ⟨Nat.le_of_ble_eq_true rfl, Nat.le_of_ble_eq_true rfl⟩ rfl (fun H locs hH => ?_)
  refine lv_astore (lv' := [(4, .ref (wd i 0)), (0, .ref (q 0)), (1, .int (nI i)), (2, .int w), (3, .int x)]) hx hb dX2_door_5 hl (by decide) rfl (fun ls hl => ?_)
  refine lv_aload_n hx hb dX2_door_7 rfl (lv_at hl 1 rfl) ?_
  refine lv_iload_n hx hb dX2_door_8 rfl (lv_at hl 3 rfl) ?_
  refine callVI0 (rest := []) F (c_X2_hasPassed_0 l G q n nc t fl fd k wd wf wa cd cf (by omega) w h) gX2_door_X2_hasPassed rfl hdX2_hasPassed ⟨Nat.le_of_ble_eq_true rfl, Nat.le_of_ble_eq_true rfl⟩ hH ⟨0, 2, _, _, rfl, rfl, rfl⟩ rfl hl.1 (Nat.le_of_ble_eq_true rfl) dX2_door_9 ⟨Nat.le_of_ble_eq_true rfl, Nat.le_of_ble_eq_true rfl⟩ rfl (fun u H locs hH => ?_)
  have hH : HH G A s (sW G q n nc t fl fd k wd wf wa cd cf) H locs := hH
  refine lv_if_eq (tgt := 29) hx hb dX2_door_12 (by decide) (fun c_12 => ?_) (fun c_12 => absurd rfl c_12)
  refine lv_iconst (v := 0) hx hb dX2_door_29 (by decide) ?_
  exact callSX0 (rest := []) F (c_X2_requireArgument_0 l hst G _) gX2_door_X2_requireArgument rfl hdX2_requireArgument ⟨Nat.le_of_ble_eq_true rfl, Nat.le_of_ble_eq_true rfl⟩ hH rfl hl.1 (Nat.le_of_ble_eq_true rfl) dX2_door_30 ⟨Nat.le_of_ble_eq_true rfl, Nat.le_of_ble_eq_true rfl⟩ rfl htb (Nat.le_of_ble_eq_true rfl) (Nat.le_of_ble_eq_true rfl)

set_option maxHeartbeats 4000000 in
set_option maxRecDepth 100000 in
theorem c_X2_door_22 (l : Launch) (hst : l.stackTraces = false) (G : Gx) (q : Nat → Nat) (n nc t : Nat) (fl fd : Int32) (k : Nat → Int32) (wd : Nat → Nat → Nat) (wf : Nat → Nat → Int32) (wa : Nat → Nat → Nat → Int32) (cd : Nat → Nat) (cf : Nat → Nat → Int32) (hn : n ≤ 8) (i : Nat) (hi : i < n) (ht : t ≤ 201) (j : Nat) (hj : j < t) (x : Int32) (h : x < 0 ∨ 80 < x) : MX l yX2_door wsX2_door ({ frames := 7, cells := 1, slots := 6, locals := 110 } : Room) [.ref (q 0), .int (nI i), .int (nI j), .int x] G (sW G q n nc t fl fd k wd wf wa cd cf) "java/lang/IllegalArgumentException" := by
  refine ofMX (cc := cX2_door) (maxL := 5) (ret := none) (by decide) rfl (Nat.le_of_ble_eq_true rfl) (fun p e s m below meth c A ls F htb hH hl => ?_)
  have F : Fx G p s m _ meth c cX2_door 5 wsX2_door RX2 A := F
  have hx := F.1.1
  have hb := F.1.2.1
  have hl : lv_has ls 5 [(0, .ref (q 0)), (1, .int (nI i)), (2, .int (nI j)), (3, .int x)] := hl
  refine lv_aload_n hx hb dX2_door_0 rfl (lv_at hl 0 rfl) ?_
  refine lv_iload_n hx hb dX2_door_1 rfl (lv_at hl 1 rfl) ?_
  refine callVR0 (rest := []) F (c_X2_workerAt_1 l G q n nc t fl fd k wd wf wa cd cf hn i hi) gX2_door_X2_workerAt rfl hdX2_workerAt ⟨Nat.le_of_ble_eq_true rfl, Nat.le_of_ble_eq_true rfl⟩ hH ⟨0, 2, _, _, rfl, rfl, rfl⟩ rfl hl.1 (Nat.le_of_ble_eq_true rfl) dX2_door_2 ⟨Nat.le_of_ble_eq_true rfl, Nat.le_of_ble_eq_true rfl⟩ rfl (fun H locs hH => ?_)
  refine lv_astore (lv' := [(4, .ref (wd i 0)), (0, .ref (q 0)), (1, .int (nI i)), (2, .int (nI j)), (3, .int x)]) hx hb dX2_door_5 hl (by decide) rfl (fun ls hl => ?_)
  refine lv_aload_n hx hb dX2_door_7 rfl (lv_at hl 1 rfl) ?_
  refine lv_iload_n hx hb dX2_door_8 rfl (lv_at hl 3 rfl) ?_
  refine callVI0 (rest := []) F (c_X2_hasPassed_1 l G q n nc t fl fd k wd wf wa cd cf (by omega) j hj) gX2_door_X2_hasPassed rfl hdX2_hasPassed ⟨Nat.le_of_ble_eq_true rfl, Nat.le_of_ble_eq_true rfl⟩ hH ⟨0, 2, _, _, rfl, rfl, rfl⟩ rfl hl.1 (Nat.le_of_ble_eq_true rfl) dX2_door_9 ⟨Nat.le_of_ble_eq_true rfl, Nat.le_of_ble_eq_true rfl⟩ rfl (fun u H locs hH => ?_)
  have hH : HH G A s (sW G q n nc t fl fd k wd wf wa cd cf) H locs := hH
  refine lv_if_eq (tgt := 29) hx hb dX2_door_12 (by decide) (fun c_12 => absurd c_12 (by decide)) (fun c_12 => ?_)
  refine lv_iload_n hx hb dX2_door_15 rfl (lv_at hl 4 rfl) ?_
  refine lv_iconst (v := 0) hx hb dX2_door_16 (by decide) ?_
  refine lv_bipush (v := 80) hx hb dX2_door_17 (by decide) ?_
  refine callSI0 (rest := []) F (c_X2_isWithin_0 l G _ x 0 80 h) gX2_door_X2_isWithin rfl hdX2_isWithin ⟨Nat.le_of_ble_eq_true rfl, Nat.le_of_ble_eq_true rfl⟩ hH rfl hl.1 (Nat.le_of_ble_eq_true rfl) dX2_door_19 ⟨Nat.le_of_ble_eq_true rfl, Nat.le_of_ble_eq_true rfl⟩ rfl (fun u H locs hH => ?_)
  have hH : HH G A s (sW G q n nc t fl fd k wd wf wa cd cf) H locs := hH
  refine lv_if_eq (tgt := 29) hx hb dX2_door_22 (by decide) (fun c_22 => ?_) (fun c_22 => absurd rfl c_22)
  refine lv_iconst (v := 0) hx hb dX2_door_29 (by decide) ?_
  exact callSX0 (rest := []) F (c_X2_requireArgument_0 l hst G _) gX2_door_X2_requireArgument rfl hdX2_requireArgument ⟨Nat.le_of_ble_eq_true rfl, Nat.le_of_ble_eq_true rfl⟩ hH rfl hl.1 (Nat.le_of_ble_eq_true rfl) dX2_door_30 ⟨Nat.le_of_ble_eq_true rfl, Nat.le_of_ble_eq_true rfl⟩ rfl htb (Nat.le_of_ble_eq_true rfl) (Nat.le_of_ble_eq_true rfl)

set_option maxHeartbeats 4000000 in
set_option maxRecDepth 100000 in
theorem c_X2_door_0 (l : Launch) (hst : l.stackTraces = false) (G : Gx) (q : Nat → Nat) (n nc t : Nat) (fl fd : Int32) (k : Nat → Int32) (wd : Nat → Nat → Nat) (wf : Nat → Nat → Int32) (wa : Nat → Nat → Nat → Int32) (cd : Nat → Nat) (cf : Nat → Nat → Int32) (hn : n ≤ 8) (v : Int32) (h : v < 0 ∨ nI n ≤ v) (w x : Int32) : MX l yX2_door wsX2_door ({ frames := 7, cells := 1, slots := 6, locals := 112 } : Room) [.ref (q 0), .int v, .int w, .int x] G (sW G q n nc t fl fd k wd wf wa cd cf) "java/lang/IndexOutOfBoundsException" := by
  refine ofMX (cc := cX2_door) (maxL := 5) (ret := none) (by decide) rfl (Nat.le_of_ble_eq_true rfl) (fun p e s m below meth c A ls F htb hH hl => ?_)
  have F : Fx G p s m _ meth c cX2_door 5 wsX2_door RX2 A := F
  have hx := F.1.1
  have hb := F.1.2.1
  have hl : lv_has ls 5 [(0, .ref (q 0)), (1, .int v), (2, .int w), (3, .int x)] := hl
  refine lv_aload_n hx hb dX2_door_0 rfl (lv_at hl 0 rfl) ?_
  refine lv_iload_n hx hb dX2_door_1 rfl (lv_at hl 1 rfl) ?_
  exact callVX0 (rest := []) F (c_X2_workerAt_0 l hst G q n nc t fl fd k wd wf wa cd cf hn v h) gX2_door_X2_workerAt rfl hdX2_workerAt ⟨Nat.le_of_ble_eq_true rfl, Nat.le_of_ble_eq_true rfl⟩ hH ⟨0, 2, _, _, rfl, rfl, rfl⟩ rfl hl.1 (Nat.le_of_ble_eq_true rfl) dX2_door_2 ⟨Nat.le_of_ble_eq_true rfl, Nat.le_of_ble_eq_true rfl⟩ rfl htb (Nat.le_of_ble_eq_true rfl) (Nat.le_of_ble_eq_true rfl)

set_option maxHeartbeats 4000000 in
set_option maxRecDepth 100000 in
theorem c_X2_mail_1 (l : Launch) (G : Gx) (q : Nat → Nat) (n nc t : Nat) (fl fd : Int32) (k : Nat → Int32) (wd : Nat → Nat → Nat) (wf : Nat → Nat → Int32) (wa : Nat → Nat → Nat → Int32) (cd : Nat → Nat) (cf : Nat → Nat → Int32) (hn : n ≤ 8) (i : Nat) (hi : i < n) (ht : t ≤ 201) (j : Nat) (hj : j < t) (hk : k j = 0) : MV l yX2_mail wsX2_mail ({ frames := 2, cells := 0, slots := 0, locals := 44 } : Room) [.ref (q 0), .int (nI i), .int (nI j)] G (sW G q n nc t fl fd k wd wf wa cd cf) (fun u => sW G q n nc t fl fd k wd (va_up wf i (wf i)) (va_up wa i (va_up (wa i) 7 (upd (wa i 7) j 1))) cd cf) := by
  refine ofMV (cc := cX2_mail) (maxL := 4) (ret := none) (by decide) rfl (Nat.le_of_ble_eq_true rfl) (fun p e s m below meth c A ls F hr hnm hH hl => ?_)
  have F : Fx G p s m _ meth c cX2_mail 4 wsX2_mail RX2 A := F
  have hx := F.1.1
  have hb := F.1.2.1
  have hl : lv_has ls 4 [(0, .ref (q 0)), (1, .int (nI i)), (2, .int (nI j))] := hl
  refine lv_aload_n hx hb dX2_mail_0 rfl (lv_at hl 0 rfl) ?_
  refine lv_iload_n hx hb dX2_mail_1 rfl (lv_at hl 1 rfl) ?_
  refine callVR0 (rest := []) F (c_X2_workerAt_1 l G q n nc t fl fd k wd wf wa cd cf hn i hi) gX2_mail_X2_workerAt rfl hdX2_workerAt ⟨Nat.le_of_ble_eq_true rfl, Nat.le_of_ble_eq_true rfl⟩ hH ⟨0, 2, _, _, rfl, rfl, rfl⟩ rfl hl.1 (Nat.le_of_ble_eq_true rfl) dX2_mail_2 ⟨Nat.le_of_ble_eq_true rfl, Nat.le_of_ble_eq_true rfl⟩ rfl (fun H locs hH => ?_)
  refine lv_astore_n (lv' := [(3, .ref (wd i 0)), (0, .ref (q 0)), (1, .int (nI i)), (2, .int (nI j))]) hx hb dX2_mail_5 rfl hl (by decide) rfl (fun ls hl => ?_)
  refine lv_aload_n hx hb dX2_mail_6 rfl (lv_at hl 1 rfl) ?_
  refine lv_iload_n hx hb dX2_mail_7 rfl (lv_at hl 3 rfl) ?_
  refine callVI0 (rest := []) F (c_X2_hasPassed_1 l G q n nc t fl fd k wd wf wa cd cf (by omega) j hj) gX2_mail_X2_hasPassed rfl hdX2_hasPassed ⟨Nat.le_of_ble_eq_true rfl, Nat.le_of_ble_eq_true rfl⟩ hH ⟨0, 2, _, _, rfl, rfl, rfl⟩ rfl hl.1 (Nat.le_of_ble_eq_true rfl) dX2_mail_8 ⟨Nat.le_of_ble_eq_true rfl, Nat.le_of_ble_eq_true rfl⟩ rfl (fun u H locs hH => ?_)
  have hH : HH G A s (sW G q n nc t fl fd k wd wf wa cd cf) H locs := hH
  refine callSV0 (rest := []) F (c_X2_requireArgument_1 l G _) gX2_mail_X2_requireArgument rfl hdX2_requireArgument ⟨Nat.le_of_ble_eq_true rfl, Nat.le_of_ble_eq_true rfl⟩ hH rfl hl.1 (Nat.le_of_ble_eq_true rfl) dX2_mail_11 ⟨Nat.le_of_ble_eq_true rfl, Nat.le_of_ble_eq_true rfl⟩ rfl (fun u H locs hH => ?_)
  have hH : HH G A s (sW G q n nc t fl fd k wd wf wa cd cf) H locs := hH
  refine lv_aload_n hx hb dX2_mail_14 rfl (lv_at hl 1 rfl) ?_
  refine rget (C := RX2) (T := TX2) (N := 8) (ref := RX2) F in_X2_mail_X2 hH 0 rfl rfl 2 (by decide) (by decide +kernel) (fun _ h9 => h9) (v := .ref (q 3)) rfl dX2_mail_15 ?_
  refine lv_iload_n hx hb dX2_mail_18 rfl (lv_at hl 3 rfl) ?_
  refine rzald F hH 3 (n := 201) (f := k) rfl j rfl (by omega) (by decide) dX2_mail_19 ?_
  refine lv_if_ne (tgt := 27) hx hb dX2_mail_20 (by decide) (fun c_20 => absurd hk c_20) (fun c_20 => ?_)
  refine lv_iconst (v := 1) hx hb dX2_mail_23 (by decide) ?_
  refine lv_goto (tgt := 28) hx hb dX2_mail_24 (by decide) ?_
  refine callSV0 (rest := []) F (c_X2_requireState_1 l G _) gX2_mail_X2_requireState rfl hdX2_requireState ⟨Nat.le_of_ble_eq_true rfl, Nat.le_of_ble_eq_true rfl⟩ hH rfl hl.1 (Nat.le_of_ble_eq_true rfl) dX2_mail_28 ⟨Nat.le_of_ble_eq_true rfl, Nat.le_of_ble_eq_true rfl⟩ rfl (fun u H locs hH => ?_)
  have hH : HH G A s (sW G q n nc t fl fd k wd wf wa cd cf) H locs := hH
  refine lv_aload_n hx hb dX2_mail_31 rfl (lv_at hl 0 rfl) ?_
  refine rgetN (C := RX1) (T := TX1) (N := 12) (ref := RX1) (host := RX2) F in_X2_mail_X1 hH (4 + 7 * i + 0) (sW_at hi (j := 0) rfl) rfl 7 (by decide) (by decide +kernel) (fun _ h9 => h9) (v := .ref (wd i 7)) rfl dX2_mail_32 ?_
  refine lv_iload_n hx hb dX2_mail_35 rfl (lv_at hl 3 rfl) ?_
  refine lv_iconst (v := 1) hx hb dX2_mail_36 (by decide) ?_
  refine rzast F hH (4 + 7 * i + 6) (n := 201) (f := wa i 7) (sW_at hi (j := 6) rfl) j rfl (by omega) (by decide) rfl dX2_mail_37 (fun H locs hH => ?_)
  have hH : HH G A s (sW G q n nc t fl fd k wd (va_up wf i (wf i)) (va_up wa i (va_up (wa i) 7 (upd (wa i 7) j 1))) cd cf) H locs := (sW_set hi (j := 6) (by decide) (f' := wf i) (a' := va_up (wa i) 7 (upd (wa i 7) j 1)) rfl ▸ hH)
  exact retV F hr (fun _ => 0) hH (Nat.le_of_ble_eq_true rfl) (Nat.le_of_ble_eq_true rfl) dX2_mail_38

set_option maxHeartbeats 4000000 in
set_option maxRecDepth 100000 in
theorem c_X2_mail_3 (l : Launch) (hst : l.stackTraces = false) (G : Gx) (q : Nat → Nat) (n nc t : Nat) (fl fd : Int32) (k : Nat → Int32) (wd : Nat → Nat → Nat) (wf : Nat → Nat → Int32) (wa : Nat → Nat → Nat → Int32) (cd : Nat → Nat) (cf : Nat → Nat → Int32) (hn : n ≤ 8) (i : Nat) (hi : i < n) (ht : t ≤ 201) (j : Nat) (hj : j < t) (hk : ¬ k j = 0) : MX l yX2_mail wsX2_mail ({ frames := 7, cells := 1, slots := 6, locals := 110 } : Room) [.ref (q 0), .int (nI i), .int (nI j)] G (sW G q n nc t fl fd k wd wf wa cd cf) "java/lang/IllegalStateException" := by
  refine ofMX (cc := cX2_mail) (maxL := 4) (ret := none) (by decide) rfl (Nat.le_of_ble_eq_true rfl) (fun p e s m below meth c A ls F htb hH hl => ?_)
  have F : Fx G p s m _ meth c cX2_mail 4 wsX2_mail RX2 A := F
  have hx := F.1.1
  have hb := F.1.2.1
  have hl : lv_has ls 4 [(0, .ref (q 0)), (1, .int (nI i)), (2, .int (nI j))] := hl
  refine lv_aload_n hx hb dX2_mail_0 rfl (lv_at hl 0 rfl) ?_
  refine lv_iload_n hx hb dX2_mail_1 rfl (lv_at hl 1 rfl) ?_
  refine callVR0 (rest := []) F (c_X2_workerAt_1 l G q n nc t fl fd k wd wf wa cd cf hn i hi) gX2_mail_X2_workerAt rfl hdX2_workerAt ⟨Nat.le_of_ble_eq_true rfl, Nat.le_of_ble_eq_true rfl⟩ hH ⟨0, 2, _, _, rfl, rfl, rfl⟩ rfl hl.1 (Nat.le_of_ble_eq_true rfl) dX2_mail_2 ⟨Nat.le_of_ble_eq_true rfl, Nat.le_of_ble_eq_true rfl⟩ rfl (fun H locs hH => ?_)
  refine lv_astore_n (lv' := [(3, .ref (wd i 0)), (0, .ref (q 0)), (1, .int (nI i)), (2, .int (nI j))]) hx hb dX2_mail_5 rfl hl (by decide) rfl (fun ls hl => ?_)
  refine lv_aload_n hx hb dX2_mail_6 rfl (lv_at hl 1 rfl) ?_
  refine lv_iload_n hx hb dX2_mail_7 rfl (lv_at hl 3 rfl) ?_
  refine callVI0 (rest := []) F (c_X2_hasPassed_1 l G q n nc t fl fd k wd wf wa cd cf (by omega) j hj) gX2_mail_X2_hasPassed rfl hdX2_hasPassed ⟨Nat.le_of_ble_eq_true rfl, Nat.le_of_ble_eq_true rfl⟩ hH ⟨0, 2, _, _, rfl, rfl, rfl⟩ rfl hl.1 (Nat.le_of_ble_eq_true rfl) dX2_mail_8 ⟨Nat.le_of_ble_eq_true rfl, Nat.le_of_ble_eq_true rfl⟩ rfl (fun u H locs hH => ?_)
  have hH : HH G A s (sW G q n nc t fl fd k wd wf wa cd cf) H locs := hH
  refine callSV0 (rest := []) F (c_X2_requireArgument_1 l G _) gX2_mail_X2_requireArgument rfl hdX2_requireArgument ⟨Nat.le_of_ble_eq_true rfl, Nat.le_of_ble_eq_true rfl⟩ hH rfl hl.1 (Nat.le_of_ble_eq_true rfl) dX2_mail_11 ⟨Nat.le_of_ble_eq_true rfl, Nat.le_of_ble_eq_true rfl⟩ rfl (fun u H locs hH => ?_)
  have hH : HH G A s (sW G q n nc t fl fd k wd wf wa cd cf) H locs := hH
  refine lv_aload_n hx hb dX2_mail_14 rfl (lv_at hl 1 rfl) ?_
  refine rget (C := RX2) (T := TX2) (N := 8) (ref := RX2) F in_X2_mail_X2 hH 0 rfl rfl 2 (by decide) (by decide +kernel) (fun _ h9 => h9) (v := .ref (q 3)) rfl dX2_mail_15 ?_
  refine lv_iload_n hx hb dX2_mail_18 rfl (lv_at hl 3 rfl) ?_
  refine rzald F hH 3 (n := 201) (f := k) rfl j rfl (by omega) (by decide) dX2_mail_19 ?_
  refine lv_if_ne (tgt := 27) hx hb dX2_mail_20 (by decide) (fun c_20 => ?_) (fun c_20 => absurd c_20 hk)
  refine lv_iconst (v := 0) hx hb dX2_mail_27 (by decide) ?_
  exact callSX0 (rest := []) F (c_X2_requireState_0 l hst G _) gX2_mail_X2_requireState rfl hdX2_requireState ⟨Nat.le_of_ble_eq_true rfl, Nat.le_of_ble_eq_true rfl⟩ hH rfl hl.1 (Nat.le_of_ble_eq_true rfl) dX2_mail_28 ⟨Nat.le_of_ble_eq_true rfl, Nat.le_of_ble_eq_true rfl⟩ rfl htb (Nat.le_of_ble_eq_true rfl) (Nat.le_of_ble_eq_true rfl)

set_option maxHeartbeats 4000000 in
set_option maxRecDepth 100000 in
theorem c_X2_mail_2 (l : Launch) (hst : l.stackTraces = false) (G : Gx) (q : Nat → Nat) (n nc t : Nat) (fl fd : Int32) (k : Nat → Int32) (wd : Nat → Nat → Nat) (wf : Nat → Nat → Int32) (wa : Nat → Nat → Nat → Int32) (cd : Nat → Nat) (cf : Nat → Nat → Int32) (hn : n ≤ 8) (i : Nat) (hi : i < n) (ht : t ≤ 201) (w : Int32) (h : w < 0 ∨ nI t ≤ w) : MX l yX2_mail wsX2_mail ({ frames := 7, cells := 1, slots := 6, locals := 110 } : Room) [.ref (q 0), .int (nI i), .int w] G (sW G q n nc t fl fd k wd wf wa cd cf) "java/lang/IllegalArgumentException" := by
  refine ofMX (cc := cX2_mail) (maxL := 4) (ret := none) (by decide) rfl (Nat.le_of_ble_eq_true rfl) (fun p e s m below meth c A ls F htb hH hl => ?_)
  have F : Fx G p s m _ meth c cX2_mail 4 wsX2_mail RX2 A := F
  have hx := F.1.1
  have hb := F.1.2.1
  have hl : lv_has ls 4 [(0, .ref (q 0)), (1, .int (nI i)), (2, .int w)] := hl
  refine lv_aload_n hx hb dX2_mail_0 rfl (lv_at hl 0 rfl) ?_
  refine lv_iload_n hx hb dX2_mail_1 rfl (lv_at hl 1 rfl) ?_
  refine callVR0 (rest := []) F (c_X2_workerAt_1 l G q n nc t fl fd k wd wf wa cd cf hn i hi) gX2_mail_X2_workerAt rfl hdX2_workerAt ⟨Nat.le_of_ble_eq_true rfl, Nat.le_of_ble_eq_true rfl⟩ hH ⟨0, 2, _, _, rfl, rfl, rfl⟩ rfl hl.1 (Nat.le_of_ble_eq_true rfl) dX2_mail_2 ⟨Nat.le_of_ble_eq_true rfl, Nat.le_of_ble_eq_true rfl⟩ rfl (fun H locs hH => ?_)
  refine lv_astore_n (lv' := [(3, .ref (wd i 0)), (0, .ref (q 0)), (1, .int (nI i)), (2, .int w)]) hx hb dX2_mail_5 rfl hl (by decide) rfl (fun ls hl => ?_)
  refine lv_aload_n hx hb dX2_mail_6 rfl (lv_at hl 1 rfl) ?_
  refine lv_iload_n hx hb dX2_mail_7 rfl (lv_at hl 3 rfl) ?_
  refine callVI0 (rest := []) F (c_X2_hasPassed_0 l G q n nc t fl fd k wd wf wa cd cf (by omega) w h) gX2_mail_X2_hasPassed rfl hdX2_hasPassed ⟨Nat.le_of_ble_eq_true rfl, Nat.le_of_ble_eq_true rfl⟩ hH ⟨0, 2, _, _, rfl, rfl, rfl⟩ rfl hl.1 (Nat.le_of_ble_eq_true rfl) dX2_mail_8 ⟨Nat.le_of_ble_eq_true rfl, Nat.le_of_ble_eq_true rfl⟩ rfl (fun u H locs hH => ?_)
  have hH : HH G A s (sW G q n nc t fl fd k wd wf wa cd cf) H locs := hH
  exact callSX0 (rest := []) F (c_X2_requireArgument_0 l hst G _) gX2_mail_X2_requireArgument rfl hdX2_requireArgument ⟨Nat.le_of_ble_eq_true rfl, Nat.le_of_ble_eq_true rfl⟩ hH rfl hl.1 (Nat.le_of_ble_eq_true rfl) dX2_mail_11 ⟨Nat.le_of_ble_eq_true rfl, Nat.le_of_ble_eq_true rfl⟩ rfl htb (Nat.le_of_ble_eq_true rfl) (Nat.le_of_ble_eq_true rfl)

set_option maxHeartbeats 4000000 in
set_option maxRecDepth 100000 in
theorem c_X2_mail_0 (l : Launch) (hst : l.stackTraces = false) (G : Gx) (q : Nat → Nat) (n nc t : Nat) (fl fd : Int32) (k : Nat → Int32) (wd : Nat → Nat → Nat) (wf : Nat → Nat → Int32) (wa : Nat → Nat → Nat → Int32) (cd : Nat → Nat) (cf : Nat → Nat → Int32) (hn : n ≤ 8) (v : Int32) (h : v < 0 ∨ nI n ≤ v) (w : Int32) : MX l yX2_mail wsX2_mail ({ frames := 7, cells := 1, slots := 6, locals := 112 } : Room) [.ref (q 0), .int v, .int w] G (sW G q n nc t fl fd k wd wf wa cd cf) "java/lang/IndexOutOfBoundsException" := by
  refine ofMX (cc := cX2_mail) (maxL := 4) (ret := none) (by decide) rfl (Nat.le_of_ble_eq_true rfl) (fun p e s m below meth c A ls F htb hH hl => ?_)
  have F : Fx G p s m _ meth c cX2_mail 4 wsX2_mail RX2 A := F
  have hx := F.1.1
  have hb := F.1.2.1
  have hl : lv_has ls 4 [(0, .ref (q 0)), (1, .int v), (2, .int w)] := hl
  refine lv_aload_n hx hb dX2_mail_0 rfl (lv_at hl 0 rfl) ?_
  refine lv_iload_n hx hb dX2_mail_1 rfl (lv_at hl 1 rfl) ?_
  exact callVX0 (rest := []) F (c_X2_workerAt_0 l hst G q n nc t fl fd k wd wf wa cd cf hn v h) gX2_mail_X2_workerAt rfl hdX2_workerAt ⟨Nat.le_of_ble_eq_true rfl, Nat.le_of_ble_eq_true rfl⟩ hH ⟨0, 2, _, _, rfl, rfl, rfl⟩ rfl hl.1 (Nat.le_of_ble_eq_true rfl) dX2_mail_2 ⟨Nat.le_of_ble_eq_true rfl, Nat.le_of_ble_eq_true rfl⟩ rfl htb (Nat.le_of_ble_eq_true rfl) (Nat.le_of_ble_eq_true rfl)

set_option maxHeartbeats 4000000 in
set_option maxRecDepth 100000 in
theorem c_X2_chargeBack_m (l : Launch) (G : Gx) (q : Nat → Nat) (n nc t : Nat) (fl fd : Int32) (k : Nat → Int32) (wd : Nat → Nat → Nat) (wf : Nat → Nat → Int32) (wa : Nat → Nat → Nat → Int32) (cd : Nat → Nat) (cf : Nat → Nat → Int32) (hn : n ≤ 8) (i : Nat) (hi : i < n) (j : Nat) (hj : j < 201) (hm : ¬ wa i 7 j = 0) : MV l yX2_chargeBack wsX2_chargeBack ({ frames := 0, cells := 0, slots := 0, locals := 0 } : Room) [.ref (q 0), .ref (wd i 0), .int (nI j)] G (sW G q n nc t fl fd k wd wf wa cd cf) (fun u => sW G q n nc t fl (fd + ((wa i 5 j) + (((wa i 5 j) * 10) / 100))) k wd wf wa cd cf) := by
  refine ofMV (cc := cX2_chargeBack) (maxL := 5) (ret := none) (by decide) rfl (Nat.le_of_ble_eq_true rfl) (fun p e s m below meth c A ls F hr hnm hH hl => ?_)
  have F : Fx G p s m _ meth c cX2_chargeBack 5 wsX2_chargeBack RX2 A := F
  have hx := F.1.1
  have hb := F.1.2.1
  have hl : lv_has ls 5 [(0, .ref (q 0)), (1, .ref (wd i 0)), (2, .int (nI j))] := hl
  refine lv_aload_n hx hb dX2_chargeBack_0 rfl (lv_at hl 1 rfl) ?_
  refine rgetN (C := RX1) (T := TX1) (N := 12) (ref := RX1) (host := RX2) F in_X2_chargeBack_X1 hH (4 + 7 * i + 0) (sW_at hi (j := 0) rfl) rfl 5 (by decide) (by decide +kernel) (fun _ h9 => h9) (v := .ref (wd i 5)) rfl dX2_chargeBack_1 ?_
  refine lv_iload_n hx hb dX2_chargeBack_4 rfl (lv_at hl 2 rfl) ?_
  refine riald F hH (4 + 7 * i + 4) (n := 201) (f := wa i 5) (sW_at hi (j := 4) rfl) j rfl (by omega) (by decide) dX2_chargeBack_5 ?_
  refine lv_istore_n (lv' := [(3, .int (wa i 5 j)), (0, .ref (q 0)), (1, .ref (wd i 0)), (2, .int (nI j))]) hx hb dX2_chargeBack_6 rfl hl (by decide) rfl (fun ls hl => ?_)
  refine lv_aload_n hx hb dX2_chargeBack_7 rfl (lv_at hl 2 rfl) ?_
  refine rgetN (C := RX1) (T := TX1) (N := 12) (ref := RX1) (host := RX2) F in_X2_chargeBack_X1 hH (4 + 7 * i + 0) (sW_at hi (j := 0) rfl) rfl 7 (by decide) (by decide +kernel) (fun _ h9 => h9) (v := .ref (wd i 7)) rfl dX2_chargeBack_8 ?_
  refine lv_iload_n hx hb dX2_chargeBack_11 rfl (lv_at hl 3 rfl) ?_
  refine rzald F hH (4 + 7 * i + 6) (n := 201) (f := wa i 7) (sW_at hi (j := 6) rfl) j rfl (by omega) (by decide) dX2_chargeBack_12 ?_
  refine lv_if_eq (tgt := 37) hx hb dX2_chargeBack_13 (by decide) (fun c_13 => absurd c_13 hm) (fun c_13 => ?_)
  refine lv_aload_n hx hb dX2_chargeBack_16 rfl (lv_at hl 1 rfl) ?_
  refine lv_dup hx hb dX2_chargeBack_17 rfl ?_
  refine rget (C := RX2) (T := TX2) (N := 8) (ref := RX2) F in_X2_chargeBack_X2 hH 0 rfl rfl 7 (by decide) (by decide +kernel) (fun _ h9 => h9) (v := .int fd) rfl dX2_chargeBack_18 ?_
  refine lv_iload_n hx hb dX2_chargeBack_21 rfl (lv_at hl 0 rfl) ?_
  refine lv_iload_n hx hb dX2_chargeBack_22 rfl (lv_at hl 0 rfl) ?_
  refine lv_bipush (v := 10) hx hb dX2_chargeBack_23 (by decide) ?_
  refine lv_imul hx hb dX2_chargeBack_25 ?_
  refine lv_bipush (v := 100) hx hb dX2_chargeBack_26 (by decide) ?_
  refine lv_idiv hx hb dX2_chargeBack_28 (by decide) ?_
  refine lv_iadd hx hb dX2_chargeBack_29 ?_
  refine lv_iadd hx hb dX2_chargeBack_30 ?_
  refine rput (C := RX2) (T := TX2) (N := 8) (ref := RX2) F in_X2_chargeBack_X2 tyX2 tyX2_ok nmX2 hH 0 rfl rfl 7 (by decide) (by decide +kernel) (fun _ h9 => h9) rfl (v := .int (fd + ((wa i 5 j) + (((wa i 5 j) * 10) / 100)))) rfl rfl (Nat.le_of_ble_eq_true rfl) dX2_chargeBack_31 (fun H locs hH => ?_)
  have hH : HH G A s (sW G q n nc t fl (fd + ((wa i 5 j) + (((wa i 5 j) * 10) / 100))) k wd wf wa cd cf) H locs := hH
  refine lv_goto (tgt := 66) hx hb dX2_chargeBack_34 (by decide) ?_
  exact retV F hr (fun _ => 0) hH (Nat.le_of_ble_eq_true rfl) (Nat.le_of_ble_eq_true rfl) dX2_chargeBack_66

set_option maxHeartbeats 4000000 in
set_option maxRecDepth 100000 in
theorem c_X2_chargeBack_n (l : Launch) (G : Gx) (q : Nat → Nat) (n nc t : Nat) (fl fd : Int32) (k : Nat → Int32) (wd : Nat → Nat → Nat) (wf : Nat → Nat → Int32) (wa : Nat → Nat → Nat → Int32) (cd : Nat → Nat) (cf : Nat → Nat → Int32) (hn : n ≤ 8) (i : Nat) (hi : i < n) (j : Nat) (hj : j < 201) (hm : wa i 7 j = 0) : MV l yX2_chargeBack wsX2_chargeBack ({ frames := 0, cells := 0, slots := 0, locals := 0 } : Room) [.ref (q 0), .ref (wd i 0), .int (nI j)] G (sW G q n nc t fl fd k wd wf wa cd cf) (fun u => sW G q n nc t fl (fd + ((wa i 5 j) - ((wa i 5 j) / 2))) k wd (va_up wf i (va_up (wf i) 11 ((wf i 11) + ((wa i 5 j) / 2)))) (va_up wa i (wa i)) cd cf) := by
  refine ofMV (cc := cX2_chargeBack) (maxL := 5) (ret := none) (by decide) rfl (Nat.le_of_ble_eq_true rfl) (fun p e s m below meth c A ls F hr hnm hH hl => ?_)
  have F : Fx G p s m _ meth c cX2_chargeBack 5 wsX2_chargeBack RX2 A := F
  have hx := F.1.1
  have hb := F.1.2.1
  have hl : lv_has ls 5 [(0, .ref (q 0)), (1, .ref (wd i 0)), (2, .int (nI j))] := hl
  refine lv_aload_n hx hb dX2_chargeBack_0 rfl (lv_at hl 1 rfl) ?_
  refine rgetN (C := RX1) (T := TX1) (N := 12) (ref := RX1) (host := RX2) F in_X2_chargeBack_X1 hH (4 + 7 * i + 0) (sW_at hi (j := 0) rfl) rfl 5 (by decide) (by decide +kernel) (fun _ h9 => h9) (v := .ref (wd i 5)) rfl dX2_chargeBack_1 ?_
  refine lv_iload_n hx hb dX2_chargeBack_4 rfl (lv_at hl 2 rfl) ?_
  refine riald F hH (4 + 7 * i + 4) (n := 201) (f := wa i 5) (sW_at hi (j := 4) rfl) j rfl (by omega) (by decide) dX2_chargeBack_5 ?_
  refine lv_istore_n (lv' := [(3, .int (wa i 5 j)), (0, .ref (q 0)), (1, .ref (wd i 0)), (2, .int (nI j))]) hx hb dX2_chargeBack_6 rfl hl (by decide) rfl (fun ls hl => ?_)
  refine lv_aload_n hx hb dX2_chargeBack_7 rfl (lv_at hl 2 rfl) ?_
  refine rgetN (C := RX1) (T := TX1) (N := 12) (ref := RX1) (host := RX2) F in_X2_chargeBack_X1 hH (4 + 7 * i + 0) (sW_at hi (j := 0) rfl) rfl 7 (by decide) (by decide +kernel) (fun _ h9 => h9) (v := .ref (wd i 7)) rfl dX2_chargeBack_8 ?_
  refine lv_iload_n hx hb dX2_chargeBack_11 rfl (lv_at hl 3 rfl) ?_
  refine rzald F hH (4 + 7 * i + 6) (n := 201) (f := wa i 7) (sW_at hi (j := 6) rfl) j rfl (by omega) (by decide) dX2_chargeBack_12 ?_
  refine lv_if_eq (tgt := 37) hx hb dX2_chargeBack_13 (by decide) (fun c_13 => ?_) (fun c_13 => absurd hm c_13)
  refine lv_iload_n hx hb dX2_chargeBack_37 rfl (lv_at hl 0 rfl) ?_
  refine lv_iconst (v := 2) hx hb dX2_chargeBack_38 (by decide) ?_
  refine lv_idiv hx hb dX2_chargeBack_39 (by decide) ?_
  refine lv_istore (lv' := [(4, .int ((wa i 5 j) / 2)), (3, .int (wa i 5 j)), (0, .ref (q 0)), (1, .ref (wd i 0)), (2, .int (nI j))]) hx hb dX2_chargeBack_40 hl (by decide) rfl (fun ls hl => ?_)
  refine lv_aload_n hx hb dX2_chargeBack_42 rfl (lv_at hl 3 rfl) ?_
  refine lv_dup hx hb dX2_chargeBack_43 rfl ?_
  refine rgetN (C := RX1) (T := TX1) (N := 12) (ref := RX1) (host := RX2) F in_X2_chargeBack_X1 hH (4 + 7 * i + 0) (sW_at hi (j := 0) rfl) rfl 11 (by decide) (by decide +kernel) (fun _ h9 => h9) (v := .int (wf i 11)) rfl dX2_chargeBack_44 ?_
  refine lv_iload hx hb dX2_chargeBack_47 (lv_at hl 0 rfl) ?_
  refine lv_iadd hx hb dX2_chargeBack_49 ?_
  refine rputN (C := RX1) (T := TX1) (N := 12) (ref := RX1) (host := RX2) F in_X2_chargeBack_X1 tyX1 tyX1_ok nmX1 hH (4 + 7 * i + 0) (sW_at hi (j := 0) rfl) rfl 11 (by decide) (by decide +kernel) (fun _ h9 => h9) rfl (v := .int ((wf i 11) + ((wa i 5 j) / 2))) rfl rfl (Nat.le_of_ble_eq_true rfl) dX2_chargeBack_50 (fun H locs hH => ?_)
  have hH : HH G A s (sW G q n nc t fl fd k wd (va_up wf i (va_up (wf i) 11 ((wf i 11) + ((wa i 5 j) / 2)))) (va_up wa i (wa i)) cd cf) H locs := (sW_set hi (j := 0) (by decide) (f' := va_up (wf i) 11 ((wf i 11) + ((wa i 5 j) / 2))) (a' := wa i) rfl ▸ hH)
  refine lv_aload_n hx hb dX2_chargeBack_53 rfl (lv_at hl 2 rfl) ?_
  refine lv_dup hx hb dX2_chargeBack_54 rfl ?_
  refine rget (C := RX2) (T := TX2) (N := 8) (ref := RX2) F in_X2_chargeBack_X2 hH 0 rfl rfl 7 (by decide) (by decide +kernel) (fun _ h9 => h9) (v := .int fd) rfl dX2_chargeBack_55 ?_
  refine lv_iload_n hx hb dX2_chargeBack_58 rfl (lv_at hl 1 rfl) ?_
  refine lv_iload hx hb dX2_chargeBack_59 (lv_at hl 0 rfl) ?_
  refine lv_isub hx hb dX2_chargeBack_61 ?_
  refine lv_iadd hx hb dX2_chargeBack_62 ?_
  refine rput (C := RX2) (T := TX2) (N := 8) (ref := RX2) F in_X2_chargeBack_X2 tyX2 tyX2_ok nmX2 hH 0 rfl rfl 7 (by decide) (by decide +kernel) (fun _ h9 => h9) rfl (v := .int (fd + ((wa i 5 j) - ((wa i 5 j) / 2)))) rfl rfl (Nat.le_of_ble_eq_true rfl) dX2_chargeBack_63 (fun H locs hH => ?_)
  have hH : HH G A s (sW G q n nc t fl (fd + ((wa i 5 j) - ((wa i 5 j) / 2))) k wd (va_up wf i (va_up (wf i) 11 ((wf i 11) + ((wa i 5 j) / 2)))) (va_up wa i (wa i)) cd cf) H locs := hH
  exact retV F hr (fun _ => 0) hH (Nat.le_of_ble_eq_true rfl) (Nat.le_of_ble_eq_true rfl) dX2_chargeBack_66

set_option maxHeartbeats 4000000 in
set_option maxRecDepth 100000 in
theorem c_X1_takeNotice (l : Launch) (G : Gx) (d : Nat → Nat) (f : Nat → Int32) (a : Nat → Nat → Int32) (x y : Nat) (hxy : x ≤ y) (hy : y ≤ 200) (h : Int32) : MV l yX1_takeNotice wsX1_takeNotice ({ frames := 0, cells := 0, slots := 0, locals := 0 } : Room) [.ref (d 0), .int (nI x), .int (nI y), .int h] G (wW G d f a) (fun u => wW G d (va_up f 8 (f 8 + 1)) (va_up a 2 (fillR (a 2) x (y + 1) h))) := by
  refine ofMV (cc := cX1_takeNotice) (maxL := 5) (ret := none) (by decide) rfl (Nat.le_of_ble_eq_true rfl) (fun p e s m below meth c A ls F hr hnm hH hl => ?_)
  have F : Fx G p s m _ meth c cX1_takeNotice 5 wsX1_takeNotice RX1 A := F
  have hx := F.1.1
  have hb := F.1.2.1
  have hl : lv_has ls 5 [(0, .ref (d 0)), (1, .int (nI x)), (2, .int (nI y)), (3, .int h)] := hl
  refine lv_iload_n hx hb dX1_takeNotice_0 rfl (lv_at hl 1 rfl) ?_
  refine lv_istore (lv' := [(4, .int (nI x)), (0, .ref (d 0)), (1, .int (nI x)), (2, .int (nI y)), (3, .int h)]) hx hb dX1_takeNotice_1 hl (by decide) rfl (fun ls hl => ?_)
  have hH : HH G A s (wW G d f (va_up a 2 (fillR (a 2) x x h))) s.heap [] := by rw [fillR_0]; exact hH
  have loop : ∀ (n9 : Nat) (i : Nat) (hc9 : i + n9 = y + 1) (hxi : x ≤ i) (H : Heap) (locs : List Loc) (ls : Array Slot), HH G A s (wW G d f (va_up a 2 (fillR (a 2) x i h))) H locs → lv_has ls 5 [(4, .int (nI i)), (0, .ref (d 0)), (1, .int (nI x)), (2, .int (nI y)), (3, .int h)] → W p l e ({ frames := 0, cells := 0, slots := 0, locals := 0 } : Room) s m [.ref (d 0), .int (nI x), .int (nI y), .int h].toArray below meth c H locs 0 0 (EnV G A below s [.ref (d 0), .int (nI x), .int (nI y), .int h].toArray ({ frames := 0, cells := 0, slots := 0, locals := 0 } : Room) (fun u => wW G d (va_up f 8 (f 8 + 1)) (va_up a 2 (fillR (a 2) x (y + 1) h)))) (F0 m 3 ls []) := by
    intro n9
    induction n9 with
    | zero =>
      intro i hc9 hxi H locs ls hH hl
      refine lv_iload hx hb dX1_takeNotice_3 (lv_at hl 0 rfl) ?_
      refine lv_iload_n hx hb dX1_takeNotice_5 rfl (lv_at hl 3 rfl) ?_
      refine lv_icmp_gt (tgt := 23) hx hb dX1_takeNotice_6 (by decide) (fun c_6 => ?_) (fun c_6 => absurd (by rw [show i = y + 1 by omega]; exact nI_lt (by omega) (by omega)) c_6)
      have hH : HH G A s (wW G d f (va_up a 2 (fillR (a 2) x (y + 1) h))) H locs := by rw [show y + 1 = i by omega]; exact hH
      refine lv_aload_n hx hb dX1_takeNotice_23 rfl (lv_at hl 1 rfl) ?_
      refine lv_dup hx hb dX1_takeNotice_24 rfl ?_
      refine rget (C := RX1) (T := TX1) (N := 12) (ref := RX1) F in_X1_takeNotice_X1 hH 0 rfl rfl 8 (by decide) (by decide +kernel) (fun _ h9 => h9) (v := .int (f 8)) rfl dX1_takeNotice_25 ?_
      refine lv_iconst (v := 1) hx hb dX1_takeNotice_28 (by decide) ?_
      refine lv_iadd hx hb dX1_takeNotice_29 ?_
      refine rput (C := RX1) (T := TX1) (N := 12) (ref := RX1) F in_X1_takeNotice_X1 tyX1 tyX1_ok nmX1 hH 0 rfl rfl 8 (by decide) (by decide +kernel) (fun _ h9 => h9) rfl (v := .int ((f 8) + 1)) rfl rfl (Nat.le_of_ble_eq_true rfl) dX1_takeNotice_30 (fun H locs hH => ?_)
      have hH : HH G A s (wW G d (va_up f 8 ((f 8) + 1)) (va_up a 2 (fillR (a 2) x (y + 1) h))) H locs := hH
      exact retV F hr (fun _ => 0) hH (Nat.le_of_ble_eq_true rfl) (Nat.le_of_ble_eq_true rfl) dX1_takeNotice_33
    | succ n9 ih =>
      intro i hc9 hxi H locs ls hH hl
      refine lv_iload hx hb dX1_takeNotice_3 (lv_at hl 0 rfl) ?_
      refine lv_iload_n hx hb dX1_takeNotice_5 rfl (lv_at hl 3 rfl) ?_
      refine lv_icmp_gt (tgt := 23) hx hb dX1_takeNotice_6 (by decide) (fun c_6 => absurd c_6 (nI_nlt (by omega) (by omega))) (fun c_6 => ?_)
      refine lv_aload_n hx hb dX1_takeNotice_9 rfl (lv_at hl 1 rfl) ?_
      refine rget (C := RX1) (T := TX1) (N := 12) (ref := RX1) F in_X1_takeNotice_X1 hH 0 rfl rfl 2 (by decide) (by decide +kernel) (fun _ h9 => h9) (v := .ref (d 2)) rfl dX1_takeNotice_10 ?_
      refine lv_iload hx hb dX1_takeNotice_13 (lv_at hl 0 rfl) ?_
      refine lv_iload_n hx hb dX1_takeNotice_15 rfl (lv_at hl 4 rfl) ?_
      refine riast F hH 1 (n := 201) (f := fillR (a 2) x i h) rfl i rfl (by omega) (by decide) dX1_takeNotice_16 (fun H locs hH => ?_)
      have hH : HH G A s (wW G d f (va_up a 2 (upd (fillR (a 2) x i h) i h))) H locs := hH
      refine lv_iinc (v := (nI (i + 1))) (lv' := [(4, .int (nI (i + 1))), (0, .ref (d 0)), (1, .int (nI x)), (2, .int (nI y)), (3, .int h)]) hx hb dX1_takeNotice_17 hl (k := 0) rfl (nI_1 i) (by decide) rfl (fun ls hl => ?_)
      refine lv_goto (tgt := 3) hx hb dX1_takeNotice_20 (by decide) ?_
      exact ih (i + 1) (by omega) (by omega) _ _ _ (by rw [← fillR_step hxi]; exact hH) (lv_sub hl [0, 1, 2, 3, 4] rfl)
  exact loop (y + 1 - x) x (by omega) (Nat.le_refl x) _ _ _ hH (lv_sub hl [0, 1, 2, 3, 4] rfl)

set_option maxHeartbeats 4000000 in
set_option maxRecDepth 100000 in
theorem c_X1_hasNoCourseFrom_1 (l : Launch) (G : Gx) (d : Nat → Nat) (f : Nat → Int32) (a : Nat → Nat → Int32) (x y : Nat) (hxy : x ≤ y) (hy : y ≤ 200) (hno : ∀ z, x ≤ z → z ≤ y → a 3 z ≤ 0) : MI l yX1_hasNoCourseFrom wsX1_hasNoCourseFrom ({ frames := 0, cells := 0, slots := 0, locals := 0 } : Room) [.ref (d 0), .int (nI x), .int (nI y)] G (wW G d f a) (fun u => wW G d f a) 1 := by
  refine ofMI (cc := cX1_hasNoCourseFrom) (maxL := 4) (ret := (some .boolean)) (by decide) rfl (Nat.le_of_ble_eq_true rfl) (fun p e s m below meth c A ls F hr hnm hH hl => ?_)
  have F : Fx G p s m _ meth c cX1_hasNoCourseFrom 4 wsX1_hasNoCourseFrom RX1 A := F
  have hx := F.1.1
  have hb := F.1.2.1
  have hl : lv_has ls 4 [(0, .ref (d 0)), (1, .int (nI x)), (2, .int (nI y))] := hl
  refine lv_iload_n hx hb dX1_hasNoCourseFrom_0 rfl (lv_at hl 1 rfl) ?_
  refine lv_istore_n (lv' := [(3, .int (nI x)), (0, .ref (d 0)), (1, .int (nI x)), (2, .int (nI y))]) hx hb dX1_hasNoCourseFrom_1 rfl hl (by decide) rfl (fun ls hl => ?_)
  have loop : ∀ (n9 : Nat) (i : Nat) (hc9 : i + n9 = y + 1) (hxi : x ≤ i) (H : Heap) (locs : List Loc) (ls : Array Slot), HH G A s (wW G d f a) H locs → lv_has ls 4 [(3, .int (nI i)), (0, .ref (d 0)), (1, .int (nI x)), (2, .int (nI y))] → W p l e ({ frames := 0, cells := 0, slots := 0, locals := 0 } : Room) s m [.ref (d 0), .int (nI x), .int (nI y)].toArray below meth c H locs 0 0 (EnI G A below s [.ref (d 0), .int (nI x), .int (nI y)].toArray ({ frames := 0, cells := 0, slots := 0, locals := 0 } : Room) (fun u => wW G d f a) 1) (F0 m 2 ls []) := by
    intro n9
    induction n9 with
    | zero =>
      intro i hc9 hxi H locs ls hH hl
      refine lv_iload_n hx hb dX1_hasNoCourseFrom_2 rfl (lv_at hl 0 rfl) ?_
      refine lv_iload_n hx hb dX1_hasNoCourseFrom_3 rfl (lv_at hl 3 rfl) ?_
      refine lv_icmp_gt (tgt := 24) hx hb dX1_hasNoCourseFrom_4 (by decide) (fun c_4 => ?_) (fun c_4 => absurd (by rw [show i = y + 1 by omega]; exact nI_lt (by omega) (by omega)) c_4)
      refine lv_iconst (v := 1) hx hb dX1_hasNoCourseFrom_24 (by decide) ?_
      exact retI F hr rfl (fun _ => 0) hH rfl (Nat.le_of_ble_eq_true rfl) (Nat.le_of_ble_eq_true rfl) dX1_hasNoCourseFrom_25
    | succ n9 ih =>
      intro i hc9 hxi H locs ls hH hl
      refine lv_iload_n hx hb dX1_hasNoCourseFrom_2 rfl (lv_at hl 0 rfl) ?_
      refine lv_iload_n hx hb dX1_hasNoCourseFrom_3 rfl (lv_at hl 3 rfl) ?_
      refine lv_icmp_gt (tgt := 24) hx hb dX1_hasNoCourseFrom_4 (by decide) (fun c_4 => absurd c_4 (nI_nlt (by omega) (by omega))) (fun c_4 => ?_)
      refine lv_aload_n hx hb dX1_hasNoCourseFrom_7 rfl (lv_at hl 1 rfl) ?_
      refine rget (C := RX1) (T := TX1) (N := 12) (ref := RX1) F in_X1_hasNoCourseFrom_X1 hH 0 rfl rfl 3 (by decide) (by decide +kernel) (fun _ h9 => h9) (v := .ref (d 3)) rfl dX1_hasNoCourseFrom_8 ?_
      refine lv_iload_n hx hb dX1_hasNoCourseFrom_11 rfl (lv_at hl 0 rfl) ?_
      refine riald F hH 2 (n := 201) (f := a 3) rfl i rfl (by omega) (by decide) dX1_hasNoCourseFrom_12 ?_
      refine lv_if_le (tgt := 18) hx hb dX1_hasNoCourseFrom_13 (by decide) (fun c_13 => ?_) (fun c_13 => absurd (hno i hxi (by omega)) c_13)
      refine lv_iinc (v := (nI (i + 1))) (lv' := [(3, .int (nI (i + 1))), (0, .ref (d 0)), (1, .int (nI x)), (2, .int (nI y))]) hx hb dX1_hasNoCourseFrom_18 hl (k := 0) rfl (nI_1 i) (by decide) rfl (fun ls hl => ?_)
      refine lv_goto (tgt := 2) hx hb dX1_hasNoCourseFrom_21 (by decide) ?_
      exact ih (i + 1) (by omega) (by omega) _ _ _ hH (lv_sub hl [0, 1, 2, 3] rfl)
  exact loop (y + 1 - x) x (by omega) (Nat.le_refl x) _ _ _ hH (lv_sub hl [0, 1, 2, 3] rfl)

set_option maxHeartbeats 4000000 in
set_option maxRecDepth 100000 in
theorem c_X1_hasNoCourseFrom_0 (l : Launch) (G : Gx) (d : Nat → Nat) (f : Nat → Int32) (a : Nat → Nat → Int32) (x y : Nat) (hxy : x ≤ y) (hy : y ≤ 200) (hex : ∃ z, x ≤ z ∧ z ≤ y ∧ ¬ a 3 z ≤ 0) : MI l yX1_hasNoCourseFrom wsX1_hasNoCourseFrom ({ frames := 0, cells := 0, slots := 0, locals := 0 } : Room) [.ref (d 0), .int (nI x), .int (nI y)] G (wW G d f a) (fun u => wW G d f a) 0 := by
  refine ofMI (cc := cX1_hasNoCourseFrom) (maxL := 4) (ret := (some .boolean)) (by decide) rfl (Nat.le_of_ble_eq_true rfl) (fun p e s m below meth c A ls F hr hnm hH hl => ?_)
  have F : Fx G p s m _ meth c cX1_hasNoCourseFrom 4 wsX1_hasNoCourseFrom RX1 A := F
  have hx := F.1.1
  have hb := F.1.2.1
  have hl : lv_has ls 4 [(0, .ref (d 0)), (1, .int (nI x)), (2, .int (nI y))] := hl
  refine lv_iload_n hx hb dX1_hasNoCourseFrom_0 rfl (lv_at hl 1 rfl) ?_
  refine lv_istore_n (lv' := [(3, .int (nI x)), (0, .ref (d 0)), (1, .int (nI x)), (2, .int (nI y))]) hx hb dX1_hasNoCourseFrom_1 rfl hl (by decide) rfl (fun ls hl => ?_)
  have loop : ∀ (n9 : Nat) (i : Nat) (hc9 : i + n9 = y + 1) (hxi : x ≤ i) (he : ∃ z, i ≤ z ∧ z ≤ y ∧ ¬ a 3 z ≤ 0) (H : Heap) (locs : List Loc) (ls : Array Slot), HH G A s (wW G d f a) H locs → lv_has ls 4 [(3, .int (nI i)), (0, .ref (d 0)), (1, .int (nI x)), (2, .int (nI y))] → W p l e ({ frames := 0, cells := 0, slots := 0, locals := 0 } : Room) s m [.ref (d 0), .int (nI x), .int (nI y)].toArray below meth c H locs 0 0 (EnI G A below s [.ref (d 0), .int (nI x), .int (nI y)].toArray ({ frames := 0, cells := 0, slots := 0, locals := 0 } : Room) (fun u => wW G d f a) 0) (F0 m 2 ls []) := by
    intro n9
    induction n9 with
    | zero =>
      intro i hc9 hxi he H locs ls hH hl
      exact absurd he (by rintro ⟨z, h1, h2, -⟩; omega)
    | succ n9 ih =>
      intro i hc9 hxi he H locs ls hH hl
      refine lv_iload_n hx hb dX1_hasNoCourseFrom_2 rfl (lv_at hl 0 rfl) ?_
      refine lv_iload_n hx hb dX1_hasNoCourseFrom_3 rfl (lv_at hl 3 rfl) ?_
      refine lv_icmp_gt (tgt := 24) hx hb dX1_hasNoCourseFrom_4 (by decide) (fun c_4 => absurd c_4 (nI_nlt (by omega) (by omega))) (fun c_4 => ?_)
      refine lv_aload_n hx hb dX1_hasNoCourseFrom_7 rfl (lv_at hl 1 rfl) ?_
      refine rget (C := RX1) (T := TX1) (N := 12) (ref := RX1) F in_X1_hasNoCourseFrom_X1 hH 0 rfl rfl 3 (by decide) (by decide +kernel) (fun _ h9 => h9) (v := .ref (d 3)) rfl dX1_hasNoCourseFrom_8 ?_
      refine lv_iload_n hx hb dX1_hasNoCourseFrom_11 rfl (lv_at hl 0 rfl) ?_
      refine riald F hH 2 (n := 201) (f := a 3) rfl i rfl (by omega) (by decide) dX1_hasNoCourseFrom_12 ?_
      refine lv_if_le (tgt := 18) hx hb dX1_hasNoCourseFrom_13 (by decide) (fun c_13 => ?_) (fun c_13 => ?_)
      · refine lv_iinc (v := (nI (i + 1))) (lv' := [(3, .int (nI (i + 1))), (0, .ref (d 0)), (1, .int (nI x)), (2, .int (nI y))]) hx hb dX1_hasNoCourseFrom_18 hl (k := 0) rfl (nI_1 i) (by decide) rfl (fun ls hl => ?_)
        refine lv_goto (tgt := 2) hx hb dX1_hasNoCourseFrom_21 (by decide) ?_
        exact ih (i + 1) (by omega) (by omega) (by obtain ⟨z, h1, h2, h3⟩ := he; exact ⟨z, by rcases Nat.eq_or_lt_of_le h1 with e | e; exact absurd (e ▸ c_13) h3; exact e, h2, h3⟩) _ _ _ hH (lv_sub hl [0, 1, 2, 3] rfl)
      · refine lv_iconst (v := 0) hx hb dX1_hasNoCourseFrom_16 (by decide) ?_
        exact retI F hr rfl (fun _ => 0) hH rfl (Nat.le_of_ble_eq_true rfl) (Nat.le_of_ble_eq_true rfl) dX1_hasNoCourseFrom_17
  exact loop (y + 1 - x) x (by omega) (Nat.le_refl x) hex _ _ _ hH (lv_sub hl [0, 1, 2, 3] rfl)
end
section
/-! the reference's numbers -/
theorem ix30 (i c : Nat) : (30 : Int32) * nI i + nI c = nI (30 * i + c) := by
  rw [show (30 : Int32) = nI 30 from rfl, pk_mul, nI_add]
theorem ix201 (i j : Nat) : (201 : Int32) * nI i + nI j = nI (201 * i + j) := by
  rw [show (201 : Int32) = nI 201 from rfl, pk_mul, nI_add]
theorem ix8 (i j : Nat) : (8 : Int32) * nI i + nI j = nI (8 * i + j) := by
  rw [show (8 : Int32) = nI 8 from rfl, pk_mul, nI_add]
theorem ixm30 (i : Nat) : (30 : Int32) * nI i = nI (30 * i) := by
  rw [show (30 : Int32) = nI 30 from rfl, pk_mul]
theorem ixm201 (i : Nat) : (201 : Int32) * nI i = nI (201 * i) := by
  rw [show (201 : Int32) = nI 201 from rfl, pk_mul]
/-- the cut by the first k notices from place b on: F first weeks, T last weeks, X hours -/
def cutN (F T X : Nat → Int32) (b : Nat) (w : Int32) : Nat → Int32
  | 0 => 0
  | k + 1 => if w < F (b + k) then cutN F T X b w k else if T (b + k) < w then cutN F T X b w k else X (b + k)
theorem cutN_a {F T X : Nat → Int32} {b k : Nat} {w : Int32} (h : w < F (b + k)) : cutN F T X b w (k + 1) = cutN F T X b w k := by
  show (if w < F (b + k) then _ else _) = _
  rw [if_pos h]
theorem cutN_b {F T X : Nat → Int32} {b k : Nat} {w : Int32} (h : ¬ w < F (b + k)) (h2 : T (b + k) < w) : cutN F T X b w (k + 1) = cutN F T X b w k := by
  show (if w < F (b + k) then _ else _) = _
  rw [if_neg h, if_pos h2]
theorem cutN_c {F T X : Nat → Int32} {b k : Nat} {w : Int32} (h : ¬ w < F (b + k)) (h2 : ¬ T (b + k) < w) : cutN F T X b w (k + 1) = X (b + k) := by
  show (if w < F (b + k) then _ else _) = _
  rw [if_neg h, if_neg h2]
/-- worker i's cut in week w, c notices -/
def cutM (a : Nat → Nat → Int32) (i : Nat) (w : Int32) (c : Nat) : Int32 := cutN (a 4) (a 5) (a 6) (30 * i) w c
/-- does course c fill -/
def fillC (a : Nat → Nat → Int32) (i : Nat) (w h : Int32) (c : Nat) : Int32 := if a 15 (8 * c + i) = 0 then 0 else if w < a 12 c then 0 else if a 13 c < w then 0 else if 2 * a 14 c < h then 0 else 1
def fillsN (a : Nat → Nat → Int32) (i : Nat) (w h : Int32) : Nat → Int32
  | 0 => 0
  | c + 1 => if fillsN a i w h c = 0 then fillC a i w h c else 1
/-- does course c meet course j -/
def meetC (a : Nat → Nat → Int32) (i j : Nat) (c : Nat) : Int32 := if a 15 (8 * c + i) = 0 then 0 else if a 13 j < a 12 c then 0 else if a 13 c < a 12 j then 0 else 1
def meetsN (a : Nat → Nat → Int32) (i j : Nat) : Nat → Int32
  | 0 => 0
  | c + 1 => if meetsN a i j c = 0 then meetC a i j c else 1
theorem fillsN_1 {a : Nat → Nat → Int32} {i c : Nat} {w h : Int32} (h0 : ¬ fillsN a i w h c = 0) : fillsN a i w h (c + 1) = 1 := by
  show (if fillsN a i w h c = 0 then _ else _) = _
  rw [if_neg h0]
theorem fillsN_0 {a : Nat → Nat → Int32} {i c : Nat} {w h : Int32} (h0 : fillsN a i w h c = 0) : fillsN a i w h (c + 1) = fillC a i w h c := by
  show (if fillsN a i w h c = 0 then _ else _) = _
  rw [if_pos h0]
theorem meetsN_1 {a : Nat → Nat → Int32} {i j c : Nat} (h0 : ¬ meetsN a i j c = 0) : meetsN a i j (c + 1) = 1 := by
  show (if meetsN a i j c = 0 then _ else _) = _
  rw [if_neg h0]
theorem meetsN_0 {a : Nat → Nat → Int32} {i j c : Nat} (h0 : meetsN a i j c = 0) : meetsN a i j (c + 1) = meetC a i j c := by
  show (if meetsN a i j c = 0 then _ else _) = _
  rw [if_pos h0]
theorem fillsN_01 {a : Nat → Nat → Int32} {i : Nat} {w h : Int32} : ∀ c : Nat, fillsN a i w h c = 0 ∨ fillsN a i w h c = 1
  | 0 => Or.inl rfl
  | c + 1 => by
    by_cases h0 : fillsN a i w h c = 0
    · rw [fillsN_0 h0]
      unfold fillC
      split
      · exact Or.inl rfl
      · split
        · exact Or.inl rfl
        · split
          · exact Or.inl rfl
          · split
            · exact Or.inl rfl
            · exact Or.inr rfl
    · rw [fillsN_1 h0]; exact Or.inr rfl
theorem meetsN_01 {a : Nat → Nat → Int32} {i j : Nat} : ∀ c : Nat, meetsN a i j c = 0 ∨ meetsN a i j c = 1
  | 0 => Or.inl rfl
  | c + 1 => by
    by_cases h0 : meetsN a i j c = 0
    · rw [meetsN_0 h0]
      unfold meetC
      split
      · exact Or.inl rfl
      · split
        · exact Or.inl rfl
        · split
          · exact Or.inl rfl
          · exact Or.inr rfl
    · rw [meetsN_1 h0]; exact Or.inr rfl
theorem nar01 {x : Int32} (h : x = 0 ∨ x = 1) : narrow .boolean (.int x) = .int x := by rcases h with h | h <;> subst h <;> rfl
/-- the reference's percentage: ch children, w cut weeks paid, b filled -/
def pctM (ch w b : Int32) : Int32 := stepP w + (if ch = 0 then 0 else 7) + (if b = 0 then (if w < 12 then 0 else -10) else 5)
/-- what the reference says is made up -/
def madeM (p h c fl : Int32) : Int32 := if firmP p h + (if p * fl / 100 ≤ firmP p h + (p - firmP p h) * c / 100 then (p - firmP p h) * c / 100 else p * fl / 100 - firmP p h) ≤ p then (if p * fl / 100 ≤ firmP p h + (p - firmP p h) * c / 100 then (p - firmP p h) * c / 100 else p * fl / 100 - firmP p h) else p - firmP p h
def hourM (a : Nat → Nat → Int32) (i t c : Nat) : Int32 := cutM a i (nI t) c
def pcM (a : Nat → Nat → Int32) (i t c nc : Nat) : Int32 := pctM (a 2 i) (a 7 i) (fillsN a i (nI t) (hourM a i t c) nc)
def payRM (a : Nat → Nat → Int32) (i t c nc : Nat) (fl : Int32) : Int32 := madeM (a 1 i) (hourM a i t c) (pcM a i t c nc) fl
/-- the rows behind pays(i) in week t -/
def payAM (a : Nat → Nat → Int32) (i t c nc : Nat) (fl : Int32) : Nat → Nat → Int32 :=
  va_up (va_up (va_up (va_up a 18 (upd (a 18) (201 * i + t) (firmP (a 1 i) (hourM a i t c)))) 19 (upd (a 19) (201 * i + t) (payRM a i t c nc fl))) 20 (upd (a 20) (201 * i + t) (hourM a i t c))) 7 (upd (a 7) i (a 7 i + (if hourM a i t c ≤ 0 then 0 else 1)))
/-- -owed + paid + made over k weeks -/
def netN (a : Nat → Nat → Int32) (i : Nat) : Nat → Int32
  | 0 => -(a 8 i)
  | k + 1 => netN a i k + (a 18 (201 * i + k) + a 19 (201 * i + k))
end
section
theorem ne8 {n : Nat} (h : n < 8) : ¬ nI n = 8 := fun e => by
  have h1 := (nI_eq (a := n) (b := 8) (by omega) (by decide)).mp e
  omega
theorem hdX3_asks : yX3_asks.cls = RX3 ∧ yX3_asks.cls ≠ "java/lang/invoke/MethodHandle" ∧ yX3_asks.cls ≠ "java/lang/invoke/VarHandle" ∧ (parseMethodDescriptor yX3_asks.desc).map (fun d => d.parameters.length) = some 1 := by decide +kernel
theorem hdX3_cutOf : yX3_cutOf.cls = RX3 ∧ yX3_cutOf.cls ≠ "java/lang/invoke/MethodHandle" ∧ yX3_cutOf.cls ≠ "java/lang/invoke/VarHandle" ∧ (parseMethodDescriptor yX3_cutOf.desc).map (fun d => d.parameters.length) = some 2 := by decide +kernel
theorem hdX3_fails : yX3_fails.cls = RX3 ∧ yX3_fails.cls ≠ "java/lang/invoke/MethodHandle" ∧ yX3_fails.cls ≠ "java/lang/invoke/VarHandle" ∧ (parseMethodDescriptor yX3_fails.desc).map (fun d => d.parameters.length) = some 1 := by decide +kernel
theorem hdX3_fills : yX3_fills.cls = RX3 ∧ yX3_fills.cls ≠ "java/lang/invoke/MethodHandle" ∧ yX3_fills.cls ≠ "java/lang/invoke/VarHandle" ∧ (parseMethodDescriptor yX3_fills.desc).map (fun d => d.parameters.length) = some 2 := by decide +kernel
theorem hdX3_in : yX3_in.cls = RX3 ∧ yX3_in.cls ≠ "java/lang/invoke/MethodHandle" ∧ yX3_in.cls ≠ "java/lang/invoke/VarHandle" ∧ (parseMethodDescriptor yX3_in.desc).map (fun d => d.parameters.length) = some 3 := by decide +kernel
theorem hdX3_isPast : yX3_isPast.cls = RX3 ∧ yX3_isPast.cls ≠ "java/lang/invoke/MethodHandle" ∧ yX3_isPast.cls ≠ "java/lang/invoke/VarHandle" ∧ (parseMethodDescriptor yX3_isPast.desc).map (fun d => d.parameters.length) = some 1 := by decide +kernel
theorem hdX3_isWorker : yX3_isWorker.cls = RX3 ∧ yX3_isWorker.cls ≠ "java/lang/invoke/MethodHandle" ∧ yX3_isWorker.cls ≠ "java/lang/invoke/VarHandle" ∧ (parseMethodDescriptor yX3_isWorker.desc).map (fun d => d.parameters.length) = some 1 := by decide +kernel
theorem in_X3_add_X3 : ∀ w ∈ wsX30, w ∈ wsX3_add := by decide +kernel
theorem in_X3_asks_X3 : ∀ w ∈ wsX30, w ∈ wsX3_asks := by decide +kernel
theorem in_X3_cutOf_X3 : ∀ w ∈ wsX30, w ∈ wsX3_cutOf := by decide +kernel
theorem in_X3_cutWeeks_X3 : ∀ w ∈ wsX30, w ∈ wsX3_cutWeeks := by decide +kernel
theorem in_X3_door_X3 : ∀ w ∈ wsX30, w ∈ wsX3_door := by decide +kernel
theorem in_X3_fails_X3 : ∀ w ∈ wsX30, w ∈ wsX3_fails := by decide +kernel
theorem in_X3_fills_X3 : ∀ w ∈ wsX30, w ∈ wsX3_fills := by decide +kernel
theorem in_X3_firmOwes_X3 : ∀ w ∈ wsX30, w ∈ wsX3_firmOwes := by decide +kernel
theorem in_X3_isCourse_X3 : ∀ w ∈ wsX30, w ∈ wsX3_isCourse := by decide +kernel
theorem in_X3_isPast_X3 : ∀ w ∈ wsX30, w ∈ wsX3_isPast := by decide +kernel
theorem in_X3_isWorker_X3 : ∀ w ∈ wsX30, w ∈ wsX3_isWorker := by decide +kernel
theorem in_X3_madeUp_X3 : ∀ w ∈ wsX30, w ∈ wsX3_madeUp := by decide +kernel
theorem in_X3_mail_X3 : ∀ w ∈ wsX30, w ∈ wsX3_mail := by decide +kernel
theorem in_X3_meets_X3 : ∀ w ∈ wsX30, w ∈ wsX3_meets := by decide +kernel
theorem in_X3_owes_X3 : ∀ w ∈ wsX30, w ∈ wsX3_owes := by decide +kernel
theorem in_X3_paid_X3 : ∀ w ∈ wsX30, w ∈ wsX3_paid := by decide +kernel
theorem in_X3_percent_X3 : ∀ w ∈ wsX30, w ∈ wsX3_percent := by decide +kernel
theorem in_X3_setFloor_X3 : ∀ w ∈ wsX30, w ∈ wsX3_setFloor := by decide +kernel
theorem in_X3_thrown_X3 : ∀ w ∈ wsX30, w ∈ wsX3_thrown := by decide +kernel
theorem in_X3_week_X3 : ∀ w ∈ wsX30, w ∈ wsX3_week := by decide +kernel
theorem in_X3_workers_X3 : ∀ w ∈ wsX30, w ∈ wsX3_workers := by decide +kernel
end
section
set_option maxHeartbeats 4000000 in
set_option maxRecDepth 100000 in
theorem c_X3_thrown (l : Launch) (G : Gx) (q : Nat → Nat) (f : Nat → Int32) (a : Nat → Nat → Int32) : MI l yX3_thrown wsX3_thrown ({ frames := 0, cells := 0, slots := 0, locals := 0 } : Room) [.ref (q 0)] G (mW G q f a) (fun u => mW G q f a) (f 24) := by
  refine ofMI (cc := cX3_thrown) (maxL := 1) (ret := (some .int)) (by decide) rfl (Nat.le_of_ble_eq_true rfl) (fun p e s m below meth c A ls F hr hnm hH hl => ?_)
  have F : Fx G p s m _ meth c cX3_thrown 1 wsX3_thrown RX3 A := F
  have hx := F.1.1
  have hb := F.1.2.1
  have hl : lv_has ls 1 [(0, .ref (q 0))] := hl
  refine lv_aload_n hx hb dX3_thrown_0 rfl (lv_at hl 0 rfl) ?_
  refine rget (C := RX3) (T := TX3) (N := 25) (ref := RX3) F in_X3_thrown_X3 hH 0 rfl rfl 24 (by decide) (by decide +kernel) (fun _ h9 => h9) (v := .int (f 24)) rfl dX3_thrown_1 ?_
  exact retI F hr rfl (fun _ => 0) hH rfl (Nat.le_of_ble_eq_true rfl) (Nat.le_of_ble_eq_true rfl) dX3_thrown_4

set_option maxHeartbeats 4000000 in
set_option maxRecDepth 100000 in
theorem c_X3_fails (l : Launch) (G : Gx) (q : Nat → Nat) (f : Nat → Int32) (a : Nat → Nat → Int32) (v : Int32) : MI l yX3_fails wsX3_fails ({ frames := 0, cells := 0, slots := 0, locals := 0 } : Room) [.ref (q 0), .int v] G (mW G q f a) (fun u => mW G q (va_up f 24 v) a) 0 := by
  refine ofMI (cc := cX3_fails) (maxL := 2) (ret := (some .int)) (by decide) rfl (Nat.le_of_ble_eq_true rfl) (fun p e s m below meth c A ls F hr hnm hH hl => ?_)
  have F : Fx G p s m _ meth c cX3_fails 2 wsX3_fails RX3 A := F
  have hx := F.1.1
  have hb := F.1.2.1
  have hl : lv_has ls 2 [(0, .ref (q 0)), (1, .int v)] := hl
  refine lv_aload_n hx hb dX3_fails_0 rfl (lv_at hl 0 rfl) ?_
  refine lv_iload_n hx hb dX3_fails_1 rfl (lv_at hl 1 rfl) ?_
  refine rput (C := RX3) (T := TX3) (N := 25) (ref := RX3) F in_X3_fails_X3 tyX3 tyX3_ok nmX3 hH 0 rfl rfl 24 (by decide) (by decide +kernel) (fun _ h9 => h9) rfl (v := .int v) rfl rfl (Nat.le_of_ble_eq_true rfl) dX3_fails_2 (fun H locs hH => ?_)
  have hH : HH G A s (mW G q (va_up f 24 v) a) H locs := hH
  refine lv_iconst (v := 0) hx hb dX3_fails_5 (by decide) ?_
  exact retI F hr rfl (fun _ => 0) hH rfl (Nat.le_of_ble_eq_true rfl) (Nat.le_of_ble_eq_true rfl) dX3_fails_6

set_option maxHeartbeats 4000000 in
set_option maxRecDepth 100000 in
theorem c_X3_asks_1 (l : Launch) (G : Gx) (q : Nat → Nat) (f : Nat → Int32) (a : Nat → Nat → Int32) : MI l yX3_asks wsX3_asks ({ frames := 0, cells := 0, slots := 0, locals := 0 } : Room) [.ref (q 0), .int 1] G (mW G q f a) (fun u => mW G q (va_up f 24 0) a) 1 := by
  refine ofMI (cc := cX3_asks) (maxL := 2) (ret := (some .boolean)) (by decide) rfl (Nat.le_of_ble_eq_true rfl) (fun p e s m below meth c A ls F hr hnm hH hl => ?_)
  have F : Fx G p s m _ meth c cX3_asks 2 wsX3_asks RX3 A := F
  have hx := F.1.1
  have hb := F.1.2.1
  have hl : lv_has ls 2 [(0, .ref (q 0)), (1, .int 1)] := hl
  refine lv_aload_n hx hb dX3_asks_0 rfl (lv_at hl 0 rfl) ?_
  refine lv_iload_n hx hb dX3_asks_1 rfl (lv_at hl 1 rfl) ?_
  refine lv_if_eq (tgt := 9) hx hb dX3_asks_2 (by decide) (fun c_2 => absurd c_2 (by decide)) (fun c_2 => ?_)
  refine lv_iconst (v := 0) hx hb dX3_asks_5 (by decide) ?_
  refine lv_goto (tgt := 10) hx hb dX3_asks_6 (by decide) ?_
  refine rput (C := RX3) (T := TX3) (N := 25) (ref := RX3) F in_X3_asks_X3 tyX3 tyX3_ok nmX3 hH 0 rfl rfl 24 (by decide) (by decide +kernel) (fun _ h9 => h9) rfl (v := .int 0) rfl rfl (Nat.le_of_ble_eq_true rfl) dX3_asks_10 (fun H locs hH => ?_)
  have hH : HH G A s (mW G q (va_up f 24 0) a) H locs := hH
  refine lv_iload_n hx hb dX3_asks_13 rfl (lv_at hl 1 rfl) ?_
  exact retI F hr rfl (fun _ => 0) hH rfl (Nat.le_of_ble_eq_true rfl) (Nat.le_of_ble_eq_true rfl) dX3_asks_14

set_option maxHeartbeats 4000000 in
set_option maxRecDepth 100000 in
theorem c_X3_asks_0 (l : Launch) (G : Gx) (q : Nat → Nat) (f : Nat → Int32) (a : Nat → Nat → Int32) : MI l yX3_asks wsX3_asks ({ frames := 0, cells := 0, slots := 0, locals := 0 } : Room) [.ref (q 0), .int 0] G (mW G q f a) (fun u => mW G q (va_up f 24 1) a) 0 := by
  refine ofMI (cc := cX3_asks) (maxL := 2) (ret := (some .boolean)) (by decide) rfl (Nat.le_of_ble_eq_true rfl) (fun p e s m below meth c A ls F hr hnm hH hl => ?_)
  have F : Fx G p s m _ meth c cX3_asks 2 wsX3_asks RX3 A := F
  have hx := F.1.1
  have hb := F.1.2.1
  have hl : lv_has ls 2 [(0, .ref (q 0)), (1, .int 0)] := hl
  refine lv_aload_n hx hb dX3_asks_0 rfl (lv_at hl 0 rfl) ?_
  refine lv_iload_n hx hb dX3_asks_1 rfl (lv_at hl 1 rfl) ?_
  refine lv_if_eq (tgt := 9) hx hb dX3_asks_2 (by decide) (fun c_2 => ?_) (fun c_2 => absurd rfl c_2)
  refine lv_iconst (v := 1) hx hb dX3_asks_9 (by decide) ?_
  refine rput (C := RX3) (T := TX3) (N := 25) (ref := RX3) F in_X3_asks_X3 tyX3 tyX3_ok nmX3 hH 0 rfl rfl 24 (by decide) (by decide +kernel) (fun _ h9 => h9) rfl (v := .int 1) rfl rfl (Nat.le_of_ble_eq_true rfl) dX3_asks_10 (fun H locs hH => ?_)
  have hH : HH G A s (mW G q (va_up f 24 1) a) H locs := hH
  refine lv_iload_n hx hb dX3_asks_13 rfl (lv_at hl 1 rfl) ?_
  exact retI F hr rfl (fun _ => 0) hH rfl (Nat.le_of_ble_eq_true rfl) (Nat.le_of_ble_eq_true rfl) dX3_asks_14

set_option maxHeartbeats 4000000 in
set_option maxRecDepth 100000 in
theorem c_X3_in_1 (l : Launch) (G : Gx) (ws : va_W) (v lo hi : Int32) (h1 : lo ≤ v) (h2 : v ≤ hi) : MI l yX3_in wsX3_in ({ frames := 0, cells := 0, slots := 0, locals := 0 } : Room) [.int v, .int lo, .int hi] G (ws) (fun u => ws) 1 := by
  refine ofMI (cc := cX3_in) (maxL := 3) (ret := (some .boolean)) (by decide) rfl (Nat.le_of_ble_eq_true rfl) (fun p e s m below meth c A ls F hr hnm hH hl => ?_)
  have F : Fx G p s m _ meth c cX3_in 3 wsX3_in RX3 A := F
  have hx := F.1.1
  have hb := F.1.2.1
  have hl : lv_has ls 3 [(0, .int v), (1, .int lo), (2, .int hi)] := hl
  refine lv_iload_n hx hb dX3_in_0 rfl (lv_at hl 0 rfl) ?_
  refine lv_iload_n hx hb dX3_in_1 rfl (lv_at hl 1 rfl) ?_
  refine lv_icmp_lt (tgt := 14) hx hb dX3_in_2 (by decide) (fun c_2 => absurd c_2 (i_nlt h1)) (fun c_2 => ?_)
  refine lv_iload_n hx hb dX3_in_5 rfl (lv_at hl 0 rfl) ?_
  refine lv_iload_n hx hb dX3_in_6 rfl (lv_at hl 2 rfl) ?_
  refine lv_icmp_gt (tgt := 14) hx hb dX3_in_7 (by decide) (fun c_7 => absurd c_7 (i_nlt h2)) (fun c_7 => ?_)
  refine lv_iconst (v := 1) hx hb dX3_in_10 (by decide) ?_
  refine lv_goto (tgt := 15) hx hb dX3_in_11 (by decide) ?_
  exact retI F hr rfl (fun _ => 0) hH rfl (Nat.le_of_ble_eq_true rfl) (Nat.le_of_ble_eq_true rfl) dX3_in_15

set_option maxHeartbeats 4000000 in
set_option maxRecDepth 100000 in
theorem c_X3_in_0 (l : Launch) (G : Gx) (ws : va_W) (v lo hi : Int32) (h : v < lo ∨ hi < v) : MI l yX3_in wsX3_in ({ frames := 0, cells := 0, slots := 0, locals := 0 } : Room) [.int v, .int lo, .int hi] G (ws) (fun u => ws) 0 := by
  refine ofMI (cc := cX3_in) (maxL := 3) (ret := (some .boolean)) (by decide) rfl (Nat.le_of_ble_eq_true rfl) (fun p e s m below meth c A ls F hr hnm hH hl => ?_)
  have F : Fx G p s m _ meth c cX3_in 3 wsX3_in RX3 A := F
  have hx := F.1.1
  have hb := F.1.2.1
  have hl : lv_has ls 3 [(0, .int v), (1, .int lo), (2, .int hi)] := hl
  refine lv_iload_n hx hb dX3_in_0 rfl (lv_at hl 0 rfl) ?_
  refine lv_iload_n hx hb dX3_in_1 rfl (lv_at hl 1 rfl) ?_
  refine lv_icmp_lt (tgt := 14) hx hb dX3_in_2 (by decide) (fun c_2 => ?_) (fun c_2 => ?_)
  · refine lv_iconst (v := 0) hx hb dX3_in_14 (by decide) ?_
    exact retI F hr rfl (fun _ => 0) hH rfl (Nat.le_of_ble_eq_true rfl) (Nat.le_of_ble_eq_true rfl) dX3_in_15
  · refine lv_iload_n hx hb dX3_in_5 rfl (lv_at hl 0 rfl) ?_
    refine lv_iload_n hx hb dX3_in_6 rfl (lv_at hl 2 rfl) ?_
    refine lv_icmp_gt (tgt := 14) hx hb dX3_in_7 (by decide) (fun c_7 => ?_) (fun c_7 => absurd (h.resolve_left c_2) c_7)
    refine lv_iconst (v := 0) hx hb dX3_in_14 (by decide) ?_
    exact retI F hr rfl (fun _ => 0) hH rfl (Nat.le_of_ble_eq_true rfl) (Nat.le_of_ble_eq_true rfl) dX3_in_15

set_option maxHeartbeats 4000000 in
set_option maxRecDepth 100000 in
theorem c_X3_isWorker_1 (l : Launch) (G : Gx) (q : Nat → Nat) (f : Nat → Int32) (a : Nat → Nat → Int32) (n : Nat) (e0 : f 0 = nI n) (hn : n ≤ 8) (i : Nat) (hi : i < n) : MI l yX3_isWorker wsX3_isWorker ({ frames := 0, cells := 0, slots := 0, locals := 0 } : Room) [.ref (q 0), .int (nI i)] G (mW G q f a) (fun u => mW G q f a) 1 := by
  refine ofMI (cc := cX3_isWorker) (maxL := 2) (ret := (some .boolean)) (by decide) rfl (Nat.le_of_ble_eq_true rfl) (fun p e s m below meth c A ls F hr hnm hH hl => ?_)
  have F : Fx G p s m _ meth c cX3_isWorker 2 wsX3_isWorker RX3 A := F
  have hx := F.1.1
  have hb := F.1.2.1
  have hl : lv_has ls 2 [(0, .ref (q 0)), (1, .int (nI i))] := hl
  refine lv_iload_n hx hb dX3_isWorker_0 rfl (lv_at hl 1 rfl) ?_
  refine lv_if_lt (tgt := 16) hx hb dX3_isWorker_1 (by decide) (fun c_1 => absurd c_1 (nI_pos (by omega))) (fun c_1 => ?_)
  refine lv_iload_n hx hb dX3_isWorker_4 rfl (lv_at hl 1 rfl) ?_
  refine lv_aload_n hx hb dX3_isWorker_5 rfl (lv_at hl 0 rfl) ?_
  refine rget (C := RX3) (T := TX3) (N := 25) (ref := RX3) F in_X3_isWorker_X3 hH 0 rfl rfl 0 (by decide) (by decide +kernel) (fun _ h9 => h9) (v := .int (f 0)) rfl dX3_isWorker_6 ?_
  refine lv_icmp_ge (tgt := 16) hx hb dX3_isWorker_9 (by decide) (fun c_9 => absurd c_9 (by rw [e0]; exact nI_ge hi (by omega))) (fun c_9 => ?_)
  refine lv_iconst (v := 1) hx hb dX3_isWorker_12 (by decide) ?_
  refine lv_goto (tgt := 17) hx hb dX3_isWorker_13 (by decide) ?_
  exact retI F hr rfl (fun _ => 0) hH rfl (Nat.le_of_ble_eq_true rfl) (Nat.le_of_ble_eq_true rfl) dX3_isWorker_17

set_option maxHeartbeats 4000000 in
set_option maxRecDepth 100000 in
theorem c_X3_isWorker_0 (l : Launch) (G : Gx) (q : Nat → Nat) (f : Nat → Int32) (a : Nat → Nat → Int32) (n : Nat) (e0 : f 0 = nI n) (hn : n ≤ 8) (v : Int32) (h : v < 0 ∨ nI n ≤ v) : MI l yX3_isWorker wsX3_isWorker ({ frames := 0, cells := 0, slots := 0, locals := 0 } : Room) [.ref (q 0), .int v] G (mW G q f a) (fun u => mW G q f a) 0 := by
  refine ofMI (cc := cX3_isWorker) (maxL := 2) (ret := (some .boolean)) (by decide) rfl (Nat.le_of_ble_eq_true rfl) (fun p e s m below meth c A ls F hr hnm hH hl => ?_)
  have F : Fx G p s m _ meth c cX3_isWorker 2 wsX3_isWorker RX3 A := F
  have hx := F.1.1
  have hb := F.1.2.1
  have hl : lv_has ls 2 [(0, .ref (q 0)), (1, .int v)] := hl
  refine lv_iload_n hx hb dX3_isWorker_0 rfl (lv_at hl 1 rfl) ?_
  refine lv_if_lt (tgt := 16) hx hb dX3_isWorker_1 (by decide) (fun c_1 => ?_) (fun c_1 => ?_)
  · refine lv_iconst (v := 0) hx hb dX3_isWorker_16 (by decide) ?_
    exact retI F hr rfl (fun _ => 0) hH rfl (Nat.le_of_ble_eq_true rfl) (Nat.le_of_ble_eq_true rfl) dX3_isWorker_17
  · refine lv_iload_n hx hb dX3_isWorker_4 rfl (lv_at hl 1 rfl) ?_
    refine lv_aload_n hx hb dX3_isWorker_5 rfl (lv_at hl 0 rfl) ?_
    refine rget (C := RX3) (T := TX3) (N := 25) (ref := RX3) F in_X3_isWorker_X3 hH 0 rfl rfl 0 (by decide) (by decide +kernel) (fun _ h9 => h9) (v := .int (f 0)) rfl dX3_isWorker_6 ?_
    refine lv_icmp_ge (tgt := 16) hx hb dX3_isWorker_9 (by decide) (fun c_9 => ?_) (fun c_9 => absurd (by rw [e0]; exact h.resolve_left c_1) c_9)
    refine lv_iconst (v := 0) hx hb dX3_isWorker_16 (by decide) ?_
    exact retI F hr rfl (fun _ => 0) hH rfl (Nat.le_of_ble_eq_true rfl) (Nat.le_of_ble_eq_true rfl) dX3_isWorker_17

set_option maxHeartbeats 4000000 in
set_option maxRecDepth 100000 in
theorem c_X3_isCourse_1 (l : Launch) (G : Gx) (q : Nat → Nat) (f : Nat → Int32) (a : Nat → Nat → Int32) (n : Nat) (e0 : f 10 = nI n) (hn : n ≤ 10) (i : Nat) (hi : i < n) : MI l yX3_isCourse wsX3_isCourse ({ frames := 0, cells := 0, slots := 0, locals := 0 } : Room) [.ref (q 0), .int (nI i)] G (mW G q f a) (fun u => mW G q f a) 1 := by
  refine ofMI (cc := cX3_isCourse) (maxL := 2) (ret := (some .boolean)) (by decide) rfl (Nat.le_of_ble_eq_true rfl) (fun p e s m below meth c A ls F hr hnm hH hl => ?_)
  have F : Fx G p s m _ meth c cX3_isCourse 2 wsX3_isCourse RX3 A := F
  have hx := F.1.1
  have hb := F.1.2.1
  have hl : lv_has ls 2 [(0, .ref (q 0)), (1, .int (nI i))] := hl
  refine lv_iload_n hx hb dX3_isCourse_0 rfl (lv_at hl 1 rfl) ?_
  refine lv_if_lt (tgt := 16) hx hb dX3_isCourse_1 (by decide) (fun c_1 => absurd c_1 (nI_pos (by omega))) (fun c_1 => ?_)
  refine lv_iload_n hx hb dX3_isCourse_4 rfl (lv_at hl 1 rfl) ?_
  refine lv_aload_n hx hb dX3_isCourse_5 rfl (lv_at hl 0 rfl) ?_
  refine rget (C := RX3) (T := TX3) (N := 25) (ref := RX3) F in_X3_isCourse_X3 hH 0 rfl rfl 10 (by decide) (by decide +kernel) (fun _ h9 => h9) (v := .int (f 10)) rfl dX3_isCourse_6 ?_
  refine lv_icmp_ge (tgt := 16) hx hb dX3_isCourse_9 (by decide) (fun c_9 => absurd c_9 (by rw [e0]; exact nI_ge hi (by omega))) (fun c_9 => ?_)
  refine lv_iconst (v := 1) hx hb dX3_isCourse_12 (by decide) ?_
  refine lv_goto (tgt := 17) hx hb dX3_isCourse_13 (by decide) ?_
  exact retI F hr rfl (fun _ => 0) hH rfl (Nat.le_of_ble_eq_true rfl) (Nat.le_of_ble_eq_true rfl) dX3_isCourse_17

set_option maxHeartbeats 4000000 in
set_option maxRecDepth 100000 in
theorem c_X3_isCourse_0 (l : Launch) (G : Gx) (q : Nat → Nat) (f : Nat → Int32) (a : Nat → Nat → Int32) (n : Nat) (e0 : f 10 = nI n) (hn : n ≤ 10) (v : Int32) (h : v < 0 ∨ nI n ≤ v) : MI l yX3_isCourse wsX3_isCourse ({ frames := 0, cells := 0, slots := 0, locals := 0 } : Room) [.ref (q 0), .int v] G (mW G q f a) (fun u => mW G q f a) 0 := by
  refine ofMI (cc := cX3_isCourse) (maxL := 2) (ret := (some .boolean)) (by decide) rfl (Nat.le_of_ble_eq_true rfl) (fun p e s m below meth c A ls F hr hnm hH hl => ?_)
  have F : Fx G p s m _ meth c cX3_isCourse 2 wsX3_isCourse RX3 A := F
  have hx := F.1.1
  have hb := F.1.2.1
  have hl : lv_has ls 2 [(0, .ref (q 0)), (1, .int v)] := hl
  refine lv_iload_n hx hb dX3_isCourse_0 rfl (lv_at hl 1 rfl) ?_
  refine lv_if_lt (tgt := 16) hx hb dX3_isCourse_1 (by decide) (fun c_1 => ?_) (fun c_1 => ?_)
  · refine lv_iconst (v := 0) hx hb dX3_isCourse_16 (by decide) ?_
    exact retI F hr rfl (fun _ => 0) hH rfl (Nat.le_of_ble_eq_true rfl) (Nat.le_of_ble_eq_true rfl) dX3_isCourse_17
  · refine lv_iload_n hx hb dX3_isCourse_4 rfl (lv_at hl 1 rfl) ?_
    refine lv_aload_n hx hb dX3_isCourse_5 rfl (lv_at hl 0 rfl) ?_
    refine rget (C := RX3) (T := TX3) (N := 25) (ref := RX3) F in_X3_isCourse_X3 hH 0 rfl rfl 10 (by decide) (by decide +kernel) (fun _ h9 => h9) (v := .int (f 10)) rfl dX3_isCourse_6 ?_
    refine lv_icmp_ge (tgt := 16) hx hb dX3_isCourse_9 (by decide) (fun c_9 => ?_) (fun c_9 => absurd (by rw [e0]; exact h.resolve_left c_1) c_9)
    refine lv_iconst (v := 0) hx hb dX3_isCourse_16 (by decide) ?_
    exact retI F hr rfl (fun _ => 0) hH rfl (Nat.le_of_ble_eq_true rfl) (Nat.le_of_ble_eq_true rfl) dX3_isCourse_17

set_option maxHeartbeats 4000000 in
set_option maxRecDepth 100000 in
theorem c_X3_isPast_1 (l : Launch) (G : Gx) (q : Nat → Nat) (f : Nat → Int32) (a : Nat → Nat → Int32) (n : Nat) (e0 : f 16 = nI n) (hn : n ≤ 201) (i : Nat) (hi : i < n) : MI l yX3_isPast wsX3_isPast ({ frames := 0, cells := 0, slots := 0, locals := 0 } : Room) [.ref (q 0), .int (nI i)] G (mW G q f a) (fun u => mW G q f a) 1 := by
  refine ofMI (cc := cX3_isPast) (maxL := 2) (ret := (some .boolean)) (by decide) rfl (Nat.le_of_ble_eq_true rfl) (fun p e s m below meth c A ls F hr hnm hH hl => ?_)
  have F : Fx G p s m _ meth c cX3_isPast 2 wsX3_isPast RX3 A := F
  have hx := F.1.1
  have hb := F.1.2.1
  have hl : lv_has ls 2 [(0, .ref (q 0)), (1, .int (nI i))] := hl
  refine lv_iload_n hx hb dX3_isPast_0 rfl (lv_at hl 1 rfl) ?_
  refine lv_if_lt (tgt := 16) hx hb dX3_isPast_1 (by decide) (fun c_1 => absurd c_1 (nI_pos (by omega))) (fun c_1 => ?_)
  refine lv_iload_n hx hb dX3_isPast_4 rfl (lv_at hl 1 rfl) ?_
  refine lv_aload_n hx hb dX3_isPast_5 rfl (lv_at hl 0 rfl) ?_
  refine rget (C := RX3) (T := TX3) (N := 25) (ref := RX3) F in_X3_isPast_X3 hH 0 rfl rfl 16 (by decide) (by decide +kernel) (fun _ h9 => h9) (v := .int (f 16)) rfl dX3_isPast_6 ?_
  refine lv_icmp_ge (tgt := 16) hx hb dX3_isPast_9 (by decide) (fun c_9 => absurd c_9 (by rw [e0]; exact nI_ge hi (by omega))) (fun c_9 => ?_)
  refine lv_iconst (v := 1) hx hb dX3_isPast_12 (by decide) ?_
  refine lv_goto (tgt := 17) hx hb dX3_isPast_13 (by decide) ?_
  exact retI F hr rfl (fun _ => 0) hH rfl (Nat.le_of_ble_eq_true rfl) (Nat.le_of_ble_eq_true rfl) dX3_isPast_17

set_option maxHeartbeats 4000000 in
set_option maxRecDepth 100000 in
theorem c_X3_isPast_0 (l : Launch) (G : Gx) (q : Nat → Nat) (f : Nat → Int32) (a : Nat → Nat → Int32) (n : Nat) (e0 : f 16 = nI n) (hn : n ≤ 201) (v : Int32) (h : v < 0 ∨ nI n ≤ v) : MI l yX3_isPast wsX3_isPast ({ frames := 0, cells := 0, slots := 0, locals := 0 } : Room) [.ref (q 0), .int v] G (mW G q f a) (fun u => mW G q f a) 0 := by
  refine ofMI (cc := cX3_isPast) (maxL := 2) (ret := (some .boolean)) (by decide) rfl (Nat.le_of_ble_eq_true rfl) (fun p e s m below meth c A ls F hr hnm hH hl => ?_)
  have F : Fx G p s m _ meth c cX3_isPast 2 wsX3_isPast RX3 A := F
  have hx := F.1.1
  have hb := F.1.2.1
  have hl : lv_has ls 2 [(0, .ref (q 0)), (1, .int v)] := hl
  refine lv_iload_n hx hb dX3_isPast_0 rfl (lv_at hl 1 rfl) ?_
  refine lv_if_lt (tgt := 16) hx hb dX3_isPast_1 (by decide) (fun c_1 => ?_) (fun c_1 => ?_)
  · refine lv_iconst (v := 0) hx hb dX3_isPast_16 (by decide) ?_
    exact retI F hr rfl (fun _ => 0) hH rfl (Nat.le_of_ble_eq_true rfl) (Nat.le_of_ble_eq_true rfl) dX3_isPast_17
  · refine lv_iload_n hx hb dX3_isPast_4 rfl (lv_at hl 1 rfl) ?_
    refine lv_aload_n hx hb dX3_isPast_5 rfl (lv_at hl 0 rfl) ?_
    refine rget (C := RX3) (T := TX3) (N := 25) (ref := RX3) F in_X3_isPast_X3 hH 0 rfl rfl 16 (by decide) (by decide +kernel) (fun _ h9 => h9) (v := .int (f 16)) rfl dX3_isPast_6 ?_
    refine lv_icmp_ge (tgt := 16) hx hb dX3_isPast_9 (by decide) (fun c_9 => ?_) (fun c_9 => absurd (by rw [e0]; exact h.resolve_left c_1) c_9)
    refine lv_iconst (v := 0) hx hb dX3_isPast_16 (by decide) ?_
    exact retI F hr rfl (fun _ => 0) hH rfl (Nat.le_of_ble_eq_true rfl) (Nat.le_of_ble_eq_true rfl) dX3_isPast_17

set_option maxHeartbeats 4000000 in
set_option maxRecDepth 100000 in
theorem c_X3_workers (l : Launch) (G : Gx) (q : Nat → Nat) (f : Nat → Int32) (a : Nat → Nat → Int32) : MI l yX3_workers wsX3_workers ({ frames := 0, cells := 0, slots := 0, locals := 0 } : Room) [.ref (q 0)] G (mW G q f a) (fun u => mW G q (va_up f 24 0) a) (f 0) := by
  refine ofMI (cc := cX3_workers) (maxL := 1) (ret := (some .int)) (by decide) rfl (Nat.le_of_ble_eq_true rfl) (fun p e s m below meth c A ls F hr hnm hH hl => ?_)
  have F : Fx G p s m _ meth c cX3_workers 1 wsX3_workers RX3 A := F
  have hx := F.1.1
  have hb := F.1.2.1
  have hl : lv_has ls 1 [(0, .ref (q 0))] := hl
  refine lv_aload_n hx hb dX3_workers_0 rfl (lv_at hl 0 rfl) ?_
  refine lv_iconst (v := 0) hx hb dX3_workers_1 (by decide) ?_
  refine rput (C := RX3) (T := TX3) (N := 25) (ref := RX3) F in_X3_workers_X3 tyX3 tyX3_ok nmX3 hH 0 rfl rfl 24 (by decide) (by decide +kernel) (fun _ h9 => h9) rfl (v := .int 0) rfl rfl (Nat.le_of_ble_eq_true rfl) dX3_workers_2 (fun H locs hH => ?_)
  have hH : HH G A s (mW G q (va_up f 24 0) a) H locs := hH
  refine lv_aload_n hx hb dX3_workers_5 rfl (lv_at hl 0 rfl) ?_
  refine rget (C := RX3) (T := TX3) (N := 25) (ref := RX3) F in_X3_workers_X3 hH 0 rfl rfl 0 (by decide) (by decide +kernel) (fun _ h9 => h9) (v := .int (f 0)) rfl dX3_workers_6 ?_
  exact retI F hr rfl (fun _ => 0) hH rfl (Nat.le_of_ble_eq_true rfl) (Nat.le_of_ble_eq_true rfl) dX3_workers_9

set_option maxHeartbeats 4000000 in
set_option maxRecDepth 100000 in
theorem c_X3_week (l : Launch) (G : Gx) (q : Nat → Nat) (f : Nat → Int32) (a : Nat → Nat → Int32) : MI l yX3_week wsX3_week ({ frames := 0, cells := 0, slots := 0, locals := 0 } : Room) [.ref (q 0)] G (mW G q f a) (fun u => mW G q (va_up f 24 0) a) (f 16) := by
  refine ofMI (cc := cX3_week) (maxL := 1) (ret := (some .int)) (by decide) rfl (Nat.le_of_ble_eq_true rfl) (fun p e s m below meth c A ls F hr hnm hH hl => ?_)
  have F : Fx G p s m _ meth c cX3_week 1 wsX3_week RX3 A := F
  have hx := F.1.1
  have hb := F.1.2.1
  have hl : lv_has ls 1 [(0, .ref (q 0))] := hl
  refine lv_aload_n hx hb dX3_week_0 rfl (lv_at hl 0 rfl) ?_
  refine lv_iconst (v := 0) hx hb dX3_week_1 (by decide) ?_
  refine rput (C := RX3) (T := TX3) (N := 25) (ref := RX3) F in_X3_week_X3 tyX3 tyX3_ok nmX3 hH 0 rfl rfl 24 (by decide) (by decide +kernel) (fun _ h9 => h9) rfl (v := .int 0) rfl rfl (Nat.le_of_ble_eq_true rfl) dX3_week_2 (fun H locs hH => ?_)
  have hH : HH G A s (mW G q (va_up f 24 0) a) H locs := hH
  refine lv_aload_n hx hb dX3_week_5 rfl (lv_at hl 0 rfl) ?_
  refine rget (C := RX3) (T := TX3) (N := 25) (ref := RX3) F in_X3_week_X3 hH 0 rfl rfl 16 (by decide) (by decide +kernel) (fun _ h9 => h9) (v := .int (f 16)) rfl dX3_week_6 ?_
  exact retI F hr rfl (fun _ => 0) hH rfl (Nat.le_of_ble_eq_true rfl) (Nat.le_of_ble_eq_true rfl) dX3_week_9

set_option maxHeartbeats 4000000 in
set_option maxRecDepth 100000 in
theorem c_X3_firmOwes (l : Launch) (G : Gx) (q : Nat → Nat) (f : Nat → Int32) (a : Nat → Nat → Int32) : MI l yX3_firmOwes wsX3_firmOwes ({ frames := 0, cells := 0, slots := 0, locals := 0 } : Room) [.ref (q 0)] G (mW G q f a) (fun u => mW G q (va_up f 24 0) a) (f 9) := by
  refine ofMI (cc := cX3_firmOwes) (maxL := 1) (ret := (some .int)) (by decide) rfl (Nat.le_of_ble_eq_true rfl) (fun p e s m below meth c A ls F hr hnm hH hl => ?_)
  have F : Fx G p s m _ meth c cX3_firmOwes 1 wsX3_firmOwes RX3 A := F
  have hx := F.1.1
  have hb := F.1.2.1
  have hl : lv_has ls 1 [(0, .ref (q 0))] := hl
  refine lv_aload_n hx hb dX3_firmOwes_0 rfl (lv_at hl 0 rfl) ?_
  refine lv_iconst (v := 0) hx hb dX3_firmOwes_1 (by decide) ?_
  refine rput (C := RX3) (T := TX3) (N := 25) (ref := RX3) F in_X3_firmOwes_X3 tyX3 tyX3_ok nmX3 hH 0 rfl rfl 24 (by decide) (by decide +kernel) (fun _ h9 => h9) rfl (v := .int 0) rfl rfl (Nat.le_of_ble_eq_true rfl) dX3_firmOwes_2 (fun H locs hH => ?_)
  have hH : HH G A s (mW G q (va_up f 24 0) a) H locs := hH
  refine lv_aload_n hx hb dX3_firmOwes_5 rfl (lv_at hl 0 rfl) ?_
  refine rget (C := RX3) (T := TX3) (N := 25) (ref := RX3) F in_X3_firmOwes_X3 hH 0 rfl rfl 9 (by decide) (by decide +kernel) (fun _ h9 => h9) (v := .int (f 9)) rfl dX3_firmOwes_6 ?_
  exact retI F hr rfl (fun _ => 0) hH rfl (Nat.le_of_ble_eq_true rfl) (Nat.le_of_ble_eq_true rfl) dX3_firmOwes_9

set_option maxHeartbeats 4000000 in
set_option maxRecDepth 100000 in
theorem c_X3_setFloor_1 (l : Launch) (G : Gx) (q : Nat → Nat) (f : Nat → Int32) (a : Nat → Nat → Int32) (v : Int32) (h1 : 0 ≤ v) (h2 : v ≤ 100) : MI l yX3_setFloor wsX3_setFloor ({ frames := 1, cells := 0, slots := 0, locals := 22 } : Room) [.ref (q 0), .int v] G (mW G q f a) (fun u => mW G q (va_up (va_up f 24 0) 17 v) a) (f 17) := by
  refine ofMI (cc := cX3_setFloor) (maxL := 3) (ret := (some .int)) (by decide) rfl (Nat.le_of_ble_eq_true rfl) (fun p e s m below meth c A ls F hr hnm hH hl => ?_)
  have F : Fx G p s m _ meth c cX3_setFloor 3 wsX3_setFloor RX3 A := F
  have hx := F.1.1
  have hb := F.1.2.1
  have hl : lv_has ls 3 [(0, .ref (q 0)), (1, .int v)] := hl
  refine lv_aload_n hx hb dX3_setFloor_0 rfl (lv_at hl 0 rfl) ?_
  refine lv_iload_n hx hb dX3_setFloor_1 rfl (lv_at hl 1 rfl) ?_
  refine lv_iconst (v := 0) hx hb dX3_setFloor_2 (by decide) ?_
  refine lv_bipush (v := 100) hx hb dX3_setFloor_3 (by decide) ?_
  refine callSI0 (rest := [.ref (q 0)]) F (c_X3_in_1 l G _ v 0 100 h1 h2) gX3_setFloor_X3_in rfl hdX3_in ⟨Nat.le_of_ble_eq_true rfl, Nat.le_of_ble_eq_true rfl⟩ hH rfl hl.1 (Nat.le_of_ble_eq_true rfl) dX3_setFloor_5 ⟨Nat.le_of_ble_eq_true rfl, Nat.le_of_ble_eq_true rfl⟩ rfl (fun u H locs hH => ?_)
  have hH : HH G A s (mW G q f a) H locs := hH
  refine callVI0 (rest := []) F (c_X3_asks_1 l G q f a) gX3_setFloor_X3_asks rfl hdX3_asks ⟨Nat.le_of_ble_eq_true rfl, Nat.le_of_ble_eq_true rfl⟩ hH ⟨0, 3, _, _, rfl, rfl, rfl⟩ rfl hl.1 (Nat.le_of_ble_eq_true rfl) dX3_setFloor_8 ⟨Nat.le_of_ble_eq_true rfl, Nat.le_of_ble_eq_true rfl⟩ rfl (fun u H locs hH => ?_)
  have hH : HH G A s (mW G q (va_up f 24 0) a) H locs := hH
  refine lv_if_ne (tgt := 16) hx hb dX3_setFloor_11 (by decide) (fun c_11 => ?_) (fun c_11 => absurd c_11 (by decide))
  refine lv_aload_n hx hb dX3_setFloor_16 rfl (lv_at hl 0 rfl) ?_
  refine rget (C := RX3) (T := TX3) (N := 25) (ref := RX3) F in_X3_setFloor_X3 hH 0 rfl rfl 17 (by decide) (by decide +kernel) (fun _ h9 => h9) (v := .int (f 17)) rfl dX3_setFloor_17 ?_
  refine lv_istore_n (lv' := [(2, .int (f 17)), (0, .ref (q 0)), (1, .int v)]) hx hb dX3_setFloor_20 rfl hl (by decide) rfl (fun ls hl => ?_)
  refine lv_aload_n hx hb dX3_setFloor_21 rfl (lv_at hl 1 rfl) ?_
  refine lv_iload_n hx hb dX3_setFloor_22 rfl (lv_at hl 2 rfl) ?_
  refine rput (C := RX3) (T := TX3) (N := 25) (ref := RX3) F in_X3_setFloor_X3 tyX3 tyX3_ok nmX3 hH 0 rfl rfl 17 (by decide) (by decide +kernel) (fun _ h9 => h9) rfl (v := .int v) rfl rfl (Nat.le_of_ble_eq_true rfl) dX3_setFloor_23 (fun H locs hH => ?_)
  have hH : HH G A s (mW G q (va_up (va_up f 24 0) 17 v) a) H locs := hH
  refine lv_iload_n hx hb dX3_setFloor_26 rfl (lv_at hl 0 rfl) ?_
  exact retI F hr rfl (fun _ => 0) hH rfl (Nat.le_of_ble_eq_true rfl) (Nat.le_of_ble_eq_true rfl) dX3_setFloor_27

set_option maxHeartbeats 4000000 in
set_option maxRecDepth 100000 in
theorem c_X3_setFloor_2 (l : Launch) (G : Gx) (q : Nat → Nat) (f : Nat → Int32) (a : Nat → Nat → Int32) (v : Int32) (h : v < 0 ∨ 100 < v) : MI l yX3_setFloor wsX3_setFloor ({ frames := 1, cells := 0, slots := 0, locals := 22 } : Room) [.ref (q 0), .int v] G (mW G q f a) (fun u => mW G q (va_up f 24 1) a) 0 := by
  refine ofMI (cc := cX3_setFloor) (maxL := 3) (ret := (some .int)) (by decide) rfl (Nat.le_of_ble_eq_true rfl) (fun p e s m below meth c A ls F hr hnm hH hl => ?_)
  have F : Fx G p s m _ meth c cX3_setFloor 3 wsX3_setFloor RX3 A := F
  have hx := F.1.1
  have hb := F.1.2.1
  have hl : lv_has ls 3 [(0, .ref (q 0)), (1, .int v)] := hl
  refine lv_aload_n hx hb dX3_setFloor_0 rfl (lv_at hl 0 rfl) ?_
  refine lv_iload_n hx hb dX3_setFloor_1 rfl (lv_at hl 1 rfl) ?_
  refine lv_iconst (v := 0) hx hb dX3_setFloor_2 (by decide) ?_
  refine lv_bipush (v := 100) hx hb dX3_setFloor_3 (by decide) ?_
  refine callSI0 (rest := [.ref (q 0)]) F (c_X3_in_0 l G _ v 0 100 h) gX3_setFloor_X3_in rfl hdX3_in ⟨Nat.le_of_ble_eq_true rfl, Nat.le_of_ble_eq_true rfl⟩ hH rfl hl.1 (Nat.le_of_ble_eq_true rfl) dX3_setFloor_5 ⟨Nat.le_of_ble_eq_true rfl, Nat.le_of_ble_eq_true rfl⟩ rfl (fun u H locs hH => ?_)
  have hH : HH G A s (mW G q f a) H locs := hH
  refine callVI0 (rest := []) F (c_X3_asks_0 l G q f a) gX3_setFloor_X3_asks rfl hdX3_asks ⟨Nat.le_of_ble_eq_true rfl, Nat.le_of_ble_eq_true rfl⟩ hH ⟨0, 3, _, _, rfl, rfl, rfl⟩ rfl hl.1 (Nat.le_of_ble_eq_true rfl) dX3_setFloor_8 ⟨Nat.le_of_ble_eq_true rfl, Nat.le_of_ble_eq_true rfl⟩ rfl (fun u H locs hH => ?_)
  have hH : HH G A s (mW G q (va_up f 24 1) a) H locs := hH
  refine lv_if_ne (tgt := 16) hx hb dX3_setFloor_11 (by decide) (fun c_11 => absurd rfl c_11) (fun c_11 => ?_)
  refine lv_iconst (v := 0) hx hb dX3_setFloor_14 (by decide) ?_
  exact retI F hr rfl (fun _ => 0) hH rfl (Nat.le_of_ble_eq_true rfl) (Nat.le_of_ble_eq_true rfl) dX3_setFloor_15

set_option maxHeartbeats 4000000 in
set_option maxRecDepth 100000 in
theorem c_X3_add_1 (l : Launch) (G : Gx) (q : Nat → Nat) (f : Nat → Int32) (a : Nat → Nat → Int32) (n : Nat) (e0 : f 0 = nI n) (hn : n ≤ 8) (hn9 : n < 8) (v w : Int32) (h1 : 1 ≤ v) (h2 : v ≤ 100000) (hw : w = 0 ∨ w = 1) : MI l yX3_add wsX3_add ({ frames := 1, cells := 0, slots := 0, locals := 22 } : Room) [.ref (q 0), .int v, .int w] G (mW G q f a) (fun u => mW G q (va_up (va_up f 24 0) 0 ((f 0) + 1)) (va_up (va_up a 1 (upd (a 1) n v)) 2 (upd (a 2) n w))) (nI n) := by
  refine ofMI (cc := cX3_add) (maxL := 3) (ret := (some .int)) (by decide) rfl (Nat.le_of_ble_eq_true rfl) (fun p e s m below meth c A ls F hr hnm hH hl => ?_)
  have F : Fx G p s m _ meth c cX3_add 3 wsX3_add RX3 A := F
  have hx := F.1.1
  have hb := F.1.2.1
  have hl : lv_has ls 3 [(0, .ref (q 0)), (1, .int v), (2, .int w)] := hl
  refine lv_aload_n hx hb dX3_add_0 rfl (lv_at hl 0 rfl) ?_
  refine lv_iload_n hx hb dX3_add_1 rfl (lv_at hl 1 rfl) ?_
  refine lv_iconst (v := 1) hx hb dX3_add_2 (by decide) ?_
  refine lv_ldc hx hb F.1.2.2.2.1 (F.1.2.2.2.2 (.constant RX3 81 (100000)) (by decide +kernel)) dX3_add_3 ?_
  refine callSI0 (rest := [.ref (q 0)]) F (c_X3_in_1 l G _ v 1 100000 h1 h2) gX3_add_X3_in rfl hdX3_in ⟨Nat.le_of_ble_eq_true rfl, Nat.le_of_ble_eq_true rfl⟩ hH rfl hl.1 (Nat.le_of_ble_eq_true rfl) dX3_add_5 ⟨Nat.le_of_ble_eq_true rfl, Nat.le_of_ble_eq_true rfl⟩ rfl (fun u H locs hH => ?_)
  have hH : HH G A s (mW G q f a) H locs := hH
  refine callVI0 (rest := []) F (c_X3_asks_1 l G q f a) gX3_add_X3_asks rfl hdX3_asks ⟨Nat.le_of_ble_eq_true rfl, Nat.le_of_ble_eq_true rfl⟩ hH ⟨0, 3, _, _, rfl, rfl, rfl⟩ rfl hl.1 (Nat.le_of_ble_eq_true rfl) dX3_add_8 ⟨Nat.le_of_ble_eq_true rfl, Nat.le_of_ble_eq_true rfl⟩ rfl (fun u H locs hH => ?_)
  have hH : HH G A s (mW G q (va_up f 24 0) a) H locs := hH
  refine lv_if_ne (tgt := 16) hx hb dX3_add_11 (by decide) (fun c_11 => ?_) (fun c_11 => absurd c_11 (by decide))
  refine lv_aload_n hx hb dX3_add_16 rfl (lv_at hl 0 rfl) ?_
  refine rget (C := RX3) (T := TX3) (N := 25) (ref := RX3) F in_X3_add_X3 hH 0 rfl rfl 0 (by decide) (by decide +kernel) (fun _ h9 => h9) (v := .int (f 0)) rfl dX3_add_17 ?_
  refine lv_bipush (v := 8) hx hb dX3_add_20 (by decide) ?_
  refine lv_icmp_ne (tgt := 31) hx hb dX3_add_22 (by decide) (fun c_22 => ?_) (fun c_22 => absurd c_22 (by rw [e0]; exact ne8 hn9))
  refine lv_aload_n hx hb dX3_add_31 rfl (lv_at hl 0 rfl) ?_
  refine rget (C := RX3) (T := TX3) (N := 25) (ref := RX3) F in_X3_add_X3 hH 0 rfl rfl 1 (by decide) (by decide +kernel) (fun _ h9 => h9) (v := .ref (q 1)) rfl dX3_add_32 ?_
  refine lv_aload_n hx hb dX3_add_35 rfl (lv_at hl 0 rfl) ?_
  refine rget (C := RX3) (T := TX3) (N := 25) (ref := RX3) F in_X3_add_X3 hH 0 rfl rfl 0 (by decide) (by decide +kernel) (fun _ h9 => h9) (v := .int (f 0)) rfl dX3_add_36 ?_
  refine lv_iload_n hx hb dX3_add_39 rfl (lv_at hl 1 rfl) ?_
  refine riast F hH 1 (n := 8) (f := a 1) rfl n e0 (by omega) (by decide) dX3_add_40 (fun H locs hH => ?_)
  have hH : HH G A s (mW G q (va_up f 24 0) (va_up a 1 (upd (a 1) n v))) H locs := hH
  refine lv_aload_n hx hb dX3_add_41 rfl (lv_at hl 0 rfl) ?_
  refine rget (C := RX3) (T := TX3) (N := 25) (ref := RX3) F in_X3_add_X3 hH 0 rfl rfl 2 (by decide) (by decide +kernel) (fun _ h9 => h9) (v := .ref (q 2)) rfl dX3_add_42 ?_
  refine lv_aload_n hx hb dX3_add_45 rfl (lv_at hl 0 rfl) ?_
  refine rget (C := RX3) (T := TX3) (N := 25) (ref := RX3) F in_X3_add_X3 hH 0 rfl rfl 0 (by decide) (by decide +kernel) (fun _ h9 => h9) (v := .int (f 0)) rfl dX3_add_46 ?_
  refine lv_iload_n hx hb dX3_add_49 rfl (lv_at hl 2 rfl) ?_
  refine rzast F hH 2 (n := 8) (f := a 2) rfl n e0 (by omega) (by decide) (by rcases hw with e | e <;> subst e <;> rfl) dX3_add_50 (fun H locs hH => ?_)
  have hH : HH G A s (mW G q (va_up f 24 0) (va_up (va_up a 1 (upd (a 1) n v)) 2 (upd (a 2) n w))) H locs := hH
  refine lv_aload_n hx hb dX3_add_51 rfl (lv_at hl 0 rfl) ?_
  refine lv_dup hx hb dX3_add_52 rfl ?_
  refine rget (C := RX3) (T := TX3) (N := 25) (ref := RX3) F in_X3_add_X3 hH 0 rfl rfl 0 (by decide) (by decide +kernel) (fun _ h9 => h9) (v := .int (f 0)) rfl dX3_add_53 ?_
  refine lv_iconst (v := 1) hx hb dX3_add_56 (by decide) ?_
  refine lv_iadd hx hb dX3_add_57 ?_
  refine rput (C := RX3) (T := TX3) (N := 25) (ref := RX3) F in_X3_add_X3 tyX3 tyX3_ok nmX3 hH 0 rfl rfl 0 (by decide) (by decide +kernel) (fun _ h9 => h9) rfl (v := .int ((f 0) + 1)) rfl rfl (Nat.le_of_ble_eq_true rfl) dX3_add_58 (fun H locs hH => ?_)
  have hH : HH G A s (mW G q (va_up (va_up f 24 0) 0 ((f 0) + 1)) (va_up (va_up a 1 (upd (a 1) n v)) 2 (upd (a 2) n w))) H locs := hH
  refine lv_aload_n hx hb dX3_add_61 rfl (lv_at hl 0 rfl) ?_
  refine rget (C := RX3) (T := TX3) (N := 25) (ref := RX3) F in_X3_add_X3 hH 0 rfl rfl 0 (by decide) (by decide +kernel) (fun _ h9 => h9) (v := .int (((f 0) + 1))) rfl dX3_add_62 ?_
  refine lv_iconst (v := 1) hx hb dX3_add_65 (by decide) ?_
  refine lv_isub hx hb dX3_add_66 ?_
  exact retI F hr rfl (fun _ => 0) hH (by rw [e0, nI_1]; exact nI_pred n) (Nat.le_of_ble_eq_true rfl) (Nat.le_of_ble_eq_true rfl) dX3_add_67

set_option maxHeartbeats 4000000 in
set_option maxRecDepth 100000 in
theorem c_X3_add_2 (l : Launch) (G : Gx) (q : Nat → Nat) (f : Nat → Int32) (a : Nat → Nat → Int32) (v w : Int32) (h : v < 1 ∨ 100000 < v) : MI l yX3_add wsX3_add ({ frames := 1, cells := 0, slots := 0, locals := 22 } : Room) [.ref (q 0), .int v, .int w] G (mW G q f a) (fun u => mW G q (va_up f 24 1) a) 0 := by
  refine ofMI (cc := cX3_add) (maxL := 3) (ret := (some .int)) (by decide) rfl (Nat.le_of_ble_eq_true rfl) (fun p e s m below meth c A ls F hr hnm hH hl => ?_)
  have F : Fx G p s m _ meth c cX3_add 3 wsX3_add RX3 A := F
  have hx := F.1.1
  have hb := F.1.2.1
  have hl : lv_has ls 3 [(0, .ref (q 0)), (1, .int v), (2, .int w)] := hl
  refine lv_aload_n hx hb dX3_add_0 rfl (lv_at hl 0 rfl) ?_
  refine lv_iload_n hx hb dX3_add_1 rfl (lv_at hl 1 rfl) ?_
  refine lv_iconst (v := 1) hx hb dX3_add_2 (by decide) ?_
  refine lv_ldc hx hb F.1.2.2.2.1 (F.1.2.2.2.2 (.constant RX3 81 (100000)) (by decide +kernel)) dX3_add_3 ?_
  refine callSI0 (rest := [.ref (q 0)]) F (c_X3_in_0 l G _ v 1 100000 h) gX3_add_X3_in rfl hdX3_in ⟨Nat.le_of_ble_eq_true rfl, Nat.le_of_ble_eq_true rfl⟩ hH rfl hl.1 (Nat.le_of_ble_eq_true rfl) dX3_add_5 ⟨Nat.le_of_ble_eq_true rfl, Nat.le_of_ble_eq_true rfl⟩ rfl (fun u H locs hH => ?_)
  have hH : HH G A s (mW G q f a) H locs := hH
  refine callVI0 (rest := []) F (c_X3_asks_0 l G q f a) gX3_add_X3_asks rfl hdX3_asks ⟨Nat.le_of_ble_eq_true rfl, Nat.le_of_ble_eq_true rfl⟩ hH ⟨0, 3, _, _, rfl, rfl, rfl⟩ rfl hl.1 (Nat.le_of_ble_eq_true rfl) dX3_add_8 ⟨Nat.le_of_ble_eq_true rfl, Nat.le_of_ble_eq_true rfl⟩ rfl (fun u H locs hH => ?_)
  have hH : HH G A s (mW G q (va_up f 24 1) a) H locs := hH
  refine lv_if_ne (tgt := 16) hx hb dX3_add_11 (by decide) (fun c_11 => absurd rfl c_11) (fun c_11 => ?_)
  refine lv_iconst (v := 0) hx hb dX3_add_14 (by decide) ?_
  exact retI F hr rfl (fun _ => 0) hH rfl (Nat.le_of_ble_eq_true rfl) (Nat.le_of_ble_eq_true rfl) dX3_add_15

set_option maxHeartbeats 4000000 in
set_option maxRecDepth 100000 in
theorem c_X3_add_3 (l : Launch) (G : Gx) (q : Nat → Nat) (f : Nat → Int32) (a : Nat → Nat → Int32) (e0 : f 0 = 8) (v w : Int32) (h1 : 1 ≤ v) (h2 : v ≤ 100000) : MI l yX3_add wsX3_add ({ frames := 1, cells := 0, slots := 0, locals := 22 } : Room) [.ref (q 0), .int v, .int w] G (mW G q f a) (fun u => mW G q (va_up f 24 2) a) 0 := by
  refine ofMI (cc := cX3_add) (maxL := 3) (ret := (some .int)) (by decide) rfl (Nat.le_of_ble_eq_true rfl) (fun p e s m below meth c A ls F hr hnm hH hl => ?_)
  have F : Fx G p s m _ meth c cX3_add 3 wsX3_add RX3 A := F
  have hx := F.1.1
  have hb := F.1.2.1
  have hl : lv_has ls 3 [(0, .ref (q 0)), (1, .int v), (2, .int w)] := hl
  refine lv_aload_n hx hb dX3_add_0 rfl (lv_at hl 0 rfl) ?_
  refine lv_iload_n hx hb dX3_add_1 rfl (lv_at hl 1 rfl) ?_
  refine lv_iconst (v := 1) hx hb dX3_add_2 (by decide) ?_
  refine lv_ldc hx hb F.1.2.2.2.1 (F.1.2.2.2.2 (.constant RX3 81 (100000)) (by decide +kernel)) dX3_add_3 ?_
  refine callSI0 (rest := [.ref (q 0)]) F (c_X3_in_1 l G _ v 1 100000 h1 h2) gX3_add_X3_in rfl hdX3_in ⟨Nat.le_of_ble_eq_true rfl, Nat.le_of_ble_eq_true rfl⟩ hH rfl hl.1 (Nat.le_of_ble_eq_true rfl) dX3_add_5 ⟨Nat.le_of_ble_eq_true rfl, Nat.le_of_ble_eq_true rfl⟩ rfl (fun u H locs hH => ?_)
  have hH : HH G A s (mW G q f a) H locs := hH
  refine callVI0 (rest := []) F (c_X3_asks_1 l G q f a) gX3_add_X3_asks rfl hdX3_asks ⟨Nat.le_of_ble_eq_true rfl, Nat.le_of_ble_eq_true rfl⟩ hH ⟨0, 3, _, _, rfl, rfl, rfl⟩ rfl hl.1 (Nat.le_of_ble_eq_true rfl) dX3_add_8 ⟨Nat.le_of_ble_eq_true rfl, Nat.le_of_ble_eq_true rfl⟩ rfl (fun u H locs hH => ?_)
  have hH : HH G A s (mW G q (va_up f 24 0) a) H locs := hH
  refine lv_if_ne (tgt := 16) hx hb dX3_add_11 (by decide) (fun c_11 => ?_) (fun c_11 => absurd c_11 (by decide))
  refine lv_aload_n hx hb dX3_add_16 rfl (lv_at hl 0 rfl) ?_
  refine rget (C := RX3) (T := TX3) (N := 25) (ref := RX3) F in_X3_add_X3 hH 0 rfl rfl 0 (by decide) (by decide +kernel) (fun _ h9 => h9) (v := .int (f 0)) rfl dX3_add_17 ?_
  refine lv_bipush (v := 8) hx hb dX3_add_20 (by decide) ?_
  refine lv_icmp_ne (tgt := 31) hx hb dX3_add_22 (by decide) (fun c_22 => absurd e0 c_22) (fun c_22 => ?_)
  refine lv_aload_n hx hb dX3_add_25 rfl (lv_at hl 0 rfl) ?_
  refine lv_iconst (v := 2) hx hb dX3_add_26 (by decide) ?_
  refine callVI0 (rest := []) F (c_X3_fails l G q (va_up f 24 0) a 2) gX3_add_X3_fails rfl hdX3_fails ⟨Nat.le_of_ble_eq_true rfl, Nat.le_of_ble_eq_true rfl⟩ hH ⟨0, 3, _, _, rfl, rfl, rfl⟩ rfl hl.1 (Nat.le_of_ble_eq_true rfl) dX3_add_27 ⟨Nat.le_of_ble_eq_true rfl, Nat.le_of_ble_eq_true rfl⟩ rfl (fun u H locs hH => ?_)
  have hH : HH G A s (mW G q (va_up f 24 2) a) H locs := hH
  exact retI F hr rfl (fun _ => 0) hH rfl (Nat.le_of_ble_eq_true rfl) (Nat.le_of_ble_eq_true rfl) dX3_add_30

set_option maxHeartbeats 4000000 in
set_option maxRecDepth 100000 in
theorem c_X3_cutOf (l : Launch) (G : Gx) (q : Nat → Nat) (f : Nat → Int32) (a : Nat → Nat → Int32) (i : Nat) (hi : i < 8) (cn : Nat) (e3 : a 3 i = nI cn) (hcn : cn ≤ 30) (x : Int32) : MI l yX3_cutOf wsX3_cutOf ({ frames := 0, cells := 0, slots := 0, locals := 0 } : Room) [.ref (q 0), .int (nI i), .int x] G (mW G q f a) (fun u => mW G q f a) (cutM a i x cn) := by
  refine ofMI (cc := cX3_cutOf) (maxL := 5) (ret := (some .int)) (by decide) rfl (Nat.le_of_ble_eq_true rfl) (fun p e s m below meth c A ls F hr hnm hH hl => ?_)
  have F : Fx G p s m _ meth c cX3_cutOf 5 wsX3_cutOf RX3 A := F
  have hx := F.1.1
  have hb := F.1.2.1
  have hl : lv_has ls 5 [(0, .ref (q 0)), (1, .int (nI i)), (2, .int x)] := hl
  refine lv_iconst (v := 0) hx hb dX3_cutOf_0 (by decide) ?_
  refine lv_istore_n (lv' := [(3, .int 0), (0, .ref (q 0)), (1, .int (nI i)), (2, .int x)]) hx hb dX3_cutOf_1 rfl hl (by decide) rfl (fun ls hl => ?_)
  refine lv_bipush (v := 30) hx hb dX3_cutOf_2 (by decide) ?_
  refine lv_iload_n hx hb dX3_cutOf_4 rfl (lv_at hl 2 rfl) ?_
  refine lv_imul hx hb dX3_cutOf_5 ?_
  refine lv_istore (lv' := [(4, .int (30 * (nI i))), (3, .int 0), (0, .ref (q 0)), (1, .int (nI i)), (2, .int x)]) hx hb dX3_cutOf_6 hl (by decide) rfl (fun ls hl => ?_)
  have loop : ∀ (n9 : Nat) (k : Nat) (hc9 : k + n9 = cn)  (H : Heap) (locs : List Loc) (ls : Array Slot), HH G A s (mW G q f a) H locs → lv_has ls 5 [(4, .int (nI (30 * i + k))), (3, .int (cutM a i x k)), (0, .ref (q 0)), (1, .int (nI i)), (2, .int x)] → W p l e ({ frames := 0, cells := 0, slots := 0, locals := 0 } : Room) s m [.ref (q 0), .int (nI i), .int x].toArray below meth c H locs 0 0 (EnI G A below s [.ref (q 0), .int (nI i), .int x].toArray ({ frames := 0, cells := 0, slots := 0, locals := 0 } : Room) (fun u => mW G q f a) (cutM a i x cn)) (F0 m 8 ls []) := by
    intro n9
    induction n9 with
    | zero =>
      intro k hc9  H locs ls hH hl
      refine lv_iload hx hb dX3_cutOf_8 (lv_at hl 0 rfl) ?_
      refine lv_bipush (v := 30) hx hb dX3_cutOf_10 (by decide) ?_
      refine lv_iload_n hx hb dX3_cutOf_12 rfl (lv_at hl 3 rfl) ?_
      refine lv_imul hx hb dX3_cutOf_13 ?_
      refine lv_aload_n hx hb dX3_cutOf_14 rfl (lv_at hl 2 rfl) ?_
      refine rget (C := RX3) (T := TX3) (N := 25) (ref := RX3) F in_X3_cutOf_X3 hH 0 rfl rfl 3 (by decide) (by decide +kernel) (fun _ h9 => h9) (v := .ref (q 3)) rfl dX3_cutOf_15 ?_
      refine lv_iload_n hx hb dX3_cutOf_18 rfl (lv_at hl 3 rfl) ?_
      refine riald F hH 3 (n := 8) (f := a 3) rfl i rfl (by omega) (by decide) dX3_cutOf_19 ?_
      refine lv_iadd hx hb dX3_cutOf_20 ?_
      refine lv_icmp_ge (tgt := 64) hx hb dX3_cutOf_21 (by decide) (fun c_21 => ?_) (fun c_21 => absurd (by rw [e3, ix30]; exact nI_le (by omega) (by omega)) c_21)
      refine lv_iload_n hx hb dX3_cutOf_64 rfl (lv_at hl 1 rfl) ?_
      exact retI F hr rfl (fun _ => 0) hH (by rw [show k = cn by omega]) (Nat.le_of_ble_eq_true rfl) (Nat.le_of_ble_eq_true rfl) dX3_cutOf_65
    | succ n9 ih =>
      intro k hc9  H locs ls hH hl
      refine lv_iload hx hb dX3_cutOf_8 (lv_at hl 0 rfl) ?_
      refine lv_bipush (v := 30) hx hb dX3_cutOf_10 (by decide) ?_
      refine lv_iload_n hx hb dX3_cutOf_12 rfl (lv_at hl 3 rfl) ?_
      refine lv_imul hx hb dX3_cutOf_13 ?_
      refine lv_aload_n hx hb dX3_cutOf_14 rfl (lv_at hl 2 rfl) ?_
      refine rget (C := RX3) (T := TX3) (N := 25) (ref := RX3) F in_X3_cutOf_X3 hH 0 rfl rfl 3 (by decide) (by decide +kernel) (fun _ h9 => h9) (v := .ref (q 3)) rfl dX3_cutOf_15 ?_
      refine lv_iload_n hx hb dX3_cutOf_18 rfl (lv_at hl 3 rfl) ?_
      refine riald F hH 3 (n := 8) (f := a 3) rfl i rfl (by omega) (by decide) dX3_cutOf_19 ?_
      refine lv_iadd hx hb dX3_cutOf_20 ?_
      refine lv_icmp_ge (tgt := 64) hx hb dX3_cutOf_21 (by decide) (fun c_21 => absurd c_21 (by rw [e3, ix30]; exact nI_ge (by omega) (by omega))) (fun c_21 => ?_)
      refine lv_iload_n hx hb dX3_cutOf_24 rfl (lv_at hl 4 rfl) ?_
      refine lv_aload_n hx hb dX3_cutOf_25 rfl (lv_at hl 2 rfl) ?_
      refine rget (C := RX3) (T := TX3) (N := 25) (ref := RX3) F in_X3_cutOf_X3 hH 0 rfl rfl 4 (by decide) (by decide +kernel) (fun _ h9 => h9) (v := .ref (q 4)) rfl dX3_cutOf_26 ?_
      refine lv_iload hx hb dX3_cutOf_29 (lv_at hl 0 rfl) ?_
      refine riald F hH 4 (n := 240) (f := a 4) rfl (30 * i + k) rfl (by omega) (by decide) dX3_cutOf_31 ?_
      refine lv_icmp_lt (tgt := 56) hx hb dX3_cutOf_32 (by decide) (fun c_32 => ?_) (fun c_32 => ?_)
      · refine lv_iload_n hx hb dX3_cutOf_56 rfl (lv_at hl 1 rfl) ?_
        refine lv_istore_n (lv' := [(3, .int (cutM a i x k)), (4, .int (nI (30 * i + k))), (0, .ref (q 0)), (1, .int (nI i)), (2, .int x)]) hx hb dX3_cutOf_57 rfl hl (by decide) rfl (fun ls hl => ?_)
        refine lv_iinc (v := (nI ((30 * i + k) + 1))) (lv' := [(4, .int (nI ((30 * i + k) + 1))), (3, .int (cutM a i x k)), (0, .ref (q 0)), (1, .int (nI i)), (2, .int x)]) hx hb dX3_cutOf_58 hl (k := 1) rfl (nI_1 (30 * i + k)) (by decide) rfl (fun ls hl => ?_)
        refine lv_goto (tgt := 8) hx hb dX3_cutOf_61 (by decide) ?_
        exact ih (k + 1) (by omega) _ _ _ hH (lv_sub hl [0, 1, 2, 3, 4] (by unfold cutM; rw [cutN_a c_32]; rfl))
      · refine lv_iload_n hx hb dX3_cutOf_35 rfl (lv_at hl 4 rfl) ?_
        refine lv_aload_n hx hb dX3_cutOf_36 rfl (lv_at hl 2 rfl) ?_
        refine rget (C := RX3) (T := TX3) (N := 25) (ref := RX3) F in_X3_cutOf_X3 hH 0 rfl rfl 5 (by decide) (by decide +kernel) (fun _ h9 => h9) (v := .ref (q 5)) rfl dX3_cutOf_37 ?_
        refine lv_iload hx hb dX3_cutOf_40 (lv_at hl 0 rfl) ?_
        refine riald F hH 5 (n := 240) (f := a 5) rfl (30 * i + k) rfl (by omega) (by decide) dX3_cutOf_42 ?_
        refine lv_icmp_gt (tgt := 56) hx hb dX3_cutOf_43 (by decide) (fun c_43 => ?_) (fun c_43 => ?_)
        · refine lv_iload_n hx hb dX3_cutOf_56 rfl (lv_at hl 1 rfl) ?_
          refine lv_istore_n (lv' := [(3, .int (cutM a i x k)), (4, .int (nI (30 * i + k))), (0, .ref (q 0)), (1, .int (nI i)), (2, .int x)]) hx hb dX3_cutOf_57 rfl hl (by decide) rfl (fun ls hl => ?_)
          refine lv_iinc (v := (nI ((30 * i + k) + 1))) (lv' := [(4, .int (nI ((30 * i + k) + 1))), (3, .int (cutM a i x k)), (0, .ref (q 0)), (1, .int (nI i)), (2, .int x)]) hx hb dX3_cutOf_58 hl (k := 1) rfl (nI_1 (30 * i + k)) (by decide) rfl (fun ls hl => ?_)
          refine lv_goto (tgt := 8) hx hb dX3_cutOf_61 (by decide) ?_
          exact ih (k + 1) (by omega) _ _ _ hH (lv_sub hl [0, 1, 2, 3, 4] (by unfold cutM; rw [cutN_b c_32 c_43]; rfl))
        · refine lv_aload_n hx hb dX3_cutOf_46 rfl (lv_at hl 2 rfl) ?_
          refine rget (C := RX3) (T := TX3) (N := 25) (ref := RX3) F in_X3_cutOf_X3 hH 0 rfl rfl 6 (by decide) (by decide +kernel) (fun _ h9 => h9) (v := .ref (q 6)) rfl dX3_cutOf_47 ?_
          refine lv_iload hx hb dX3_cutOf_50 (lv_at hl 0 rfl) ?_
          refine riald F hH 6 (n := 240) (f := a 6) rfl (30 * i + k) rfl (by omega) (by decide) dX3_cutOf_52 ?_
          refine lv_goto (tgt := 57) hx hb dX3_cutOf_53 (by decide) ?_
          refine lv_istore_n (lv' := [(3, .int (a 6 (30 * i + k))), (4, .int (nI (30 * i + k))), (0, .ref (q 0)), (1, .int (nI i)), (2, .int x)]) hx hb dX3_cutOf_57 rfl hl (by decide) rfl (fun ls hl => ?_)
          refine lv_iinc (v := (nI ((30 * i + k) + 1))) (lv' := [(4, .int (nI ((30 * i + k) + 1))), (3, .int (a 6 (30 * i + k))), (0, .ref (q 0)), (1, .int (nI i)), (2, .int x)]) hx hb dX3_cutOf_58 hl (k := 1) rfl (nI_1 (30 * i + k)) (by decide) rfl (fun ls hl => ?_)
          refine lv_goto (tgt := 8) hx hb dX3_cutOf_61 (by decide) ?_
          exact ih (k + 1) (by omega) _ _ _ hH (lv_sub hl [0, 1, 2, 3, 4] (by unfold cutM; rw [cutN_c c_32 c_43]; rfl))
  exact loop cn 0 (by omega) _ _ _ hH (lv_sub hl [0, 1, 2, 3, 4] (by rw [ixm30]; rfl))

set_option maxHeartbeats 4000000 in
set_option maxRecDepth 100000 in
theorem c_X3_cut_1 (l : Launch) (G : Gx) (q : Nat → Nat) (f : Nat → Int32) (a : Nat → Nat → Int32) (n : Nat) (e0 : f 0 = nI n) (hn : n ≤ 8) (i : Nat) (hi : i < n) (cn : Nat) (e3 : a 3 i = nI cn) (hcn : cn ≤ 30) (j : Nat) (hj : j ≤ 200) : MI l yX3_cut wsX3_cut ({ frames := 1, cells := 0, slots := 0, locals := 24 } : Room) [.ref (q 0), .int (nI i), .int (nI j)] G (mW G q f a) (fun u => mW G q (va_up f 24 0) a) (cutM a i (nI j) cn) := by
  refine ofMI (cc := cX3_cut) (maxL := 3) (ret := (some .int)) (by decide) rfl (Nat.le_of_ble_eq_true rfl) (fun p e s m below meth c A ls F hr hnm hH hl => ?_)
  have F : Fx G p s m _ meth c cX3_cut 3 wsX3_cut RX3 A := F
  have hx := F.1.1
  have hb := F.1.2.1
  have hl : lv_has ls 3 [(0, .ref (q 0)), (1, .int (nI i)), (2, .int (nI j))] := hl
  refine lv_aload_n hx hb dX3_cut_0 rfl (lv_at hl 0 rfl) ?_
  refine lv_aload_n hx hb dX3_cut_1 rfl (lv_at hl 0 rfl) ?_
  refine lv_iload_n hx hb dX3_cut_2 rfl (lv_at hl 1 rfl) ?_
  refine callVI0 (rest := [.ref (q 0)]) F (c_X3_isWorker_1 l G q f a n e0 hn i hi) gX3_cut_X3_isWorker rfl hdX3_isWorker ⟨Nat.le_of_ble_eq_true rfl, Nat.le_of_ble_eq_true rfl⟩ hH ⟨0, 3, _, _, rfl, rfl, rfl⟩ rfl hl.1 (Nat.le_of_ble_eq_true rfl) dX3_cut_3 ⟨Nat.le_of_ble_eq_true rfl, Nat.le_of_ble_eq_true rfl⟩ rfl (fun u H locs hH => ?_)
  have hH : HH G A s (mW G q f a) H locs := hH
  refine callVI0 (rest := []) F (c_X3_asks_1 l G q f a) gX3_cut_X3_asks rfl hdX3_asks ⟨Nat.le_of_ble_eq_true rfl, Nat.le_of_ble_eq_true rfl⟩ hH ⟨0, 3, _, _, rfl, rfl, rfl⟩ rfl hl.1 (Nat.le_of_ble_eq_true rfl) dX3_cut_6 ⟨Nat.le_of_ble_eq_true rfl, Nat.le_of_ble_eq_true rfl⟩ rfl (fun u H locs hH => ?_)
  have hH : HH G A s (mW G q (va_up f 24 0) a) H locs := hH
  refine lv_if_ne (tgt := 14) hx hb dX3_cut_9 (by decide) (fun c_9 => ?_) (fun c_9 => absurd c_9 (by decide))
  refine lv_iload_n hx hb dX3_cut_14 rfl (lv_at hl 2 rfl) ?_
  refine lv_iconst (v := 0) hx hb dX3_cut_15 (by decide) ?_
  refine lv_sipush (v := 200) hx hb dX3_cut_16 (by decide) ?_
  refine callSI0 (rest := []) F (c_X3_in_1 l G _ (nI j) 0 200 (nI_pos' (by omega)) (nI_le (a := j) (b := 200) hj (by decide))) gX3_cut_X3_in rfl hdX3_in ⟨Nat.le_of_ble_eq_true rfl, Nat.le_of_ble_eq_true rfl⟩ hH rfl hl.1 (Nat.le_of_ble_eq_true rfl) dX3_cut_19 ⟨Nat.le_of_ble_eq_true rfl, Nat.le_of_ble_eq_true rfl⟩ rfl (fun u H locs hH => ?_)
  have hH : HH G A s (mW G q (va_up f 24 0) a) H locs := hH
  refine lv_if_eq (tgt := 34) hx hb dX3_cut_22 (by decide) (fun c_22 => absurd c_22 (by decide)) (fun c_22 => ?_)
  refine lv_aload_n hx hb dX3_cut_25 rfl (lv_at hl 0 rfl) ?_
  refine lv_iload_n hx hb dX3_cut_26 rfl (lv_at hl 1 rfl) ?_
  refine lv_iload_n hx hb dX3_cut_27 rfl (lv_at hl 2 rfl) ?_
  refine callVI0 (rest := []) F (c_X3_cutOf l G q (va_up f 24 0) a i (by omega) cn e3 hcn (nI j)) gX3_cut_X3_cutOf rfl hdX3_cutOf ⟨Nat.le_of_ble_eq_true rfl, Nat.le_of_ble_eq_true rfl⟩ hH ⟨0, 3, _, _, rfl, rfl, rfl⟩ rfl hl.1 (Nat.le_of_ble_eq_true rfl) dX3_cut_28 ⟨Nat.le_of_ble_eq_true rfl, Nat.le_of_ble_eq_true rfl⟩ rfl (fun u H locs hH => ?_)
  have hH : HH G A s (mW G q (va_up f 24 0) a) H locs := hH
  refine lv_goto (tgt := 39) hx hb dX3_cut_31 (by decide) ?_
  exact retI F hr rfl (fun _ => 0) hH rfl (Nat.le_of_ble_eq_true rfl) (Nat.le_of_ble_eq_true rfl) dX3_cut_39

set_option maxHeartbeats 4000000 in
set_option maxRecDepth 100000 in
theorem c_X3_cut_2 (l : Launch) (G : Gx) (q : Nat → Nat) (f : Nat → Int32) (a : Nat → Nat → Int32) (n : Nat) (e0 : f 0 = nI n) (hn : n ≤ 8) (i : Nat) (hi : i < n) (w : Int32) (h : w < 0 ∨ 200 < w) : MI l yX3_cut wsX3_cut ({ frames := 1, cells := 0, slots := 0, locals := 22 } : Room) [.ref (q 0), .int (nI i), .int w] G (mW G q f a) (fun u => mW G q (va_up f 24 2) a) 0 := by
  refine ofMI (cc := cX3_cut) (maxL := 3) (ret := (some .int)) (by decide) rfl (Nat.le_of_ble_eq_true rfl) (fun p e s m below meth c A ls F hr hnm hH hl => ?_)
  have F : Fx G p s m _ meth c cX3_cut 3 wsX3_cut RX3 A := F
  have hx := F.1.1
  have hb := F.1.2.1
  have hl : lv_has ls 3 [(0, .ref (q 0)), (1, .int (nI i)), (2, .int w)] := hl
  refine lv_aload_n hx hb dX3_cut_0 rfl (lv_at hl 0 rfl) ?_
  refine lv_aload_n hx hb dX3_cut_1 rfl (lv_at hl 0 rfl) ?_
  refine lv_iload_n hx hb dX3_cut_2 rfl (lv_at hl 1 rfl) ?_
  refine callVI0 (rest := [.ref (q 0)]) F (c_X3_isWorker_1 l G q f a n e0 hn i hi) gX3_cut_X3_isWorker rfl hdX3_isWorker ⟨Nat.le_of_ble_eq_true rfl, Nat.le_of_ble_eq_true rfl⟩ hH ⟨0, 3, _, _, rfl, rfl, rfl⟩ rfl hl.1 (Nat.le_of_ble_eq_true rfl) dX3_cut_3 ⟨Nat.le_of_ble_eq_true rfl, Nat.le_of_ble_eq_true rfl⟩ rfl (fun u H locs hH => ?_)
  have hH : HH G A s (mW G q f a) H locs := hH
  refine callVI0 (rest := []) F (c_X3_asks_1 l G q f a) gX3_cut_X3_asks rfl hdX3_asks ⟨Nat.le_of_ble_eq_true rfl, Nat.le_of_ble_eq_true rfl⟩ hH ⟨0, 3, _, _, rfl, rfl, rfl⟩ rfl hl.1 (Nat.le_of_ble_eq_true rfl) dX3_cut_6 ⟨Nat.le_of_ble_eq_true rfl, Nat.le_of_ble_eq_true rfl⟩ rfl (fun u H locs hH => ?_)
  have hH : HH G A s (mW G q (va_up f 24 0) a) H locs := hH
  refine lv_if_ne (tgt := 14) hx hb dX3_cut_9 (by decide) (fun c_9 => ?_) (fun c_9 => absurd c_9 (by decide))
  refine lv_iload_n hx hb dX3_cut_14 rfl (lv_at hl 2 rfl) ?_
  refine lv_iconst (v := 0) hx hb dX3_cut_15 (by decide) ?_
  refine lv_sipush (v := 200) hx hb dX3_cut_16 (by decide) ?_
  refine callSI0 (rest := []) F (c_X3_in_0 l G _ w 0 200 h) gX3_cut_X3_in rfl hdX3_in ⟨Nat.le_of_ble_eq_true rfl, Nat.le_of_ble_eq_true rfl⟩ hH rfl hl.1 (Nat.le_of_ble_eq_true rfl) dX3_cut_19 ⟨Nat.le_of_ble_eq_true rfl, Nat.le_of_ble_eq_true rfl⟩ rfl (fun u H locs hH => ?_)
  have hH : HH G A s (mW G q (va_up f 24 0) a) H locs := hH
  refine lv_if_eq (tgt := 34) hx hb dX3_cut_22 (by decide) (fun c_22 => ?_) (fun c_22 => absurd rfl c_22)
  refine lv_aload_n hx hb dX3_cut_34 rfl (lv_at hl 0 rfl) ?_
  refine lv_iconst (v := 2) hx hb dX3_cut_35 (by decide) ?_
  refine callVI0 (rest := []) F (c_X3_fails l G q (va_up f 24 0) a 2) gX3_cut_X3_fails rfl hdX3_fails ⟨Nat.le_of_ble_eq_true rfl, Nat.le_of_ble_eq_true rfl⟩ hH ⟨0, 3, _, _, rfl, rfl, rfl⟩ rfl hl.1 (Nat.le_of_ble_eq_true rfl) dX3_cut_36 ⟨Nat.le_of_ble_eq_true rfl, Nat.le_of_ble_eq_true rfl⟩ rfl (fun u H locs hH => ?_)
  have hH : HH G A s (mW G q (va_up f 24 2) a) H locs := hH
  exact retI F hr rfl (fun _ => 0) hH rfl (Nat.le_of_ble_eq_true rfl) (Nat.le_of_ble_eq_true rfl) dX3_cut_39

set_option maxHeartbeats 4000000 in
set_option maxRecDepth 100000 in
theorem c_X3_cut_0 (l : Launch) (G : Gx) (q : Nat → Nat) (f : Nat → Int32) (a : Nat → Nat → Int32) (n : Nat) (e0 : f 0 = nI n) (hn : n ≤ 8) (v : Int32) (h : v < 0 ∨ nI n ≤ v) (w : Int32) : MI l yX3_cut wsX3_cut ({ frames := 1, cells := 0, slots := 0, locals := 21 } : Room) [.ref (q 0), .int v, .int w] G (mW G q f a) (fun u => mW G q (va_up f 24 1) a) 0 := by
  refine ofMI (cc := cX3_cut) (maxL := 3) (ret := (some .int)) (by decide) rfl (Nat.le_of_ble_eq_true rfl) (fun p e s m below meth c A ls F hr hnm hH hl => ?_)
  have F : Fx G p s m _ meth c cX3_cut 3 wsX3_cut RX3 A := F
  have hx := F.1.1
  have hb := F.1.2.1
  have hl : lv_has ls 3 [(0, .ref (q 0)), (1, .int v), (2, .int w)] := hl
  refine lv_aload_n hx hb dX3_cut_0 rfl (lv_at hl 0 rfl) ?_
  refine lv_aload_n hx hb dX3_cut_1 rfl (lv_at hl 0 rfl) ?_
  refine lv_iload_n hx hb dX3_cut_2 rfl (lv_at hl 1 rfl) ?_
  refine callVI0 (rest := [.ref (q 0)]) F (c_X3_isWorker_0 l G q f a n e0 hn v h) gX3_cut_X3_isWorker rfl hdX3_isWorker ⟨Nat.le_of_ble_eq_true rfl, Nat.le_of_ble_eq_true rfl⟩ hH ⟨0, 3, _, _, rfl, rfl, rfl⟩ rfl hl.1 (Nat.le_of_ble_eq_true rfl) dX3_cut_3 ⟨Nat.le_of_ble_eq_true rfl, Nat.le_of_ble_eq_true rfl⟩ rfl (fun u H locs hH => ?_)
  have hH : HH G A s (mW G q f a) H locs := hH
  refine callVI0 (rest := []) F (c_X3_asks_0 l G q f a) gX3_cut_X3_asks rfl hdX3_asks ⟨Nat.le_of_ble_eq_true rfl, Nat.le_of_ble_eq_true rfl⟩ hH ⟨0, 3, _, _, rfl, rfl, rfl⟩ rfl hl.1 (Nat.le_of_ble_eq_true rfl) dX3_cut_6 ⟨Nat.le_of_ble_eq_true rfl, Nat.le_of_ble_eq_true rfl⟩ rfl (fun u H locs hH => ?_)
  have hH : HH G A s (mW G q (va_up f 24 1) a) H locs := hH
  refine lv_if_ne (tgt := 14) hx hb dX3_cut_9 (by decide) (fun c_9 => absurd rfl c_9) (fun c_9 => ?_)
  refine lv_iconst (v := 0) hx hb dX3_cut_12 (by decide) ?_
  exact retI F hr rfl (fun _ => 0) hH rfl (Nat.le_of_ble_eq_true rfl) (Nat.le_of_ble_eq_true rfl) dX3_cut_13

set_option maxHeartbeats 4000000 in
set_option maxRecDepth 100000 in
theorem c_X3_fills (l : Launch) (G : Gx) (q : Nat → Nat) (f : Nat → Int32) (a : Nat → Nat → Int32) (i : Nat) (hi : i < 8) (cn : Nat) (e3 : a 3 i = nI cn) (hcn : cn ≤ 30) (nc : Nat) (e10 : f 10 = nI nc) (hnc : nc ≤ 10) (x : Int32) : MI l yX3_fills wsX3_fills ({ frames := 1, cells := 0, slots := 0, locals := 24 } : Room) [.ref (q 0), .int (nI i), .int x] G (mW G q f a) (fun u => mW G q f a) (fillsN a i x (cutM a i x cn) nc) := by
  refine ofMI (cc := cX3_fills) (maxL := 5) (ret := (some .boolean)) (by decide) rfl (Nat.le_of_ble_eq_true rfl) (fun p e s m below meth c A ls F hr hnm hH hl => ?_)
  have F : Fx G p s m _ meth c cX3_fills 5 wsX3_fills RX3 A := F
  have hx := F.1.1
  have hb := F.1.2.1
  have hl : lv_has ls 5 [(0, .ref (q 0)), (1, .int (nI i)), (2, .int x)] := hl
  refine lv_iconst (v := 0) hx hb dX3_fills_0 (by decide) ?_
  refine lv_istore_n (lv' := [(3, .int 0), (0, .ref (q 0)), (1, .int (nI i)), (2, .int x)]) hx hb dX3_fills_1 rfl hl (by decide) rfl (fun ls hl => ?_)
  refine lv_iconst (v := 0) hx hb dX3_fills_2 (by decide) ?_
  refine lv_istore (lv' := [(4, .int 0), (3, .int 0), (0, .ref (q 0)), (1, .int (nI i)), (2, .int x)]) hx hb dX3_fills_3 hl (by decide) rfl (fun ls hl => ?_)
  have loop : ∀ (n9 : Nat) (k : Nat) (hc9 : k + n9 = nc)  (H : Heap) (locs : List Loc) (ls : Array Slot), HH G A s (mW G q f a) H locs → lv_has ls 5 [(4, .int (nI k)), (3, .int (fillsN a i x (cutM a i x cn) k)), (0, .ref (q 0)), (1, .int (nI i)), (2, .int x)] → W p l e ({ frames := 1, cells := 0, slots := 0, locals := 24 } : Room) s m [.ref (q 0), .int (nI i), .int x].toArray below meth c H locs 0 0 (EnI G A below s [.ref (q 0), .int (nI i), .int x].toArray ({ frames := 1, cells := 0, slots := 0, locals := 24 } : Room) (fun u => mW G q f a) (fillsN a i x (cutM a i x cn) nc)) (F0 m 5 ls []) := by
    intro n9
    induction n9 with
    | zero =>
      intro k hc9  H locs ls hH hl
      refine lv_iload hx hb dX3_fills_5 (lv_at hl 0 rfl) ?_
      refine lv_aload_n hx hb dX3_fills_7 rfl (lv_at hl 2 rfl) ?_
      refine rget (C := RX3) (T := TX3) (N := 25) (ref := RX3) F in_X3_fills_X3 hH 0 rfl rfl 10 (by decide) (by decide +kernel) (fun _ h9 => h9) (v := .int (f 10)) rfl dX3_fills_8 ?_
      refine lv_icmp_ge (tgt := 85) hx hb dX3_fills_11 (by decide) (fun c_11 => ?_) (fun c_11 => absurd (by rw [e10]; exact nI_le (by omega) (by omega)) c_11)
      refine lv_iload_n hx hb dX3_fills_85 rfl (lv_at hl 1 rfl) ?_
      exact retI F hr (nar01 (fillsN_01 _)) (fun _ => 0) hH (by rw [show k = nc by omega]) (Nat.le_of_ble_eq_true rfl) (Nat.le_of_ble_eq_true rfl) dX3_fills_86
    | succ n9 ih =>
      intro k hc9  H locs ls hH hl
      refine lv_iload hx hb dX3_fills_5 (lv_at hl 0 rfl) ?_
      refine lv_aload_n hx hb dX3_fills_7 rfl (lv_at hl 2 rfl) ?_
      refine rget (C := RX3) (T := TX3) (N := 25) (ref := RX3) F in_X3_fills_X3 hH 0 rfl rfl 10 (by decide) (by decide +kernel) (fun _ h9 => h9) (v := .int (f 10)) rfl dX3_fills_8 ?_
      refine lv_icmp_ge (tgt := 85) hx hb dX3_fills_11 (by decide) (fun c_11 => absurd c_11 (by rw [e10]; exact nI_ge (by omega) (by omega))) (fun c_11 => ?_)
      refine lv_iload_n hx hb dX3_fills_14 rfl (lv_at hl 1 rfl) ?_
      refine lv_if_ne (tgt := 73) hx hb dX3_fills_15 (by decide) (fun c_15 => ?_) (fun c_15 => ?_)
      · refine lv_iconst (v := 1) hx hb dX3_fills_73 (by decide) ?_
        refine lv_goto (tgt := 78) hx hb dX3_fills_74 (by decide) ?_
        refine lv_istore_n (lv' := [(3, .int 1), (4, .int (nI k)), (0, .ref (q 0)), (1, .int (nI i)), (2, .int x)]) hx hb dX3_fills_78 rfl hl (by decide) rfl (fun ls hl => ?_)
        refine lv_iinc (v := (nI (k + 1))) (lv' := [(4, .int (nI (k + 1))), (3, .int 1), (0, .ref (q 0)), (1, .int (nI i)), (2, .int x)]) hx hb dX3_fills_79 hl (k := 1) rfl (nI_1 k) (by decide) rfl (fun ls hl => ?_)
        refine lv_goto (tgt := 5) hx hb dX3_fills_82 (by decide) ?_
        exact ih (k + 1) (by omega) _ _ _ hH (lv_sub hl [0, 1, 2, 3, 4] (by rw [fillsN_1 c_15]; rfl))
      · refine lv_aload_n hx hb dX3_fills_18 rfl (lv_at hl 2 rfl) ?_
        refine rget (C := RX3) (T := TX3) (N := 25) (ref := RX3) F in_X3_fills_X3 hH 0 rfl rfl 15 (by decide) (by decide +kernel) (fun _ h9 => h9) (v := .ref (q 15)) rfl dX3_fills_19 ?_
        refine lv_bipush (v := 8) hx hb dX3_fills_22 (by decide) ?_
        refine lv_iload hx hb dX3_fills_24 (lv_at hl 0 rfl) ?_
        refine lv_imul hx hb dX3_fills_26 ?_
        refine lv_iload_n hx hb dX3_fills_27 rfl (lv_at hl 3 rfl) ?_
        refine lv_iadd hx hb dX3_fills_28 ?_
        refine rzald F hH 13 (n := 80) (f := a 15) rfl (8 * k + i) (ix8 k i) (by omega) (by decide) dX3_fills_29 ?_
        refine lv_if_eq (tgt := 77) hx hb dX3_fills_30 (by decide) (fun c_30 => ?_) (fun c_30 => ?_)
        · refine lv_iconst (v := 0) hx hb dX3_fills_77 (by decide) ?_
          refine lv_istore_n (lv' := [(3, .int 0), (4, .int (nI k)), (0, .ref (q 0)), (1, .int (nI i)), (2, .int x)]) hx hb dX3_fills_78 rfl hl (by decide) rfl (fun ls hl => ?_)
          refine lv_iinc (v := (nI (k + 1))) (lv' := [(4, .int (nI (k + 1))), (3, .int 0), (0, .ref (q 0)), (1, .int (nI i)), (2, .int x)]) hx hb dX3_fills_79 hl (k := 1) rfl (nI_1 k) (by decide) rfl (fun ls hl => ?_)
          refine lv_goto (tgt := 5) hx hb dX3_fills_82 (by decide) ?_
          exact ih (k + 1) (by omega) _ _ _ hH (lv_sub hl [0, 1, 2, 3, 4] (by rw [fillsN_0 c_15]; unfold fillC; rw [if_pos c_30]; rfl))
        · refine lv_iload_n hx hb dX3_fills_33 rfl (lv_at hl 4 rfl) ?_
          refine lv_aload_n hx hb dX3_fills_34 rfl (lv_at hl 2 rfl) ?_
          refine rget (C := RX3) (T := TX3) (N := 25) (ref := RX3) F in_X3_fills_X3 hH 0 rfl rfl 12 (by decide) (by decide +kernel) (fun _ h9 => h9) (v := .ref (q 12)) rfl dX3_fills_35 ?_
          refine lv_iload hx hb dX3_fills_38 (lv_at hl 0 rfl) ?_
          refine riald F hH 10 (n := 10) (f := a 12) rfl k rfl (by omega) (by decide) dX3_fills_40 ?_
          refine lv_icmp_lt (tgt := 77) hx hb dX3_fills_41 (by decide) (fun c_41 => ?_) (fun c_41 => ?_)
          · refine lv_iconst (v := 0) hx hb dX3_fills_77 (by decide) ?_
            refine lv_istore_n (lv' := [(3, .int 0), (4, .int (nI k)), (0, .ref (q 0)), (1, .int (nI i)), (2, .int x)]) hx hb dX3_fills_78 rfl hl (by decide) rfl (fun ls hl => ?_)
            refine lv_iinc (v := (nI (k + 1))) (lv' := [(4, .int (nI (k + 1))), (3, .int 0), (0, .ref (q 0)), (1, .int (nI i)), (2, .int x)]) hx hb dX3_fills_79 hl (k := 1) rfl (nI_1 k) (by decide) rfl (fun ls hl => ?_)
            refine lv_goto (tgt := 5) hx hb dX3_fills_82 (by decide) ?_
            exact ih (k + 1) (by omega) _ _ _ hH (lv_sub hl [0, 1, 2, 3, 4] (by rw [fillsN_0 c_15]; unfold fillC; rw [if_neg c_30, if_pos c_41]; rfl))
          · refine lv_iload_n hx hb dX3_fills_44 rfl (lv_at hl 4 rfl) ?_
            refine lv_aload_n hx hb dX3_fills_45 rfl (lv_at hl 2 rfl) ?_
            refine rget (C := RX3) (T := TX3) (N := 25) (ref := RX3) F in_X3_fills_X3 hH 0 rfl rfl 13 (by decide) (by decide +kernel) (fun _ h9 => h9) (v := .ref (q 13)) rfl dX3_fills_46 ?_
            refine lv_iload hx hb dX3_fills_49 (lv_at hl 0 rfl) ?_
            refine riald F hH 11 (n := 10) (f := a 13) rfl k rfl (by omega) (by decide) dX3_fills_51 ?_
            refine lv_icmp_gt (tgt := 77) hx hb dX3_fills_52 (by decide) (fun c_52 => ?_) (fun c_52 => ?_)
            · refine lv_iconst (v := 0) hx hb dX3_fills_77 (by decide) ?_
              refine lv_istore_n (lv' := [(3, .int 0), (4, .int (nI k)), (0, .ref (q 0)), (1, .int (nI i)), (2, .int x)]) hx hb dX3_fills_78 rfl hl (by decide) rfl (fun ls hl => ?_)
              refine lv_iinc (v := (nI (k + 1))) (lv' := [(4, .int (nI (k + 1))), (3, .int 0), (0, .ref (q 0)), (1, .int (nI i)), (2, .int x)]) hx hb dX3_fills_79 hl (k := 1) rfl (nI_1 k) (by decide) rfl (fun ls hl => ?_)
              refine lv_goto (tgt := 5) hx hb dX3_fills_82 (by decide) ?_
              exact ih (k + 1) (by omega) _ _ _ hH (lv_sub hl [0, 1, 2, 3, 4] (by rw [fillsN_0 c_15]; unfold fillC; rw [if_neg c_30, if_neg c_41, if_pos c_52]; rfl))
            · refine lv_iconst (v := 2) hx hb dX3_fills_55 (by decide) ?_
              refine lv_aload_n hx hb dX3_fills_56 rfl (lv_at hl 2 rfl) ?_
              refine rget (C := RX3) (T := TX3) (N := 25) (ref := RX3) F in_X3_fills_X3 hH 0 rfl rfl 14 (by decide) (by decide +kernel) (fun _ h9 => h9) (v := .ref (q 14)) rfl dX3_fills_57 ?_
              refine lv_iload hx hb dX3_fills_60 (lv_at hl 0 rfl) ?_
              refine riald F hH 12 (n := 10) (f := a 14) rfl k rfl (by omega) (by decide) dX3_fills_62 ?_
              refine lv_imul hx hb dX3_fills_63 ?_
              refine lv_aload_n hx hb dX3_fills_64 rfl (lv_at hl 2 rfl) ?_
              refine lv_iload_n hx hb dX3_fills_65 rfl (lv_at hl 3 rfl) ?_
              refine lv_iload_n hx hb dX3_fills_66 rfl (lv_at hl 4 rfl) ?_
              refine callVI0 (rest := [.int (2 * (a 14 k))]) F (c_X3_cutOf l G q f a i (by omega) cn e3 hcn x) gX3_fills_X3_cutOf rfl hdX3_cutOf ⟨Nat.le_of_ble_eq_true rfl, Nat.le_of_ble_eq_true rfl⟩ hH ⟨0, 3, _, _, rfl, rfl, rfl⟩ rfl hl.1 (Nat.le_of_ble_eq_true rfl) dX3_fills_67 ⟨Nat.le_of_ble_eq_true rfl, Nat.le_of_ble_eq_true rfl⟩ rfl (fun u H locs hH => ?_)
              have hH : HH G A s (mW G q f a) H locs := hH
              refine lv_icmp_lt (tgt := 77) hx hb dX3_fills_70 (by decide) (fun c_70 => ?_) (fun c_70 => ?_)
              · refine lv_iconst (v := 0) hx hb dX3_fills_77 (by decide) ?_
                refine lv_istore_n (lv' := [(3, .int 0), (4, .int (nI k)), (0, .ref (q 0)), (1, .int (nI i)), (2, .int x)]) hx hb dX3_fills_78 rfl hl (by decide) rfl (fun ls hl => ?_)
                refine lv_iinc (v := (nI (k + 1))) (lv' := [(4, .int (nI (k + 1))), (3, .int 0), (0, .ref (q 0)), (1, .int (nI i)), (2, .int x)]) hx hb dX3_fills_79 hl (k := 1) rfl (nI_1 k) (by decide) rfl (fun ls hl => ?_)
                refine lv_goto (tgt := 5) hx hb dX3_fills_82 (by decide) ?_
                exact ih (k + 1) (by omega) _ _ _ hH (lv_sub hl [0, 1, 2, 3, 4] (by rw [fillsN_0 c_15]; unfold fillC; rw [if_neg c_30, if_neg c_41, if_neg c_52, if_pos c_70]; rfl))
              · refine lv_iconst (v := 1) hx hb dX3_fills_73 (by decide) ?_
                refine lv_goto (tgt := 78) hx hb dX3_fills_74 (by decide) ?_
                refine lv_istore_n (lv' := [(3, .int 1), (4, .int (nI k)), (0, .ref (q 0)), (1, .int (nI i)), (2, .int x)]) hx hb dX3_fills_78 rfl hl (by decide) rfl (fun ls hl => ?_)
                refine lv_iinc (v := (nI (k + 1))) (lv' := [(4, .int (nI (k + 1))), (3, .int 1), (0, .ref (q 0)), (1, .int (nI i)), (2, .int x)]) hx hb dX3_fills_79 hl (k := 1) rfl (nI_1 k) (by decide) rfl (fun ls hl => ?_)
                refine lv_goto (tgt := 5) hx hb dX3_fills_82 (by decide) ?_
                exact ih (k + 1) (by omega) _ _ _ hH (lv_sub hl [0, 1, 2, 3, 4] (by rw [fillsN_0 c_15]; unfold fillC; rw [if_neg c_30, if_neg c_41, if_neg c_52, if_neg c_70]; rfl))
  exact loop nc 0 (by omega) _ _ _ hH (lv_sub hl [0, 1, 2, 3, 4] (rfl))

set_option maxHeartbeats 4000000 in
set_option maxRecDepth 100000 in
theorem c_X3_isFilled_1 (l : Launch) (G : Gx) (q : Nat → Nat) (f : Nat → Int32) (a : Nat → Nat → Int32) (n : Nat) (e0 : f 0 = nI n) (hn : n ≤ 8) (i : Nat) (hi : i < n) (cn : Nat) (e3 : a 3 i = nI cn) (hcn : cn ≤ 30) (nc : Nat) (e10 : f 10 = nI nc) (hnc : nc ≤ 10) (j : Nat) (hj : j ≤ 200) : MI l yX3_isFilled wsX3_isFilled ({ frames := 2, cells := 0, slots := 0, locals := 48 } : Room) [.ref (q 0), .int (nI i), .int (nI j)] G (mW G q f a) (fun u => mW G q (va_up f 24 0) a) (fillsN a i (nI j) (cutM a i (nI j) cn) nc) := by
  refine ofMI (cc := cX3_isFilled) (maxL := 3) (ret := (some .boolean)) (by decide) rfl (Nat.le_of_ble_eq_true rfl) (fun p e s m below meth c A ls F hr hnm hH hl => ?_)
  have F : Fx G p s m _ meth c cX3_isFilled 3 wsX3_isFilled RX3 A := F
  have hx := F.1.1
  have hb := F.1.2.1
  have hl : lv_has ls 3 [(0, .ref (q 0)), (1, .int (nI i)), (2, .int (nI j))] := hl
  refine lv_aload_n hx hb dX3_isFilled_0 rfl (lv_at hl 0 rfl) ?_
  refine lv_aload_n hx hb dX3_isFilled_1 rfl (lv_at hl 0 rfl) ?_
  refine lv_iload_n hx hb dX3_isFilled_2 rfl (lv_at hl 1 rfl) ?_
  refine callVI0 (rest := [.ref (q 0)]) F (c_X3_isWorker_1 l G q f a n e0 hn i hi) gX3_isFilled_X3_isWorker rfl hdX3_isWorker ⟨Nat.le_of_ble_eq_true rfl, Nat.le_of_ble_eq_true rfl⟩ hH ⟨0, 3, _, _, rfl, rfl, rfl⟩ rfl hl.1 (Nat.le_of_ble_eq_true rfl) dX3_isFilled_3 ⟨Nat.le_of_ble_eq_true rfl, Nat.le_of_ble_eq_true rfl⟩ rfl (fun u H locs hH => ?_)
  have hH : HH G A s (mW G q f a) H locs := hH
  refine callVI0 (rest := []) F (c_X3_asks_1 l G q f a) gX3_isFilled_X3_asks rfl hdX3_asks ⟨Nat.le_of_ble_eq_true rfl, Nat.le_of_ble_eq_true rfl⟩ hH ⟨0, 3, _, _, rfl, rfl, rfl⟩ rfl hl.1 (Nat.le_of_ble_eq_true rfl) dX3_isFilled_6 ⟨Nat.le_of_ble_eq_true rfl, Nat.le_of_ble_eq_true rfl⟩ rfl (fun u H locs hH => ?_)
  have hH : HH G A s (mW G q (va_up f 24 0) a) H locs := hH
  refine lv_if_ne (tgt := 14) hx hb dX3_isFilled_9 (by decide) (fun c_9 => ?_) (fun c_9 => absurd c_9 (by decide))
  refine lv_iload_n hx hb dX3_isFilled_14 rfl (lv_at hl 2 rfl) ?_
  refine lv_iconst (v := 0) hx hb dX3_isFilled_15 (by decide) ?_
  refine lv_sipush (v := 200) hx hb dX3_isFilled_16 (by decide) ?_
  refine callSI0 (rest := []) F (c_X3_in_1 l G _ (nI j) 0 200 (nI_pos' (by omega)) (nI_le (a := j) (b := 200) hj (by decide))) gX3_isFilled_X3_in rfl hdX3_in ⟨Nat.le_of_ble_eq_true rfl, Nat.le_of_ble_eq_true rfl⟩ hH rfl hl.1 (Nat.le_of_ble_eq_true rfl) dX3_isFilled_19 ⟨Nat.le_of_ble_eq_true rfl, Nat.le_of_ble_eq_true rfl⟩ rfl (fun u H locs hH => ?_)
  have hH : HH G A s (mW G q (va_up f 24 0) a) H locs := hH
  refine lv_if_ne (tgt := 33) hx hb dX3_isFilled_22 (by decide) (fun c_22 => ?_) (fun c_22 => absurd c_22 (by decide))
  refine lv_aload_n hx hb dX3_isFilled_33 rfl (lv_at hl 0 rfl) ?_
  refine lv_iload_n hx hb dX3_isFilled_34 rfl (lv_at hl 1 rfl) ?_
  refine lv_iload_n hx hb dX3_isFilled_35 rfl (lv_at hl 2 rfl) ?_
  refine callVI0 (rest := []) F (c_X3_fills l G q (va_up f 24 0) a i (by omega) cn e3 hcn nc e10 hnc (nI j)) gX3_isFilled_X3_fills rfl hdX3_fills ⟨Nat.le_of_ble_eq_true rfl, Nat.le_of_ble_eq_true rfl⟩ hH ⟨0, 3, _, _, rfl, rfl, rfl⟩ rfl hl.1 (Nat.le_of_ble_eq_true rfl) dX3_isFilled_36 ⟨Nat.le_of_ble_eq_true rfl, Nat.le_of_ble_eq_true rfl⟩ rfl (fun u H locs hH => ?_)
  have hH : HH G A s (mW G q (va_up f 24 0) a) H locs := hH
  exact retI F hr (nar01 (fillsN_01 _)) (fun _ => 0) hH rfl (Nat.le_of_ble_eq_true rfl) (Nat.le_of_ble_eq_true rfl) dX3_isFilled_39

set_option maxHeartbeats 4000000 in
set_option maxRecDepth 100000 in
theorem c_X3_isFilled_2 (l : Launch) (G : Gx) (q : Nat → Nat) (f : Nat → Int32) (a : Nat → Nat → Int32) (n : Nat) (e0 : f 0 = nI n) (hn : n ≤ 8) (i : Nat) (hi : i < n) (w : Int32) (h : w < 0 ∨ 200 < w) : MI l yX3_isFilled wsX3_isFilled ({ frames := 1, cells := 0, slots := 0, locals := 22 } : Room) [.ref (q 0), .int (nI i), .int w] G (mW G q f a) (fun u => mW G q (va_up f 24 2) a) 0 := by
  refine ofMI (cc := cX3_isFilled) (maxL := 3) (ret := (some .boolean)) (by decide) rfl (Nat.le_of_ble_eq_true rfl) (fun p e s m below meth c A ls F hr hnm hH hl => ?_)
  have F : Fx G p s m _ meth c cX3_isFilled 3 wsX3_isFilled RX3 A := F
  have hx := F.1.1
  have hb := F.1.2.1
  have hl : lv_has ls 3 [(0, .ref (q 0)), (1, .int (nI i)), (2, .int w)] := hl
  refine lv_aload_n hx hb dX3_isFilled_0 rfl (lv_at hl 0 rfl) ?_
  refine lv_aload_n hx hb dX3_isFilled_1 rfl (lv_at hl 0 rfl) ?_
  refine lv_iload_n hx hb dX3_isFilled_2 rfl (lv_at hl 1 rfl) ?_
  refine callVI0 (rest := [.ref (q 0)]) F (c_X3_isWorker_1 l G q f a n e0 hn i hi) gX3_isFilled_X3_isWorker rfl hdX3_isWorker ⟨Nat.le_of_ble_eq_true rfl, Nat.le_of_ble_eq_true rfl⟩ hH ⟨0, 3, _, _, rfl, rfl, rfl⟩ rfl hl.1 (Nat.le_of_ble_eq_true rfl) dX3_isFilled_3 ⟨Nat.le_of_ble_eq_true rfl, Nat.le_of_ble_eq_true rfl⟩ rfl (fun u H locs hH => ?_)
  have hH : HH G A s (mW G q f a) H locs := hH
  refine callVI0 (rest := []) F (c_X3_asks_1 l G q f a) gX3_isFilled_X3_asks rfl hdX3_asks ⟨Nat.le_of_ble_eq_true rfl, Nat.le_of_ble_eq_true rfl⟩ hH ⟨0, 3, _, _, rfl, rfl, rfl⟩ rfl hl.1 (Nat.le_of_ble_eq_true rfl) dX3_isFilled_6 ⟨Nat.le_of_ble_eq_true rfl, Nat.le_of_ble_eq_true rfl⟩ rfl (fun u H locs hH => ?_)
  have hH : HH G A s (mW G q (va_up f 24 0) a) H locs := hH
  refine lv_if_ne (tgt := 14) hx hb dX3_isFilled_9 (by decide) (fun c_9 => ?_) (fun c_9 => absurd c_9 (by decide))
  refine lv_iload_n hx hb dX3_isFilled_14 rfl (lv_at hl 2 rfl) ?_
  refine lv_iconst (v := 0) hx hb dX3_isFilled_15 (by decide) ?_
  refine lv_sipush (v := 200) hx hb dX3_isFilled_16 (by decide) ?_
  refine callSI0 (rest := []) F (c_X3_in_0 l G _ w 0 200 h) gX3_isFilled_X3_in rfl hdX3_in ⟨Nat.le_of_ble_eq_true rfl, Nat.le_of_ble_eq_true rfl⟩ hH rfl hl.1 (Nat.le_of_ble_eq_true rfl) dX3_isFilled_19 ⟨Nat.le_of_ble_eq_true rfl, Nat.le_of_ble_eq_true rfl⟩ rfl (fun u H locs hH => ?_)
  have hH : HH G A s (mW G q (va_up f 24 0) a) H locs := hH
  refine lv_if_ne (tgt := 33) hx hb dX3_isFilled_22 (by decide) (fun c_22 => absurd rfl c_22) (fun c_22 => ?_)
  refine lv_aload_n hx hb dX3_isFilled_25 rfl (lv_at hl 0 rfl) ?_
  refine lv_iconst (v := 2) hx hb dX3_isFilled_26 (by decide) ?_
  refine callVI0 (rest := []) F (c_X3_fails l G q (va_up f 24 0) a 2) gX3_isFilled_X3_fails rfl hdX3_fails ⟨Nat.le_of_ble_eq_true rfl, Nat.le_of_ble_eq_true rfl⟩ hH ⟨0, 3, _, _, rfl, rfl, rfl⟩ rfl hl.1 (Nat.le_of_ble_eq_true rfl) dX3_isFilled_27 ⟨Nat.le_of_ble_eq_true rfl, Nat.le_of_ble_eq_true rfl⟩ rfl (fun u H locs hH => ?_)
  have hH : HH G A s (mW G q (va_up f 24 2) a) H locs := hH
  refine lv_pop hx hb dX3_isFilled_30 rfl ?_
  refine lv_iconst (v := 0) hx hb dX3_isFilled_31 (by decide) ?_
  exact retI F hr rfl (fun _ => 0) hH rfl (Nat.le_of_ble_eq_true rfl) (Nat.le_of_ble_eq_true rfl) dX3_isFilled_32

set_option maxHeartbeats 4000000 in
set_option maxRecDepth 100000 in
theorem c_X3_isFilled_0 (l : Launch) (G : Gx) (q : Nat → Nat) (f : Nat → Int32) (a : Nat → Nat → Int32) (n : Nat) (e0 : f 0 = nI n) (hn : n ≤ 8) (v : Int32) (h : v < 0 ∨ nI n ≤ v) (w : Int32) : MI l yX3_isFilled wsX3_isFilled ({ frames := 1, cells := 0, slots := 0, locals := 21 } : Room) [.ref (q 0), .int v, .int w] G (mW G q f a) (fun u => mW G q (va_up f 24 1) a) 0 := by
  refine ofMI (cc := cX3_isFilled) (maxL := 3) (ret := (some .boolean)) (by decide) rfl (Nat.le_of_ble_eq_true rfl) (fun p e s m below meth c A ls F hr hnm hH hl => ?_)
  have F : Fx G p s m _ meth c cX3_isFilled 3 wsX3_isFilled RX3 A := F
  have hx := F.1.1
  have hb := F.1.2.1
  have hl : lv_has ls 3 [(0, .ref (q 0)), (1, .int v), (2, .int w)] := hl
  refine lv_aload_n hx hb dX3_isFilled_0 rfl (lv_at hl 0 rfl) ?_
  refine lv_aload_n hx hb dX3_isFilled_1 rfl (lv_at hl 0 rfl) ?_
  refine lv_iload_n hx hb dX3_isFilled_2 rfl (lv_at hl 1 rfl) ?_
  refine callVI0 (rest := [.ref (q 0)]) F (c_X3_isWorker_0 l G q f a n e0 hn v h) gX3_isFilled_X3_isWorker rfl hdX3_isWorker ⟨Nat.le_of_ble_eq_true rfl, Nat.le_of_ble_eq_true rfl⟩ hH ⟨0, 3, _, _, rfl, rfl, rfl⟩ rfl hl.1 (Nat.le_of_ble_eq_true rfl) dX3_isFilled_3 ⟨Nat.le_of_ble_eq_true rfl, Nat.le_of_ble_eq_true rfl⟩ rfl (fun u H locs hH => ?_)
  have hH : HH G A s (mW G q f a) H locs := hH
  refine callVI0 (rest := []) F (c_X3_asks_0 l G q f a) gX3_isFilled_X3_asks rfl hdX3_asks ⟨Nat.le_of_ble_eq_true rfl, Nat.le_of_ble_eq_true rfl⟩ hH ⟨0, 3, _, _, rfl, rfl, rfl⟩ rfl hl.1 (Nat.le_of_ble_eq_true rfl) dX3_isFilled_6 ⟨Nat.le_of_ble_eq_true rfl, Nat.le_of_ble_eq_true rfl⟩ rfl (fun u H locs hH => ?_)
  have hH : HH G A s (mW G q (va_up f 24 1) a) H locs := hH
  refine lv_if_ne (tgt := 14) hx hb dX3_isFilled_9 (by decide) (fun c_9 => absurd rfl c_9) (fun c_9 => ?_)
  refine lv_iconst (v := 0) hx hb dX3_isFilled_12 (by decide) ?_
  exact retI F hr rfl (fun _ => 0) hH rfl (Nat.le_of_ble_eq_true rfl) (Nat.le_of_ble_eq_true rfl) dX3_isFilled_13

set_option maxHeartbeats 4000000 in
set_option maxRecDepth 100000 in
theorem c_X3_meets (l : Launch) (G : Gx) (q : Nat → Nat) (f : Nat → Int32) (a : Nat → Nat → Int32) (i : Nat) (hi : i < 8) (nc : Nat) (e10 : f 10 = nI nc) (hnc : nc ≤ 10) (j : Nat) (hj : j < nc) : MI l yX3_meets wsX3_meets ({ frames := 0, cells := 0, slots := 0, locals := 0 } : Room) [.ref (q 0), .int (nI i), .int (nI j)] G (mW G q f a) (fun u => mW G q f a) (meetsN a i j nc) := by
  refine ofMI (cc := cX3_meets) (maxL := 5) (ret := (some .boolean)) (by decide) rfl (Nat.le_of_ble_eq_true rfl) (fun p e s m below meth c A ls F hr hnm hH hl => ?_)
  have F : Fx G p s m _ meth c cX3_meets 5 wsX3_meets RX3 A := F
  have hx := F.1.1
  have hb := F.1.2.1
  have hl : lv_has ls 5 [(0, .ref (q 0)), (1, .int (nI i)), (2, .int (nI j))] := hl
  refine lv_iconst (v := 0) hx hb dX3_meets_0 (by decide) ?_
  refine lv_istore_n (lv' := [(3, .int 0), (0, .ref (q 0)), (1, .int (nI i)), (2, .int (nI j))]) hx hb dX3_meets_1 rfl hl (by decide) rfl (fun ls hl => ?_)
  refine lv_iconst (v := 0) hx hb dX3_meets_2 (by decide) ?_
  refine lv_istore (lv' := [(4, .int 0), (3, .int 0), (0, .ref (q 0)), (1, .int (nI i)), (2, .int (nI j))]) hx hb dX3_meets_3 hl (by decide) rfl (fun ls hl => ?_)
  have loop : ∀ (n9 : Nat) (k : Nat) (hc9 : k + n9 = nc)  (H : Heap) (locs : List Loc) (ls : Array Slot), HH G A s (mW G q f a) H locs → lv_has ls 5 [(4, .int (nI k)), (3, .int (meetsN a i j k)), (0, .ref (q 0)), (1, .int (nI i)), (2, .int (nI j))] → W p l e ({ frames := 0, cells := 0, slots := 0, locals := 0 } : Room) s m [.ref (q 0), .int (nI i), .int (nI j)].toArray below meth c H locs 0 0 (EnI G A below s [.ref (q 0), .int (nI i), .int (nI j)].toArray ({ frames := 0, cells := 0, slots := 0, locals := 0 } : Room) (fun u => mW G q f a) (meetsN a i j nc)) (F0 m 5 ls []) := by
    intro n9
    induction n9 with
    | zero =>
      intro k hc9  H locs ls hH hl
      refine lv_iload hx hb dX3_meets_5 (lv_at hl 0 rfl) ?_
      refine lv_aload_n hx hb dX3_meets_7 rfl (lv_at hl 2 rfl) ?_
      refine rget (C := RX3) (T := TX3) (N := 25) (ref := RX3) F in_X3_meets_X3 hH 0 rfl rfl 10 (by decide) (by decide +kernel) (fun _ h9 => h9) (v := .int (f 10)) rfl dX3_meets_8 ?_
      refine lv_icmp_ge (tgt := 77) hx hb dX3_meets_11 (by decide) (fun c_11 => ?_) (fun c_11 => absurd (by rw [e10]; exact nI_le (by omega) (by omega)) c_11)
      refine lv_iload_n hx hb dX3_meets_77 rfl (lv_at hl 1 rfl) ?_
      exact retI F hr (nar01 (meetsN_01 _)) (fun _ => 0) hH (by rw [show k = nc by omega]) (Nat.le_of_ble_eq_true rfl) (Nat.le_of_ble_eq_true rfl) dX3_meets_78
    | succ n9 ih =>
      intro k hc9  H locs ls hH hl
      refine lv_iload hx hb dX3_meets_5 (lv_at hl 0 rfl) ?_
      refine lv_aload_n hx hb dX3_meets_7 rfl (lv_at hl 2 rfl) ?_
      refine rget (C := RX3) (T := TX3) (N := 25) (ref := RX3) F in_X3_meets_X3 hH 0 rfl rfl 10 (by decide) (by decide +kernel) (fun _ h9 => h9) (v := .int (f 10)) rfl dX3_meets_8 ?_
      refine lv_icmp_ge (tgt := 77) hx hb dX3_meets_11 (by decide) (fun c_11 => absurd c_11 (by rw [e10]; exact nI_ge (by omega) (by omega))) (fun c_11 => ?_)
      refine lv_iload_n hx hb dX3_meets_14 rfl (lv_at hl 1 rfl) ?_
      refine lv_if_ne (tgt := 65) hx hb dX3_meets_15 (by decide) (fun c_15 => ?_) (fun c_15 => ?_)
      · refine lv_iconst (v := 1) hx hb dX3_meets_65 (by decide) ?_
        refine lv_goto (tgt := 70) hx hb dX3_meets_66 (by decide) ?_
        refine lv_istore_n (lv' := [(3, .int 1), (4, .int (nI k)), (0, .ref (q 0)), (1, .int (nI i)), (2, .int (nI j))]) hx hb dX3_meets_70 rfl hl (by decide) rfl (fun ls hl => ?_)
        refine lv_iinc (v := (nI (k + 1))) (lv' := [(4, .int (nI (k + 1))), (3, .int 1), (0, .ref (q 0)), (1, .int (nI i)), (2, .int (nI j))]) hx hb dX3_meets_71 hl (k := 1) rfl (nI_1 k) (by decide) rfl (fun ls hl => ?_)
        refine lv_goto (tgt := 5) hx hb dX3_meets_74 (by decide) ?_
        exact ih (k + 1) (by omega) _ _ _ hH (lv_sub hl [0, 1, 2, 3, 4] (by rw [meetsN_1 c_15]; rfl))
      · refine lv_aload_n hx hb dX3_meets_18 rfl (lv_at hl 2 rfl) ?_
        refine rget (C := RX3) (T := TX3) (N := 25) (ref := RX3) F in_X3_meets_X3 hH 0 rfl rfl 15 (by decide) (by decide +kernel) (fun _ h9 => h9) (v := .ref (q 15)) rfl dX3_meets_19 ?_
        refine lv_bipush (v := 8) hx hb dX3_meets_22 (by decide) ?_
        refine lv_iload hx hb dX3_meets_24 (lv_at hl 0 rfl) ?_
        refine lv_imul hx hb dX3_meets_26 ?_
        refine lv_iload_n hx hb dX3_meets_27 rfl (lv_at hl 3 rfl) ?_
        refine lv_iadd hx hb dX3_meets_28 ?_
        refine rzald F hH 13 (n := 80) (f := a 15) rfl (8 * k + i) (ix8 k i) (by omega) (by decide) dX3_meets_29 ?_
        refine lv_if_eq (tgt := 69) hx hb dX3_meets_30 (by decide) (fun c_30 => ?_) (fun c_30 => ?_)
        · refine lv_iconst (v := 0) hx hb dX3_meets_69 (by decide) ?_
          refine lv_istore_n (lv' := [(3, .int 0), (4, .int (nI k)), (0, .ref (q 0)), (1, .int (nI i)), (2, .int (nI j))]) hx hb dX3_meets_70 rfl hl (by decide) rfl (fun ls hl => ?_)
          refine lv_iinc (v := (nI (k + 1))) (lv' := [(4, .int (nI (k + 1))), (3, .int 0), (0, .ref (q 0)), (1, .int (nI i)), (2, .int (nI j))]) hx hb dX3_meets_71 hl (k := 1) rfl (nI_1 k) (by decide) rfl (fun ls hl => ?_)
          refine lv_goto (tgt := 5) hx hb dX3_meets_74 (by decide) ?_
          exact ih (k + 1) (by omega) _ _ _ hH (lv_sub hl [0, 1, 2, 3, 4] (by rw [meetsN_0 c_15]; unfold meetC; rw [if_pos c_30]; rfl))
        · refine lv_aload_n hx hb dX3_meets_33 rfl (lv_at hl 2 rfl) ?_
          refine rget (C := RX3) (T := TX3) (N := 25) (ref := RX3) F in_X3_meets_X3 hH 0 rfl rfl 12 (by decide) (by decide +kernel) (fun _ h9 => h9) (v := .ref (q 12)) rfl dX3_meets_34 ?_
          refine lv_iload hx hb dX3_meets_37 (lv_at hl 0 rfl) ?_
          refine riald F hH 10 (n := 10) (f := a 12) rfl k rfl (by omega) (by decide) dX3_meets_39 ?_
          refine lv_aload_n hx hb dX3_meets_40 rfl (lv_at hl 2 rfl) ?_
          refine rget (C := RX3) (T := TX3) (N := 25) (ref := RX3) F in_X3_meets_X3 hH 0 rfl rfl 13 (by decide) (by decide +kernel) (fun _ h9 => h9) (v := .ref (q 13)) rfl dX3_meets_41 ?_
          refine lv_iload_n hx hb dX3_meets_44 rfl (lv_at hl 4 rfl) ?_
          refine riald F hH 11 (n := 10) (f := a 13) rfl j rfl (by omega) (by decide) dX3_meets_45 ?_
          refine lv_icmp_gt (tgt := 69) hx hb dX3_meets_46 (by decide) (fun c_46 => ?_) (fun c_46 => ?_)
          · refine lv_iconst (v := 0) hx hb dX3_meets_69 (by decide) ?_
            refine lv_istore_n (lv' := [(3, .int 0), (4, .int (nI k)), (0, .ref (q 0)), (1, .int (nI i)), (2, .int (nI j))]) hx hb dX3_meets_70 rfl hl (by decide) rfl (fun ls hl => ?_)
            refine lv_iinc (v := (nI (k + 1))) (lv' := [(4, .int (nI (k + 1))), (3, .int 0), (0, .ref (q 0)), (1, .int (nI i)), (2, .int (nI j))]) hx hb dX3_meets_71 hl (k := 1) rfl (nI_1 k) (by decide) rfl (fun ls hl => ?_)
            refine lv_goto (tgt := 5) hx hb dX3_meets_74 (by decide) ?_
            exact ih (k + 1) (by omega) _ _ _ hH (lv_sub hl [0, 1, 2, 3, 4] (by rw [meetsN_0 c_15]; unfold meetC; rw [if_neg c_30, if_pos c_46]; rfl))
          · refine lv_aload_n hx hb dX3_meets_49 rfl (lv_at hl 2 rfl) ?_
            refine rget (C := RX3) (T := TX3) (N := 25) (ref := RX3) F in_X3_meets_X3 hH 0 rfl rfl 12 (by decide) (by decide +kernel) (fun _ h9 => h9) (v := .ref (q 12)) rfl dX3_meets_50 ?_
            refine lv_iload_n hx hb dX3_meets_53 rfl (lv_at hl 4 rfl) ?_
            refine riald F hH 10 (n := 10) (f := a 12) rfl j rfl (by omega) (by decide) dX3_meets_54 ?_
            refine lv_aload_n hx hb dX3_meets_55 rfl (lv_at hl 2 rfl) ?_
            refine rget (C := RX3) (T := TX3) (N := 25) (ref := RX3) F in_X3_meets_X3 hH 0 rfl rfl 13 (by decide) (by decide +kernel) (fun _ h9 => h9) (v := .ref (q 13)) rfl dX3_meets_56 ?_
            refine lv_iload hx hb dX3_meets_59 (lv_at hl 0 rfl) ?_
            refine riald F hH 11 (n := 10) (f := a 13) rfl k rfl (by omega) (by decide) dX3_meets_61 ?_
            refine lv_icmp_gt (tgt := 69) hx hb dX3_meets_62 (by decide) (fun c_62 => ?_) (fun c_62 => ?_)
            · refine lv_iconst (v := 0) hx hb dX3_meets_69 (by decide) ?_
              refine lv_istore_n (lv' := [(3, .int 0), (4, .int (nI k)), (0, .ref (q 0)), (1, .int (nI i)), (2, .int (nI j))]) hx hb dX3_meets_70 rfl hl (by decide) rfl (fun ls hl => ?_)
              refine lv_iinc (v := (nI (k + 1))) (lv' := [(4, .int (nI (k + 1))), (3, .int 0), (0, .ref (q 0)), (1, .int (nI i)), (2, .int (nI j))]) hx hb dX3_meets_71 hl (k := 1) rfl (nI_1 k) (by decide) rfl (fun ls hl => ?_)
              refine lv_goto (tgt := 5) hx hb dX3_meets_74 (by decide) ?_
              exact ih (k + 1) (by omega) _ _ _ hH (lv_sub hl [0, 1, 2, 3, 4] (by rw [meetsN_0 c_15]; unfold meetC; rw [if_neg c_30, if_neg c_46, if_pos c_62]; rfl))
            · refine lv_iconst (v := 1) hx hb dX3_meets_65 (by decide) ?_
              refine lv_goto (tgt := 70) hx hb dX3_meets_66 (by decide) ?_
              refine lv_istore_n (lv' := [(3, .int 1), (4, .int (nI k)), (0, .ref (q 0)), (1, .int (nI i)), (2, .int (nI j))]) hx hb dX3_meets_70 rfl hl (by decide) rfl (fun ls hl => ?_)
              refine lv_iinc (v := (nI (k + 1))) (lv' := [(4, .int (nI (k + 1))), (3, .int 1), (0, .ref (q 0)), (1, .int (nI i)), (2, .int (nI j))]) hx hb dX3_meets_71 hl (k := 1) rfl (nI_1 k) (by decide) rfl (fun ls hl => ?_)
              refine lv_goto (tgt := 5) hx hb dX3_meets_74 (by decide) ?_
              exact ih (k + 1) (by omega) _ _ _ hH (lv_sub hl [0, 1, 2, 3, 4] (by rw [meetsN_0 c_15]; unfold meetC; rw [if_neg c_30, if_neg c_46, if_neg c_62]; rfl))
  exact loop nc 0 (by omega) _ _ _ hH (lv_sub hl [0, 1, 2, 3, 4] (rfl))

set_option maxHeartbeats 4000000 in
set_option maxRecDepth 100000 in
theorem c_X3_percent (l : Launch) (G : Gx) (q : Nat → Nat) (f : Nat → Int32) (a : Nat → Nat → Int32) (i : Nat) (hi : i < 8) (cn : Nat) (e3 : a 3 i = nI cn) (hcn : cn ≤ 30) (nc : Nat) (e10 : f 10 = nI nc) (hnc : nc ≤ 10) (t : Nat) (e16 : f 16 = nI t) : MI l yX3_percent wsX3_percent ({ frames := 2, cells := 0, slots := 0, locals := 48 } : Room) [.ref (q 0), .int (nI i)] G (mW G q f a) (fun u => mW G q f a) (pctM (a 2 i) (a 7 i) (fillsN a i (f 16) (cutM a i (f 16) cn) nc)) := by
  refine ofMI (cc := cX3_percent) (maxL := 5) (ret := (some .int)) (by decide) rfl (Nat.le_of_ble_eq_true rfl) (fun p e s m below meth c A ls F hr hnm hH hl => ?_)
  have F : Fx G p s m _ meth c cX3_percent 5 wsX3_percent RX3 A := F
  have hx := F.1.1
  have hb := F.1.2.1
  have hl : lv_has ls 5 [(0, .ref (q 0)), (1, .int (nI i))] := hl
  refine lv_aload_n hx hb dX3_percent_0 rfl (lv_at hl 0 rfl) ?_
  refine lv_iload_n hx hb dX3_percent_1 rfl (lv_at hl 1 rfl) ?_
  refine lv_aload_n hx hb dX3_percent_2 rfl (lv_at hl 0 rfl) ?_
  refine rget (C := RX3) (T := TX3) (N := 25) (ref := RX3) F in_X3_percent_X3 hH 0 rfl rfl 16 (by decide) (by decide +kernel) (fun _ h9 => h9) (v := .int (f 16)) rfl dX3_percent_3 ?_
  refine callVI0 (rest := []) F (c_X3_fills l G q f a i (by omega) cn e3 hcn nc e10 hnc (f 16)) gX3_percent_X3_fills rfl hdX3_fills ⟨Nat.le_of_ble_eq_true rfl, Nat.le_of_ble_eq_true rfl⟩ hH ⟨0, 3, _, _, rfl, rfl, rfl⟩ rfl hl.1 (Nat.le_of_ble_eq_true rfl) dX3_percent_6 ⟨Nat.le_of_ble_eq_true rfl, Nat.le_of_ble_eq_true rfl⟩ rfl (fun u H locs hH => ?_)
  have hH : HH G A s (mW G q f a) H locs := hH
  refine lv_istore_n (lv' := [(2, .int (fillsN a i (f 16) (cutM a i (f 16) cn) nc)), (0, .ref (q 0)), (1, .int (nI i))]) hx hb dX3_percent_9 rfl hl (by decide) rfl (fun ls hl => ?_)
  refine lv_aload_n hx hb dX3_percent_10 rfl (lv_at hl 1 rfl) ?_
  refine rget (C := RX3) (T := TX3) (N := 25) (ref := RX3) F in_X3_percent_X3 hH 0 rfl rfl 7 (by decide) (by decide +kernel) (fun _ h9 => h9) (v := .ref (q 7)) rfl dX3_percent_11 ?_
  refine lv_iload_n hx hb dX3_percent_14 rfl (lv_at hl 2 rfl) ?_
  refine riald F hH 7 (n := 8) (f := a 7) rfl i rfl (by omega) (by decide) dX3_percent_15 ?_
  refine lv_istore_n (lv' := [(3, .int (a 7 i)), (2, .int (fillsN a i (f 16) (cutM a i (f 16) cn) nc)), (0, .ref (q 0)), (1, .int (nI i))]) hx hb dX3_percent_16 rfl hl (by decide) rfl (fun ls hl => ?_)
  refine lv_iload_n hx hb dX3_percent_17 rfl (lv_at hl 0 rfl) ?_
  refine lv_bipush (v := 24) hx hb dX3_percent_18 (by decide) ?_
  refine lv_icmp_lt (tgt := 28) hx hb dX3_percent_20 (by decide) (fun c_20 => ?_) (fun c_20 => ?_)
  · refine lv_iload_n hx hb dX3_percent_28 rfl (lv_at hl 0 rfl) ?_
    refine lv_bipush (v := 12) hx hb dX3_percent_29 (by decide) ?_
    refine lv_icmp_lt (tgt := 39) hx hb dX3_percent_31 (by decide) (fun c_31 => ?_) (fun c_31 => ?_)
    · refine lv_bipush (v := 60) hx hb dX3_percent_39 (by decide) ?_
      refine lv_istore (lv' := [(4, .int 60), (3, .int (a 7 i)), (2, .int (fillsN a i (f 16) (cutM a i (f 16) cn) nc)), (0, .ref (q 0)), (1, .int (nI i))]) hx hb dX3_percent_41 hl (by decide) rfl (fun ls hl => ?_)
      refine lv_iload hx hb dX3_percent_43 (lv_at hl 0 rfl) ?_
      refine lv_aload_n hx hb dX3_percent_45 rfl (lv_at hl 3 rfl) ?_
      refine rget (C := RX3) (T := TX3) (N := 25) (ref := RX3) F in_X3_percent_X3 hH 0 rfl rfl 2 (by decide) (by decide +kernel) (fun _ h9 => h9) (v := .ref (q 2)) rfl dX3_percent_46 ?_
      refine lv_iload_n hx hb dX3_percent_49 rfl (lv_at hl 4 rfl) ?_
      refine rzald F hH 2 (n := 8) (f := a 2) rfl i rfl (by omega) (by decide) dX3_percent_50 ?_
      refine lv_if_eq (tgt := 59) hx hb dX3_percent_51 (by decide) (fun c_51 => ?_) (fun c_51 => ?_)
      · refine lv_iconst (v := 0) hx hb dX3_percent_59 (by decide) ?_
        refine lv_iadd hx hb dX3_percent_60 ?_
        refine lv_istore (lv' := [(4, .int (60 + 0)), (3, .int (a 7 i)), (2, .int (fillsN a i (f 16) (cutM a i (f 16) cn) nc)), (0, .ref (q 0)), (1, .int (nI i))]) hx hb dX3_percent_61 hl (by decide) rfl (fun ls hl => ?_)
        refine lv_iload hx hb dX3_percent_63 (lv_at hl 0 rfl) ?_
        refine lv_iload_n hx hb dX3_percent_65 rfl (lv_at hl 2 rfl) ?_
        refine lv_if_eq (tgt := 73) hx hb dX3_percent_66 (by decide) (fun c_66 => ?_) (fun c_66 => ?_)
        · refine lv_iload_n hx hb dX3_percent_73 rfl (lv_at hl 1 rfl) ?_
          refine lv_bipush (v := 12) hx hb dX3_percent_74 (by decide) ?_
          refine lv_icmp_lt (tgt := 84) hx hb dX3_percent_76 (by decide) (fun c_76 => ?_) (fun c_76 => ?_)
          · refine lv_iconst (v := 0) hx hb dX3_percent_84 (by decide) ?_
            refine lv_iadd hx hb dX3_percent_85 ?_
            exact retI F hr rfl (fun _ => 0) hH (by unfold pctM stepP; rw [if_pos c_20, if_pos c_31, if_pos c_51, if_pos c_66, if_pos c_76]) (Nat.le_of_ble_eq_true rfl) (Nat.le_of_ble_eq_true rfl) dX3_percent_86
          · refine lv_bipush (v := (-10)) hx hb dX3_percent_79 (by decide) ?_
            refine lv_goto (tgt := 85) hx hb dX3_percent_81 (by decide) ?_
            refine lv_iadd hx hb dX3_percent_85 ?_
            exact retI F hr rfl (fun _ => 0) hH (by unfold pctM stepP; rw [if_pos c_20, if_pos c_31, if_pos c_51, if_pos c_66, if_neg c_76]) (Nat.le_of_ble_eq_true rfl) (Nat.le_of_ble_eq_true rfl) dX3_percent_86
        · refine lv_iconst (v := 5) hx hb dX3_percent_69 (by decide) ?_
          refine lv_goto (tgt := 85) hx hb dX3_percent_70 (by decide) ?_
          refine lv_iadd hx hb dX3_percent_85 ?_
          exact retI F hr rfl (fun _ => 0) hH (by unfold pctM stepP; rw [if_pos c_20, if_pos c_31, if_pos c_51, if_neg c_66]) (Nat.le_of_ble_eq_true rfl) (Nat.le_of_ble_eq_true rfl) dX3_percent_86
      · refine lv_bipush (v := 7) hx hb dX3_percent_54 (by decide) ?_
        refine lv_goto (tgt := 60) hx hb dX3_percent_56 (by decide) ?_
        refine lv_iadd hx hb dX3_percent_60 ?_
        refine lv_istore (lv' := [(4, .int (60 + 7)), (3, .int (a 7 i)), (2, .int (fillsN a i (f 16) (cutM a i (f 16) cn) nc)), (0, .ref (q 0)), (1, .int (nI i))]) hx hb dX3_percent_61 hl (by decide) rfl (fun ls hl => ?_)
        refine lv_iload hx hb dX3_percent_63 (lv_at hl 0 rfl) ?_
        refine lv_iload_n hx hb dX3_percent_65 rfl (lv_at hl 2 rfl) ?_
        refine lv_if_eq (tgt := 73) hx hb dX3_percent_66 (by decide) (fun c_66 => ?_) (fun c_66 => ?_)
        · refine lv_iload_n hx hb dX3_percent_73 rfl (lv_at hl 1 rfl) ?_
          refine lv_bipush (v := 12) hx hb dX3_percent_74 (by decide) ?_
          refine lv_icmp_lt (tgt := 84) hx hb dX3_percent_76 (by decide) (fun c_76 => ?_) (fun c_76 => ?_)
          · refine lv_iconst (v := 0) hx hb dX3_percent_84 (by decide) ?_
            refine lv_iadd hx hb dX3_percent_85 ?_
            exact retI F hr rfl (fun _ => 0) hH (by unfold pctM stepP; rw [if_pos c_20, if_pos c_31, if_neg c_51, if_pos c_66, if_pos c_76]) (Nat.le_of_ble_eq_true rfl) (Nat.le_of_ble_eq_true rfl) dX3_percent_86
          · refine lv_bipush (v := (-10)) hx hb dX3_percent_79 (by decide) ?_
            refine lv_goto (tgt := 85) hx hb dX3_percent_81 (by decide) ?_
            refine lv_iadd hx hb dX3_percent_85 ?_
            exact retI F hr rfl (fun _ => 0) hH (by unfold pctM stepP; rw [if_pos c_20, if_pos c_31, if_neg c_51, if_pos c_66, if_neg c_76]) (Nat.le_of_ble_eq_true rfl) (Nat.le_of_ble_eq_true rfl) dX3_percent_86
        · refine lv_iconst (v := 5) hx hb dX3_percent_69 (by decide) ?_
          refine lv_goto (tgt := 85) hx hb dX3_percent_70 (by decide) ?_
          refine lv_iadd hx hb dX3_percent_85 ?_
          exact retI F hr rfl (fun _ => 0) hH (by unfold pctM stepP; rw [if_pos c_20, if_pos c_31, if_neg c_51, if_neg c_66]) (Nat.le_of_ble_eq_true rfl) (Nat.le_of_ble_eq_true rfl) dX3_percent_86
    · refine lv_bipush (v := 70) hx hb dX3_percent_34 (by decide) ?_
      refine lv_goto (tgt := 41) hx hb dX3_percent_36 (by decide) ?_
      refine lv_istore (lv' := [(4, .int 70), (3, .int (a 7 i)), (2, .int (fillsN a i (f 16) (cutM a i (f 16) cn) nc)), (0, .ref (q 0)), (1, .int (nI i))]) hx hb dX3_percent_41 hl (by decide) rfl (fun ls hl => ?_)
      refine lv_iload hx hb dX3_percent_43 (lv_at hl 0 rfl) ?_
      refine lv_aload_n hx hb dX3_percent_45 rfl (lv_at hl 3 rfl) ?_
      refine rget (C := RX3) (T := TX3) (N := 25) (ref := RX3) F in_X3_percent_X3 hH 0 rfl rfl 2 (by decide) (by decide +kernel) (fun _ h9 => h9) (v := .ref (q 2)) rfl dX3_percent_46 ?_
      refine lv_iload_n hx hb dX3_percent_49 rfl (lv_at hl 4 rfl) ?_
      refine rzald F hH 2 (n := 8) (f := a 2) rfl i rfl (by omega) (by decide) dX3_percent_50 ?_
      refine lv_if_eq (tgt := 59) hx hb dX3_percent_51 (by decide) (fun c_51 => ?_) (fun c_51 => ?_)
      · refine lv_iconst (v := 0) hx hb dX3_percent_59 (by decide) ?_
        refine lv_iadd hx hb dX3_percent_60 ?_
        refine lv_istore (lv' := [(4, .int (70 + 0)), (3, .int (a 7 i)), (2, .int (fillsN a i (f 16) (cutM a i (f 16) cn) nc)), (0, .ref (q 0)), (1, .int (nI i))]) hx hb dX3_percent_61 hl (by decide) rfl (fun ls hl => ?_)
        refine lv_iload hx hb dX3_percent_63 (lv_at hl 0 rfl) ?_
        refine lv_iload_n hx hb dX3_percent_65 rfl (lv_at hl 2 rfl) ?_
        refine lv_if_eq (tgt := 73) hx hb dX3_percent_66 (by decide) (fun c_66 => ?_) (fun c_66 => ?_)
        · refine lv_iload_n hx hb dX3_percent_73 rfl (lv_at hl 1 rfl) ?_
          refine lv_bipush (v := 12) hx hb dX3_percent_74 (by decide) ?_
          refine lv_icmp_lt (tgt := 84) hx hb dX3_percent_76 (by decide) (fun c_76 => ?_) (fun c_76 => ?_)
          · refine lv_iconst (v := 0) hx hb dX3_percent_84 (by decide) ?_
            refine lv_iadd hx hb dX3_percent_85 ?_
            exact retI F hr rfl (fun _ => 0) hH (by unfold pctM stepP; rw [if_pos c_20, if_neg c_31, if_pos c_51, if_pos c_66, if_pos c_76]) (Nat.le_of_ble_eq_true rfl) (Nat.le_of_ble_eq_true rfl) dX3_percent_86
          · refine lv_bipush (v := (-10)) hx hb dX3_percent_79 (by decide) ?_
            refine lv_goto (tgt := 85) hx hb dX3_percent_81 (by decide) ?_
            refine lv_iadd hx hb dX3_percent_85 ?_
            exact retI F hr rfl (fun _ => 0) hH (by unfold pctM stepP; rw [if_pos c_20, if_neg c_31, if_pos c_51, if_pos c_66, if_neg c_76]) (Nat.le_of_ble_eq_true rfl) (Nat.le_of_ble_eq_true rfl) dX3_percent_86
        · refine lv_iconst (v := 5) hx hb dX3_percent_69 (by decide) ?_
          refine lv_goto (tgt := 85) hx hb dX3_percent_70 (by decide) ?_
          refine lv_iadd hx hb dX3_percent_85 ?_
          exact retI F hr rfl (fun _ => 0) hH (by unfold pctM stepP; rw [if_pos c_20, if_neg c_31, if_pos c_51, if_neg c_66]) (Nat.le_of_ble_eq_true rfl) (Nat.le_of_ble_eq_true rfl) dX3_percent_86
      · refine lv_bipush (v := 7) hx hb dX3_percent_54 (by decide) ?_
        refine lv_goto (tgt := 60) hx hb dX3_percent_56 (by decide) ?_
        refine lv_iadd hx hb dX3_percent_60 ?_
        refine lv_istore (lv' := [(4, .int (70 + 7)), (3, .int (a 7 i)), (2, .int (fillsN a i (f 16) (cutM a i (f 16) cn) nc)), (0, .ref (q 0)), (1, .int (nI i))]) hx hb dX3_percent_61 hl (by decide) rfl (fun ls hl => ?_)
        refine lv_iload hx hb dX3_percent_63 (lv_at hl 0 rfl) ?_
        refine lv_iload_n hx hb dX3_percent_65 rfl (lv_at hl 2 rfl) ?_
        refine lv_if_eq (tgt := 73) hx hb dX3_percent_66 (by decide) (fun c_66 => ?_) (fun c_66 => ?_)
        · refine lv_iload_n hx hb dX3_percent_73 rfl (lv_at hl 1 rfl) ?_
          refine lv_bipush (v := 12) hx hb dX3_percent_74 (by decide) ?_
          refine lv_icmp_lt (tgt := 84) hx hb dX3_percent_76 (by decide) (fun c_76 => ?_) (fun c_76 => ?_)
          · refine lv_iconst (v := 0) hx hb dX3_percent_84 (by decide) ?_
            refine lv_iadd hx hb dX3_percent_85 ?_
            exact retI F hr rfl (fun _ => 0) hH (by unfold pctM stepP; rw [if_pos c_20, if_neg c_31, if_neg c_51, if_pos c_66, if_pos c_76]) (Nat.le_of_ble_eq_true rfl) (Nat.le_of_ble_eq_true rfl) dX3_percent_86
          · refine lv_bipush (v := (-10)) hx hb dX3_percent_79 (by decide) ?_
            refine lv_goto (tgt := 85) hx hb dX3_percent_81 (by decide) ?_
            refine lv_iadd hx hb dX3_percent_85 ?_
            exact retI F hr rfl (fun _ => 0) hH (by unfold pctM stepP; rw [if_pos c_20, if_neg c_31, if_neg c_51, if_pos c_66, if_neg c_76]) (Nat.le_of_ble_eq_true rfl) (Nat.le_of_ble_eq_true rfl) dX3_percent_86
        · refine lv_iconst (v := 5) hx hb dX3_percent_69 (by decide) ?_
          refine lv_goto (tgt := 85) hx hb dX3_percent_70 (by decide) ?_
          refine lv_iadd hx hb dX3_percent_85 ?_
          exact retI F hr rfl (fun _ => 0) hH (by unfold pctM stepP; rw [if_pos c_20, if_neg c_31, if_neg c_51, if_neg c_66]) (Nat.le_of_ble_eq_true rfl) (Nat.le_of_ble_eq_true rfl) dX3_percent_86
  · refine lv_bipush (v := 80) hx hb dX3_percent_23 (by decide) ?_
    refine lv_goto (tgt := 41) hx hb dX3_percent_25 (by decide) ?_
    refine lv_istore (lv' := [(4, .int 80), (3, .int (a 7 i)), (2, .int (fillsN a i (f 16) (cutM a i (f 16) cn) nc)), (0, .ref (q 0)), (1, .int (nI i))]) hx hb dX3_percent_41 hl (by decide) rfl (fun ls hl => ?_)
    refine lv_iload hx hb dX3_percent_43 (lv_at hl 0 rfl) ?_
    refine lv_aload_n hx hb dX3_percent_45 rfl (lv_at hl 3 rfl) ?_
    refine rget (C := RX3) (T := TX3) (N := 25) (ref := RX3) F in_X3_percent_X3 hH 0 rfl rfl 2 (by decide) (by decide +kernel) (fun _ h9 => h9) (v := .ref (q 2)) rfl dX3_percent_46 ?_
    refine lv_iload_n hx hb dX3_percent_49 rfl (lv_at hl 4 rfl) ?_
    refine rzald F hH 2 (n := 8) (f := a 2) rfl i rfl (by omega) (by decide) dX3_percent_50 ?_
    refine lv_if_eq (tgt := 59) hx hb dX3_percent_51 (by decide) (fun c_51 => ?_) (fun c_51 => ?_)
    · refine lv_iconst (v := 0) hx hb dX3_percent_59 (by decide) ?_
      refine lv_iadd hx hb dX3_percent_60 ?_
      refine lv_istore (lv' := [(4, .int (80 + 0)), (3, .int (a 7 i)), (2, .int (fillsN a i (f 16) (cutM a i (f 16) cn) nc)), (0, .ref (q 0)), (1, .int (nI i))]) hx hb dX3_percent_61 hl (by decide) rfl (fun ls hl => ?_)
      refine lv_iload hx hb dX3_percent_63 (lv_at hl 0 rfl) ?_
      refine lv_iload_n hx hb dX3_percent_65 rfl (lv_at hl 2 rfl) ?_
      refine lv_if_eq (tgt := 73) hx hb dX3_percent_66 (by decide) (fun c_66 => ?_) (fun c_66 => ?_)
      · refine lv_iload_n hx hb dX3_percent_73 rfl (lv_at hl 1 rfl) ?_
        refine lv_bipush (v := 12) hx hb dX3_percent_74 (by decide) ?_
        refine lv_icmp_lt (tgt := 84) hx hb dX3_percent_76 (by decide) (fun c_76 => ?_) (fun c_76 => ?_)
        · refine lv_iconst (v := 0) hx hb dX3_percent_84 (by decide) ?_
          refine lv_iadd hx hb dX3_percent_85 ?_
          exact retI F hr rfl (fun _ => 0) hH (by unfold pctM stepP; rw [if_neg c_20, if_pos c_51, if_pos c_66, if_pos c_76]) (Nat.le_of_ble_eq_true rfl) (Nat.le_of_ble_eq_true rfl) dX3_percent_86
        · refine lv_bipush (v := (-10)) hx hb dX3_percent_79 (by decide) ?_
          refine lv_goto (tgt := 85) hx hb dX3_percent_81 (by decide) ?_
          refine lv_iadd hx hb dX3_percent_85 ?_
          exact retI F hr rfl (fun _ => 0) hH (by unfold pctM stepP; rw [if_neg c_20, if_pos c_51, if_pos c_66, if_neg c_76]) (Nat.le_of_ble_eq_true rfl) (Nat.le_of_ble_eq_true rfl) dX3_percent_86
      · refine lv_iconst (v := 5) hx hb dX3_percent_69 (by decide) ?_
        refine lv_goto (tgt := 85) hx hb dX3_percent_70 (by decide) ?_
        refine lv_iadd hx hb dX3_percent_85 ?_
        exact retI F hr rfl (fun _ => 0) hH (by unfold pctM stepP; rw [if_neg c_20, if_pos c_51, if_neg c_66]) (Nat.le_of_ble_eq_true rfl) (Nat.le_of_ble_eq_true rfl) dX3_percent_86
    · refine lv_bipush (v := 7) hx hb dX3_percent_54 (by decide) ?_
      refine lv_goto (tgt := 60) hx hb dX3_percent_56 (by decide) ?_
      refine lv_iadd hx hb dX3_percent_60 ?_
      refine lv_istore (lv' := [(4, .int (80 + 7)), (3, .int (a 7 i)), (2, .int (fillsN a i (f 16) (cutM a i (f 16) cn) nc)), (0, .ref (q 0)), (1, .int (nI i))]) hx hb dX3_percent_61 hl (by decide) rfl (fun ls hl => ?_)
      refine lv_iload hx hb dX3_percent_63 (lv_at hl 0 rfl) ?_
      refine lv_iload_n hx hb dX3_percent_65 rfl (lv_at hl 2 rfl) ?_
      refine lv_if_eq (tgt := 73) hx hb dX3_percent_66 (by decide) (fun c_66 => ?_) (fun c_66 => ?_)
      · refine lv_iload_n hx hb dX3_percent_73 rfl (lv_at hl 1 rfl) ?_
        refine lv_bipush (v := 12) hx hb dX3_percent_74 (by decide) ?_
        refine lv_icmp_lt (tgt := 84) hx hb dX3_percent_76 (by decide) (fun c_76 => ?_) (fun c_76 => ?_)
        · refine lv_iconst (v := 0) hx hb dX3_percent_84 (by decide) ?_
          refine lv_iadd hx hb dX3_percent_85 ?_
          exact retI F hr rfl (fun _ => 0) hH (by unfold pctM stepP; rw [if_neg c_20, if_neg c_51, if_pos c_66, if_pos c_76]) (Nat.le_of_ble_eq_true rfl) (Nat.le_of_ble_eq_true rfl) dX3_percent_86
        · refine lv_bipush (v := (-10)) hx hb dX3_percent_79 (by decide) ?_
          refine lv_goto (tgt := 85) hx hb dX3_percent_81 (by decide) ?_
          refine lv_iadd hx hb dX3_percent_85 ?_
          exact retI F hr rfl (fun _ => 0) hH (by unfold pctM stepP; rw [if_neg c_20, if_neg c_51, if_pos c_66, if_neg c_76]) (Nat.le_of_ble_eq_true rfl) (Nat.le_of_ble_eq_true rfl) dX3_percent_86
      · refine lv_iconst (v := 5) hx hb dX3_percent_69 (by decide) ?_
        refine lv_goto (tgt := 85) hx hb dX3_percent_70 (by decide) ?_
        refine lv_iadd hx hb dX3_percent_85 ?_
        exact retI F hr rfl (fun _ => 0) hH (by unfold pctM stepP; rw [if_neg c_20, if_neg c_51, if_neg c_66]) (Nat.le_of_ble_eq_true rfl) (Nat.le_of_ble_eq_true rfl) dX3_percent_86

set_option maxHeartbeats 4000000 in
set_option maxRecDepth 100000 in
theorem c_X3_paid_1 (l : Launch) (G : Gx) (q : Nat → Nat) (f : Nat → Int32) (a : Nat → Nat → Int32) (n : Nat) (e0 : f 0 = nI n) (hn : n ≤ 8) (i : Nat) (hi : i < n) (t : Nat) (e16 : f 16 = nI t) (ht : t ≤ 201) (j : Nat) (hj : j < t) : MI l yX3_paid wsX3_paid ({ frames := 1, cells := 0, slots := 0, locals := 21 } : Room) [.ref (q 0), .int (nI i), .int (nI j)] G (mW G q f a) (fun u => mW G q (va_up f 24 0) a) (a 18 (201 * i + j)) := by
  refine ofMI (cc := cX3_paid) (maxL := 3) (ret := (some .int)) (by decide) rfl (Nat.le_of_ble_eq_true rfl) (fun p e s m below meth c A ls F hr hnm hH hl => ?_)
  have F : Fx G p s m _ meth c cX3_paid 3 wsX3_paid RX3 A := F
  have hx := F.1.1
  have hb := F.1.2.1
  have hl : lv_has ls 3 [(0, .ref (q 0)), (1, .int (nI i)), (2, .int (nI j))] := hl
  refine lv_aload_n hx hb dX3_paid_0 rfl (lv_at hl 0 rfl) ?_
  refine lv_aload_n hx hb dX3_paid_1 rfl (lv_at hl 0 rfl) ?_
  refine lv_iload_n hx hb dX3_paid_2 rfl (lv_at hl 1 rfl) ?_
  refine callVI0 (rest := [.ref (q 0)]) F (c_X3_isWorker_1 l G q f a n e0 hn i hi) gX3_paid_X3_isWorker rfl hdX3_isWorker ⟨Nat.le_of_ble_eq_true rfl, Nat.le_of_ble_eq_true rfl⟩ hH ⟨0, 3, _, _, rfl, rfl, rfl⟩ rfl hl.1 (Nat.le_of_ble_eq_true rfl) dX3_paid_3 ⟨Nat.le_of_ble_eq_true rfl, Nat.le_of_ble_eq_true rfl⟩ rfl (fun u H locs hH => ?_)
  have hH : HH G A s (mW G q f a) H locs := hH
  refine callVI0 (rest := []) F (c_X3_asks_1 l G q f a) gX3_paid_X3_asks rfl hdX3_asks ⟨Nat.le_of_ble_eq_true rfl, Nat.le_of_ble_eq_true rfl⟩ hH ⟨0, 3, _, _, rfl, rfl, rfl⟩ rfl hl.1 (Nat.le_of_ble_eq_true rfl) dX3_paid_6 ⟨Nat.le_of_ble_eq_true rfl, Nat.le_of_ble_eq_true rfl⟩ rfl (fun u H locs hH => ?_)
  have hH : HH G A s (mW G q (va_up f 24 0) a) H locs := hH
  refine lv_if_ne (tgt := 14) hx hb dX3_paid_9 (by decide) (fun c_9 => ?_) (fun c_9 => absurd c_9 (by decide))
  refine lv_aload_n hx hb dX3_paid_14 rfl (lv_at hl 0 rfl) ?_
  refine lv_iload_n hx hb dX3_paid_15 rfl (lv_at hl 2 rfl) ?_
  refine callVI0 (rest := []) F (c_X3_isPast_1 l G q (va_up f 24 0) a t e16 ht j hj) gX3_paid_X3_isPast rfl hdX3_isPast ⟨Nat.le_of_ble_eq_true rfl, Nat.le_of_ble_eq_true rfl⟩ hH ⟨0, 3, _, _, rfl, rfl, rfl⟩ rfl hl.1 (Nat.le_of_ble_eq_true rfl) dX3_paid_16 ⟨Nat.le_of_ble_eq_true rfl, Nat.le_of_ble_eq_true rfl⟩ rfl (fun u H locs hH => ?_)
  have hH : HH G A s (mW G q (va_up f 24 0) a) H locs := hH
  refine lv_if_eq (tgt := 37) hx hb dX3_paid_19 (by decide) (fun c_19 => absurd c_19 (by decide)) (fun c_19 => ?_)
  refine lv_aload_n hx hb dX3_paid_22 rfl (lv_at hl 0 rfl) ?_
  refine rget (C := RX3) (T := TX3) (N := 25) (ref := RX3) F in_X3_paid_X3 hH 0 rfl rfl 18 (by decide) (by decide +kernel) (fun _ h9 => h9) (v := .ref (q 18)) rfl dX3_paid_23 ?_
  refine lv_sipush (v := 201) hx hb dX3_paid_26 (by decide) ?_
  refine lv_iload_n hx hb dX3_paid_29 rfl (lv_at hl 1 rfl) ?_
  refine lv_imul hx hb dX3_paid_30 ?_
  refine lv_iload_n hx hb dX3_paid_31 rfl (lv_at hl 2 rfl) ?_
  refine lv_iadd hx hb dX3_paid_32 ?_
  refine riald F hH 14 (n := 1608) (f := a 18) rfl (201 * i + j) (ix201 i j) (by omega) (by decide) dX3_paid_33 ?_
  refine lv_goto (tgt := 42) hx hb dX3_paid_34 (by decide) ?_
  exact retI F hr rfl (fun _ => 0) hH rfl (Nat.le_of_ble_eq_true rfl) (Nat.le_of_ble_eq_true rfl) dX3_paid_42

set_option maxHeartbeats 4000000 in
set_option maxRecDepth 100000 in
theorem c_X3_paid_2 (l : Launch) (G : Gx) (q : Nat → Nat) (f : Nat → Int32) (a : Nat → Nat → Int32) (n : Nat) (e0 : f 0 = nI n) (hn : n ≤ 8) (i : Nat) (hi : i < n) (t : Nat) (e16 : f 16 = nI t) (ht : t ≤ 201) (w : Int32) (h : w < 0 ∨ nI t ≤ w) : MI l yX3_paid wsX3_paid ({ frames := 1, cells := 0, slots := 0, locals := 21 } : Room) [.ref (q 0), .int (nI i), .int w] G (mW G q f a) (fun u => mW G q (va_up f 24 2) a) 0 := by
  refine ofMI (cc := cX3_paid) (maxL := 3) (ret := (some .int)) (by decide) rfl (Nat.le_of_ble_eq_true rfl) (fun p e s m below meth c A ls F hr hnm hH hl => ?_)
  have F : Fx G p s m _ meth c cX3_paid 3 wsX3_paid RX3 A := F
  have hx := F.1.1
  have hb := F.1.2.1
  have hl : lv_has ls 3 [(0, .ref (q 0)), (1, .int (nI i)), (2, .int w)] := hl
  refine lv_aload_n hx hb dX3_paid_0 rfl (lv_at hl 0 rfl) ?_
  refine lv_aload_n hx hb dX3_paid_1 rfl (lv_at hl 0 rfl) ?_
  refine lv_iload_n hx hb dX3_paid_2 rfl (lv_at hl 1 rfl) ?_
  refine callVI0 (rest := [.ref (q 0)]) F (c_X3_isWorker_1 l G q f a n e0 hn i hi) gX3_paid_X3_isWorker rfl hdX3_isWorker ⟨Nat.le_of_ble_eq_true rfl, Nat.le_of_ble_eq_true rfl⟩ hH ⟨0, 3, _, _, rfl, rfl, rfl⟩ rfl hl.1 (Nat.le_of_ble_eq_true rfl) dX3_paid_3 ⟨Nat.le_of_ble_eq_true rfl, Nat.le_of_ble_eq_true rfl⟩ rfl (fun u H locs hH => ?_)
  have hH : HH G A s (mW G q f a) H locs := hH
  refine callVI0 (rest := []) F (c_X3_asks_1 l G q f a) gX3_paid_X3_asks rfl hdX3_asks ⟨Nat.le_of_ble_eq_true rfl, Nat.le_of_ble_eq_true rfl⟩ hH ⟨0, 3, _, _, rfl, rfl, rfl⟩ rfl hl.1 (Nat.le_of_ble_eq_true rfl) dX3_paid_6 ⟨Nat.le_of_ble_eq_true rfl, Nat.le_of_ble_eq_true rfl⟩ rfl (fun u H locs hH => ?_)
  have hH : HH G A s (mW G q (va_up f 24 0) a) H locs := hH
  refine lv_if_ne (tgt := 14) hx hb dX3_paid_9 (by decide) (fun c_9 => ?_) (fun c_9 => absurd c_9 (by decide))
  refine lv_aload_n hx hb dX3_paid_14 rfl (lv_at hl 0 rfl) ?_
  refine lv_iload_n hx hb dX3_paid_15 rfl (lv_at hl 2 rfl) ?_
  refine callVI0 (rest := []) F (c_X3_isPast_0 l G q (va_up f 24 0) a t e16 ht w h) gX3_paid_X3_isPast rfl hdX3_isPast ⟨Nat.le_of_ble_eq_true rfl, Nat.le_of_ble_eq_true rfl⟩ hH ⟨0, 3, _, _, rfl, rfl, rfl⟩ rfl hl.1 (Nat.le_of_ble_eq_true rfl) dX3_paid_16 ⟨Nat.le_of_ble_eq_true rfl, Nat.le_of_ble_eq_true rfl⟩ rfl (fun u H locs hH => ?_)
  have hH : HH G A s (mW G q (va_up f 24 0) a) H locs := hH
  refine lv_if_eq (tgt := 37) hx hb dX3_paid_19 (by decide) (fun c_19 => ?_) (fun c_19 => absurd rfl c_19)
  refine lv_aload_n hx hb dX3_paid_37 rfl (lv_at hl 0 rfl) ?_
  refine lv_iconst (v := 2) hx hb dX3_paid_38 (by decide) ?_
  refine callVI0 (rest := []) F (c_X3_fails l G q (va_up f 24 0) a 2) gX3_paid_X3_fails rfl hdX3_fails ⟨Nat.le_of_ble_eq_true rfl, Nat.le_of_ble_eq_true rfl⟩ hH ⟨0, 3, _, _, rfl, rfl, rfl⟩ rfl hl.1 (Nat.le_of_ble_eq_true rfl) dX3_paid_39 ⟨Nat.le_of_ble_eq_true rfl, Nat.le_of_ble_eq_true rfl⟩ rfl (fun u H locs hH => ?_)
  have hH : HH G A s (mW G q (va_up f 24 2) a) H locs := hH
  exact retI F hr rfl (fun _ => 0) hH rfl (Nat.le_of_ble_eq_true rfl) (Nat.le_of_ble_eq_true rfl) dX3_paid_42

set_option maxHeartbeats 4000000 in
set_option maxRecDepth 100000 in
theorem c_X3_paid_0 (l : Launch) (G : Gx) (q : Nat → Nat) (f : Nat → Int32) (a : Nat → Nat → Int32) (n : Nat) (e0 : f 0 = nI n) (hn : n ≤ 8) (v : Int32) (h : v < 0 ∨ nI n ≤ v) (w : Int32) : MI l yX3_paid wsX3_paid ({ frames := 1, cells := 0, slots := 0, locals := 21 } : Room) [.ref (q 0), .int v, .int w] G (mW G q f a) (fun u => mW G q (va_up f 24 1) a) 0 := by
  refine ofMI (cc := cX3_paid) (maxL := 3) (ret := (some .int)) (by decide) rfl (Nat.le_of_ble_eq_true rfl) (fun p e s m below meth c A ls F hr hnm hH hl => ?_)
  have F : Fx G p s m _ meth c cX3_paid 3 wsX3_paid RX3 A := F
  have hx := F.1.1
  have hb := F.1.2.1
  have hl : lv_has ls 3 [(0, .ref (q 0)), (1, .int v), (2, .int w)] := hl
  refine lv_aload_n hx hb dX3_paid_0 rfl (lv_at hl 0 rfl) ?_
  refine lv_aload_n hx hb dX3_paid_1 rfl (lv_at hl 0 rfl) ?_
  refine lv_iload_n hx hb dX3_paid_2 rfl (lv_at hl 1 rfl) ?_
  refine callVI0 (rest := [.ref (q 0)]) F (c_X3_isWorker_0 l G q f a n e0 hn v h) gX3_paid_X3_isWorker rfl hdX3_isWorker ⟨Nat.le_of_ble_eq_true rfl, Nat.le_of_ble_eq_true rfl⟩ hH ⟨0, 3, _, _, rfl, rfl, rfl⟩ rfl hl.1 (Nat.le_of_ble_eq_true rfl) dX3_paid_3 ⟨Nat.le_of_ble_eq_true rfl, Nat.le_of_ble_eq_true rfl⟩ rfl (fun u H locs hH => ?_)
  have hH : HH G A s (mW G q f a) H locs := hH
  refine callVI0 (rest := []) F (c_X3_asks_0 l G q f a) gX3_paid_X3_asks rfl hdX3_asks ⟨Nat.le_of_ble_eq_true rfl, Nat.le_of_ble_eq_true rfl⟩ hH ⟨0, 3, _, _, rfl, rfl, rfl⟩ rfl hl.1 (Nat.le_of_ble_eq_true rfl) dX3_paid_6 ⟨Nat.le_of_ble_eq_true rfl, Nat.le_of_ble_eq_true rfl⟩ rfl (fun u H locs hH => ?_)
  have hH : HH G A s (mW G q (va_up f 24 1) a) H locs := hH
  refine lv_if_ne (tgt := 14) hx hb dX3_paid_9 (by decide) (fun c_9 => absurd rfl c_9) (fun c_9 => ?_)
  refine lv_iconst (v := 0) hx hb dX3_paid_12 (by decide) ?_
  exact retI F hr rfl (fun _ => 0) hH rfl (Nat.le_of_ble_eq_true rfl) (Nat.le_of_ble_eq_true rfl) dX3_paid_13

set_option maxHeartbeats 4000000 in
set_option maxRecDepth 100000 in
theorem c_X3_madeUp_1 (l : Launch) (G : Gx) (q : Nat → Nat) (f : Nat → Int32) (a : Nat → Nat → Int32) (n : Nat) (e0 : f 0 = nI n) (hn : n ≤ 8) (i : Nat) (hi : i < n) (t : Nat) (e16 : f 16 = nI t) (ht : t ≤ 201) (j : Nat) (hj : j < t) : MI l yX3_madeUp wsX3_madeUp ({ frames := 1, cells := 0, slots := 0, locals := 21 } : Room) [.ref (q 0), .int (nI i), .int (nI j)] G (mW G q f a) (fun u => mW G q (va_up f 24 0) a) (a 19 (201 * i + j)) := by
  refine ofMI (cc := cX3_madeUp) (maxL := 3) (ret := (some .int)) (by decide) rfl (Nat.le_of_ble_eq_true rfl) (fun p e s m below meth c A ls F hr hnm hH hl => ?_)
  have F : Fx G p s m _ meth c cX3_madeUp 3 wsX3_madeUp RX3 A := F
  have hx := F.1.1
  have hb := F.1.2.1
  have hl : lv_has ls 3 [(0, .ref (q 0)), (1, .int (nI i)), (2, .int (nI j))] := hl
  refine lv_aload_n hx hb dX3_madeUp_0 rfl (lv_at hl 0 rfl) ?_
  refine lv_aload_n hx hb dX3_madeUp_1 rfl (lv_at hl 0 rfl) ?_
  refine lv_iload_n hx hb dX3_madeUp_2 rfl (lv_at hl 1 rfl) ?_
  refine callVI0 (rest := [.ref (q 0)]) F (c_X3_isWorker_1 l G q f a n e0 hn i hi) gX3_madeUp_X3_isWorker rfl hdX3_isWorker ⟨Nat.le_of_ble_eq_true rfl, Nat.le_of_ble_eq_true rfl⟩ hH ⟨0, 3, _, _, rfl, rfl, rfl⟩ rfl hl.1 (Nat.le_of_ble_eq_true rfl) dX3_madeUp_3 ⟨Nat.le_of_ble_eq_true rfl, Nat.le_of_ble_eq_true rfl⟩ rfl (fun u H locs hH => ?_)
  have hH : HH G A s (mW G q f a) H locs := hH
  refine callVI0 (rest := []) F (c_X3_asks_1 l G q f a) gX3_madeUp_X3_asks rfl hdX3_asks ⟨Nat.le_of_ble_eq_true rfl, Nat.le_of_ble_eq_true rfl⟩ hH ⟨0, 3, _, _, rfl, rfl, rfl⟩ rfl hl.1 (Nat.le_of_ble_eq_true rfl) dX3_madeUp_6 ⟨Nat.le_of_ble_eq_true rfl, Nat.le_of_ble_eq_true rfl⟩ rfl (fun u H locs hH => ?_)
  have hH : HH G A s (mW G q (va_up f 24 0) a) H locs := hH
  refine lv_if_ne (tgt := 14) hx hb dX3_madeUp_9 (by decide) (fun c_9 => ?_) (fun c_9 => absurd c_9 (by decide))
  refine lv_aload_n hx hb dX3_madeUp_14 rfl (lv_at hl 0 rfl) ?_
  refine lv_iload_n hx hb dX3_madeUp_15 rfl (lv_at hl 2 rfl) ?_
  refine callVI0 (rest := []) F (c_X3_isPast_1 l G q (va_up f 24 0) a t e16 ht j hj) gX3_madeUp_X3_isPast rfl hdX3_isPast ⟨Nat.le_of_ble_eq_true rfl, Nat.le_of_ble_eq_true rfl⟩ hH ⟨0, 3, _, _, rfl, rfl, rfl⟩ rfl hl.1 (Nat.le_of_ble_eq_true rfl) dX3_madeUp_16 ⟨Nat.le_of_ble_eq_true rfl, Nat.le_of_ble_eq_true rfl⟩ rfl (fun u H locs hH => ?_)
  have hH : HH G A s (mW G q (va_up f 24 0) a) H locs := hH
  refine lv_if_eq (tgt := 37) hx hb dX3_madeUp_19 (by decide) (fun c_19 => absurd c_19 (by decide)) (fun c_19 => ?_)
  refine lv_aload_n hx hb dX3_madeUp_22 rfl (lv_at hl 0 rfl) ?_
  refine rget (C := RX3) (T := TX3) (N := 25) (ref := RX3) F in_X3_madeUp_X3 hH 0 rfl rfl 19 (by decide) (by decide +kernel) (fun _ h9 => h9) (v := .ref (q 19)) rfl dX3_madeUp_23 ?_
  refine lv_sipush (v := 201) hx hb dX3_madeUp_26 (by decide) ?_
  refine lv_iload_n hx hb dX3_madeUp_29 rfl (lv_at hl 1 rfl) ?_
  refine lv_imul hx hb dX3_madeUp_30 ?_
  refine lv_iload_n hx hb dX3_madeUp_31 rfl (lv_at hl 2 rfl) ?_
  refine lv_iadd hx hb dX3_madeUp_32 ?_
  refine riald F hH 15 (n := 1608) (f := a 19) rfl (201 * i + j) (ix201 i j) (by omega) (by decide) dX3_madeUp_33 ?_
  refine lv_goto (tgt := 42) hx hb dX3_madeUp_34 (by decide) ?_
  exact retI F hr rfl (fun _ => 0) hH rfl (Nat.le_of_ble_eq_true rfl) (Nat.le_of_ble_eq_true rfl) dX3_madeUp_42

set_option maxHeartbeats 4000000 in
set_option maxRecDepth 100000 in
theorem c_X3_madeUp_2 (l : Launch) (G : Gx) (q : Nat → Nat) (f : Nat → Int32) (a : Nat → Nat → Int32) (n : Nat) (e0 : f 0 = nI n) (hn : n ≤ 8) (i : Nat) (hi : i < n) (t : Nat) (e16 : f 16 = nI t) (ht : t ≤ 201) (w : Int32) (h : w < 0 ∨ nI t ≤ w) : MI l yX3_madeUp wsX3_madeUp ({ frames := 1, cells := 0, slots := 0, locals := 21 } : Room) [.ref (q 0), .int (nI i), .int w] G (mW G q f a) (fun u => mW G q (va_up f 24 2) a) 0 := by
  refine ofMI (cc := cX3_madeUp) (maxL := 3) (ret := (some .int)) (by decide) rfl (Nat.le_of_ble_eq_true rfl) (fun p e s m below meth c A ls F hr hnm hH hl => ?_)
  have F : Fx G p s m _ meth c cX3_madeUp 3 wsX3_madeUp RX3 A := F
  have hx := F.1.1
  have hb := F.1.2.1
  have hl : lv_has ls 3 [(0, .ref (q 0)), (1, .int (nI i)), (2, .int w)] := hl
  refine lv_aload_n hx hb dX3_madeUp_0 rfl (lv_at hl 0 rfl) ?_
  refine lv_aload_n hx hb dX3_madeUp_1 rfl (lv_at hl 0 rfl) ?_
  refine lv_iload_n hx hb dX3_madeUp_2 rfl (lv_at hl 1 rfl) ?_
  refine callVI0 (rest := [.ref (q 0)]) F (c_X3_isWorker_1 l G q f a n e0 hn i hi) gX3_madeUp_X3_isWorker rfl hdX3_isWorker ⟨Nat.le_of_ble_eq_true rfl, Nat.le_of_ble_eq_true rfl⟩ hH ⟨0, 3, _, _, rfl, rfl, rfl⟩ rfl hl.1 (Nat.le_of_ble_eq_true rfl) dX3_madeUp_3 ⟨Nat.le_of_ble_eq_true rfl, Nat.le_of_ble_eq_true rfl⟩ rfl (fun u H locs hH => ?_)
  have hH : HH G A s (mW G q f a) H locs := hH
  refine callVI0 (rest := []) F (c_X3_asks_1 l G q f a) gX3_madeUp_X3_asks rfl hdX3_asks ⟨Nat.le_of_ble_eq_true rfl, Nat.le_of_ble_eq_true rfl⟩ hH ⟨0, 3, _, _, rfl, rfl, rfl⟩ rfl hl.1 (Nat.le_of_ble_eq_true rfl) dX3_madeUp_6 ⟨Nat.le_of_ble_eq_true rfl, Nat.le_of_ble_eq_true rfl⟩ rfl (fun u H locs hH => ?_)
  have hH : HH G A s (mW G q (va_up f 24 0) a) H locs := hH
  refine lv_if_ne (tgt := 14) hx hb dX3_madeUp_9 (by decide) (fun c_9 => ?_) (fun c_9 => absurd c_9 (by decide))
  refine lv_aload_n hx hb dX3_madeUp_14 rfl (lv_at hl 0 rfl) ?_
  refine lv_iload_n hx hb dX3_madeUp_15 rfl (lv_at hl 2 rfl) ?_
  refine callVI0 (rest := []) F (c_X3_isPast_0 l G q (va_up f 24 0) a t e16 ht w h) gX3_madeUp_X3_isPast rfl hdX3_isPast ⟨Nat.le_of_ble_eq_true rfl, Nat.le_of_ble_eq_true rfl⟩ hH ⟨0, 3, _, _, rfl, rfl, rfl⟩ rfl hl.1 (Nat.le_of_ble_eq_true rfl) dX3_madeUp_16 ⟨Nat.le_of_ble_eq_true rfl, Nat.le_of_ble_eq_true rfl⟩ rfl (fun u H locs hH => ?_)
  have hH : HH G A s (mW G q (va_up f 24 0) a) H locs := hH
  refine lv_if_eq (tgt := 37) hx hb dX3_madeUp_19 (by decide) (fun c_19 => ?_) (fun c_19 => absurd rfl c_19)
  refine lv_aload_n hx hb dX3_madeUp_37 rfl (lv_at hl 0 rfl) ?_
  refine lv_iconst (v := 2) hx hb dX3_madeUp_38 (by decide) ?_
  refine callVI0 (rest := []) F (c_X3_fails l G q (va_up f 24 0) a 2) gX3_madeUp_X3_fails rfl hdX3_fails ⟨Nat.le_of_ble_eq_true rfl, Nat.le_of_ble_eq_true rfl⟩ hH ⟨0, 3, _, _, rfl, rfl, rfl⟩ rfl hl.1 (Nat.le_of_ble_eq_true rfl) dX3_madeUp_39 ⟨Nat.le_of_ble_eq_true rfl, Nat.le_of_ble_eq_true rfl⟩ rfl (fun u H locs hH => ?_)
  have hH : HH G A s (mW G q (va_up f 24 2) a) H locs := hH
  exact retI F hr rfl (fun _ => 0) hH rfl (Nat.le_of_ble_eq_true rfl) (Nat.le_of_ble_eq_true rfl) dX3_madeUp_42

set_option maxHeartbeats 4000000 in
set_option maxRecDepth 100000 in
theorem c_X3_madeUp_0 (l : Launch) (G : Gx) (q : Nat → Nat) (f : Nat → Int32) (a : Nat → Nat → Int32) (n : Nat) (e0 : f 0 = nI n) (hn : n ≤ 8) (v : Int32) (h : v < 0 ∨ nI n ≤ v) (w : Int32) : MI l yX3_madeUp wsX3_madeUp ({ frames := 1, cells := 0, slots := 0, locals := 21 } : Room) [.ref (q 0), .int v, .int w] G (mW G q f a) (fun u => mW G q (va_up f 24 1) a) 0 := by
  refine ofMI (cc := cX3_madeUp) (maxL := 3) (ret := (some .int)) (by decide) rfl (Nat.le_of_ble_eq_true rfl) (fun p e s m below meth c A ls F hr hnm hH hl => ?_)
  have F : Fx G p s m _ meth c cX3_madeUp 3 wsX3_madeUp RX3 A := F
  have hx := F.1.1
  have hb := F.1.2.1
  have hl : lv_has ls 3 [(0, .ref (q 0)), (1, .int v), (2, .int w)] := hl
  refine lv_aload_n hx hb dX3_madeUp_0 rfl (lv_at hl 0 rfl) ?_
  refine lv_aload_n hx hb dX3_madeUp_1 rfl (lv_at hl 0 rfl) ?_
  refine lv_iload_n hx hb dX3_madeUp_2 rfl (lv_at hl 1 rfl) ?_
  refine callVI0 (rest := [.ref (q 0)]) F (c_X3_isWorker_0 l G q f a n e0 hn v h) gX3_madeUp_X3_isWorker rfl hdX3_isWorker ⟨Nat.le_of_ble_eq_true rfl, Nat.le_of_ble_eq_true rfl⟩ hH ⟨0, 3, _, _, rfl, rfl, rfl⟩ rfl hl.1 (Nat.le_of_ble_eq_true rfl) dX3_madeUp_3 ⟨Nat.le_of_ble_eq_true rfl, Nat.le_of_ble_eq_true rfl⟩ rfl (fun u H locs hH => ?_)
  have hH : HH G A s (mW G q f a) H locs := hH
  refine callVI0 (rest := []) F (c_X3_asks_0 l G q f a) gX3_madeUp_X3_asks rfl hdX3_asks ⟨Nat.le_of_ble_eq_true rfl, Nat.le_of_ble_eq_true rfl⟩ hH ⟨0, 3, _, _, rfl, rfl, rfl⟩ rfl hl.1 (Nat.le_of_ble_eq_true rfl) dX3_madeUp_6 ⟨Nat.le_of_ble_eq_true rfl, Nat.le_of_ble_eq_true rfl⟩ rfl (fun u H locs hH => ?_)
  have hH : HH G A s (mW G q (va_up f 24 1) a) H locs := hH
  refine lv_if_ne (tgt := 14) hx hb dX3_madeUp_9 (by decide) (fun c_9 => absurd rfl c_9) (fun c_9 => ?_)
  refine lv_iconst (v := 0) hx hb dX3_madeUp_12 (by decide) ?_
  exact retI F hr rfl (fun _ => 0) hH rfl (Nat.le_of_ble_eq_true rfl) (Nat.le_of_ble_eq_true rfl) dX3_madeUp_13

set_option maxHeartbeats 4000000 in
set_option maxRecDepth 100000 in
theorem c_X3_cutWeeks_1 (l : Launch) (G : Gx) (q : Nat → Nat) (f : Nat → Int32) (a : Nat → Nat → Int32) (n : Nat) (e0 : f 0 = nI n) (hn : n ≤ 8) (i : Nat) (hi : i < n) : MI l yX3_cutWeeks wsX3_cutWeeks ({ frames := 1, cells := 0, slots := 0, locals := 21 } : Room) [.ref (q 0), .int (nI i)] G (mW G q f a) (fun u => mW G q (va_up f 24 0) a) (a 7 i) := by
  refine ofMI (cc := cX3_cutWeeks) (maxL := 2) (ret := (some .int)) (by decide) rfl (Nat.le_of_ble_eq_true rfl) (fun p e s m below meth c A ls F hr hnm hH hl => ?_)
  have F : Fx G p s m _ meth c cX3_cutWeeks 2 wsX3_cutWeeks RX3 A := F
  have hx := F.1.1
  have hb := F.1.2.1
  have hl : lv_has ls 2 [(0, .ref (q 0)), (1, .int (nI i))] := hl
  refine lv_aload_n hx hb dX3_cutWeeks_0 rfl (lv_at hl 0 rfl) ?_
  refine lv_aload_n hx hb dX3_cutWeeks_1 rfl (lv_at hl 0 rfl) ?_
  refine lv_iload_n hx hb dX3_cutWeeks_2 rfl (lv_at hl 1 rfl) ?_
  refine callVI0 (rest := [.ref (q 0)]) F (c_X3_isWorker_1 l G q f a n e0 hn i hi) gX3_cutWeeks_X3_isWorker rfl hdX3_isWorker ⟨Nat.le_of_ble_eq_true rfl, Nat.le_of_ble_eq_true rfl⟩ hH ⟨0, 3, _, _, rfl, rfl, rfl⟩ rfl hl.1 (Nat.le_of_ble_eq_true rfl) dX3_cutWeeks_3 ⟨Nat.le_of_ble_eq_true rfl, Nat.le_of_ble_eq_true rfl⟩ rfl (fun u H locs hH => ?_)
  have hH : HH G A s (mW G q f a) H locs := hH
  refine callVI0 (rest := []) F (c_X3_asks_1 l G q f a) gX3_cutWeeks_X3_asks rfl hdX3_asks ⟨Nat.le_of_ble_eq_true rfl, Nat.le_of_ble_eq_true rfl⟩ hH ⟨0, 3, _, _, rfl, rfl, rfl⟩ rfl hl.1 (Nat.le_of_ble_eq_true rfl) dX3_cutWeeks_6 ⟨Nat.le_of_ble_eq_true rfl, Nat.le_of_ble_eq_true rfl⟩ rfl (fun u H locs hH => ?_)
  have hH : HH G A s (mW G q (va_up f 24 0) a) H locs := hH
  refine lv_if_eq (tgt := 21) hx hb dX3_cutWeeks_9 (by decide) (fun c_9 => absurd c_9 (by decide)) (fun c_9 => ?_)
  refine lv_aload_n hx hb dX3_cutWeeks_12 rfl (lv_at hl 0 rfl) ?_
  refine rget (C := RX3) (T := TX3) (N := 25) (ref := RX3) F in_X3_cutWeeks_X3 hH 0 rfl rfl 7 (by decide) (by decide +kernel) (fun _ h9 => h9) (v := .ref (q 7)) rfl dX3_cutWeeks_13 ?_
  refine lv_iload_n hx hb dX3_cutWeeks_16 rfl (lv_at hl 1 rfl) ?_
  refine riald F hH 7 (n := 8) (f := a 7) rfl i rfl (by omega) (by decide) dX3_cutWeeks_17 ?_
  refine lv_goto (tgt := 22) hx hb dX3_cutWeeks_18 (by decide) ?_
  exact retI F hr rfl (fun _ => 0) hH rfl (Nat.le_of_ble_eq_true rfl) (Nat.le_of_ble_eq_true rfl) dX3_cutWeeks_22

set_option maxHeartbeats 4000000 in
set_option maxRecDepth 100000 in
theorem c_X3_cutWeeks_0 (l : Launch) (G : Gx) (q : Nat → Nat) (f : Nat → Int32) (a : Nat → Nat → Int32) (n : Nat) (e0 : f 0 = nI n) (hn : n ≤ 8) (v : Int32) (h : v < 0 ∨ nI n ≤ v) : MI l yX3_cutWeeks wsX3_cutWeeks ({ frames := 1, cells := 0, slots := 0, locals := 21 } : Room) [.ref (q 0), .int v] G (mW G q f a) (fun u => mW G q (va_up f 24 1) a) 0 := by
  refine ofMI (cc := cX3_cutWeeks) (maxL := 2) (ret := (some .int)) (by decide) rfl (Nat.le_of_ble_eq_true rfl) (fun p e s m below meth c A ls F hr hnm hH hl => ?_)
  have F : Fx G p s m _ meth c cX3_cutWeeks 2 wsX3_cutWeeks RX3 A := F
  have hx := F.1.1
  have hb := F.1.2.1
  have hl : lv_has ls 2 [(0, .ref (q 0)), (1, .int v)] := hl
  refine lv_aload_n hx hb dX3_cutWeeks_0 rfl (lv_at hl 0 rfl) ?_
  refine lv_aload_n hx hb dX3_cutWeeks_1 rfl (lv_at hl 0 rfl) ?_
  refine lv_iload_n hx hb dX3_cutWeeks_2 rfl (lv_at hl 1 rfl) ?_
  refine callVI0 (rest := [.ref (q 0)]) F (c_X3_isWorker_0 l G q f a n e0 hn v h) gX3_cutWeeks_X3_isWorker rfl hdX3_isWorker ⟨Nat.le_of_ble_eq_true rfl, Nat.le_of_ble_eq_true rfl⟩ hH ⟨0, 3, _, _, rfl, rfl, rfl⟩ rfl hl.1 (Nat.le_of_ble_eq_true rfl) dX3_cutWeeks_3 ⟨Nat.le_of_ble_eq_true rfl, Nat.le_of_ble_eq_true rfl⟩ rfl (fun u H locs hH => ?_)
  have hH : HH G A s (mW G q f a) H locs := hH
  refine callVI0 (rest := []) F (c_X3_asks_0 l G q f a) gX3_cutWeeks_X3_asks rfl hdX3_asks ⟨Nat.le_of_ble_eq_true rfl, Nat.le_of_ble_eq_true rfl⟩ hH ⟨0, 3, _, _, rfl, rfl, rfl⟩ rfl hl.1 (Nat.le_of_ble_eq_true rfl) dX3_cutWeeks_6 ⟨Nat.le_of_ble_eq_true rfl, Nat.le_of_ble_eq_true rfl⟩ rfl (fun u H locs hH => ?_)
  have hH : HH G A s (mW G q (va_up f 24 1) a) H locs := hH
  refine lv_if_eq (tgt := 21) hx hb dX3_cutWeeks_9 (by decide) (fun c_9 => ?_) (fun c_9 => absurd rfl c_9)
  refine lv_iconst (v := 0) hx hb dX3_cutWeeks_21 (by decide) ?_
  exact retI F hr rfl (fun _ => 0) hH rfl (Nat.le_of_ble_eq_true rfl) (Nat.le_of_ble_eq_true rfl) dX3_cutWeeks_22

set_option maxHeartbeats 4000000 in
set_option maxRecDepth 100000 in
theorem c_X3_owes_1 (l : Launch) (G : Gx) (q : Nat → Nat) (f : Nat → Int32) (a : Nat → Nat → Int32) (n : Nat) (e0 : f 0 = nI n) (hn : n ≤ 8) (i : Nat) (hi : i < n) : MI l yX3_owes wsX3_owes ({ frames := 1, cells := 0, slots := 0, locals := 21 } : Room) [.ref (q 0), .int (nI i)] G (mW G q f a) (fun u => mW G q (va_up f 24 0) a) (a 8 i) := by
  refine ofMI (cc := cX3_owes) (maxL := 2) (ret := (some .int)) (by decide) rfl (Nat.le_of_ble_eq_true rfl) (fun p e s m below meth c A ls F hr hnm hH hl => ?_)
  have F : Fx G p s m _ meth c cX3_owes 2 wsX3_owes RX3 A := F
  have hx := F.1.1
  have hb := F.1.2.1
  have hl : lv_has ls 2 [(0, .ref (q 0)), (1, .int (nI i))] := hl
  refine lv_aload_n hx hb dX3_owes_0 rfl (lv_at hl 0 rfl) ?_
  refine lv_aload_n hx hb dX3_owes_1 rfl (lv_at hl 0 rfl) ?_
  refine lv_iload_n hx hb dX3_owes_2 rfl (lv_at hl 1 rfl) ?_
  refine callVI0 (rest := [.ref (q 0)]) F (c_X3_isWorker_1 l G q f a n e0 hn i hi) gX3_owes_X3_isWorker rfl hdX3_isWorker ⟨Nat.le_of_ble_eq_true rfl, Nat.le_of_ble_eq_true rfl⟩ hH ⟨0, 3, _, _, rfl, rfl, rfl⟩ rfl hl.1 (Nat.le_of_ble_eq_true rfl) dX3_owes_3 ⟨Nat.le_of_ble_eq_true rfl, Nat.le_of_ble_eq_true rfl⟩ rfl (fun u H locs hH => ?_)
  have hH : HH G A s (mW G q f a) H locs := hH
  refine callVI0 (rest := []) F (c_X3_asks_1 l G q f a) gX3_owes_X3_asks rfl hdX3_asks ⟨Nat.le_of_ble_eq_true rfl, Nat.le_of_ble_eq_true rfl⟩ hH ⟨0, 3, _, _, rfl, rfl, rfl⟩ rfl hl.1 (Nat.le_of_ble_eq_true rfl) dX3_owes_6 ⟨Nat.le_of_ble_eq_true rfl, Nat.le_of_ble_eq_true rfl⟩ rfl (fun u H locs hH => ?_)
  have hH : HH G A s (mW G q (va_up f 24 0) a) H locs := hH
  refine lv_if_eq (tgt := 21) hx hb dX3_owes_9 (by decide) (fun c_9 => absurd c_9 (by decide)) (fun c_9 => ?_)
  refine lv_aload_n hx hb dX3_owes_12 rfl (lv_at hl 0 rfl) ?_
  refine rget (C := RX3) (T := TX3) (N := 25) (ref := RX3) F in_X3_owes_X3 hH 0 rfl rfl 8 (by decide) (by decide +kernel) (fun _ h9 => h9) (v := .ref (q 8)) rfl dX3_owes_13 ?_
  refine lv_iload_n hx hb dX3_owes_16 rfl (lv_at hl 1 rfl) ?_
  refine riald F hH 8 (n := 8) (f := a 8) rfl i rfl (by omega) (by decide) dX3_owes_17 ?_
  refine lv_goto (tgt := 22) hx hb dX3_owes_18 (by decide) ?_
  exact retI F hr rfl (fun _ => 0) hH rfl (Nat.le_of_ble_eq_true rfl) (Nat.le_of_ble_eq_true rfl) dX3_owes_22

set_option maxHeartbeats 4000000 in
set_option maxRecDepth 100000 in
theorem c_X3_owes_0 (l : Launch) (G : Gx) (q : Nat → Nat) (f : Nat → Int32) (a : Nat → Nat → Int32) (n : Nat) (e0 : f 0 = nI n) (hn : n ≤ 8) (v : Int32) (h : v < 0 ∨ nI n ≤ v) : MI l yX3_owes wsX3_owes ({ frames := 1, cells := 0, slots := 0, locals := 21 } : Room) [.ref (q 0), .int v] G (mW G q f a) (fun u => mW G q (va_up f 24 1) a) 0 := by
  refine ofMI (cc := cX3_owes) (maxL := 2) (ret := (some .int)) (by decide) rfl (Nat.le_of_ble_eq_true rfl) (fun p e s m below meth c A ls F hr hnm hH hl => ?_)
  have F : Fx G p s m _ meth c cX3_owes 2 wsX3_owes RX3 A := F
  have hx := F.1.1
  have hb := F.1.2.1
  have hl : lv_has ls 2 [(0, .ref (q 0)), (1, .int v)] := hl
  refine lv_aload_n hx hb dX3_owes_0 rfl (lv_at hl 0 rfl) ?_
  refine lv_aload_n hx hb dX3_owes_1 rfl (lv_at hl 0 rfl) ?_
  refine lv_iload_n hx hb dX3_owes_2 rfl (lv_at hl 1 rfl) ?_
  refine callVI0 (rest := [.ref (q 0)]) F (c_X3_isWorker_0 l G q f a n e0 hn v h) gX3_owes_X3_isWorker rfl hdX3_isWorker ⟨Nat.le_of_ble_eq_true rfl, Nat.le_of_ble_eq_true rfl⟩ hH ⟨0, 3, _, _, rfl, rfl, rfl⟩ rfl hl.1 (Nat.le_of_ble_eq_true rfl) dX3_owes_3 ⟨Nat.le_of_ble_eq_true rfl, Nat.le_of_ble_eq_true rfl⟩ rfl (fun u H locs hH => ?_)
  have hH : HH G A s (mW G q f a) H locs := hH
  refine callVI0 (rest := []) F (c_X3_asks_0 l G q f a) gX3_owes_X3_asks rfl hdX3_asks ⟨Nat.le_of_ble_eq_true rfl, Nat.le_of_ble_eq_true rfl⟩ hH ⟨0, 3, _, _, rfl, rfl, rfl⟩ rfl hl.1 (Nat.le_of_ble_eq_true rfl) dX3_owes_6 ⟨Nat.le_of_ble_eq_true rfl, Nat.le_of_ble_eq_true rfl⟩ rfl (fun u H locs hH => ?_)
  have hH : HH G A s (mW G q (va_up f 24 1) a) H locs := hH
  refine lv_if_eq (tgt := 21) hx hb dX3_owes_9 (by decide) (fun c_9 => ?_) (fun c_9 => absurd rfl c_9)
  refine lv_iconst (v := 0) hx hb dX3_owes_21 (by decide) ?_
  exact retI F hr rfl (fun _ => 0) hH rfl (Nat.le_of_ble_eq_true rfl) (Nat.le_of_ble_eq_true rfl) dX3_owes_22

set_option maxHeartbeats 4000000 in
set_option maxRecDepth 100000 in
theorem c_X3_door_1 (l : Launch) (G : Gx) (q : Nat → Nat) (f : Nat → Int32) (a : Nat → Nat → Int32) (n : Nat) (e0 : f 0 = nI n) (hn : n ≤ 8) (i : Nat) (hi : i < n) (t : Nat) (e16 : f 16 = nI t) (ht : t ≤ 201) (j : Nat) (hj : j < t) (h : Int32) (h1 : 0 ≤ h) (h2 : h ≤ 80) (hk : a 23 j = 0) : MV l yX3_door wsX3_door ({ frames := 1, cells := 0, slots := 0, locals := 22 } : Room) [.ref (q 0), .int (nI i), .int (nI j), .int h] G (mW G q f a) (fun u => mW G q (va_up f 24 0) (va_up a 21 (upd (a 21) (201 * i + j) h))) := by
  refine ofMV (cc := cX3_door) (maxL := 4) (ret := none) (by decide) rfl (Nat.le_of_ble_eq_true rfl) (fun p e s m below meth c A ls F hr hnm hH hl => ?_)
  have F : Fx G p s m _ meth c cX3_door 4 wsX3_door RX3 A := F
  have hx := F.1.1
  have hb := F.1.2.1
  have hl : lv_has ls 4 [(0, .ref (q 0)), (1, .int (nI i)), (2, .int (nI j)), (3, .int h)] := hl
  refine lv_aload_n hx hb dX3_door_0 rfl (lv_at hl 0 rfl) ?_
  refine lv_aload_n hx hb dX3_door_1 rfl (lv_at hl 0 rfl) ?_
  refine lv_iload_n hx hb dX3_door_2 rfl (lv_at hl 1 rfl) ?_
  refine callVI0 (rest := [.ref (q 0)]) F (c_X3_isWorker_1 l G q f a n e0 hn i hi) gX3_door_X3_isWorker rfl hdX3_isWorker ⟨Nat.le_of_ble_eq_true rfl, Nat.le_of_ble_eq_true rfl⟩ hH ⟨0, 3, _, _, rfl, rfl, rfl⟩ rfl hl.1 (Nat.le_of_ble_eq_true rfl) dX3_door_3 ⟨Nat.le_of_ble_eq_true rfl, Nat.le_of_ble_eq_true rfl⟩ rfl (fun u H locs hH => ?_)
  have hH : HH G A s (mW G q f a) H locs := hH
  refine callVI0 (rest := []) F (c_X3_asks_1 l G q f a) gX3_door_X3_asks rfl hdX3_asks ⟨Nat.le_of_ble_eq_true rfl, Nat.le_of_ble_eq_true rfl⟩ hH ⟨0, 3, _, _, rfl, rfl, rfl⟩ rfl hl.1 (Nat.le_of_ble_eq_true rfl) dX3_door_6 ⟨Nat.le_of_ble_eq_true rfl, Nat.le_of_ble_eq_true rfl⟩ rfl (fun u H locs hH => ?_)
  have hH : HH G A s (mW G q (va_up f 24 0) a) H locs := hH
  refine lv_if_ne (tgt := 13) hx hb dX3_door_9 (by decide) (fun c_9 => ?_) (fun c_9 => absurd c_9 (by decide))
  refine lv_aload_n hx hb dX3_door_13 rfl (lv_at hl 0 rfl) ?_
  refine lv_iload_n hx hb dX3_door_14 rfl (lv_at hl 2 rfl) ?_
  refine callVI0 (rest := []) F (c_X3_isPast_1 l G q (va_up f 24 0) a t e16 ht j hj) gX3_door_X3_isPast rfl hdX3_isPast ⟨Nat.le_of_ble_eq_true rfl, Nat.le_of_ble_eq_true rfl⟩ hH ⟨0, 3, _, _, rfl, rfl, rfl⟩ rfl hl.1 (Nat.le_of_ble_eq_true rfl) dX3_door_15 ⟨Nat.le_of_ble_eq_true rfl, Nat.le_of_ble_eq_true rfl⟩ rfl (fun u H locs hH => ?_)
  have hH : HH G A s (mW G q (va_up f 24 0) a) H locs := hH
  refine lv_if_eq (tgt := 31) hx hb dX3_door_18 (by decide) (fun c_18 => absurd c_18 (by decide)) (fun c_18 => ?_)
  refine lv_iload_n hx hb dX3_door_21 rfl (lv_at hl 3 rfl) ?_
  refine lv_iconst (v := 0) hx hb dX3_door_22 (by decide) ?_
  refine lv_bipush (v := 80) hx hb dX3_door_23 (by decide) ?_
  refine callSI0 (rest := []) F (c_X3_in_1 l G _ h 0 80 h1 h2) gX3_door_X3_in rfl hdX3_in ⟨Nat.le_of_ble_eq_true rfl, Nat.le_of_ble_eq_true rfl⟩ hH rfl hl.1 (Nat.le_of_ble_eq_true rfl) dX3_door_25 ⟨Nat.le_of_ble_eq_true rfl, Nat.le_of_ble_eq_true rfl⟩ rfl (fun u H locs hH => ?_)
  have hH : HH G A s (mW G q (va_up f 24 0) a) H locs := hH
  refine lv_if_ne (tgt := 40) hx hb dX3_door_28 (by decide) (fun c_28 => ?_) (fun c_28 => absurd c_28 (by decide))
  refine lv_aload_n hx hb dX3_door_40 rfl (lv_at hl 0 rfl) ?_
  refine rget (C := RX3) (T := TX3) (N := 25) (ref := RX3) F in_X3_door_X3 hH 0 rfl rfl 23 (by decide) (by decide +kernel) (fun _ h9 => h9) (v := .ref (q 23)) rfl dX3_door_41 ?_
  refine lv_iload_n hx hb dX3_door_44 rfl (lv_at hl 2 rfl) ?_
  refine rzald F hH 19 (n := 201) (f := a 23) rfl j rfl (by omega) (by decide) dX3_door_45 ?_
  refine lv_if_eq (tgt := 58) hx hb dX3_door_46 (by decide) (fun c_46 => ?_) (fun c_46 => absurd hk c_46)
  refine lv_aload_n hx hb dX3_door_58 rfl (lv_at hl 0 rfl) ?_
  refine rget (C := RX3) (T := TX3) (N := 25) (ref := RX3) F in_X3_door_X3 hH 0 rfl rfl 21 (by decide) (by decide +kernel) (fun _ h9 => h9) (v := .ref (q 21)) rfl dX3_door_59 ?_
  refine lv_sipush (v := 201) hx hb dX3_door_62 (by decide) ?_
  refine lv_iload_n hx hb dX3_door_65 rfl (lv_at hl 1 rfl) ?_
  refine lv_imul hx hb dX3_door_66 ?_
  refine lv_iload_n hx hb dX3_door_67 rfl (lv_at hl 2 rfl) ?_
  refine lv_iadd hx hb dX3_door_68 ?_
  refine lv_iload_n hx hb dX3_door_69 rfl (lv_at hl 3 rfl) ?_
  refine riast F hH 17 (n := 1608) (f := a 21) rfl (201 * i + j) (ix201 i j) (by omega) (by decide) dX3_door_70 (fun H locs hH => ?_)
  have hH : HH G A s (mW G q (va_up f 24 0) (va_up a 21 (upd (a 21) (201 * i + j) h))) H locs := hH
  exact retV F hr (fun _ => 0) hH (Nat.le_of_ble_eq_true rfl) (Nat.le_of_ble_eq_true rfl) dX3_door_71

set_option maxHeartbeats 4000000 in
set_option maxRecDepth 100000 in
theorem c_X3_door_3 (l : Launch) (G : Gx) (q : Nat → Nat) (f : Nat → Int32) (a : Nat → Nat → Int32) (n : Nat) (e0 : f 0 = nI n) (hn : n ≤ 8) (i : Nat) (hi : i < n) (t : Nat) (e16 : f 16 = nI t) (ht : t ≤ 201) (j : Nat) (hj : j < t) (h : Int32) (h1 : 0 ≤ h) (h2 : h ≤ 80) (hk : ¬ a 23 j = 0) : MV l yX3_door wsX3_door ({ frames := 1, cells := 0, slots := 0, locals := 22 } : Room) [.ref (q 0), .int (nI i), .int (nI j), .int h] G (mW G q f a) (fun u => mW G q (va_up f 24 3) a) := by
  refine ofMV (cc := cX3_door) (maxL := 4) (ret := none) (by decide) rfl (Nat.le_of_ble_eq_true rfl) (fun p e s m below meth c A ls F hr hnm hH hl => ?_)
  have F : Fx G p s m _ meth c cX3_door 4 wsX3_door RX3 A := F
  have hx := F.1.1
  have hb := F.1.2.1
  have hl : lv_has ls 4 [(0, .ref (q 0)), (1, .int (nI i)), (2, .int (nI j)), (3, .int h)] := hl
  refine lv_aload_n hx hb dX3_door_0 rfl (lv_at hl 0 rfl) ?_
  refine lv_aload_n hx hb dX3_door_1 rfl (lv_at hl 0 rfl) ?_
  refine lv_iload_n hx hb dX3_door_2 rfl (lv_at hl 1 rfl) ?_
  refine callVI0 (rest := [.ref (q 0)]) F (c_X3_isWorker_1 l G q f a n e0 hn i hi) gX3_door_X3_isWorker rfl hdX3_isWorker ⟨Nat.le_of_ble_eq_true rfl, Nat.le_of_ble_eq_true rfl⟩ hH ⟨0, 3, _, _, rfl, rfl, rfl⟩ rfl hl.1 (Nat.le_of_ble_eq_true rfl) dX3_door_3 ⟨Nat.le_of_ble_eq_true rfl, Nat.le_of_ble_eq_true rfl⟩ rfl (fun u H locs hH => ?_)
  have hH : HH G A s (mW G q f a) H locs := hH
  refine callVI0 (rest := []) F (c_X3_asks_1 l G q f a) gX3_door_X3_asks rfl hdX3_asks ⟨Nat.le_of_ble_eq_true rfl, Nat.le_of_ble_eq_true rfl⟩ hH ⟨0, 3, _, _, rfl, rfl, rfl⟩ rfl hl.1 (Nat.le_of_ble_eq_true rfl) dX3_door_6 ⟨Nat.le_of_ble_eq_true rfl, Nat.le_of_ble_eq_true rfl⟩ rfl (fun u H locs hH => ?_)
  have hH : HH G A s (mW G q (va_up f 24 0) a) H locs := hH
  refine lv_if_ne (tgt := 13) hx hb dX3_door_9 (by decide) (fun c_9 => ?_) (fun c_9 => absurd c_9 (by decide))
  refine lv_aload_n hx hb dX3_door_13 rfl (lv_at hl 0 rfl) ?_
  refine lv_iload_n hx hb dX3_door_14 rfl (lv_at hl 2 rfl) ?_
  refine callVI0 (rest := []) F (c_X3_isPast_1 l G q (va_up f 24 0) a t e16 ht j hj) gX3_door_X3_isPast rfl hdX3_isPast ⟨Nat.le_of_ble_eq_true rfl, Nat.le_of_ble_eq_true rfl⟩ hH ⟨0, 3, _, _, rfl, rfl, rfl⟩ rfl hl.1 (Nat.le_of_ble_eq_true rfl) dX3_door_15 ⟨Nat.le_of_ble_eq_true rfl, Nat.le_of_ble_eq_true rfl⟩ rfl (fun u H locs hH => ?_)
  have hH : HH G A s (mW G q (va_up f 24 0) a) H locs := hH
  refine lv_if_eq (tgt := 31) hx hb dX3_door_18 (by decide) (fun c_18 => absurd c_18 (by decide)) (fun c_18 => ?_)
  refine lv_iload_n hx hb dX3_door_21 rfl (lv_at hl 3 rfl) ?_
  refine lv_iconst (v := 0) hx hb dX3_door_22 (by decide) ?_
  refine lv_bipush (v := 80) hx hb dX3_door_23 (by decide) ?_
  refine callSI0 (rest := []) F (c_X3_in_1 l G _ h 0 80 h1 h2) gX3_door_X3_in rfl hdX3_in ⟨Nat.le_of_ble_eq_true rfl, Nat.le_of_ble_eq_true rfl⟩ hH rfl hl.1 (Nat.le_of_ble_eq_true rfl) dX3_door_25 ⟨Nat.le_of_ble_eq_true rfl, Nat.le_of_ble_eq_true rfl⟩ rfl (fun u H locs hH => ?_)
  have hH : HH G A s (mW G q (va_up f 24 0) a) H locs := hH
  refine lv_if_ne (tgt := 40) hx hb dX3_door_28 (by decide) (fun c_28 => ?_) (fun c_28 => absurd c_28 (by decide))
  refine lv_aload_n hx hb dX3_door_40 rfl (lv_at hl 0 rfl) ?_
  refine rget (C := RX3) (T := TX3) (N := 25) (ref := RX3) F in_X3_door_X3 hH 0 rfl rfl 23 (by decide) (by decide +kernel) (fun _ h9 => h9) (v := .ref (q 23)) rfl dX3_door_41 ?_
  refine lv_iload_n hx hb dX3_door_44 rfl (lv_at hl 2 rfl) ?_
  refine rzald F hH 19 (n := 201) (f := a 23) rfl j rfl (by omega) (by decide) dX3_door_45 ?_
  refine lv_if_eq (tgt := 58) hx hb dX3_door_46 (by decide) (fun c_46 => absurd c_46 hk) (fun c_46 => ?_)
  refine lv_aload_n hx hb dX3_door_49 rfl (lv_at hl 0 rfl) ?_
  refine lv_iconst (v := 3) hx hb dX3_door_50 (by decide) ?_
  refine callVI0 (rest := []) F (c_X3_fails l G q (va_up f 24 0) a 3) gX3_door_X3_fails rfl hdX3_fails ⟨Nat.le_of_ble_eq_true rfl, Nat.le_of_ble_eq_true rfl⟩ hH ⟨0, 3, _, _, rfl, rfl, rfl⟩ rfl hl.1 (Nat.le_of_ble_eq_true rfl) dX3_door_51 ⟨Nat.le_of_ble_eq_true rfl, Nat.le_of_ble_eq_true rfl⟩ rfl (fun u H locs hH => ?_)
  have hH : HH G A s (mW G q (va_up f 24 3) a) H locs := hH
  refine lv_pop hx hb dX3_door_54 rfl ?_
  refine lv_goto (tgt := 71) hx hb dX3_door_55 (by decide) ?_
  exact retV F hr (fun _ => 0) hH (Nat.le_of_ble_eq_true rfl) (Nat.le_of_ble_eq_true rfl) dX3_door_71

set_option maxHeartbeats 4000000 in
set_option maxRecDepth 100000 in
theorem c_X3_door_2 (l : Launch) (G : Gx) (q : Nat → Nat) (f : Nat → Int32) (a : Nat → Nat → Int32) (n : Nat) (e0 : f 0 = nI n) (hn : n ≤ 8) (i : Nat) (hi : i < n) (t : Nat) (e16 : f 16 = nI t) (ht : t ≤ 201) (w x : Int32) (h : w < 0 ∨ nI t ≤ w) : MV l yX3_door wsX3_door ({ frames := 1, cells := 0, slots := 0, locals := 21 } : Room) [.ref (q 0), .int (nI i), .int w, .int x] G (mW G q f a) (fun u => mW G q (va_up f 24 2) a) := by
  refine ofMV (cc := cX3_door) (maxL := 4) (ret := none) (by decide) rfl (Nat.le_of_ble_eq_true rfl) (fun p e s m below meth c A ls F hr hnm hH hl => ?_)
  have F : Fx G p s m _ meth c cX3_door 4 wsX3_door RX3 A := F
  have hx := F.1.1
  have hb := F.1.2.1
  have hl : lv_has ls 4 [(0, .ref (q 0)), (1, .int (nI i)), (2, .int w), (3, .int x)] := hl
  refine lv_aload_n hx hb dX3_door_0 rfl (lv_at hl 0 rfl) ?_
  refine lv_aload_n hx hb dX3_door_1 rfl (lv_at hl 0 rfl) ?_
  refine lv_iload_n hx hb dX3_door_2 rfl (lv_at hl 1 rfl) ?_
  refine callVI0 (rest := [.ref (q 0)]) F (c_X3_isWorker_1 l G q f a n e0 hn i hi) gX3_door_X3_isWorker rfl hdX3_isWorker ⟨Nat.le_of_ble_eq_true rfl, Nat.le_of_ble_eq_true rfl⟩ hH ⟨0, 3, _, _, rfl, rfl, rfl⟩ rfl hl.1 (Nat.le_of_ble_eq_true rfl) dX3_door_3 ⟨Nat.le_of_ble_eq_true rfl, Nat.le_of_ble_eq_true rfl⟩ rfl (fun u H locs hH => ?_)
  have hH : HH G A s (mW G q f a) H locs := hH
  refine callVI0 (rest := []) F (c_X3_asks_1 l G q f a) gX3_door_X3_asks rfl hdX3_asks ⟨Nat.le_of_ble_eq_true rfl, Nat.le_of_ble_eq_true rfl⟩ hH ⟨0, 3, _, _, rfl, rfl, rfl⟩ rfl hl.1 (Nat.le_of_ble_eq_true rfl) dX3_door_6 ⟨Nat.le_of_ble_eq_true rfl, Nat.le_of_ble_eq_true rfl⟩ rfl (fun u H locs hH => ?_)
  have hH : HH G A s (mW G q (va_up f 24 0) a) H locs := hH
  refine lv_if_ne (tgt := 13) hx hb dX3_door_9 (by decide) (fun c_9 => ?_) (fun c_9 => absurd c_9 (by decide))
  refine lv_aload_n hx hb dX3_door_13 rfl (lv_at hl 0 rfl) ?_
  refine lv_iload_n hx hb dX3_door_14 rfl (lv_at hl 2 rfl) ?_
  refine callVI0 (rest := []) F (c_X3_isPast_0 l G q (va_up f 24 0) a t e16 ht w h) gX3_door_X3_isPast rfl hdX3_isPast ⟨Nat.le_of_ble_eq_true rfl, Nat.le_of_ble_eq_true rfl⟩ hH ⟨0, 3, _, _, rfl, rfl, rfl⟩ rfl hl.1 (Nat.le_of_ble_eq_true rfl) dX3_door_15 ⟨Nat.le_of_ble_eq_true rfl, Nat.le_of_ble_eq_true rfl⟩ rfl (fun u H locs hH => ?_)
  have hH : HH G A s (mW G q (va_up f 24 0) a) H locs := hH
  refine lv_if_eq (tgt := 31) hx hb dX3_door_18 (by decide) (fun c_18 => ?_) (fun c_18 => absurd rfl c_18)
  refine lv_aload_n hx hb dX3_door_31 rfl (lv_at hl 0 rfl) ?_
  refine lv_iconst (v := 2) hx hb dX3_door_32 (by decide) ?_
  refine callVI0 (rest := []) F (c_X3_fails l G q (va_up f 24 0) a 2) gX3_door_X3_fails rfl hdX3_fails ⟨Nat.le_of_ble_eq_true rfl, Nat.le_of_ble_eq_true rfl⟩ hH ⟨0, 3, _, _, rfl, rfl, rfl⟩ rfl hl.1 (Nat.le_of_ble_eq_true rfl) dX3_door_33 ⟨Nat.le_of_ble_eq_true rfl, Nat.le_of_ble_eq_true rfl⟩ rfl (fun u H locs hH => ?_)
  have hH : HH G A s (mW G q (va_up f 24 2) a) H locs := hH
  refine lv_pop hx hb dX3_door_36 rfl ?_
  refine lv_goto (tgt := 71) hx hb dX3_door_37 (by decide) ?_
  exact retV F hr (fun _ => 0) hH (Nat.le_of_ble_eq_true rfl) (Nat.le_of_ble_eq_true rfl) dX3_door_71

set_option maxHeartbeats 4000000 in
set_option maxRecDepth 100000 in
theorem c_X3_door_22 (l : Launch) (G : Gx) (q : Nat → Nat) (f : Nat → Int32) (a : Nat → Nat → Int32) (n : Nat) (e0 : f 0 = nI n) (hn : n ≤ 8) (i : Nat) (hi : i < n) (t : Nat) (e16 : f 16 = nI t) (ht : t ≤ 201) (j : Nat) (hj : j < t) (x : Int32) (h : x < 0 ∨ 80 < x) : MV l yX3_door wsX3_door ({ frames := 1, cells := 0, slots := 0, locals := 22 } : Room) [.ref (q 0), .int (nI i), .int (nI j), .int x] G (mW G q f a) (fun u => mW G q (va_up f 24 2) a) := by
  refine ofMV (cc := cX3_door) (maxL := 4) (ret := none) (by decide) rfl (Nat.le_of_ble_eq_true rfl) (fun p e s m below meth c A ls F hr hnm hH hl => ?_)
  have F : Fx G p s m _ meth c cX3_door 4 wsX3_door RX3 A := F
  have hx := F.1.1
  have hb := F.1.2.1
  have hl : lv_has ls 4 [(0, .ref (q 0)), (1, .int (nI i)), (2, .int (nI j)), (3, .int x)] := hl
  refine lv_aload_n hx hb dX3_door_0 rfl (lv_at hl 0 rfl) ?_
  refine lv_aload_n hx hb dX3_door_1 rfl (lv_at hl 0 rfl) ?_
  refine lv_iload_n hx hb dX3_door_2 rfl (lv_at hl 1 rfl) ?_
  refine callVI0 (rest := [.ref (q 0)]) F (c_X3_isWorker_1 l G q f a n e0 hn i hi) gX3_door_X3_isWorker rfl hdX3_isWorker ⟨Nat.le_of_ble_eq_true rfl, Nat.le_of_ble_eq_true rfl⟩ hH ⟨0, 3, _, _, rfl, rfl, rfl⟩ rfl hl.1 (Nat.le_of_ble_eq_true rfl) dX3_door_3 ⟨Nat.le_of_ble_eq_true rfl, Nat.le_of_ble_eq_true rfl⟩ rfl (fun u H locs hH => ?_)
  have hH : HH G A s (mW G q f a) H locs := hH
  refine callVI0 (rest := []) F (c_X3_asks_1 l G q f a) gX3_door_X3_asks rfl hdX3_asks ⟨Nat.le_of_ble_eq_true rfl, Nat.le_of_ble_eq_true rfl⟩ hH ⟨0, 3, _, _, rfl, rfl, rfl⟩ rfl hl.1 (Nat.le_of_ble_eq_true rfl) dX3_door_6 ⟨Nat.le_of_ble_eq_true rfl, Nat.le_of_ble_eq_true rfl⟩ rfl (fun u H locs hH => ?_)
  have hH : HH G A s (mW G q (va_up f 24 0) a) H locs := hH
  refine lv_if_ne (tgt := 13) hx hb dX3_door_9 (by decide) (fun c_9 => ?_) (fun c_9 => absurd c_9 (by decide))
  refine lv_aload_n hx hb dX3_door_13 rfl (lv_at hl 0 rfl) ?_
  refine lv_iload_n hx hb dX3_door_14 rfl (lv_at hl 2 rfl) ?_
  refine callVI0 (rest := []) F (c_X3_isPast_1 l G q (va_up f 24 0) a t e16 ht j hj) gX3_door_X3_isPast rfl hdX3_isPast ⟨Nat.le_of_ble_eq_true rfl, Nat.le_of_ble_eq_true rfl⟩ hH ⟨0, 3, _, _, rfl, rfl, rfl⟩ rfl hl.1 (Nat.le_of_ble_eq_true rfl) dX3_door_15 ⟨Nat.le_of_ble_eq_true rfl, Nat.le_of_ble_eq_true rfl⟩ rfl (fun u H locs hH => ?_)
  have hH : HH G A s (mW G q (va_up f 24 0) a) H locs := hH
  refine lv_if_eq (tgt := 31) hx hb dX3_door_18 (by decide) (fun c_18 => absurd c_18 (by decide)) (fun c_18 => ?_)
  refine lv_iload_n hx hb dX3_door_21 rfl (lv_at hl 3 rfl) ?_
  refine lv_iconst (v := 0) hx hb dX3_door_22 (by decide) ?_
  refine lv_bipush (v := 80) hx hb dX3_door_23 (by decide) ?_
  refine callSI0 (rest := []) F (c_X3_in_0 l G _ x 0 80 h) gX3_door_X3_in rfl hdX3_in ⟨Nat.le_of_ble_eq_true rfl, Nat.le_of_ble_eq_true rfl⟩ hH rfl hl.1 (Nat.le_of_ble_eq_true rfl) dX3_door_25 ⟨Nat.le_of_ble_eq_true rfl, Nat.le_of_ble_eq_true rfl⟩ rfl (fun u H locs hH => ?_)
  have hH : HH G A s (mW G q (va_up f 24 0) a) H locs := hH
  refine lv_if_ne (tgt := 40) hx hb dX3_door_28 (by decide) (fun c_28 => absurd rfl c_28) (fun c_28 => ?_)
  refine lv_aload_n hx hb dX3_door_31 rfl (lv_at hl 0 rfl) ?_
  refine lv_iconst (v := 2) hx hb dX3_door_32 (by decide) ?_
  refine callVI0 (rest := []) F (c_X3_fails l G q (va_up f 24 0) a 2) gX3_door_X3_fails rfl hdX3_fails ⟨Nat.le_of_ble_eq_true rfl, Nat.le_of_ble_eq_true rfl⟩ hH ⟨0, 3, _, _, rfl, rfl, rfl⟩ rfl hl.1 (Nat.le_of_ble_eq_true rfl) dX3_door_33 ⟨Nat.le_of_ble_eq_true rfl, Nat.le_of_ble_eq_true rfl⟩ rfl (fun u H locs hH => ?_)
  have hH : HH G A s (mW G q (va_up f 24 2) a) H locs := hH
  refine lv_pop hx hb dX3_door_36 rfl ?_
  refine lv_goto (tgt := 71) hx hb dX3_door_37 (by decide) ?_
  exact retV F hr (fun _ => 0) hH (Nat.le_of_ble_eq_true rfl) (Nat.le_of_ble_eq_true rfl) dX3_door_71

set_option maxHeartbeats 4000000 in
set_option maxRecDepth 100000 in
theorem c_X3_door_0 (l : Launch) (G : Gx) (q : Nat → Nat) (f : Nat → Int32) (a : Nat → Nat → Int32) (n : Nat) (e0 : f 0 = nI n) (hn : n ≤ 8) (v : Int32) (h : v < 0 ∨ nI n ≤ v) (w x : Int32) : MV l yX3_door wsX3_door ({ frames := 1, cells := 0, slots := 0, locals := 21 } : Room) [.ref (q 0), .int v, .int w, .int x] G (mW G q f a) (fun u => mW G q (va_up f 24 1) a) := by
  refine ofMV (cc := cX3_door) (maxL := 4) (ret := none) (by decide) rfl (Nat.le_of_ble_eq_true rfl) (fun p e s m below meth c A ls F hr hnm hH hl => ?_)
  have F : Fx G p s m _ meth c cX3_door 4 wsX3_door RX3 A := F
  have hx := F.1.1
  have hb := F.1.2.1
  have hl : lv_has ls 4 [(0, .ref (q 0)), (1, .int v), (2, .int w), (3, .int x)] := hl
  refine lv_aload_n hx hb dX3_door_0 rfl (lv_at hl 0 rfl) ?_
  refine lv_aload_n hx hb dX3_door_1 rfl (lv_at hl 0 rfl) ?_
  refine lv_iload_n hx hb dX3_door_2 rfl (lv_at hl 1 rfl) ?_
  refine callVI0 (rest := [.ref (q 0)]) F (c_X3_isWorker_0 l G q f a n e0 hn v h) gX3_door_X3_isWorker rfl hdX3_isWorker ⟨Nat.le_of_ble_eq_true rfl, Nat.le_of_ble_eq_true rfl⟩ hH ⟨0, 3, _, _, rfl, rfl, rfl⟩ rfl hl.1 (Nat.le_of_ble_eq_true rfl) dX3_door_3 ⟨Nat.le_of_ble_eq_true rfl, Nat.le_of_ble_eq_true rfl⟩ rfl (fun u H locs hH => ?_)
  have hH : HH G A s (mW G q f a) H locs := hH
  refine callVI0 (rest := []) F (c_X3_asks_0 l G q f a) gX3_door_X3_asks rfl hdX3_asks ⟨Nat.le_of_ble_eq_true rfl, Nat.le_of_ble_eq_true rfl⟩ hH ⟨0, 3, _, _, rfl, rfl, rfl⟩ rfl hl.1 (Nat.le_of_ble_eq_true rfl) dX3_door_6 ⟨Nat.le_of_ble_eq_true rfl, Nat.le_of_ble_eq_true rfl⟩ rfl (fun u H locs hH => ?_)
  have hH : HH G A s (mW G q (va_up f 24 1) a) H locs := hH
  refine lv_if_ne (tgt := 13) hx hb dX3_door_9 (by decide) (fun c_9 => absurd rfl c_9) (fun c_9 => ?_)
  exact retV F hr (fun _ => 0) hH (Nat.le_of_ble_eq_true rfl) (Nat.le_of_ble_eq_true rfl) dX3_door_12

set_option maxHeartbeats 4000000 in
set_option maxRecDepth 100000 in
theorem c_X3_mail_1 (l : Launch) (G : Gx) (q : Nat → Nat) (f : Nat → Int32) (a : Nat → Nat → Int32) (n : Nat) (e0 : f 0 = nI n) (hn : n ≤ 8) (i : Nat) (hi : i < n) (t : Nat) (e16 : f 16 = nI t) (ht : t ≤ 201) (j : Nat) (hj : j < t) (hk : a 23 j = 0) : MV l yX3_mail wsX3_mail ({ frames := 1, cells := 0, slots := 0, locals := 21 } : Room) [.ref (q 0), .int (nI i), .int (nI j)] G (mW G q f a) (fun u => mW G q (va_up f 24 0) (va_up a 22 (upd (a 22) (201 * i + j) 1))) := by
  refine ofMV (cc := cX3_mail) (maxL := 3) (ret := none) (by decide) rfl (Nat.le_of_ble_eq_true rfl) (fun p e s m below meth c A ls F hr hnm hH hl => ?_)
  have F : Fx G p s m _ meth c cX3_mail 3 wsX3_mail RX3 A := F
  have hx := F.1.1
  have hb := F.1.2.1
  have hl : lv_has ls 3 [(0, .ref (q 0)), (1, .int (nI i)), (2, .int (nI j))] := hl
  refine lv_aload_n hx hb dX3_mail_0 rfl (lv_at hl 0 rfl) ?_
  refine lv_aload_n hx hb dX3_mail_1 rfl (lv_at hl 0 rfl) ?_
  refine lv_iload_n hx hb dX3_mail_2 rfl (lv_at hl 1 rfl) ?_
  refine callVI0 (rest := [.ref (q 0)]) F (c_X3_isWorker_1 l G q f a n e0 hn i hi) gX3_mail_X3_isWorker rfl hdX3_isWorker ⟨Nat.le_of_ble_eq_true rfl, Nat.le_of_ble_eq_true rfl⟩ hH ⟨0, 3, _, _, rfl, rfl, rfl⟩ rfl hl.1 (Nat.le_of_ble_eq_true rfl) dX3_mail_3 ⟨Nat.le_of_ble_eq_true rfl, Nat.le_of_ble_eq_true rfl⟩ rfl (fun u H locs hH => ?_)
  have hH : HH G A s (mW G q f a) H locs := hH
  refine callVI0 (rest := []) F (c_X3_asks_1 l G q f a) gX3_mail_X3_asks rfl hdX3_asks ⟨Nat.le_of_ble_eq_true rfl, Nat.le_of_ble_eq_true rfl⟩ hH ⟨0, 3, _, _, rfl, rfl, rfl⟩ rfl hl.1 (Nat.le_of_ble_eq_true rfl) dX3_mail_6 ⟨Nat.le_of_ble_eq_true rfl, Nat.le_of_ble_eq_true rfl⟩ rfl (fun u H locs hH => ?_)
  have hH : HH G A s (mW G q (va_up f 24 0) a) H locs := hH
  refine lv_if_ne (tgt := 13) hx hb dX3_mail_9 (by decide) (fun c_9 => ?_) (fun c_9 => absurd c_9 (by decide))
  refine lv_aload_n hx hb dX3_mail_13 rfl (lv_at hl 0 rfl) ?_
  refine lv_iload_n hx hb dX3_mail_14 rfl (lv_at hl 2 rfl) ?_
  refine callVI0 (rest := []) F (c_X3_isPast_1 l G q (va_up f 24 0) a t e16 ht j hj) gX3_mail_X3_isPast rfl hdX3_isPast ⟨Nat.le_of_ble_eq_true rfl, Nat.le_of_ble_eq_true rfl⟩ hH ⟨0, 3, _, _, rfl, rfl, rfl⟩ rfl hl.1 (Nat.le_of_ble_eq_true rfl) dX3_mail_15 ⟨Nat.le_of_ble_eq_true rfl, Nat.le_of_ble_eq_true rfl⟩ rfl (fun u H locs hH => ?_)
  have hH : HH G A s (mW G q (va_up f 24 0) a) H locs := hH
  refine lv_if_ne (tgt := 30) hx hb dX3_mail_18 (by decide) (fun c_18 => ?_) (fun c_18 => absurd c_18 (by decide))
  refine lv_aload_n hx hb dX3_mail_30 rfl (lv_at hl 0 rfl) ?_
  refine rget (C := RX3) (T := TX3) (N := 25) (ref := RX3) F in_X3_mail_X3 hH 0 rfl rfl 23 (by decide) (by decide +kernel) (fun _ h9 => h9) (v := .ref (q 23)) rfl dX3_mail_31 ?_
  refine lv_iload_n hx hb dX3_mail_34 rfl (lv_at hl 2 rfl) ?_
  refine rzald F hH 19 (n := 201) (f := a 23) rfl j rfl (by omega) (by decide) dX3_mail_35 ?_
  refine lv_if_eq (tgt := 48) hx hb dX3_mail_36 (by decide) (fun c_36 => ?_) (fun c_36 => absurd hk c_36)
  refine lv_aload_n hx hb dX3_mail_48 rfl (lv_at hl 0 rfl) ?_
  refine rget (C := RX3) (T := TX3) (N := 25) (ref := RX3) F in_X3_mail_X3 hH 0 rfl rfl 22 (by decide) (by decide +kernel) (fun _ h9 => h9) (v := .ref (q 22)) rfl dX3_mail_49 ?_
  refine lv_sipush (v := 201) hx hb dX3_mail_52 (by decide) ?_
  refine lv_iload_n hx hb dX3_mail_55 rfl (lv_at hl 1 rfl) ?_
  refine lv_imul hx hb dX3_mail_56 ?_
  refine lv_iload_n hx hb dX3_mail_57 rfl (lv_at hl 2 rfl) ?_
  refine lv_iadd hx hb dX3_mail_58 ?_
  refine lv_iconst (v := 1) hx hb dX3_mail_59 (by decide) ?_
  refine rzast F hH 18 (n := 1608) (f := a 22) rfl (201 * i + j) (ix201 i j) (by omega) (by decide) rfl dX3_mail_60 (fun H locs hH => ?_)
  have hH : HH G A s (mW G q (va_up f 24 0) (va_up a 22 (upd (a 22) (201 * i + j) 1))) H locs := hH
  exact retV F hr (fun _ => 0) hH (Nat.le_of_ble_eq_true rfl) (Nat.le_of_ble_eq_true rfl) dX3_mail_61

set_option maxHeartbeats 4000000 in
set_option maxRecDepth 100000 in
theorem c_X3_mail_3 (l : Launch) (G : Gx) (q : Nat → Nat) (f : Nat → Int32) (a : Nat → Nat → Int32) (n : Nat) (e0 : f 0 = nI n) (hn : n ≤ 8) (i : Nat) (hi : i < n) (t : Nat) (e16 : f 16 = nI t) (ht : t ≤ 201) (j : Nat) (hj : j < t) (hk : ¬ a 23 j = 0) : MV l yX3_mail wsX3_mail ({ frames := 1, cells := 0, slots := 0, locals := 21 } : Room) [.ref (q 0), .int (nI i), .int (nI j)] G (mW G q f a) (fun u => mW G q (va_up f 24 3) a) := by
  refine ofMV (cc := cX3_mail) (maxL := 3) (ret := none) (by decide) rfl (Nat.le_of_ble_eq_true rfl) (fun p e s m below meth c A ls F hr hnm hH hl => ?_)
  have F : Fx G p s m _ meth c cX3_mail 3 wsX3_mail RX3 A := F
  have hx := F.1.1
  have hb := F.1.2.1
  have hl : lv_has ls 3 [(0, .ref (q 0)), (1, .int (nI i)), (2, .int (nI j))] := hl
  refine lv_aload_n hx hb dX3_mail_0 rfl (lv_at hl 0 rfl) ?_
  refine lv_aload_n hx hb dX3_mail_1 rfl (lv_at hl 0 rfl) ?_
  refine lv_iload_n hx hb dX3_mail_2 rfl (lv_at hl 1 rfl) ?_
  refine callVI0 (rest := [.ref (q 0)]) F (c_X3_isWorker_1 l G q f a n e0 hn i hi) gX3_mail_X3_isWorker rfl hdX3_isWorker ⟨Nat.le_of_ble_eq_true rfl, Nat.le_of_ble_eq_true rfl⟩ hH ⟨0, 3, _, _, rfl, rfl, rfl⟩ rfl hl.1 (Nat.le_of_ble_eq_true rfl) dX3_mail_3 ⟨Nat.le_of_ble_eq_true rfl, Nat.le_of_ble_eq_true rfl⟩ rfl (fun u H locs hH => ?_)
  have hH : HH G A s (mW G q f a) H locs := hH
  refine callVI0 (rest := []) F (c_X3_asks_1 l G q f a) gX3_mail_X3_asks rfl hdX3_asks ⟨Nat.le_of_ble_eq_true rfl, Nat.le_of_ble_eq_true rfl⟩ hH ⟨0, 3, _, _, rfl, rfl, rfl⟩ rfl hl.1 (Nat.le_of_ble_eq_true rfl) dX3_mail_6 ⟨Nat.le_of_ble_eq_true rfl, Nat.le_of_ble_eq_true rfl⟩ rfl (fun u H locs hH => ?_)
  have hH : HH G A s (mW G q (va_up f 24 0) a) H locs := hH
  refine lv_if_ne (tgt := 13) hx hb dX3_mail_9 (by decide) (fun c_9 => ?_) (fun c_9 => absurd c_9 (by decide))
  refine lv_aload_n hx hb dX3_mail_13 rfl (lv_at hl 0 rfl) ?_
  refine lv_iload_n hx hb dX3_mail_14 rfl (lv_at hl 2 rfl) ?_
  refine callVI0 (rest := []) F (c_X3_isPast_1 l G q (va_up f 24 0) a t e16 ht j hj) gX3_mail_X3_isPast rfl hdX3_isPast ⟨Nat.le_of_ble_eq_true rfl, Nat.le_of_ble_eq_true rfl⟩ hH ⟨0, 3, _, _, rfl, rfl, rfl⟩ rfl hl.1 (Nat.le_of_ble_eq_true rfl) dX3_mail_15 ⟨Nat.le_of_ble_eq_true rfl, Nat.le_of_ble_eq_true rfl⟩ rfl (fun u H locs hH => ?_)
  have hH : HH G A s (mW G q (va_up f 24 0) a) H locs := hH
  refine lv_if_ne (tgt := 30) hx hb dX3_mail_18 (by decide) (fun c_18 => ?_) (fun c_18 => absurd c_18 (by decide))
  refine lv_aload_n hx hb dX3_mail_30 rfl (lv_at hl 0 rfl) ?_
  refine rget (C := RX3) (T := TX3) (N := 25) (ref := RX3) F in_X3_mail_X3 hH 0 rfl rfl 23 (by decide) (by decide +kernel) (fun _ h9 => h9) (v := .ref (q 23)) rfl dX3_mail_31 ?_
  refine lv_iload_n hx hb dX3_mail_34 rfl (lv_at hl 2 rfl) ?_
  refine rzald F hH 19 (n := 201) (f := a 23) rfl j rfl (by omega) (by decide) dX3_mail_35 ?_
  refine lv_if_eq (tgt := 48) hx hb dX3_mail_36 (by decide) (fun c_36 => absurd c_36 hk) (fun c_36 => ?_)
  refine lv_aload_n hx hb dX3_mail_39 rfl (lv_at hl 0 rfl) ?_
  refine lv_iconst (v := 3) hx hb dX3_mail_40 (by decide) ?_
  refine callVI0 (rest := []) F (c_X3_fails l G q (va_up f 24 0) a 3) gX3_mail_X3_fails rfl hdX3_fails ⟨Nat.le_of_ble_eq_true rfl, Nat.le_of_ble_eq_true rfl⟩ hH ⟨0, 3, _, _, rfl, rfl, rfl⟩ rfl hl.1 (Nat.le_of_ble_eq_true rfl) dX3_mail_41 ⟨Nat.le_of_ble_eq_true rfl, Nat.le_of_ble_eq_true rfl⟩ rfl (fun u H locs hH => ?_)
  have hH : HH G A s (mW G q (va_up f 24 3) a) H locs := hH
  refine lv_pop hx hb dX3_mail_44 rfl ?_
  refine lv_goto (tgt := 61) hx hb dX3_mail_45 (by decide) ?_
  exact retV F hr (fun _ => 0) hH (Nat.le_of_ble_eq_true rfl) (Nat.le_of_ble_eq_true rfl) dX3_mail_61

set_option maxHeartbeats 4000000 in
set_option maxRecDepth 100000 in
theorem c_X3_mail_2 (l : Launch) (G : Gx) (q : Nat → Nat) (f : Nat → Int32) (a : Nat → Nat → Int32) (n : Nat) (e0 : f 0 = nI n) (hn : n ≤ 8) (i : Nat) (hi : i < n) (t : Nat) (e16 : f 16 = nI t) (ht : t ≤ 201) (w : Int32) (h : w < 0 ∨ nI t ≤ w) : MV l yX3_mail wsX3_mail ({ frames := 1, cells := 0, slots := 0, locals := 21 } : Room) [.ref (q 0), .int (nI i), .int w] G (mW G q f a) (fun u => mW G q (va_up f 24 2) a) := by
  refine ofMV (cc := cX3_mail) (maxL := 3) (ret := none) (by decide) rfl (Nat.le_of_ble_eq_true rfl) (fun p e s m below meth c A ls F hr hnm hH hl => ?_)
  have F : Fx G p s m _ meth c cX3_mail 3 wsX3_mail RX3 A := F
  have hx := F.1.1
  have hb := F.1.2.1
  have hl : lv_has ls 3 [(0, .ref (q 0)), (1, .int (nI i)), (2, .int w)] := hl
  refine lv_aload_n hx hb dX3_mail_0 rfl (lv_at hl 0 rfl) ?_
  refine lv_aload_n hx hb dX3_mail_1 rfl (lv_at hl 0 rfl) ?_
  refine lv_iload_n hx hb dX3_mail_2 rfl (lv_at hl 1 rfl) ?_
  refine callVI0 (rest := [.ref (q 0)]) F (c_X3_isWorker_1 l G q f a n e0 hn i hi) gX3_mail_X3_isWorker rfl hdX3_isWorker ⟨Nat.le_of_ble_eq_true rfl, Nat.le_of_ble_eq_true rfl⟩ hH ⟨0, 3, _, _, rfl, rfl, rfl⟩ rfl hl.1 (Nat.le_of_ble_eq_true rfl) dX3_mail_3 ⟨Nat.le_of_ble_eq_true rfl, Nat.le_of_ble_eq_true rfl⟩ rfl (fun u H locs hH => ?_)
  have hH : HH G A s (mW G q f a) H locs := hH
  refine callVI0 (rest := []) F (c_X3_asks_1 l G q f a) gX3_mail_X3_asks rfl hdX3_asks ⟨Nat.le_of_ble_eq_true rfl, Nat.le_of_ble_eq_true rfl⟩ hH ⟨0, 3, _, _, rfl, rfl, rfl⟩ rfl hl.1 (Nat.le_of_ble_eq_true rfl) dX3_mail_6 ⟨Nat.le_of_ble_eq_true rfl, Nat.le_of_ble_eq_true rfl⟩ rfl (fun u H locs hH => ?_)
  have hH : HH G A s (mW G q (va_up f 24 0) a) H locs := hH
  refine lv_if_ne (tgt := 13) hx hb dX3_mail_9 (by decide) (fun c_9 => ?_) (fun c_9 => absurd c_9 (by decide))
  refine lv_aload_n hx hb dX3_mail_13 rfl (lv_at hl 0 rfl) ?_
  refine lv_iload_n hx hb dX3_mail_14 rfl (lv_at hl 2 rfl) ?_
  refine callVI0 (rest := []) F (c_X3_isPast_0 l G q (va_up f 24 0) a t e16 ht w h) gX3_mail_X3_isPast rfl hdX3_isPast ⟨Nat.le_of_ble_eq_true rfl, Nat.le_of_ble_eq_true rfl⟩ hH ⟨0, 3, _, _, rfl, rfl, rfl⟩ rfl hl.1 (Nat.le_of_ble_eq_true rfl) dX3_mail_15 ⟨Nat.le_of_ble_eq_true rfl, Nat.le_of_ble_eq_true rfl⟩ rfl (fun u H locs hH => ?_)
  have hH : HH G A s (mW G q (va_up f 24 0) a) H locs := hH
  refine lv_if_ne (tgt := 30) hx hb dX3_mail_18 (by decide) (fun c_18 => absurd rfl c_18) (fun c_18 => ?_)
  refine lv_aload_n hx hb dX3_mail_21 rfl (lv_at hl 0 rfl) ?_
  refine lv_iconst (v := 2) hx hb dX3_mail_22 (by decide) ?_
  refine callVI0 (rest := []) F (c_X3_fails l G q (va_up f 24 0) a 2) gX3_mail_X3_fails rfl hdX3_fails ⟨Nat.le_of_ble_eq_true rfl, Nat.le_of_ble_eq_true rfl⟩ hH ⟨0, 3, _, _, rfl, rfl, rfl⟩ rfl hl.1 (Nat.le_of_ble_eq_true rfl) dX3_mail_23 ⟨Nat.le_of_ble_eq_true rfl, Nat.le_of_ble_eq_true rfl⟩ rfl (fun u H locs hH => ?_)
  have hH : HH G A s (mW G q (va_up f 24 2) a) H locs := hH
  refine lv_pop hx hb dX3_mail_26 rfl ?_
  refine lv_goto (tgt := 61) hx hb dX3_mail_27 (by decide) ?_
  exact retV F hr (fun _ => 0) hH (Nat.le_of_ble_eq_true rfl) (Nat.le_of_ble_eq_true rfl) dX3_mail_61

set_option maxHeartbeats 4000000 in
set_option maxRecDepth 100000 in
theorem c_X3_mail_0 (l : Launch) (G : Gx) (q : Nat → Nat) (f : Nat → Int32) (a : Nat → Nat → Int32) (n : Nat) (e0 : f 0 = nI n) (hn : n ≤ 8) (v : Int32) (h : v < 0 ∨ nI n ≤ v) (w : Int32) : MV l yX3_mail wsX3_mail ({ frames := 1, cells := 0, slots := 0, locals := 21 } : Room) [.ref (q 0), .int v, .int w] G (mW G q f a) (fun u => mW G q (va_up f 24 1) a) := by
  refine ofMV (cc := cX3_mail) (maxL := 3) (ret := none) (by decide) rfl (Nat.le_of_ble_eq_true rfl) (fun p e s m below meth c A ls F hr hnm hH hl => ?_)
  have F : Fx G p s m _ meth c cX3_mail 3 wsX3_mail RX3 A := F
  have hx := F.1.1
  have hb := F.1.2.1
  have hl : lv_has ls 3 [(0, .ref (q 0)), (1, .int v), (2, .int w)] := hl
  refine lv_aload_n hx hb dX3_mail_0 rfl (lv_at hl 0 rfl) ?_
  refine lv_aload_n hx hb dX3_mail_1 rfl (lv_at hl 0 rfl) ?_
  refine lv_iload_n hx hb dX3_mail_2 rfl (lv_at hl 1 rfl) ?_
  refine callVI0 (rest := [.ref (q 0)]) F (c_X3_isWorker_0 l G q f a n e0 hn v h) gX3_mail_X3_isWorker rfl hdX3_isWorker ⟨Nat.le_of_ble_eq_true rfl, Nat.le_of_ble_eq_true rfl⟩ hH ⟨0, 3, _, _, rfl, rfl, rfl⟩ rfl hl.1 (Nat.le_of_ble_eq_true rfl) dX3_mail_3 ⟨Nat.le_of_ble_eq_true rfl, Nat.le_of_ble_eq_true rfl⟩ rfl (fun u H locs hH => ?_)
  have hH : HH G A s (mW G q f a) H locs := hH
  refine callVI0 (rest := []) F (c_X3_asks_0 l G q f a) gX3_mail_X3_asks rfl hdX3_asks ⟨Nat.le_of_ble_eq_true rfl, Nat.le_of_ble_eq_true rfl⟩ hH ⟨0, 3, _, _, rfl, rfl, rfl⟩ rfl hl.1 (Nat.le_of_ble_eq_true rfl) dX3_mail_6 ⟨Nat.le_of_ble_eq_true rfl, Nat.le_of_ble_eq_true rfl⟩ rfl (fun u H locs hH => ?_)
  have hH : HH G A s (mW G q (va_up f 24 1) a) H locs := hH
  refine lv_if_ne (tgt := 13) hx hb dX3_mail_9 (by decide) (fun c_9 => absurd rfl c_9) (fun c_9 => ?_)
  exact retV F hr (fun _ => 0) hH (Nat.le_of_ble_eq_true rfl) (Nat.le_of_ble_eq_true rfl) dX3_mail_12
end
