/-! worlds as lists of cells, contracts over them, calls -/
abbrev Gx : Type := va_G × (Nat → ClassId)
def tyL (G : Gx) : List (ClassId × FieldType) := [(G.2 0, .int), (G.2 1, .boolean), (G.2 2, .object "ShortWork$Worker"), (G.2 3, .object "ShortWork$Course")]
def evL : List Cond := [.fieldLinkNest RX2 91 RX1 "cutHours" "[I" RX2, .fieldLinkNest RX2 106 RX1 "firmPay" "[I" RX2, .fieldLinkNest RX2 109 RX1 "fundPay" "[I" RX2, .fieldLinkNest RX2 115 RX1 "doorHours" "[I" RX2, .fieldLinkNest RX2 118 RX1 "mailed" "[Z" RX2, .fieldLinkNest RX2 58 RX1 "noticeCount" "I" RX2, .fieldLinkNest RX2 112 RX1 "cutWeekCount" "I" RX2, .fieldLinkNest RX2 134 RX1 "received" "I" RX2, .fieldLinkNest RX2 131 RX1 "debt" "I" RX2, .fieldLinkNest RX1 42 RX0 "from" "I" RX2, .fieldLinkNest RX2 81 RX0 "from" "I" RX2, .fieldLinkNest RX1 47 RX0 "to" "I" RX2, .fieldLinkNest RX2 78 RX0 "to" "I" RX2, .fieldLinkNest RX1 50 RX0 "hours" "I" RX2, .fieldLinkNest RX2 75 RX0 "seatsLeft" "I" RX2]
def exL : List String := ["java/lang/IllegalArgumentException", "java/lang/IllegalStateException", "java/lang/IndexOutOfBoundsException"]
def exW : List Cond := [.castable "java/lang/IllegalArgumentException" "java/lang/IllegalArgumentException", .castable "java/lang/IllegalStateException" "java/lang/IllegalStateException", .castable "java/lang/IndexOutOfBoundsException" "java/lang/IndexOutOfBoundsException", .declares ⟨"java/lang/RuntimeException", "<init>", "()V"⟩, .declares ⟨"java/lang/Exception", "<init>", "()V"⟩, .declares ⟨"java/lang/Throwable", "<init>", "()V"⟩]
def CsW (w : Cond) (U : State) : Prop := w.before #[] U = true
theorem exW_ok : ∀ w ∈ exW, w.faceAtom = true ∧ w.onTables = true := by
  intro w hw
  simp only [exW, List.mem_cons, List.not_mem_nil, or_false] at hw
  rcases hw with h | h | h | h | h | h <;> subst h <;> exact ⟨rfl, rfl⟩
theorem CsW.moved {w : Cond} (hw : w ∈ exW) {u U : State} (hvm : u.vm.Alike U.vm) (h : CsW w u) : CsW w U :=
  va_tabs (A := #[]) (exW_ok w hw).2 (rfl : (u.setVm U.vm).vm = U.vm) (Cond.faceAtom_setVm hvm w (exW_ok w hw).1 h)
def ncL : List (String × String) := [("java/lang/IllegalArgumentException", "java/lang/IndexOutOfBoundsException"), ("java/lang/IllegalStateException", "java/lang/IndexOutOfBoundsException"), ("java/lang/IllegalStateException", "java/lang/IllegalArgumentException")]
def EVt (U : State) : Prop := (∀ w ∈ evL, va_Nw w U) ∧ va_AO RX1 U ∧ va_AO RX0 U ∧ (∀ w ∈ exW, CsW w U) ∧ ∀ z ∈ ncL, va_Nc z.1 z.2 U
def EVh (A : Nat → Prop) (U : State) (H : Heap) : Prop := vx_Zq Bundle.tN "UNASSIGNED_STACK" Bundle.steD A U H ∧ vx_Zq Bundle.tN "SUPPRESSED_SENTINEL" Bundle.listD A U H
theorem evL_form : ∀ w ∈ evL, ∃ a i b n d h, w = Cond.fieldLinkNest a i b n d h := by
  intro w hw
  simp only [evL, List.mem_cons, List.not_mem_nil, or_false] at hw
  rcases hw with h | h | h | h | h | h | h | h | h | h | h | h | h | h | h <;> exact ⟨_, _, _, _, _, _, h⟩
theorem evL_ot : ∀ w ∈ evL, w.onTables = true := by
  intro w hw
  obtain ⟨a, i, b, n, d, h, rfl⟩ := evL_form w hw
  rfl
theorem EVt.moved {s U : State} (hW : s.WarmedH U.vm) (h : EVt s) : EVt U := by
  refine ⟨fun w hw => ?_, h.2.1.moved hW.alike, h.2.2.1.moved hW.alike, fun w hw => (h.2.2.2.1 w hw).moved hw hW.alike, fun z hz => (h.2.2.2.2 z hz).moved hW.alike⟩
  have h1 := h.1 w hw
  obtain ⟨a, i, b, n, d, hh, rfl⟩ := evL_form w hw
  exact va_Nw.warmF hW h1
theorem EVt.same {s U : State} (hvm : s.vm = U.vm) (h : EVt s) : EVt U := by
  refine ⟨fun w hw => (h.1 w hw).same (evL_ot w hw) hvm, ?_, ?_, fun w hw => ?_, fun z hz => ?_⟩
  · exact va_AO.moved (by rw [hvm]; exact Vm.Alike.refl U.vm) h.2.1
  · exact va_AO.moved (by rw [hvm]; exact Vm.Alike.refl U.vm) h.2.2.1
  · exact CsW.moved hw (by rw [hvm]; exact Vm.Alike.refl U.vm) (h.2.2.2.1 w hw)
  · exact (h.2.2.2.2 z hz).moved (by rw [hvm]; exact Vm.Alike.refl U.vm)
theorem EVh.moved {A : Nat → Prop} {s U : State} {H : Heap} (hvm : s.vm.Alike U.vm) (h : EVh A s H) : EVh A U H := ⟨h.1.moved hvm, h.2.moved hvm⟩
theorem EVh.kept {A : Nat → Prop} {s : State} {H H1 : Heap} (h : EVh A s H) (hq : ∀ a : Nat, a < H.size → ¬ A a → H1[a]? = H[a]?) : EVh A s H1 := ⟨h.1.kept hq, h.2.kept hq⟩
theorem EVh.narrow {A B : Nat → Prop} {s : State} {H : Heap} (h : EVh A s H) (hAB : ∀ q, B q → A q) : EVh B s H := ⟨h.1.narrow hAB, h.2.narrow hAB⟩
def BP (G : Gx) (ws : va_W) (sz : Nat) (U : State) : Prop := U.heap.size = sz ∧ va_P G.1 vwCl ws U.heap ∧ va_K G.1 vwCl (tyL G) U ∧ va_D (fun _ => True) ws ∧ EVt U ∧ EVh (va_A ws sz) U U.heap
def BQ (G : Gx) (A : Nat → Prop) (ws : va_W) (t : State) : Prop := va_P G.1 vwCl ws t.heap ∧ va_K G.1 vwCl (tyL G) t ∧ va_D A ws
theorem BP.blind {G : Gx} {ws : va_W} {sz : Nat} {av : List Value} : FrameBlind (va_Pc av (BP G ws sz)) := by
  intro a U g mk q
  obtain ⟨q0, q1, qP, qK, qD, qE, qH⟩ := q
  exact ⟨q0, q1, qP, va_K.moved (u := U) (U := U.calling g mk a) (Vm.Alike.refl U.vm) qK, qD, EVt.same (s := U) (U := U.calling g mk a) rfl qE, EVh.moved (s := U) (U := U.calling g mk a) (Vm.Alike.refl U.vm) qH⟩
/-- what stays in a method's body -/
def Fx (G : Gx) (p : Program) (s : State) (m : MethodId) (args : Array Value) (meth : Method) (c : Code) (cc : ByteArray) (nL : Nat) (Ts : List Cond) (own : String) (A : Nat → Prop) : Prop :=
  CallFix p m c cc nL s args Ts own ∧ meth.locks = false ∧ va_K G.1 vwCl (tyL G) s ∧ EVt s ∧ EVh A s s.heap ∧ ∀ q, s.heap.size ≤ q → A q
def HH (G : Gx) (A : Nat → Prop) (s : State) (ws : va_W) (H : Heap) (locs : List Loc) : Prop := va_P G.1 vwCl ws H ∧ va_D A ws ∧ va_S A s.heap H locs
/-! parts of a world -/
theorem va_P_mem {D : va_G} {cl : List vw_C} {ws : va_W} {H : Heap} : va_P D cl ws H ↔ ∀ q ∈ ws, va_at D cl q H := by
  constructor
  · intro h q hq
    obtain ⟨k, hk⟩ := List.getElem?_of_mem hq
    exact h k q hk
  · intro h k q hk
    exact h q (List.mem_of_getElem? hk)
theorem mid_at {a w b : va_W} {k : Nat} {q : Nat × va_E} (h : w[k]? = some q) : (a ++ w ++ b)[a.length + k]? = some q := by
  have hk := (List.getElem?_eq_some_iff.mp h).1
  rw [List.getElem?_append_left (by rw [List.length_append]; omega), List.getElem?_append_right (by omega), Nat.add_sub_cancel_left]
  exact h
theorem mid_set {a w b : va_W} {k : Nat} {q : Nat × va_E} (h : k < w.length) : (a ++ w ++ b).set (a.length + k) q = a ++ w.set k q ++ b := by
  rw [List.set_append_left _ _ (by rw [List.length_append]; omega), List.set_append_right _ _ (by omega), Nat.add_sub_cancel_left]
theorem midP {D : va_G} {cl : List vw_C} {a w b : va_W} {H : Heap} (h : va_P D cl (a ++ w ++ b) H) : va_P D cl w H := fun _ q hk => h _ q (mid_at hk)
theorem midD {A : Nat → Prop} {a w b : va_W} (h : va_D A (a ++ w ++ b)) : va_D A w := h.by (fun k => a.length + k) (fun _ _ hk => mid_at hk) (fun i j _ _ e => Nat.add_left_cancel e)
theorem lefD {A : Nat → Prop} {a b : va_W} (h : va_D A (a ++ b)) : va_D A a := h.by id (fun k q hk => by
  show (a ++ b)[k]? = some q
  rw [List.getElem?_append_left (List.getElem?_eq_some_iff.mp hk).1]; exact hk) (fun _ _ _ _ e => e)
theorem rigD {A : Nat → Prop} {a b : va_W} (h : va_D A (a ++ b)) : va_D A b := h.by (fun k => a.length + k) (fun k q hk => by
  show (a ++ b)[a.length + k]? = some q
  rw [List.getElem?_append_right (by omega), Nat.add_sub_cancel_left]; exact hk) (fun i j _ _ e => Nat.add_left_cancel e)
theorem disD {A : Nat → Prop} {a b : va_W} (h : va_D A (a ++ b)) {p q : Nat × va_E} (hp : p ∈ a) (hq : q ∈ b) : p.1 ≠ q.1 := by
  obtain ⟨i, hi⟩ := List.getElem?_of_mem hp
  obtain ⟨j, hj⟩ := List.getElem?_of_mem hq
  intro e
  have hl := (List.getElem?_eq_some_iff.mp hi).1
  have h1 : (a ++ b)[i]? = some p := by rw [List.getElem?_append_left hl]; exact hi
  have h2 : (a ++ b)[a.length + j]? = some q := by rw [List.getElem?_append_right (by omega), Nat.add_sub_cancel_left]; exact hj
  have := h.1 _ _ p q h1 h2 e
  omega
theorem joinM {A0 : Nat → Prop} {D : va_G} {cl : List vw_C} {a w b w1 : va_W} {H H1 : Heap} (hP : va_P D cl (a ++ w ++ b) H) (hD : va_D A0 (a ++ w ++ b))
    (hk : ∀ q : Nat, q < H.size → ¬ va_A w H.size q → H1[q]? = H[q]?) (hF : ∀ q, va_A w H.size q → A0 q) (hP1 : va_P D cl w1 H1) (hD1 : va_D (va_A w H.size) w1) : va_P D cl (a ++ w1 ++ b) H1 ∧ va_D A0 (a ++ w1 ++ b) := by
  have hDaw : va_D A0 (a ++ w) := lefD hD
  have outA : ∀ x : Nat × va_E, x.1 < H.size → (∀ y ∈ w, y.1 ≠ x.1) → ¬ va_A w H.size x.1 := by
    intro x hx hy h
    rcases h with ⟨k, e, h⟩ | h
    · exact hy _ (List.mem_of_getElem? h) rfl
    · omega
  have ha : ∀ x ∈ a, x.1 < H.size ∧ ¬ va_A w H.size x.1 := by
    intro x hx
    have hl := (va_P_mem.mp hP x (List.mem_append_left _ (List.mem_append_left _ hx))).lt
    exact ⟨hl, outA x hl fun y hy e => disD hDaw hx hy e.symm⟩
  have hb : ∀ x ∈ b, x.1 < H.size ∧ ¬ va_A w H.size x.1 := by
    intro x hx
    have hl := (va_P_mem.mp hP x (List.mem_append_right _ hx)).lt
    exact ⟨hl, outA x hl fun y hy e => disD hD (List.mem_append_right _ hy) hx e⟩
  constructor
  · refine va_P_mem.mpr fun x hx => ?_
    rcases List.mem_append.mp hx with hx | hx
    · rcases List.mem_append.mp hx with hx | hx
      · exact (va_P_mem.mp hP x (List.mem_append_left _ (List.mem_append_left _ hx))).kept (hk _ (ha x hx).1 (ha x hx).2)
      · exact va_P_mem.mp hP1 x hx
    · exact (va_P_mem.mp hP x (List.mem_append_right _ hx)).kept (hk _ (hb x hx).1 (hb x hx).2)
  · refine va_D.app (va_D.app (lefD hDaw) (hD1.weaken fun _ q _ h => hF q.1 h) ?_) (rigD hD) ?_
    · intro i j x y hx hy e
      have h1 := ha x (List.mem_of_getElem? hx)
      have h2 := hD1.2 j y hy
      rw [← e] at h2
      exact h1.2 h2
    · intro i j x y hx hy e
      rcases List.mem_append.mp (List.mem_of_getElem? hx) with hx | hx
      · exact disD (a := a) (b := b) (by
          have h9 : va_D A0 (a ++ b) := hD.by (fun k => if k < a.length then k else k + w.length) (fun k q hk => by
            by_cases hl : k < a.length
            · rw [if_pos hl]
              rw [List.getElem?_append_left hl] at hk
              rw [List.getElem?_append_left (by rw [List.length_append]; omega), List.getElem?_append_left hl]
              exact hk
            · rw [if_neg hl]
              rw [List.getElem?_append_right (by omega)] at hk
              rw [List.getElem?_append_right (by rw [List.length_append]; omega), List.length_append, show k + w.length - (a.length + w.length) = k - a.length by omega]
              exact hk) (fun i j _ _ e => by
            by_cases h1 : i < a.length <;> by_cases h2 : j < a.length <;> simp only [h1, h2, if_true, if_false] at e <;> omega)
          exact h9) hx (List.mem_of_getElem? hy) e
      · obtain ⟨k, hk⟩ := List.getElem?_of_mem hx
        have h2 := hD1.2 k x hk
        rw [e] at h2
        exact (hb y (List.mem_of_getElem? hy)).2 h2
theorem freeM {A0 : Nat → Prop} {a w b : va_W} {H0 H : Heap} {locs : List Loc} (hD : va_D A0 (a ++ w ++ b)) (hS : va_S A0 H0 H locs) (hA : ∀ q, H0.size ≤ q → A0 q) : ∀ q, va_A w H.size q → A0 q := by
  intro q h
  rcases h with ⟨k, e, h⟩ | h
  · exact hD.2 _ (q, e) (mid_at h)
  · exact hA q (Nat.le_trans hS.1 h)
/-! contracts -/
/-- returns 'ans', the world is then ws' (u: addresses of what was made) -/
def MI (l : Launch) (y : MethodName) (Wd : List Cond) (rm : Room) (av : List Value) (G : Gx) (ws : va_W) (ws' : (Nat → Nat) → va_W) (ans : Int32) : Prop :=
  ∀ sz : Nat, Met l y Wd rm (va_Pc av (BP G ws sz)) (va_Qi (fun r (_ : Nat → Nat) => r = ans) (fun u => BQ G (va_A ws sz) (ws' u)) (va_A ws sz)) rm.cells rm.slots (va_A ws sz)
def MV (l : Launch) (y : MethodName) (Wd : List Cond) (rm : Room) (av : List Value) (G : Gx) (ws : va_W) (ws' : (Nat → Nat) → va_W) : Prop :=
  ∀ sz : Nat, Met l y Wd rm (va_Pc av (BP G ws sz)) (va_Qv (fun (_ : Nat → Nat) => True) (fun u => BQ G (va_A ws sz) (ws' u)) (va_A ws sz)) rm.cells rm.slots (va_A ws sz)
/-- returns the reference r, the world stays -/
def MR (l : Launch) (y : MethodName) (Wd : List Cond) (rm : Room) (av : List Value) (G : Gx) (ws : va_W) (r : Nat) : Prop :=
  ∀ sz : Nat, Met l y Wd rm (va_Pc av (BP G ws sz)) (va_Qr (fun (_ : Unit) => True) (fun _ a t => a = r ∧ BQ G (va_A ws sz) ws t) (va_A ws sz)) rm.cells rm.slots (va_A ws sz)
def XQ (G : Gx) (A : Nat → Prop) (ws : va_W) (E : String) : String → State → State → Prop := vx_X (fun (_ : Unit) => True) (fun E' _ t => E' = E ∧ BQ G A ws t) A
/-- throws E, the world stays -/
def MX (l : Launch) (y : MethodName) (Wd : List Cond) (rm : Room) (av : List Value) (G : Gx) (ws : va_W) (E : String) : Prop :=
  ∀ sz : Nat, vx_Met l y Wd rm (va_Pc av (BP G ws sz)) (fun _ _ _ _ => False) (XQ G (va_A ws sz) ws E) rm.cells rm.slots (va_A ws sz)
abbrev EnI (G : Gx) (A : Nat → Prop) (below : List Frame) (s : State) (args : Array Value) (rm : Room) (ws' : (Nat → Nat) → va_W) (ans : Int32) : State → Prop :=
  MQ below (va_Qi (fun r (_ : Nat → Nat) => r = ans) (fun u => BQ G A (ws' u)) A) args s rm.cells rm.slots A
abbrev EnV (G : Gx) (A : Nat → Prop) (below : List Frame) (s : State) (args : Array Value) (rm : Room) (ws' : (Nat → Nat) → va_W) : State → Prop :=
  MQ below (va_Qv (fun (_ : Nat → Nat) => True) (fun u => BQ G A (ws' u)) A) args s rm.cells rm.slots A
abbrev EnR (G : Gx) (A : Nat → Prop) (below : List Frame) (s : State) (args : Array Value) (rm : Room) (ws : va_W) (r : Nat) : State → Prop :=
  MQ below (va_Qr (fun (_ : Unit) => True) (fun _ a t => a = r ∧ BQ G A ws t) A) args s rm.cells rm.slots A
abbrev EnX (G : Gx) (A : Nat → Prop) (below : List Frame) (s : State) (args : Array Value) (rm : Room) (ws : va_W) (E : String) : State → Prop :=
  vx_MQ below (fun _ _ _ _ => False) (XQ G A ws E) args s rm.cells rm.slots A
section Entry
variable {l : Launch} {y : MethodName} {Wd Wd' : List Cond} {rm : Room} {av : List Value} {G : Gx} {ws : va_W} {ws' : (Nat → Nat) → va_W} {ans : Int32} {r : Nat} {E : String} {cc : ByteArray} {maxL : Nat} {ret : Option FieldType}
theorem ofMI (hy : plainName y.cls = true) (hw : Wd = Cond.code y cc maxL ret :: Wd') (hlen : (lg_sl av).length ≤ maxL)
    (body : ∀ (p : Program) (e : Env) (s : State) (m : MethodId) (below : List Frame) (meth : Method) (c : Code) (A : Nat → Prop) (ls : Array Slot), Fx G p s m av.toArray meth c cc maxL Wd y.cls A → meth.sig.returnType = ret → meth.name = y.name → HH G A s ws s.heap [] → lv_has ls maxL (lv_args 0 av) →
      W p l e rm s m av.toArray below meth c s.heap [] 0 0 (EnI G A below s av.toArray rm ws' ans) (F0 m 0 ls [])) : MI l y Wd rm av G ws ws' ans := by
  intro sz
  refine Met.ofW (cc := cc) (maxL := maxL) (ret := ret) hy hw ?_
  intro p e s m args below meth c s₁ B hml hv
  obtain ⟨rfl, hsz, hP, hK, hD0, hE, hE2⟩ := hv
  subst hsz
  have hl := lv_entry av (n := maxL) hlen
  rw [lg_entry_eq]
  exact body p e s m below meth c (va_A ws s.heap.size) _ ⟨⟨B.exec, B.bytes, hml, findClass_of_methodNamed B.named, atoms_spec (ws := Wd) B.pre⟩, B.notSynchronized, hK, hE, hE2, fun q h => Or.inr h⟩ B.returns (name_of_methodNamed B.named B.method).1 ⟨hP, hD0.self, va_S.rf⟩ hl
theorem ofMV (hy : plainName y.cls = true) (hw : Wd = Cond.code y cc maxL ret :: Wd') (hlen : (lg_sl av).length ≤ maxL)
    (body : ∀ (p : Program) (e : Env) (s : State) (m : MethodId) (below : List Frame) (meth : Method) (c : Code) (A : Nat → Prop) (ls : Array Slot), Fx G p s m av.toArray meth c cc maxL Wd y.cls A → meth.sig.returnType = ret → meth.name = y.name → HH G A s ws s.heap [] → lv_has ls maxL (lv_args 0 av) →
      W p l e rm s m av.toArray below meth c s.heap [] 0 0 (EnV G A below s av.toArray rm ws') (F0 m 0 ls [])) : MV l y Wd rm av G ws ws' := by
  intro sz
  refine Met.ofW (cc := cc) (maxL := maxL) (ret := ret) hy hw ?_
  intro p e s m args below meth c s₁ B hml hv
  obtain ⟨rfl, hsz, hP, hK, hD0, hE, hE2⟩ := hv
  subst hsz
  have hl := lv_entry av (n := maxL) hlen
  rw [lg_entry_eq]
  exact body p e s m below meth c (va_A ws s.heap.size) _ ⟨⟨B.exec, B.bytes, hml, findClass_of_methodNamed B.named, atoms_spec (ws := Wd) B.pre⟩, B.notSynchronized, hK, hE, hE2, fun q h => Or.inr h⟩ B.returns (name_of_methodNamed B.named B.method).1 ⟨hP, hD0.self, va_S.rf⟩ hl
theorem ofMR (hy : plainName y.cls = true) (hw : Wd = Cond.code y cc maxL ret :: Wd') (hlen : (lg_sl av).length ≤ maxL)
    (body : ∀ (p : Program) (e : Env) (s : State) (m : MethodId) (below : List Frame) (meth : Method) (c : Code) (A : Nat → Prop) (ls : Array Slot), Fx G p s m av.toArray meth c cc maxL Wd y.cls A → meth.sig.returnType = ret → meth.name = y.name → HH G A s ws s.heap [] → lv_has ls maxL (lv_args 0 av) →
      W p l e rm s m av.toArray below meth c s.heap [] 0 0 (EnR G A below s av.toArray rm ws r) (F0 m 0 ls [])) : MR l y Wd rm av G ws r := by
  intro sz
  refine Met.ofW (cc := cc) (maxL := maxL) (ret := ret) hy hw ?_
  intro p e s m args below meth c s₁ B hml hv
  obtain ⟨rfl, hsz, hP, hK, hD0, hE, hE2⟩ := hv
  subst hsz
  have hl := lv_entry av (n := maxL) hlen
  rw [lg_entry_eq]
  exact body p e s m below meth c (va_A ws s.heap.size) _ ⟨⟨B.exec, B.bytes, hml, findClass_of_methodNamed B.named, atoms_spec (ws := Wd) B.pre⟩, B.notSynchronized, hK, hE, hE2, fun q h => Or.inr h⟩ B.returns (name_of_methodNamed B.named B.method).1 ⟨hP, hD0.self, va_S.rf⟩ hl
theorem ofMX (hy : plainName y.cls = true) (hw : Wd = Cond.code y cc maxL ret :: Wd') (hlen : (lg_sl av).length ≤ maxL)
    (body : ∀ (p : Program) (e : Env) (s : State) (m : MethodId) (below : List Frame) (meth : Method) (c : Code) (A : Nat → Prop) (ls : Array Slot), Fx G p s m av.toArray meth c cc maxL Wd y.cls A → (∀ x ∈ c.exceptionTable.toList, False) → HH G A s ws s.heap [] → lv_has ls maxL (lv_args 0 av) →
      W p l e rm s m av.toArray below meth c s.heap [] 0 0 (EnX G A below s av.toArray rm ws E) (F0 m 0 ls [])) : MX l y Wd rm av G ws E := by
  intro sz
  refine vx_ofW (cc := cc) (maxL := maxL) (ret := ret) hy hw ?_
  intro p e s m args below meth c s₁ B hml ht hv
  obtain ⟨rfl, hsz, hP, hK, hD0, hE, hE2⟩ := hv
  subst hsz
  have hl := lv_entry av (n := maxL) hlen
  rw [lg_entry_eq]
  exact body p e s m below meth c (va_A ws s.heap.size) _ ⟨⟨B.exec, B.bytes, hml, findClass_of_methodNamed B.named, atoms_spec (ws := Wd) B.pre⟩, B.notSynchronized, hK, hE, hE2, fun q h => Or.inr h⟩ ht ⟨hP, hD0.self, va_S.rf⟩ hl
/-- a method with a table of handlers -/
theorem ofLI {hh : List (Nat × Nat × Nat × Nat)} (hy : plainName y.cls = true) (hw : Wd = Cond.codeWith y cc maxL ret hh :: Wd') (hlen : (lg_sl av).length ≤ maxL)
    (body : ∀ (p : Program) (e : Env) (s : State) (m : MethodId) (below : List Frame) (meth : Method) (c : Code) (A : Nat → Prop) (ls : Array Slot), Fx G p s m av.toArray meth c cc maxL Wd y.cls A → meth.sig.returnType = ret → c.exceptionTable.toList = tableOf hh → HH G A s ws s.heap [] → lv_has ls maxL (lv_args 0 av) →
      W p l e rm s m av.toArray below meth c s.heap [] 0 0 (EnI G A below s av.toArray rm ws' ans) (F0 m 0 ls [])) : MI l y Wd rm av G ws ws' ans := by
  intro sz
  refine va_MetW (cc := cc) (maxL := maxL) (ret := ret) (hh := hh) hy hw ?_
  intro p e s m args below meth c s₁ B hml hv
  obtain ⟨rfl, hsz, hP, hK, hD0, hE, hE2⟩ := hv
  subst hsz
  have hl := lv_entry av (n := maxL) hlen
  have ht := vx_table (x := y) B (atoms_spec (ws := Wd) B.pre _ (by rw [hw]; exact List.mem_cons_self))
  rw [lg_entry_eq]
  exact body p e s m below meth c (va_A ws s.heap.size) _ ⟨⟨B.exec, B.bytes, hml, findClass_of_methodNamed B.named, atoms_spec (ws := Wd) B.pre⟩, B.notSynchronized, hK, hE, hE2, fun q h => Or.inr h⟩ B.returns ht ⟨hP, hD0.self, va_S.rf⟩ hl
end Entry
section Ends9
variable {p : Program} {l : Launch} {e : Env} {R rm : Room} {s : State} {m : MethodId} {args : Array Value} {below : List Frame} {meth : Method} {c : Code} {H : Heap} {locs : List Loc} {cells slots : Nat} {Q : State → Prop}
variable {cc : ByteArray} {pc nL : Nat} {ls : Array Slot} {rest st0 : List Value} {G : Gx} {Ts : List Cond} {own : String} {A : Nat → Prop} {ws w0 w1 : va_W} {ws' : (Nat → Nat) → va_W} {ans v : Int32} {ty : FieldType} {r : Nat} {E : String}
theorem retI (F : Fx G p s m args meth c cc nL Ts own A) (hr : meth.sig.returnType = some ty) (hn : narrow ty (.int v) = .int v) (u : Nat → Nat) (hH : HH G A s (ws' u) H locs) (hv : v = ans) (hc : cells ≤ rm.cells) (hs : slots ≤ rm.slots) (hdg : decode cc pc = .ok (.ireturn, 1)) :
    W p l e R s m args below meth c H locs cells slots (EnI G A below s args rm ws' ans) (F0 m pc ls [.int v]) := by
  subst hv
  refine W.widen hc hs ?_
  exact W.zret F.1.1 F.1.2.1 hr hn (fun t ht hW => ⟨⟨_, u, rfl, rfl, by rw [ht]; exact hH.1, va_K.moved hW.alike F.2.2.1, hH.2.1⟩, hH.2.2.F ht⟩) hH.2.2.2.2 hdg F.2.1
theorem retV (F : Fx G p s m args meth c cc nL Ts own A) (hr : meth.sig.returnType = none) (u : Nat → Nat) (hH : HH G A s (ws' u) H locs) (hc : cells ≤ rm.cells) (hs : slots ≤ rm.slots) (hdg : decode cc pc = .ok (.return_, 1)) :
    W p l e R s m args below meth c H locs cells slots (EnV G A below s args rm ws') (F0 m pc ls []) := by
  refine W.widen hc hs ?_
  exact W.vret F.1.1 F.1.2.1 hr (fun t ht hW => ⟨⟨u, rfl, trivial, by rw [ht]; exact hH.1, va_K.moved hW.alike F.2.2.1, hH.2.1⟩, hH.2.2.F ht⟩) hH.2.2.2.2 hdg F.2.1
theorem retR (F : Fx G p s m args meth c cc nL Ts own A) {C : String} (hr : meth.sig.returnType = some (.object C)) (hH : HH G A s ws H locs) (hc : cells ≤ rm.cells) (hs : slots ≤ rm.slots) (hdg : decode cc pc = .ok (.areturn, 1)) :
    W p l e R s m args below meth c H locs cells slots (EnR G A below s args rm ws r) (F0 m pc ls [.ref r]) := by
  refine W.widen hc hs ?_
  exact W.aret F.1.1 F.1.2.1 hr (Or.inl ⟨_, rfl⟩) (Or.inr ⟨_, rfl⟩) (fun t ht hW => ⟨⟨(), r, rfl, trivial, rfl, by rw [ht]; exact hH.1, va_K.moved hW.alike F.2.2.1, hH.2.1⟩, hH.2.2.F ht⟩) hH.2.2.2.2 hdg F.2.1
/-- new E(); throw -/
theorem throw0 (F : Fx G p s m args meth c cc nL Ts own A) (hl : l.stackTraces = false) {names : List String} {ik ic : Nat} (hcls : Bundle.fit E = true) (hnames : ∀ n ∈ names, Bundle.fit n = true)
    (hk : (Cond.classLink own ik E) ∈ Ts) (hini : (Cond.initialized E) ∈ Ts) (hat : ∀ w ∈ (vx_at0 own ic E names).filter goodWord, w ∈ Ts) (hca : ∀ w ∈ (vx_at0 own ic E names).filter (fun w => !goodWord w), w ∈ exW) (hgood : ∀ w ∈ Cond.classLink own ik E :: Cond.initialized E :: vx_at0 own ic E names, vx_ot w = true)
    (hH : HH G A s ws H locs) (hsize : ls.size = nL)
    (d0 : decode cc pc = .ok (.new ik, 3)) (d3 : decode cc (pc + 3) = .ok (.dup, 1)) (d4 : decode cc (pc + 4) = .ok (.invokespecial ic, 3)) (d7 : decode cc (pc + 7) = .ok (.athrow, 1))
    (hout : ∀ x ∈ c.exceptionTable.toList, False)
    (hRframes : names.length + 3 < R.frames) (hRlocals : (rest.map fun v => v.category).sum + (13 * (names.length + 1) + 42) ≤ R.locals) (hRcells : cells + 1 ≤ R.cells) (hRslots : slots + 6 ≤ R.slots) (hc : cells + 1 ≤ rm.cells) (hs : slots + 6 ≤ rm.slots) :
    W p l e R s m args below meth c H locs cells slots (EnX G A below s args rm ws E) (F0 m pc ls rest) := by
  have hts := F.1.2.2.2.2
  refine vx_throw0 F.1.1 F.1.2.1 hl (own := own) (cls := E) (names := names) (ik := ik) (ic := ic) (A := A) F.1.2.2.2.1 hcls hnames (hts _ hk) (hts _ hini) (vx_hat (B := exW) (fun w hw => hts _ (hat w hw)) hca (fun w hw => va_tabs (exW_ok w hw).2 rfl (F.2.2.2.1.2.2.2.1 w hw))) hgood F.2.2.2.2.1.1 F.2.2.2.2.1.2 hH.2.2 (by rw [hsize]; exact F.1.2.2.1.symm) d0 d3 d4 d7 (fun x hx => (hout x hx).elim) hRframes hRlocals hRcells hRslots F.2.1 ?_ hH.2.2.2.2 hc hs
  intro t hvm hz hq
  refine ⟨(), trivial, ⟨rfl, hH.1.kept fun k q hk => hq _ (hH.1 k q hk).lt, va_K.moved hvm F.2.2.1, hH.2.1⟩, Nat.le_trans hH.2.2.1 hz, fun q h1 h2 => ?_⟩
  rw [hq q (Nat.lt_of_lt_of_le h1 hH.2.2.1)]
  exact hH.2.2.2.1 q h1 h2
end Ends9

