/-! contracts of the law's methods: an answer and a world that keep a property; long answers -/
/-- returns r with a world w' such that P r w' -/
def MP (l : Launch) (y : MethodName) (Wd : List Cond) (rm : Room) (av : List Value) (G : Gx) (ws : va_W) (P : Int32 → va_W → Prop) : Prop :=
  ∀ sz : Nat, Met l y Wd rm (va_Pc av (BP G ws sz)) (va_Qi P (fun w' => BQ G (va_A ws sz) w') (va_A ws sz)) rm.cells rm.slots (va_A ws sz)
/-- returns the long ans, the world stays -/
def ML (l : Launch) (y : MethodName) (Wd : List Cond) (rm : Room) (av : List Value) (G : Gx) (ws : va_W) (ans : Int64) : Prop :=
  ∀ sz : Nat, Met l y Wd rm (va_Pc av (BP G ws sz)) (va_Ql (fun r (_ : Unit) => r = ans) (fun _ => BQ G (va_A ws sz) ws) (va_A ws sz)) rm.cells rm.slots (va_A ws sz)
abbrev EnP (G : Gx) (A : Nat → Prop) (below : List Frame) (s : State) (args : Array Value) (rm : Room) (P : Int32 → va_W → Prop) : State → Prop :=
  MQ below (va_Qi P (fun w' => BQ G A w') A) args s rm.cells rm.slots A
abbrev EnL (G : Gx) (A : Nat → Prop) (below : List Frame) (s : State) (args : Array Value) (rm : Room) (ws : va_W) (ans : Int64) : State → Prop :=
  MQ below (va_Ql (fun r (_ : Unit) => r = ans) (fun _ => BQ G A ws) A) args s rm.cells rm.slots A
section EntryL
variable {l : Launch} {y : MethodName} {Wd Wd' : List Cond} {rm : Room} {av : List Value} {G : Gx} {ws : va_W} {P : Int32 → va_W → Prop} {ans : Int64} {cc : ByteArray} {maxL : Nat} {ret : Option FieldType}
theorem ofMP (hy : plainName y.cls = true) (hw : Wd = Cond.code y cc maxL ret :: Wd') (hlen : (lg_sl av).length ≤ maxL)
    (body : ∀ (p : Program) (e : Env) (s : State) (m : MethodId) (below : List Frame) (meth : Method) (c : Code) (A : Nat → Prop) (ls : Array Slot), Fx G p s m av.toArray meth c cc maxL Wd y.cls A → meth.sig.returnType = ret → meth.name = y.name → HH G A s ws s.heap [] → lv_has ls maxL (lv_args 0 av) →
      W p l e rm s m av.toArray below meth c s.heap [] 0 0 (EnP G A below s av.toArray rm P) (F0 m 0 ls [])) : MP l y Wd rm av G ws P := by
  intro sz
  refine Met.ofW (cc := cc) (maxL := maxL) (ret := ret) hy hw ?_
  intro p e s m args below meth c s₁ B hml hv
  obtain ⟨rfl, hsz, hP, hK, hD0, hE, hE2⟩ := hv
  subst hsz
  have hl := lv_entry av (n := maxL) hlen
  rw [lg_entry_eq]
  exact body p e s m below meth c (va_A ws s.heap.size) _ ⟨⟨B.exec, B.bytes, hml, findClass_of_methodNamed B.named, atoms_spec (ws := Wd) B.pre⟩, B.notSynchronized, hK, hE, hE2, fun q h => Or.inr h⟩ B.returns (name_of_methodNamed B.named B.method).1 ⟨hP, hD0.self, va_S.rf⟩ hl
theorem ofML (hy : plainName y.cls = true) (hw : Wd = Cond.code y cc maxL ret :: Wd') (hlen : (lg_sl av).length ≤ maxL)
    (body : ∀ (p : Program) (e : Env) (s : State) (m : MethodId) (below : List Frame) (meth : Method) (c : Code) (A : Nat → Prop) (ls : Array Slot), Fx G p s m av.toArray meth c cc maxL Wd y.cls A → meth.sig.returnType = ret → meth.name = y.name → HH G A s ws s.heap [] → lv_has ls maxL (lv_args 0 av) →
      W p l e rm s m av.toArray below meth c s.heap [] 0 0 (EnL G A below s av.toArray rm ws ans) (F0 m 0 ls [])) : ML l y Wd rm av G ws ans := by
  intro sz
  refine Met.ofW (cc := cc) (maxL := maxL) (ret := ret) hy hw ?_
  intro p e s m args below meth c s₁ B hml hv
  obtain ⟨rfl, hsz, hP, hK, hD0, hE, hE2⟩ := hv
  subst hsz
  have hl := lv_entry av (n := maxL) hlen
  rw [lg_entry_eq]
  exact body p e s m below meth c (va_A ws s.heap.size) _ ⟨⟨B.exec, B.bytes, hml, findClass_of_methodNamed B.named, atoms_spec (ws := Wd) B.pre⟩, B.notSynchronized, hK, hE, hE2, fun q h => Or.inr h⟩ B.returns (name_of_methodNamed B.named B.method).1 ⟨hP, hD0.self, va_S.rf⟩ hl
end EntryL
section LW
variable {p : Program} {l : Launch} {e : Env} {R rm : Room} {s : State} {m : MethodId} {args : Array Value} {below : List Frame} {meth : Method} {c : Code} {H : Heap} {locs : List Loc} {cells slots : Nat} {Q : State → Prop}
variable {cc : ByteArray} {pc nL : Nat} {ls : Array Slot} {rest st0 : List Value} {G : Gx} {Ts : List Cond} {own : String} {A : Nat → Prop} {w0 w1 ws : va_W}
variable {y : MethodName} {bytes : ByteArray} {maxL n index : Nat} {ret : Option FieldType} {Wc Wc' : List Cond} {rmc : Room} {As : List Value} {wsc : va_W} {wsc' : (Nat → Nat) → va_W} {ans v : Int32} {P : Int32 → va_W → Prop} {lans vl : Int64} {ty : FieldType}
theorem retP (F : Fx G p s m args meth c cc nL Ts own A) (hr : meth.sig.returnType = some ty) (hn : narrow ty (.int v) = .int v) (hH : HH G A s w1 H locs) (hv : P v w1) (hc : cells ≤ rm.cells) (hs : slots ≤ rm.slots) (hdg : decode cc pc = .ok (.ireturn, 1)) :
    W p l e R s m args below meth c H locs cells slots (EnP G A below s args rm P) (F0 m pc ls [.int v]) := by
  refine W.widen hc hs ?_
  exact W.zret F.1.1 F.1.2.1 hr hn (fun t ht hW => ⟨⟨_, w1, rfl, hv, by rw [ht]; exact hH.1, va_K.moved hW.alike F.2.2.1, hH.2.1⟩, hH.2.2.F ht⟩) hH.2.2.2.2 hdg F.2.1
theorem retL (F : Fx G p s m args meth c cc nL Ts own A) (hr : meth.sig.returnType = some .long) (hH : HH G A s ws H locs) (hv : vl = lans) (hc : cells ≤ rm.cells) (hs : slots ≤ rm.slots) (hdg : decode cc pc = .ok (.lreturn, 1)) :
    W p l e R s m args below meth c H locs cells slots (EnL G A below s args rm ws lans) (F0 m pc ls [.long vl]) := by
  subst hv
  refine W.widen hc hs ?_
  exact W.lret F.1.1 F.1.2.1 hr (fun t ht hW => ⟨⟨_, (), rfl, rfl, by rw [ht]; exact hH.1, va_K.moved hW.alike F.2.2.1, hH.2.1⟩, hH.2.2.F ht⟩) hH.2.2.2.2 hdg F.2.1
theorem callSP (F : Fx G p s m args meth c cc nL Ts own A) (hM : MP l y Wc rmc As G wsc P) (hg : GoodIn Ts (va_wsS own index y Wc)) (hwc : Wc = Cond.code y bytes maxL ret :: Wc') (hd : y.cls = own ∧ y.cls ≠ "java/lang/invoke/MethodHandle" ∧ y.cls ≠ "java/lang/invoke/VarHandle" ∧ (parseMethodDescriptor y.desc).map (fun d => d.parameters.length) = some n) (hR : rmc.frames + 1 ≤ R.frames ∧ 8 + (maxL + 11) + rmc.locals ≤ R.locals)
    (a b : va_W) (hH : HH G A s w0 H locs) (hw : w0 = a ++ wsc ++ b) (hn : As.length = n) (hsz : ls.size = nL) (hrest : (rest.map fun v => v.category).sum ≤ 8) (hdg : decode cc pc = .ok (.invokestatic index, 3)) (hf : cells + rmc.cells ≤ R.cells ∧ slots + rmc.slots ≤ R.slots) (hst : st0 = As.reverse ++ rest)
    (kk : ∀ (r : Int32) (w1 : va_W) (H1 : Heap) (locs1 : List Loc), P r w1 → HH G A s (a ++ w1 ++ b) H1 locs1 → W p l e R s m args below meth c H1 locs1 (cells + rmc.cells) (slots + rmc.slots) Q (F0 m (pc + 3) ls (.int r :: rest))) :
    W p l e R s m args below meth c H locs cells slots Q (F0 m pc ls st0) := by
  subst hw
  have hPc := midP hH.1
  have hDc := midD hH.2.1
  have hFc := freeM hH.2.1 hH.2.2 F.2.2.2.2.2
  have hE : EVh (va_A wsc H.size) s H := (F.2.2.2.2.1.kept hH.2.2.2.1).narrow hFc
  have hg' : GoodIn Ts (wsS own index y Wc) := by
    have h0 : wsS own index y Wc = va_wsS own index y Wc := by unfold wsS va_wsS; rw [hd.1]
    rw [h0]; exact hg
  refine va_calli (va_runS (As := As) (rest := rest) F.1 (hM H.size) (cwS n F.1.2.2.2.2 hg' hwc rfl rfl hd hR) ⟨BP.blind, fun U hU hW => ⟨rfl, by rw [hU], by rw [hU]; exact hPc, va_K.moved hW.alike F.2.2.1, hDc.weaken (fun _ _ _ _ => trivial), F.2.2.2.1.moved hW, by rw [hU]; exact hE.moved hW.alike⟩⟩ rfl hn hsz hst (lv_room hrest) hdg hf) hH.2.2 (fun q _ h => hFc q h) hFc (fun r u t H1 locs1 ht hvm hw hB hz1 hk1 hS => ?_)
  obtain ⟨hP1, -, hD1⟩ := hB
  rw [ht] at hP1
  obtain ⟨j1, j2⟩ := joinM hH.1 hH.2.1 hk1 hFc hP1 hD1
  exact kk r u H1 locs1 hw ⟨j1, j2, hS⟩
theorem callSL (F : Fx G p s m args meth c cc nL Ts own A) (hM : ML l y Wc rmc As G wsc lans) (hg : GoodIn Ts (va_wsS own index y Wc)) (hwc : Wc = Cond.code y bytes maxL ret :: Wc') (hd : y.cls = own ∧ y.cls ≠ "java/lang/invoke/MethodHandle" ∧ y.cls ≠ "java/lang/invoke/VarHandle" ∧ (parseMethodDescriptor y.desc).map (fun d => d.parameters.length) = some n) (hR : rmc.frames + 1 ≤ R.frames ∧ 8 + (maxL + 11) + rmc.locals ≤ R.locals)
    (a b : va_W) (hH : HH G A s w0 H locs) (hw : w0 = a ++ wsc ++ b) (hn : As.length = n) (hsz : ls.size = nL) (hrest : (rest.map fun v => v.category).sum ≤ 8) (hdg : decode cc pc = .ok (.invokestatic index, 3)) (hf : cells + rmc.cells ≤ R.cells ∧ slots + rmc.slots ≤ R.slots) (hst : st0 = As.reverse ++ rest)
    (kk : ∀ (H1 : Heap) (locs1 : List Loc), HH G A s w0 H1 locs1 → W p l e R s m args below meth c H1 locs1 (cells + rmc.cells) (slots + rmc.slots) Q (F0 m (pc + 3) ls (.long lans :: rest))) :
    W p l e R s m args below meth c H locs cells slots Q (F0 m pc ls st0) := by
  subst hw
  have hPc := midP hH.1
  have hDc := midD hH.2.1
  have hFc := freeM hH.2.1 hH.2.2 F.2.2.2.2.2
  have hE : EVh (va_A wsc H.size) s H := (F.2.2.2.2.1.kept hH.2.2.2.1).narrow hFc
  have hg' : GoodIn Ts (wsS own index y Wc) := by
    have h0 : wsS own index y Wc = va_wsS own index y Wc := by unfold wsS va_wsS; rw [hd.1]
    rw [h0]; exact hg
  refine va_calll (va_runS (As := As) (rest := rest) F.1 (hM H.size) (cwS n F.1.2.2.2.2 hg' hwc rfl rfl hd hR) ⟨BP.blind, fun U hU hW => ⟨rfl, by rw [hU], by rw [hU]; exact hPc, va_K.moved hW.alike F.2.2.1, hDc.weaken (fun _ _ _ _ => trivial), F.2.2.2.1.moved hW, by rw [hU]; exact hE.moved hW.alike⟩⟩ rfl hn hsz hst (lv_room hrest) hdg hf) hH.2.2 (fun q _ h => hFc q h) hFc (fun r u t H1 locs1 ht hvm hw hB hz1 hk1 hS => ?_)
  subst hw
  obtain ⟨hP1, -, hD1⟩ := hB
  rw [ht] at hP1
  obtain ⟨j1, j2⟩ := joinM hH.1 hH.2.1 hk1 hFc hP1 hD1
  exact kk H1 locs1 ⟨j1, j2, hS⟩
/-- a static call of a method with handlers -/
theorem callLI {hh : List (Nat × Nat × Nat × Nat)} (F : Fx G p s m args meth c cc nL Ts own A) (hM : MI l y Wc rmc As G wsc wsc' ans) (hg : GoodIn Ts (va_wsS own index y Wc)) (hwc : Wc = Cond.codeWith y bytes maxL ret hh :: Wc') (hd : y.cls = own ∧ y.cls ≠ "java/lang/invoke/MethodHandle" ∧ y.cls ≠ "java/lang/invoke/VarHandle" ∧ (parseMethodDescriptor y.desc).map (fun d => d.parameters.length) = some n) (hR : rmc.frames + 1 ≤ R.frames ∧ 8 + (maxL + 11) + rmc.locals ≤ R.locals)
    (a b : va_W) (hH : HH G A s w0 H locs) (hw : w0 = a ++ wsc ++ b) (hn : As.length = n) (hsz : ls.size = nL) (hrest : (rest.map fun v => v.category).sum ≤ 8) (hdg : decode cc pc = .ok (.invokestatic index, 3)) (hf : cells + rmc.cells ≤ R.cells ∧ slots + rmc.slots ≤ R.slots) (hst : st0 = As.reverse ++ rest)
    (kk : ∀ (u : Nat → Nat) (H1 : Heap) (locs1 : List Loc), HH G A s (a ++ wsc' u ++ b) H1 locs1 → W p l e R s m args below meth c H1 locs1 (cells + rmc.cells) (slots + rmc.slots) Q (F0 m (pc + 3) ls (.int ans :: rest))) :
    W p l e R s m args below meth c H locs cells slots Q (F0 m pc ls st0) := by
  subst hw
  have hPc := midP hH.1
  have hDc := midD hH.2.1
  have hFc := freeM hH.2.1 hH.2.2 F.2.2.2.2.2
  have hE : EVh (va_A wsc H.size) s H := (F.2.2.2.2.1.kept hH.2.2.2.1).narrow hFc
  refine va_calli (vx_runSW (As := As) (rest := rest) F.1 (hM H.size) (vx_cwSW n F.1.2.2.2.2 hg hwc rfl rfl hd.2 hR) ⟨BP.blind, fun U hU hW => ⟨rfl, by rw [hU], by rw [hU]; exact hPc, va_K.moved hW.alike F.2.2.1, hDc.weaken (fun _ _ _ _ => trivial), F.2.2.2.1.moved hW, by rw [hU]; exact hE.moved hW.alike⟩⟩ rfl hn hsz hst (lv_room hrest) hdg hf) hH.2.2 (fun q _ h => hFc q h) hFc (fun r u t H1 locs1 ht hvm hw hB hz1 hk1 hS => ?_)
  subst hw
  obtain ⟨hP1, -, hD1⟩ := hB
  rw [ht] at hP1
  obtain ⟨j1, j2⟩ := joinM hH.1 hH.2.1 hk1 hFc hP1 hD1
  exact kk u H1 locs1 ⟨j1, j2, hS⟩
/-- the script is read -/
theorem rsld (F : Fx G p s m args meth c cc nL Ts own A) (hH : HH G A s w0 H locs) {b L : Nat} {xs : Nat → Int32} (hX : va_X b L xs s s.heap) (hbl : b < s.heap.size) (hbA : ¬ A b) (hL : L < 2 ^ 31) (k : Nat) {i : Int32} (hi : i = nI k) (hk : k < L) (hdg : decode cc pc = .ok (.iaload, 1))
    (kk : W p l e R s m args below meth c H locs cells slots Q (F0 m (pc + 1) ls (.int (xs k) :: rest))) : W p l e R s m args below meth c H locs cells slots Q (F0 m pc ls (.int i :: .ref b :: rest)) := by
  subst hi
  refine va_sld F.1.1 F.1.2.1 hX hbl hbA hH.2.2 (vp_in_nI hk hL) hdg ?_
  rw [nI_clamp (by omega)]; exact kk
theorem lg_self (x : Int64) : lg_cmp x x = 0 := by
  have h : ¬ x < x := by rw [Int64.lt_iff_toInt_lt]; omega
  simp [lg_cmp, h]
end LW
/-- in 0 .. N or not -/
theorem rg0 (x : Int32) {N : Nat} (hN : N + 1 < 2 ^ 31) : (x < 0 ∨ nI N < x) ∨ ∃ j : Nat, j ≤ N ∧ x = nI j := by
  rcases pk_ix x (n := N + 1) hN with h | h | ⟨j, h, rfl⟩
  · exact Or.inl (Or.inl h)
  · refine Or.inl (Or.inr ?_)
    rw [Int32.le_iff_toInt_le, nI_toInt (by omega)] at h
    rw [Int32.lt_iff_toInt_lt, nI_toInt (by omega)]
    omega
  · exact Or.inr ⟨j, by omega, rfl⟩
theorem rg1 (x : Int32) {N : Nat} (hN : N + 1 < 2 ^ 31) (h1 : 1 ≤ N) : (x < 1 ∨ nI N < x) ∨ ∃ j : Nat, 1 ≤ j ∧ j ≤ N ∧ x = nI j := by
  rcases rg0 x hN with (h | h) | ⟨j, h, rfl⟩
  · refine Or.inl (Or.inl ?_)
    rw [Int32.lt_iff_toInt_lt] at h ⊢
    have h9 : (0 : Int32).toInt = 0 := rfl
    have h8 : (1 : Int32).toInt = 1 := rfl
    omega
  · exact Or.inl (Or.inr h)
  · rcases Nat.eq_zero_or_pos j with h0 | h0
    · subst h0; exact Or.inl (Or.inl (by decide))
    · exact Or.inr ⟨j, h0, h, rfl⟩
theorem rgt (x : Int32) {n : Nat} (hn : n < 2 ^ 31) : (x < 0 ∨ nI n ≤ x) ∨ ∃ j : Nat, j < n ∧ x = nI j := by
  rcases pk_ix x hn with h | h | h
  · exact Or.inl (Or.inl h)
  · exact Or.inl (Or.inr h)
  · exact Or.inr h
theorem nI_0le {n : Nat} (h : n < 2 ^ 31) : (0 : Int32) ≤ nI n := nI_le (a := 0) (Nat.zero_le n) h
theorem nI_1le {n : Nat} (h1 : 1 ≤ n) (h : n < 2 ^ 31) : (1 : Int32) ≤ nI n := nI_le (a := 1) h1 h
theorem nI_npos {n : Nat} (h1 : 1 ≤ n) (h : n < 2 ^ 31) : ¬ nI n ≤ 0 := i_nle (nI_lt (a := 0) h1 h)
/-! what holds of the system between the law's calls -/
/-- how many of the first weeks have a cut -/
def cntC (c : Nat → Int32) : Nat → Nat
  | 0 => 0
  | j + 1 => cntC c j + (if c j ≤ 0 then 0 else 1)
/-- what was paid and made up in the first weeks -/
def sumP (u v : Nat → Int32) : Nat → Int32
  | 0 => 0
  | j + 1 => sumP u v j + (u j + v j)
def sumN (d : Nat → Nat) : Nat → Nat
  | 0 => 0
  | i + 1 => sumN d i + d i
/-- how many of the first weeks are checked -/
def cntK (k : Nat → Int32) : Nat → Nat
  | 0 => 0
  | j + 1 => cntK k j + (if k j = 0 then 0 else 1)
/-- a worker, t weeks passed: f fields, a rows -/
def WI (t : Nat) (f : Nat → Int32) (a : Nat → Nat → Int32) : Prop :=
  (∃ p : Nat, 1 ≤ p ∧ p ≤ 100000 ∧ f 0 = nI p) ∧ (∃ cn : Nat, cn ≤ 30 ∧ f 8 = nI cn) ∧ f 9 = nI (cntC (a 2) t) ∧ f 10 = sumP (a 4) (a 5) t ∧
  (∀ j, j < 201 → ∃ h : Nat, h ≤ 40 ∧ a 2 j = nI h) ∧ (∀ j, j < t → ∃ u v : Nat, u ≤ 100000 ∧ v ≤ 100000 ∧ a 4 j = nI u ∧ a 5 j = nI v ∧ (a 2 j ≤ 0 → v = 0))
def CI (g : Nat → Int32) : Prop :=
  (∃ x y : Nat, x ≤ y ∧ y ≤ 200 ∧ g 0 = nI x ∧ g 1 = nI y) ∧ (∃ h : Nat, 1 ≤ h ∧ h ≤ 40 ∧ g 2 = nI h) ∧ ∃ z : Nat, z ≤ 8 ∧ g 3 = nI z
/-- debts: each worker's, the firm's, not above what the checked weeks allow -/
def DI (n : Nat) (fd : Int32) (k : Nat → Int32) (wf : Nat → Nat → Int32) : Prop :=
  ∃ (d : Nat → Nat) (D : Nat), (∀ i, i < n → wf i 11 = nI (d i)) ∧ fd = nI D ∧ sumN d n ≤ D ∧ D ≤ 880000 * cntK k 201
def IN (n nc t : Nat) (fl fd : Int32) (k : Nat → Int32) (wf : Nat → Nat → Int32) (wa : Nat → Nat → Nat → Int32) (cf : Nat → Nat → Int32) : Prop :=
  n ≤ 8 ∧ nc ≤ 10 ∧ t ≤ 201 ∧ (∃ p : Nat, p ≤ 100 ∧ fl = nI p) ∧ (∀ i, i < n → WI t (wf i) (wa i)) ∧ (∀ c, c < nc → CI (cf c)) ∧ DI n fd k wf
def SI (G : Gx) (q : Nat → Nat) (nc : Nat) (fl : Int32) (w : va_W) : Prop :=
  ∃ (n t : Nat) (fd : Int32) (k : Nat → Int32) (wd : Nat → Nat → Nat) (wf : Nat → Nat → Int32) (wa : Nat → Nat → Nat → Int32) (cd : Nat → Nat) (cf : Nat → Nat → Int32), w = sW G q n nc t fl fd k wd wf wa cd cf ∧ IN n nc t fl fd k wf wa cf
/-- what the law's sum over the answers is made of: n workers, week t, the firm's debt, cut weeks, debts, net, cuts, fillings -/
def allK (cu fi : Nat → Int32) : Nat → Int64 → Int64
  | 0, h => h
  | j + 1, h => (allK cu fi j h * 41 + (cu (4 * j)).toInt64) * 2 + (if fillB (fi (4 * j)) (cu (4 * j)) = 0 then (0 : Int32) else 1).toInt64
def allW (cw ow nt : Nat → Int32) (cu fi : Nat → Nat → Int32) : Nat → Int64 → Int64
  | 0, h => h
  | i + 1, h => allK (cu i) (fi i) 15 (((allW cw ow nt cu fi i h * 211 + (cw i).toInt64) * 1000003 + (ow i).toInt64) * 1000003 + (nt i).toInt64)
def allV (n t : Nat) (fd : Int32) (cw ow nt : Nat → Int32) (cu fi : Nat → Nat → Int32) : Int64 :=
  allW cw ow nt cu fi n (((nI n).toInt64 * 9 + (nI t).toInt64) * 1000003 + fd.toInt64)
/-- .. of the system's state -/
def allS (n t : Nat) (fd : Int32) (wf : Nat → Nat → Int32) (wa : Nat → Nat → Nat → Int32) : Int64 :=
  allV n t fd (fun i => wf i 9) (fun i => wf i 11) (fun i => wf i 10 - wf i 11) (fun i => wa i 2) (fun i => wa i 3)
