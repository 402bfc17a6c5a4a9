/-! numbers of the law -/
def ush1 (x : Int32) : Int32 := (x.toUInt32 >>> ((1 : Int32).toUInt32 &&& Int32.toUInt32 31)).toInt32
/-- the law's 'some' -/
def someV (x n : Int32) : Int32 := ush1 x - ush1 x / n * n
theorem ush1_nat (x : Int32) : ∃ m : Nat, m < 2 ^ 31 ∧ ush1 x = nI m := by
  have h := pk_ushr x 1 1 (by decide)
  have h2 : x.toBitVec.toNat < 2 ^ 32 := x.toBitVec.isLt
  refine ⟨x.toBitVec.toNat / 2 ^ 1, by omega, ?_⟩
  apply Int32.toBitVec_inj.mp
  apply BitVec.eq_of_toNat_eq
  rw [pk_tn (by omega)]
  exact h
theorem someV_lt (x : Int32) {n : Nat} (h0 : 0 < n) (hn : n < 2 ^ 31) : ∃ j : Nat, j < n ∧ someV x (nI n) = nI j := by
  obtain ⟨m, hm, e⟩ := ush1_nat x
  refine ⟨m % n, Nat.mod_lt _ h0, ?_⟩
  unfold someV
  rw [e]
  exact pk_rem hm h0 hn
theorem cntK_le (k : Nat → Int32) : ∀ m : Nat, cntK k m ≤ m
  | 0 => Nat.le_refl 0
  | m + 1 => by
    have h := cntK_le k m
    show cntK k m + (if k m = 0 then 0 else 1) ≤ m + 1
    split <;> omega
theorem cntC_le (c : Nat → Int32) : ∀ m : Nat, cntC c m ≤ m
  | 0 => Nat.le_refl 0
  | m + 1 => by
    have h := cntC_le c m
    show cntC c m + (if c m ≤ 0 then 0 else 1) ≤ m + 1
    split <;> omega
/-- weeks with a cut in which something was paid or made up -/
def cntQ (c u v : Nat → Int32) : Nat → Nat
  | 0 => 0
  | j + 1 => cntQ c u v j + (if c j ≤ 0 then 0 else if u j + v j ≤ 0 then 0 else 1)
theorem cntQ_le (c u v : Nat → Int32) : ∀ m : Nat, cntQ c u v m ≤ cntC c m
  | 0 => Nat.le_refl 0
  | m + 1 => by
    have h := cntQ_le c u v m
    show cntQ c u v m + (if c m ≤ 0 then 0 else if u m + v m ≤ 0 then 0 else 1) ≤ cntC c m + (if c m ≤ 0 then 0 else 1)
    by_cases h1 : c m ≤ 0
    · rw [if_pos h1, if_pos h1]; omega
    · rw [if_neg h1, if_neg h1]
      split <;> omega
def netP (x : Int32) (u v : Nat → Int32) : Nat → Int32
  | 0 => x
  | j + 1 => netP x u v j + (u j + v j)
theorem netP_eq (d : Int32) (u v : Nat → Int32) : ∀ m : Nat, netP (-d) u v m = sumP u v m - d
  | 0 => by
    show -d = 0 - d
    rw [Int32.sub_eq_add_neg, Int32.zero_add]
  | m + 1 => by
    show netP (-d) u v m + (u m + v m) = sumP u v m + (u m + v m) - d
    rw [netP_eq d u v m, Int32.sub_eq_add_neg, Int32.sub_eq_add_neg, Int32.add_assoc, Int32.add_assoc, Int32.add_comm (-d)]
theorem cntQ_a {c u v : Nat → Int32} {j : Nat} (h : c j ≤ 0) : cntQ c u v (j + 1) = cntQ c u v j + 0 := by
  show _ + (if c j ≤ 0 then 0 else _) = _
  rw [if_pos h]
theorem cntQ_b {c u v : Nat → Int32} {j : Nat} (h : ¬ c j ≤ 0) (h2 : u j + v j ≤ 0) : cntQ c u v (j + 1) = cntQ c u v j + 0 := by
  show _ + (if c j ≤ 0 then 0 else _) = _
  rw [if_neg h, if_pos h2]
theorem cntQ_c {c u v : Nat → Int32} {j : Nat} (h : ¬ c j ≤ 0) (h2 : ¬ u j + v j ≤ 0) : cntQ c u v (j + 1) = cntQ c u v j + 1 := by
  show _ + (if c j ≤ 0 then 0 else _) = _
  rw [if_neg h, if_neg h2]
theorem i_ngt {x : Int32} (h : ¬ 0 < x) : x ≤ 0 := i_le h
/-- the sum over workers below i, weeks' part j of worker i -/
def alW (n t : Nat) (fd : Int32) (wf : Nat → Nat → Int32) (wa : Nat → Nat → Nat → Int32) (i : Nat) : Int64 :=
  allW (fun i => wf i 9) (fun i => wf i 11) (fun i => wf i 10 - wf i 11) (fun i => wa i 2) (fun i => wa i 3) i (((nI n).toInt64 * 9 + (nI t).toInt64) * 1000003 + fd.toInt64)
def alK (n t : Nat) (fd : Int32) (wf : Nat → Nat → Int32) (wa : Nat → Nat → Nat → Int32) (i j : Nat) : Int64 :=
  allK (wa i 2) (wa i 3) j (((alW n t fd wf wa i * 211 + (wf i 9).toInt64) * 1000003 + (wf i 11).toInt64) * 1000003 + (wf i 10 - wf i 11).toInt64)
theorem alK_0 {n t : Nat} {fd : Int32} {wf : Nat → Nat → Int32} {wa : Nat → Nat → Nat → Int32} {i j : Nat} (h : fillB (wa i 3 (4 * j)) (wa i 2 (4 * j)) = 0) : alK n t fd wf wa i (j + 1) = (alK n t fd wf wa i j * 41 + (wa i 2 (4 * j)).toInt64) * 2 + (0 : Int32).toInt64 := by
  show (alK n t fd wf wa i j * 41 + (wa i 2 (4 * j)).toInt64) * 2 + (if fillB (wa i 3 (4 * j)) (wa i 2 (4 * j)) = 0 then (0 : Int32) else 1).toInt64 = _
  rw [if_pos h]
theorem alK_1 {n t : Nat} {fd : Int32} {wf : Nat → Nat → Int32} {wa : Nat → Nat → Nat → Int32} {i j : Nat} (h : ¬ fillB (wa i 3 (4 * j)) (wa i 2 (4 * j)) = 0) : alK n t fd wf wa i (j + 1) = (alK n t fd wf wa i j * 41 + (wa i 2 (4 * j)).toInt64) * 2 + (1 : Int32).toInt64 := by
  show (alK n t fd wf wa i j * 41 + (wa i 2 (4 * j)).toInt64) * 2 + (if fillB (wa i 3 (4 * j)) (wa i 2 (4 * j)) = 0 then (0 : Int32) else 1).toInt64 = _
  rw [if_neg h]
/-! the contract of 'cell': it reads the script -/
def MC (l : Launch) (y : MethodName) (Wd : List Cond) (rm : Room) (av : List Value) (G : Gx) (b L : Nat) (xs : Nat → Int32) : Prop :=
  ∀ sz : Nat, b < sz → Met l y Wd rm (va_Pc av (fun U => BP G [] sz U ∧ va_X b L xs U U.heap)) (va_Qi (fun _ (_ : Unit) => True) (fun _ => BQ G (va_A [] sz) []) (va_A [] sz)) rm.cells rm.slots (va_A [] sz)
abbrev EnC (G : Gx) (A : Nat → Prop) (below : List Frame) (s : State) (args : Array Value) (rm : Room) : State → Prop :=
  MQ below (va_Qi (fun _ (_ : Unit) => True) (fun _ => BQ G A []) A) args s rm.cells rm.slots A
theorem ofMC {l : Launch} {y : MethodName} {Wd Wd' : List Cond} {rm : Room} {av : List Value} {G : Gx} {b L : Nat} {xs : Nat → Int32} {cc : ByteArray} {maxL : Nat} {ret : Option FieldType} (hy : plainName y.cls = true) (hw : Wd = Cond.code y cc maxL ret :: Wd') (hlen : (lg_sl av).length ≤ maxL)
    (body : ∀ (p : Program) (e : Env) (s : State) (m : MethodId) (below : List Frame) (meth : Method) (c : Code) (A : Nat → Prop) (ls : Array Slot), Fx G p s m av.toArray meth c cc maxL Wd y.cls A → meth.sig.returnType = ret → va_X b L xs s s.heap → b < s.heap.size → ¬ A b → HH G A s [] s.heap [] → lv_has ls maxL (lv_args 0 av) →
      W p l e rm s m av.toArray below meth c s.heap [] 0 0 (EnC G A below s av.toArray rm) (F0 m 0 ls [])) : MC l y Wd rm av G b L xs := by
  intro sz hb9
  refine Met.ofW (cc := cc) (maxL := maxL) (ret := ret) hy hw ?_
  intro p e s m args below meth c s₁ B hml hv
  obtain ⟨rfl, ⟨hsz, hP, hK, hD0, hE, hE2⟩, hX⟩ := hv
  subst hsz
  have hl := lv_entry av (n := maxL) hlen
  rw [lg_entry_eq]
  refine body p e s m below meth c (va_A [] s.heap.size) _ ⟨⟨B.exec, B.bytes, hml, findClass_of_methodNamed B.named, atoms_spec (ws := Wd) B.pre⟩, B.notSynchronized, hK, hE, hE2, fun q h => Or.inr h⟩ B.returns hX hb9 ?_ ⟨hP, hD0.self, va_S.rf⟩ hl
  rintro (⟨k, e9, h⟩ | h)
  · simp at h
  · omega
section CELL
variable {p : Program} {l : Launch} {e : Env} {R rm : Room} {s : State} {m : MethodId} {args : Array Value} {below : List Frame} {meth : Method} {c : Code} {H : Heap} {locs : List Loc} {cells slots : Nat} {Q : State → Prop}
variable {cc : ByteArray} {pc nL : Nat} {ls : Array Slot} {rest st0 : List Value} {G : Gx} {Ts : List Cond} {own : String} {A : Nat → Prop} {w0 w1 ws : va_W}
variable {y : MethodName} {bytes : ByteArray} {maxL n index : Nat} {ret : Option FieldType} {Wc Wc' : List Cond} {rmc : Room} {As : List Value} {v : Int32} {ty : FieldType} {b L : Nat} {xs : Nat → Int32}
theorem retC (F : Fx G p s m args meth c cc nL Ts own A) (hr : meth.sig.returnType = some ty) (hn : narrow ty (.int v) = .int v) (hH : HH G A s [] H locs) (hc : cells ≤ rm.cells) (hs : slots ≤ rm.slots) (hdg : decode cc pc = .ok (.ireturn, 1)) :
    W p l e R s m args below meth c H locs cells slots (EnC G A below s args rm) (F0 m pc ls [.int v]) := by
  refine W.widen hc hs ?_
  exact W.zret F.1.1 F.1.2.1 hr hn (fun t ht hW => ⟨⟨_, (), rfl, trivial, by rw [ht]; exact hH.1, va_K.moved hW.alike F.2.2.1, hH.2.1⟩, hH.2.2.F ht⟩) hH.2.2.2.2 hdg F.2.1
theorem callSC (F : Fx G p s m args meth c cc nL Ts own A) (hM : MC l y Wc rmc As G b L xs) (hg : GoodIn Ts (va_wsS own index y Wc)) (hwc : Wc = Cond.code y bytes maxL ret :: Wc') (hd : y.cls = own ∧ y.cls ≠ "java/lang/invoke/MethodHandle" ∧ y.cls ≠ "java/lang/invoke/VarHandle" ∧ (parseMethodDescriptor y.desc).map (fun d => d.parameters.length) = some n) (hR : rmc.frames + 1 ≤ R.frames ∧ 8 + (maxL + 11) + rmc.locals ≤ R.locals)
    (hX : va_X b L xs s s.heap) (hbl : b < s.heap.size) (hbA : ¬ A b) (hH : HH G A s w0 H locs) (hn : As.length = n) (hsz : ls.size = nL) (hrest : (rest.map fun v => v.category).sum ≤ 8) (hdg : decode cc pc = .ok (.invokestatic index, 3)) (hf : cells + rmc.cells ≤ R.cells ∧ slots + rmc.slots ≤ R.slots) (hst : st0 = As.reverse ++ rest)
    (kk : ∀ (r : Int32) (H1 : Heap) (locs1 : List Loc), HH G A s w0 H1 locs1 → W p l e R s m args below meth c H1 locs1 (cells + rmc.cells) (slots + rmc.slots) Q (F0 m (pc + 3) ls (.int r :: rest))) :
    W p l e R s m args below meth c H locs cells slots Q (F0 m pc ls st0) := by
  have hFc : ∀ q, va_A [] H.size q → A q := by
    rintro q (⟨k, e9, h⟩ | h)
    · simp at h
    · exact F.2.2.2.2.2 q (Nat.le_trans hH.2.2.1 h)
  have hE : EVh (va_A [] H.size) s H := (F.2.2.2.2.1.kept hH.2.2.2.1).narrow hFc
  have hX2 : va_X b L xs s H := hX.kept (hH.2.2.2.1 b hbl hbA)
  have hb2 : b < H.size := Nat.lt_of_lt_of_le hbl hH.2.2.1
  have hg' : GoodIn Ts (wsS own index y Wc) := by
    have h0 : wsS own index y Wc = va_wsS own index y Wc := by unfold wsS va_wsS; rw [hd.1]
    rw [h0]; exact hg
  have hblind : FrameBlind (va_Pc As (fun U => BP G [] H.size U ∧ va_X b L xs U U.heap)) := by
    intro a U g mk q
    have h1 := BP.blind (G := G) (ws := []) (sz := H.size) (av := As) a U g mk ⟨q.1, q.2.1⟩
    exact ⟨h1.1, h1.2, va_X.moved (u := U) (U := U.calling g mk a) (Vm.Alike.refl U.vm) q.2.2⟩
  refine va_calli (va_runS (As := As) (rest := rest) F.1 (hM H.size hb2) (cwS n F.1.2.2.2.2 hg' hwc rfl rfl hd hR) ⟨hblind, fun U hU hW => ⟨rfl, ⟨by rw [hU], fun k q hk => by simp at hk, va_K.moved hW.alike F.2.2.1, ⟨fun i j p q h => by simp at h, fun k q h => by simp at h⟩, F.2.2.2.1.moved hW, by rw [hU]; exact hE.moved hW.alike⟩, by rw [hU]; exact hX2.moved hW.alike⟩⟩ rfl hn hsz hst (lv_room hrest) hdg hf) hH.2.2 (fun q _ h => hFc q h) hFc (fun r u t H1 locs1 ht hvm hw hB hz1 hk1 hS => ?_)
  refine kk r H1 locs1 ⟨hH.1.kept fun k q hk => hk1 _ (hH.1 k q hk).lt ?_, hH.2.1, hS⟩
  rintro (⟨k9, e9, h⟩ | h)
  · simp at h
  · exact Nat.not_le.mpr (hH.1 k q hk).lt h
end CELL
