/-! both sides say the same -/
/-- worker i is in course c, which has week j -/
def inC (a : Nat → Nat → Int32) (i c j : Nat) : Prop := ¬ a 15 (8 * c + i) = 0 ∧ a 12 c ≤ nI j ∧ nI j ≤ a 13 c
def sumM (a : Nat → Nat → Int32) (i : Nat) : Nat → Int32
  | 0 => 0
  | k + 1 => sumM a i k + (a 18 (201 * i + k) + a 19 (201 * i + k))
/-- a worker on both sides: f, w the system's fields and rows, a the reference's rows -/
def RW (t nc : Nat) (a : Nat → Nat → Int32) (i : Nat) (f : Nat → Int32) (w : Nat → Nat → Int32) : Prop :=
  (∃ p : Nat, 1 ≤ p ∧ p ≤ 100000 ∧ f 0 = nI p ∧ a 1 i = nI p) ∧ f 1 = a 2 i ∧
  (∃ c : Nat, c ≤ 30 ∧ f 8 = nI c ∧ a 3 i = nI c ∧ ∀ j, j < 201 → w 2 j = cutM a i (nI j) c) ∧
  (∀ j, j < 201 → ∃ h : Nat, h ≤ 40 ∧ w 2 j = nI h) ∧ f 9 = a 7 i ∧ f 11 = a 8 i ∧ f 10 = sumM a i 201 ∧
  (∀ j, j < 201 → w 4 j = a 18 (201 * i + j) ∧ w 5 j = a 19 (201 * i + j)) ∧
  (∀ j, t ≤ j → j < 201 → a 18 (201 * i + j) = 0 ∧ a 19 (201 * i + j) = 0) ∧
  (∀ j, j < t → j < 201 → a 20 (201 * i + j) = w 2 j) ∧
  (∀ j, j < 201 → (a 21 (201 * i + j) = w 6 j ∧ ¬ a 21 (201 * i + j) = -1) ∨ (a 21 (201 * i + j) = -1 ∧ w 6 j = 0)) ∧
  (∀ j, j < 201 → w 7 j = a 22 (201 * i + j)) ∧
  (∀ j, j < 201 → (∀ c, c < nc → inC a i c j → w 3 j = a 14 c) ∧ ((∀ c, c < nc → ¬ inC a i c j) → w 3 j = 0))
/-- a worker's place that isn't taken yet -/
def RZ (a : Nat → Nat → Int32) (i : Nat) : Prop :=
  a 3 i = 0 ∧ a 7 i = 0 ∧ a 8 i = 0 ∧ (∀ j, j < 201 → a 18 (201 * i + j) = 0 ∧ a 19 (201 * i + j) = 0 ∧ a 20 (201 * i + j) = 0 ∧ a 21 (201 * i + j) = -1 ∧ a 22 (201 * i + j) = 0) ∧ ∀ c, c < 10 → a 15 (8 * c + i) = 0
def RC (a : Nat → Nat → Int32) (c : Nat) (g : Nat → Int32) : Prop :=
  g 0 = a 12 c ∧ g 1 = a 13 c ∧ g 2 = a 14 c ∧ g 3 = a 11 c ∧ (∃ x y : Nat, x ≤ y ∧ y ≤ 200 ∧ a 12 c = nI x ∧ a 13 c = nI y) ∧ (∃ h : Nat, 1 ≤ h ∧ h ≤ 40 ∧ a 14 c = nI h) ∧ ∃ z : Nat, z ≤ 8 ∧ a 11 c = nI z
def Rel (n nc t : Nat) (fl fd : Int32) (k : Nat → Int32) (wf : Nat → Nat → Int32) (wa : Nat → Nat → Nat → Int32) (cf : Nat → Nat → Int32) (f : Nat → Int32) (a : Nat → Nat → Int32) : Prop :=
  (n ≤ 8 ∧ nc ≤ 10 ∧ t ≤ 201 ∧ f 0 = nI n ∧ f 10 = nI nc ∧ f 16 = nI t ∧ f 17 = fl ∧ f 9 = fd ∧ ∃ p : Nat, p ≤ 100 ∧ fl = nI p) ∧
  (∀ j, j < 201 → k j = a 23 j) ∧ (∀ i, i < n → RW t nc a i (wf i) (wa i)) ∧ (∀ i, n ≤ i → i < 8 → RZ a i) ∧ (∀ c, c < nc → RC a c (cf c)) ∧ ∀ c, nc ≤ c → c < 10 → ∀ i, i < 8 → a 15 (8 * c + i) = 0
def SR (G : Gx) (q : Nat → Nat) (w : va_W) (f : Nat → Int32) (a : Nat → Nat → Int32) : Prop :=
  ∃ (n nc t : Nat) (fl fd : Int32) (k : Nat → Int32) (wd : Nat → Nat → Nat) (wf : Nat → Nat → Int32) (wa : Nat → Nat → Nat → Int32) (cd : Nat → Nat) (cf : Nat → Nat → Int32), w = sW G q n nc t fl fd k wd wf wa cd cf ∧ Rel n nc t fl fd k wf wa cf f a
/-- one call on both sides: the same exception, or the same answer -/
def SIM (l : Launch) (G : Gx) (q mq : Nat → Nat) (o : Nat) (yL : MethodName) (wL : List Cond) (y3 : MethodName) (w3 : List Cond) (av : List Value) (w : va_W) (g : Nat → Int64) (f : Nat → Int32) (a : Nat → Nat → Int32) (isb : Bool) : Prop :=
  ∃ (c1 s1 fr3 lo3 : Nat) (kk b9 : Int32) (g2 : Nat → Int64) (sw2 : (Nat → Nat) → va_W) (f2 : Nat → Int32) (a2 : Nat → Nat → Int32), c1 ≤ 8 ∧ s1 ≤ 1300 ∧ fr3 ≤ 9 ∧ lo3 ≤ 330 ∧
    MI l yL wL ({ frames := 9, cells := c1, slots := s1, locals := 330 } : Room) (.ref (q 0) :: (av ++ [.ref o])) G (w ++ outC G o g) (fun u => sw2 u ++ outC G o g2) kk ∧
    MI l y3 w3 ({ frames := fr3, cells := 0, slots := 0, locals := lo3 } : Room) (.ref (mq 0) :: av) G (mW G mq f a) (fun _ => mW G mq f2 a2) b9 ∧
    f2 24 = kk ∧ (kk = 0 → g2 0 = if isb then (if b9 = 0 then 0 else 1) else b9.toInt64) ∧ ∀ u, SR G q (sw2 u) f2 a2
def SIMv (l : Launch) (G : Gx) (q mq : Nat → Nat) (yL : MethodName) (wL : List Cond) (y3 : MethodName) (w3 : List Cond) (av : List Value) (w : va_W) (f : Nat → Int32) (a : Nat → Nat → Int32) : Prop :=
  ∃ (c1 s1 fr3 lo3 : Nat) (kk : Int32) (sw2 : (Nat → Nat) → va_W) (f2 : Nat → Int32) (a2 : Nat → Nat → Int32), c1 ≤ 8 ∧ s1 ≤ 1300 ∧ fr3 ≤ 9 ∧ lo3 ≤ 330 ∧
    MI l yL wL ({ frames := 9, cells := c1, slots := s1, locals := 330 } : Room) (.ref (q 0) :: av) G w (fun u => sw2 u) kk ∧
    MV l y3 w3 ({ frames := fr3, cells := 0, slots := 0, locals := lo3 } : Room) (.ref (mq 0) :: av) G (mW G mq f a) (fun _ => mW G mq f2 a2) ∧
    f2 24 = kk ∧ ∀ u, SR G q (sw2 u) f2 a2
section LW
variable {p : Program} {l : Launch} {e : Env} {R : Room} {s : State} {m : MethodId} {args : Array Value} {below : List Frame} {meth : Method} {c : Code} {H : Heap} {locs : List Loc} {cells slots : Nat} {Q : State → Prop}
variable {cc : ByteArray} {pc nL : Nat} {ls : Array Slot} {rest st0 : List Value} {G : Gx} {Ts : List Cond} {own : String} {A : Nat → Prop} {w0 : va_W}
variable {y : MethodName} {bytes : ByteArray} {maxL n index : Nat} {ret : Option FieldType} {Wc Wc' : List Cond} {rmc : Room} {As : List Value} {wsc : va_W} {wsc' : (Nat → Nat) → va_W} {ans : Int32}
/-- a static call of a method with handlers -/
theorem callLI {hh : List (Nat × Nat × Nat × Nat)} (F : Fx G p s m args meth c cc nL Ts own A) (hM : MI l y Wc rmc As G wsc wsc' ans) (hg : GoodIn Ts (va_wsS own index y Wc)) (hwc : Wc = Cond.codeWith y bytes maxL ret hh :: Wc') (hd : y.cls ≠ "java/lang/invoke/MethodHandle" ∧ y.cls ≠ "java/lang/invoke/VarHandle" ∧ (parseMethodDescriptor y.desc).map (fun d => d.parameters.length) = some n) (hR : rmc.frames + 1 ≤ R.frames ∧ 8 + (maxL + 11) + rmc.locals ≤ R.locals)
    (a b : va_W) (hH : HH G A s w0 H locs) (hw : w0 = a ++ wsc ++ b) (hn : As.length = n) (hsz : ls.size = nL) (hrest : (rest.map fun v => v.category).sum ≤ 8) (hdg : decode cc pc = .ok (.invokestatic index, 3)) (hf : cells + rmc.cells ≤ R.cells ∧ slots + rmc.slots ≤ R.slots) (hst : st0 = As.reverse ++ rest)
    (kk : ∀ (u : Nat → Nat) (H1 : Heap) (locs1 : List Loc), HH G A s (a ++ wsc' u ++ b) H1 locs1 → W p l e R s m args below meth c H1 locs1 (cells + rmc.cells) (slots + rmc.slots) Q (F0 m (pc + 3) ls (.int ans :: rest))) :
    W p l e R s m args below meth c H locs cells slots Q (F0 m pc ls st0) := by
  subst hw
  have hPc := midP hH.1
  have hDc := midD hH.2.1
  have hFc := freeM hH.2.1 hH.2.2 F.2.2.2.2.2
  have hE : EVh (va_A wsc H.size) s H := (F.2.2.2.2.1.kept hH.2.2.2.1).narrow hFc
  refine va_calli (vx_runSW (As := As) (rest := rest) F.1 (hM H.size) (vx_cwSW n F.1.2.2.2.2 hg hwc rfl rfl hd hR) ⟨BP.blind, fun U hU hW => ⟨rfl, by rw [hU], by rw [hU]; exact hPc, va_K.moved hW.alike F.2.2.1, hDc.weaken (fun _ _ _ _ => trivial), F.2.2.2.1.moved hW, by rw [hU]; exact hE.moved hW.alike⟩⟩ rfl hn hsz hst (lv_room hrest) hdg hf) hH.2.2 (fun q _ h => hFc q h) hFc (fun r u t H1 locs1 ht hvm hw hB hz1 hk1 hS => ?_)
  subst hw
  obtain ⟨hP1, -, hD1⟩ := hB
  rw [ht] at hP1
  obtain ⟨j1, j2⟩ := joinM hH.1 hH.2.1 hk1 hFc hP1 hD1
  exact kk u H1 locs1 ⟨j1, j2, hS⟩
/-- the script is read -/
theorem rsld (F : Fx G p s m args meth c cc nL Ts own A) (hH : HH G A s w0 H locs) {b L : Nat} {xs : Nat → Int32} (hX : va_X b L xs s s.heap) (hbl : b < s.heap.size) (hbA : ¬ A b) (hL : L < 2 ^ 31) (k : Nat) {i : Int32} (hi : i = nI k) (hk : k < L) (hdg : decode cc pc = .ok (.iaload, 1))
    (kk : W p l e R s m args below meth c H locs cells slots Q (F0 m (pc + 1) ls (.int (xs k) :: rest))) : W p l e R s m args below meth c H locs cells slots Q (F0 m pc ls (.int i :: .ref b :: rest)) := by
  subst hi
  refine va_sld F.1.1 F.1.2.1 hX hbl hbA hH.2.2 (vp_in_nI hk hL) hdg ?_
  rw [nI_clamp (by omega)]; exact kk
theorem lg_self (x : Int64) : lg_cmp x x = 0 := by
  have h : ¬ x < x := by rw [Int64.lt_iff_toInt_lt]; omega
  simp [lg_cmp, h]
end LW
