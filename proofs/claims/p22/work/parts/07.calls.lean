section C9
variable {p : Program} {l : Launch} {e : Env} {R rm : Room} {s : State} {m : MethodId} {args : Array Value} {below : List Frame} {meth : Method} {c : Code} {H : Heap} {locs : List Loc} {cells slots : Nat} {Q : State → Prop}
variable {cc : ByteArray} {pc nL : Nat} {ls : Array Slot} {rest st0 : List Value} {G : Gx} {Ts : List Cond} {own : String} {A : Nat → Prop} {ws w0 w1 : va_W} {E : String} {q : Addr}
variable {y : MethodName} {bytes : ByteArray} {maxL n index : Nat} {ret : Option FieldType} {Wc Wc' : List Cond} {rmc : Room} {b0 : Nat} {As : List Value} {wsc : va_W} {wsc' : (Nat → Nat) → va_W} {ans : Int32} {C : String} {r : Nat}
theorem callVI (F : Fx G p s m args meth c cc nL Ts own A) (hM : MI l y Wc rmc (.ref b0 :: As) G wsc wsc' ans) (hg : GoodIn Ts (wsV own index C y Wc)) (hwc : Wc = Cond.code y bytes maxL ret :: Wc') (hd : y.cls = C ∧ y.cls ≠ "java/lang/invoke/MethodHandle" ∧ y.cls ≠ "java/lang/invoke/VarHandle" ∧ (parseMethodDescriptor y.desc).map (fun d => d.parameters.length) = some n) (hR : rmc.frames + 1 ≤ R.frames ∧ 8 + (maxL + 11) + rmc.locals ≤ R.locals)
    (a b : va_W) (hH : HH G A s w0 H locs) (hw : w0 = a ++ wsc ++ b) (hrec : ∃ (i ci : Nat) (fs : List Value) (q : vw_C), wsc[i]? = some (b0, .inr (ci, fs)) ∧ vwCl[ci]? = some q ∧ q.1 = C) (hn : As.length = n) (hsz : ls.size = nL) (hrest : (rest.map fun v => v.category).sum ≤ 8) (hdg : decode cc pc = .ok (.invokevirtual index, 3)) (hf : cells + rmc.cells ≤ R.cells ∧ slots + rmc.slots ≤ R.slots) (hst : st0 = As.reverse ++ .ref b0 :: rest)
    (kk : ∀ (u : Nat → Nat) (H1 : Heap) (locs1 : List Loc), HH G A s (a ++ wsc' u ++ b) H1 locs1 → W p l e R s m args below meth c H1 locs1 (cells + rmc.cells) (slots + rmc.slots) Q (F0 m (pc + 3) ls (.int ans :: rest))) :
    W p l e R s m args below meth c H locs cells slots Q (F0 m pc ls st0) := by
  subst hw
  have hPc := midP hH.1
  have hDc := midD hH.2.1
  have hFc := freeM hH.2.1 hH.2.2 F.2.2.2.2.2
  have hE : EVh (va_A wsc H.size) s H := (F.2.2.2.2.1.kept hH.2.2.2.1).narrow hFc
  obtain ⟨i, ci, fs, q, hr1, hr2, hr3⟩ := hrec
  subst hr3
  refine va_calli (va_runV (As := As) (rest := rest) F.1 (hM H.size) (cwV n F.1.2.2.2.2 hg hwc rfl rfl hd hR) ⟨BP.blind, va_recv F.2.2.1 hPc hr2 hr1, fun U hU hW => ⟨rfl, by rw [hU], by rw [hU]; exact hPc, va_K.moved hW.alike F.2.2.1, hDc.weaken (fun _ _ _ _ => trivial), F.2.2.2.1.moved hW, by rw [hU]; exact hE.moved hW.alike⟩⟩ rfl hn hsz hst (lv_room hrest) hdg hf) hH.2.2 (fun q _ h => hFc q h) hFc (fun r u t H1 locs1 ht hvm hw hB hz1 hk1 hS => ?_)
  subst hw
  obtain ⟨hP1, -, hD1⟩ := hB
  rw [ht] at hP1
  obtain ⟨j1, j2⟩ := joinM hH.1 hH.2.1 hk1 hFc hP1 hD1
  exact kk u H1 locs1 ⟨j1, j2, hS⟩
theorem callVV (F : Fx G p s m args meth c cc nL Ts own A) (hM : MV l y Wc rmc (.ref b0 :: As) G wsc wsc') (hg : GoodIn Ts (wsV own index C y Wc)) (hwc : Wc = Cond.code y bytes maxL ret :: Wc') (hd : y.cls = C ∧ y.cls ≠ "java/lang/invoke/MethodHandle" ∧ y.cls ≠ "java/lang/invoke/VarHandle" ∧ (parseMethodDescriptor y.desc).map (fun d => d.parameters.length) = some n) (hR : rmc.frames + 1 ≤ R.frames ∧ 8 + (maxL + 11) + rmc.locals ≤ R.locals)
    (a b : va_W) (hH : HH G A s w0 H locs) (hw : w0 = a ++ wsc ++ b) (hrec : ∃ (i ci : Nat) (fs : List Value) (q : vw_C), wsc[i]? = some (b0, .inr (ci, fs)) ∧ vwCl[ci]? = some q ∧ q.1 = C) (hn : As.length = n) (hsz : ls.size = nL) (hrest : (rest.map fun v => v.category).sum ≤ 8) (hdg : decode cc pc = .ok (.invokevirtual index, 3)) (hf : cells + rmc.cells ≤ R.cells ∧ slots + rmc.slots ≤ R.slots) (hst : st0 = As.reverse ++ .ref b0 :: rest)
    (kk : ∀ (u : Nat → Nat) (H1 : Heap) (locs1 : List Loc), HH G A s (a ++ wsc' u ++ b) H1 locs1 → W p l e R s m args below meth c H1 locs1 (cells + rmc.cells) (slots + rmc.slots) Q (F0 m (pc + 3) ls rest)) :
    W p l e R s m args below meth c H locs cells slots Q (F0 m pc ls st0) := by
  subst hw
  have hPc := midP hH.1
  have hDc := midD hH.2.1
  have hFc := freeM hH.2.1 hH.2.2 F.2.2.2.2.2
  have hE : EVh (va_A wsc H.size) s H := (F.2.2.2.2.1.kept hH.2.2.2.1).narrow hFc
  obtain ⟨i, ci, fs, q, hr1, hr2, hr3⟩ := hrec
  subst hr3
  refine va_callv (va_runV (As := As) (rest := rest) F.1 (hM H.size) (cwV n F.1.2.2.2.2 hg hwc rfl rfl hd hR) ⟨BP.blind, va_recv F.2.2.1 hPc hr2 hr1, fun U hU hW => ⟨rfl, by rw [hU], by rw [hU]; exact hPc, va_K.moved hW.alike F.2.2.1, hDc.weaken (fun _ _ _ _ => trivial), F.2.2.2.1.moved hW, by rw [hU]; exact hE.moved hW.alike⟩⟩ rfl hn hsz hst (lv_room hrest) hdg hf) hH.2.2 (fun q _ h => hFc q h) hFc (fun u t H1 locs1 ht hvm hw hB hz1 hk1 hS => ?_)
  obtain ⟨hP1, -, hD1⟩ := hB
  rw [ht] at hP1
  obtain ⟨j1, j2⟩ := joinM hH.1 hH.2.1 hk1 hFc hP1 hD1
  exact kk u H1 locs1 ⟨j1, j2, hS⟩
theorem callVR (F : Fx G p s m args meth c cc nL Ts own A) (hM : MR l y Wc rmc (.ref b0 :: As) G wsc r) (hg : GoodIn Ts (wsV own index C y Wc)) (hwc : Wc = Cond.code y bytes maxL ret :: Wc') (hd : y.cls = C ∧ y.cls ≠ "java/lang/invoke/MethodHandle" ∧ y.cls ≠ "java/lang/invoke/VarHandle" ∧ (parseMethodDescriptor y.desc).map (fun d => d.parameters.length) = some n) (hR : rmc.frames + 1 ≤ R.frames ∧ 8 + (maxL + 11) + rmc.locals ≤ R.locals)
    (a b : va_W) (hH : HH G A s w0 H locs) (hw : w0 = a ++ wsc ++ b) (hrec : ∃ (i ci : Nat) (fs : List Value) (q : vw_C), wsc[i]? = some (b0, .inr (ci, fs)) ∧ vwCl[ci]? = some q ∧ q.1 = C) (hn : As.length = n) (hsz : ls.size = nL) (hrest : (rest.map fun v => v.category).sum ≤ 8) (hdg : decode cc pc = .ok (.invokevirtual index, 3)) (hf : cells + rmc.cells ≤ R.cells ∧ slots + rmc.slots ≤ R.slots) (hst : st0 = As.reverse ++ .ref b0 :: rest)
    (kk : ∀ (H1 : Heap) (locs1 : List Loc), HH G A s w0 H1 locs1 → W p l e R s m args below meth c H1 locs1 (cells + rmc.cells) (slots + rmc.slots) Q (F0 m (pc + 3) ls (.ref r :: rest))) :
    W p l e R s m args below meth c H locs cells slots Q (F0 m pc ls st0) := by
  subst hw
  have hPc := midP hH.1
  have hDc := midD hH.2.1
  have hFc := freeM hH.2.1 hH.2.2 F.2.2.2.2.2
  have hE : EVh (va_A wsc H.size) s H := (F.2.2.2.2.1.kept hH.2.2.2.1).narrow hFc
  obtain ⟨i, ci, fs, q, hr1, hr2, hr3⟩ := hrec
  subst hr3
  refine va_callr (va_runV (As := As) (rest := rest) F.1 (hM H.size) (cwV n F.1.2.2.2.2 hg hwc rfl rfl hd hR) ⟨BP.blind, va_recv F.2.2.1 hPc hr2 hr1, fun U hU hW => ⟨rfl, by rw [hU], by rw [hU]; exact hPc, va_K.moved hW.alike F.2.2.1, hDc.weaken (fun _ _ _ _ => trivial), F.2.2.2.1.moved hW, by rw [hU]; exact hE.moved hW.alike⟩⟩ rfl hn hsz hst (lv_room hrest) hdg hf) hH.2.2 (fun q _ h => hFc q h) hFc (fun u r9 t H1 locs1 ht hvm hw hB hz1 hk1 hS => ?_)
  obtain ⟨hr9, hP1, -, hD1⟩ := hB
  subst hr9
  rw [ht] at hP1
  obtain ⟨j1, j2⟩ := joinM hH.1 hH.2.1 hk1 hFc hP1 hD1
  exact kk H1 locs1 ⟨j1, j2, hS⟩
theorem callSI (F : Fx G p s m args meth c cc nL Ts own A) (hM : MI l y Wc rmc As G wsc wsc' ans) (hg : GoodIn Ts (va_wsS own index y Wc)) (hwc : Wc = Cond.code y bytes maxL ret :: Wc') (hd : y.cls = own ∧ y.cls ≠ "java/lang/invoke/MethodHandle" ∧ y.cls ≠ "java/lang/invoke/VarHandle" ∧ (parseMethodDescriptor y.desc).map (fun d => d.parameters.length) = some n) (hR : rmc.frames + 1 ≤ R.frames ∧ 8 + (maxL + 11) + rmc.locals ≤ R.locals)
    (a b : va_W) (hH : HH G A s w0 H locs) (hw : w0 = a ++ wsc ++ b) (hn : As.length = n) (hsz : ls.size = nL) (hrest : (rest.map fun v => v.category).sum ≤ 8) (hdg : decode cc pc = .ok (.invokestatic index, 3)) (hf : cells + rmc.cells ≤ R.cells ∧ slots + rmc.slots ≤ R.slots) (hst : st0 = As.reverse ++ rest)
    (kk : ∀ (u : Nat → Nat) (H1 : Heap) (locs1 : List Loc), HH G A s (a ++ wsc' u ++ b) H1 locs1 → W p l e R s m args below meth c H1 locs1 (cells + rmc.cells) (slots + rmc.slots) Q (F0 m (pc + 3) ls (.int ans :: rest))) :
    W p l e R s m args below meth c H locs cells slots Q (F0 m pc ls st0) := by
  subst hw
  have hPc := midP hH.1
  have hDc := midD hH.2.1
  have hFc := freeM hH.2.1 hH.2.2 F.2.2.2.2.2
  have hE : EVh (va_A wsc H.size) s H := (F.2.2.2.2.1.kept hH.2.2.2.1).narrow hFc
  have hg' : GoodIn Ts (wsS own index y Wc) := by
    have h0 : wsS own index y Wc = va_wsS own index y Wc := by unfold wsS va_wsS; rw [hd.1]
    rw [h0]; exact hg
  refine va_calli (va_runS (As := As) (rest := rest) F.1 (hM H.size) (cwS n F.1.2.2.2.2 hg' hwc rfl rfl hd hR) ⟨BP.blind, fun U hU hW => ⟨rfl, by rw [hU], by rw [hU]; exact hPc, va_K.moved hW.alike F.2.2.1, hDc.weaken (fun _ _ _ _ => trivial), F.2.2.2.1.moved hW, by rw [hU]; exact hE.moved hW.alike⟩⟩ rfl hn hsz hst (lv_room hrest) hdg hf) hH.2.2 (fun q _ h => hFc q h) hFc (fun r u t H1 locs1 ht hvm hw hB hz1 hk1 hS => ?_)
  subst hw
  obtain ⟨hP1, -, hD1⟩ := hB
  rw [ht] at hP1
  obtain ⟨j1, j2⟩ := joinM hH.1 hH.2.1 hk1 hFc hP1 hD1
  exact kk u H1 locs1 ⟨j1, j2, hS⟩
theorem callSV (F : Fx G p s m args meth c cc nL Ts own A) (hM : MV l y Wc rmc As G wsc wsc') (hg : GoodIn Ts (va_wsS own index y Wc)) (hwc : Wc = Cond.code y bytes maxL ret :: Wc') (hd : y.cls = own ∧ y.cls ≠ "java/lang/invoke/MethodHandle" ∧ y.cls ≠ "java/lang/invoke/VarHandle" ∧ (parseMethodDescriptor y.desc).map (fun d => d.parameters.length) = some n) (hR : rmc.frames + 1 ≤ R.frames ∧ 8 + (maxL + 11) + rmc.locals ≤ R.locals)
    (a b : va_W) (hH : HH G A s w0 H locs) (hw : w0 = a ++ wsc ++ b) (hn : As.length = n) (hsz : ls.size = nL) (hrest : (rest.map fun v => v.category).sum ≤ 8) (hdg : decode cc pc = .ok (.invokestatic index, 3)) (hf : cells + rmc.cells ≤ R.cells ∧ slots + rmc.slots ≤ R.slots) (hst : st0 = As.reverse ++ rest)
    (kk : ∀ (u : Nat → Nat) (H1 : Heap) (locs1 : List Loc), HH G A s (a ++ wsc' u ++ b) H1 locs1 → W p l e R s m args below meth c H1 locs1 (cells + rmc.cells) (slots + rmc.slots) Q (F0 m (pc + 3) ls rest)) :
    W p l e R s m args below meth c H locs cells slots Q (F0 m pc ls st0) := by
  subst hw
  have hPc := midP hH.1
  have hDc := midD hH.2.1
  have hFc := freeM hH.2.1 hH.2.2 F.2.2.2.2.2
  have hE : EVh (va_A wsc H.size) s H := (F.2.2.2.2.1.kept hH.2.2.2.1).narrow hFc
  have hg' : GoodIn Ts (wsS own index y Wc) := by
    have h0 : wsS own index y Wc = va_wsS own index y Wc := by unfold wsS va_wsS; rw [hd.1]
    rw [h0]; exact hg
  refine va_callv (va_runS (As := As) (rest := rest) F.1 (hM H.size) (cwS n F.1.2.2.2.2 hg' hwc rfl rfl hd hR) ⟨BP.blind, fun U hU hW => ⟨rfl, by rw [hU], by rw [hU]; exact hPc, va_K.moved hW.alike F.2.2.1, hDc.weaken (fun _ _ _ _ => trivial), F.2.2.2.1.moved hW, by rw [hU]; exact hE.moved hW.alike⟩⟩ rfl hn hsz hst (lv_room hrest) hdg hf) hH.2.2 (fun q _ h => hFc q h) hFc (fun u t H1 locs1 ht hvm hw hB hz1 hk1 hS => ?_)
  obtain ⟨hP1, -, hD1⟩ := hB
  rw [ht] at hP1
  obtain ⟨j1, j2⟩ := joinM hH.1 hH.2.1 hk1 hFc hP1 hD1
  exact kk u H1 locs1 ⟨j1, j2, hS⟩
theorem callIV (F : Fx G p s m args meth c cc nL Ts own A) (hM : MV l y Wc rmc (.ref b0 :: As) G wsc wsc') (hg : GoodIn Ts Wc) (hwc : Wc = Cond.code y bytes maxL none :: Wc') (hini : Cond.initialized y.cls ∈ Ts) (hli : Cond.methodLink own index y ∈ Ts) (hinst : Cond.instanceMethod y ∈ Ts) (hy1 : y.name = "<init>") (hd : y.cls ≠ "java/lang/invoke/MethodHandle" ∧ y.cls ≠ "java/lang/invoke/VarHandle" ∧ (parseMethodDescriptor y.desc).map (fun d => d.parameters.length) = some n) (hR : rmc.frames + 1 ≤ R.frames ∧ 8 + (maxL + 11) + rmc.locals ≤ R.locals)
    (a b : va_W) (hH : HH G A s w0 H locs) (hw : w0 = a ++ wsc ++ b) (hn : As.length = n) (hsz : ls.size = nL) (hrest : (rest.map fun v => v.category).sum ≤ 8) (hdg : decode cc pc = .ok (.invokespecial index, 3)) (hf : cells + rmc.cells ≤ R.cells ∧ slots + rmc.slots ≤ R.slots) (hst : st0 = As.reverse ++ .ref b0 :: rest)
    (kk : ∀ (u : Nat → Nat) (H1 : Heap) (locs1 : List Loc), HH G A s (a ++ wsc' u ++ b) H1 locs1 → W p l e R s m args below meth c H1 locs1 (cells + rmc.cells) (slots + rmc.slots) Q (F0 m (pc + 3) ls rest)) :
    W p l e R s m args below meth c H locs cells slots Q (F0 m pc ls st0) := by
  subst hw
  have hPc := midP hH.1
  have hDc := midD hH.2.1
  have hFc := freeM hH.2.1 hH.2.2 F.2.2.2.2.2
  have hE : EVh (va_A wsc H.size) s H := (F.2.2.2.2.1.kept hH.2.2.2.1).narrow hFc
  have hts := F.1.2.2.2.2
  refine va_callv (va_runI (As := As) (rest := rest) F.1 (hM H.size) (cwI n hts hg hwc rfl rfl (hts _ hini) (hts _ hli) (hts _ hinst) hy1 hd hR) ⟨BP.blind, fun U hU hW => ⟨rfl, by rw [hU], by rw [hU]; exact hPc, va_K.moved hW.alike F.2.2.1, hDc.weaken (fun _ _ _ _ => trivial), F.2.2.2.1.moved hW, by rw [hU]; exact hE.moved hW.alike⟩⟩ rfl hn hsz hst (lv_room hrest) hdg hf) hH.2.2 (fun q _ h => hFc q h) hFc (fun u t H1 locs1 ht hvm hw hB hz1 hk1 hS => ?_)
  obtain ⟨hP1, -, hD1⟩ := hB
  rw [ht] at hP1
  obtain ⟨j1, j2⟩ := joinM hH.1 hH.2.1 hk1 hFc hP1 hD1
  exact kk u H1 locs1 ⟨j1, j2, hS⟩
theorem callF9 {mc ms : Nat} {free AX : Nat → Prop} {px : Unit → Prop} {BX : String → Unit → State → Prop} (hr : vx_Run p l e R s m args below meth c H locs cells slots mc ms (F0 m pc ls st0) rest (fun _ _ _ => False) (vx_X px BX AX) free) (hS : va_S A s.heap H locs) (hf : ∀ q, free q → A q) (hAX : ∀ q, q < H.size → AX q → A q)
    (kx : ∀ (E : String) (ce : Cell) (q9 : Addr) (u : Unit) (t : State) (H1 : Heap) (locs1 : List Loc), t.heap = H1 → s.vm.Alike t.vm → px u → BX E u t → H.size ≤ H1.size → (∀ q : Nat, q < H.size → ¬ AX q → H1[q]? = H[q]?) → va_S A s.heap H1 locs1 → H1[q9]? = some ce → ce.vm = .none → s.vm.findClass E = some ce.cls → vx_W p l e R s m args below meth c H1 locs1 (cells + mc) (slots + ms) Q (F0 m pc ls rest) q9) : W p l e R s m args below meth c H locs cells slots Q (F0 m pc ls st0) := by
  intro T hT X
  rcases hr T hT X with ⟨v, st₀, t, T', L, h0, X', hL, e1, e2, hF, st⟩ | ⟨q, st₀, t, T', L, E, ce, h0, X', hL, e1, e2, ⟨u, hp, hb, hF⟩, hce, hcv, hcl, st⟩
  · exact hF.elim
  · obtain ⟨k1, k2, k3⟩ := vx_keep h0 e1 hS hAX hf hL hF
    obtain ⟨t2, a1, b1⟩ := kx E ce q u t T'.heap (locs ++ L) e1.symm (by rw [← e2]; exact X'.warmed.alike) hp hb k1 k2 k3 (by rw [e1]; exact hce) hcv hcl T' rfl X'
    exact ⟨t2, st.trans a1, b1⟩
theorem callVX (F : Fx G p s m args meth c cc nL Ts own A) (hM : MX l y Wc rmc (.ref b0 :: As) G wsc E) (hg : GoodIn Ts (wsV own index C y Wc)) (hwc : Wc = Cond.code y bytes maxL ret :: Wc') (hd : y.cls = C ∧ y.cls ≠ "java/lang/invoke/MethodHandle" ∧ y.cls ≠ "java/lang/invoke/VarHandle" ∧ (parseMethodDescriptor y.desc).map (fun d => d.parameters.length) = some n) (hR : rmc.frames + 1 ≤ R.frames ∧ 8 + (maxL + 11) + rmc.locals ≤ R.locals)
    (a b : va_W) (hH : HH G A s w0 H locs) (hw : w0 = a ++ wsc ++ b) (hrec : ∃ (i ci : Nat) (fs : List Value) (q : vw_C), wsc[i]? = some (b0, .inr (ci, fs)) ∧ vwCl[ci]? = some q ∧ q.1 = C) (hn : As.length = n) (hsz : ls.size = nL) (hrest : (rest.map fun v => v.category).sum ≤ 8) (hdg : decode cc pc = .ok (.invokevirtual index, 3)) (hf : cells + rmc.cells ≤ R.cells ∧ slots + rmc.slots ≤ R.slots) (hst : st0 = As.reverse ++ .ref b0 :: rest)
    (kx : ∀ (ce : Cell) (q9 : Addr) (H1 : Heap) (locs1 : List Loc), HH G A s w0 H1 locs1 → H1[q9]? = some ce → ce.vm = .none → s.vm.findClass E = some ce.cls → vx_W p l e R s m args below meth c H1 locs1 (cells + rmc.cells) (slots + rmc.slots) Q (F0 m pc ls rest) q9) :
    W p l e R s m args below meth c H locs cells slots Q (F0 m pc ls st0) := by
  subst hw
  have hPc := midP hH.1
  have hDc := midD hH.2.1
  have hFc := freeM hH.2.1 hH.2.2 F.2.2.2.2.2
  have hE : EVh (va_A wsc H.size) s H := (F.2.2.2.2.1.kept hH.2.2.2.1).narrow hFc
  obtain ⟨i, ci, fs, q, hr1, hr2, hr3⟩ := hrec
  subst hr3
  refine callF9 (vx_runV (As := As) (rest := rest) F.1 (hM H.size) (cwV n F.1.2.2.2.2 hg hwc rfl rfl hd hR) ⟨BP.blind, va_recv F.2.2.1 hPc hr2 hr1, fun U hU hW => ⟨rfl, by rw [hU], by rw [hU]; exact hPc, va_K.moved hW.alike F.2.2.1, hDc.weaken (fun _ _ _ _ => trivial), F.2.2.2.1.moved hW, by rw [hU]; exact hE.moved hW.alike⟩⟩ rfl hn hsz hst (lv_room hrest) hdg hf) hH.2.2 hFc (fun q _ h => hFc q h) (fun E' ce q9 u t H1 locs1 ht hvm hw hB hz1 hk1 hS h1 h2 h3 => ?_)
  obtain ⟨rfl, hP1, -, hD1⟩ := hB
  rw [ht] at hP1
  obtain ⟨j1, j2⟩ := joinM hH.1 hH.2.1 hk1 hFc hP1 hD1
  exact kx ce q9 H1 locs1 ⟨j1, j2, hS⟩ h1 h2 h3
theorem callSX (F : Fx G p s m args meth c cc nL Ts own A) (hM : MX l y Wc rmc As G wsc E) (hg : GoodIn Ts (va_wsS own index y Wc)) (hwc : Wc = Cond.code y bytes maxL ret :: Wc') (hd : y.cls = own ∧ y.cls ≠ "java/lang/invoke/MethodHandle" ∧ y.cls ≠ "java/lang/invoke/VarHandle" ∧ (parseMethodDescriptor y.desc).map (fun d => d.parameters.length) = some n) (hR : rmc.frames + 1 ≤ R.frames ∧ 8 + (maxL + 11) + rmc.locals ≤ R.locals)
    (a b : va_W) (hH : HH G A s w0 H locs) (hw : w0 = a ++ wsc ++ b) (hn : As.length = n) (hsz : ls.size = nL) (hrest : (rest.map fun v => v.category).sum ≤ 8) (hdg : decode cc pc = .ok (.invokestatic index, 3)) (hf : cells + rmc.cells ≤ R.cells ∧ slots + rmc.slots ≤ R.slots) (hst : st0 = As.reverse ++ rest)
    (kx : ∀ (ce : Cell) (q9 : Addr) (H1 : Heap) (locs1 : List Loc), HH G A s w0 H1 locs1 → H1[q9]? = some ce → ce.vm = .none → s.vm.findClass E = some ce.cls → vx_W p l e R s m args below meth c H1 locs1 (cells + rmc.cells) (slots + rmc.slots) Q (F0 m pc ls rest) q9) :
    W p l e R s m args below meth c H locs cells slots Q (F0 m pc ls st0) := by
  subst hw
  have hPc := midP hH.1
  have hDc := midD hH.2.1
  have hFc := freeM hH.2.1 hH.2.2 F.2.2.2.2.2
  have hE : EVh (va_A wsc H.size) s H := (F.2.2.2.2.1.kept hH.2.2.2.1).narrow hFc
  have hg' : GoodIn Ts (wsS own index y Wc) := by
    have h0 : wsS own index y Wc = va_wsS own index y Wc := by unfold wsS va_wsS; rw [hd.1]
    rw [h0]; exact hg
  refine callF9 (vx_runS (As := As) (rest := rest) F.1 (hM H.size) (cwS n F.1.2.2.2.2 hg' hwc rfl rfl hd hR) ⟨BP.blind, fun U hU hW => ⟨rfl, by rw [hU], by rw [hU]; exact hPc, va_K.moved hW.alike F.2.2.1, hDc.weaken (fun _ _ _ _ => trivial), F.2.2.2.1.moved hW, by rw [hU]; exact hE.moved hW.alike⟩⟩ rfl hn hsz hst (lv_room hrest) hdg hf) hH.2.2 hFc (fun q _ h => hFc q h) (fun E' ce q9 u t H1 locs1 ht hvm hw hB hz1 hk1 hS h1 h2 h3 => ?_)
  obtain ⟨rfl, hP1, -, hD1⟩ := hB
  rw [ht] at hP1
  obtain ⟨j1, j2⟩ := joinM hH.1 hH.2.1 hk1 hFc hP1 hD1
  exact kx ce q9 H1 locs1 ⟨j1, j2, hS⟩ h1 h2 h3
/-- what was thrown goes on -/
theorem outX (F : Fx G p s m args meth c cc nL Ts own A) (hout : ∀ x ∈ c.exceptionTable.toList, False) {ce : Cell} (hH : HH G A s ws H locs) (hcell : H[q]? = some ce) (hv : ce.vm = .none) (hcl : s.vm.findClass E = some ce.cls) (hc : cells ≤ rm.cells) (hs : slots ≤ rm.slots) :
    vx_W p l e R s m args below meth c H locs cells slots (EnX G A below s args rm ws E) (F0 m pc ls rest) q :=
  vx_out (fun x hx => (hout x hx).elim) F.2.1 hcell hv hcl (fun t ht hvm => ⟨(), trivial, ⟨rfl, by rw [ht]; exact hH.1, va_K.moved hvm F.2.2.1, hH.2.1⟩, hH.2.2.F ht⟩) hH.2.2.2.2 hc hs
end C9
section D9
variable {p : Program} {l : Launch} {e : Env} {R rm : Room} {s : State} {m : MethodId} {args : Array Value} {below : List Frame} {meth : Method} {c : Code} {H : Heap} {locs : List Loc} {cells slots : Nat} {Q : State → Prop}
variable {cc : ByteArray} {pc nL a : Nat} {ls : Array Slot} {rest st0 : List Value} {G : Gx} {Ts : List Cond} {own : String} {A : Nat → Prop} {ws w0 w1 : va_W}
theorem rget (F : Fx G p s m args meth c cc nL Ts own A) {ref C : String} {T : u_T} {N ci index : Nat} (hin : ∀ w ∈ u_ws C T N, w ∈ Ts) (hH : HH G A s w0 H locs) (q0 : Nat) {fs : List Value} (he : w0[q0]? = some (a, .inr (ci, fs))) (hc : vwCl[ci]? = some (C, T, N)) (k : Nat) (hk : k < N) (hlink : Cond.fieldLink own index ref (T k).2.1 (T k).2.2.1 ∈ Ts) (hsame : ∀ x, s.fieldFound? (T k).1 (T k).2.1 (T k).2.2.1 = some x → s.fieldFound? ref (T k).2.1 (T k).2.2.1 = some x) {v : Value} (hv : fs[k]? = some v) (hdg : decode cc pc = .ok (.getfield index, 3))
    (kk : W p l e R s m args below meth c H locs cells slots Q (F0 m (pc + 3) ls (v :: rest))) : W p l e R s m args below meth c H locs cells slots Q (F0 m pc ls (.ref a :: rest)) :=
  va_get F.1.1 F.1.2.1 F.1.2.2.2.2 hin F.1.2.2.2.1 F.2.2.1 hH.1 q0 he hc k hk (F.1.2.2.2.2 _ hlink) hsame hv hdg kk
theorem rgetN (F : Fx G p s m args meth c cc nL Ts own A) {ref C host : String} {T : u_T} {N ci index : Nat} (hin : ∀ w ∈ u_ws C T N, w ∈ Ts) (hH : HH G A s w0 H locs) (q0 : Nat) {fs : List Value} (he : w0[q0]? = some (a, .inr (ci, fs))) (hc : vwCl[ci]? = some (C, T, N)) (k : Nat) (hk : k < N) (hlink : Cond.fieldLinkNest own index ref (T k).2.1 (T k).2.2.1 host ∈ evL) (hsame : ∀ x, s.fieldFound? (T k).1 (T k).2.1 (T k).2.2.1 = some x → s.fieldFound? ref (T k).2.1 (T k).2.2.1 = some x) {v : Value} (hv : fs[k]? = some v) (hdg : decode cc pc = .ok (.getfield index, 3))
    (kk : W p l e R s m args below meth c H locs cells slots Q (F0 m (pc + 3) ls (v :: rest))) : W p l e R s m args below meth c H locs cells slots Q (F0 m pc ls (.ref a :: rest)) :=
  va_getN F.1.1 F.1.2.1 F.1.2.2.2.2 hin F.1.2.2.2.1 F.2.2.1 hH.1 q0 he hc k hk (va_Nw.use rfl (F.2.2.2.1.1 _ hlink)) hsame hv hdg kk
theorem rput (F : Fx G p s m args meth c cc nL Ts own A) {ref C : String} {T : u_T} {N ci index : Nat} (hin : ∀ w ∈ u_ws C T N, w ∈ Ts) (ty0 : Nat → FieldType) (hty : ∀ k, k < N → parseFieldDescriptor (T k).2.2.1 = some (ty0 k)) (hnm : ∀ a, a < N → ∀ b, b < N → a ≠ b → (T a).2.1 ≠ (T b).2.1) (hH : HH G A s w0 H locs) (q0 : Nat) {fs : List Value} (he : w0[q0]? = some (a, .inr (ci, fs))) (hc : vwCl[ci]? = some (C, T, N)) (k : Nat) (hk : k < N) (hlink : Cond.fieldLink own index ref (T k).2.1 (T k).2.2.1 ∈ Ts) (hsame : ∀ x, s.fieldFound? (T k).1 (T k).2.1 (T k).2.2.1 = some x → s.fieldFound? ref (T k).2.1 (T k).2.2.1 = some x) (hfin : (T k).2.2.2 = false) {v : Value} (hn : narrow (ty0 k) v = v) (hfit : fits (ty0 k) v = true) (hl : k < fs.length) (hdg : decode cc pc = .ok (.putfield index, 3))
    (kk : ∀ (H1 : Heap) (locs1 : List Loc), HH G A s (w0.set q0 (a, .inr (ci, fs.set k v))) H1 locs1 → W p l e R s m args below meth c H1 locs1 cells slots Q (F0 m (pc + 3) ls rest)) : W p l e R s m args below meth c H locs cells slots Q (F0 m pc ls (v :: .ref a :: rest)) :=
  va_put F.1.1 F.1.2.1 F.1.2.2.2.2 hin ty0 hty hnm F.1.2.2.2.1 F.2.2.1 hH.1 hH.2.1 hH.2.2 q0 he hc k hk (F.1.2.2.2.2 _ hlink) hsame hfin (hty k hk) hn hfit hl hdg (fun H1 locs1 h1 h2 h3 => kk H1 locs1 ⟨h1, h2, h3⟩)
theorem rputN (F : Fx G p s m args meth c cc nL Ts own A) {ref C host : String} {T : u_T} {N ci index : Nat} (hin : ∀ w ∈ u_ws C T N, w ∈ Ts) (ty0 : Nat → FieldType) (hty : ∀ k, k < N → parseFieldDescriptor (T k).2.2.1 = some (ty0 k)) (hnm : ∀ a, a < N → ∀ b, b < N → a ≠ b → (T a).2.1 ≠ (T b).2.1) (hH : HH G A s w0 H locs) (q0 : Nat) {fs : List Value} (he : w0[q0]? = some (a, .inr (ci, fs))) (hc : vwCl[ci]? = some (C, T, N)) (k : Nat) (hk : k < N) (hlink : Cond.fieldLinkNest own index ref (T k).2.1 (T k).2.2.1 host ∈ evL) (hsame : ∀ x, s.fieldFound? (T k).1 (T k).2.1 (T k).2.2.1 = some x → s.fieldFound? ref (T k).2.1 (T k).2.2.1 = some x) (hfin : (T k).2.2.2 = false) {v : Value} (hn : narrow (ty0 k) v = v) (hfit : fits (ty0 k) v = true) (hl : k < fs.length) (hdg : decode cc pc = .ok (.putfield index, 3))
    (kk : ∀ (H1 : Heap) (locs1 : List Loc), HH G A s (w0.set q0 (a, .inr (ci, fs.set k v))) H1 locs1 → W p l e R s m args below meth c H1 locs1 cells slots Q (F0 m (pc + 3) ls rest)) : W p l e R s m args below meth c H locs cells slots Q (F0 m pc ls (v :: .ref a :: rest)) :=
  va_putN F.1.1 F.1.2.1 F.1.2.2.2.2 hin ty0 hty hnm F.1.2.2.2.1 F.2.2.1 hH.1 hH.2.1 hH.2.2 q0 he hc k hk (va_Nw.use rfl (F.2.2.2.1.1 _ hlink)) hsame hfin (hty k hk) hn hfit hl hdg (fun H1 locs1 h1 h2 h3 => kk H1 locs1 ⟨h1, h2, h3⟩)
theorem rputF (F : Fx G p s m args meth c cc nL Ts own A) {ref C : String} {T : u_T} {N ci index : Nat} (hin : ∀ w ∈ u_ws C T N, w ∈ Ts) (ty0 : Nat → FieldType) (hty : ∀ k, k < N → parseFieldDescriptor (T k).2.2.1 = some (ty0 k)) (hnm : ∀ a, a < N → ∀ b, b < N → a ≠ b → (T a).2.1 ≠ (T b).2.1) (hH : HH G A s w0 H locs) (q0 : Nat) {fs : List Value} (he : w0[q0]? = some (a, .inr (ci, fs))) (hc : vwCl[ci]? = some (C, T, N)) (k : Nat) (hk : k < N) (hlink : Cond.fieldLink own index ref (T k).2.1 (T k).2.2.1 ∈ Ts) (hsame : ∀ x, s.fieldFound? (T k).1 (T k).2.1 (T k).2.2.1 = some x → s.fieldFound? ref (T k).2.1 (T k).2.2.1 = some x) (hfin : (T k).2.2.2 = true) (hnm9 : meth.name = "<init>") (hdecl : (T k).1 = own) {v : Value} (hn : narrow (ty0 k) v = v) (hfit : fits (ty0 k) v = true) (hl : k < fs.length) (hdg : decode cc pc = .ok (.putfield index, 3))
    (kk : ∀ (H1 : Heap) (locs1 : List Loc), HH G A s (w0.set q0 (a, .inr (ci, fs.set k v))) H1 locs1 → W p l e R s m args below meth c H1 locs1 cells slots Q (F0 m (pc + 3) ls rest)) : W p l e R s m args below meth c H locs cells slots Q (F0 m pc ls (v :: .ref a :: rest)) :=
  va_putF F.1.1 F.1.2.1 F.1.2.2.2.2 hin ty0 hty hnm F.1.2.2.2.1 F.2.2.1 hH.1 hH.2.1 hH.2.2 q0 he hc k hk (F.1.2.2.2.2 _ hlink) hsame hfin hnm9 hdecl (hty k hk) hn hfit hl hdg (fun H1 locs1 h1 h2 h3 => kk H1 locs1 ⟨h1, h2, h3⟩)
theorem riald (F : Fx G p s m args meth c cc nL Ts own A) (hH : HH G A s w0 H locs) (q0 : Nat) {n : Nat} {f : Nat → Int32} (he : w0[q0]? = some (a, .inl (G.2 0, n, .inl f))) (k : Nat) {i : Int32} (hi : i = nI k) (hk : k < n) (hn : n < 2 ^ 31) (hdg : decode cc pc = .ok (.iaload, 1))
    (kk : W p l e R s m args below meth c H locs cells slots Q (F0 m (pc + 1) ls (.int (f k) :: rest))) : W p l e R s m args below meth c H locs cells slots Q (F0 m pc ls (.int i :: .ref a :: rest)) := by
  subst hi
  refine va_iald F.1.1 F.1.2.1 F.2.2.1 hH.1 q0 0 he rfl (vp_in_nI hk hn) hdg ?_
  rw [nI_clamp (by omega)]; exact kk
theorem rzald (F : Fx G p s m args meth c cc nL Ts own A) (hH : HH G A s w0 H locs) (q0 : Nat) {n : Nat} {f : Nat → Int32} (he : w0[q0]? = some (a, .inl (G.2 1, n, .inl f))) (k : Nat) {i : Int32} (hi : i = nI k) (hk : k < n) (hn : n < 2 ^ 31) (hdg : decode cc pc = .ok (.baload, 1))
    (kk : W p l e R s m args below meth c H locs cells slots Q (F0 m (pc + 1) ls (.int (f k) :: rest))) : W p l e R s m args below meth c H locs cells slots Q (F0 m pc ls (.int i :: .ref a :: rest)) := by
  subst hi
  refine va_zald F.1.1 F.1.2.1 F.2.2.1 hH.1 q0 1 he rfl (vp_in_nI hk hn) hdg ?_
  rw [nI_clamp (by omega)]; exact kk
theorem riast (F : Fx G p s m args meth c cc nL Ts own A) (hH : HH G A s w0 H locs) (q0 : Nat) {n : Nat} {f : Nat → Int32} (he : w0[q0]? = some (a, .inl (G.2 0, n, .inl f))) (k : Nat) {i x : Int32} (hi : i = nI k) (hk : k < n) (hn : n < 2 ^ 31) (hdg : decode cc pc = .ok (.iastore, 1))
    (kk : ∀ (H1 : Heap) (locs1 : List Loc), HH G A s (w0.set q0 (a, .inl (G.2 0, n, .inl (upd f k x)))) H1 locs1 → W p l e R s m args below meth c H1 locs1 cells slots Q (F0 m (pc + 1) ls rest)) : W p l e R s m args below meth c H locs cells slots Q (F0 m pc ls (.int x :: .int i :: .ref a :: rest)) := by
  subst hi
  refine va_iast F.1.1 F.1.2.1 F.2.2.1 hH.1 hH.2.1 hH.2.2 q0 0 he rfl (vp_in_nI hk hn) hdg (fun H1 locs1 h1 h2 h3 => kk H1 locs1 ?_)
  rw [nI_clamp (by omega)] at h1 h2
  exact ⟨h1, h2, h3⟩
theorem rzast (F : Fx G p s m args meth c cc nL Ts own A) (hH : HH G A s w0 H locs) (q0 : Nat) {n : Nat} {f : Nat → Int32} (he : w0[q0]? = some (a, .inl (G.2 1, n, .inl f))) (k : Nat) {i x : Int32} (hi : i = nI k) (hk : k < n) (hn : n < 2 ^ 31) (hx : vp_nar .boolean x = x) (hdg : decode cc pc = .ok (.bastore, 1))
    (kk : ∀ (H1 : Heap) (locs1 : List Loc), HH G A s (w0.set q0 (a, .inl (G.2 1, n, .inl (upd f k x)))) H1 locs1 → W p l e R s m args below meth c H1 locs1 cells slots Q (F0 m (pc + 1) ls rest)) : W p l e R s m args below meth c H locs cells slots Q (F0 m pc ls (.int x :: .int i :: .ref a :: rest)) := by
  subst hi
  refine va_zast F.1.1 F.1.2.1 F.2.2.1 hH.1 hH.2.1 hH.2.2 q0 1 he rfl (vp_in_nI hk hn) hdg (fun H1 locs1 h1 h2 h3 => kk H1 locs1 ?_)
  rw [nI_clamp (by omega), hx] at h1 h2
  exact ⟨h1, h2, h3⟩
theorem raald (F : Fx G p s m args meth c cc nL Ts own A) (hH : HH G A s w0 H locs) (q0 t0 : Nat) {cA : ClassId} {C : String} {n : Nat} {f : Nat → Option Nat} (he : w0[q0]? = some (a, .inl (cA, n, .inr (.inr (.inr (.inr f)))))) (ht : (tyL G)[t0]? = some (cA, .object C)) (k : Nat) {i : Int32} (hi : i = nI k) (hk : k < n) (hn : n < 2 ^ 31) {v : Value} (hv : va_rf (f k) = v) (hdg : decode cc pc = .ok (.aaload, 1))
    (kk : W p l e R s m args below meth c H locs cells slots Q (F0 m (pc + 1) ls (v :: rest))) : W p l e R s m args below meth c H locs cells slots Q (F0 m pc ls (.int i :: .ref a :: rest)) := by
  subst hi
  subst hv
  refine va_aldq F.1.1 F.1.2.1 F.2.2.1 hH.1 q0 t0 he ht (vp_in_nI hk hn) hdg ?_
  rw [nI_clamp (by omega)]; exact kk
theorem raast (F : Fx G p s m args meth c cc nL Ts own A) (hH : HH G A s w0 H locs) (q0 t0 qk ci : Nat) {cA : ClassId} {r : vw_C} {n v : Nat} {vs : List Value} {f : Nat → Option Nat} (he : w0[q0]? = some (a, .inl (cA, n, .inr (.inr (.inr (.inr f)))))) (ht : (tyL G)[t0]? = some (cA, .object r.1)) (hv : w0[qk]? = some (v, .inr (ci, vs))) (hc : vwCl[ci]? = some r) (k : Nat) {i : Int32} (hi : i = nI k) (hk : k < n) (hn : n < 2 ^ 31) (hdg : decode cc pc = .ok (.aastore, 1))
    (kk : ∀ (H1 : Heap) (locs1 : List Loc), HH G A s (w0.set q0 (a, .inl (cA, n, .inr (.inr (.inr (.inr (va_up f k (some v)))))))) H1 locs1 → W p l e R s m args below meth c H1 locs1 cells slots Q (F0 m (pc + 1) ls rest)) : W p l e R s m args below meth c H locs cells slots Q (F0 m pc ls (.ref v :: .int i :: .ref a :: rest)) := by
  subst hi
  refine va_astq F.1.1 F.1.2.1 F.2.2.1 hH.1 hH.2.1 hH.2.2 q0 t0 qk ci he ht hv hc (vp_in_nI hk hn) hdg (fun H1 locs1 h1 h2 h3 => kk H1 locs1 ?_)
  rw [nI_clamp (by omega)] at h1 h2
  exact ⟨h1, h2, h3⟩
theorem ralen (F : Fx G p s m args meth c cc nL Ts own A) (hH : HH G A s w0 H locs) (q0 t0 : Nat) {cA : ClassId} {x : vp_A} (he : w0[q0]? = some (a, .inl (cA, x))) {ty : FieldType} (ht : (tyL G)[t0]? = some (cA, ty)) {v : Int32} (hv : Int32.ofNat x.1 = v) (hdg : decode cc pc = .ok (.arraylength, 1))
    (kk : W p l e R s m args below meth c H locs cells slots Q (F0 m (pc + 1) ls (.int v :: rest))) : W p l e R s m args below meth c H locs cells slots Q (F0 m pc ls (.ref a :: rest)) :=
  va_alen F.1.1 F.1.2.1 F.2.2.1 hH.1 q0 t0 he ht hv hdg kk
theorem tyL_uni {G : Gx} {U : State} {t0 : Nat} {ty : FieldType} {cA cB : ClassId} (hK : va_K G.1 vwCl (tyL G) U) (ht : (tyL G)[t0]? = some (cB, ty)) (h : va_RA U cA ty) : cA = cB := by
  have h1 := (hK.2 t0 _ ht).2
  cases ty with
  | object C =>
    obtain ⟨_, _, -, -, -, h2⟩ := h
    obtain ⟨_, _, -, -, -, h3⟩ := h1
    exact Option.some.inj (h2.symm.trans h3)
  | _ => exact Option.some.inj (Eq.trans (Eq.symm h) h1)
theorem rnewa (F : Fx G p s m args meth c cc nL Ts own A) {atype : ArrayType} (harr : Cond.arrayClass (newarray.typeOf atype) ∈ Ts) (t0 : Nat) {cB : ClassId} {ty : FieldType} (hty : newarray.typeOf atype = ty) (ht : (tyL G)[t0]? = some (cB, ty)) (hH : HH G A s w0 H locs) {n : Int32} {N' : Nat} {a0 : vp_A} (ha : ∀ cA : ClassId, vp_cell cA a0 = arrV cA N' (fun _ => defaultValue ty)) (hn : ¬ n < 0) (hN : n.toNatClampNeg = N') (hbytes : N' * componentBytes ty ≤ 536870912) (hcells : cells + 1 ≤ R.cells) (hslots : slots + N' ≤ R.slots) (hdg : decode cc pc = .ok (.newarray atype, 2))
    (kk : ∀ (q : Nat) (H1 : Heap), HH G A s (w0 ++ [(q, .inl (cB, a0))]) H1 locs → W p l e R s m args below meth c H1 locs (cells + 1) (slots + N') Q (F0 m (pc + 2) ls (.ref q :: rest))) : W p l e R s m args below meth c H locs cells slots Q (F0 m pc ls (.int n :: rest)) := by
  refine va_newa F.1.1 F.1.2.1 (F.1.2.2.2.2 _ harr) hty F.2.2.1 hH.1 hH.2.1 hH.2.2 F.2.2.2.2.2 ha hn hN hbytes hcells hslots hdg (fun q cA H1 hK hP hD hS => ?_)
  have hx : (tyL G ++ [(cA, ty)])[(tyL G).length]? = some (cA, ty) := by rw [List.getElem?_append_right (Nat.le_refl _), Nat.sub_self]; rfl
  have he := tyL_uni F.2.2.1 ht (hK.2 _ _ hx).2
  subst he
  exact kk q H1 ⟨hP, hD, hS⟩
theorem rnewq (F : Fx G p s m args meth c cc nL Ts own A) {C : String} {index : Nat} (hcl : Cond.classLink own index C ∈ Ts) (hover : va_AO C s) (t0 : Nat) {cB : ClassId} (ht : (tyL G)[t0]? = some (cB, .object C)) (hH : HH G A s w0 H locs) {n : Int32} {N' : Nat} (hn : ¬ n < 0) (hN : n.toNatClampNeg = N') (hbytes : N' * 4 ≤ 536870912) (hcells : cells + 1 ≤ R.cells) (hslots : slots + N' ≤ R.slots) (hdg : decode cc pc = .ok (.anewarray index, 3))
    (kk : ∀ (q : Nat) (H1 : Heap), HH G A s (w0 ++ [(q, .inl (cB, N', .inr (.inr (.inr (.inr (fun _ => none))))))]) H1 locs → W p l e R s m args below meth c H1 locs (cells + 1) (slots + N') Q (F0 m (pc + 3) ls (.ref q :: rest))) : W p l e R s m args below meth c H locs cells slots Q (F0 m pc ls (.int n :: rest)) := by
  refine va_newq F.1.1 F.1.2.1 F.1.2.2.2.1 (F.1.2.2.2.2 _ hcl) hover F.2.2.1 hH.1 hH.2.1 hH.2.2 F.2.2.2.2.2 hn hN hbytes hcells hslots hdg (fun q cA H1 hK hP hD hS => ?_)
  have hx : (tyL G ++ [(cA, .object C)])[(tyL G).length]? = some (cA, .object C) := by rw [List.getElem?_append_right (Nat.le_refl _), Nat.sub_self]; rfl
  have he := tyL_uni F.2.2.1 ht (hK.2 _ _ hx).2
  subst he
  exact kk q H1 ⟨hP, hD, hS⟩
theorem rnew (F : Fx G p s m args meth c cc nL Ts own A) {C : String} {T : u_T} {N ci index : Nat} (hin : ∀ w ∈ u_ws C T N, w ∈ Ts) (ty : Nat → FieldType) (hty : ∀ k, k < N → parseFieldDescriptor (T k).2.2.1 = some (ty k)) (hcl : Cond.classLink own index C ∈ Ts) (hinst : Cond.instantiable C N ∈ Ts) (hini : Cond.initialized C ∈ Ts) (hH : HH G A s w0 H locs) (hc : vwCl[ci]? = some (C, T, N)) {fs : List Value} (hfs : ∀ j, j < N → defaultValue (ty j) = vp_V fs j) (hcells : cells + 1 ≤ R.cells) (hslots : slots + N ≤ R.slots) (hdg : decode cc pc = .ok (.new index, 3))
    (kk : ∀ (q : Nat) (H1 : Heap), HH G A s (w0 ++ [(q, .inr (ci, fs))]) H1 locs → W p l e R s m args below meth c H1 locs (cells + 1) (slots + N) Q (F0 m (pc + 3) ls (.ref q :: rest))) : W p l e R s m args below meth c H locs cells slots Q (F0 m pc ls rest) :=
  va_new F.1.1 F.1.2.1 F.1.2.2.2.2 hin ty hty F.1.2.2.2.1 (F.1.2.2.2.2 _ hcl) (F.1.2.2.2.2 _ hinst) (F.1.2.2.2.2 _ hini) F.2.2.1 hH.1 hH.2.1 hH.2.2 F.2.2.2.2.2 hc hfs hcells hslots hdg (fun q H1 h1 h2 h3 => kk q H1 ⟨h1, h2, h3⟩)
end D9
section C0
variable {p : Program} {l : Launch} {e : Env} {R rm : Room} {s : State} {m : MethodId} {args : Array Value} {below : List Frame} {meth : Method} {c : Code} {H : Heap} {locs : List Loc} {cells slots : Nat} {Q : State → Prop}
variable {cc : ByteArray} {pc nL : Nat} {ls : Array Slot} {rest st0 : List Value} {G : Gx} {Ts : List Cond} {own : String} {A : Nat → Prop} {w0 : va_W} {E : String}
variable {y : MethodName} {bytes : ByteArray} {maxL n index : Nat} {ret : Option FieldType} {Wc Wc' : List Cond} {rmc : Room} {b0 : Nat} {As : List Value} {wsc' : (Nat → Nat) → va_W} {ans : Int32} {C : String} {r : Nat}
theorem callVI0 (F : Fx G p s m args meth c cc nL Ts own A) (hM : MI l y Wc rmc (.ref b0 :: As) G w0 wsc' ans) (hg : GoodIn Ts (wsV own index C y Wc)) (hwc : Wc = Cond.code y bytes maxL ret :: Wc') (hd : y.cls = C ∧ y.cls ≠ "java/lang/invoke/MethodHandle" ∧ y.cls ≠ "java/lang/invoke/VarHandle" ∧ (parseMethodDescriptor y.desc).map (fun d => d.parameters.length) = some n) (hR : rmc.frames + 1 ≤ R.frames ∧ 8 + (maxL + 11) + rmc.locals ≤ R.locals)
    (hH : HH G A s w0 H locs) (hrec : ∃ (i ci : Nat) (fs : List Value) (q : vw_C), w0[i]? = some (b0, .inr (ci, fs)) ∧ vwCl[ci]? = some q ∧ q.1 = C) (hn : As.length = n) (hsz : ls.size = nL) (hrest : (rest.map fun v => v.category).sum ≤ 8) (hdg : decode cc pc = .ok (.invokevirtual index, 3)) (hf : cells + rmc.cells ≤ R.cells ∧ slots + rmc.slots ≤ R.slots) (hst : st0 = As.reverse ++ .ref b0 :: rest)
    (kk : ∀ (u : Nat → Nat) (H1 : Heap) (locs1 : List Loc), HH G A s (wsc' u) H1 locs1 → W p l e R s m args below meth c H1 locs1 (cells + rmc.cells) (slots + rmc.slots) Q (F0 m (pc + 3) ls (.int ans :: rest))) :
    W p l e R s m args below meth c H locs cells slots Q (F0 m pc ls st0) :=
  callVI F hM hg hwc hd hR [] [] hH (by simp) hrec hn hsz hrest hdg hf hst (fun u H1 locs1 h => kk u H1 locs1 (by rw [List.nil_append, List.append_nil] at h; exact h))
theorem callVV0 (F : Fx G p s m args meth c cc nL Ts own A) (hM : MV l y Wc rmc (.ref b0 :: As) G w0 wsc') (hg : GoodIn Ts (wsV own index C y Wc)) (hwc : Wc = Cond.code y bytes maxL ret :: Wc') (hd : y.cls = C ∧ y.cls ≠ "java/lang/invoke/MethodHandle" ∧ y.cls ≠ "java/lang/invoke/VarHandle" ∧ (parseMethodDescriptor y.desc).map (fun d => d.parameters.length) = some n) (hR : rmc.frames + 1 ≤ R.frames ∧ 8 + (maxL + 11) + rmc.locals ≤ R.locals)
    (hH : HH G A s w0 H locs) (hrec : ∃ (i ci : Nat) (fs : List Value) (q : vw_C), w0[i]? = some (b0, .inr (ci, fs)) ∧ vwCl[ci]? = some q ∧ q.1 = C) (hn : As.length = n) (hsz : ls.size = nL) (hrest : (rest.map fun v => v.category).sum ≤ 8) (hdg : decode cc pc = .ok (.invokevirtual index, 3)) (hf : cells + rmc.cells ≤ R.cells ∧ slots + rmc.slots ≤ R.slots) (hst : st0 = As.reverse ++ .ref b0 :: rest)
    (kk : ∀ (u : Nat → Nat) (H1 : Heap) (locs1 : List Loc), HH G A s (wsc' u) H1 locs1 → W p l e R s m args below meth c H1 locs1 (cells + rmc.cells) (slots + rmc.slots) Q (F0 m (pc + 3) ls rest)) :
    W p l e R s m args below meth c H locs cells slots Q (F0 m pc ls st0) :=
  callVV F hM hg hwc hd hR [] [] hH (by simp) hrec hn hsz hrest hdg hf hst (fun u H1 locs1 h => kk u H1 locs1 (by rw [List.nil_append, List.append_nil] at h; exact h))
theorem callVR0 (F : Fx G p s m args meth c cc nL Ts own A) (hM : MR l y Wc rmc (.ref b0 :: As) G w0 r) (hg : GoodIn Ts (wsV own index C y Wc)) (hwc : Wc = Cond.code y bytes maxL ret :: Wc') (hd : y.cls = C ∧ y.cls ≠ "java/lang/invoke/MethodHandle" ∧ y.cls ≠ "java/lang/invoke/VarHandle" ∧ (parseMethodDescriptor y.desc).map (fun d => d.parameters.length) = some n) (hR : rmc.frames + 1 ≤ R.frames ∧ 8 + (maxL + 11) + rmc.locals ≤ R.locals)
    (hH : HH G A s w0 H locs) (hrec : ∃ (i ci : Nat) (fs : List Value) (q : vw_C), w0[i]? = some (b0, .inr (ci, fs)) ∧ vwCl[ci]? = some q ∧ q.1 = C) (hn : As.length = n) (hsz : ls.size = nL) (hrest : (rest.map fun v => v.category).sum ≤ 8) (hdg : decode cc pc = .ok (.invokevirtual index, 3)) (hf : cells + rmc.cells ≤ R.cells ∧ slots + rmc.slots ≤ R.slots) (hst : st0 = As.reverse ++ .ref b0 :: rest)
    (kk : ∀ (H1 : Heap) (locs1 : List Loc), HH G A s w0 H1 locs1 → W p l e R s m args below meth c H1 locs1 (cells + rmc.cells) (slots + rmc.slots) Q (F0 m (pc + 3) ls (.ref r :: rest))) :
    W p l e R s m args below meth c H locs cells slots Q (F0 m pc ls st0) :=
  callVR F hM hg hwc hd hR [] [] hH (by simp) hrec hn hsz hrest hdg hf hst kk
theorem callVX0 (F : Fx G p s m args meth c cc nL Ts own A) (hM : MX l y Wc rmc (.ref b0 :: As) G w0 E) (hg : GoodIn Ts (wsV own index C y Wc)) (hwc : Wc = Cond.code y bytes maxL ret :: Wc') (hd : y.cls = C ∧ y.cls ≠ "java/lang/invoke/MethodHandle" ∧ y.cls ≠ "java/lang/invoke/VarHandle" ∧ (parseMethodDescriptor y.desc).map (fun d => d.parameters.length) = some n) (hR : rmc.frames + 1 ≤ R.frames ∧ 8 + (maxL + 11) + rmc.locals ≤ R.locals)
    (hH : HH G A s w0 H locs) (hrec : ∃ (i ci : Nat) (fs : List Value) (q : vw_C), w0[i]? = some (b0, .inr (ci, fs)) ∧ vwCl[ci]? = some q ∧ q.1 = C) (hn : As.length = n) (hsz : ls.size = nL) (hrest : (rest.map fun v => v.category).sum ≤ 8) (hdg : decode cc pc = .ok (.invokevirtual index, 3)) (hf : cells + rmc.cells ≤ R.cells ∧ slots + rmc.slots ≤ R.slots) (hst : st0 = As.reverse ++ .ref b0 :: rest)
    (hout : ∀ x ∈ c.exceptionTable.toList, False) (hc : cells + rmc.cells ≤ rm.cells) (hs : slots + rmc.slots ≤ rm.slots) :
    W p l e R s m args below meth c H locs cells slots (EnX G A below s args rm w0 E) (F0 m pc ls st0) :=
  callVX F hM hg hwc hd hR [] [] hH (by simp) hrec hn hsz hrest hdg hf hst (fun ce q9 H1 locs1 h h1 h2 h3 => outX F hout h h1 h2 h3 hc hs)
theorem callSI0 (F : Fx G p s m args meth c cc nL Ts own A) (hM : MI l y Wc rmc As G w0 wsc' ans) (hg : GoodIn Ts (va_wsS own index y Wc)) (hwc : Wc = Cond.code y bytes maxL ret :: Wc') (hd : y.cls = own ∧ y.cls ≠ "java/lang/invoke/MethodHandle" ∧ y.cls ≠ "java/lang/invoke/VarHandle" ∧ (parseMethodDescriptor y.desc).map (fun d => d.parameters.length) = some n) (hR : rmc.frames + 1 ≤ R.frames ∧ 8 + (maxL + 11) + rmc.locals ≤ R.locals)
    (hH : HH G A s w0 H locs) (hn : As.length = n) (hsz : ls.size = nL) (hrest : (rest.map fun v => v.category).sum ≤ 8) (hdg : decode cc pc = .ok (.invokestatic index, 3)) (hf : cells + rmc.cells ≤ R.cells ∧ slots + rmc.slots ≤ R.slots) (hst : st0 = As.reverse ++ rest)
    (kk : ∀ (u : Nat → Nat) (H1 : Heap) (locs1 : List Loc), HH G A s (wsc' u) H1 locs1 → W p l e R s m args below meth c H1 locs1 (cells + rmc.cells) (slots + rmc.slots) Q (F0 m (pc + 3) ls (.int ans :: rest))) :
    W p l e R s m args below meth c H locs cells slots Q (F0 m pc ls st0) :=
  callSI F hM hg hwc hd hR [] [] hH (by simp) hn hsz hrest hdg hf hst (fun u H1 locs1 h => kk u H1 locs1 (by rw [List.nil_append, List.append_nil] at h; exact h))
theorem callSV0 (F : Fx G p s m args meth c cc nL Ts own A) (hM : MV l y Wc rmc As G w0 wsc') (hg : GoodIn Ts (va_wsS own index y Wc)) (hwc : Wc = Cond.code y bytes maxL ret :: Wc') (hd : y.cls = own ∧ y.cls ≠ "java/lang/invoke/MethodHandle" ∧ y.cls ≠ "java/lang/invoke/VarHandle" ∧ (parseMethodDescriptor y.desc).map (fun d => d.parameters.length) = some n) (hR : rmc.frames + 1 ≤ R.frames ∧ 8 + (maxL + 11) + rmc.locals ≤ R.locals)
    (hH : HH G A s w0 H locs) (hn : As.length = n) (hsz : ls.size = nL) (hrest : (rest.map fun v => v.category).sum ≤ 8) (hdg : decode cc pc = .ok (.invokestatic index, 3)) (hf : cells + rmc.cells ≤ R.cells ∧ slots + rmc.slots ≤ R.slots) (hst : st0 = As.reverse ++ rest)
    (kk : ∀ (u : Nat → Nat) (H1 : Heap) (locs1 : List Loc), HH G A s (wsc' u) H1 locs1 → W p l e R s m args below meth c H1 locs1 (cells + rmc.cells) (slots + rmc.slots) Q (F0 m (pc + 3) ls rest)) :
    W p l e R s m args below meth c H locs cells slots Q (F0 m pc ls st0) :=
  callSV F hM hg hwc hd hR [] [] hH (by simp) hn hsz hrest hdg hf hst (fun u H1 locs1 h => kk u H1 locs1 (by rw [List.nil_append, List.append_nil] at h; exact h))
theorem callSX0 (F : Fx G p s m args meth c cc nL Ts own A) (hM : MX l y Wc rmc As G w0 E) (hg : GoodIn Ts (va_wsS own index y Wc)) (hwc : Wc = Cond.code y bytes maxL ret :: Wc') (hd : y.cls = own ∧ y.cls ≠ "java/lang/invoke/MethodHandle" ∧ y.cls ≠ "java/lang/invoke/VarHandle" ∧ (parseMethodDescriptor y.desc).map (fun d => d.parameters.length) = some n) (hR : rmc.frames + 1 ≤ R.frames ∧ 8 + (maxL + 11) + rmc.locals ≤ R.locals)
    (hH : HH G A s w0 H locs) (hn : As.length = n) (hsz : ls.size = nL) (hrest : (rest.map fun v => v.category).sum ≤ 8) (hdg : decode cc pc = .ok (.invokestatic index, 3)) (hf : cells + rmc.cells ≤ R.cells ∧ slots + rmc.slots ≤ R.slots) (hst : st0 = As.reverse ++ rest)
    (hout : ∀ x ∈ c.exceptionTable.toList, False) (hc : cells + rmc.cells ≤ rm.cells) (hs : slots + rmc.slots ≤ rm.slots) :
    W p l e R s m args below meth c H locs cells slots (EnX G A below s args rm w0 E) (F0 m pc ls st0) :=
  callSX F hM hg hwc hd hR [] [] hH (by simp) hn hsz hrest hdg hf hst (fun ce q9 H1 locs1 h h1 h2 h3 => outX F hout h h1 h2 h3 hc hs)
end C0

