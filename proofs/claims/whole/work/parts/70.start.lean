theorem hdX2_init : yX2_init.cls ≠ "java/lang/invoke/MethodHandle" ∧ yX2_init.cls ≠ "java/lang/invoke/VarHandle" ∧ (parseMethodDescriptor yX2_init.desc).map (fun d => d.parameters.length) = some 0 := by decide +kernel
theorem hdX3_init : yX3_init.cls ≠ "java/lang/invoke/MethodHandle" ∧ yX3_init.cls ≠ "java/lang/invoke/VarHandle" ∧ (parseMethodDescriptor yX3_init.desc).map (fun d => d.parameters.length) = some 0 := by decide +kernel
/-! the law's entry -/
theorem evL_in : ∀ w ∈ evL, w ∈ lw_tbl := by decide +kernel
theorem exW_in : ∀ w ∈ exW, w ∈ lw_tbl := by decide +kernel
theorem ncL_in : ∀ z ∈ ncL, Cond.not (.castable z.1 z.2) ∈ flatC (Jvm.Cond.and given_1 narrow_1) := by decide +kernel
theorem law_ty {U : State} {args : Array Value} {type : FieldType} (h : (Cond.arrayClass type).before args U = true) (hr : ∀ cA, U.vm.findClass ("[" ++ type.toString) = some cA → va_RA U cA type) : ∃ cA, ArrOfT U cA type ∧ va_RA U cA type := by
  obtain ⟨cA, kA, comp, h1, h2, h3⟩ := Cond.arrayClass_spec (type := type) h
  exact ⟨cA, fun n z => ⟨fun k h => (by cases h), kA, h2, comp, h3⟩, hr cA h1⟩
theorem law_tyO {U : State} {args : Array Value} {n : String} (h : (Cond.arrayOver (.object n)).before args U = true) : ∃ cA, ArrOfT U cA (.object n) ∧ va_RA U cA (.object n) := by
  obtain ⟨comp, cA, kA, h1, -, h2, h3, h4⟩ := Cond.arrayOver_spec (n := n) h
  exact ⟨cA, fun n z => ⟨fun k h => (by cases h), kA, h2, comp, h3⟩, kA, comp, h2, h3, h1, h4⟩
theorem law_F {p : Program} {s : State} {m : MethodId} {meth : Method} {c : Code} {b L : Nat} {xs : Nat → Int32} (C0 : lw_At p s m meth c b L xs) : ∃ G : Gx, Fx G p s m #[.ref b] meth c cL_law 7 wsL_law RL (fun z => s.heap.size ≤ z) := by
  obtain ⟨hx, hb, hr, hml, hown, hts, hX, hbl, hlocks, hgv⟩ := id C0
  have hfl := flat_of_before _ hgv
  obtain ⟨c0, i0, k0⟩ := u_known (C := RX0) (T := TX0) (N := 4) (n := 4) hts inX0 (hts (.instantiable RX0 4) (by decide +kernel))
  obtain ⟨c1, i1, k1⟩ := u_known (C := RX1) (T := TX1) (N := 12) (n := 12) hts inX1 (hts (.instantiable RX1 12) (by decide +kernel))
  obtain ⟨c2, i2, k2⟩ := u_known (C := RX2) (T := TX2) (N := 8) (n := 8) hts inX2 (hts (.instantiable RX2 8) (by decide +kernel))
  obtain ⟨c3, i3, k3⟩ := u_known (C := RX3) (T := TX3) (N := 25) (n := 25) hts inX3 (hts (.instantiable RX3 25) (by decide +kernel))
  obtain ⟨a0, e0⟩ := law_ty (type := .int) (hts (.arrayClass .int) (by decide +kernel)) (fun _ h => h)
  obtain ⟨a1, e1⟩ := law_ty (type := .boolean) (hts (.arrayClass .boolean) (by decide +kernel)) (fun _ h => h)
  obtain ⟨a2, e2⟩ := law_tyO (n := RX1) (hts (.arrayOver (.object RX1)) (by decide +kernel))
  obtain ⟨a3, e3⟩ := law_tyO (n := RX0) (hts (.arrayOver (.object RX0)) (by decide +kernel))
  obtain ⟨a4, e4⟩ := law_ty (type := .long) (hts (.arrayClass .long) (by decide +kernel)) (fun _ h => h)
  refine ⟨((fun k => if k = 0 then c0 else if k = 1 then c1 else if k = 2 then c2 else c3, fun k => if k = 0 then i0 else if k = 1 then i1 else if k = 2 then i2 else i3), fun k => if k = 0 then a0 else if k = 1 then a1 else if k = 2 then a2 else if k = 3 then a3 else a4), ⟨hx, hb, hml, hown, fun w hw => hts w (wsL_law_in w hw)⟩, hlocks, ⟨?_, ?_⟩, ⟨?_, ?_, ?_, ?_, ?_⟩, ⟨?_, ?_⟩, fun _ h => h⟩
  · intro k q hq
    match k, hq with
    | 0, hq => cases hq; exact k0
    | 1, hq => cases hq; exact k1
    | 2, hq => cases hq; exact k2
    | 3, hq => cases hq; exact k3
    | k + 4, hq => simp [vwCl] at hq
  · intro k q hq
    match k, hq with
    | 0, hq => cases hq; exact e0
    | 1, hq => cases hq; exact e1
    | 2, hq => cases hq; exact e2
    | 3, hq => cases hq; exact e3
    | 4, hq => cases hq; exact e4
    | k + 5, hq => simp [tyL] at hq
  · exact fun w hw => va_Nw.of (evL_ot w hw) (hts w (evL_in w hw))
  · exact va_AO.of (hts (.arrayOver (.object RX1)) (by decide +kernel))
  · exact va_AO.of (hts (.arrayOver (.object RX0)) (by decide +kernel))
  · exact fun w hw => va_tabs (exW_ok w hw).2 rfl (hts w (exW_in w hw))
  · exact fun z hz => va_Nc.of (hfl _ (ncL_in z hz))
  · exact vx_Zqof (hts (.laysStatic Bundle.tN "UNASSIGNED_STACK" Bundle.steD) (by decide +kernel)) (hts (.initialized Bundle.tN) (by decide +kernel)) (hfl (.isRef (.static Bundle.tN "UNASSIGNED_STACK" Bundle.steD)) (by decide +kernel)) (fun _ h => Nat.not_le.mpr h)
  · exact vx_Zqof (hts (.laysStatic Bundle.tN "SUPPRESSED_SENTINEL" Bundle.listD) (by decide +kernel)) (hts (.initialized Bundle.tN) (by decide +kernel)) (hfl (.isRef (.static Bundle.tN "SUPPRESSED_SENTINEL" Bundle.listD)) (by decide +kernel)) (fun _ h => Nat.not_le.mpr h)
theorem HH.swap {G : Gx} {A : Nat → Prop} {s : State} {a b c : va_W} {H : Heap} {locs : List Loc} (h : HH G A s (a ++ b ++ c) H locs) : HH G A s (a ++ c ++ b) H locs := by
  obtain ⟨hP, hD, hS⟩ := h
  refine ⟨va_P_mem.mpr fun x hx => va_P_mem.mp hP x ?_, ?_, hS⟩
  · simp only [List.mem_append] at hx ⊢
    rcases hx with (h | h) | h
    · exact Or.inl (Or.inl h)
    · exact Or.inr h
    · exact Or.inl (Or.inr h)
  · have hab := lefD hD
    refine va_D.app (va_D.app (lefD hab) (rigD hD) ?_) (rigD hab) ?_
    · intro i j x y hx hy
      exact disD hD (List.mem_append_left _ (List.mem_of_getElem? hx)) (List.mem_of_getElem? hy)
    · intro i j x y hx hy
      rcases List.mem_append.mp (List.mem_of_getElem? hx) with h | h
      · exact disD hab h (List.mem_of_getElem? hy)
      · exact fun e => disD hD (List.mem_append_right _ (List.mem_of_getElem? hy)) h e.symm
theorem Rel0 : Rel 0 0 0 50 0 (fun _ => 0) (fun _ _ => 0) (fun _ _ _ => 0) (fun _ _ => 0) (va_up (fun _ => 0) 17 50) (va_up (fun _ _ => 0) 21 (fillR (fun _ => 0) 0 1608 (-1))) :=
  ⟨⟨by omega, by omega, by omega, rfl, rfl, rfl, rfl, rfl, 50, by omega, rfl⟩, fun _ _ => rfl, fun i hi => absurd hi (Nat.not_lt_zero i), fun i _ hi => ⟨rfl, rfl, rfl, fun j hj => ⟨rfl, rfl, rfl, fillR_in (g := fun _ => 0) (Nat.zero_le _) (by omega), rfl⟩, fun _ _ => rfl⟩, fun c hc => absurd hc (Nat.not_lt_zero c), fun _ _ _ _ _ => rfl⟩
set_option maxHeartbeats 4000000 in
theorem law_loop {p : Program} {l : Launch} {e : Env} {s : State} {m : MethodId} {below : List Frame} {meth : Method} {c : Code} {b L : Nat} {xs : Nat → Int32} (hst : l.stackTraces = false) (G : Gx) (F : Fx G p s m #[.ref b] meth c cL_law 7 wsL_law RL (fun z => s.heap.size ≤ z)) (hr : meth.sig.returnType = ret) (hL : L ≤ 2560) (hX : va_X b L xs s s.heap) (hbl : b < s.heap.size) (q mq : Nat → Nat) (o : Nat) : ∀ (k it : Nat), it + k = 513 → 5 * it ≤ L → ∀ (g : Nat → Int64) (w : va_W) (f : Nat → Int32) (a : Nat → Nat → Int32), SR G q w f a → ∀ (H : Heap) (locs : List Loc) (ls : Array Slot), HH G (fun z => s.heap.size ≤ z) s (w ++ outC G o g ++ mW G mq f a) H locs → lv_has ls 7 [(4, .int (nI (5 * it))), (0, .ref b), (1, .ref (q 0)), (2, .ref (mq 0)), (3, .ref o)] →
    W p l e room_1 s m #[.ref b] below meth c H locs (100 + 8 * it) (20000 + 1300 * it) (lw_Z below #[Value.ref b] s) (F0 m 23 ls [])
  | 0, it, hk0, hiL, _, _, _, _, _, _, _, _, _, _ => absurd hiL (by omega)
  | k + 1, it, hk0, hiL, g, w, f, a, hS, H, locs, ls, hH, hl => by
    have hx := F.1.1
    have hb := F.1.2.1
    have hbA : ¬ (fun z : Nat => s.heap.size ≤ z) b := Nat.not_le.mpr hbl
    refine lv_iload hx hb dL_law_23 (lv_at hl 0 rfl) ?_
    refine lv_aload_n hx hb dL_law_25 rfl (lv_at hl 1 rfl) ?_
    refine va_slen hx hb hX hbl hbA hH.2.2 dL_law_26 ?_
    refine lv_iconst (v := 5) hx hb dL_law_27 (by decide) ?_
    refine lv_isub hx hb dL_law_28 ?_
    have e5 : (Int32.ofNat L - 5).toInt = (L : Int) - 5 := pk_sub_toInt (a := L) (b := 5) (by omega) (by decide)
    have e6 : (nI (5 * it)).toInt = ((5 * it : Nat) : Int) := nI_toInt (by omega)
    refine lv_icmp_gt (tgt := 1232) hx hb dL_law_29 (by decide) (fun hc => ?_) (fun hc => ?_)
    · refine lv_iconst (v := 1) hx hb dL_law_1232 (by decide) ?_
      refine va_forget (fun z hz => hH.2.2.2.2 z hz) ?_
      refine W.widen (k := 601024) (n := 7293034) (by omega) (by omega) ?_
      exact lw_ret hx hb hr F.2.1 dL_law_1233
    · have hi5 : 5 * it + 5 ≤ L := by
        rw [Int32.lt_iff_toInt_lt, e5, e6] at hc
        omega
      have hk : ∀ (g2 : Nat → Int64) (w2 : va_W) (f2 : Nat → Int32) (a2 : Nat → Nat → Int32), SR G q w2 f2 a2 → ∀ (H : Heap) (locs : List Loc) (ls : Array Slot), HH G (fun z => s.heap.size ≤ z) s (w2 ++ outC G o g2 ++ mW G mq f2 a2) H locs → lv_has ls 7 [(4, .int (nI (5 * it))), (0, .ref b), (1, .ref (q 0)), (2, .ref (mq 0)), (3, .ref o)] → W p l e room_1 s m #[.ref b] below meth c H locs (100 + 8 * it + 8) (20000 + 1300 * it + 1300) (lw_Z below #[Value.ref b] s) (F0 m 1226 ls []) := by
        intro g2 w2 f2 a2 hS2 H locs ls hH hl
        refine lv_iinc (v := nI (5 * (it + 1))) (lv' := [(4, .int (nI (5 * (it + 1)))), (0, .ref b), (1, .ref (q 0)), (2, .ref (mq 0)), (3, .ref o)]) hx hb dL_law_1226 hl (k := 0) rfl (nI_add (5 * it) 5) (by decide) rfl (fun ls hl => ?_)
        refine lv_goto (tgt := 23) hx hb dL_law_1229 (by decide) ?_
        refine W.widen (k := 100 + 8 * (it + 1)) (n := 20000 + 1300 * (it + 1)) (by omega) (by omega) ?_
        exact law_loop hst G F hr hL hX hbl q mq o k (it + 1) (by omega) (by omega) g2 w2 f2 a2 hS2 H locs ls hH hl
      refine lv_aload_n hx hb dL_law_32 rfl (lv_at hl 1 rfl) ?_
      refine lv_iload hx hb dL_law_33 (lv_at hl 0 rfl) ?_
      refine rsld F hH hX hbl hbA (by omega) (5 * it) rfl (by omega) dL_law_35 ?_
      refine lv_bipush (v := 31) hx hb dL_law_36 (by decide) ?_
      refine lv_iand hx hb dL_law_38 ?_
      obtain ⟨j, hj, ej⟩ := pk_andE (xs (5 * it)) (m := 31) 5 (by decide)
      rw [ej]
      have hc9 : 100 + 8 * it + 8 ≤ 601024 := by omega
      have hs9 : 20000 + 1300 * it + 1300 ≤ 7293034 := by omega
      by_cases hj19 : j < 19
      · rcases (show j = 0 ∨ j = 1 ∨ j = 2 ∨ j = 3 ∨ j = 4 ∨ j = 5 ∨ j = 6 ∨ j = 7 ∨ j = 8 ∨ j = 9 ∨ j = 10 ∨ j = 11 ∨ j = 12 ∨ j = 13 ∨ j = 14 ∨ j = 15 ∨ j = 16 ∨ j = 17 ∨ j = 18 by omega) with rfl | rfl | rfl | rfl | rfl | rfl | rfl | rfl | rfl | rfl | rfl | rfl | rfl | rfl | rfl | rfl | rfl | rfl | rfl
        · refine lv_tableIn (off := 89) (tgt := 128) hx hb dL_law_39 (by decide) (by decide) (by decide) (by decide) ?_
          exact law_c0 hst G F hbA hL hX hbl q mq o g w f a hS (5 * it) hi5 _ _ hc9 hs9 _ hk H locs ls hH hl
        · refine lv_tableIn (off := 173) (tgt := 212) hx hb dL_law_39 (by decide) (by decide) (by decide) (by decide) ?_
          exact law_c1 hst G F hbA hL hX hbl q mq o g w f a hS (5 * it) hi5 _ _ hc9 hs9 _ hk H locs ls hH hl
        · refine lv_tableIn (off := 265) (tgt := 304) hx hb dL_law_39 (by decide) (by decide) (by decide) (by decide) ?_
          exact law_c2 hst G F hbA hL hX hbl q mq o g w f a hS (5 * it) hi5 _ _ hc9 hs9 _ hk H locs ls hH hl
        · refine lv_tableIn (off := 357) (tgt := 396) hx hb dL_law_39 (by decide) (by decide) (by decide) (by decide) ?_
          exact law_c3 hst G F hbA hL hX hbl q mq o g w f a hS (5 * it) hi5 _ _ hc9 hs9 _ hk H locs ls hH hl
        · refine lv_tableIn (off := 425) (tgt := 464) hx hb dL_law_39 (by decide) (by decide) (by decide) (by decide) ?_
          exact law_c4 hst G F hbA hL hX hbl q mq o g w f a hS (5 * it) hi5 _ _ hc9 hs9 _ hk H locs ls hH hl
        · refine lv_tableIn (off := 481) (tgt := 520) hx hb dL_law_39 (by decide) (by decide) (by decide) (by decide) ?_
          exact law_c5 hst G F hbA hL hX hbl q mq o g w f a hS (5 * it) hi5 _ _ hc9 hs9 _ hk H locs ls hH hl
        · refine lv_tableIn (off := 494) (tgt := 533) hx hb dL_law_39 (by decide) (by decide) (by decide) (by decide) ?_
          exact law_c6 hst G F hbA hL hX hbl q mq o g w f a hS (5 * it) hi5 _ _ hc9 hs9 _ hk H locs ls hH hl
        · refine lv_tableIn (off := 562) (tgt := 601) hx hb dL_law_39 (by decide) (by decide) (by decide) (by decide) ?_
          exact law_c7 hst G F hbA hL hX hbl q mq o g w f a hS (5 * it) hi5 _ _ hc9 hs9 _ hk H locs ls hH hl
        · refine lv_tableIn (off := 637) (tgt := 676) hx hb dL_law_39 (by decide) (by decide) (by decide) (by decide) ?_
          exact law_c8 hst G F hbA hL hX hbl q mq o g w f a hS (5 * it) hi5 _ _ hc9 hs9 _ hk H locs ls hH hl
        · refine lv_tableIn (off := 693) (tgt := 732) hx hb dL_law_39 (by decide) (by decide) (by decide) (by decide) ?_
          exact law_c9 hst G F hbA hL hX hbl q mq o g w f a hS (5 * it) hi5 _ _ hc9 hs9 _ hk H locs ls hH hl
        · refine lv_tableIn (off := 706) (tgt := 745) hx hb dL_law_39 (by decide) (by decide) (by decide) (by decide) ?_
          exact law_c10 hst G F hbA hL hX hbl q mq o g w f a hS (5 * it) hi5 _ _ hc9 hs9 _ hk H locs ls hH hl
        · refine lv_tableIn (off := 774) (tgt := 813) hx hb dL_law_39 (by decide) (by decide) (by decide) (by decide) ?_
          exact law_c11 hst G F hbA hL hX hbl q mq o g w f a hS (5 * it) hi5 _ _ hc9 hs9 _ hk H locs ls hH hl
        · refine lv_tableIn (off := 842) (tgt := 881) hx hb dL_law_39 (by decide) (by decide) (by decide) (by decide) ?_
          exact law_c12 hst G F hbA hL hX hbl q mq o g w f a hS (5 * it) hi5 _ _ hc9 hs9 _ hk H locs ls hH hl
        · refine lv_tableIn (off := 898) (tgt := 937) hx hb dL_law_39 (by decide) (by decide) (by decide) (by decide) ?_
          exact law_c13 hst G F hbA hL hX hbl q mq o g w f a hS (5 * it) hi5 _ _ hc9 hs9 _ hk H locs ls hH hl
        · refine lv_tableIn (off := 958) (tgt := 997) hx hb dL_law_39 (by decide) (by decide) (by decide) (by decide) ?_
          exact law_c14 hst G F hbA hL hX hbl q mq o g w f a hS (5 * it) hi5 _ _ hc9 hs9 _ hk H locs ls hH hl
        · refine lv_tableIn (off := 1006) (tgt := 1045) hx hb dL_law_39 (by decide) (by decide) (by decide) (by decide) ?_
          exact law_c15 hst G F hbA hL hX hbl q mq o g w f a hS (5 * it) hi5 _ _ hc9 hs9 _ hk H locs ls hH hl
        · refine lv_tableIn (off := 1062) (tgt := 1101) hx hb dL_law_39 (by decide) (by decide) (by decide) (by decide) ?_
          exact law_c16 hst G F hbA hL hX hbl q mq o g w f a hS (5 * it) hi5 _ _ hc9 hs9 _ hk H locs ls hH hl
        · refine lv_tableIn (off := 1075) (tgt := 1114) hx hb dL_law_39 (by decide) (by decide) (by decide) (by decide) ?_
          exact law_c17 hst G F hbA hL hX hbl q mq o g w f a hS (5 * it) hi5 _ _ hc9 hs9 _ hk H locs ls hH hl
        · refine lv_tableIn (off := 1131) (tgt := 1170) hx hb dL_law_39 (by decide) (by decide) (by decide) (by decide) ?_
          exact law_c18 hst G F hbA hL hX hbl q mq o g w f a hS (5 * it) hi5 _ _ hc9 hs9 _ hk H locs ls hH hl
      · refine lv_tableOut (tgt := 1226) hx hb dL_law_39 (Or.inr (by rw [nI_toInt (by omega)]; omega)) (by decide) ?_
        refine W.widen (k := 100 + 8 * it + 8) (n := 20000 + 1300 * it + 1300) (by omega) (by omega) ?_
        exact hk g w f a hS H locs ls hH hl
set_option maxHeartbeats 4000000 in
theorem whole_start {p : Program} {e : Env} {s : State} {m : MethodId} {below : List Frame} {meth : Method} {c : Code} (l : Launch) (hflags : l.flags = flags0) {b L : Nat} {xs : Nat → Int32} (hL : L ≤ 2560) (C0 : lw_At p s m meth c b L xs) : W p l e room_1 s m #[Value.ref b] below meth c s.heap [] 0 0 (lw_Z below #[Value.ref b] s) (entryFrame m ([Value.ref b] : List Value).toArray 7) := by
  obtain ⟨G, F⟩ := law_F C0
  obtain ⟨hx, hb, hr, hml, hown, hts, hX, hbl, hlocks, hgv⟩ := id C0
  have hst : l.stackTraces = false := by unfold Launch.stackTraces; rw [hflags]; decide
  have hb : c.code = cL_law := hb
  have hH : HH G (fun z => s.heap.size ≤ z) s [] s.heap [] := ⟨fun k q h => by simp at h, ⟨fun i j p q h => by simp at h, fun k q h => by simp at h⟩, va_S.rf⟩
  have hl := lv_entry ([.ref b]) (n := 7) (Nat.le_of_ble_eq_true rfl)
  rw [lg_entry_eq]
  generalize (lg_sl ([.ref b]) ++ List.replicate (7 - (lg_sl ([.ref b])).length) Slot.unset).toArray = ls at hl ⊢
  have hl : lv_has ls 7 [(0, .ref b)] := hl
  refine rnew (C := RX2) (T := TX2) (N := 8) (ci := 2) F inlX2 tyX2 tyX2_ok (by decide +kernel) (by decide +kernel) (by decide +kernel) hH rfl (fs := [.null, .null, .null, .int 0, .int 0, .int 0, .int 0, .int 0]) (fun j hj => by rcases (show j = 0 ∨ j = 1 ∨ j = 2 ∨ j = 3 ∨ j = 4 ∨ j = 5 ∨ j = 6 ∨ j = 7 by omega) with rfl | rfl | rfl | rfl | rfl | rfl | rfl | rfl <;> rfl) (Nat.le_of_ble_eq_true rfl) (Nat.le_of_ble_eq_true rfl) dL_law_0 (fun q2 H hH => ?_)
  have hH : HH G (fun z => s.heap.size ≤ z) s [(q2, .inr (2, [.null, .null, .null, .int 0, .int 0, .int 0, .int 0, .int 0]))] H [] := hH
  refine lv_dup hx hb dL_law_3 rfl ?_
  refine callIV (a := []) (b := []) (rest := [.ref q2]) F (c_X2_init l G q2) gL_law_X2_init rfl (by decide +kernel) (by decide +kernel) (by decide +kernel) rfl hdX2_init ⟨Nat.le_of_ble_eq_true rfl, Nat.le_of_ble_eq_true rfl⟩ hH (by simp) rfl hl.1 (Nat.le_of_ble_eq_true rfl) dL_law_4 ⟨Nat.le_of_ble_eq_true rfl, Nat.le_of_ble_eq_true rfl⟩ rfl (fun u H locs hH2 => ?_)
  rw [List.nil_append, List.append_nil] at hH2
  have hq0 : (va_up u 0 q2) 0 = q2 := va_up_self _ _ _
  generalize va_up u 0 q2 = q at hH2 hq0
  subst hq0
  have hH := hH2
  refine lv_astore_n (lv' := [(1, .ref (q 0)), (0, .ref b)]) hx hb dL_law_7 rfl hl (by decide) rfl (fun ls hl => ?_)
  refine rnew (C := RX3) (T := TX3) (N := 25) (ci := 3) F inlX3 tyX3 tyX3_ok (by decide +kernel) (by decide +kernel) (by decide +kernel) hH rfl (fs := [.int 0, .null, .null, .null, .null, .null, .null, .null, .null, .int 0, .int 0, .null, .null, .null, .null, .null, .int 0, .int 0, .null, .null, .null, .null, .null, .null, .int 0]) (fun j hj => by rcases (show j = 0 ∨ j = 1 ∨ j = 2 ∨ j = 3 ∨ j = 4 ∨ j = 5 ∨ j = 6 ∨ j = 7 ∨ j = 8 ∨ j = 9 ∨ j = 10 ∨ j = 11 ∨ j = 12 ∨ j = 13 ∨ j = 14 ∨ j = 15 ∨ j = 16 ∨ j = 17 ∨ j = 18 ∨ j = 19 ∨ j = 20 ∨ j = 21 ∨ j = 22 ∨ j = 23 ∨ j = 24 by omega) with rfl | rfl | rfl | rfl | rfl | rfl | rfl | rfl | rfl | rfl | rfl | rfl | rfl | rfl | rfl | rfl | rfl | rfl | rfl | rfl | rfl | rfl | rfl | rfl | rfl <;> rfl) (Nat.le_of_ble_eq_true rfl) (Nat.le_of_ble_eq_true rfl) dL_law_8 (fun q3 H hH => ?_)
  refine lv_dup hx hb dL_law_11 rfl ?_
  refine callIV (a := sW G q 0 0 0 50 0 (fun _ => 0) (fun _ _ => 0) (fun _ _ => 0) (fun _ _ _ => 0) (fun _ => 0) (fun _ _ => 0)) (b := []) (rest := [.ref q3]) F (c_X3_init l G q3) gL_law_X3_init rfl (by decide +kernel) (by decide +kernel) (by decide +kernel) rfl hdX3_init ⟨Nat.le_of_ble_eq_true rfl, Nat.le_of_ble_eq_true rfl⟩ hH (by simp) rfl hl.1 (Nat.le_of_ble_eq_true rfl) dL_law_12 ⟨Nat.le_of_ble_eq_true rfl, Nat.le_of_ble_eq_true rfl⟩ rfl (fun u H locs hH2 => ?_)
  rw [List.append_nil] at hH2
  have hq0 : (va_up u 0 q3) 0 = q3 := va_up_self _ _ _
  generalize va_up u 0 q3 = mq at hH2 hq0
  subst hq0
  have hH := hH2
  refine lv_astore_n (lv' := [(2, .ref (mq 0)), (1, .ref (q 0)), (0, .ref b)]) hx hb dL_law_15 rfl hl (by decide) rfl (fun ls hl => ?_)
  refine lv_iconst (v := 1) hx hb dL_law_16 (by decide) ?_
  refine rnewa (atype := .long) F (by decide +kernel) 4 (ty := .long) rfl rfl hH (N' := 1) (a0 := (1, .inr (.inl (fun _ => 0)))) (fun _ => rfl) (by decide) (by decide) (Nat.le_of_ble_eq_true rfl) (Nat.le_of_ble_eq_true rfl) (Nat.le_of_ble_eq_true rfl) dL_law_17 (fun o H hH => ?_)
  refine lv_astore_n (lv' := [(3, .ref o), (2, .ref (mq 0)), (1, .ref (q 0)), (0, .ref b)]) hx hb dL_law_19 rfl hl (by decide) rfl (fun ls hl => ?_)
  refine lv_iconst (v := 0) hx hb dL_law_20 (by decide) ?_
  refine lv_istore (lv' := [(4, .int 0), (3, .ref o), (2, .ref (mq 0)), (1, .ref (q 0)), (0, .ref b)]) hx hb dL_law_21 hl (by decide) rfl (fun ls hl => ?_)
  refine W.widen (k := 100 + 8 * 0) (n := 20000 + 1300 * 0) (Nat.le_of_ble_eq_true rfl) (Nat.le_of_ble_eq_true rfl) ?_
  exact law_loop hst G F hr hL hX hbl q mq o 513 0 rfl (Nat.zero_le L) (fun _ => 0) _ _ _ ⟨0, 0, 0, 50, 0, _, _, _, _, _, _, rfl, Rel0⟩ H _ ls hH.swap (lv_sub hl [0, 4, 3, 2, 1] rfl)
