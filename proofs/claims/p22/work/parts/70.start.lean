theorem hdX2_init : yX2_init.cls ≠ "java/lang/invoke/MethodHandle" ∧ yX2_init.cls ≠ "java/lang/invoke/VarHandle" ∧ (parseMethodDescriptor yX2_init.desc).map (fun d => d.parameters.length) = some 0 := by decide +kernel
/-! the law's entry -/
theorem evL_in : ∀ w ∈ evL, w ∈ lw_tbl := by decide +kernel
theorem exW_in : ∀ w ∈ exW, w ∈ lw_tbl := by decide +kernel
theorem ncL_in : ∀ z ∈ ncL, Cond.not (.castable z.1 z.2) ∈ flatC (Jvm.Cond.and given_1 narrow_1) := by decide +kernel
theorem law_ty {U : State} {args : Array Value} {type : FieldType} (h : (Cond.arrayClass type).before args U = true) (hr : ∀ cA, U.vm.findClass ("[" ++ type.toString) = some cA → va_RA U cA type) : ∃ cA, ArrOfT U cA type ∧ va_RA U cA type := by
  obtain ⟨cA, kA, comp, h1, h2, h3⟩ := Cond.arrayClass_spec (type := type) h
  exact ⟨cA, fun n z => ⟨fun k h => (by cases h), kA, h2, comp, h3⟩, hr cA h1⟩
theorem law_tyO {U : State} {args : Array Value} {n : String} (h : (Cond.arrayOver (.object n)).before args U = true) : ∃ cA, ArrOfT U cA (.object n) ∧ va_RA U cA (.object n) := by
  obtain ⟨comp, cA, kA, h1, -, h2, h3, h4⟩ := Cond.arrayOver_spec (n := n) h
  exact ⟨cA, fun n z => ⟨fun k h => (by cases h), kA, h2, comp, h3⟩, kA, comp, h2, h3, h1, h4⟩
theorem law_F {p : Program} {s : State} {m : MethodId} {meth : Method} {c : Code} {b L : Nat} {xs : Nat → Int32} (C0 : lw_At p s m meth c b L xs) : ∃ G : Gx, Fx G p s m #[.ref b] meth c cL_law 13 wsL_law RL (fun z => s.heap.size ≤ z) := by
  obtain ⟨hx, hb, hr, hml, hown, hts, hX, hbl, hlocks, hgv⟩ := id C0
  have hfl := flat_of_before _ hgv
  obtain ⟨c0, i0, k0⟩ := u_known (C := RX0) (T := TX0) (N := 4) (n := 4) hts inX0 (hts (.instantiable RX0 4) (by decide +kernel))
  obtain ⟨c1, i1, k1⟩ := u_known (C := RX1) (T := TX1) (N := 12) (n := 12) hts inX1 (hts (.instantiable RX1 12) (by decide +kernel))
  obtain ⟨c2, i2, k2⟩ := u_known (C := RX2) (T := TX2) (N := 8) (n := 8) hts inX2 (hts (.instantiable RX2 8) (by decide +kernel))
  obtain ⟨a0, e0⟩ := law_ty (type := .int) (hts (.arrayClass .int) (by decide +kernel)) (fun _ h => h)
  obtain ⟨a1, e1⟩ := law_ty (type := .boolean) (hts (.arrayClass .boolean) (by decide +kernel)) (fun _ h => h)
  obtain ⟨a2, e2⟩ := law_tyO (n := RX1) (hts (.arrayOver (.object RX1)) (by decide +kernel))
  obtain ⟨a3, e3⟩ := law_tyO (n := RX0) (hts (.arrayOver (.object RX0)) (by decide +kernel))
  refine ⟨((fun k => if k = 0 then c0 else if k = 1 then c1 else c2, fun k => if k = 0 then i0 else if k = 1 then i1 else i2), fun k => if k = 0 then a0 else if k = 1 then a1 else if k = 2 then a2 else a3), ⟨hx, hb, hml, hown, fun w hw => hts w (wsL_law_in w hw)⟩, hlocks, ⟨?_, ?_⟩, ⟨?_, ?_, ?_, ?_, ?_⟩, ⟨?_, ?_⟩, fun _ h => h⟩
  · intro k q hq
    match k, hq with
    | 0, hq => cases hq; exact k0
    | 1, hq => cases hq; exact k1
    | 2, hq => cases hq; exact k2
    | k + 3, hq => simp [vwCl] at hq
  · intro k q hq
    match k, hq with
    | 0, hq => cases hq; exact e0
    | 1, hq => cases hq; exact e1
    | 2, hq => cases hq; exact e2
    | 3, hq => cases hq; exact e3
    | k + 4, hq => simp [tyL] at hq
  · exact fun w hw => va_Nw.of (evL_ot w hw) (hts w (evL_in w hw))
  · exact va_AO.of (hts (.arrayOver (.object RX1)) (by decide +kernel))
  · exact va_AO.of (hts (.arrayOver (.object RX0)) (by decide +kernel))
  · exact fun w hw => va_tabs (exW_ok w hw).2 rfl (hts w (exW_in w hw))
  · exact fun z hz => va_Nc.of (hfl _ (ncL_in z hz))
  · exact vx_Zqof (hts (.laysStatic Bundle.tN "UNASSIGNED_STACK" Bundle.steD) (by decide +kernel)) (hts (.initialized Bundle.tN) (by decide +kernel)) (hfl (.isRef (.static Bundle.tN "UNASSIGNED_STACK" Bundle.steD)) (by decide +kernel)) (fun _ h => Nat.not_le.mpr h)
  · exact vx_Zqof (hts (.laysStatic Bundle.tN "SUPPRESSED_SENTINEL" Bundle.listD) (by decide +kernel)) (hts (.initialized Bundle.tN) (by decide +kernel)) (hfl (.isRef (.static Bundle.tN "SUPPRESSED_SENTINEL" Bundle.listD)) (by decide +kernel)) (fun _ h => Nat.not_le.mpr h)
set_option maxHeartbeats 8000000 in
set_option maxRecDepth 100000 in
theorem whole_start {p : Program} {e : Env} {s : State} {m : MethodId} {below : List Frame} {meth : Method} {c : Code} (l : Launch) (hflags : l.flags = flags0) {b L : Nat} {xs : Nat → Int32} (hL : L ≤ 260) (C0 : lw_At p s m meth c b L xs) : W p l e room_1 s m #[Value.ref b] below meth c s.heap [] 0 0 (lw_Z below #[Value.ref b] s) (entryFrame m ([Value.ref b] : List Value).toArray 13) := by
  obtain ⟨G, F⟩ := law_F C0
  obtain ⟨hx, hb, hr, hml, hown, hts, hX, hbl, hlocks, hgv⟩ := id C0
  have hst : l.stackTraces = false := by unfold Launch.stackTraces; rw [hflags]; decide
  have hb : c.code = cL_law := hb
  have hbA : ¬ (fun z : Nat => s.heap.size ≤ z) b := Nat.not_le.mpr hbl
  have hH : HH G (fun z => s.heap.size ≤ z) s [] s.heap [] := ⟨fun k q h => by simp at h, ⟨fun i j p q h => by simp at h, fun k q h => by simp at h⟩, va_S.rf⟩
  have hl := lv_entry ([.ref b]) (n := 13) (Nat.le_of_ble_eq_true rfl)
  rw [lg_entry_eq]
  generalize (lg_sl ([.ref b]) ++ List.replicate (13 - (lg_sl ([.ref b])).length) Slot.unset).toArray = ls at hl ⊢
  have hl : lv_has ls 13 [(0, .ref b)] := hl
  refine rnew (C := RX2) (T := TX2) (N := 8) (ci := 2) F inlX2 tyX2 tyX2_ok (by decide +kernel) (by decide +kernel) (by decide +kernel) hH rfl (fs := [.null, .null, .null, .int 0, .int 0, .int 0, .int 0, .int 0]) (fun j hj => by rcases (show j = 0 ∨ j = 1 ∨ j = 2 ∨ j = 3 ∨ j = 4 ∨ j = 5 ∨ j = 6 ∨ j = 7 by omega) with rfl | rfl | rfl | rfl | rfl | rfl | rfl | rfl <;> rfl) (Nat.le_of_ble_eq_true rfl) (Nat.le_of_ble_eq_true rfl) dL_law_0 (fun q2 H hH => ?_)
  have hH : HH G (fun z => s.heap.size ≤ z) s [(q2, .inr (2, [.null, .null, .null, .int 0, .int 0, .int 0, .int 0, .int 0]))] H [] := hH
  refine lv_dup hx hb dL_law_3 rfl ?_
  refine callIV (a := []) (b := []) (rest := [.ref q2]) F (c_X2_init l G q2) gL_law_X2_init rfl (by decide +kernel) (by decide +kernel) (by decide +kernel) rfl hdX2_init ⟨Nat.le_of_ble_eq_true rfl, Nat.le_of_ble_eq_true rfl⟩ hH (by simp) rfl hl.1 (Nat.le_of_ble_eq_true rfl) dL_law_4 ⟨Nat.le_of_ble_eq_true rfl, Nat.le_of_ble_eq_true rfl⟩ rfl (fun u H locs hH2 => ?_)
  rw [List.nil_append, List.append_nil] at hH2
  have hq0 : (va_up u 0 q2) 0 = q2 := va_up_self _ _ _
  generalize va_up u 0 q2 = q at hH2 hq0
  subst hq0
  have hH := hH2
  refine lv_astore_n (lv' := [(1, .ref (q 0)), (0, .ref b)]) hx hb dL_law_7 rfl hl (by decide) rfl (fun ls hl => ?_)
  refine lv_iconst (v := 1) hx hb dL_law_8 (by decide) ?_
  refine rnewa (atype := .int) F (by decide +kernel) 0 (ty := .int) rfl rfl hH (N' := 1) (a0 := (1, .inl (fun _ => 0))) (fun _ => rfl) (by decide) (by decide) (Nat.le_of_ble_eq_true rfl) (Nat.le_of_ble_eq_true rfl) (Nat.le_of_ble_eq_true rfl) dL_law_9 (fun o H hH => ?_)
  have hH : HH G (fun z => s.heap.size ≤ z) s (sW G q 0 0 0 50 0 (fun _ => 0) (fun _ _ => 0) (fun _ _ => 0) (fun _ _ _ => 0) (fun _ => 0) (fun _ _ => 0) ++ gC G o (fun _ => 0)) H locs := hH
  refine W.widen (k := 10) (n := 300) (Nat.le_of_ble_eq_true rfl) (Nat.le_of_ble_eq_true rfl) ?_
  refine lv_astore_n (lv' := [(2, .ref o), (1, .ref (q 0)), (0, .ref b)]) hx hb dL_law_11 rfl hl (by decide) rfl (fun ls hl => ?_)
  refine lv_aload_n hx hb dL_law_12 rfl (lv_at hl 1 rfl) ?_
  refine callSL (rest := []) F (c_all l G q 0 0 0 50 0 (fun _ => 0) (fun _ _ => 0) (fun _ _ => 0) (fun _ _ _ => 0) (fun _ => 0) (fun _ _ => 0) (by omega)) gL_law_L_all rfl hdL_all ⟨Nat.le_of_ble_eq_true rfl, Nat.le_of_ble_eq_true rfl⟩ ([] : va_W) (gC G o (fun _ => 0)) hH (by simp only [List.nil_append, List.append_nil]) rfl hl.1 (Nat.le_of_ble_eq_true rfl) dL_law_13 ⟨(Nat.le_of_ble_eq_true rfl), (Nat.le_of_ble_eq_true rfl)⟩ rfl (fun H locs hH => ?_)
  refine lv_aload_n hx hb dL_law_16 rfl (lv_at hl 1 rfl) ?_
  refine callSL (rest := [.long (allS 0 0 0 (fun _ _ => 0) (fun _ _ _ => 0))]) F (c_all l G q 0 0 0 50 0 (fun _ => 0) (fun _ _ => 0) (fun _ _ => 0) (fun _ _ _ => 0) (fun _ => 0) (fun _ _ => 0) (by omega)) gL_law_L_all rfl hdL_all ⟨Nat.le_of_ble_eq_true rfl, Nat.le_of_ble_eq_true rfl⟩ ([] : va_W) (gC G o (fun _ => 0)) hH (by simp only [List.nil_append, List.append_nil]) rfl hl.1 (Nat.le_of_ble_eq_true rfl) dL_law_17 ⟨(Nat.le_of_ble_eq_true rfl), (Nat.le_of_ble_eq_true rfl)⟩ rfl (fun H locs hH => ?_)
  refine W.lcmp hx hb dL_law_20 ?_
  refine lv_if_ne (tgt := 46) hx hb dL_law_21 (by decide) (fun c_21 => absurd (lg_self _) c_21) (fun c_21 => ?_)
  refine lv_aload_n hx hb dL_law_24 rfl (lv_at hl 1 rfl) ?_
  refine callSI (rest := []) F (c_kept l hst G q 0 0 0 50 0 (fun _ => 0) (fun _ _ => 0) (fun _ _ => 0) (fun _ _ _ => 0) (fun _ => 0) (fun _ _ => 0) IN_0) gL_law_L_kept rfl hdL_kept ⟨Nat.le_of_ble_eq_true rfl, Nat.le_of_ble_eq_true rfl⟩ ([] : va_W) (gC G o (fun _ => 0)) hH (by simp only [List.nil_append, List.append_nil]) rfl hl.1 (Nat.le_of_ble_eq_true rfl) dL_law_25 ⟨(Nat.le_of_ble_eq_true rfl), (Nat.le_of_ble_eq_true rfl)⟩ rfl (fun u H locs hH => ?_)
  rw [List.nil_append] at hH
  have hH : HH G (fun z => s.heap.size ≤ z) s (sW G q 0 0 0 50 0 (fun _ => 0) (fun _ _ => 0) (fun _ _ => 0) (fun _ _ _ => 0) (fun _ => 0) (fun _ _ => 0) ++ gC G o (fun _ => 0)) H locs := hH
  refine lv_if_eq (tgt := 46) hx hb dL_law_28 (by decide) (fun c_28 => absurd c_28 (by decide)) (fun c_28 => ?_)
  refine lv_aload_n hx hb dL_law_31 rfl (lv_at hl 1 rfl) ?_
  refine lv_bipush (v := 50) hx hb dL_law_32 (by decide) ?_
  refine callVI (rest := []) F (c_X2_setFloor_1 l G q 0 0 0 50 0 (fun _ => 0) (fun _ _ => 0) (fun _ _ => 0) (fun _ _ _ => 0) (fun _ => 0) (fun _ _ => 0) 50 (by decide) (by decide)) gL_law_X2_setFloor rfl hdX2_setFloor ⟨Nat.le_of_ble_eq_true rfl, Nat.le_of_ble_eq_true rfl⟩ ([] : va_W) (gC G o (fun _ => 0)) hH (by simp only [List.nil_append, List.append_nil]) ⟨0, 2, _, _, rfl, rfl, rfl⟩ rfl hl.1 (Nat.le_of_ble_eq_true rfl) dL_law_34 ⟨(Nat.le_of_ble_eq_true rfl), (Nat.le_of_ble_eq_true rfl)⟩ rfl (fun u H locs hH => ?_)
  rw [List.nil_append] at hH
  have hH : HH G (fun z => s.heap.size ≤ z) s (sW G q 0 0 0 50 0 (fun _ => 0) (fun _ _ => 0) (fun _ _ => 0) (fun _ _ _ => 0) (fun _ => 0) (fun _ _ => 0) ++ gC G o (fun _ => 0)) H locs := hH
  refine lv_bipush (v := 50) hx hb dL_law_37 (by decide) ?_
  refine lv_icmp_ne (tgt := 46) hx hb dL_law_39 (by decide) (fun c_39 => absurd rfl c_39) (fun c_39 => ?_)
  refine lv_iconst (v := 1) hx hb dL_law_42 (by decide) ?_
  refine lv_goto (tgt := 47) hx hb dL_law_43 (by decide) ?_
  refine lv_istore_n (lv' := [(3, .int 1), (2, .ref o), (1, .ref (q 0)), (0, .ref b)]) hx hb dL_law_47 rfl hl (by decide) rfl (fun ls hl => ?_)
  refine lv_bipush (v := 50) hx hb dL_law_48 (by decide) ?_
  refine lv_istore (lv' := [(4, .int 50), (3, .int 1), (2, .ref o), (1, .ref (q 0)), (0, .ref b)]) hx hb dL_law_50 hl (by decide) rfl (fun ls hl => ?_)
  refine lv_iconst (v := 0) hx hb dL_law_52 (by decide) ?_
  refine lv_istore (lv' := [(5, .int 0), (4, .int 50), (3, .int 1), (2, .ref o), (1, .ref (q 0)), (0, .ref b)]) hx hb dL_law_53 hl (by decide) rfl (fun ls hl => ?_)
  refine W.widen (k := 100 + 60 * 0) (n := 2000 + 1500 * 0) (Nat.le_of_ble_eq_true rfl) (Nat.le_of_ble_eq_true rfl) ?_
  exact law_run hst G _ F hr hL hX hbl hbA (fun _ h => h) q o 90 0 0 50 _ (fun _ => 0) rfl ⟨0, 0, 0, (fun _ => 0), (fun _ _ => 0), (fun _ _ => 0), (fun _ _ _ => 0), (fun _ => 0), (fun _ _ => 0), rfl, IN_0⟩ rfl H _ ls hH (lv_sub hl [0, 1, 2, 3, 4, 5] rfl)
